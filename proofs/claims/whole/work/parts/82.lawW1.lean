set_option maxHeartbeats 4000000 in
set_option maxRecDepth 100000 in
theorem kL_append (l : Launch) (D : va_G) (cI cC cZ cQ cJ : ClassId) (t lo q o : Nat) (G : GSt) (f : Nat → Int64) (p0 : Int32) (ho : q + 201 ≤ o) (hlo : lo ≤ q) (hlS : l.stackTraces = false) {R : Nat × Int32 × GSt} (h : fX4_append G p0 = some R) (hc : R.1 = 0 ∨ R.1 = 1 ∨ R.1 = 2) : Met l yL_append wsL_append ({ frames := 7, cells := 1, slots := 6, locals := 103 } : Room) (va_Pc [.ref q, .int p0, .ref o] (gBw D (gTy cI cC cZ cQ cJ) t lo (va_P D vwCl (GWO cI cC cZ cQ cJ q o G f)))) (va_Qi (fun r (_ : Unit) => r = gm 1 2 R.1) (fun _ t => va_P D vwCl (GWO cI cC cZ cQ cJ q o R.2.2 (if R.1 = 0 then vp_updL f 0 R.2.1.toInt64 else f)) t.heap) (gOr (fIv q 201) (fIv o 1))) 1 6 (gOr (fIv q 201) (fIv o 1)) := by
  refine gMet_ofWH (cc := cL_append) (maxL := 4) (ret := (some .int)) (hh := [(0, 9, 12, 13), (0, 9, 15, 15)]) (by decide) rfl ?_
  intro p e s m args below meth c s₁ B hml hv
  obtain ⟨rfl, ⟨hP, hK⟩, hE⟩ := hv
  have hx := B.exec
  have hb := B.bytes
  have hr := B.returns
  have hts := atoms_spec (ws := wsL_append) B.pre
  have hown : s.vm.findClass RL = some m.cls := findClass_of_methodNamed B.named
  have hlocks := B.notSynchronized
  have htb : c.exceptionTable.toList = tableOf [(0, 9, 12, 13), (0, 9, 15, 15)] := vx_table (x := yL_append) B (hts (.codeWith yL_append cL_append 4 (some .int) [(0, 9, 12, 13), (0, 9, 15, 15)]) (by decide +kernel))
  have hl := lv_entry ([.ref q, .int p0, .ref o]) (n := 4) (Nat.le_of_ble_eq_true rfl)
  rw [lg_entry_eq]
  generalize (lg_sl ([.ref q, .int p0, .ref o]) ++ List.replicate (4 - (lg_sl ([.ref q, .int p0, .ref o])).length) Slot.unset).toArray = ls at hl ⊢
  have hl : lv_has ls 4 [(0, .ref q), (1, .int p0), (2, .ref o)] := hl
  have hS : va_S (gOr (fIv q 201) (fIv o 1)) s.heap s.heap [] := va_S.rf
  refine lv_aload_n hx hb dL_append_0 rfl (lv_at hl 2 rfl) ?_
  refine lv_iconst (v := 0) hx hb dL_append_1 (by decide) ?_
  refine lv_aload_n hx hb dL_append_2 rfl (lv_at hl 0 rfl) ?_
  refine lv_iload_n hx hb dL_append_3 rfl (lv_at hl 1 rfl) ?_
  refine vx_calli (vx_runV (As := [.int p0]) (rest := [.int 0, .ref o]) ⟨hx, hb, hml, hown, hts⟩ (kX4_append l D cI cC cZ cQ cJ t lo q G p0 hlo hlS h) (cwV 1 hts gL_append_X4_append rfl rfl rfl (by decide +kernel) ⟨Nat.le_of_ble_eq_true rfl, Nat.le_of_ble_eq_true rfl⟩) ⟨gBe_blind, va_recv hK (gL (w1 := GW cI cC cZ cQ q G) hP) (ci := 4) (q0 := 0) rfl rfl, fun U hU hW => ⟨rfl, ⟨by rw [hU]; exact gL (w1 := GW cI cC cZ cQ q G) hP, va_K.moved hW.alike hK⟩, by rw [hU]; exact hE.1.warm hW⟩⟩ rfl rfl hl.1 rfl (lv_room (Nat.le_of_ble_eq_true rfl)) dL_append_4 ⟨Nat.le_of_ble_eq_true rfl, Nat.le_of_ble_eq_true rfl⟩) hS (fun q9 _ h9 => Or.inl h9) (fun q9 h9 => Or.inl h9) (fun q9 _ h9 => Or.inl h9) (fun E ce q9 u t9 H1 locs ht hvm hu hBX hz hk1 hS hce hcv hcl => ?_) (fun r u t9 H1 locs ht hvm hw hB hz hk1 hS => ?_)
  · obtain ⟨hEq, hne, hB⟩ := hBX
    rw [ht] at hB
    have hP := GWO_put ho hP hB hk1
    rcases hc with hc | hc | hc
    · exact absurd hc hne
    · have hEq : E = gIAE := by rw [hEq, hc]; rfl
      subst hEq
      refine vx_catch (name := gIAE) hown [] ⟨0, 9, 12, 13⟩ [⟨0, 9, 15, 15⟩] (by rw [htb]; rfl) (fun z9 hz9 => nomatch hz9) (by decide) (by decide) (hts (.classLink RL 13 gIAE) (by decide +kernel)) (va_Nw.use rfl (hE.1.2.2.2.2.1 gIAE (by decide +kernel))) hce hcv hcl ?_
      refine lv_astore_n (lv' := [(3, .ref q9), (0, .ref q), (1, .int p0), (2, .ref o)]) hx hb dL_append_12 rfl hl (by decide) rfl (fun ls hl => ?_)
      refine lv_iconst (v := 1) hx hb dL_append_13 (by decide) ?_
      exact W.iret (v := 1) hx hb hr (fun t ht hW => ⟨⟨_, (), rfl, by rw [hc]; rfl, by show va_P D vwCl _ t.heap; rw [if_neg hne, ht]; exact hP⟩, hS.F ht⟩) hS.2.2 dL_append_14
    · have hEq : E = gISE := by rw [hEq, hc]; rfl
      subst hEq
      refine vx_catch (name := gISE) hown [⟨0, 9, 12, 13⟩] ⟨0, 9, 15, 15⟩ [] (by rw [htb]; rfl) (fun z9 hz9 => by rw [List.mem_singleton.mp hz9]; exact Or.inr ⟨by decide, gIAE, hts (.classLink RL 13 gIAE) (by decide +kernel), hE.2 (gISE, gIAE) (by decide +kernel)⟩) (by decide) (by decide) (hts (.classLink RL 15 gISE) (by decide +kernel)) (va_Nw.use rfl (hE.1.2.2.2.2.1 gISE (by decide +kernel))) hce hcv hcl ?_
      refine lv_astore_n (lv' := [(3, .ref q9), (0, .ref q), (1, .int p0), (2, .ref o)]) hx hb dL_append_15 rfl hl (by decide) rfl (fun ls hl => ?_)
      refine lv_iconst (v := 2) hx hb dL_append_16 (by decide) ?_
      exact W.iret (v := 2) hx hb hr (fun t ht hW => ⟨⟨_, (), rfl, by rw [hc]; rfl, by show va_P D vwCl _ t.heap; rw [if_neg hne, ht]; exact hP⟩, hS.F ht⟩) hS.2.2 dL_append_17
  · obtain ⟨hw0, rfl⟩ := hw
    rw [ht] at hB
    have hP := GWO_put ho hP hB hk1
    generalize H1 = H at hP hS ⊢
    refine lv_i2l hx hb dL_append_7 rfl ?_
    refine va_last (f := f) (i := 0) hx hb hK hP (GWO_self ho) hS 201 4 GWO_at rfl (vin_lit rfl) dL_append_8 (fun H locs hP _ hS => ?_)
    rw [GWO_set] at hP
    refine lv_goto (tgt := 18) hx hb dL_append_9 (by decide) ?_
    refine lv_iconst (v := 0) hx hb dL_append_18 (by decide) ?_
    exact W.iret (v := 0) hx hb hr (fun t ht hW => ⟨⟨_, (), rfl, by rw [hw0]; rfl, by show va_P D vwCl _ t.heap; rw [if_pos hw0, ht]; exact hP⟩, hS.F ht⟩) hS.2.2 dL_append_19
set_option maxHeartbeats 4000000 in
set_option maxRecDepth 100000 in
theorem kL_load (l : Launch) (D : va_G) (cI cC cZ cQ cJ : ClassId) (t lo q o : Nat) (G : GSt) (f : Nat → Int64) (ho : q + 201 ≤ o) (hlo : lo ≤ q) (hlS : l.stackTraces = false) {R : Nat × Int32 × GSt} (h : fX4_load G = some R) (hc : R.1 = 0 ∨ R.1 = 2) : Met l yL_load wsL_load ({ frames := 7, cells := 1, slots := 6, locals := 164 } : Room) (va_Pc [.ref q, .ref o] (gBw D (gTy cI cC cZ cQ cJ) t lo (va_P D vwCl (GWO cI cC cZ cQ cJ q o G f)))) (va_Qi (fun r (_ : Unit) => r = gm 2 9 R.1) (fun _ t => va_P D vwCl (GWO cI cC cZ cQ cJ q o R.2.2 (if R.1 = 0 then vp_updL f 0 R.2.1.toInt64 else f)) t.heap) (gOr (fIv q 201) (fIv o 1))) 1 6 (gOr (fIv q 201) (fIv o 1)) := by
  refine gMet_ofWH (cc := cL_load) (maxL := 3) (ret := (some .int)) (hh := [(0, 8, 11, 15)]) (by decide) rfl ?_
  intro p e s m args below meth c s₁ B hml hv
  obtain ⟨rfl, ⟨hP, hK⟩, hE⟩ := hv
  have hx := B.exec
  have hb := B.bytes
  have hr := B.returns
  have hts := atoms_spec (ws := wsL_load) B.pre
  have hown : s.vm.findClass RL = some m.cls := findClass_of_methodNamed B.named
  have hlocks := B.notSynchronized
  have htb : c.exceptionTable.toList = tableOf [(0, 8, 11, 15)] := vx_table (x := yL_load) B (hts (.codeWith yL_load cL_load 3 (some .int) [(0, 8, 11, 15)]) (by decide +kernel))
  have hl := lv_entry ([.ref q, .ref o]) (n := 3) (Nat.le_of_ble_eq_true rfl)
  rw [lg_entry_eq]
  generalize (lg_sl ([.ref q, .ref o]) ++ List.replicate (3 - (lg_sl ([.ref q, .ref o])).length) Slot.unset).toArray = ls at hl ⊢
  have hl : lv_has ls 3 [(0, .ref q), (1, .ref o)] := hl
  have hS : va_S (gOr (fIv q 201) (fIv o 1)) s.heap s.heap [] := va_S.rf
  refine lv_aload_n hx hb dL_load_0 rfl (lv_at hl 1 rfl) ?_
  refine lv_iconst (v := 0) hx hb dL_load_1 (by decide) ?_
  refine lv_aload_n hx hb dL_load_2 rfl (lv_at hl 0 rfl) ?_
  refine vx_calli (vx_runV (As := []) (rest := [.int 0, .ref o]) ⟨hx, hb, hml, hown, hts⟩ (kX4_load l D cI cC cZ cQ cJ t lo q G hlo hlS h) (cwV 0 hts gL_load_X4_load rfl rfl rfl (by decide +kernel) ⟨Nat.le_of_ble_eq_true rfl, Nat.le_of_ble_eq_true rfl⟩) ⟨gBe_blind, va_recv hK (gL (w1 := GW cI cC cZ cQ q G) hP) (ci := 4) (q0 := 0) rfl rfl, fun U hU hW => ⟨rfl, ⟨by rw [hU]; exact gL (w1 := GW cI cC cZ cQ q G) hP, va_K.moved hW.alike hK⟩, by rw [hU]; exact hE.1.warm hW⟩⟩ rfl rfl hl.1 rfl (lv_room (Nat.le_of_ble_eq_true rfl)) dL_load_3 ⟨Nat.le_of_ble_eq_true rfl, Nat.le_of_ble_eq_true rfl⟩) hS (fun q9 _ h9 => Or.inl h9) (fun q9 h9 => Or.inl h9) (fun q9 _ h9 => Or.inl h9) (fun E ce q9 u t9 H1 locs ht hvm hu hBX hz hk1 hS hce hcv hcl => ?_) (fun r u t9 H1 locs ht hvm hw hB hz hk1 hS => ?_)
  · obtain ⟨hEq, hne, hB⟩ := hBX
    rw [ht] at hB
    have hP := GWO_put ho hP hB hk1
    rcases hc with hc | hc
    · exact absurd hc hne
    · have hEq : E = gISE := by rw [hEq, hc]; rfl
      subst hEq
      refine vx_catch (name := gISE) hown [] ⟨0, 8, 11, 15⟩ [] (by rw [htb]; rfl) (fun z9 hz9 => nomatch hz9) (by decide) (by decide) (hts (.classLink RL 15 gISE) (by decide +kernel)) (va_Nw.use rfl (hE.1.2.2.2.2.1 gISE (by decide +kernel))) hce hcv hcl ?_
      refine lv_astore_n (lv' := [(2, .ref q9), (0, .ref q), (1, .ref o)]) hx hb dL_load_11 rfl hl (by decide) rfl (fun ls hl => ?_)
      refine lv_iconst (v := 1) hx hb dL_load_12 (by decide) ?_
      exact W.iret (v := 1) hx hb hr (fun t ht hW => ⟨⟨_, (), rfl, by rw [hc]; rfl, by show va_P D vwCl _ t.heap; rw [if_neg hne, ht]; exact hP⟩, hS.F ht⟩) hS.2.2 dL_load_13
  · obtain ⟨hw0, rfl⟩ := hw
    rw [ht] at hB
    have hP := GWO_put ho hP hB hk1
    generalize H1 = H at hP hS ⊢
    refine lv_i2l hx hb dL_load_6 rfl ?_
    refine va_last (f := f) (i := 0) hx hb hK hP (GWO_self ho) hS 201 4 GWO_at rfl (vin_lit rfl) dL_load_7 (fun H locs hP _ hS => ?_)
    rw [GWO_set] at hP
    refine lv_goto (tgt := 14) hx hb dL_load_8 (by decide) ?_
    refine lv_iconst (v := 0) hx hb dL_load_14 (by decide) ?_
    exact W.iret (v := 0) hx hb hr (fun t ht hW => ⟨⟨_, (), rfl, by rw [hw0]; rfl, by show va_P D vwCl _ t.heap; rw [if_pos hw0, ht]; exact hP⟩, hS.F ht⟩) hS.2.2 dL_load_15
set_option maxHeartbeats 4000000 in
set_option maxRecDepth 100000 in
theorem kL_about (l : Launch) (D : va_G) (cI cC cZ cQ cJ : ClassId) (t lo q o : Nat) (G : GSt) (f : Nat → Int64) (p0 : Int32) (ho : q + 201 ≤ o) (hlo : lo ≤ q) (hlS : l.stackTraces = false) {R : Nat × Int32 × GSt} (h : fX4_about G p0 = some R) (hc : R.1 = 0 ∨ R.1 = 1) : Met l yL_about wsL_about ({ frames := 7, cells := 1, slots := 6, locals := 103 } : Room) (va_Pc [.ref q, .int p0, .ref o] (gBw D (gTy cI cC cZ cQ cJ) t lo (va_P D vwCl (GWO cI cC cZ cQ cJ q o G f)))) (va_Qi (fun r (_ : Unit) => r = gm 1 9 R.1) (fun _ t => va_P D vwCl (GWO cI cC cZ cQ cJ q o R.2.2 (if R.1 = 0 then vp_updL f 0 R.2.1.toInt64 else f)) t.heap) (gOr (fIv q 201) (fIv o 1))) 1 6 (gOr (fIv q 201) (fIv o 1)) := by
  refine gMet_ofWH (cc := cL_about) (maxL := 4) (ret := (some .int)) (hh := [(0, 9, 12, 13)]) (by decide) rfl ?_
  intro p e s m args below meth c s₁ B hml hv
  obtain ⟨rfl, ⟨hP, hK⟩, hE⟩ := hv
  have hx := B.exec
  have hb := B.bytes
  have hr := B.returns
  have hts := atoms_spec (ws := wsL_about) B.pre
  have hown : s.vm.findClass RL = some m.cls := findClass_of_methodNamed B.named
  have hlocks := B.notSynchronized
  have htb : c.exceptionTable.toList = tableOf [(0, 9, 12, 13)] := vx_table (x := yL_about) B (hts (.codeWith yL_about cL_about 4 (some .int) [(0, 9, 12, 13)]) (by decide +kernel))
  have hl := lv_entry ([.ref q, .int p0, .ref o]) (n := 4) (Nat.le_of_ble_eq_true rfl)
  rw [lg_entry_eq]
  generalize (lg_sl ([.ref q, .int p0, .ref o]) ++ List.replicate (4 - (lg_sl ([.ref q, .int p0, .ref o])).length) Slot.unset).toArray = ls at hl ⊢
  have hl : lv_has ls 4 [(0, .ref q), (1, .int p0), (2, .ref o)] := hl
  have hS : va_S (gOr (fIv q 201) (fIv o 1)) s.heap s.heap [] := va_S.rf
  refine lv_aload_n hx hb dL_about_0 rfl (lv_at hl 2 rfl) ?_
  refine lv_iconst (v := 0) hx hb dL_about_1 (by decide) ?_
  refine lv_aload_n hx hb dL_about_2 rfl (lv_at hl 0 rfl) ?_
  refine lv_iload_n hx hb dL_about_3 rfl (lv_at hl 1 rfl) ?_
  refine vx_calli (vx_runV (As := [.int p0]) (rest := [.int 0, .ref o]) ⟨hx, hb, hml, hown, hts⟩ (kX4_about l D cI cC cZ cQ cJ t lo q G p0 hlo hlS h) (cwV 1 hts gL_about_X4_about rfl rfl rfl (by decide +kernel) ⟨Nat.le_of_ble_eq_true rfl, Nat.le_of_ble_eq_true rfl⟩) ⟨gBe_blind, va_recv hK (gL (w1 := GW cI cC cZ cQ q G) hP) (ci := 4) (q0 := 0) rfl rfl, fun U hU hW => ⟨rfl, ⟨by rw [hU]; exact gL (w1 := GW cI cC cZ cQ q G) hP, va_K.moved hW.alike hK⟩, by rw [hU]; exact hE.1.warm hW⟩⟩ rfl rfl hl.1 rfl (lv_room (Nat.le_of_ble_eq_true rfl)) dL_about_4 ⟨Nat.le_of_ble_eq_true rfl, Nat.le_of_ble_eq_true rfl⟩) hS (fun q9 _ h9 => Or.inl h9) (fun q9 h9 => Or.inl h9) (fun q9 _ h9 => Or.inl h9) (fun E ce q9 u t9 H1 locs ht hvm hu hBX hz hk1 hS hce hcv hcl => ?_) (fun r u t9 H1 locs ht hvm hw hB hz hk1 hS => ?_)
  · obtain ⟨hEq, hne, hB⟩ := hBX
    rw [ht] at hB
    have hP := GWO_put ho hP hB hk1
    rcases hc with hc | hc
    · exact absurd hc hne
    · have hEq : E = gIAE := by rw [hEq, hc]; rfl
      subst hEq
      refine vx_catch (name := gIAE) hown [] ⟨0, 9, 12, 13⟩ [] (by rw [htb]; rfl) (fun z9 hz9 => nomatch hz9) (by decide) (by decide) (hts (.classLink RL 13 gIAE) (by decide +kernel)) (va_Nw.use rfl (hE.1.2.2.2.2.1 gIAE (by decide +kernel))) hce hcv hcl ?_
      refine lv_astore_n (lv' := [(3, .ref q9), (0, .ref q), (1, .int p0), (2, .ref o)]) hx hb dL_about_12 rfl hl (by decide) rfl (fun ls hl => ?_)
      refine lv_iconst (v := 1) hx hb dL_about_13 (by decide) ?_
      exact W.iret (v := 1) hx hb hr (fun t ht hW => ⟨⟨_, (), rfl, by rw [hc]; rfl, by show va_P D vwCl _ t.heap; rw [if_neg hne, ht]; exact hP⟩, hS.F ht⟩) hS.2.2 dL_about_14
  · obtain ⟨hw0, rfl⟩ := hw
    rw [ht] at hB
    have hP := GWO_put ho hP hB hk1
    generalize H1 = H at hP hS ⊢
    refine lv_i2l hx hb dL_about_7 rfl ?_
    refine va_last (f := f) (i := 0) hx hb hK hP (GWO_self ho) hS 201 4 GWO_at rfl (vin_lit rfl) dL_about_8 (fun H locs hP _ hS => ?_)
    rw [GWO_set] at hP
    refine lv_goto (tgt := 15) hx hb dL_about_9 (by decide) ?_
    refine lv_iconst (v := 0) hx hb dL_about_15 (by decide) ?_
    exact W.iret (v := 0) hx hb hr (fun t ht hW => ⟨⟨_, (), rfl, by rw [hw0]; rfl, by show va_P D vwCl _ t.heap; rw [if_pos hw0, ht]; exact hP⟩, hS.F ht⟩) hS.2.2 dL_about_16
set_option maxHeartbeats 4000000 in
set_option maxRecDepth 100000 in
theorem kL_grip (l : Launch) (D : va_G) (cI cC cZ cQ cJ : ClassId) (t lo q o : Nat) (G : GSt) (f : Nat → Int64) (p0 : Int32) (p1 : Int32) (ho : q + 201 ≤ o) (hlo : lo ≤ q) (hlS : l.stackTraces = false) {R : Nat × Int32 × GSt} (h : fX4_grip G p0 p1 = some R) (hc : R.1 = 0 ∨ R.1 = 3 ∨ R.1 = 1) : Met l yL_grip wsL_grip ({ frames := 7, cells := 1, slots := 6, locals := 104 } : Room) (va_Pc [.ref q, .int p0, .int p1, .ref o] (gBw D (gTy cI cC cZ cQ cJ) t lo (va_P D vwCl (GWO cI cC cZ cQ cJ q o G f)))) (va_Qi (fun r (_ : Unit) => r = gm 3 1 R.1) (fun _ t => va_P D vwCl (GWO cI cC cZ cQ cJ q o R.2.2 (if R.1 = 0 then vp_updL f 0 R.2.1.toInt64 else f)) t.heap) (gOr (fIv q 201) (fIv o 1))) 1 6 (gOr (fIv q 201) (fIv o 1)) := by
  refine gMet_ofWH (cc := cL_grip) (maxL := 5) (ret := (some .int)) (hh := [(0, 10, 13, 28), (0, 10, 17, 13)]) (by decide) rfl ?_
  intro p e s m args below meth c s₁ B hml hv
  obtain ⟨rfl, ⟨hP, hK⟩, hE⟩ := hv
  have hx := B.exec
  have hb := B.bytes
  have hr := B.returns
  have hts := atoms_spec (ws := wsL_grip) B.pre
  have hown : s.vm.findClass RL = some m.cls := findClass_of_methodNamed B.named
  have hlocks := B.notSynchronized
  have htb : c.exceptionTable.toList = tableOf [(0, 10, 13, 28), (0, 10, 17, 13)] := vx_table (x := yL_grip) B (hts (.codeWith yL_grip cL_grip 5 (some .int) [(0, 10, 13, 28), (0, 10, 17, 13)]) (by decide +kernel))
  have hl := lv_entry ([.ref q, .int p0, .int p1, .ref o]) (n := 5) (Nat.le_of_ble_eq_true rfl)
  rw [lg_entry_eq]
  generalize (lg_sl ([.ref q, .int p0, .int p1, .ref o]) ++ List.replicate (5 - (lg_sl ([.ref q, .int p0, .int p1, .ref o])).length) Slot.unset).toArray = ls at hl ⊢
  have hl : lv_has ls 5 [(0, .ref q), (1, .int p0), (2, .int p1), (3, .ref o)] := hl
  have hS : va_S (gOr (fIv q 201) (fIv o 1)) s.heap s.heap [] := va_S.rf
  refine lv_aload_n hx hb dL_grip_0 rfl (lv_at hl 3 rfl) ?_
  refine lv_iconst (v := 0) hx hb dL_grip_1 (by decide) ?_
  refine lv_aload_n hx hb dL_grip_2 rfl (lv_at hl 0 rfl) ?_
  refine lv_iload_n hx hb dL_grip_3 rfl (lv_at hl 1 rfl) ?_
  refine lv_iload_n hx hb dL_grip_4 rfl (lv_at hl 2 rfl) ?_
  refine vx_calli (vx_runV (As := [.int p0, .int p1]) (rest := [.int 0, .ref o]) ⟨hx, hb, hml, hown, hts⟩ (kX4_grip l D cI cC cZ cQ cJ t lo q G p0 p1 hlo hlS h) (cwV 2 hts gL_grip_X4_grip rfl rfl rfl (by decide +kernel) ⟨Nat.le_of_ble_eq_true rfl, Nat.le_of_ble_eq_true rfl⟩) ⟨gBe_blind, va_recv hK (gL (w1 := GW cI cC cZ cQ q G) hP) (ci := 4) (q0 := 0) rfl rfl, fun U hU hW => ⟨rfl, ⟨by rw [hU]; exact gL (w1 := GW cI cC cZ cQ q G) hP, va_K.moved hW.alike hK⟩, by rw [hU]; exact hE.1.warm hW⟩⟩ rfl rfl hl.1 rfl (lv_room (Nat.le_of_ble_eq_true rfl)) dL_grip_5 ⟨Nat.le_of_ble_eq_true rfl, Nat.le_of_ble_eq_true rfl⟩) hS (fun q9 _ h9 => Or.inl h9) (fun q9 h9 => Or.inl h9) (fun q9 _ h9 => Or.inl h9) (fun E ce q9 u t9 H1 locs ht hvm hu hBX hz hk1 hS hce hcv hcl => ?_) (fun r u t9 H1 locs ht hvm hw hB hz hk1 hS => ?_)
  · obtain ⟨hEq, hne, hB⟩ := hBX
    rw [ht] at hB
    have hP := GWO_put ho hP hB hk1
    rcases hc with hc | hc | hc
    · exact absurd hc hne
    · have hEq : E = gIOB := by rw [hEq, hc]; rfl
      subst hEq
      refine vx_catch (name := gIOB) hown [] ⟨0, 10, 13, 28⟩ [⟨0, 10, 17, 13⟩] (by rw [htb]; rfl) (fun z9 hz9 => nomatch hz9) (by decide) (by decide) (hts (.classLink RL 28 gIOB) (by decide +kernel)) (va_Nw.use rfl (hE.1.2.2.2.2.1 gIOB (by decide +kernel))) hce hcv hcl ?_
      refine lv_astore (lv' := [(4, .ref q9), (0, .ref q), (1, .int p0), (2, .int p1), (3, .ref o)]) hx hb dL_grip_13 hl (by decide) rfl (fun ls hl => ?_)
      refine lv_iconst (v := 1) hx hb dL_grip_15 (by decide) ?_
      exact W.iret (v := 1) hx hb hr (fun t ht hW => ⟨⟨_, (), rfl, by rw [hc]; rfl, by show va_P D vwCl _ t.heap; rw [if_neg hne, ht]; exact hP⟩, hS.F ht⟩) hS.2.2 dL_grip_16
    · have hEq : E = gIAE := by rw [hEq, hc]; rfl
      subst hEq
      refine vx_catch (name := gIAE) hown [⟨0, 10, 13, 28⟩] ⟨0, 10, 17, 13⟩ [] (by rw [htb]; rfl) (fun z9 hz9 => by rw [List.mem_singleton.mp hz9]; exact Or.inr ⟨by decide, gIOB, hts (.classLink RL 28 gIOB) (by decide +kernel), hE.2 (gIAE, gIOB) (by decide +kernel)⟩) (by decide) (by decide) (hts (.classLink RL 13 gIAE) (by decide +kernel)) (va_Nw.use rfl (hE.1.2.2.2.2.1 gIAE (by decide +kernel))) hce hcv hcl ?_
      refine lv_astore (lv' := [(4, .ref q9), (0, .ref q), (1, .int p0), (2, .int p1), (3, .ref o)]) hx hb dL_grip_17 hl (by decide) rfl (fun ls hl => ?_)
      refine lv_iconst (v := 2) hx hb dL_grip_19 (by decide) ?_
      exact W.iret (v := 2) hx hb hr (fun t ht hW => ⟨⟨_, (), rfl, by rw [hc]; rfl, by show va_P D vwCl _ t.heap; rw [if_neg hne, ht]; exact hP⟩, hS.F ht⟩) hS.2.2 dL_grip_20
  · obtain ⟨hw0, rfl⟩ := hw
    rw [ht] at hB
    have hP := GWO_put ho hP hB hk1
    generalize H1 = H at hP hS ⊢
    refine lv_i2l hx hb dL_grip_8 rfl ?_
    refine va_last (f := f) (i := 0) hx hb hK hP (GWO_self ho) hS 201 4 GWO_at rfl (vin_lit rfl) dL_grip_9 (fun H locs hP _ hS => ?_)
    rw [GWO_set] at hP
    refine lv_goto (tgt := 21) hx hb dL_grip_10 (by decide) ?_
    refine lv_iconst (v := 0) hx hb dL_grip_21 (by decide) ?_
    exact W.iret (v := 0) hx hb hr (fun t ht hW => ⟨⟨_, (), rfl, by rw [hw0]; rfl, by show va_P D vwCl _ t.heap; rw [if_pos hw0, ht]; exact hP⟩, hS.F ht⟩) hS.2.2 dL_grip_22
set_option maxHeartbeats 4000000 in
set_option maxRecDepth 100000 in
theorem kL_slot (l : Launch) (D : va_G) (cI cC cZ cQ cJ : ClassId) (t lo q o : Nat) (G : GSt) (f : Nat → Int64) (p0 : Int32) (ho : q + 201 ≤ o) (hlo : lo ≤ q) (hlS : l.stackTraces = false) {R : Nat × Int32 × GSt} (h : fX4_slot G p0 = some R) (hc : R.1 = 0 ∨ R.1 = 3) : Met l yL_slot wsL_slot ({ frames := 7, cells := 1, slots := 6, locals := 103 } : Room) (va_Pc [.ref q, .int p0, .ref o] (gBw D (gTy cI cC cZ cQ cJ) t lo (va_P D vwCl (GWO cI cC cZ cQ cJ q o G f)))) (va_Qi (fun r (_ : Unit) => r = gm 3 9 R.1) (fun _ t => va_P D vwCl (GWO cI cC cZ cQ cJ q o R.2.2 (if R.1 = 0 then vp_updL f 0 R.2.1.toInt64 else f)) t.heap) (gOr (fIv q 201) (fIv o 1))) 1 6 (gOr (fIv q 201) (fIv o 1)) := by
  refine gMet_ofWH (cc := cL_slot) (maxL := 4) (ret := (some .int)) (hh := [(0, 9, 12, 28)]) (by decide) rfl ?_
  intro p e s m args below meth c s₁ B hml hv
  obtain ⟨rfl, ⟨hP, hK⟩, hE⟩ := hv
  have hx := B.exec
  have hb := B.bytes
  have hr := B.returns
  have hts := atoms_spec (ws := wsL_slot) B.pre
  have hown : s.vm.findClass RL = some m.cls := findClass_of_methodNamed B.named
  have hlocks := B.notSynchronized
  have htb : c.exceptionTable.toList = tableOf [(0, 9, 12, 28)] := vx_table (x := yL_slot) B (hts (.codeWith yL_slot cL_slot 4 (some .int) [(0, 9, 12, 28)]) (by decide +kernel))
  have hl := lv_entry ([.ref q, .int p0, .ref o]) (n := 4) (Nat.le_of_ble_eq_true rfl)
  rw [lg_entry_eq]
  generalize (lg_sl ([.ref q, .int p0, .ref o]) ++ List.replicate (4 - (lg_sl ([.ref q, .int p0, .ref o])).length) Slot.unset).toArray = ls at hl ⊢
  have hl : lv_has ls 4 [(0, .ref q), (1, .int p0), (2, .ref o)] := hl
  have hS : va_S (gOr (fIv q 201) (fIv o 1)) s.heap s.heap [] := va_S.rf
  refine lv_aload_n hx hb dL_slot_0 rfl (lv_at hl 2 rfl) ?_
  refine lv_iconst (v := 0) hx hb dL_slot_1 (by decide) ?_
  refine lv_aload_n hx hb dL_slot_2 rfl (lv_at hl 0 rfl) ?_
  refine lv_iload_n hx hb dL_slot_3 rfl (lv_at hl 1 rfl) ?_
  refine vx_calli (vx_runV (As := [.int p0]) (rest := [.int 0, .ref o]) ⟨hx, hb, hml, hown, hts⟩ (kX4_slot l D cI cC cZ cQ cJ t lo q G p0 hlo hlS h) (cwV 1 hts gL_slot_X4_slot rfl rfl rfl (by decide +kernel) ⟨Nat.le_of_ble_eq_true rfl, Nat.le_of_ble_eq_true rfl⟩) ⟨gBe_blind, va_recv hK (gL (w1 := GW cI cC cZ cQ q G) hP) (ci := 4) (q0 := 0) rfl rfl, fun U hU hW => ⟨rfl, ⟨by rw [hU]; exact gL (w1 := GW cI cC cZ cQ q G) hP, va_K.moved hW.alike hK⟩, by rw [hU]; exact hE.1.warm hW⟩⟩ rfl rfl hl.1 rfl (lv_room (Nat.le_of_ble_eq_true rfl)) dL_slot_4 ⟨Nat.le_of_ble_eq_true rfl, Nat.le_of_ble_eq_true rfl⟩) hS (fun q9 _ h9 => Or.inl h9) (fun q9 h9 => Or.inl h9) (fun q9 _ h9 => Or.inl h9) (fun E ce q9 u t9 H1 locs ht hvm hu hBX hz hk1 hS hce hcv hcl => ?_) (fun r u t9 H1 locs ht hvm hw hB hz hk1 hS => ?_)
  · obtain ⟨hEq, hne, hB⟩ := hBX
    rw [ht] at hB
    have hP := GWO_put ho hP hB hk1
    rcases hc with hc | hc
    · exact absurd hc hne
    · have hEq : E = gIOB := by rw [hEq, hc]; rfl
      subst hEq
      refine vx_catch (name := gIOB) hown [] ⟨0, 9, 12, 28⟩ [] (by rw [htb]; rfl) (fun z9 hz9 => nomatch hz9) (by decide) (by decide) (hts (.classLink RL 28 gIOB) (by decide +kernel)) (va_Nw.use rfl (hE.1.2.2.2.2.1 gIOB (by decide +kernel))) hce hcv hcl ?_
      refine lv_astore_n (lv' := [(3, .ref q9), (0, .ref q), (1, .int p0), (2, .ref o)]) hx hb dL_slot_12 rfl hl (by decide) rfl (fun ls hl => ?_)
      refine lv_iconst (v := 1) hx hb dL_slot_13 (by decide) ?_
      exact W.iret (v := 1) hx hb hr (fun t ht hW => ⟨⟨_, (), rfl, by rw [hc]; rfl, by show va_P D vwCl _ t.heap; rw [if_neg hne, ht]; exact hP⟩, hS.F ht⟩) hS.2.2 dL_slot_14
  · obtain ⟨hw0, rfl⟩ := hw
    rw [ht] at hB
    have hP := GWO_put ho hP hB hk1
    generalize H1 = H at hP hS ⊢
    refine lv_i2l hx hb dL_slot_7 rfl ?_
    refine va_last (f := f) (i := 0) hx hb hK hP (GWO_self ho) hS 201 4 GWO_at rfl (vin_lit rfl) dL_slot_8 (fun H locs hP _ hS => ?_)
    rw [GWO_set] at hP
    refine lv_goto (tgt := 15) hx hb dL_slot_9 (by decide) ?_
    refine lv_iconst (v := 0) hx hb dL_slot_15 (by decide) ?_
    exact W.iret (v := 0) hx hb hr (fun t ht hW => ⟨⟨_, (), rfl, by rw [hw0]; rfl, by show va_P D vwCl _ t.heap; rw [if_pos hw0, ht]; exact hP⟩, hS.F ht⟩) hS.2.2 dL_slot_16
set_option maxHeartbeats 4000000 in
set_option maxRecDepth 100000 in
theorem kL_report (l : Launch) (D : va_G) (cI cC cZ cQ cJ : ClassId) (t lo q o : Nat) (G : GSt) (f : Nat → Int64) (p0 : Int32) (ho : q + 201 ≤ o) (hlo : lo ≤ q) (hlS : l.stackTraces = false) {R : Nat × Int32 × GSt} (h : fX4_report G p0 = some R) (hc : R.1 = 0 ∨ R.1 = 1) : Met l yL_report wsL_report ({ frames := 7, cells := 1, slots := 6, locals := 107 } : Room) (va_Pc [.ref q, .int p0, .ref o] (gBw D (gTy cI cC cZ cQ cJ) t lo (va_P D vwCl (GWO cI cC cZ cQ cJ q o G f)))) (va_Qi (fun r (_ : Unit) => r = gm 1 9 R.1) (fun _ t => va_P D vwCl (GWO cI cC cZ cQ cJ q o R.2.2 (if R.1 = 0 then vp_updL f 0 R.2.1.toInt64 else f)) t.heap) (gOr (fIv q 201) (fIv o 1))) 1 6 (gOr (fIv q 201) (fIv o 1)) := by
  refine gMet_ofWH (cc := cL_report) (maxL := 4) (ret := (some .int)) (hh := [(0, 9, 12, 13)]) (by decide) rfl ?_
  intro p e s m args below meth c s₁ B hml hv
  obtain ⟨rfl, ⟨hP, hK⟩, hE⟩ := hv
  have hx := B.exec
  have hb := B.bytes
  have hr := B.returns
  have hts := atoms_spec (ws := wsL_report) B.pre
  have hown : s.vm.findClass RL = some m.cls := findClass_of_methodNamed B.named
  have hlocks := B.notSynchronized
  have htb : c.exceptionTable.toList = tableOf [(0, 9, 12, 13)] := vx_table (x := yL_report) B (hts (.codeWith yL_report cL_report 4 (some .int) [(0, 9, 12, 13)]) (by decide +kernel))
  have hl := lv_entry ([.ref q, .int p0, .ref o]) (n := 4) (Nat.le_of_ble_eq_true rfl)
  rw [lg_entry_eq]
  generalize (lg_sl ([.ref q, .int p0, .ref o]) ++ List.replicate (4 - (lg_sl ([.ref q, .int p0, .ref o])).length) Slot.unset).toArray = ls at hl ⊢
  have hl : lv_has ls 4 [(0, .ref q), (1, .int p0), (2, .ref o)] := hl
  have hS : va_S (gOr (fIv q 201) (fIv o 1)) s.heap s.heap [] := va_S.rf
  refine lv_aload_n hx hb dL_report_0 rfl (lv_at hl 2 rfl) ?_
  refine lv_iconst (v := 0) hx hb dL_report_1 (by decide) ?_
  refine lv_aload_n hx hb dL_report_2 rfl (lv_at hl 0 rfl) ?_
  refine lv_iload_n hx hb dL_report_3 rfl (lv_at hl 1 rfl) ?_
  refine vx_calli (vx_runV (As := [.int p0]) (rest := [.int 0, .ref o]) ⟨hx, hb, hml, hown, hts⟩ (kX4_report l D cI cC cZ cQ cJ t lo q G p0 hlo hlS h) (cwV 1 hts gL_report_X4_report rfl rfl rfl (by decide +kernel) ⟨Nat.le_of_ble_eq_true rfl, Nat.le_of_ble_eq_true rfl⟩) ⟨gBe_blind, va_recv hK (gL (w1 := GW cI cC cZ cQ q G) hP) (ci := 4) (q0 := 0) rfl rfl, fun U hU hW => ⟨rfl, ⟨by rw [hU]; exact gL (w1 := GW cI cC cZ cQ q G) hP, va_K.moved hW.alike hK⟩, by rw [hU]; exact hE.1.warm hW⟩⟩ rfl rfl hl.1 rfl (lv_room (Nat.le_of_ble_eq_true rfl)) dL_report_4 ⟨Nat.le_of_ble_eq_true rfl, Nat.le_of_ble_eq_true rfl⟩) hS (fun q9 _ h9 => Or.inl h9) (fun q9 h9 => Or.inl h9) (fun q9 _ h9 => Or.inl h9) (fun E ce q9 u t9 H1 locs ht hvm hu hBX hz hk1 hS hce hcv hcl => ?_) (fun r u t9 H1 locs ht hvm hw hB hz hk1 hS => ?_)
  · obtain ⟨hEq, hne, hB⟩ := hBX
    rw [ht] at hB
    have hP := GWO_put ho hP hB hk1
    rcases hc with hc | hc
    · exact absurd hc hne
    · have hEq : E = gIAE := by rw [hEq, hc]; rfl
      subst hEq
      refine vx_catch (name := gIAE) hown [] ⟨0, 9, 12, 13⟩ [] (by rw [htb]; rfl) (fun z9 hz9 => nomatch hz9) (by decide) (by decide) (hts (.classLink RL 13 gIAE) (by decide +kernel)) (va_Nw.use rfl (hE.1.2.2.2.2.1 gIAE (by decide +kernel))) hce hcv hcl ?_
      refine lv_astore_n (lv' := [(3, .ref q9), (0, .ref q), (1, .int p0), (2, .ref o)]) hx hb dL_report_12 rfl hl (by decide) rfl (fun ls hl => ?_)
      refine lv_iconst (v := 1) hx hb dL_report_13 (by decide) ?_
      exact W.iret (v := 1) hx hb hr (fun t ht hW => ⟨⟨_, (), rfl, by rw [hc]; rfl, by show va_P D vwCl _ t.heap; rw [if_neg hne, ht]; exact hP⟩, hS.F ht⟩) hS.2.2 dL_report_14
  · obtain ⟨hw0, rfl⟩ := hw
    rw [ht] at hB
    have hP := GWO_put ho hP hB hk1
    generalize H1 = H at hP hS ⊢
    refine lv_i2l hx hb dL_report_7 rfl ?_
    refine va_last (f := f) (i := 0) hx hb hK hP (GWO_self ho) hS 201 4 GWO_at rfl (vin_lit rfl) dL_report_8 (fun H locs hP _ hS => ?_)
    rw [GWO_set] at hP
    refine lv_goto (tgt := 15) hx hb dL_report_9 (by decide) ?_
    refine lv_iconst (v := 0) hx hb dL_report_15 (by decide) ?_
    exact W.iret (v := 0) hx hb hr (fun t ht hW => ⟨⟨_, (), rfl, by rw [hw0]; rfl, by show va_P D vwCl _ t.heap; rw [if_pos hw0, ht]; exact hP⟩, hS.F ht⟩) hS.2.2 dL_report_16
set_option maxHeartbeats 4000000 in
set_option maxRecDepth 100000 in
theorem kL_step (l : Launch) (D : va_G) (cI cC cZ cQ cJ : ClassId) (t lo q o : Nat) (G : GSt) (f : Nat → Int64) (p0 : Int32) (ho : q + 201 ≤ o) (hlo : lo ≤ q) (hlS : l.stackTraces = false) {R : Nat × Int32 × GSt} (h : fX4_step G p0 = some R) (hc : R.1 = 0 ∨ R.1 = 1) : Met l yL_step wsL_step ({ frames := 7, cells := 1, slots := 6, locals := 132 } : Room) (va_Pc [.ref q, .int p0, .ref o] (gBw D (gTy cI cC cZ cQ cJ) t lo (va_P D vwCl (GWO cI cC cZ cQ cJ q o G f)))) (va_Qi (fun r (_ : Unit) => r = gm 1 9 R.1) (fun _ t => va_P D vwCl (GWO cI cC cZ cQ cJ q o R.2.2 (if R.1 = 0 then vp_updL f 0 R.2.1.toInt64 else f)) t.heap) (gOr (fIv q 201) (fIv o 1))) 1 6 (gOr (fIv q 201) (fIv o 1)) := by
  refine gMet_ofWH (cc := cL_step) (maxL := 4) (ret := (some .int)) (hh := [(0, 9, 12, 13)]) (by decide) rfl ?_
  intro p e s m args below meth c s₁ B hml hv
  obtain ⟨rfl, ⟨hP, hK⟩, hE⟩ := hv
  have hx := B.exec
  have hb := B.bytes
  have hr := B.returns
  have hts := atoms_spec (ws := wsL_step) B.pre
  have hown : s.vm.findClass RL = some m.cls := findClass_of_methodNamed B.named
  have hlocks := B.notSynchronized
  have htb : c.exceptionTable.toList = tableOf [(0, 9, 12, 13)] := vx_table (x := yL_step) B (hts (.codeWith yL_step cL_step 4 (some .int) [(0, 9, 12, 13)]) (by decide +kernel))
  have hl := lv_entry ([.ref q, .int p0, .ref o]) (n := 4) (Nat.le_of_ble_eq_true rfl)
  rw [lg_entry_eq]
  generalize (lg_sl ([.ref q, .int p0, .ref o]) ++ List.replicate (4 - (lg_sl ([.ref q, .int p0, .ref o])).length) Slot.unset).toArray = ls at hl ⊢
  have hl : lv_has ls 4 [(0, .ref q), (1, .int p0), (2, .ref o)] := hl
  have hS : va_S (gOr (fIv q 201) (fIv o 1)) s.heap s.heap [] := va_S.rf
  refine lv_aload_n hx hb dL_step_0 rfl (lv_at hl 2 rfl) ?_
  refine lv_iconst (v := 0) hx hb dL_step_1 (by decide) ?_
  refine lv_aload_n hx hb dL_step_2 rfl (lv_at hl 0 rfl) ?_
  refine lv_iload_n hx hb dL_step_3 rfl (lv_at hl 1 rfl) ?_
  refine vx_calli (vx_runV (As := [.int p0]) (rest := [.int 0, .ref o]) ⟨hx, hb, hml, hown, hts⟩ (kX4_step l D cI cC cZ cQ cJ t lo q G p0 hlo hlS h) (cwV 1 hts gL_step_X4_step rfl rfl rfl (by decide +kernel) ⟨Nat.le_of_ble_eq_true rfl, Nat.le_of_ble_eq_true rfl⟩) ⟨gBe_blind, va_recv hK (gL (w1 := GW cI cC cZ cQ q G) hP) (ci := 4) (q0 := 0) rfl rfl, fun U hU hW => ⟨rfl, ⟨by rw [hU]; exact gL (w1 := GW cI cC cZ cQ q G) hP, va_K.moved hW.alike hK⟩, by rw [hU]; exact hE.1.warm hW⟩⟩ rfl rfl hl.1 rfl (lv_room (Nat.le_of_ble_eq_true rfl)) dL_step_4 ⟨Nat.le_of_ble_eq_true rfl, Nat.le_of_ble_eq_true rfl⟩) hS (fun q9 _ h9 => Or.inl h9) (fun q9 h9 => Or.inl h9) (fun q9 _ h9 => Or.inl h9) (fun E ce q9 u t9 H1 locs ht hvm hu hBX hz hk1 hS hce hcv hcl => ?_) (fun r u t9 H1 locs ht hvm hw hB hz hk1 hS => ?_)
  · obtain ⟨hEq, hne, hB⟩ := hBX
    rw [ht] at hB
    have hP := GWO_put ho hP hB hk1
    rcases hc with hc | hc
    · exact absurd hc hne
    · have hEq : E = gIAE := by rw [hEq, hc]; rfl
      subst hEq
      refine vx_catch (name := gIAE) hown [] ⟨0, 9, 12, 13⟩ [] (by rw [htb]; rfl) (fun z9 hz9 => nomatch hz9) (by decide) (by decide) (hts (.classLink RL 13 gIAE) (by decide +kernel)) (va_Nw.use rfl (hE.1.2.2.2.2.1 gIAE (by decide +kernel))) hce hcv hcl ?_
      refine lv_astore_n (lv' := [(3, .ref q9), (0, .ref q), (1, .int p0), (2, .ref o)]) hx hb dL_step_12 rfl hl (by decide) rfl (fun ls hl => ?_)
      refine lv_iconst (v := 1) hx hb dL_step_13 (by decide) ?_
      exact W.iret (v := 1) hx hb hr (fun t ht hW => ⟨⟨_, (), rfl, by rw [hc]; rfl, by show va_P D vwCl _ t.heap; rw [if_neg hne, ht]; exact hP⟩, hS.F ht⟩) hS.2.2 dL_step_14
  · obtain ⟨hw0, rfl⟩ := hw
    rw [ht] at hB
    have hP := GWO_put ho hP hB hk1
    generalize H1 = H at hP hS ⊢
    refine lv_i2l hx hb dL_step_7 rfl ?_
    refine va_last (f := f) (i := 0) hx hb hK hP (GWO_self ho) hS 201 4 GWO_at rfl (vin_lit rfl) dL_step_8 (fun H locs hP _ hS => ?_)
    rw [GWO_set] at hP
    refine lv_goto (tgt := 15) hx hb dL_step_9 (by decide) ?_
    refine lv_iconst (v := 0) hx hb dL_step_15 (by decide) ?_
    exact W.iret (v := 0) hx hb hr (fun t ht hW => ⟨⟨_, (), rfl, by rw [hw0]; rfl, by show va_P D vwCl _ t.heap; rw [if_pos hw0, ht]; exact hP⟩, hS.F ht⟩) hS.2.2 dL_step_16
set_option maxHeartbeats 4000000 in
set_option maxRecDepth 100000 in
theorem kL_addGrip (l : Launch) (D : va_G) (cI cC cZ cQ cJ : ClassId) (t lo q o : Nat) (G : GSt) (f : Nat → Int64) (p0 : Int32) (ho : q + 201 ≤ o) (hlo : lo ≤ q) (hlS : l.stackTraces = false) {R : Nat × Int32 × GSt} (h : fX4_addGrip G p0 = some R) (hc : R.1 = 0 ∨ R.1 = 1 ∨ R.1 = 2) : Met l yL_addGrip wsL_addGrip ({ frames := 7, cells := 1, slots := 6, locals := 125 } : Room) (va_Pc [.ref q, .int p0, .ref o] (gBw D (gTy cI cC cZ cQ cJ) t lo (va_P D vwCl (GWO cI cC cZ cQ cJ q o G f)))) (va_Qi (fun r (_ : Unit) => r = gm 1 2 R.1) (fun _ t => va_P D vwCl (GWO cI cC cZ cQ cJ q o R.2.2 (if R.1 = 0 then vp_updL f 0 R.2.1.toInt64 else f)) t.heap) (gOr (fIv q 201) (fIv o 1))) 1 6 (gOr (fIv q 201) (fIv o 1)) := by
  refine gMet_ofWH (cc := cL_addGrip) (maxL := 4) (ret := (some .int)) (hh := [(0, 9, 12, 13), (0, 9, 15, 15)]) (by decide) rfl ?_
  intro p e s m args below meth c s₁ B hml hv
  obtain ⟨rfl, ⟨hP, hK⟩, hE⟩ := hv
  have hx := B.exec
  have hb := B.bytes
  have hr := B.returns
  have hts := atoms_spec (ws := wsL_addGrip) B.pre
  have hown : s.vm.findClass RL = some m.cls := findClass_of_methodNamed B.named
  have hlocks := B.notSynchronized
  have htb : c.exceptionTable.toList = tableOf [(0, 9, 12, 13), (0, 9, 15, 15)] := vx_table (x := yL_addGrip) B (hts (.codeWith yL_addGrip cL_addGrip 4 (some .int) [(0, 9, 12, 13), (0, 9, 15, 15)]) (by decide +kernel))
  have hl := lv_entry ([.ref q, .int p0, .ref o]) (n := 4) (Nat.le_of_ble_eq_true rfl)
  rw [lg_entry_eq]
  generalize (lg_sl ([.ref q, .int p0, .ref o]) ++ List.replicate (4 - (lg_sl ([.ref q, .int p0, .ref o])).length) Slot.unset).toArray = ls at hl ⊢
  have hl : lv_has ls 4 [(0, .ref q), (1, .int p0), (2, .ref o)] := hl
  have hS : va_S (gOr (fIv q 201) (fIv o 1)) s.heap s.heap [] := va_S.rf
  refine lv_aload_n hx hb dL_addGrip_0 rfl (lv_at hl 2 rfl) ?_
  refine lv_iconst (v := 0) hx hb dL_addGrip_1 (by decide) ?_
  refine lv_aload_n hx hb dL_addGrip_2 rfl (lv_at hl 0 rfl) ?_
  refine lv_iload_n hx hb dL_addGrip_3 rfl (lv_at hl 1 rfl) ?_
  refine vx_calli (vx_runV (As := [.int p0]) (rest := [.int 0, .ref o]) ⟨hx, hb, hml, hown, hts⟩ (kX4_addGrip l D cI cC cZ cQ cJ t lo q G p0 hlo hlS h) (cwV 1 hts gL_addGrip_X4_addGrip rfl rfl rfl (by decide +kernel) ⟨Nat.le_of_ble_eq_true rfl, Nat.le_of_ble_eq_true rfl⟩) ⟨gBe_blind, va_recv hK (gL (w1 := GW cI cC cZ cQ q G) hP) (ci := 4) (q0 := 0) rfl rfl, fun U hU hW => ⟨rfl, ⟨by rw [hU]; exact gL (w1 := GW cI cC cZ cQ q G) hP, va_K.moved hW.alike hK⟩, by rw [hU]; exact hE.1.warm hW⟩⟩ rfl rfl hl.1 rfl (lv_room (Nat.le_of_ble_eq_true rfl)) dL_addGrip_4 ⟨Nat.le_of_ble_eq_true rfl, Nat.le_of_ble_eq_true rfl⟩) hS (fun q9 _ h9 => Or.inl h9) (fun q9 h9 => Or.inl h9) (fun q9 _ h9 => Or.inl h9) (fun E ce q9 u t9 H1 locs ht hvm hu hBX hz hk1 hS hce hcv hcl => ?_) (fun r u t9 H1 locs ht hvm hw hB hz hk1 hS => ?_)
  · obtain ⟨hEq, hne, hB⟩ := hBX
    rw [ht] at hB
    have hP := GWO_put ho hP hB hk1
    rcases hc with hc | hc | hc
    · exact absurd hc hne
    · have hEq : E = gIAE := by rw [hEq, hc]; rfl
      subst hEq
      refine vx_catch (name := gIAE) hown [] ⟨0, 9, 12, 13⟩ [⟨0, 9, 15, 15⟩] (by rw [htb]; rfl) (fun z9 hz9 => nomatch hz9) (by decide) (by decide) (hts (.classLink RL 13 gIAE) (by decide +kernel)) (va_Nw.use rfl (hE.1.2.2.2.2.1 gIAE (by decide +kernel))) hce hcv hcl ?_
      refine lv_astore_n (lv' := [(3, .ref q9), (0, .ref q), (1, .int p0), (2, .ref o)]) hx hb dL_addGrip_12 rfl hl (by decide) rfl (fun ls hl => ?_)
      refine lv_iconst (v := 1) hx hb dL_addGrip_13 (by decide) ?_
      exact W.iret (v := 1) hx hb hr (fun t ht hW => ⟨⟨_, (), rfl, by rw [hc]; rfl, by show va_P D vwCl _ t.heap; rw [if_neg hne, ht]; exact hP⟩, hS.F ht⟩) hS.2.2 dL_addGrip_14
    · have hEq : E = gISE := by rw [hEq, hc]; rfl
      subst hEq
      refine vx_catch (name := gISE) hown [⟨0, 9, 12, 13⟩] ⟨0, 9, 15, 15⟩ [] (by rw [htb]; rfl) (fun z9 hz9 => by rw [List.mem_singleton.mp hz9]; exact Or.inr ⟨by decide, gIAE, hts (.classLink RL 13 gIAE) (by decide +kernel), hE.2 (gISE, gIAE) (by decide +kernel)⟩) (by decide) (by decide) (hts (.classLink RL 15 gISE) (by decide +kernel)) (va_Nw.use rfl (hE.1.2.2.2.2.1 gISE (by decide +kernel))) hce hcv hcl ?_
      refine lv_astore_n (lv' := [(3, .ref q9), (0, .ref q), (1, .int p0), (2, .ref o)]) hx hb dL_addGrip_15 rfl hl (by decide) rfl (fun ls hl => ?_)
      refine lv_iconst (v := 2) hx hb dL_addGrip_16 (by decide) ?_
      exact W.iret (v := 2) hx hb hr (fun t ht hW => ⟨⟨_, (), rfl, by rw [hc]; rfl, by show va_P D vwCl _ t.heap; rw [if_neg hne, ht]; exact hP⟩, hS.F ht⟩) hS.2.2 dL_addGrip_17
  · obtain ⟨hw0, rfl⟩ := hw
    rw [ht] at hB
    have hP := GWO_put ho hP hB hk1
    generalize H1 = H at hP hS ⊢
    refine lv_i2l hx hb dL_addGrip_7 rfl ?_
    refine va_last (f := f) (i := 0) hx hb hK hP (GWO_self ho) hS 201 4 GWO_at rfl (vin_lit rfl) dL_addGrip_8 (fun H locs hP _ hS => ?_)
    rw [GWO_set] at hP
    refine lv_goto (tgt := 18) hx hb dL_addGrip_9 (by decide) ?_
    refine lv_iconst (v := 0) hx hb dL_addGrip_18 (by decide) ?_
    exact W.iret (v := 0) hx hb hr (fun t ht hW => ⟨⟨_, (), rfl, by rw [hw0]; rfl, by show va_P D vwCl _ t.heap; rw [if_pos hw0, ht]; exact hP⟩, hS.F ht⟩) hS.2.2 dL_addGrip_19
set_option maxHeartbeats 4000000 in
set_option maxRecDepth 100000 in
theorem kL_putOn (l : Launch) (D : va_G) (cI cC cZ cQ cJ : ClassId) (t lo q o : Nat) (G : GSt) (f : Nat → Int64) (p0 : Int32) (p1 : Int32) (ho : q + 201 ≤ o) (hlo : lo ≤ q) (hlS : l.stackTraces = false) {R : Nat × Int32 × GSt} (h : fX4_putOn G p0 p1 = some R) (hc : R.1 = 0 ∨ R.1 = 3 ∨ R.1 = 2) : Met l yL_putOn wsL_putOn ({ frames := 7, cells := 1, slots := 6, locals := 126 } : Room) (va_Pc [.ref q, .int p0, .int p1, .ref o] (gBw D (gTy cI cC cZ cQ cJ) t lo (va_P D vwCl (GWO cI cC cZ cQ cJ q o G f)))) (va_Qi (fun r (_ : Unit) => r = gm 3 2 R.1) (fun _ t => va_P D vwCl (GWO cI cC cZ cQ cJ q o R.2.2 (if R.1 = 0 then vp_updL f 0 R.2.1.toInt64 else f)) t.heap) (gOr (fIv q 201) (fIv o 1))) 1 6 (gOr (fIv q 201) (fIv o 1)) := by
  refine gMet_ofWH (cc := cL_putOn) (maxL := 5) (ret := (some .int)) (hh := [(0, 10, 13, 28), (0, 10, 17, 15)]) (by decide) rfl ?_
  intro p e s m args below meth c s₁ B hml hv
  obtain ⟨rfl, ⟨hP, hK⟩, hE⟩ := hv
  have hx := B.exec
  have hb := B.bytes
  have hr := B.returns
  have hts := atoms_spec (ws := wsL_putOn) B.pre
  have hown : s.vm.findClass RL = some m.cls := findClass_of_methodNamed B.named
  have hlocks := B.notSynchronized
  have htb : c.exceptionTable.toList = tableOf [(0, 10, 13, 28), (0, 10, 17, 15)] := vx_table (x := yL_putOn) B (hts (.codeWith yL_putOn cL_putOn 5 (some .int) [(0, 10, 13, 28), (0, 10, 17, 15)]) (by decide +kernel))
  have hl := lv_entry ([.ref q, .int p0, .int p1, .ref o]) (n := 5) (Nat.le_of_ble_eq_true rfl)
  rw [lg_entry_eq]
  generalize (lg_sl ([.ref q, .int p0, .int p1, .ref o]) ++ List.replicate (5 - (lg_sl ([.ref q, .int p0, .int p1, .ref o])).length) Slot.unset).toArray = ls at hl ⊢
  have hl : lv_has ls 5 [(0, .ref q), (1, .int p0), (2, .int p1), (3, .ref o)] := hl
  have hS : va_S (gOr (fIv q 201) (fIv o 1)) s.heap s.heap [] := va_S.rf
  refine lv_aload_n hx hb dL_putOn_0 rfl (lv_at hl 3 rfl) ?_
  refine lv_iconst (v := 0) hx hb dL_putOn_1 (by decide) ?_
  refine lv_aload_n hx hb dL_putOn_2 rfl (lv_at hl 0 rfl) ?_
  refine lv_iload_n hx hb dL_putOn_3 rfl (lv_at hl 1 rfl) ?_
  refine lv_iload_n hx hb dL_putOn_4 rfl (lv_at hl 2 rfl) ?_
  refine vx_calli (vx_runV (As := [.int p0, .int p1]) (rest := [.int 0, .ref o]) ⟨hx, hb, hml, hown, hts⟩ (kX4_putOn l D cI cC cZ cQ cJ t lo q G p0 p1 hlo hlS h) (cwV 2 hts gL_putOn_X4_putOn rfl rfl rfl (by decide +kernel) ⟨Nat.le_of_ble_eq_true rfl, Nat.le_of_ble_eq_true rfl⟩) ⟨gBe_blind, va_recv hK (gL (w1 := GW cI cC cZ cQ q G) hP) (ci := 4) (q0 := 0) rfl rfl, fun U hU hW => ⟨rfl, ⟨by rw [hU]; exact gL (w1 := GW cI cC cZ cQ q G) hP, va_K.moved hW.alike hK⟩, by rw [hU]; exact hE.1.warm hW⟩⟩ rfl rfl hl.1 rfl (lv_room (Nat.le_of_ble_eq_true rfl)) dL_putOn_5 ⟨Nat.le_of_ble_eq_true rfl, Nat.le_of_ble_eq_true rfl⟩) hS (fun q9 _ h9 => Or.inl h9) (fun q9 h9 => Or.inl h9) (fun q9 _ h9 => Or.inl h9) (fun E ce q9 u t9 H1 locs ht hvm hu hBX hz hk1 hS hce hcv hcl => ?_) (fun r u t9 H1 locs ht hvm hw hB hz hk1 hS => ?_)
  · obtain ⟨hEq, hne, hB⟩ := hBX
    rw [ht] at hB
    have hP := GWO_put ho hP hB hk1
    rcases hc with hc | hc | hc
    · exact absurd hc hne
    · have hEq : E = gIOB := by rw [hEq, hc]; rfl
      subst hEq
      refine vx_catch (name := gIOB) hown [] ⟨0, 10, 13, 28⟩ [⟨0, 10, 17, 15⟩] (by rw [htb]; rfl) (fun z9 hz9 => nomatch hz9) (by decide) (by decide) (hts (.classLink RL 28 gIOB) (by decide +kernel)) (va_Nw.use rfl (hE.1.2.2.2.2.1 gIOB (by decide +kernel))) hce hcv hcl ?_
      refine lv_astore (lv' := [(4, .ref q9), (0, .ref q), (1, .int p0), (2, .int p1), (3, .ref o)]) hx hb dL_putOn_13 hl (by decide) rfl (fun ls hl => ?_)
      refine lv_iconst (v := 1) hx hb dL_putOn_15 (by decide) ?_
      exact W.iret (v := 1) hx hb hr (fun t ht hW => ⟨⟨_, (), rfl, by rw [hc]; rfl, by show va_P D vwCl _ t.heap; rw [if_neg hne, ht]; exact hP⟩, hS.F ht⟩) hS.2.2 dL_putOn_16
    · have hEq : E = gISE := by rw [hEq, hc]; rfl
      subst hEq
      refine vx_catch (name := gISE) hown [⟨0, 10, 13, 28⟩] ⟨0, 10, 17, 15⟩ [] (by rw [htb]; rfl) (fun z9 hz9 => by rw [List.mem_singleton.mp hz9]; exact Or.inr ⟨by decide, gIOB, hts (.classLink RL 28 gIOB) (by decide +kernel), hE.2 (gISE, gIOB) (by decide +kernel)⟩) (by decide) (by decide) (hts (.classLink RL 15 gISE) (by decide +kernel)) (va_Nw.use rfl (hE.1.2.2.2.2.1 gISE (by decide +kernel))) hce hcv hcl ?_
      refine lv_astore (lv' := [(4, .ref q9), (0, .ref q), (1, .int p0), (2, .int p1), (3, .ref o)]) hx hb dL_putOn_17 hl (by decide) rfl (fun ls hl => ?_)
      refine lv_iconst (v := 2) hx hb dL_putOn_19 (by decide) ?_
      exact W.iret (v := 2) hx hb hr (fun t ht hW => ⟨⟨_, (), rfl, by rw [hc]; rfl, by show va_P D vwCl _ t.heap; rw [if_neg hne, ht]; exact hP⟩, hS.F ht⟩) hS.2.2 dL_putOn_20
  · obtain ⟨hw0, rfl⟩ := hw
    rw [ht] at hB
    have hP := GWO_put ho hP hB hk1
    generalize H1 = H at hP hS ⊢
    refine lv_i2l hx hb dL_putOn_8 rfl ?_
    refine va_last (f := f) (i := 0) hx hb hK hP (GWO_self ho) hS 201 4 GWO_at rfl (vin_lit rfl) dL_putOn_9 (fun H locs hP _ hS => ?_)
    rw [GWO_set] at hP
    refine lv_goto (tgt := 21) hx hb dL_putOn_10 (by decide) ?_
    refine lv_iconst (v := 0) hx hb dL_putOn_21 (by decide) ?_
    exact W.iret (v := 0) hx hb hr (fun t ht hW => ⟨⟨_, (), rfl, by rw [hw0]; rfl, by show va_P D vwCl _ t.heap; rw [if_pos hw0, ht]; exact hP⟩, hS.F ht⟩) hS.2.2 dL_putOn_22
set_option maxHeartbeats 4000000 in
set_option maxRecDepth 100000 in
theorem kL_takeOff (l : Launch) (D : va_G) (cI cC cZ cQ cJ : ClassId) (t lo q o : Nat) (G : GSt) (f : Nat → Int64) (p0 : Int32) (ho : q + 201 ≤ o) (hlo : lo ≤ q) (hlS : l.stackTraces = false) {R : Nat × Int32 × GSt} (h : fX4_takeOff G p0 = some R) (hc : R.1 = 0 ∨ R.1 = 3 ∨ R.1 = 2) : Met l yL_takeOff wsL_takeOff ({ frames := 7, cells := 1, slots := 6, locals := 126 } : Room) (va_Pc [.ref q, .int p0, .ref o] (gBw D (gTy cI cC cZ cQ cJ) t lo (va_P D vwCl (GWO cI cC cZ cQ cJ q o G f)))) (va_Qi (fun r (_ : Unit) => r = gm 3 2 R.1) (fun _ t => va_P D vwCl (GWO cI cC cZ cQ cJ q o R.2.2 (if R.1 = 0 then vp_updL f 0 R.2.1.toInt64 else f)) t.heap) (gOr (fIv q 201) (fIv o 1))) 1 6 (gOr (fIv q 201) (fIv o 1)) := by
  refine gMet_ofWH (cc := cL_takeOff) (maxL := 4) (ret := (some .int)) (hh := [(0, 9, 12, 28), (0, 9, 15, 15)]) (by decide) rfl ?_
  intro p e s m args below meth c s₁ B hml hv
  obtain ⟨rfl, ⟨hP, hK⟩, hE⟩ := hv
  have hx := B.exec
  have hb := B.bytes
  have hr := B.returns
  have hts := atoms_spec (ws := wsL_takeOff) B.pre
  have hown : s.vm.findClass RL = some m.cls := findClass_of_methodNamed B.named
  have hlocks := B.notSynchronized
  have htb : c.exceptionTable.toList = tableOf [(0, 9, 12, 28), (0, 9, 15, 15)] := vx_table (x := yL_takeOff) B (hts (.codeWith yL_takeOff cL_takeOff 4 (some .int) [(0, 9, 12, 28), (0, 9, 15, 15)]) (by decide +kernel))
  have hl := lv_entry ([.ref q, .int p0, .ref o]) (n := 4) (Nat.le_of_ble_eq_true rfl)
  rw [lg_entry_eq]
  generalize (lg_sl ([.ref q, .int p0, .ref o]) ++ List.replicate (4 - (lg_sl ([.ref q, .int p0, .ref o])).length) Slot.unset).toArray = ls at hl ⊢
  have hl : lv_has ls 4 [(0, .ref q), (1, .int p0), (2, .ref o)] := hl
  have hS : va_S (gOr (fIv q 201) (fIv o 1)) s.heap s.heap [] := va_S.rf
  refine lv_aload_n hx hb dL_takeOff_0 rfl (lv_at hl 2 rfl) ?_
  refine lv_iconst (v := 0) hx hb dL_takeOff_1 (by decide) ?_
  refine lv_aload_n hx hb dL_takeOff_2 rfl (lv_at hl 0 rfl) ?_
  refine lv_iload_n hx hb dL_takeOff_3 rfl (lv_at hl 1 rfl) ?_
  refine vx_calli (vx_runV (As := [.int p0]) (rest := [.int 0, .ref o]) ⟨hx, hb, hml, hown, hts⟩ (kX4_takeOff l D cI cC cZ cQ cJ t lo q G p0 hlo hlS h) (cwV 1 hts gL_takeOff_X4_takeOff rfl rfl rfl (by decide +kernel) ⟨Nat.le_of_ble_eq_true rfl, Nat.le_of_ble_eq_true rfl⟩) ⟨gBe_blind, va_recv hK (gL (w1 := GW cI cC cZ cQ q G) hP) (ci := 4) (q0 := 0) rfl rfl, fun U hU hW => ⟨rfl, ⟨by rw [hU]; exact gL (w1 := GW cI cC cZ cQ q G) hP, va_K.moved hW.alike hK⟩, by rw [hU]; exact hE.1.warm hW⟩⟩ rfl rfl hl.1 rfl (lv_room (Nat.le_of_ble_eq_true rfl)) dL_takeOff_4 ⟨Nat.le_of_ble_eq_true rfl, Nat.le_of_ble_eq_true rfl⟩) hS (fun q9 _ h9 => Or.inl h9) (fun q9 h9 => Or.inl h9) (fun q9 _ h9 => Or.inl h9) (fun E ce q9 u t9 H1 locs ht hvm hu hBX hz hk1 hS hce hcv hcl => ?_) (fun r u t9 H1 locs ht hvm hw hB hz hk1 hS => ?_)
  · obtain ⟨hEq, hne, hB⟩ := hBX
    rw [ht] at hB
    have hP := GWO_put ho hP hB hk1
    rcases hc with hc | hc | hc
    · exact absurd hc hne
    · have hEq : E = gIOB := by rw [hEq, hc]; rfl
      subst hEq
      refine vx_catch (name := gIOB) hown [] ⟨0, 9, 12, 28⟩ [⟨0, 9, 15, 15⟩] (by rw [htb]; rfl) (fun z9 hz9 => nomatch hz9) (by decide) (by decide) (hts (.classLink RL 28 gIOB) (by decide +kernel)) (va_Nw.use rfl (hE.1.2.2.2.2.1 gIOB (by decide +kernel))) hce hcv hcl ?_
      refine lv_astore_n (lv' := [(3, .ref q9), (0, .ref q), (1, .int p0), (2, .ref o)]) hx hb dL_takeOff_12 rfl hl (by decide) rfl (fun ls hl => ?_)
      refine lv_iconst (v := 1) hx hb dL_takeOff_13 (by decide) ?_
      exact W.iret (v := 1) hx hb hr (fun t ht hW => ⟨⟨_, (), rfl, by rw [hc]; rfl, by show va_P D vwCl _ t.heap; rw [if_neg hne, ht]; exact hP⟩, hS.F ht⟩) hS.2.2 dL_takeOff_14
    · have hEq : E = gISE := by rw [hEq, hc]; rfl
      subst hEq
      refine vx_catch (name := gISE) hown [⟨0, 9, 12, 28⟩] ⟨0, 9, 15, 15⟩ [] (by rw [htb]; rfl) (fun z9 hz9 => by rw [List.mem_singleton.mp hz9]; exact Or.inr ⟨by decide, gIOB, hts (.classLink RL 28 gIOB) (by decide +kernel), hE.2 (gISE, gIOB) (by decide +kernel)⟩) (by decide) (by decide) (hts (.classLink RL 15 gISE) (by decide +kernel)) (va_Nw.use rfl (hE.1.2.2.2.2.1 gISE (by decide +kernel))) hce hcv hcl ?_
      refine lv_astore_n (lv' := [(3, .ref q9), (0, .ref q), (1, .int p0), (2, .ref o)]) hx hb dL_takeOff_15 rfl hl (by decide) rfl (fun ls hl => ?_)
      refine lv_iconst (v := 2) hx hb dL_takeOff_16 (by decide) ?_
      exact W.iret (v := 2) hx hb hr (fun t ht hW => ⟨⟨_, (), rfl, by rw [hc]; rfl, by show va_P D vwCl _ t.heap; rw [if_neg hne, ht]; exact hP⟩, hS.F ht⟩) hS.2.2 dL_takeOff_17
  · obtain ⟨hw0, rfl⟩ := hw
    rw [ht] at hB
    have hP := GWO_put ho hP hB hk1
    generalize H1 = H at hP hS ⊢
    refine lv_i2l hx hb dL_takeOff_7 rfl ?_
    refine va_last (f := f) (i := 0) hx hb hK hP (GWO_self ho) hS 201 4 GWO_at rfl (vin_lit rfl) dL_takeOff_8 (fun H locs hP _ hS => ?_)
    rw [GWO_set] at hP
    refine lv_goto (tgt := 18) hx hb dL_takeOff_9 (by decide) ?_
    refine lv_iconst (v := 0) hx hb dL_takeOff_18 (by decide) ?_
    exact W.iret (v := 0) hx hb hr (fun t ht hW => ⟨⟨_, (), rfl, by rw [hw0]; rfl, by show va_P D vwCl _ t.heap; rw [if_pos hw0, ht]; exact hP⟩, hS.F ht⟩) hS.2.2 dL_takeOff_19
set_option maxHeartbeats 4000000 in
set_option maxRecDepth 100000 in
theorem kL_scrap (l : Launch) (D : va_G) (cI cC cZ cQ cJ : ClassId) (t lo q o : Nat) (G : GSt) (f : Nat → Int64) (p0 : Int32) (ho : q + 201 ≤ o) (hlo : lo ≤ q) (hlS : l.stackTraces = false) {R : Nat × Int32 × GSt} (h : fX4_scrap G p0 = some R) (hc : R.1 = 0 ∨ R.1 = 3 ∨ R.1 = 2) : Met l yL_scrap wsL_scrap ({ frames := 7, cells := 1, slots := 6, locals := 126 } : Room) (va_Pc [.ref q, .int p0, .ref o] (gBw D (gTy cI cC cZ cQ cJ) t lo (va_P D vwCl (GWO cI cC cZ cQ cJ q o G f)))) (va_Qi (fun r (_ : Unit) => r = gm 3 2 R.1) (fun _ t => va_P D vwCl (GWO cI cC cZ cQ cJ q o R.2.2 (if R.1 = 0 then vp_updL f 0 R.2.1.toInt64 else f)) t.heap) (gOr (fIv q 201) (fIv o 1))) 1 6 (gOr (fIv q 201) (fIv o 1)) := by
  refine gMet_ofWH (cc := cL_scrap) (maxL := 4) (ret := (some .int)) (hh := [(0, 9, 12, 28), (0, 9, 15, 15)]) (by decide) rfl ?_
  intro p e s m args below meth c s₁ B hml hv
  obtain ⟨rfl, ⟨hP, hK⟩, hE⟩ := hv
  have hx := B.exec
  have hb := B.bytes
  have hr := B.returns
  have hts := atoms_spec (ws := wsL_scrap) B.pre
  have hown : s.vm.findClass RL = some m.cls := findClass_of_methodNamed B.named
  have hlocks := B.notSynchronized
  have htb : c.exceptionTable.toList = tableOf [(0, 9, 12, 28), (0, 9, 15, 15)] := vx_table (x := yL_scrap) B (hts (.codeWith yL_scrap cL_scrap 4 (some .int) [(0, 9, 12, 28), (0, 9, 15, 15)]) (by decide +kernel))
  have hl := lv_entry ([.ref q, .int p0, .ref o]) (n := 4) (Nat.le_of_ble_eq_true rfl)
  rw [lg_entry_eq]
  generalize (lg_sl ([.ref q, .int p0, .ref o]) ++ List.replicate (4 - (lg_sl ([.ref q, .int p0, .ref o])).length) Slot.unset).toArray = ls at hl ⊢
  have hl : lv_has ls 4 [(0, .ref q), (1, .int p0), (2, .ref o)] := hl
  have hS : va_S (gOr (fIv q 201) (fIv o 1)) s.heap s.heap [] := va_S.rf
  refine lv_aload_n hx hb dL_scrap_0 rfl (lv_at hl 2 rfl) ?_
  refine lv_iconst (v := 0) hx hb dL_scrap_1 (by decide) ?_
  refine lv_aload_n hx hb dL_scrap_2 rfl (lv_at hl 0 rfl) ?_
  refine lv_iload_n hx hb dL_scrap_3 rfl (lv_at hl 1 rfl) ?_
  refine vx_calli (vx_runV (As := [.int p0]) (rest := [.int 0, .ref o]) ⟨hx, hb, hml, hown, hts⟩ (kX4_scrap l D cI cC cZ cQ cJ t lo q G p0 hlo hlS h) (cwV 1 hts gL_scrap_X4_scrap rfl rfl rfl (by decide +kernel) ⟨Nat.le_of_ble_eq_true rfl, Nat.le_of_ble_eq_true rfl⟩) ⟨gBe_blind, va_recv hK (gL (w1 := GW cI cC cZ cQ q G) hP) (ci := 4) (q0 := 0) rfl rfl, fun U hU hW => ⟨rfl, ⟨by rw [hU]; exact gL (w1 := GW cI cC cZ cQ q G) hP, va_K.moved hW.alike hK⟩, by rw [hU]; exact hE.1.warm hW⟩⟩ rfl rfl hl.1 rfl (lv_room (Nat.le_of_ble_eq_true rfl)) dL_scrap_4 ⟨Nat.le_of_ble_eq_true rfl, Nat.le_of_ble_eq_true rfl⟩) hS (fun q9 _ h9 => Or.inl h9) (fun q9 h9 => Or.inl h9) (fun q9 _ h9 => Or.inl h9) (fun E ce q9 u t9 H1 locs ht hvm hu hBX hz hk1 hS hce hcv hcl => ?_) (fun r u t9 H1 locs ht hvm hw hB hz hk1 hS => ?_)
  · obtain ⟨hEq, hne, hB⟩ := hBX
    rw [ht] at hB
    have hP := GWO_put ho hP hB hk1
    rcases hc with hc | hc | hc
    · exact absurd hc hne
    · have hEq : E = gIOB := by rw [hEq, hc]; rfl
      subst hEq
      refine vx_catch (name := gIOB) hown [] ⟨0, 9, 12, 28⟩ [⟨0, 9, 15, 15⟩] (by rw [htb]; rfl) (fun z9 hz9 => nomatch hz9) (by decide) (by decide) (hts (.classLink RL 28 gIOB) (by decide +kernel)) (va_Nw.use rfl (hE.1.2.2.2.2.1 gIOB (by decide +kernel))) hce hcv hcl ?_
      refine lv_astore_n (lv' := [(3, .ref q9), (0, .ref q), (1, .int p0), (2, .ref o)]) hx hb dL_scrap_12 rfl hl (by decide) rfl (fun ls hl => ?_)
      refine lv_iconst (v := 1) hx hb dL_scrap_13 (by decide) ?_
      exact W.iret (v := 1) hx hb hr (fun t ht hW => ⟨⟨_, (), rfl, by rw [hc]; rfl, by show va_P D vwCl _ t.heap; rw [if_neg hne, ht]; exact hP⟩, hS.F ht⟩) hS.2.2 dL_scrap_14
    · have hEq : E = gISE := by rw [hEq, hc]; rfl
      subst hEq
      refine vx_catch (name := gISE) hown [⟨0, 9, 12, 28⟩] ⟨0, 9, 15, 15⟩ [] (by rw [htb]; rfl) (fun z9 hz9 => by rw [List.mem_singleton.mp hz9]; exact Or.inr ⟨by decide, gIOB, hts (.classLink RL 28 gIOB) (by decide +kernel), hE.2 (gISE, gIOB) (by decide +kernel)⟩) (by decide) (by decide) (hts (.classLink RL 15 gISE) (by decide +kernel)) (va_Nw.use rfl (hE.1.2.2.2.2.1 gISE (by decide +kernel))) hce hcv hcl ?_
      refine lv_astore_n (lv' := [(3, .ref q9), (0, .ref q), (1, .int p0), (2, .ref o)]) hx hb dL_scrap_15 rfl hl (by decide) rfl (fun ls hl => ?_)
      refine lv_iconst (v := 2) hx hb dL_scrap_16 (by decide) ?_
      exact W.iret (v := 2) hx hb hr (fun t ht hW => ⟨⟨_, (), rfl, by rw [hc]; rfl, by show va_P D vwCl _ t.heap; rw [if_neg hne, ht]; exact hP⟩, hS.F ht⟩) hS.2.2 dL_scrap_17
  · obtain ⟨hw0, rfl⟩ := hw
    rw [ht] at hB
    have hP := GWO_put ho hP hB hk1
    generalize H1 = H at hP hS ⊢
    refine lv_i2l hx hb dL_scrap_7 rfl ?_
    refine va_last (f := f) (i := 0) hx hb hK hP (GWO_self ho) hS 201 4 GWO_at rfl (vin_lit rfl) dL_scrap_8 (fun H locs hP _ hS => ?_)
    rw [GWO_set] at hP
    refine lv_goto (tgt := 18) hx hb dL_scrap_9 (by decide) ?_
    refine lv_iconst (v := 0) hx hb dL_scrap_18 (by decide) ?_
    exact W.iret (v := 0) hx hb hr (fun t ht hW => ⟨⟨_, (), rfl, by rw [hw0]; rfl, by show va_P D vwCl _ t.heap; rw [if_pos hw0, ht]; exact hP⟩, hS.F ht⟩) hS.2.2 dL_scrap_19
set_option maxHeartbeats 4000000 in
set_option maxRecDepth 100000 in
theorem kL_setLimit (l : Launch) (D : va_G) (cI cC cZ cQ cJ : ClassId) (t lo q o : Nat) (G : GSt) (f : Nat → Int64) (p0 : Int32) (p1 : Int32) (ho : q + 201 ≤ o) (hlo : lo ≤ q) (hlS : l.stackTraces = false) {R : Nat × Int32 × GSt} (h : fX4_setLimit G p0 p1 = some R) (hc : R.1 = 0 ∨ R.1 = 1) : Met l yL_setLimit wsL_setLimit ({ frames := 7, cells := 1, slots := 6, locals := 127 } : Room) (va_Pc [.ref q, .int p0, .int p1, .ref o] (gBw D (gTy cI cC cZ cQ cJ) t lo (va_P D vwCl (GWO cI cC cZ cQ cJ q o G f)))) (va_Qi (fun r (_ : Unit) => r = gm 1 9 R.1) (fun _ t => va_P D vwCl (GWO cI cC cZ cQ cJ q o R.2.2 (if R.1 = 0 then vp_updL f 0 R.2.1.toInt64 else f)) t.heap) (gOr (fIv q 201) (fIv o 1))) 1 6 (gOr (fIv q 201) (fIv o 1)) := by
  refine gMet_ofWH (cc := cL_setLimit) (maxL := 5) (ret := (some .int)) (hh := [(0, 10, 13, 13)]) (by decide) rfl ?_
  intro p e s m args below meth c s₁ B hml hv
  obtain ⟨rfl, ⟨hP, hK⟩, hE⟩ := hv
  have hx := B.exec
  have hb := B.bytes
  have hr := B.returns
  have hts := atoms_spec (ws := wsL_setLimit) B.pre
  have hown : s.vm.findClass RL = some m.cls := findClass_of_methodNamed B.named
  have hlocks := B.notSynchronized
  have htb : c.exceptionTable.toList = tableOf [(0, 10, 13, 13)] := vx_table (x := yL_setLimit) B (hts (.codeWith yL_setLimit cL_setLimit 5 (some .int) [(0, 10, 13, 13)]) (by decide +kernel))
  have hl := lv_entry ([.ref q, .int p0, .int p1, .ref o]) (n := 5) (Nat.le_of_ble_eq_true rfl)
  rw [lg_entry_eq]
  generalize (lg_sl ([.ref q, .int p0, .int p1, .ref o]) ++ List.replicate (5 - (lg_sl ([.ref q, .int p0, .int p1, .ref o])).length) Slot.unset).toArray = ls at hl ⊢
  have hl : lv_has ls 5 [(0, .ref q), (1, .int p0), (2, .int p1), (3, .ref o)] := hl
  have hS : va_S (gOr (fIv q 201) (fIv o 1)) s.heap s.heap [] := va_S.rf
  refine lv_aload_n hx hb dL_setLimit_0 rfl (lv_at hl 3 rfl) ?_
  refine lv_iconst (v := 0) hx hb dL_setLimit_1 (by decide) ?_
  refine lv_aload_n hx hb dL_setLimit_2 rfl (lv_at hl 0 rfl) ?_
  refine lv_iload_n hx hb dL_setLimit_3 rfl (lv_at hl 1 rfl) ?_
  refine lv_iload_n hx hb dL_setLimit_4 rfl (lv_at hl 2 rfl) ?_
  refine vx_calli (vx_runV (As := [.int p0, .int p1]) (rest := [.int 0, .ref o]) ⟨hx, hb, hml, hown, hts⟩ (kX4_setLimit l D cI cC cZ cQ cJ t lo q G p0 p1 hlo hlS h) (cwV 2 hts gL_setLimit_X4_setLimit rfl rfl rfl (by decide +kernel) ⟨Nat.le_of_ble_eq_true rfl, Nat.le_of_ble_eq_true rfl⟩) ⟨gBe_blind, va_recv hK (gL (w1 := GW cI cC cZ cQ q G) hP) (ci := 4) (q0 := 0) rfl rfl, fun U hU hW => ⟨rfl, ⟨by rw [hU]; exact gL (w1 := GW cI cC cZ cQ q G) hP, va_K.moved hW.alike hK⟩, by rw [hU]; exact hE.1.warm hW⟩⟩ rfl rfl hl.1 rfl (lv_room (Nat.le_of_ble_eq_true rfl)) dL_setLimit_5 ⟨Nat.le_of_ble_eq_true rfl, Nat.le_of_ble_eq_true rfl⟩) hS (fun q9 _ h9 => Or.inl h9) (fun q9 h9 => Or.inl h9) (fun q9 _ h9 => Or.inl h9) (fun E ce q9 u t9 H1 locs ht hvm hu hBX hz hk1 hS hce hcv hcl => ?_) (fun r u t9 H1 locs ht hvm hw hB hz hk1 hS => ?_)
  · obtain ⟨hEq, hne, hB⟩ := hBX
    rw [ht] at hB
    have hP := GWO_put ho hP hB hk1
    rcases hc with hc | hc
    · exact absurd hc hne
    · have hEq : E = gIAE := by rw [hEq, hc]; rfl
      subst hEq
      refine vx_catch (name := gIAE) hown [] ⟨0, 10, 13, 13⟩ [] (by rw [htb]; rfl) (fun z9 hz9 => nomatch hz9) (by decide) (by decide) (hts (.classLink RL 13 gIAE) (by decide +kernel)) (va_Nw.use rfl (hE.1.2.2.2.2.1 gIAE (by decide +kernel))) hce hcv hcl ?_
      refine lv_astore (lv' := [(4, .ref q9), (0, .ref q), (1, .int p0), (2, .int p1), (3, .ref o)]) hx hb dL_setLimit_13 hl (by decide) rfl (fun ls hl => ?_)
      refine lv_iconst (v := 1) hx hb dL_setLimit_15 (by decide) ?_
      exact W.iret (v := 1) hx hb hr (fun t ht hW => ⟨⟨_, (), rfl, by rw [hc]; rfl, by show va_P D vwCl _ t.heap; rw [if_neg hne, ht]; exact hP⟩, hS.F ht⟩) hS.2.2 dL_setLimit_16
  · obtain ⟨hw0, rfl⟩ := hw
    rw [ht] at hB
    have hP := GWO_put ho hP hB hk1
    generalize H1 = H at hP hS ⊢
    refine lv_i2l hx hb dL_setLimit_8 rfl ?_
    refine va_last (f := f) (i := 0) hx hb hK hP (GWO_self ho) hS 201 4 GWO_at rfl (vin_lit rfl) dL_setLimit_9 (fun H locs hP _ hS => ?_)
    rw [GWO_set] at hP
    refine lv_goto (tgt := 17) hx hb dL_setLimit_10 (by decide) ?_
    refine lv_iconst (v := 0) hx hb dL_setLimit_17 (by decide) ?_
    exact W.iret (v := 0) hx hb hr (fun t ht hW => ⟨⟨_, (), rfl, by rw [hw0]; rfl, by show va_P D vwCl _ t.heap; rw [if_pos hw0, ht]; exact hP⟩, hS.F ht⟩) hS.2.2 dL_setLimit_18

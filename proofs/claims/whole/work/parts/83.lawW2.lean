set_option maxHeartbeats 4000000 in
set_option maxRecDepth 100000 in
theorem kL_undo (l : Launch) (D : va_G) (cI cC cZ cQ cJ : ClassId) (t lo q o : Nat) (G : GSt) (f : Nat → Int64) (ho : q + 201 ≤ o) (hlo : lo ≤ q) (hlS : l.stackTraces = false) {R : Nat × Int32 × GSt} (h : fX4_undo G = some R) (hc : R.1 = 0 ∨ R.1 = 2) : Met l yL_undo wsL_undo ({ frames := 7, cells := 1, slots := 6, locals := 104 } : Room) (va_Pc [.ref q, .ref o] (gBw D (gTy cI cC cZ cQ cJ) t lo (va_P D vwCl (GWO cI cC cZ cQ cJ q o G f)))) (va_Qi (fun r (_ : Unit) => r = gm 2 9 R.1) (fun _ t => va_P D vwCl (GWO cI cC cZ cQ cJ q o R.2.2 (if R.1 = 0 then vp_updL f 0 R.2.1.toInt64 else f)) t.heap) (gOr (fIv q 201) (fIv o 1))) 1 6 (gOr (fIv q 201) (fIv o 1)) := by
  refine gMet_ofWH (cc := cL_undo) (maxL := 3) (ret := (some .int)) (hh := [(0, 8, 11, 15)]) (by decide) rfl ?_
  intro p e s m args below meth c s₁ B hml hv
  obtain ⟨rfl, ⟨hP, hK⟩, hE⟩ := hv
  have hx := B.exec
  have hb := B.bytes
  have hr := B.returns
  have hts := atoms_spec (ws := wsL_undo) B.pre
  have hown : s.vm.findClass RL = some m.cls := findClass_of_methodNamed B.named
  have hlocks := B.notSynchronized
  have htb : c.exceptionTable.toList = tableOf [(0, 8, 11, 15)] := vx_table (x := yL_undo) B (hts (.codeWith yL_undo cL_undo 3 (some .int) [(0, 8, 11, 15)]) (by decide +kernel))
  have hl := lv_entry ([.ref q, .ref o]) (n := 3) (Nat.le_of_ble_eq_true rfl)
  rw [lg_entry_eq]
  generalize (lg_sl ([.ref q, .ref o]) ++ List.replicate (3 - (lg_sl ([.ref q, .ref o])).length) Slot.unset).toArray = ls at hl ⊢
  have hl : lv_has ls 3 [(0, .ref q), (1, .ref o)] := hl
  have hS : va_S (gOr (fIv q 201) (fIv o 1)) s.heap s.heap [] := va_S.rf
  refine lv_aload_n hx hb dL_undo_0 rfl (lv_at hl 1 rfl) ?_
  refine lv_iconst (v := 0) hx hb dL_undo_1 (by decide) ?_
  refine lv_aload_n hx hb dL_undo_2 rfl (lv_at hl 0 rfl) ?_
  refine vx_calli (vx_runV (As := []) (rest := [.int 0, .ref o]) ⟨hx, hb, hml, hown, hts⟩ (kX4_undo l D cI cC cZ cQ cJ t lo q G hlo hlS h) (cwV 0 hts gL_undo_X4_undo rfl rfl rfl (by decide +kernel) ⟨Nat.le_of_ble_eq_true rfl, Nat.le_of_ble_eq_true rfl⟩) ⟨gBe_blind, va_recv hK (gL (w1 := GW cI cC cZ cQ q G) hP) (ci := 4) (q0 := 0) rfl rfl, fun U hU hW => ⟨rfl, ⟨by rw [hU]; exact gL (w1 := GW cI cC cZ cQ q G) hP, va_K.moved hW.alike hK⟩, by rw [hU]; exact hE.1.warm hW⟩⟩ rfl rfl hl.1 rfl (lv_room (Nat.le_of_ble_eq_true rfl)) dL_undo_3 ⟨Nat.le_of_ble_eq_true rfl, Nat.le_of_ble_eq_true rfl⟩) hS (fun q9 _ h9 => Or.inl h9) (fun q9 h9 => Or.inl h9) (fun q9 _ h9 => Or.inl h9) (fun E ce q9 u t9 H1 locs ht hvm hu hBX hz hk1 hS hce hcv hcl => ?_) (fun r u t9 H1 locs ht hvm hw hB hz hk1 hS => ?_)
  · obtain ⟨hEq, hne, hB⟩ := hBX
    rw [ht] at hB
    have hP := GWO_put ho hP hB hk1
    rcases hc with hc | hc
    · exact absurd hc hne
    · have hEq : E = gISE := by rw [hEq, hc]; rfl
      subst hEq
      refine vx_catch (name := gISE) hown [] ⟨0, 8, 11, 15⟩ [] (by rw [htb]; rfl) (fun z9 hz9 => nomatch hz9) (by decide) (by decide) (hts (.classLink RL 15 gISE) (by decide +kernel)) (va_Nw.use rfl (hE.1.2.2.2.2.1 gISE (by decide +kernel))) hce hcv hcl ?_
      refine lv_astore_n (lv' := [(2, .ref q9), (0, .ref q), (1, .ref o)]) hx hb dL_undo_11 rfl hl (by decide) rfl (fun ls hl => ?_)
      refine lv_iconst (v := 1) hx hb dL_undo_12 (by decide) ?_
      exact W.iret (v := 1) hx hb hr (fun t ht hW => ⟨⟨_, (), rfl, by rw [hc]; rfl, by show va_P D vwCl _ t.heap; rw [if_neg hne, ht]; exact hP⟩, hS.F ht⟩) hS.2.2 dL_undo_13
  · obtain ⟨hw0, rfl⟩ := hw
    rw [ht] at hB
    have hP := GWO_put ho hP hB hk1
    generalize H1 = H at hP hS ⊢
    refine lv_i2l hx hb dL_undo_6 rfl ?_
    refine va_last (f := f) (i := 0) hx hb hK hP (GWO_self ho) hS 201 4 GWO_at rfl (vin_lit rfl) dL_undo_7 (fun H locs hP _ hS => ?_)
    rw [GWO_set] at hP
    refine lv_goto (tgt := 14) hx hb dL_undo_8 (by decide) ?_
    refine lv_iconst (v := 0) hx hb dL_undo_14 (by decide) ?_
    exact W.iret (v := 0) hx hb hr (fun t ht hW => ⟨⟨_, (), rfl, by rw [hw0]; rfl, by show va_P D vwCl _ t.heap; rw [if_pos hw0, ht]; exact hP⟩, hS.F ht⟩) hS.2.2 dL_undo_15
set_option maxHeartbeats 4000000 in
set_option maxRecDepth 100000 in
theorem kL_gap (l : Launch) (D : va_G) (cI cC cZ cQ cJ : ClassId) (t lo q o : Nat) (G : GSt) (f : Nat → Int64) (p0 : Int32) (ho : q + 201 ≤ o) (hlo : lo ≤ q) (hlS : l.stackTraces = false) {R : Nat × Int32 × GSt} (h : fX4_gap G p0 = some R) (hc : R.1 = 0 ∨ R.1 = 3) : Met l yL_gap wsL_gap ({ frames := 7, cells := 1, slots := 6, locals := 103 } : Room) (va_Pc [.ref q, .int p0, .ref o] (gBw D (gTy cI cC cZ cQ cJ) t lo (va_P D vwCl (GWO cI cC cZ cQ cJ q o G f)))) (va_Qi (fun r (_ : Unit) => r = gm 3 9 R.1) (fun _ t => va_P D vwCl (GWO cI cC cZ cQ cJ q o R.2.2 (if R.1 = 0 then vp_updL f 0 R.2.1.toInt64 else f)) t.heap) (gOr (fIv q 201) (fIv o 1))) 1 6 (gOr (fIv q 201) (fIv o 1)) := by
  refine gMet_ofWH (cc := cL_gap) (maxL := 4) (ret := (some .int)) (hh := [(0, 9, 12, 28)]) (by decide) rfl ?_
  intro p e s m args below meth c s₁ B hml hv
  obtain ⟨rfl, ⟨hP, hK⟩, hE⟩ := hv
  have hx := B.exec
  have hb := B.bytes
  have hr := B.returns
  have hts := atoms_spec (ws := wsL_gap) B.pre
  have hown : s.vm.findClass RL = some m.cls := findClass_of_methodNamed B.named
  have hlocks := B.notSynchronized
  have htb : c.exceptionTable.toList = tableOf [(0, 9, 12, 28)] := vx_table (x := yL_gap) B (hts (.codeWith yL_gap cL_gap 4 (some .int) [(0, 9, 12, 28)]) (by decide +kernel))
  have hl := lv_entry ([.ref q, .int p0, .ref o]) (n := 4) (Nat.le_of_ble_eq_true rfl)
  rw [lg_entry_eq]
  generalize (lg_sl ([.ref q, .int p0, .ref o]) ++ List.replicate (4 - (lg_sl ([.ref q, .int p0, .ref o])).length) Slot.unset).toArray = ls at hl ⊢
  have hl : lv_has ls 4 [(0, .ref q), (1, .int p0), (2, .ref o)] := hl
  have hS : va_S (gOr (fIv q 201) (fIv o 1)) s.heap s.heap [] := va_S.rf
  refine lv_aload_n hx hb dL_gap_0 rfl (lv_at hl 2 rfl) ?_
  refine lv_iconst (v := 0) hx hb dL_gap_1 (by decide) ?_
  refine lv_aload_n hx hb dL_gap_2 rfl (lv_at hl 0 rfl) ?_
  refine lv_iload_n hx hb dL_gap_3 rfl (lv_at hl 1 rfl) ?_
  refine vx_calli (vx_runV (As := [.int p0]) (rest := [.int 0, .ref o]) ⟨hx, hb, hml, hown, hts⟩ (kX4_gap l D cI cC cZ cQ cJ t lo q G p0 hlo hlS h) (cwV 1 hts gL_gap_X4_gap rfl rfl rfl (by decide +kernel) ⟨Nat.le_of_ble_eq_true rfl, Nat.le_of_ble_eq_true rfl⟩) ⟨gBe_blind, va_recv hK (gL (w1 := GW cI cC cZ cQ q G) hP) (ci := 4) (q0 := 0) rfl rfl, fun U hU hW => ⟨rfl, ⟨by rw [hU]; exact gL (w1 := GW cI cC cZ cQ q G) hP, va_K.moved hW.alike hK⟩, by rw [hU]; exact hE.1.warm hW⟩⟩ rfl rfl hl.1 rfl (lv_room (Nat.le_of_ble_eq_true rfl)) dL_gap_4 ⟨Nat.le_of_ble_eq_true rfl, Nat.le_of_ble_eq_true rfl⟩) hS (fun q9 _ h9 => Or.inl h9) (fun q9 h9 => Or.inl h9) (fun q9 _ h9 => Or.inl h9) (fun E ce q9 u t9 H1 locs ht hvm hu hBX hz hk1 hS hce hcv hcl => ?_) (fun r u t9 H1 locs ht hvm hw hB hz hk1 hS => ?_)
  · obtain ⟨hEq, hne, hB⟩ := hBX
    rw [ht] at hB
    have hP := GWO_put ho hP hB hk1
    rcases hc with hc | hc
    · exact absurd hc hne
    · have hEq : E = gIOB := by rw [hEq, hc]; rfl
      subst hEq
      refine vx_catch (name := gIOB) hown [] ⟨0, 9, 12, 28⟩ [] (by rw [htb]; rfl) (fun z9 hz9 => nomatch hz9) (by decide) (by decide) (hts (.classLink RL 28 gIOB) (by decide +kernel)) (va_Nw.use rfl (hE.1.2.2.2.2.1 gIOB (by decide +kernel))) hce hcv hcl ?_
      refine lv_astore_n (lv' := [(3, .ref q9), (0, .ref q), (1, .int p0), (2, .ref o)]) hx hb dL_gap_12 rfl hl (by decide) rfl (fun ls hl => ?_)
      refine lv_iconst (v := 1) hx hb dL_gap_13 (by decide) ?_
      exact W.iret (v := 1) hx hb hr (fun t ht hW => ⟨⟨_, (), rfl, by rw [hc]; rfl, by show va_P D vwCl _ t.heap; rw [if_neg hne, ht]; exact hP⟩, hS.F ht⟩) hS.2.2 dL_gap_14
  · obtain ⟨hw0, rfl⟩ := hw
    rw [ht] at hB
    have hP := GWO_put ho hP hB hk1
    generalize H1 = H at hP hS ⊢
    refine lv_i2l hx hb dL_gap_7 rfl ?_
    refine va_last (f := f) (i := 0) hx hb hK hP (GWO_self ho) hS 201 4 GWO_at rfl (vin_lit rfl) dL_gap_8 (fun H locs hP _ hS => ?_)
    rw [GWO_set] at hP
    refine lv_goto (tgt := 15) hx hb dL_gap_9 (by decide) ?_
    refine lv_iconst (v := 0) hx hb dL_gap_15 (by decide) ?_
    exact W.iret (v := 0) hx hb hr (fun t ht hW => ⟨⟨_, (), rfl, by rw [hw0]; rfl, by show va_P D vwCl _ t.heap; rw [if_pos hw0, ht]; exact hP⟩, hS.F ht⟩) hS.2.2 dL_gap_16
set_option maxHeartbeats 4000000 in
set_option maxRecDepth 100000 in
theorem kL_room (l : Launch) (D : va_G) (cI cC cZ cQ cJ : ClassId) (t lo q o : Nat) (G : GSt) (f : Nat → Int64) (p0 : Int32) (ho : q + 201 ≤ o) (hlo : lo ≤ q) (hlS : l.stackTraces = false) {R : Nat × Int32 × GSt} (h : fX4_room G p0 = some R) (hc : R.1 = 0 ∨ R.1 = 1) : Met l yL_room wsL_room ({ frames := 7, cells := 1, slots := 6, locals := 103 } : Room) (va_Pc [.ref q, .int p0, .ref o] (gBw D (gTy cI cC cZ cQ cJ) t lo (va_P D vwCl (GWO cI cC cZ cQ cJ q o G f)))) (va_Qi (fun r (_ : Unit) => r = gm 1 9 R.1) (fun _ t => va_P D vwCl (GWO cI cC cZ cQ cJ q o R.2.2 (if R.1 = 0 then vp_updL f 0 R.2.1.toInt64 else f)) t.heap) (gOr (fIv q 201) (fIv o 1))) 1 6 (gOr (fIv q 201) (fIv o 1)) := by
  refine gMet_ofWH (cc := cL_room) (maxL := 4) (ret := (some .int)) (hh := [(0, 9, 12, 13)]) (by decide) rfl ?_
  intro p e s m args below meth c s₁ B hml hv
  obtain ⟨rfl, ⟨hP, hK⟩, hE⟩ := hv
  have hx := B.exec
  have hb := B.bytes
  have hr := B.returns
  have hts := atoms_spec (ws := wsL_room) B.pre
  have hown : s.vm.findClass RL = some m.cls := findClass_of_methodNamed B.named
  have hlocks := B.notSynchronized
  have htb : c.exceptionTable.toList = tableOf [(0, 9, 12, 13)] := vx_table (x := yL_room) B (hts (.codeWith yL_room cL_room 4 (some .int) [(0, 9, 12, 13)]) (by decide +kernel))
  have hl := lv_entry ([.ref q, .int p0, .ref o]) (n := 4) (Nat.le_of_ble_eq_true rfl)
  rw [lg_entry_eq]
  generalize (lg_sl ([.ref q, .int p0, .ref o]) ++ List.replicate (4 - (lg_sl ([.ref q, .int p0, .ref o])).length) Slot.unset).toArray = ls at hl ⊢
  have hl : lv_has ls 4 [(0, .ref q), (1, .int p0), (2, .ref o)] := hl
  have hS : va_S (gOr (fIv q 201) (fIv o 1)) s.heap s.heap [] := va_S.rf
  refine lv_aload_n hx hb dL_room_0 rfl (lv_at hl 2 rfl) ?_
  refine lv_iconst (v := 0) hx hb dL_room_1 (by decide) ?_
  refine lv_aload_n hx hb dL_room_2 rfl (lv_at hl 0 rfl) ?_
  refine lv_iload_n hx hb dL_room_3 rfl (lv_at hl 1 rfl) ?_
  refine vx_calli (vx_runV (As := [.int p0]) (rest := [.int 0, .ref o]) ⟨hx, hb, hml, hown, hts⟩ (kX4_room l D cI cC cZ cQ cJ t lo q G p0 hlo hlS h) (cwV 1 hts gL_room_X4_room rfl rfl rfl (by decide +kernel) ⟨Nat.le_of_ble_eq_true rfl, Nat.le_of_ble_eq_true rfl⟩) ⟨gBe_blind, va_recv hK (gL (w1 := GW cI cC cZ cQ q G) hP) (ci := 4) (q0 := 0) rfl rfl, fun U hU hW => ⟨rfl, ⟨by rw [hU]; exact gL (w1 := GW cI cC cZ cQ q G) hP, va_K.moved hW.alike hK⟩, by rw [hU]; exact hE.1.warm hW⟩⟩ rfl rfl hl.1 rfl (lv_room (Nat.le_of_ble_eq_true rfl)) dL_room_4 ⟨Nat.le_of_ble_eq_true rfl, Nat.le_of_ble_eq_true rfl⟩) hS (fun q9 _ h9 => Or.inl h9) (fun q9 h9 => Or.inl h9) (fun q9 _ h9 => Or.inl h9) (fun E ce q9 u t9 H1 locs ht hvm hu hBX hz hk1 hS hce hcv hcl => ?_) (fun r u t9 H1 locs ht hvm hw hB hz hk1 hS => ?_)
  · obtain ⟨hEq, hne, hB⟩ := hBX
    rw [ht] at hB
    have hP := GWO_put ho hP hB hk1
    rcases hc with hc | hc
    · exact absurd hc hne
    · have hEq : E = gIAE := by rw [hEq, hc]; rfl
      subst hEq
      refine vx_catch (name := gIAE) hown [] ⟨0, 9, 12, 13⟩ [] (by rw [htb]; rfl) (fun z9 hz9 => nomatch hz9) (by decide) (by decide) (hts (.classLink RL 13 gIAE) (by decide +kernel)) (va_Nw.use rfl (hE.1.2.2.2.2.1 gIAE (by decide +kernel))) hce hcv hcl ?_
      refine lv_astore_n (lv' := [(3, .ref q9), (0, .ref q), (1, .int p0), (2, .ref o)]) hx hb dL_room_12 rfl hl (by decide) rfl (fun ls hl => ?_)
      refine lv_iconst (v := 1) hx hb dL_room_13 (by decide) ?_
      exact W.iret (v := 1) hx hb hr (fun t ht hW => ⟨⟨_, (), rfl, by rw [hc]; rfl, by show va_P D vwCl _ t.heap; rw [if_neg hne, ht]; exact hP⟩, hS.F ht⟩) hS.2.2 dL_room_14
  · obtain ⟨hw0, rfl⟩ := hw
    rw [ht] at hB
    have hP := GWO_put ho hP hB hk1
    generalize H1 = H at hP hS ⊢
    refine lv_i2l hx hb dL_room_7 rfl ?_
    refine va_last (f := f) (i := 0) hx hb hK hP (GWO_self ho) hS 201 4 GWO_at rfl (vin_lit rfl) dL_room_8 (fun H locs hP _ hS => ?_)
    rw [GWO_set] at hP
    refine lv_goto (tgt := 15) hx hb dL_room_9 (by decide) ?_
    refine lv_iconst (v := 0) hx hb dL_room_15 (by decide) ?_
    exact W.iret (v := 0) hx hb hr (fun t ht hW => ⟨⟨_, (), rfl, by rw [hw0]; rfl, by show va_P D vwCl _ t.heap; rw [if_pos hw0, ht]; exact hP⟩, hS.F ht⟩) hS.2.2 dL_room_16
set_option maxHeartbeats 4000000 in
set_option maxRecDepth 100000 in
theorem kL_groups (l : Launch) (D : va_G) (cI cC cZ cQ cJ : ClassId) (t lo q o : Nat) (G : GSt) (f : Nat → Int64) (p0 : Int32) (ho : q + 201 ≤ o) (hlo : lo ≤ q) (hlS : l.stackTraces = false) {R : Nat × Int32 × GSt} (h : fX4_groups G p0 = some R) (hc : R.1 = 0 ∨ R.1 = 1) : Met l yL_groups wsL_groups ({ frames := 7, cells := 1, slots := 6, locals := 108 } : Room) (va_Pc [.ref q, .int p0, .ref o] (gBw D (gTy cI cC cZ cQ cJ) t lo (va_P D vwCl (GWO cI cC cZ cQ cJ q o G f)))) (va_Qi (fun r (_ : Unit) => r = gm 1 9 R.1) (fun _ t => va_P D vwCl (GWO cI cC cZ cQ cJ q o R.2.2 (if R.1 = 0 then vp_updL f 0 R.2.1.toInt64 else f)) t.heap) (gOr (fIv q 201) (fIv o 1))) 1 6 (gOr (fIv q 201) (fIv o 1)) := by
  refine gMet_ofWH (cc := cL_groups) (maxL := 4) (ret := (some .int)) (hh := [(0, 9, 12, 13)]) (by decide) rfl ?_
  intro p e s m args below meth c s₁ B hml hv
  obtain ⟨rfl, ⟨hP, hK⟩, hE⟩ := hv
  have hx := B.exec
  have hb := B.bytes
  have hr := B.returns
  have hts := atoms_spec (ws := wsL_groups) B.pre
  have hown : s.vm.findClass RL = some m.cls := findClass_of_methodNamed B.named
  have hlocks := B.notSynchronized
  have htb : c.exceptionTable.toList = tableOf [(0, 9, 12, 13)] := vx_table (x := yL_groups) B (hts (.codeWith yL_groups cL_groups 4 (some .int) [(0, 9, 12, 13)]) (by decide +kernel))
  have hl := lv_entry ([.ref q, .int p0, .ref o]) (n := 4) (Nat.le_of_ble_eq_true rfl)
  rw [lg_entry_eq]
  generalize (lg_sl ([.ref q, .int p0, .ref o]) ++ List.replicate (4 - (lg_sl ([.ref q, .int p0, .ref o])).length) Slot.unset).toArray = ls at hl ⊢
  have hl : lv_has ls 4 [(0, .ref q), (1, .int p0), (2, .ref o)] := hl
  have hS : va_S (gOr (fIv q 201) (fIv o 1)) s.heap s.heap [] := va_S.rf
  refine lv_aload_n hx hb dL_groups_0 rfl (lv_at hl 2 rfl) ?_
  refine lv_iconst (v := 0) hx hb dL_groups_1 (by decide) ?_
  refine lv_aload_n hx hb dL_groups_2 rfl (lv_at hl 0 rfl) ?_
  refine lv_iload_n hx hb dL_groups_3 rfl (lv_at hl 1 rfl) ?_
  refine vx_calli (vx_runV (As := [.int p0]) (rest := [.int 0, .ref o]) ⟨hx, hb, hml, hown, hts⟩ (kX4_groups l D cI cC cZ cQ cJ t lo q G p0 hlo hlS h) (cwV 1 hts gL_groups_X4_groups rfl rfl rfl (by decide +kernel) ⟨Nat.le_of_ble_eq_true rfl, Nat.le_of_ble_eq_true rfl⟩) ⟨gBe_blind, va_recv hK (gL (w1 := GW cI cC cZ cQ q G) hP) (ci := 4) (q0 := 0) rfl rfl, fun U hU hW => ⟨rfl, ⟨by rw [hU]; exact gL (w1 := GW cI cC cZ cQ q G) hP, va_K.moved hW.alike hK⟩, by rw [hU]; exact hE.1.warm hW⟩⟩ rfl rfl hl.1 rfl (lv_room (Nat.le_of_ble_eq_true rfl)) dL_groups_4 ⟨Nat.le_of_ble_eq_true rfl, Nat.le_of_ble_eq_true rfl⟩) hS (fun q9 _ h9 => Or.inl h9) (fun q9 h9 => Or.inl h9) (fun q9 _ h9 => Or.inl h9) (fun E ce q9 u t9 H1 locs ht hvm hu hBX hz hk1 hS hce hcv hcl => ?_) (fun r u t9 H1 locs ht hvm hw hB hz hk1 hS => ?_)
  · obtain ⟨hEq, hne, hB⟩ := hBX
    rw [ht] at hB
    have hP := GWO_put ho hP hB hk1
    rcases hc with hc | hc
    · exact absurd hc hne
    · have hEq : E = gIAE := by rw [hEq, hc]; rfl
      subst hEq
      refine vx_catch (name := gIAE) hown [] ⟨0, 9, 12, 13⟩ [] (by rw [htb]; rfl) (fun z9 hz9 => nomatch hz9) (by decide) (by decide) (hts (.classLink RL 13 gIAE) (by decide +kernel)) (va_Nw.use rfl (hE.1.2.2.2.2.1 gIAE (by decide +kernel))) hce hcv hcl ?_
      refine lv_astore_n (lv' := [(3, .ref q9), (0, .ref q), (1, .int p0), (2, .ref o)]) hx hb dL_groups_12 rfl hl (by decide) rfl (fun ls hl => ?_)
      refine lv_iconst (v := 1) hx hb dL_groups_13 (by decide) ?_
      exact W.iret (v := 1) hx hb hr (fun t ht hW => ⟨⟨_, (), rfl, by rw [hc]; rfl, by show va_P D vwCl _ t.heap; rw [if_neg hne, ht]; exact hP⟩, hS.F ht⟩) hS.2.2 dL_groups_14
  · obtain ⟨hw0, rfl⟩ := hw
    rw [ht] at hB
    have hP := GWO_put ho hP hB hk1
    generalize H1 = H at hP hS ⊢
    refine lv_i2l hx hb dL_groups_7 rfl ?_
    refine va_last (f := f) (i := 0) hx hb hK hP (GWO_self ho) hS 201 4 GWO_at rfl (vin_lit rfl) dL_groups_8 (fun H locs hP _ hS => ?_)
    rw [GWO_set] at hP
    refine lv_goto (tgt := 15) hx hb dL_groups_9 (by decide) ?_
    refine lv_iconst (v := 0) hx hb dL_groups_15 (by decide) ?_
    exact W.iret (v := 0) hx hb hr (fun t ht hW => ⟨⟨_, (), rfl, by rw [hw0]; rfl, by show va_P D vwCl _ t.heap; rw [if_pos hw0, ht]; exact hP⟩, hS.F ht⟩) hS.2.2 dL_groups_16
set_option maxHeartbeats 4000000 in
set_option maxRecDepth 100000 in
theorem kL_dueAfter (l : Launch) (D : va_G) (cI cC cZ cQ cJ : ClassId) (t lo q o : Nat) (G : GSt) (f : Nat → Int64) (p0 : Int32) (ho : q + 201 ≤ o) (hlo : lo ≤ q) (hlS : l.stackTraces = false) {R : Nat × Int32 × GSt} (h : fX4_dueAfter G p0 = some R) (hc : R.1 = 0 ∨ R.1 = 3) : Met l yL_dueAfter wsL_dueAfter ({ frames := 7, cells := 1, slots := 6, locals := 103 } : Room) (va_Pc [.ref q, .int p0, .ref o] (gBw D (gTy cI cC cZ cQ cJ) t lo (va_P D vwCl (GWO cI cC cZ cQ cJ q o G f)))) (va_Qi (fun r (_ : Unit) => r = gm 3 9 R.1) (fun _ t => va_P D vwCl (GWO cI cC cZ cQ cJ q o R.2.2 (if R.1 = 0 then vp_updL f 0 R.2.1.toInt64 else f)) t.heap) (gOr (fIv q 201) (fIv o 1))) 1 6 (gOr (fIv q 201) (fIv o 1)) := by
  refine gMet_ofWH (cc := cL_dueAfter) (maxL := 4) (ret := (some .int)) (hh := [(0, 9, 12, 28)]) (by decide) rfl ?_
  intro p e s m args below meth c s₁ B hml hv
  obtain ⟨rfl, ⟨hP, hK⟩, hE⟩ := hv
  have hx := B.exec
  have hb := B.bytes
  have hr := B.returns
  have hts := atoms_spec (ws := wsL_dueAfter) B.pre
  have hown : s.vm.findClass RL = some m.cls := findClass_of_methodNamed B.named
  have hlocks := B.notSynchronized
  have htb : c.exceptionTable.toList = tableOf [(0, 9, 12, 28)] := vx_table (x := yL_dueAfter) B (hts (.codeWith yL_dueAfter cL_dueAfter 4 (some .int) [(0, 9, 12, 28)]) (by decide +kernel))
  have hl := lv_entry ([.ref q, .int p0, .ref o]) (n := 4) (Nat.le_of_ble_eq_true rfl)
  rw [lg_entry_eq]
  generalize (lg_sl ([.ref q, .int p0, .ref o]) ++ List.replicate (4 - (lg_sl ([.ref q, .int p0, .ref o])).length) Slot.unset).toArray = ls at hl ⊢
  have hl : lv_has ls 4 [(0, .ref q), (1, .int p0), (2, .ref o)] := hl
  have hS : va_S (gOr (fIv q 201) (fIv o 1)) s.heap s.heap [] := va_S.rf
  refine lv_aload_n hx hb dL_dueAfter_0 rfl (lv_at hl 2 rfl) ?_
  refine lv_iconst (v := 0) hx hb dL_dueAfter_1 (by decide) ?_
  refine lv_aload_n hx hb dL_dueAfter_2 rfl (lv_at hl 0 rfl) ?_
  refine lv_iload_n hx hb dL_dueAfter_3 rfl (lv_at hl 1 rfl) ?_
  refine vx_calli (vx_runV (As := [.int p0]) (rest := [.int 0, .ref o]) ⟨hx, hb, hml, hown, hts⟩ (kX4_dueAfter l D cI cC cZ cQ cJ t lo q G p0 hlo hlS h) (cwV 1 hts gL_dueAfter_X4_dueAfter rfl rfl rfl (by decide +kernel) ⟨Nat.le_of_ble_eq_true rfl, Nat.le_of_ble_eq_true rfl⟩) ⟨gBe_blind, va_recv hK (gL (w1 := GW cI cC cZ cQ q G) hP) (ci := 4) (q0 := 0) rfl rfl, fun U hU hW => ⟨rfl, ⟨by rw [hU]; exact gL (w1 := GW cI cC cZ cQ q G) hP, va_K.moved hW.alike hK⟩, by rw [hU]; exact hE.1.warm hW⟩⟩ rfl rfl hl.1 rfl (lv_room (Nat.le_of_ble_eq_true rfl)) dL_dueAfter_4 ⟨Nat.le_of_ble_eq_true rfl, Nat.le_of_ble_eq_true rfl⟩) hS (fun q9 _ h9 => Or.inl h9) (fun q9 h9 => Or.inl h9) (fun q9 _ h9 => Or.inl h9) (fun E ce q9 u t9 H1 locs ht hvm hu hBX hz hk1 hS hce hcv hcl => ?_) (fun r u t9 H1 locs ht hvm hw hB hz hk1 hS => ?_)
  · obtain ⟨hEq, hne, hB⟩ := hBX
    rw [ht] at hB
    have hP := GWO_put ho hP hB hk1
    rcases hc with hc | hc
    · exact absurd hc hne
    · have hEq : E = gIOB := by rw [hEq, hc]; rfl
      subst hEq
      refine vx_catch (name := gIOB) hown [] ⟨0, 9, 12, 28⟩ [] (by rw [htb]; rfl) (fun z9 hz9 => nomatch hz9) (by decide) (by decide) (hts (.classLink RL 28 gIOB) (by decide +kernel)) (va_Nw.use rfl (hE.1.2.2.2.2.1 gIOB (by decide +kernel))) hce hcv hcl ?_
      refine lv_astore_n (lv' := [(3, .ref q9), (0, .ref q), (1, .int p0), (2, .ref o)]) hx hb dL_dueAfter_12 rfl hl (by decide) rfl (fun ls hl => ?_)
      refine lv_iconst (v := 1) hx hb dL_dueAfter_13 (by decide) ?_
      exact W.iret (v := 1) hx hb hr (fun t ht hW => ⟨⟨_, (), rfl, by rw [hc]; rfl, by show va_P D vwCl _ t.heap; rw [if_neg hne, ht]; exact hP⟩, hS.F ht⟩) hS.2.2 dL_dueAfter_14
  · obtain ⟨hw0, rfl⟩ := hw
    rw [ht] at hB
    have hP := GWO_put ho hP hB hk1
    generalize H1 = H at hP hS ⊢
    refine lv_i2l hx hb dL_dueAfter_7 rfl ?_
    refine va_last (f := f) (i := 0) hx hb hK hP (GWO_self ho) hS 201 4 GWO_at rfl (vin_lit rfl) dL_dueAfter_8 (fun H locs hP _ hS => ?_)
    rw [GWO_set] at hP
    refine lv_goto (tgt := 15) hx hb dL_dueAfter_9 (by decide) ?_
    refine lv_iconst (v := 0) hx hb dL_dueAfter_15 (by decide) ?_
    exact W.iret (v := 0) hx hb hr (fun t ht hW => ⟨⟨_, (), rfl, by rw [hw0]; rfl, by show va_P D vwCl _ t.heap; rw [if_pos hw0, ht]; exact hP⟩, hS.F ht⟩) hS.2.2 dL_dueAfter_16
set_option maxHeartbeats 4000000 in
set_option maxRecDepth 100000 in
theorem kL_chance (l : Launch) (D : va_G) (cI cC cZ cQ cJ : ClassId) (t lo q o : Nat) (G : GSt) (f : Nat → Int64) (p0 : Int32) (p1 : Int32) (ho : q + 201 ≤ o) (hlo : lo ≤ q) (hlS : l.stackTraces = false) {R : Nat × Int32 × GSt} (h : fX4_chance G p0 p1 = some R) (hc : R.1 = 0 ∨ R.1 = 1) : Met l yL_chance wsL_chance ({ frames := 7, cells := 1, slots := 6, locals := 108 } : Room) (va_Pc [.ref q, .int p0, .int p1, .ref o] (gBw D (gTy cI cC cZ cQ cJ) t lo (va_P D vwCl (GWO cI cC cZ cQ cJ q o G f)))) (va_Qi (fun r (_ : Unit) => r = gm 1 9 R.1) (fun _ t => va_P D vwCl (GWO cI cC cZ cQ cJ q o R.2.2 (if R.1 = 0 then vp_updL f 0 R.2.1.toInt64 else f)) t.heap) (gOr (fIv q 201) (fIv o 1))) 1 6 (gOr (fIv q 201) (fIv o 1)) := by
  refine gMet_ofWH (cc := cL_chance) (maxL := 5) (ret := (some .int)) (hh := [(0, 10, 13, 13)]) (by decide) rfl ?_
  intro p e s m args below meth c s₁ B hml hv
  obtain ⟨rfl, ⟨hP, hK⟩, hE⟩ := hv
  have hx := B.exec
  have hb := B.bytes
  have hr := B.returns
  have hts := atoms_spec (ws := wsL_chance) B.pre
  have hown : s.vm.findClass RL = some m.cls := findClass_of_methodNamed B.named
  have hlocks := B.notSynchronized
  have htb : c.exceptionTable.toList = tableOf [(0, 10, 13, 13)] := vx_table (x := yL_chance) B (hts (.codeWith yL_chance cL_chance 5 (some .int) [(0, 10, 13, 13)]) (by decide +kernel))
  have hl := lv_entry ([.ref q, .int p0, .int p1, .ref o]) (n := 5) (Nat.le_of_ble_eq_true rfl)
  rw [lg_entry_eq]
  generalize (lg_sl ([.ref q, .int p0, .int p1, .ref o]) ++ List.replicate (5 - (lg_sl ([.ref q, .int p0, .int p1, .ref o])).length) Slot.unset).toArray = ls at hl ⊢
  have hl : lv_has ls 5 [(0, .ref q), (1, .int p0), (2, .int p1), (3, .ref o)] := hl
  have hS : va_S (gOr (fIv q 201) (fIv o 1)) s.heap s.heap [] := va_S.rf
  refine lv_aload_n hx hb dL_chance_0 rfl (lv_at hl 3 rfl) ?_
  refine lv_iconst (v := 0) hx hb dL_chance_1 (by decide) ?_
  refine lv_aload_n hx hb dL_chance_2 rfl (lv_at hl 0 rfl) ?_
  refine lv_iload_n hx hb dL_chance_3 rfl (lv_at hl 1 rfl) ?_
  refine lv_iload_n hx hb dL_chance_4 rfl (lv_at hl 2 rfl) ?_
  refine vx_calli (vx_runV (As := [.int p0, .int p1]) (rest := [.int 0, .ref o]) ⟨hx, hb, hml, hown, hts⟩ (kX4_chance l D cI cC cZ cQ cJ t lo q G p0 p1 hlo hlS h) (cwV 2 hts gL_chance_X4_chance rfl rfl rfl (by decide +kernel) ⟨Nat.le_of_ble_eq_true rfl, Nat.le_of_ble_eq_true rfl⟩) ⟨gBe_blind, va_recv hK (gL (w1 := GW cI cC cZ cQ q G) hP) (ci := 4) (q0 := 0) rfl rfl, fun U hU hW => ⟨rfl, ⟨by rw [hU]; exact gL (w1 := GW cI cC cZ cQ q G) hP, va_K.moved hW.alike hK⟩, by rw [hU]; exact hE.1.warm hW⟩⟩ rfl rfl hl.1 rfl (lv_room (Nat.le_of_ble_eq_true rfl)) dL_chance_5 ⟨Nat.le_of_ble_eq_true rfl, Nat.le_of_ble_eq_true rfl⟩) hS (fun q9 _ h9 => Or.inl h9) (fun q9 h9 => Or.inl h9) (fun q9 _ h9 => Or.inl h9) (fun E ce q9 u t9 H1 locs ht hvm hu hBX hz hk1 hS hce hcv hcl => ?_) (fun r u t9 H1 locs ht hvm hw hB hz hk1 hS => ?_)
  · obtain ⟨hEq, hne, hB⟩ := hBX
    rw [ht] at hB
    have hP := GWO_put ho hP hB hk1
    rcases hc with hc | hc
    · exact absurd hc hne
    · have hEq : E = gIAE := by rw [hEq, hc]; rfl
      subst hEq
      refine vx_catch (name := gIAE) hown [] ⟨0, 10, 13, 13⟩ [] (by rw [htb]; rfl) (fun z9 hz9 => nomatch hz9) (by decide) (by decide) (hts (.classLink RL 13 gIAE) (by decide +kernel)) (va_Nw.use rfl (hE.1.2.2.2.2.1 gIAE (by decide +kernel))) hce hcv hcl ?_
      refine lv_astore (lv' := [(4, .ref q9), (0, .ref q), (1, .int p0), (2, .int p1), (3, .ref o)]) hx hb dL_chance_13 hl (by decide) rfl (fun ls hl => ?_)
      refine lv_iconst (v := 1) hx hb dL_chance_15 (by decide) ?_
      exact W.iret (v := 1) hx hb hr (fun t ht hW => ⟨⟨_, (), rfl, by rw [hc]; rfl, by show va_P D vwCl _ t.heap; rw [if_neg hne, ht]; exact hP⟩, hS.F ht⟩) hS.2.2 dL_chance_16
  · obtain ⟨hw0, rfl⟩ := hw
    rw [ht] at hB
    have hP := GWO_put ho hP hB hk1
    generalize H1 = H at hP hS ⊢
    refine lv_i2l hx hb dL_chance_8 rfl ?_
    refine va_last (f := f) (i := 0) hx hb hK hP (GWO_self ho) hS 201 4 GWO_at rfl (vin_lit rfl) dL_chance_9 (fun H locs hP _ hS => ?_)
    rw [GWO_set] at hP
    refine lv_goto (tgt := 17) hx hb dL_chance_10 (by decide) ?_
    refine lv_iconst (v := 0) hx hb dL_chance_17 (by decide) ?_
    exact W.iret (v := 0) hx hb hr (fun t ht hW => ⟨⟨_, (), rfl, by rw [hw0]; rfl, by show va_P D vwCl _ t.heap; rw [if_pos hw0, ht]; exact hP⟩, hS.F ht⟩) hS.2.2 dL_chance_18
set_option maxHeartbeats 4000000 in
set_option maxRecDepth 100000 in
theorem kL_ahead (l : Launch) (D : va_G) (cI cC cZ cQ cJ : ClassId) (t lo q o : Nat) (G : GSt) (f : Nat → Int64) (p0 : Int32) (p1 : Int32) (p2 : Int32) (ho : q + 201 ≤ o) (hlo : lo ≤ q) (hlS : l.stackTraces = false) {R : Nat × Int32 × GSt} (h : fX4_ahead G p0 p1 p2 = some R) (hc : R.1 = 0 ∨ R.1 = 3 ∨ R.1 = 1) : Met l yL_ahead wsL_ahead ({ frames := 7, cells := 1, slots := 6, locals := 134 } : Room) (va_Pc [.ref q, .int p0, .int p1, .int p2, .ref o] (gBw D (gTy cI cC cZ cQ cJ) t lo (va_P D vwCl (GWO cI cC cZ cQ cJ q o G f)))) (va_Qi (fun r (_ : Unit) => r = gm 3 1 R.1) (fun _ t => va_P D vwCl (GWO cI cC cZ cQ cJ q o R.2.2 (if R.1 = 0 then vp_updL f 0 R.2.1.toInt64 else f)) t.heap) (gOr (fIv q 201) (fIv o 1))) 1 6 (gOr (fIv q 201) (fIv o 1)) := by
  refine gMet_ofWH (cc := cL_ahead) (maxL := 6) (ret := (some .int)) (hh := [(0, 12, 15, 28), (0, 12, 19, 13)]) (by decide) rfl ?_
  intro p e s m args below meth c s₁ B hml hv
  obtain ⟨rfl, ⟨hP, hK⟩, hE⟩ := hv
  have hx := B.exec
  have hb := B.bytes
  have hr := B.returns
  have hts := atoms_spec (ws := wsL_ahead) B.pre
  have hown : s.vm.findClass RL = some m.cls := findClass_of_methodNamed B.named
  have hlocks := B.notSynchronized
  have htb : c.exceptionTable.toList = tableOf [(0, 12, 15, 28), (0, 12, 19, 13)] := vx_table (x := yL_ahead) B (hts (.codeWith yL_ahead cL_ahead 6 (some .int) [(0, 12, 15, 28), (0, 12, 19, 13)]) (by decide +kernel))
  have hl := lv_entry ([.ref q, .int p0, .int p1, .int p2, .ref o]) (n := 6) (Nat.le_of_ble_eq_true rfl)
  rw [lg_entry_eq]
  generalize (lg_sl ([.ref q, .int p0, .int p1, .int p2, .ref o]) ++ List.replicate (6 - (lg_sl ([.ref q, .int p0, .int p1, .int p2, .ref o])).length) Slot.unset).toArray = ls at hl ⊢
  have hl : lv_has ls 6 [(0, .ref q), (1, .int p0), (2, .int p1), (3, .int p2), (4, .ref o)] := hl
  have hS : va_S (gOr (fIv q 201) (fIv o 1)) s.heap s.heap [] := va_S.rf
  refine lv_aload hx hb dL_ahead_0 (lv_at hl 4 rfl) ?_
  refine lv_iconst (v := 0) hx hb dL_ahead_2 (by decide) ?_
  refine lv_aload_n hx hb dL_ahead_3 rfl (lv_at hl 0 rfl) ?_
  refine lv_iload_n hx hb dL_ahead_4 rfl (lv_at hl 1 rfl) ?_
  refine lv_iload_n hx hb dL_ahead_5 rfl (lv_at hl 2 rfl) ?_
  refine lv_iload_n hx hb dL_ahead_6 rfl (lv_at hl 3 rfl) ?_
  refine vx_calli (vx_runV (As := [.int p0, .int p1, .int p2]) (rest := [.int 0, .ref o]) ⟨hx, hb, hml, hown, hts⟩ (kX4_ahead l D cI cC cZ cQ cJ t lo q G p0 p1 p2 hlo hlS h) (cwV 3 hts gL_ahead_X4_ahead rfl rfl rfl (by decide +kernel) ⟨Nat.le_of_ble_eq_true rfl, Nat.le_of_ble_eq_true rfl⟩) ⟨gBe_blind, va_recv hK (gL (w1 := GW cI cC cZ cQ q G) hP) (ci := 4) (q0 := 0) rfl rfl, fun U hU hW => ⟨rfl, ⟨by rw [hU]; exact gL (w1 := GW cI cC cZ cQ q G) hP, va_K.moved hW.alike hK⟩, by rw [hU]; exact hE.1.warm hW⟩⟩ rfl rfl hl.1 rfl (lv_room (Nat.le_of_ble_eq_true rfl)) dL_ahead_7 ⟨Nat.le_of_ble_eq_true rfl, Nat.le_of_ble_eq_true rfl⟩) hS (fun q9 _ h9 => Or.inl h9) (fun q9 h9 => Or.inl h9) (fun q9 _ h9 => Or.inl h9) (fun E ce q9 u t9 H1 locs ht hvm hu hBX hz hk1 hS hce hcv hcl => ?_) (fun r u t9 H1 locs ht hvm hw hB hz hk1 hS => ?_)
  · obtain ⟨hEq, hne, hB⟩ := hBX
    rw [ht] at hB
    have hP := GWO_put ho hP hB hk1
    rcases hc with hc | hc | hc
    · exact absurd hc hne
    · have hEq : E = gIOB := by rw [hEq, hc]; rfl
      subst hEq
      refine vx_catch (name := gIOB) hown [] ⟨0, 12, 15, 28⟩ [⟨0, 12, 19, 13⟩] (by rw [htb]; rfl) (fun z9 hz9 => nomatch hz9) (by decide) (by decide) (hts (.classLink RL 28 gIOB) (by decide +kernel)) (va_Nw.use rfl (hE.1.2.2.2.2.1 gIOB (by decide +kernel))) hce hcv hcl ?_
      refine lv_astore (lv' := [(5, .ref q9), (0, .ref q), (1, .int p0), (2, .int p1), (3, .int p2), (4, .ref o)]) hx hb dL_ahead_15 hl (by decide) rfl (fun ls hl => ?_)
      refine lv_iconst (v := 1) hx hb dL_ahead_17 (by decide) ?_
      exact W.iret (v := 1) hx hb hr (fun t ht hW => ⟨⟨_, (), rfl, by rw [hc]; rfl, by show va_P D vwCl _ t.heap; rw [if_neg hne, ht]; exact hP⟩, hS.F ht⟩) hS.2.2 dL_ahead_18
    · have hEq : E = gIAE := by rw [hEq, hc]; rfl
      subst hEq
      refine vx_catch (name := gIAE) hown [⟨0, 12, 15, 28⟩] ⟨0, 12, 19, 13⟩ [] (by rw [htb]; rfl) (fun z9 hz9 => by rw [List.mem_singleton.mp hz9]; exact Or.inr ⟨by decide, gIOB, hts (.classLink RL 28 gIOB) (by decide +kernel), hE.2 (gIAE, gIOB) (by decide +kernel)⟩) (by decide) (by decide) (hts (.classLink RL 13 gIAE) (by decide +kernel)) (va_Nw.use rfl (hE.1.2.2.2.2.1 gIAE (by decide +kernel))) hce hcv hcl ?_
      refine lv_astore (lv' := [(5, .ref q9), (0, .ref q), (1, .int p0), (2, .int p1), (3, .int p2), (4, .ref o)]) hx hb dL_ahead_19 hl (by decide) rfl (fun ls hl => ?_)
      refine lv_iconst (v := 2) hx hb dL_ahead_21 (by decide) ?_
      exact W.iret (v := 2) hx hb hr (fun t ht hW => ⟨⟨_, (), rfl, by rw [hc]; rfl, by show va_P D vwCl _ t.heap; rw [if_neg hne, ht]; exact hP⟩, hS.F ht⟩) hS.2.2 dL_ahead_22
  · obtain ⟨hw0, rfl⟩ := hw
    rw [ht] at hB
    have hP := GWO_put ho hP hB hk1
    generalize H1 = H at hP hS ⊢
    refine lv_i2l hx hb dL_ahead_10 rfl ?_
    refine va_last (f := f) (i := 0) hx hb hK hP (GWO_self ho) hS 201 4 GWO_at rfl (vin_lit rfl) dL_ahead_11 (fun H locs hP _ hS => ?_)
    rw [GWO_set] at hP
    refine lv_goto (tgt := 23) hx hb dL_ahead_12 (by decide) ?_
    refine lv_iconst (v := 0) hx hb dL_ahead_23 (by decide) ?_
    exact W.iret (v := 0) hx hb hr (fun t ht hW => ⟨⟨_, (), rfl, by rw [hw0]; rfl, by show va_P D vwCl _ t.heap; rw [if_pos hw0, ht]; exact hP⟩, hS.F ht⟩) hS.2.2 dL_ahead_24
set_option maxHeartbeats 4000000 in
set_option maxRecDepth 100000 in
theorem kL_happens (l : Launch) (D : va_G) (cI cC cZ cQ cJ : ClassId) (t lo q o : Nat) (G : GSt) (f : Nat → Int64) (p0 : Int32) (p1 : Int32) (ho : q + 201 ≤ o) (hlo : lo ≤ q) (hlS : l.stackTraces = false) {R : Nat × Int32 × GSt} (h : fX4_happens G p0 p1 = some R) (hc : R.1 = 0 ∨ R.1 = 1) : Met l yL_happens wsL_happens ({ frames := 7, cells := 1, slots := 6, locals := 113 } : Room) (va_Pc [.ref q, .int p0, .int p1, .ref o] (gBw D (gTy cI cC cZ cQ cJ) t lo (va_P D vwCl (GWO cI cC cZ cQ cJ q o G f)))) (va_Qi (fun r (_ : Unit) => r = gm 1 9 R.1) (fun _ t => va_P D vwCl (GWO cI cC cZ cQ cJ q o R.2.2 (if R.1 = 0 then vp_updL f 0 R.2.1.toInt64 else f)) t.heap) (gOr (fIv q 201) (fIv o 1))) 1 6 (gOr (fIv q 201) (fIv o 1)) := by
  refine gMet_ofWH (cc := cL_happens) (maxL := 5) (ret := (some .int)) (hh := [(0, 10, 13, 13)]) (by decide) rfl ?_
  intro p e s m args below meth c s₁ B hml hv
  obtain ⟨rfl, ⟨hP, hK⟩, hE⟩ := hv
  have hx := B.exec
  have hb := B.bytes
  have hr := B.returns
  have hts := atoms_spec (ws := wsL_happens) B.pre
  have hown : s.vm.findClass RL = some m.cls := findClass_of_methodNamed B.named
  have hlocks := B.notSynchronized
  have htb : c.exceptionTable.toList = tableOf [(0, 10, 13, 13)] := vx_table (x := yL_happens) B (hts (.codeWith yL_happens cL_happens 5 (some .int) [(0, 10, 13, 13)]) (by decide +kernel))
  have hl := lv_entry ([.ref q, .int p0, .int p1, .ref o]) (n := 5) (Nat.le_of_ble_eq_true rfl)
  rw [lg_entry_eq]
  generalize (lg_sl ([.ref q, .int p0, .int p1, .ref o]) ++ List.replicate (5 - (lg_sl ([.ref q, .int p0, .int p1, .ref o])).length) Slot.unset).toArray = ls at hl ⊢
  have hl : lv_has ls 5 [(0, .ref q), (1, .int p0), (2, .int p1), (3, .ref o)] := hl
  have hS : va_S (gOr (fIv q 201) (fIv o 1)) s.heap s.heap [] := va_S.rf
  refine lv_aload_n hx hb dL_happens_0 rfl (lv_at hl 3 rfl) ?_
  refine lv_iconst (v := 0) hx hb dL_happens_1 (by decide) ?_
  refine lv_aload_n hx hb dL_happens_2 rfl (lv_at hl 0 rfl) ?_
  refine lv_iload_n hx hb dL_happens_3 rfl (lv_at hl 1 rfl) ?_
  refine lv_iload_n hx hb dL_happens_4 rfl (lv_at hl 2 rfl) ?_
  refine vx_calli (vx_runV (As := [.int p0, .int p1]) (rest := [.int 0, .ref o]) ⟨hx, hb, hml, hown, hts⟩ (kX4_happens l D cI cC cZ cQ cJ t lo q G p0 p1 hlo hlS h) (cwV 2 hts gL_happens_X4_happens rfl rfl rfl (by decide +kernel) ⟨Nat.le_of_ble_eq_true rfl, Nat.le_of_ble_eq_true rfl⟩) ⟨gBe_blind, va_recv hK (gL (w1 := GW cI cC cZ cQ q G) hP) (ci := 4) (q0 := 0) rfl rfl, fun U hU hW => ⟨rfl, ⟨by rw [hU]; exact gL (w1 := GW cI cC cZ cQ q G) hP, va_K.moved hW.alike hK⟩, by rw [hU]; exact hE.1.warm hW⟩⟩ rfl rfl hl.1 rfl (lv_room (Nat.le_of_ble_eq_true rfl)) dL_happens_5 ⟨Nat.le_of_ble_eq_true rfl, Nat.le_of_ble_eq_true rfl⟩) hS (fun q9 _ h9 => Or.inl h9) (fun q9 h9 => Or.inl h9) (fun q9 _ h9 => Or.inl h9) (fun E ce q9 u t9 H1 locs ht hvm hu hBX hz hk1 hS hce hcv hcl => ?_) (fun r u t9 H1 locs ht hvm hw hB hz hk1 hS => ?_)
  · obtain ⟨hEq, hne, hB⟩ := hBX
    rw [ht] at hB
    have hP := GWO_put ho hP hB hk1
    rcases hc with hc | hc
    · exact absurd hc hne
    · have hEq : E = gIAE := by rw [hEq, hc]; rfl
      subst hEq
      refine vx_catch (name := gIAE) hown [] ⟨0, 10, 13, 13⟩ [] (by rw [htb]; rfl) (fun z9 hz9 => nomatch hz9) (by decide) (by decide) (hts (.classLink RL 13 gIAE) (by decide +kernel)) (va_Nw.use rfl (hE.1.2.2.2.2.1 gIAE (by decide +kernel))) hce hcv hcl ?_
      refine lv_astore (lv' := [(4, .ref q9), (0, .ref q), (1, .int p0), (2, .int p1), (3, .ref o)]) hx hb dL_happens_13 hl (by decide) rfl (fun ls hl => ?_)
      refine lv_iconst (v := 1) hx hb dL_happens_15 (by decide) ?_
      exact W.iret (v := 1) hx hb hr (fun t ht hW => ⟨⟨_, (), rfl, by rw [hc]; rfl, by show va_P D vwCl _ t.heap; rw [if_neg hne, ht]; exact hP⟩, hS.F ht⟩) hS.2.2 dL_happens_16
  · obtain ⟨hw0, rfl⟩ := hw
    rw [ht] at hB
    have hP := GWO_put ho hP hB hk1
    generalize H1 = H at hP hS ⊢
    refine lv_i2l hx hb dL_happens_8 rfl ?_
    refine va_last (f := f) (i := 0) hx hb hK hP (GWO_self ho) hS 201 4 GWO_at rfl (vin_lit rfl) dL_happens_9 (fun H locs hP _ hS => ?_)
    rw [GWO_set] at hP
    refine lv_goto (tgt := 17) hx hb dL_happens_10 (by decide) ?_
    refine lv_iconst (v := 0) hx hb dL_happens_17 (by decide) ?_
    exact W.iret (v := 0) hx hb hr (fun t ht hW => ⟨⟨_, (), rfl, by rw [hw0]; rfl, by show va_P D vwCl _ t.heap; rw [if_pos hw0, ht]; exact hP⟩, hS.F ht⟩) hS.2.2 dL_happens_18
set_option maxHeartbeats 4000000 in
set_option maxRecDepth 100000 in
theorem kL_bestLimit (l : Launch) (D : va_G) (cI cC cZ cQ cJ : ClassId) (t lo q o : Nat) (G : GSt) (f : Nat → Int64) (p0 : Int32) (ho : q + 201 ≤ o) (hlo : lo ≤ q) (hlS : l.stackTraces = false) {R : Nat × Int32 × GSt} (h : fX4_bestLimit G p0 = some R) (hc : R.1 = 0 ∨ R.1 = 1) : Met l yL_bestLimit wsL_bestLimit ({ frames := 7, cells := 1, slots := 6, locals := 134 } : Room) (va_Pc [.ref q, .int p0, .ref o] (gBw D (gTy cI cC cZ cQ cJ) t lo (va_P D vwCl (GWO cI cC cZ cQ cJ q o G f)))) (va_Qi (fun r (_ : Unit) => r = gm 1 9 R.1) (fun _ t => va_P D vwCl (GWO cI cC cZ cQ cJ q o R.2.2 (if R.1 = 0 then vp_updL f 0 R.2.1.toInt64 else f)) t.heap) (gOr (fIv q 201) (fIv o 1))) 1 6 (gOr (fIv q 201) (fIv o 1)) := by
  refine gMet_ofWH (cc := cL_bestLimit) (maxL := 4) (ret := (some .int)) (hh := [(0, 9, 12, 13)]) (by decide) rfl ?_
  intro p e s m args below meth c s₁ B hml hv
  obtain ⟨rfl, ⟨hP, hK⟩, hE⟩ := hv
  have hx := B.exec
  have hb := B.bytes
  have hr := B.returns
  have hts := atoms_spec (ws := wsL_bestLimit) B.pre
  have hown : s.vm.findClass RL = some m.cls := findClass_of_methodNamed B.named
  have hlocks := B.notSynchronized
  have htb : c.exceptionTable.toList = tableOf [(0, 9, 12, 13)] := vx_table (x := yL_bestLimit) B (hts (.codeWith yL_bestLimit cL_bestLimit 4 (some .int) [(0, 9, 12, 13)]) (by decide +kernel))
  have hl := lv_entry ([.ref q, .int p0, .ref o]) (n := 4) (Nat.le_of_ble_eq_true rfl)
  rw [lg_entry_eq]
  generalize (lg_sl ([.ref q, .int p0, .ref o]) ++ List.replicate (4 - (lg_sl ([.ref q, .int p0, .ref o])).length) Slot.unset).toArray = ls at hl ⊢
  have hl : lv_has ls 4 [(0, .ref q), (1, .int p0), (2, .ref o)] := hl
  have hS : va_S (gOr (fIv q 201) (fIv o 1)) s.heap s.heap [] := va_S.rf
  refine lv_aload_n hx hb dL_bestLimit_0 rfl (lv_at hl 2 rfl) ?_
  refine lv_iconst (v := 0) hx hb dL_bestLimit_1 (by decide) ?_
  refine lv_aload_n hx hb dL_bestLimit_2 rfl (lv_at hl 0 rfl) ?_
  refine lv_iload_n hx hb dL_bestLimit_3 rfl (lv_at hl 1 rfl) ?_
  refine vx_calli (vx_runV (As := [.int p0]) (rest := [.int 0, .ref o]) ⟨hx, hb, hml, hown, hts⟩ (kX4_bestLimit l D cI cC cZ cQ cJ t lo q G p0 hlo hlS h) (cwV 1 hts gL_bestLimit_X4_bestLimit rfl rfl rfl (by decide +kernel) ⟨Nat.le_of_ble_eq_true rfl, Nat.le_of_ble_eq_true rfl⟩) ⟨gBe_blind, va_recv hK (gL (w1 := GW cI cC cZ cQ q G) hP) (ci := 4) (q0 := 0) rfl rfl, fun U hU hW => ⟨rfl, ⟨by rw [hU]; exact gL (w1 := GW cI cC cZ cQ q G) hP, va_K.moved hW.alike hK⟩, by rw [hU]; exact hE.1.warm hW⟩⟩ rfl rfl hl.1 rfl (lv_room (Nat.le_of_ble_eq_true rfl)) dL_bestLimit_4 ⟨Nat.le_of_ble_eq_true rfl, Nat.le_of_ble_eq_true rfl⟩) hS (fun q9 _ h9 => Or.inl h9) (fun q9 h9 => Or.inl h9) (fun q9 _ h9 => Or.inl h9) (fun E ce q9 u t9 H1 locs ht hvm hu hBX hz hk1 hS hce hcv hcl => ?_) (fun r u t9 H1 locs ht hvm hw hB hz hk1 hS => ?_)
  · obtain ⟨hEq, hne, hB⟩ := hBX
    rw [ht] at hB
    have hP := GWO_put ho hP hB hk1
    rcases hc with hc | hc
    · exact absurd hc hne
    · have hEq : E = gIAE := by rw [hEq, hc]; rfl
      subst hEq
      refine vx_catch (name := gIAE) hown [] ⟨0, 9, 12, 13⟩ [] (by rw [htb]; rfl) (fun z9 hz9 => nomatch hz9) (by decide) (by decide) (hts (.classLink RL 13 gIAE) (by decide +kernel)) (va_Nw.use rfl (hE.1.2.2.2.2.1 gIAE (by decide +kernel))) hce hcv hcl ?_
      refine lv_astore_n (lv' := [(3, .ref q9), (0, .ref q), (1, .int p0), (2, .ref o)]) hx hb dL_bestLimit_12 rfl hl (by decide) rfl (fun ls hl => ?_)
      refine lv_iconst (v := 1) hx hb dL_bestLimit_13 (by decide) ?_
      exact W.iret (v := 1) hx hb hr (fun t ht hW => ⟨⟨_, (), rfl, by rw [hc]; rfl, by show va_P D vwCl _ t.heap; rw [if_neg hne, ht]; exact hP⟩, hS.F ht⟩) hS.2.2 dL_bestLimit_14
  · obtain ⟨hw0, rfl⟩ := hw
    rw [ht] at hB
    have hP := GWO_put ho hP hB hk1
    generalize H1 = H at hP hS ⊢
    refine lv_i2l hx hb dL_bestLimit_7 rfl ?_
    refine va_last (f := f) (i := 0) hx hb hK hP (GWO_self ho) hS 201 4 GWO_at rfl (vin_lit rfl) dL_bestLimit_8 (fun H locs hP _ hS => ?_)
    rw [GWO_set] at hP
    refine lv_goto (tgt := 15) hx hb dL_bestLimit_9 (by decide) ?_
    refine lv_iconst (v := 0) hx hb dL_bestLimit_15 (by decide) ?_
    exact W.iret (v := 0) hx hb hr (fun t ht hW => ⟨⟨_, (), rfl, by rw [hw0]; rfl, by show va_P D vwCl _ t.heap; rw [if_pos hw0, ht]; exact hP⟩, hS.F ht⟩) hS.2.2 dL_bestLimit_16
set_option maxHeartbeats 4000000 in
set_option maxRecDepth 100000 in
theorem kL_runScript (l : Launch) (D : va_G) (cI cC cZ cQ cJ : ClassId) (t lo q o : Nat) (G : GSt) (f : Nat → Int64) (p0 : Int32) (p1 : Int64) (ho : q + 201 ≤ o) (hlo : lo ≤ q) (hlS : l.stackTraces = false) {R : Nat × Int32 × GSt} (h : fX4_runScript G p0 p1 = some R) (hc : R.1 = 0 ∨ R.1 = 1) : Met l yL_runScript wsL_runScript ({ frames := 7, cells := 1, slots := 6, locals := 158 } : Room) (va_Pc [.ref q, .int p0, .long p1, .ref o] (gBw D (gTy cI cC cZ cQ cJ) t lo (va_P D vwCl (GWO cI cC cZ cQ cJ q o G f)))) (va_Qi (fun r (_ : Unit) => r = gm 1 9 R.1) (fun _ t => va_P D vwCl (GWO cI cC cZ cQ cJ q o R.2.2 (if R.1 = 0 then vp_updL f 0 R.2.1.toInt64 else f)) t.heap) (gOr (fIv q 201) (fIv o 1))) 1 6 (gOr (fIv q 201) (fIv o 1)) := by
  refine gMet_ofWH (cc := cL_runScript) (maxL := 6) (ret := (some .int)) (hh := [(0, 11, 14, 13)]) (by decide) rfl ?_
  intro p e s m args below meth c s₁ B hml hv
  obtain ⟨rfl, ⟨hP, hK⟩, hE⟩ := hv
  have hx := B.exec
  have hb := B.bytes
  have hr := B.returns
  have hts := atoms_spec (ws := wsL_runScript) B.pre
  have hown : s.vm.findClass RL = some m.cls := findClass_of_methodNamed B.named
  have hlocks := B.notSynchronized
  have htb : c.exceptionTable.toList = tableOf [(0, 11, 14, 13)] := vx_table (x := yL_runScript) B (hts (.codeWith yL_runScript cL_runScript 6 (some .int) [(0, 11, 14, 13)]) (by decide +kernel))
  have hl := lv_entry ([.ref q, .int p0, .long p1, .ref o]) (n := 6) (Nat.le_of_ble_eq_true rfl)
  rw [lg_entry_eq]
  generalize (lg_sl ([.ref q, .int p0, .long p1, .ref o]) ++ List.replicate (6 - (lg_sl ([.ref q, .int p0, .long p1, .ref o])).length) Slot.unset).toArray = ls at hl ⊢
  have hl : lv_has ls 6 [(0, .ref q), (1, .int p0), (2, .long p1), (4, .ref o)] := hl
  have hS : va_S (gOr (fIv q 201) (fIv o 1)) s.heap s.heap [] := va_S.rf
  refine lv_aload hx hb dL_runScript_0 (lv_at hl 3 rfl) ?_
  refine lv_iconst (v := 0) hx hb dL_runScript_2 (by decide) ?_
  refine lv_aload_n hx hb dL_runScript_3 rfl (lv_at hl 0 rfl) ?_
  refine lv_iload_n hx hb dL_runScript_4 rfl (lv_at hl 1 rfl) ?_
  refine lv_lload_n hx hb dL_runScript_5 rfl (lv_at hl 2 rfl) ?_
  refine vx_calli (vx_runV (As := [.int p0, .long p1]) (rest := [.int 0, .ref o]) ⟨hx, hb, hml, hown, hts⟩ (kX4_runScript l D cI cC cZ cQ cJ t lo q G p0 p1 hlo hlS h) (cwV 2 hts gL_runScript_X4_runScript rfl rfl rfl (by decide +kernel) ⟨Nat.le_of_ble_eq_true rfl, Nat.le_of_ble_eq_true rfl⟩) ⟨gBe_blind, va_recv hK (gL (w1 := GW cI cC cZ cQ q G) hP) (ci := 4) (q0 := 0) rfl rfl, fun U hU hW => ⟨rfl, ⟨by rw [hU]; exact gL (w1 := GW cI cC cZ cQ q G) hP, va_K.moved hW.alike hK⟩, by rw [hU]; exact hE.1.warm hW⟩⟩ rfl rfl hl.1 rfl (lv_room (Nat.le_of_ble_eq_true rfl)) dL_runScript_6 ⟨Nat.le_of_ble_eq_true rfl, Nat.le_of_ble_eq_true rfl⟩) hS (fun q9 _ h9 => Or.inl h9) (fun q9 h9 => Or.inl h9) (fun q9 _ h9 => Or.inl h9) (fun E ce q9 u t9 H1 locs ht hvm hu hBX hz hk1 hS hce hcv hcl => ?_) (fun r u t9 H1 locs ht hvm hw hB hz hk1 hS => ?_)
  · obtain ⟨hEq, hne, hB⟩ := hBX
    rw [ht] at hB
    have hP := GWO_put ho hP hB hk1
    rcases hc with hc | hc
    · exact absurd hc hne
    · have hEq : E = gIAE := by rw [hEq, hc]; rfl
      subst hEq
      refine vx_catch (name := gIAE) hown [] ⟨0, 11, 14, 13⟩ [] (by rw [htb]; rfl) (fun z9 hz9 => nomatch hz9) (by decide) (by decide) (hts (.classLink RL 13 gIAE) (by decide +kernel)) (va_Nw.use rfl (hE.1.2.2.2.2.1 gIAE (by decide +kernel))) hce hcv hcl ?_
      refine lv_astore (lv' := [(5, .ref q9), (0, .ref q), (1, .int p0), (2, .long p1), (4, .ref o)]) hx hb dL_runScript_14 hl (by decide) rfl (fun ls hl => ?_)
      refine lv_iconst (v := 1) hx hb dL_runScript_16 (by decide) ?_
      exact W.iret (v := 1) hx hb hr (fun t ht hW => ⟨⟨_, (), rfl, by rw [hc]; rfl, by show va_P D vwCl _ t.heap; rw [if_neg hne, ht]; exact hP⟩, hS.F ht⟩) hS.2.2 dL_runScript_17
  · obtain ⟨hw0, rfl⟩ := hw
    rw [ht] at hB
    have hP := GWO_put ho hP hB hk1
    generalize H1 = H at hP hS ⊢
    refine lv_i2l hx hb dL_runScript_9 rfl ?_
    refine va_last (f := f) (i := 0) hx hb hK hP (GWO_self ho) hS 201 4 GWO_at rfl (vin_lit rfl) dL_runScript_10 (fun H locs hP _ hS => ?_)
    rw [GWO_set] at hP
    refine lv_goto (tgt := 18) hx hb dL_runScript_11 (by decide) ?_
    refine lv_iconst (v := 0) hx hb dL_runScript_18 (by decide) ?_
    exact W.iret (v := 0) hx hb hr (fun t ht hW => ⟨⟨_, (), rfl, by rw [hw0]; rfl, by show va_P D vwCl _ t.heap; rw [if_pos hw0, ht]; exact hP⟩, hS.F ht⟩) hS.2.2 dL_runScript_19
set_option maxHeartbeats 4000000 in
set_option maxRecDepth 100000 in
theorem kL_simulate (l : Launch) (D : va_G) (cI cC cZ cQ cJ : ClassId) (t lo q o : Nat) (G : GSt) (f : Nat → Int64) (p0 : Int64) (p1 : Int32) (ho : q + 201 ≤ o) (hlo : lo ≤ q) (hlS : l.stackTraces = false) {R : Nat × Int32 × GSt} (h : fX4_simulate G p0 p1 = some R) (hc : R.1 = 0 ∨ R.1 = 1) : Met l yL_simulate wsL_simulate ({ frames := 7, cells := 1, slots := 6, locals := 134 } : Room) (va_Pc [.ref q, .long p0, .int p1, .ref o] (gBw D (gTy cI cC cZ cQ cJ) t lo (va_P D vwCl (GWO cI cC cZ cQ cJ q o G f)))) (va_Qi (fun r (_ : Unit) => r = gm 1 9 R.1) (fun _ t => va_P D vwCl (GWO cI cC cZ cQ cJ q o R.2.2 (if R.1 = 0 then vp_updL f 0 R.2.1.toInt64 else f)) t.heap) (gOr (fIv q 201) (fIv o 1))) 1 6 (gOr (fIv q 201) (fIv o 1)) := by
  refine gMet_ofWH (cc := cL_simulate) (maxL := 6) (ret := (some .int)) (hh := [(0, 11, 14, 13)]) (by decide) rfl ?_
  intro p e s m args below meth c s₁ B hml hv
  obtain ⟨rfl, ⟨hP, hK⟩, hE⟩ := hv
  have hx := B.exec
  have hb := B.bytes
  have hr := B.returns
  have hts := atoms_spec (ws := wsL_simulate) B.pre
  have hown : s.vm.findClass RL = some m.cls := findClass_of_methodNamed B.named
  have hlocks := B.notSynchronized
  have htb : c.exceptionTable.toList = tableOf [(0, 11, 14, 13)] := vx_table (x := yL_simulate) B (hts (.codeWith yL_simulate cL_simulate 6 (some .int) [(0, 11, 14, 13)]) (by decide +kernel))
  have hl := lv_entry ([.ref q, .long p0, .int p1, .ref o]) (n := 6) (Nat.le_of_ble_eq_true rfl)
  rw [lg_entry_eq]
  generalize (lg_sl ([.ref q, .long p0, .int p1, .ref o]) ++ List.replicate (6 - (lg_sl ([.ref q, .long p0, .int p1, .ref o])).length) Slot.unset).toArray = ls at hl ⊢
  have hl : lv_has ls 6 [(0, .ref q), (1, .long p0), (3, .int p1), (4, .ref o)] := hl
  have hS : va_S (gOr (fIv q 201) (fIv o 1)) s.heap s.heap [] := va_S.rf
  refine lv_aload hx hb dL_simulate_0 (lv_at hl 3 rfl) ?_
  refine lv_iconst (v := 0) hx hb dL_simulate_2 (by decide) ?_
  refine lv_aload_n hx hb dL_simulate_3 rfl (lv_at hl 0 rfl) ?_
  refine lv_lload_n hx hb dL_simulate_4 rfl (lv_at hl 1 rfl) ?_
  refine lv_iload_n hx hb dL_simulate_5 rfl (lv_at hl 2 rfl) ?_
  refine vx_calli (vx_runV (As := [.long p0, .int p1]) (rest := [.int 0, .ref o]) ⟨hx, hb, hml, hown, hts⟩ (kX4_simulate l D cI cC cZ cQ cJ t lo q G p0 p1 hlo hlS h) (cwV 2 hts gL_simulate_X4_simulate rfl rfl rfl (by decide +kernel) ⟨Nat.le_of_ble_eq_true rfl, Nat.le_of_ble_eq_true rfl⟩) ⟨gBe_blind, va_recv hK (gL (w1 := GW cI cC cZ cQ q G) hP) (ci := 4) (q0 := 0) rfl rfl, fun U hU hW => ⟨rfl, ⟨by rw [hU]; exact gL (w1 := GW cI cC cZ cQ q G) hP, va_K.moved hW.alike hK⟩, by rw [hU]; exact hE.1.warm hW⟩⟩ rfl rfl hl.1 rfl (lv_room (Nat.le_of_ble_eq_true rfl)) dL_simulate_6 ⟨Nat.le_of_ble_eq_true rfl, Nat.le_of_ble_eq_true rfl⟩) hS (fun q9 _ h9 => Or.inl h9) (fun q9 h9 => Or.inl h9) (fun q9 _ h9 => Or.inl h9) (fun E ce q9 u t9 H1 locs ht hvm hu hBX hz hk1 hS hce hcv hcl => ?_) (fun r u t9 H1 locs ht hvm hw hB hz hk1 hS => ?_)
  · obtain ⟨hEq, hne, hB⟩ := hBX
    rw [ht] at hB
    have hP := GWO_put ho hP hB hk1
    rcases hc with hc | hc
    · exact absurd hc hne
    · have hEq : E = gIAE := by rw [hEq, hc]; rfl
      subst hEq
      refine vx_catch (name := gIAE) hown [] ⟨0, 11, 14, 13⟩ [] (by rw [htb]; rfl) (fun z9 hz9 => nomatch hz9) (by decide) (by decide) (hts (.classLink RL 13 gIAE) (by decide +kernel)) (va_Nw.use rfl (hE.1.2.2.2.2.1 gIAE (by decide +kernel))) hce hcv hcl ?_
      refine lv_astore (lv' := [(5, .ref q9), (0, .ref q), (1, .long p0), (3, .int p1), (4, .ref o)]) hx hb dL_simulate_14 hl (by decide) rfl (fun ls hl => ?_)
      refine lv_iconst (v := 1) hx hb dL_simulate_16 (by decide) ?_
      exact W.iret (v := 1) hx hb hr (fun t ht hW => ⟨⟨_, (), rfl, by rw [hc]; rfl, by show va_P D vwCl _ t.heap; rw [if_neg hne, ht]; exact hP⟩, hS.F ht⟩) hS.2.2 dL_simulate_17
  · obtain ⟨hw0, rfl⟩ := hw
    rw [ht] at hB
    have hP := GWO_put ho hP hB hk1
    generalize H1 = H at hP hS ⊢
    refine lv_i2l hx hb dL_simulate_9 rfl ?_
    refine va_last (f := f) (i := 0) hx hb hK hP (GWO_self ho) hS 201 4 GWO_at rfl (vin_lit rfl) dL_simulate_10 (fun H locs hP _ hS => ?_)
    rw [GWO_set] at hP
    refine lv_goto (tgt := 18) hx hb dL_simulate_11 (by decide) ?_
    refine lv_iconst (v := 0) hx hb dL_simulate_18 (by decide) ?_
    exact W.iret (v := 0) hx hb hr (fun t ht hW => ⟨⟨_, (), rfl, by rw [hw0]; rfl, by show va_P D vwCl _ t.heap; rw [if_pos hw0, ht]; exact hP⟩, hS.F ht⟩) hS.2.2 dL_simulate_19
set_option maxHeartbeats 4000000 in
set_option maxRecDepth 100000 in
theorem kL_save (l : Launch) (D : va_G) (cI cC cZ cQ cJ : ClassId) (t lo q o : Nat) (G : GSt) (f : Nat → Int64) (p0 : Int32) (ho : q + 201 ≤ o) (hlo : lo ≤ q) (hlS : l.stackTraces = false) {R : Nat × Int32 × GSt} (h : fX4_save G p0 = some R) (hc : R.1 = 0 ∨ R.1 = 3) : Met l yL_save wsL_save ({ frames := 7, cells := 1, slots := 6, locals := 105 } : Room) (va_Pc [.ref q, .int p0, .ref o] (gBw D (gTy cI cC cZ cQ cJ) t lo (va_P D vwCl (GWO cI cC cZ cQ cJ q o G f)))) (va_Qi (fun r (_ : Unit) => r = gm 3 9 R.1) (fun _ t => va_P D vwCl (GWO cI cC cZ cQ cJ q o R.2.2 (if R.1 = 0 then vp_updL f 0 R.2.1.toInt64 else f)) t.heap) (gOr (fIv q 201) (fIv o 1))) 1 6 (gOr (fIv q 201) (fIv o 1)) := by
  refine gMet_ofWH (cc := cL_save) (maxL := 4) (ret := (some .int)) (hh := [(0, 9, 12, 28)]) (by decide) rfl ?_
  intro p e s m args below meth c s₁ B hml hv
  obtain ⟨rfl, ⟨hP, hK⟩, hE⟩ := hv
  have hx := B.exec
  have hb := B.bytes
  have hr := B.returns
  have hts := atoms_spec (ws := wsL_save) B.pre
  have hown : s.vm.findClass RL = some m.cls := findClass_of_methodNamed B.named
  have hlocks := B.notSynchronized
  have htb : c.exceptionTable.toList = tableOf [(0, 9, 12, 28)] := vx_table (x := yL_save) B (hts (.codeWith yL_save cL_save 4 (some .int) [(0, 9, 12, 28)]) (by decide +kernel))
  have hl := lv_entry ([.ref q, .int p0, .ref o]) (n := 4) (Nat.le_of_ble_eq_true rfl)
  rw [lg_entry_eq]
  generalize (lg_sl ([.ref q, .int p0, .ref o]) ++ List.replicate (4 - (lg_sl ([.ref q, .int p0, .ref o])).length) Slot.unset).toArray = ls at hl ⊢
  have hl : lv_has ls 4 [(0, .ref q), (1, .int p0), (2, .ref o)] := hl
  have hS : va_S (gOr (fIv q 201) (fIv o 1)) s.heap s.heap [] := va_S.rf
  refine lv_aload_n hx hb dL_save_0 rfl (lv_at hl 2 rfl) ?_
  refine lv_iconst (v := 0) hx hb dL_save_1 (by decide) ?_
  refine lv_aload_n hx hb dL_save_2 rfl (lv_at hl 0 rfl) ?_
  refine lv_iload_n hx hb dL_save_3 rfl (lv_at hl 1 rfl) ?_
  refine vx_calli (vx_runV (As := [.int p0]) (rest := [.int 0, .ref o]) ⟨hx, hb, hml, hown, hts⟩ (kX4_save l D cI cC cZ cQ cJ t lo q G p0 hlo hlS h) (cwV 1 hts gL_save_X4_save rfl rfl rfl (by decide +kernel) ⟨Nat.le_of_ble_eq_true rfl, Nat.le_of_ble_eq_true rfl⟩) ⟨gBe_blind, va_recv hK (gL (w1 := GW cI cC cZ cQ q G) hP) (ci := 4) (q0 := 0) rfl rfl, fun U hU hW => ⟨rfl, ⟨by rw [hU]; exact gL (w1 := GW cI cC cZ cQ q G) hP, va_K.moved hW.alike hK⟩, by rw [hU]; exact hE.1.warm hW⟩⟩ rfl rfl hl.1 rfl (lv_room (Nat.le_of_ble_eq_true rfl)) dL_save_4 ⟨Nat.le_of_ble_eq_true rfl, Nat.le_of_ble_eq_true rfl⟩) hS (fun q9 _ h9 => Or.inl h9) (fun q9 h9 => Or.inl h9) (fun q9 _ h9 => Or.inl h9) (fun E ce q9 u t9 H1 locs ht hvm hu hBX hz hk1 hS hce hcv hcl => ?_) (fun r u t9 H1 locs ht hvm hw hB hz hk1 hS => ?_)
  · obtain ⟨hEq, hne, hB⟩ := hBX
    rw [ht] at hB
    have hP := GWO_put ho hP hB hk1
    rcases hc with hc | hc
    · exact absurd hc hne
    · have hEq : E = gIOB := by rw [hEq, hc]; rfl
      subst hEq
      refine vx_catch (name := gIOB) hown [] ⟨0, 9, 12, 28⟩ [] (by rw [htb]; rfl) (fun z9 hz9 => nomatch hz9) (by decide) (by decide) (hts (.classLink RL 28 gIOB) (by decide +kernel)) (va_Nw.use rfl (hE.1.2.2.2.2.1 gIOB (by decide +kernel))) hce hcv hcl ?_
      refine lv_astore_n (lv' := [(3, .ref q9), (0, .ref q), (1, .int p0), (2, .ref o)]) hx hb dL_save_12 rfl hl (by decide) rfl (fun ls hl => ?_)
      refine lv_iconst (v := 1) hx hb dL_save_13 (by decide) ?_
      exact W.iret (v := 1) hx hb hr (fun t ht hW => ⟨⟨_, (), rfl, by rw [hc]; rfl, by show va_P D vwCl _ t.heap; rw [if_neg hne, ht]; exact hP⟩, hS.F ht⟩) hS.2.2 dL_save_14
  · obtain ⟨hw0, rfl⟩ := hw
    rw [ht] at hB
    have hP := GWO_put ho hP hB hk1
    generalize H1 = H at hP hS ⊢
    refine lv_i2l hx hb dL_save_7 rfl ?_
    refine va_last (f := f) (i := 0) hx hb hK hP (GWO_self ho) hS 201 4 GWO_at rfl (vin_lit rfl) dL_save_8 (fun H locs hP _ hS => ?_)
    rw [GWO_set] at hP
    refine lv_goto (tgt := 15) hx hb dL_save_9 (by decide) ?_
    refine lv_iconst (v := 0) hx hb dL_save_15 (by decide) ?_
    exact W.iret (v := 0) hx hb hr (fun t ht hW => ⟨⟨_, (), rfl, by rw [hw0]; rfl, by show va_P D vwCl _ t.heap; rw [if_pos hw0, ht]; exact hP⟩, hS.F ht⟩) hS.2.2 dL_save_16
set_option maxHeartbeats 4000000 in
set_option maxRecDepth 100000 in
theorem kL_restore (l : Launch) (D : va_G) (cI cC cZ cQ cJ : ClassId) (t lo q o : Nat) (G : GSt) (f : Nat → Int64) (p0 : Int32) (ho : q + 201 ≤ o) (hlo : lo ≤ q) (hlS : l.stackTraces = false) {R : Nat × Int32 × GSt} (h : fX4_restore G p0 = some R) (hc : R.1 = 0 ∨ R.1 = 3 ∨ R.1 = 2) : Met l yL_restore wsL_restore ({ frames := 7, cells := 1, slots := 6, locals := 105 } : Room) (va_Pc [.ref q, .int p0, .ref o] (gBw D (gTy cI cC cZ cQ cJ) t lo (va_P D vwCl (GWO cI cC cZ cQ cJ q o G f)))) (va_Qi (fun r (_ : Unit) => r = gm 3 2 R.1) (fun _ t => va_P D vwCl (GWO cI cC cZ cQ cJ q o R.2.2 (if R.1 = 0 then vp_updL f 0 R.2.1.toInt64 else f)) t.heap) (gOr (fIv q 201) (fIv o 1))) 1 6 (gOr (fIv q 201) (fIv o 1)) := by
  refine gMet_ofWH (cc := cL_restore) (maxL := 4) (ret := (some .int)) (hh := [(0, 9, 12, 28), (0, 9, 15, 15)]) (by decide) rfl ?_
  intro p e s m args below meth c s₁ B hml hv
  obtain ⟨rfl, ⟨hP, hK⟩, hE⟩ := hv
  have hx := B.exec
  have hb := B.bytes
  have hr := B.returns
  have hts := atoms_spec (ws := wsL_restore) B.pre
  have hown : s.vm.findClass RL = some m.cls := findClass_of_methodNamed B.named
  have hlocks := B.notSynchronized
  have htb : c.exceptionTable.toList = tableOf [(0, 9, 12, 28), (0, 9, 15, 15)] := vx_table (x := yL_restore) B (hts (.codeWith yL_restore cL_restore 4 (some .int) [(0, 9, 12, 28), (0, 9, 15, 15)]) (by decide +kernel))
  have hl := lv_entry ([.ref q, .int p0, .ref o]) (n := 4) (Nat.le_of_ble_eq_true rfl)
  rw [lg_entry_eq]
  generalize (lg_sl ([.ref q, .int p0, .ref o]) ++ List.replicate (4 - (lg_sl ([.ref q, .int p0, .ref o])).length) Slot.unset).toArray = ls at hl ⊢
  have hl : lv_has ls 4 [(0, .ref q), (1, .int p0), (2, .ref o)] := hl
  have hS : va_S (gOr (fIv q 201) (fIv o 1)) s.heap s.heap [] := va_S.rf
  refine lv_aload_n hx hb dL_restore_0 rfl (lv_at hl 2 rfl) ?_
  refine lv_iconst (v := 0) hx hb dL_restore_1 (by decide) ?_
  refine lv_aload_n hx hb dL_restore_2 rfl (lv_at hl 0 rfl) ?_
  refine lv_iload_n hx hb dL_restore_3 rfl (lv_at hl 1 rfl) ?_
  refine vx_calli (vx_runV (As := [.int p0]) (rest := [.int 0, .ref o]) ⟨hx, hb, hml, hown, hts⟩ (kX4_restore l D cI cC cZ cQ cJ t lo q G p0 hlo hlS h) (cwV 1 hts gL_restore_X4_restore rfl rfl rfl (by decide +kernel) ⟨Nat.le_of_ble_eq_true rfl, Nat.le_of_ble_eq_true rfl⟩) ⟨gBe_blind, va_recv hK (gL (w1 := GW cI cC cZ cQ q G) hP) (ci := 4) (q0 := 0) rfl rfl, fun U hU hW => ⟨rfl, ⟨by rw [hU]; exact gL (w1 := GW cI cC cZ cQ q G) hP, va_K.moved hW.alike hK⟩, by rw [hU]; exact hE.1.warm hW⟩⟩ rfl rfl hl.1 rfl (lv_room (Nat.le_of_ble_eq_true rfl)) dL_restore_4 ⟨Nat.le_of_ble_eq_true rfl, Nat.le_of_ble_eq_true rfl⟩) hS (fun q9 _ h9 => Or.inl h9) (fun q9 h9 => Or.inl h9) (fun q9 _ h9 => Or.inl h9) (fun E ce q9 u t9 H1 locs ht hvm hu hBX hz hk1 hS hce hcv hcl => ?_) (fun r u t9 H1 locs ht hvm hw hB hz hk1 hS => ?_)
  · obtain ⟨hEq, hne, hB⟩ := hBX
    rw [ht] at hB
    have hP := GWO_put ho hP hB hk1
    rcases hc with hc | hc | hc
    · exact absurd hc hne
    · have hEq : E = gIOB := by rw [hEq, hc]; rfl
      subst hEq
      refine vx_catch (name := gIOB) hown [] ⟨0, 9, 12, 28⟩ [⟨0, 9, 15, 15⟩] (by rw [htb]; rfl) (fun z9 hz9 => nomatch hz9) (by decide) (by decide) (hts (.classLink RL 28 gIOB) (by decide +kernel)) (va_Nw.use rfl (hE.1.2.2.2.2.1 gIOB (by decide +kernel))) hce hcv hcl ?_
      refine lv_astore_n (lv' := [(3, .ref q9), (0, .ref q), (1, .int p0), (2, .ref o)]) hx hb dL_restore_12 rfl hl (by decide) rfl (fun ls hl => ?_)
      refine lv_iconst (v := 1) hx hb dL_restore_13 (by decide) ?_
      exact W.iret (v := 1) hx hb hr (fun t ht hW => ⟨⟨_, (), rfl, by rw [hc]; rfl, by show va_P D vwCl _ t.heap; rw [if_neg hne, ht]; exact hP⟩, hS.F ht⟩) hS.2.2 dL_restore_14
    · have hEq : E = gISE := by rw [hEq, hc]; rfl
      subst hEq
      refine vx_catch (name := gISE) hown [⟨0, 9, 12, 28⟩] ⟨0, 9, 15, 15⟩ [] (by rw [htb]; rfl) (fun z9 hz9 => by rw [List.mem_singleton.mp hz9]; exact Or.inr ⟨by decide, gIOB, hts (.classLink RL 28 gIOB) (by decide +kernel), hE.2 (gISE, gIOB) (by decide +kernel)⟩) (by decide) (by decide) (hts (.classLink RL 15 gISE) (by decide +kernel)) (va_Nw.use rfl (hE.1.2.2.2.2.1 gISE (by decide +kernel))) hce hcv hcl ?_
      refine lv_astore_n (lv' := [(3, .ref q9), (0, .ref q), (1, .int p0), (2, .ref o)]) hx hb dL_restore_15 rfl hl (by decide) rfl (fun ls hl => ?_)
      refine lv_iconst (v := 2) hx hb dL_restore_16 (by decide) ?_
      exact W.iret (v := 2) hx hb hr (fun t ht hW => ⟨⟨_, (), rfl, by rw [hc]; rfl, by show va_P D vwCl _ t.heap; rw [if_neg hne, ht]; exact hP⟩, hS.F ht⟩) hS.2.2 dL_restore_17
  · obtain ⟨hw0, rfl⟩ := hw
    rw [ht] at hB
    have hP := GWO_put ho hP hB hk1
    generalize H1 = H at hP hS ⊢
    refine lv_i2l hx hb dL_restore_7 rfl ?_
    refine va_last (f := f) (i := 0) hx hb hK hP (GWO_self ho) hS 201 4 GWO_at rfl (vin_lit rfl) dL_restore_8 (fun H locs hP _ hS => ?_)
    rw [GWO_set] at hP
    refine lv_goto (tgt := 18) hx hb dL_restore_9 (by decide) ?_
    refine lv_iconst (v := 0) hx hb dL_restore_18 (by decide) ?_
    exact W.iret (v := 0) hx hb hr (fun t ht hW => ⟨⟨_, (), rfl, by rw [hw0]; rfl, by show va_P D vwCl _ t.heap; rw [if_pos hw0, ht]; exact hP⟩, hS.F ht⟩) hS.2.2 dL_restore_19

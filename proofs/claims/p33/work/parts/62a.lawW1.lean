set_option maxHeartbeats 4000000 in
set_option maxRecDepth 100000 in
theorem kL_append (l : Launch) (D : va_G) (cI cC cZ cQ cJ : ClassId) (t lo q : Nat) (G : GSt) (p0 : Int32) (hlo : lo ≤ q) (hlS : l.stackTraces = false) {R : Int64 × GSt} (h : fL_append G p0 = some R) : Met l yL_append wsL_append ({ frames := 7, cells := 1, slots := 6, locals := 103 } : Room) (va_Pc [.ref q, .int p0] (gBw D (gTy cI cC cZ cQ cJ) t lo (va_P D vwCl (GW cI cC cZ cQ q G)))) (va_Ql (fun r (_ : Unit) => r = R.1) (fun _ t => va_P D vwCl (GW cI cC cZ cQ q R.2) t.heap) (fIv q 201)) 1 6 (fIv q 201) := by
  unfold fL_append at h
  obtain ⟨R0, h0, h1⟩ := bd_some h
  refine gMet_ofWH (cc := cL_append) (maxL := 3) (ret := (some .long)) (hh := [(0, 6, 7, 15), (0, 6, 12, 19)]) (by decide) rfl ?_
  intro p e s m args below meth c s₁ B hml hv
  obtain ⟨rfl, ⟨hP, hK⟩, hE⟩ := hv
  have hx := B.exec
  have hb := B.bytes
  have hr := B.returns
  have hts := atoms_spec (ws := wsL_append) B.pre
  have hown : s.vm.findClass RL = some m.cls := findClass_of_methodNamed B.named
  have hlocks := B.notSynchronized
  have htb : c.exceptionTable.toList = tableOf [(0, 6, 7, 15), (0, 6, 12, 19)] := vx_table (x := yL_append) B (hts (.codeWith yL_append cL_append 3 (some .long) [(0, 6, 7, 15), (0, 6, 12, 19)]) (by decide +kernel))
  have hl := lv_entry ([.ref q, .int p0]) (n := 3) (Nat.le_of_ble_eq_true rfl)
  rw [lg_entry_eq]
  generalize (lg_sl ([.ref q, .int p0]) ++ List.replicate (3 - (lg_sl ([.ref q, .int p0])).length) Slot.unset).toArray = ls at hl ⊢
  have hl : lv_has ls 3 [(0, .ref q), (1, .int p0)] := hl
  have hS : va_S (fIv q 201) s.heap s.heap [] := va_S.rf
  refine lv_aload_n hx hb dL_append_0 rfl (lv_at hl 0 rfl) ?_
  refine lv_iload_n hx hb dL_append_1 rfl (lv_at hl 1 rfl) ?_
  refine vx_calli (vx_runV (As := [.int p0]) (rest := []) ⟨hx, hb, hml, hown, hts⟩ (kX4_append l D cI cC cZ cQ cJ t lo q G p0 hlo hlS h0) (cwV 1 hts gL_append_X4_append rfl rfl rfl (by decide +kernel) ⟨Nat.le_of_ble_eq_true rfl, Nat.le_of_ble_eq_true rfl⟩) ⟨gBe_blind, va_recv hK hP (ci := 4) (q0 := 0) rfl rfl, fun U hU hW => ⟨rfl, ⟨by rw [hU]; exact hP, va_K.moved hW.alike hK⟩, by rw [hU]; exact hE.1.warm hW⟩⟩ rfl rfl hl.1 rfl (lv_room (Nat.le_of_ble_eq_true rfl)) dL_append_2 ⟨Nat.le_of_ble_eq_true rfl, Nat.le_of_ble_eq_true rfl⟩) hS (fun q9 _ h9 => h9) (fun q9 h9 => h9) (fun q9 _ h9 => h9) (fun E ce q9 u t9 H1 locs ht hvm hu hBX hz hk1 hS hce hcv hcl => ?_) (fun r u t9 H1 locs ht hvm hw hB hz hk1 hS => ?_)
  · obtain ⟨hEq, hne, hB⟩ := hBX
    rw [ht] at hB
    obtain ⟨hc, rfl⟩ := gmx_no h1 hne
    rcases hc with hc | hc 
    · have hEq : E = gIAE := by rw [hEq, hc]; rfl
      subst hEq
      refine vx_catch (name := gIAE) hown [] ⟨0, 6, 7, 15⟩ [⟨0, 6, 12, 19⟩] (by rw [htb]; rfl) (fun z9 hz9 => nomatch hz9) (by decide) (by decide) (hts (.classLink RL 15 gIAE) (by decide +kernel)) (va_Nw.use rfl (hE.1.2.2.2.2.1 gIAE (by decide +kernel))) hce hcv hcl ?_
      refine lv_astore_n (lv' := [(2, .ref q9), (0, .ref q), (1, .int p0)]) hx hb dL_append_7 rfl hl (by decide) rfl (fun ls hl => ?_)
      refine lv_ldc2 (v := (-9000000000000000002)) hx hb hown (hts (.constantLong RL 17 (-9000000000000000002)) (by decide +kernel)) dL_append_8 ?_
      exact W.lret (v := (-9000000000000000002)) hx hb hr (fun t ht hW => ⟨⟨_, (), rfl, by rw [hc]; rfl, by show va_P D vwCl _ t.heap; rw [ht]; exact hB⟩, hS.F ht⟩) hS.2.2 dL_append_11
    · obtain ⟨hc, -⟩ := hc
      have hEq : E = gISE := by rw [hEq, hc]; rfl
      subst hEq
      refine vx_catch (name := gISE) hown [⟨0, 6, 7, 15⟩] ⟨0, 6, 12, 19⟩ [] (by rw [htb]; rfl) (fun z9 hz9 => by rw [List.mem_singleton.mp hz9]; exact Or.inr ⟨by decide, gIAE, hts (.classLink RL 15 gIAE) (by decide +kernel), hE.2 (gISE, gIAE) (by decide +kernel)⟩) (by decide) (by decide) (hts (.classLink RL 19 gISE) (by decide +kernel)) (va_Nw.use rfl (hE.1.2.2.2.2.1 gISE (by decide +kernel))) hce hcv hcl ?_
      refine lv_astore_n (lv' := [(2, .ref q9), (0, .ref q), (1, .int p0)]) hx hb dL_append_12 rfl hl (by decide) rfl (fun ls hl => ?_)
      refine lv_ldc2 (v := (-9000000000000000003)) hx hb hown (hts (.constantLong RL 21 (-9000000000000000003)) (by decide +kernel)) dL_append_13 ?_
      exact W.lret (v := (-9000000000000000003)) hx hb hr (fun t ht hW => ⟨⟨_, (), rfl, by rw [hc]; rfl, by show va_P D vwCl _ t.heap; rw [ht]; exact hB⟩, hS.F ht⟩) hS.2.2 dL_append_16
  · obtain ⟨hw0, rfl⟩ := hw
    rw [ht] at hB
    obtain rfl := gmx_yes h1 hw0
    generalize H1 = H at hB hS ⊢
    refine lv_i2l hx hb dL_append_5 rfl ?_
    exact W.lret (v := R0.2.1.toInt64) hx hb hr (fun t ht hW => ⟨⟨_, (), rfl, rfl, by show va_P D vwCl _ t.heap; rw [ht]; exact hB⟩, hS.F ht⟩) hS.2.2 dL_append_6
set_option maxHeartbeats 4000000 in
set_option maxRecDepth 100000 in
theorem kL_load (l : Launch) (D : va_G) (cI cC cZ cQ cJ : ClassId) (t lo q : Nat) (G : GSt) (hlo : lo ≤ q) (hlS : l.stackTraces = false) {R : Int64 × GSt} (h : fL_load G = some R) : Met l yL_load wsL_load ({ frames := 7, cells := 1, slots := 6, locals := 164 } : Room) (va_Pc [.ref q] (gBw D (gTy cI cC cZ cQ cJ) t lo (va_P D vwCl (GW cI cC cZ cQ q G)))) (va_Ql (fun r (_ : Unit) => r = R.1) (fun _ t => va_P D vwCl (GW cI cC cZ cQ q R.2) t.heap) (fIv q 201)) 1 6 (fIv q 201) := by
  unfold fL_load at h
  obtain ⟨R0, h0, h1⟩ := bd_some h
  refine gMet_ofWH (cc := cL_load) (maxL := 2) (ret := (some .long)) (hh := [(0, 5, 6, 19)]) (by decide) rfl ?_
  intro p e s m args below meth c s₁ B hml hv
  obtain ⟨rfl, ⟨hP, hK⟩, hE⟩ := hv
  have hx := B.exec
  have hb := B.bytes
  have hr := B.returns
  have hts := atoms_spec (ws := wsL_load) B.pre
  have hown : s.vm.findClass RL = some m.cls := findClass_of_methodNamed B.named
  have hlocks := B.notSynchronized
  have htb : c.exceptionTable.toList = tableOf [(0, 5, 6, 19)] := vx_table (x := yL_load) B (hts (.codeWith yL_load cL_load 2 (some .long) [(0, 5, 6, 19)]) (by decide +kernel))
  have hl := lv_entry ([.ref q]) (n := 2) (Nat.le_of_ble_eq_true rfl)
  rw [lg_entry_eq]
  generalize (lg_sl ([.ref q]) ++ List.replicate (2 - (lg_sl ([.ref q])).length) Slot.unset).toArray = ls at hl ⊢
  have hl : lv_has ls 2 [(0, .ref q)] := hl
  have hS : va_S (fIv q 201) s.heap s.heap [] := va_S.rf
  refine lv_aload_n hx hb dL_load_0 rfl (lv_at hl 0 rfl) ?_
  refine vx_calli (vx_runV (As := []) (rest := []) ⟨hx, hb, hml, hown, hts⟩ (kX4_load l D cI cC cZ cQ cJ t lo q G hlo hlS h0) (cwV 0 hts gL_load_X4_load rfl rfl rfl (by decide +kernel) ⟨Nat.le_of_ble_eq_true rfl, Nat.le_of_ble_eq_true rfl⟩) ⟨gBe_blind, va_recv hK hP (ci := 4) (q0 := 0) rfl rfl, fun U hU hW => ⟨rfl, ⟨by rw [hU]; exact hP, va_K.moved hW.alike hK⟩, by rw [hU]; exact hE.1.warm hW⟩⟩ rfl rfl hl.1 rfl (lv_room (Nat.le_of_ble_eq_true rfl)) dL_load_1 ⟨Nat.le_of_ble_eq_true rfl, Nat.le_of_ble_eq_true rfl⟩) hS (fun q9 _ h9 => h9) (fun q9 h9 => h9) (fun q9 _ h9 => h9) (fun E ce q9 u t9 H1 locs ht hvm hu hBX hz hk1 hS hce hcv hcl => ?_) (fun r u t9 H1 locs ht hvm hw hB hz hk1 hS => ?_)
  · obtain ⟨hEq, hne, hB⟩ := hBX
    rw [ht] at hB
    obtain ⟨hc, rfl⟩ := gmx_no h1 hne
    rcases hc with hc | hc 
    · have hEq : E = gISE := by rw [hEq, hc]; rfl
      subst hEq
      refine vx_catch (name := gISE) hown [] ⟨0, 5, 6, 19⟩ [] (by rw [htb]; rfl) (fun z9 hz9 => nomatch hz9) (by decide) (by decide) (hts (.classLink RL 19 gISE) (by decide +kernel)) (va_Nw.use rfl (hE.1.2.2.2.2.1 gISE (by decide +kernel))) hce hcv hcl ?_
      refine lv_astore_n (lv' := [(1, .ref q9), (0, .ref q)]) hx hb dL_load_6 rfl hl (by decide) rfl (fun ls hl => ?_)
      refine lv_ldc2 (v := (-9000000000000000003)) hx hb hown (hts (.constantLong RL 21 (-9000000000000000003)) (by decide +kernel)) dL_load_7 ?_
      exact W.lret (v := (-9000000000000000003)) hx hb hr (fun t ht hW => ⟨⟨_, (), rfl, by rw [hc]; rfl, by show va_P D vwCl _ t.heap; rw [ht]; exact hB⟩, hS.F ht⟩) hS.2.2 dL_load_10
    · exact absurd rfl hc.2
  · obtain ⟨hw0, rfl⟩ := hw
    rw [ht] at hB
    obtain rfl := gmx_yes h1 hw0
    generalize H1 = H at hB hS ⊢
    refine lv_i2l hx hb dL_load_4 rfl ?_
    exact W.lret (v := R0.2.1.toInt64) hx hb hr (fun t ht hW => ⟨⟨_, (), rfl, rfl, by show va_P D vwCl _ t.heap; rw [ht]; exact hB⟩, hS.F ht⟩) hS.2.2 dL_load_5
set_option maxHeartbeats 4000000 in
set_option maxRecDepth 100000 in
theorem kL_about (l : Launch) (D : va_G) (cI cC cZ cQ cJ : ClassId) (t lo q : Nat) (G : GSt) (p0 : Int32) (hlo : lo ≤ q) (hlS : l.stackTraces = false) {R : Int64 × GSt} (h : fL_about G p0 = some R) : Met l yL_about wsL_about ({ frames := 7, cells := 1, slots := 6, locals := 103 } : Room) (va_Pc [.ref q, .int p0] (gBw D (gTy cI cC cZ cQ cJ) t lo (va_P D vwCl (GW cI cC cZ cQ q G)))) (va_Ql (fun r (_ : Unit) => r = R.1) (fun _ t => va_P D vwCl (GW cI cC cZ cQ q R.2) t.heap) (fIv q 201)) 1 6 (fIv q 201) := by
  unfold fL_about at h
  obtain ⟨R0, h0, h1⟩ := bd_some h
  refine gMet_ofWH (cc := cL_about) (maxL := 3) (ret := (some .long)) (hh := [(0, 6, 7, 15)]) (by decide) rfl ?_
  intro p e s m args below meth c s₁ B hml hv
  obtain ⟨rfl, ⟨hP, hK⟩, hE⟩ := hv
  have hx := B.exec
  have hb := B.bytes
  have hr := B.returns
  have hts := atoms_spec (ws := wsL_about) B.pre
  have hown : s.vm.findClass RL = some m.cls := findClass_of_methodNamed B.named
  have hlocks := B.notSynchronized
  have htb : c.exceptionTable.toList = tableOf [(0, 6, 7, 15)] := vx_table (x := yL_about) B (hts (.codeWith yL_about cL_about 3 (some .long) [(0, 6, 7, 15)]) (by decide +kernel))
  have hl := lv_entry ([.ref q, .int p0]) (n := 3) (Nat.le_of_ble_eq_true rfl)
  rw [lg_entry_eq]
  generalize (lg_sl ([.ref q, .int p0]) ++ List.replicate (3 - (lg_sl ([.ref q, .int p0])).length) Slot.unset).toArray = ls at hl ⊢
  have hl : lv_has ls 3 [(0, .ref q), (1, .int p0)] := hl
  have hS : va_S (fIv q 201) s.heap s.heap [] := va_S.rf
  refine lv_aload_n hx hb dL_about_0 rfl (lv_at hl 0 rfl) ?_
  refine lv_iload_n hx hb dL_about_1 rfl (lv_at hl 1 rfl) ?_
  refine vx_calli (vx_runV (As := [.int p0]) (rest := []) ⟨hx, hb, hml, hown, hts⟩ (kX4_about l D cI cC cZ cQ cJ t lo q G p0 hlo hlS h0) (cwV 1 hts gL_about_X4_about rfl rfl rfl (by decide +kernel) ⟨Nat.le_of_ble_eq_true rfl, Nat.le_of_ble_eq_true rfl⟩) ⟨gBe_blind, va_recv hK hP (ci := 4) (q0 := 0) rfl rfl, fun U hU hW => ⟨rfl, ⟨by rw [hU]; exact hP, va_K.moved hW.alike hK⟩, by rw [hU]; exact hE.1.warm hW⟩⟩ rfl rfl hl.1 rfl (lv_room (Nat.le_of_ble_eq_true rfl)) dL_about_2 ⟨Nat.le_of_ble_eq_true rfl, Nat.le_of_ble_eq_true rfl⟩) hS (fun q9 _ h9 => h9) (fun q9 h9 => h9) (fun q9 _ h9 => h9) (fun E ce q9 u t9 H1 locs ht hvm hu hBX hz hk1 hS hce hcv hcl => ?_) (fun r u t9 H1 locs ht hvm hw hB hz hk1 hS => ?_)
  · obtain ⟨hEq, hne, hB⟩ := hBX
    rw [ht] at hB
    obtain ⟨hc, rfl⟩ := gmx_no h1 hne
    rcases hc with hc | hc 
    · have hEq : E = gIAE := by rw [hEq, hc]; rfl
      subst hEq
      refine vx_catch (name := gIAE) hown [] ⟨0, 6, 7, 15⟩ [] (by rw [htb]; rfl) (fun z9 hz9 => nomatch hz9) (by decide) (by decide) (hts (.classLink RL 15 gIAE) (by decide +kernel)) (va_Nw.use rfl (hE.1.2.2.2.2.1 gIAE (by decide +kernel))) hce hcv hcl ?_
      refine lv_astore_n (lv' := [(2, .ref q9), (0, .ref q), (1, .int p0)]) hx hb dL_about_7 rfl hl (by decide) rfl (fun ls hl => ?_)
      refine lv_ldc2 (v := (-9000000000000000002)) hx hb hown (hts (.constantLong RL 17 (-9000000000000000002)) (by decide +kernel)) dL_about_8 ?_
      exact W.lret (v := (-9000000000000000002)) hx hb hr (fun t ht hW => ⟨⟨_, (), rfl, by rw [hc]; rfl, by show va_P D vwCl _ t.heap; rw [ht]; exact hB⟩, hS.F ht⟩) hS.2.2 dL_about_11
    · exact absurd rfl hc.2
  · obtain ⟨hw0, rfl⟩ := hw
    rw [ht] at hB
    obtain rfl := gmx_yes h1 hw0
    generalize H1 = H at hB hS ⊢
    refine lv_i2l hx hb dL_about_5 rfl ?_
    exact W.lret (v := R0.2.1.toInt64) hx hb hr (fun t ht hW => ⟨⟨_, (), rfl, rfl, by show va_P D vwCl _ t.heap; rw [ht]; exact hB⟩, hS.F ht⟩) hS.2.2 dL_about_6
set_option maxHeartbeats 4000000 in
set_option maxRecDepth 100000 in
theorem kL_grip (l : Launch) (D : va_G) (cI cC cZ cQ cJ : ClassId) (t lo q : Nat) (G : GSt) (p0 : Int32) (p1 : Int32) (hlo : lo ≤ q) (hlS : l.stackTraces = false) {R : Int64 × GSt} (h : fL_grip G p0 p1 = some R) : Met l yL_grip wsL_grip ({ frames := 7, cells := 1, slots := 6, locals := 104 } : Room) (va_Pc [.ref q, .int p0, .int p1] (gBw D (gTy cI cC cZ cQ cJ) t lo (va_P D vwCl (GW cI cC cZ cQ q G)))) (va_Ql (fun r (_ : Unit) => r = R.1) (fun _ t => va_P D vwCl (GW cI cC cZ cQ q R.2) t.heap) (fIv q 201)) 1 6 (fIv q 201) := by
  unfold fL_grip at h
  obtain ⟨R0, h0, h1⟩ := bd_some h
  refine gMet_ofWH (cc := cL_grip) (maxL := 4) (ret := (some .long)) (hh := [(0, 7, 8, 34), (0, 7, 13, 15)]) (by decide) rfl ?_
  intro p e s m args below meth c s₁ B hml hv
  obtain ⟨rfl, ⟨hP, hK⟩, hE⟩ := hv
  have hx := B.exec
  have hb := B.bytes
  have hr := B.returns
  have hts := atoms_spec (ws := wsL_grip) B.pre
  have hown : s.vm.findClass RL = some m.cls := findClass_of_methodNamed B.named
  have hlocks := B.notSynchronized
  have htb : c.exceptionTable.toList = tableOf [(0, 7, 8, 34), (0, 7, 13, 15)] := vx_table (x := yL_grip) B (hts (.codeWith yL_grip cL_grip 4 (some .long) [(0, 7, 8, 34), (0, 7, 13, 15)]) (by decide +kernel))
  have hl := lv_entry ([.ref q, .int p0, .int p1]) (n := 4) (Nat.le_of_ble_eq_true rfl)
  rw [lg_entry_eq]
  generalize (lg_sl ([.ref q, .int p0, .int p1]) ++ List.replicate (4 - (lg_sl ([.ref q, .int p0, .int p1])).length) Slot.unset).toArray = ls at hl ⊢
  have hl : lv_has ls 4 [(0, .ref q), (1, .int p0), (2, .int p1)] := hl
  have hS : va_S (fIv q 201) s.heap s.heap [] := va_S.rf
  refine lv_aload_n hx hb dL_grip_0 rfl (lv_at hl 0 rfl) ?_
  refine lv_iload_n hx hb dL_grip_1 rfl (lv_at hl 1 rfl) ?_
  refine lv_iload_n hx hb dL_grip_2 rfl (lv_at hl 2 rfl) ?_
  refine vx_calli (vx_runV (As := [.int p0, .int p1]) (rest := []) ⟨hx, hb, hml, hown, hts⟩ (kX4_grip l D cI cC cZ cQ cJ t lo q G p0 p1 hlo hlS h0) (cwV 2 hts gL_grip_X4_grip rfl rfl rfl (by decide +kernel) ⟨Nat.le_of_ble_eq_true rfl, Nat.le_of_ble_eq_true rfl⟩) ⟨gBe_blind, va_recv hK hP (ci := 4) (q0 := 0) rfl rfl, fun U hU hW => ⟨rfl, ⟨by rw [hU]; exact hP, va_K.moved hW.alike hK⟩, by rw [hU]; exact hE.1.warm hW⟩⟩ rfl rfl hl.1 rfl (lv_room (Nat.le_of_ble_eq_true rfl)) dL_grip_3 ⟨Nat.le_of_ble_eq_true rfl, Nat.le_of_ble_eq_true rfl⟩) hS (fun q9 _ h9 => h9) (fun q9 h9 => h9) (fun q9 _ h9 => h9) (fun E ce q9 u t9 H1 locs ht hvm hu hBX hz hk1 hS hce hcv hcl => ?_) (fun r u t9 H1 locs ht hvm hw hB hz hk1 hS => ?_)
  · obtain ⟨hEq, hne, hB⟩ := hBX
    rw [ht] at hB
    obtain ⟨hc, rfl⟩ := gmx_no h1 hne
    rcases hc with hc | hc 
    · have hEq : E = gIOB := by rw [hEq, hc]; rfl
      subst hEq
      refine vx_catch (name := gIOB) hown [] ⟨0, 7, 8, 34⟩ [⟨0, 7, 13, 15⟩] (by rw [htb]; rfl) (fun z9 hz9 => nomatch hz9) (by decide) (by decide) (hts (.classLink RL 34 gIOB) (by decide +kernel)) (va_Nw.use rfl (hE.1.2.2.2.2.1 gIOB (by decide +kernel))) hce hcv hcl ?_
      refine lv_astore_n (lv' := [(3, .ref q9), (0, .ref q), (1, .int p0), (2, .int p1)]) hx hb dL_grip_8 rfl hl (by decide) rfl (fun ls hl => ?_)
      refine lv_ldc2 (v := (-9000000000000000001)) hx hb hown (hts (.constantLong RL 36 (-9000000000000000001)) (by decide +kernel)) dL_grip_9 ?_
      exact W.lret (v := (-9000000000000000001)) hx hb hr (fun t ht hW => ⟨⟨_, (), rfl, by rw [hc]; rfl, by show va_P D vwCl _ t.heap; rw [ht]; exact hB⟩, hS.F ht⟩) hS.2.2 dL_grip_12
    · obtain ⟨hc, -⟩ := hc
      have hEq : E = gIAE := by rw [hEq, hc]; rfl
      subst hEq
      refine vx_catch (name := gIAE) hown [⟨0, 7, 8, 34⟩] ⟨0, 7, 13, 15⟩ [] (by rw [htb]; rfl) (fun z9 hz9 => by rw [List.mem_singleton.mp hz9]; exact Or.inr ⟨by decide, gIOB, hts (.classLink RL 34 gIOB) (by decide +kernel), hE.2 (gIAE, gIOB) (by decide +kernel)⟩) (by decide) (by decide) (hts (.classLink RL 15 gIAE) (by decide +kernel)) (va_Nw.use rfl (hE.1.2.2.2.2.1 gIAE (by decide +kernel))) hce hcv hcl ?_
      refine lv_astore_n (lv' := [(3, .ref q9), (0, .ref q), (1, .int p0), (2, .int p1)]) hx hb dL_grip_13 rfl hl (by decide) rfl (fun ls hl => ?_)
      refine lv_ldc2 (v := (-9000000000000000002)) hx hb hown (hts (.constantLong RL 17 (-9000000000000000002)) (by decide +kernel)) dL_grip_14 ?_
      exact W.lret (v := (-9000000000000000002)) hx hb hr (fun t ht hW => ⟨⟨_, (), rfl, by rw [hc]; rfl, by show va_P D vwCl _ t.heap; rw [ht]; exact hB⟩, hS.F ht⟩) hS.2.2 dL_grip_17
  · obtain ⟨hw0, rfl⟩ := hw
    rw [ht] at hB
    obtain rfl := gmx_yes h1 hw0
    generalize H1 = H at hB hS ⊢
    refine lv_i2l hx hb dL_grip_6 rfl ?_
    exact W.lret (v := R0.2.1.toInt64) hx hb hr (fun t ht hW => ⟨⟨_, (), rfl, rfl, by show va_P D vwCl _ t.heap; rw [ht]; exact hB⟩, hS.F ht⟩) hS.2.2 dL_grip_7
set_option maxHeartbeats 4000000 in
set_option maxRecDepth 100000 in
theorem kL_slot (l : Launch) (D : va_G) (cI cC cZ cQ cJ : ClassId) (t lo q : Nat) (G : GSt) (p0 : Int32) (hlo : lo ≤ q) (hlS : l.stackTraces = false) {R : Int64 × GSt} (h : fL_slot G p0 = some R) : Met l yL_slot wsL_slot ({ frames := 7, cells := 1, slots := 6, locals := 103 } : Room) (va_Pc [.ref q, .int p0] (gBw D (gTy cI cC cZ cQ cJ) t lo (va_P D vwCl (GW cI cC cZ cQ q G)))) (va_Ql (fun r (_ : Unit) => r = R.1) (fun _ t => va_P D vwCl (GW cI cC cZ cQ q R.2) t.heap) (fIv q 201)) 1 6 (fIv q 201) := by
  unfold fL_slot at h
  obtain ⟨R0, h0, h1⟩ := bd_some h
  refine gMet_ofWH (cc := cL_slot) (maxL := 3) (ret := (some .long)) (hh := [(0, 6, 7, 34)]) (by decide) rfl ?_
  intro p e s m args below meth c s₁ B hml hv
  obtain ⟨rfl, ⟨hP, hK⟩, hE⟩ := hv
  have hx := B.exec
  have hb := B.bytes
  have hr := B.returns
  have hts := atoms_spec (ws := wsL_slot) B.pre
  have hown : s.vm.findClass RL = some m.cls := findClass_of_methodNamed B.named
  have hlocks := B.notSynchronized
  have htb : c.exceptionTable.toList = tableOf [(0, 6, 7, 34)] := vx_table (x := yL_slot) B (hts (.codeWith yL_slot cL_slot 3 (some .long) [(0, 6, 7, 34)]) (by decide +kernel))
  have hl := lv_entry ([.ref q, .int p0]) (n := 3) (Nat.le_of_ble_eq_true rfl)
  rw [lg_entry_eq]
  generalize (lg_sl ([.ref q, .int p0]) ++ List.replicate (3 - (lg_sl ([.ref q, .int p0])).length) Slot.unset).toArray = ls at hl ⊢
  have hl : lv_has ls 3 [(0, .ref q), (1, .int p0)] := hl
  have hS : va_S (fIv q 201) s.heap s.heap [] := va_S.rf
  refine lv_aload_n hx hb dL_slot_0 rfl (lv_at hl 0 rfl) ?_
  refine lv_iload_n hx hb dL_slot_1 rfl (lv_at hl 1 rfl) ?_
  refine vx_calli (vx_runV (As := [.int p0]) (rest := []) ⟨hx, hb, hml, hown, hts⟩ (kX4_slot l D cI cC cZ cQ cJ t lo q G p0 hlo hlS h0) (cwV 1 hts gL_slot_X4_slot rfl rfl rfl (by decide +kernel) ⟨Nat.le_of_ble_eq_true rfl, Nat.le_of_ble_eq_true rfl⟩) ⟨gBe_blind, va_recv hK hP (ci := 4) (q0 := 0) rfl rfl, fun U hU hW => ⟨rfl, ⟨by rw [hU]; exact hP, va_K.moved hW.alike hK⟩, by rw [hU]; exact hE.1.warm hW⟩⟩ rfl rfl hl.1 rfl (lv_room (Nat.le_of_ble_eq_true rfl)) dL_slot_2 ⟨Nat.le_of_ble_eq_true rfl, Nat.le_of_ble_eq_true rfl⟩) hS (fun q9 _ h9 => h9) (fun q9 h9 => h9) (fun q9 _ h9 => h9) (fun E ce q9 u t9 H1 locs ht hvm hu hBX hz hk1 hS hce hcv hcl => ?_) (fun r u t9 H1 locs ht hvm hw hB hz hk1 hS => ?_)
  · obtain ⟨hEq, hne, hB⟩ := hBX
    rw [ht] at hB
    obtain ⟨hc, rfl⟩ := gmx_no h1 hne
    rcases hc with hc | hc 
    · have hEq : E = gIOB := by rw [hEq, hc]; rfl
      subst hEq
      refine vx_catch (name := gIOB) hown [] ⟨0, 6, 7, 34⟩ [] (by rw [htb]; rfl) (fun z9 hz9 => nomatch hz9) (by decide) (by decide) (hts (.classLink RL 34 gIOB) (by decide +kernel)) (va_Nw.use rfl (hE.1.2.2.2.2.1 gIOB (by decide +kernel))) hce hcv hcl ?_
      refine lv_astore_n (lv' := [(2, .ref q9), (0, .ref q), (1, .int p0)]) hx hb dL_slot_7 rfl hl (by decide) rfl (fun ls hl => ?_)
      refine lv_ldc2 (v := (-9000000000000000001)) hx hb hown (hts (.constantLong RL 36 (-9000000000000000001)) (by decide +kernel)) dL_slot_8 ?_
      exact W.lret (v := (-9000000000000000001)) hx hb hr (fun t ht hW => ⟨⟨_, (), rfl, by rw [hc]; rfl, by show va_P D vwCl _ t.heap; rw [ht]; exact hB⟩, hS.F ht⟩) hS.2.2 dL_slot_11
    · exact absurd rfl hc.2
  · obtain ⟨hw0, rfl⟩ := hw
    rw [ht] at hB
    obtain rfl := gmx_yes h1 hw0
    generalize H1 = H at hB hS ⊢
    refine lv_i2l hx hb dL_slot_5 rfl ?_
    exact W.lret (v := R0.2.1.toInt64) hx hb hr (fun t ht hW => ⟨⟨_, (), rfl, rfl, by show va_P D vwCl _ t.heap; rw [ht]; exact hB⟩, hS.F ht⟩) hS.2.2 dL_slot_6
set_option maxHeartbeats 4000000 in
set_option maxRecDepth 100000 in
theorem kL_report (l : Launch) (D : va_G) (cI cC cZ cQ cJ : ClassId) (t lo q : Nat) (G : GSt) (p0 : Int32) (hlo : lo ≤ q) (hlS : l.stackTraces = false) {R : Int64 × GSt} (h : fL_report G p0 = some R) : Met l yL_report wsL_report ({ frames := 7, cells := 1, slots := 6, locals := 107 } : Room) (va_Pc [.ref q, .int p0] (gBw D (gTy cI cC cZ cQ cJ) t lo (va_P D vwCl (GW cI cC cZ cQ q G)))) (va_Ql (fun r (_ : Unit) => r = R.1) (fun _ t => va_P D vwCl (GW cI cC cZ cQ q R.2) t.heap) (fIv q 201)) 1 6 (fIv q 201) := by
  unfold fL_report at h
  obtain ⟨R0, h0, h1⟩ := bd_some h
  refine gMet_ofWH (cc := cL_report) (maxL := 3) (ret := (some .long)) (hh := [(0, 6, 7, 15)]) (by decide) rfl ?_
  intro p e s m args below meth c s₁ B hml hv
  obtain ⟨rfl, ⟨hP, hK⟩, hE⟩ := hv
  have hx := B.exec
  have hb := B.bytes
  have hr := B.returns
  have hts := atoms_spec (ws := wsL_report) B.pre
  have hown : s.vm.findClass RL = some m.cls := findClass_of_methodNamed B.named
  have hlocks := B.notSynchronized
  have htb : c.exceptionTable.toList = tableOf [(0, 6, 7, 15)] := vx_table (x := yL_report) B (hts (.codeWith yL_report cL_report 3 (some .long) [(0, 6, 7, 15)]) (by decide +kernel))
  have hl := lv_entry ([.ref q, .int p0]) (n := 3) (Nat.le_of_ble_eq_true rfl)
  rw [lg_entry_eq]
  generalize (lg_sl ([.ref q, .int p0]) ++ List.replicate (3 - (lg_sl ([.ref q, .int p0])).length) Slot.unset).toArray = ls at hl ⊢
  have hl : lv_has ls 3 [(0, .ref q), (1, .int p0)] := hl
  have hS : va_S (fIv q 201) s.heap s.heap [] := va_S.rf
  refine lv_aload_n hx hb dL_report_0 rfl (lv_at hl 0 rfl) ?_
  refine lv_iload_n hx hb dL_report_1 rfl (lv_at hl 1 rfl) ?_
  refine vx_calli (vx_runV (As := [.int p0]) (rest := []) ⟨hx, hb, hml, hown, hts⟩ (kX4_report l D cI cC cZ cQ cJ t lo q G p0 hlo hlS h0) (cwV 1 hts gL_report_X4_report rfl rfl rfl (by decide +kernel) ⟨Nat.le_of_ble_eq_true rfl, Nat.le_of_ble_eq_true rfl⟩) ⟨gBe_blind, va_recv hK hP (ci := 4) (q0 := 0) rfl rfl, fun U hU hW => ⟨rfl, ⟨by rw [hU]; exact hP, va_K.moved hW.alike hK⟩, by rw [hU]; exact hE.1.warm hW⟩⟩ rfl rfl hl.1 rfl (lv_room (Nat.le_of_ble_eq_true rfl)) dL_report_2 ⟨Nat.le_of_ble_eq_true rfl, Nat.le_of_ble_eq_true rfl⟩) hS (fun q9 _ h9 => h9) (fun q9 h9 => h9) (fun q9 _ h9 => h9) (fun E ce q9 u t9 H1 locs ht hvm hu hBX hz hk1 hS hce hcv hcl => ?_) (fun r u t9 H1 locs ht hvm hw hB hz hk1 hS => ?_)
  · obtain ⟨hEq, hne, hB⟩ := hBX
    rw [ht] at hB
    obtain ⟨hc, rfl⟩ := gmx_no h1 hne
    rcases hc with hc | hc 
    · have hEq : E = gIAE := by rw [hEq, hc]; rfl
      subst hEq
      refine vx_catch (name := gIAE) hown [] ⟨0, 6, 7, 15⟩ [] (by rw [htb]; rfl) (fun z9 hz9 => nomatch hz9) (by decide) (by decide) (hts (.classLink RL 15 gIAE) (by decide +kernel)) (va_Nw.use rfl (hE.1.2.2.2.2.1 gIAE (by decide +kernel))) hce hcv hcl ?_
      refine lv_astore_n (lv' := [(2, .ref q9), (0, .ref q), (1, .int p0)]) hx hb dL_report_7 rfl hl (by decide) rfl (fun ls hl => ?_)
      refine lv_ldc2 (v := (-9000000000000000002)) hx hb hown (hts (.constantLong RL 17 (-9000000000000000002)) (by decide +kernel)) dL_report_8 ?_
      exact W.lret (v := (-9000000000000000002)) hx hb hr (fun t ht hW => ⟨⟨_, (), rfl, by rw [hc]; rfl, by show va_P D vwCl _ t.heap; rw [ht]; exact hB⟩, hS.F ht⟩) hS.2.2 dL_report_11
    · exact absurd rfl hc.2
  · obtain ⟨hw0, rfl⟩ := hw
    rw [ht] at hB
    obtain rfl := gmx_yes h1 hw0
    generalize H1 = H at hB hS ⊢
    refine lv_i2l hx hb dL_report_5 rfl ?_
    exact W.lret (v := R0.2.1.toInt64) hx hb hr (fun t ht hW => ⟨⟨_, (), rfl, rfl, by show va_P D vwCl _ t.heap; rw [ht]; exact hB⟩, hS.F ht⟩) hS.2.2 dL_report_6
set_option maxHeartbeats 4000000 in
set_option maxRecDepth 100000 in
theorem kL_step (l : Launch) (D : va_G) (cI cC cZ cQ cJ : ClassId) (t lo q : Nat) (G : GSt) (p0 : Int32) (hlo : lo ≤ q) (hlS : l.stackTraces = false) {R : Int64 × GSt} (h : fL_step G p0 = some R) : Met l yL_step wsL_step ({ frames := 7, cells := 1, slots := 6, locals := 132 } : Room) (va_Pc [.ref q, .int p0] (gBw D (gTy cI cC cZ cQ cJ) t lo (va_P D vwCl (GW cI cC cZ cQ q G)))) (va_Ql (fun r (_ : Unit) => r = R.1) (fun _ t => va_P D vwCl (GW cI cC cZ cQ q R.2) t.heap) (fIv q 201)) 1 6 (fIv q 201) := by
  unfold fL_step at h
  obtain ⟨R0, h0, h1⟩ := bd_some h
  refine gMet_ofWH (cc := cL_step) (maxL := 3) (ret := (some .long)) (hh := [(0, 6, 7, 15)]) (by decide) rfl ?_
  intro p e s m args below meth c s₁ B hml hv
  obtain ⟨rfl, ⟨hP, hK⟩, hE⟩ := hv
  have hx := B.exec
  have hb := B.bytes
  have hr := B.returns
  have hts := atoms_spec (ws := wsL_step) B.pre
  have hown : s.vm.findClass RL = some m.cls := findClass_of_methodNamed B.named
  have hlocks := B.notSynchronized
  have htb : c.exceptionTable.toList = tableOf [(0, 6, 7, 15)] := vx_table (x := yL_step) B (hts (.codeWith yL_step cL_step 3 (some .long) [(0, 6, 7, 15)]) (by decide +kernel))
  have hl := lv_entry ([.ref q, .int p0]) (n := 3) (Nat.le_of_ble_eq_true rfl)
  rw [lg_entry_eq]
  generalize (lg_sl ([.ref q, .int p0]) ++ List.replicate (3 - (lg_sl ([.ref q, .int p0])).length) Slot.unset).toArray = ls at hl ⊢
  have hl : lv_has ls 3 [(0, .ref q), (1, .int p0)] := hl
  have hS : va_S (fIv q 201) s.heap s.heap [] := va_S.rf
  refine lv_aload_n hx hb dL_step_0 rfl (lv_at hl 0 rfl) ?_
  refine lv_iload_n hx hb dL_step_1 rfl (lv_at hl 1 rfl) ?_
  refine vx_calli (vx_runV (As := [.int p0]) (rest := []) ⟨hx, hb, hml, hown, hts⟩ (kX4_step l D cI cC cZ cQ cJ t lo q G p0 hlo hlS h0) (cwV 1 hts gL_step_X4_step rfl rfl rfl (by decide +kernel) ⟨Nat.le_of_ble_eq_true rfl, Nat.le_of_ble_eq_true rfl⟩) ⟨gBe_blind, va_recv hK hP (ci := 4) (q0 := 0) rfl rfl, fun U hU hW => ⟨rfl, ⟨by rw [hU]; exact hP, va_K.moved hW.alike hK⟩, by rw [hU]; exact hE.1.warm hW⟩⟩ rfl rfl hl.1 rfl (lv_room (Nat.le_of_ble_eq_true rfl)) dL_step_2 ⟨Nat.le_of_ble_eq_true rfl, Nat.le_of_ble_eq_true rfl⟩) hS (fun q9 _ h9 => h9) (fun q9 h9 => h9) (fun q9 _ h9 => h9) (fun E ce q9 u t9 H1 locs ht hvm hu hBX hz hk1 hS hce hcv hcl => ?_) (fun r u t9 H1 locs ht hvm hw hB hz hk1 hS => ?_)
  · obtain ⟨hEq, hne, hB⟩ := hBX
    rw [ht] at hB
    obtain ⟨hc, rfl⟩ := gmx_no h1 hne
    rcases hc with hc | hc 
    · have hEq : E = gIAE := by rw [hEq, hc]; rfl
      subst hEq
      refine vx_catch (name := gIAE) hown [] ⟨0, 6, 7, 15⟩ [] (by rw [htb]; rfl) (fun z9 hz9 => nomatch hz9) (by decide) (by decide) (hts (.classLink RL 15 gIAE) (by decide +kernel)) (va_Nw.use rfl (hE.1.2.2.2.2.1 gIAE (by decide +kernel))) hce hcv hcl ?_
      refine lv_astore_n (lv' := [(2, .ref q9), (0, .ref q), (1, .int p0)]) hx hb dL_step_7 rfl hl (by decide) rfl (fun ls hl => ?_)
      refine lv_ldc2 (v := (-9000000000000000002)) hx hb hown (hts (.constantLong RL 17 (-9000000000000000002)) (by decide +kernel)) dL_step_8 ?_
      exact W.lret (v := (-9000000000000000002)) hx hb hr (fun t ht hW => ⟨⟨_, (), rfl, by rw [hc]; rfl, by show va_P D vwCl _ t.heap; rw [ht]; exact hB⟩, hS.F ht⟩) hS.2.2 dL_step_11
    · exact absurd rfl hc.2
  · obtain ⟨hw0, rfl⟩ := hw
    rw [ht] at hB
    obtain rfl := gmx_yes h1 hw0
    generalize H1 = H at hB hS ⊢
    refine lv_i2l hx hb dL_step_5 rfl ?_
    exact W.lret (v := R0.2.1.toInt64) hx hb hr (fun t ht hW => ⟨⟨_, (), rfl, rfl, by show va_P D vwCl _ t.heap; rw [ht]; exact hB⟩, hS.F ht⟩) hS.2.2 dL_step_6
set_option maxHeartbeats 4000000 in
set_option maxRecDepth 100000 in
theorem kL_addGrip (l : Launch) (D : va_G) (cI cC cZ cQ cJ : ClassId) (t lo q : Nat) (G : GSt) (p0 : Int32) (hlo : lo ≤ q) (hlS : l.stackTraces = false) {R : Int64 × GSt} (h : fL_addGrip G p0 = some R) : Met l yL_addGrip wsL_addGrip ({ frames := 7, cells := 1, slots := 6, locals := 125 } : Room) (va_Pc [.ref q, .int p0] (gBw D (gTy cI cC cZ cQ cJ) t lo (va_P D vwCl (GW cI cC cZ cQ q G)))) (va_Ql (fun r (_ : Unit) => r = R.1) (fun _ t => va_P D vwCl (GW cI cC cZ cQ q R.2) t.heap) (fIv q 201)) 1 6 (fIv q 201) := by
  unfold fL_addGrip at h
  obtain ⟨R0, h0, h1⟩ := bd_some h
  refine gMet_ofWH (cc := cL_addGrip) (maxL := 3) (ret := (some .long)) (hh := [(0, 6, 7, 15), (0, 6, 12, 19)]) (by decide) rfl ?_
  intro p e s m args below meth c s₁ B hml hv
  obtain ⟨rfl, ⟨hP, hK⟩, hE⟩ := hv
  have hx := B.exec
  have hb := B.bytes
  have hr := B.returns
  have hts := atoms_spec (ws := wsL_addGrip) B.pre
  have hown : s.vm.findClass RL = some m.cls := findClass_of_methodNamed B.named
  have hlocks := B.notSynchronized
  have htb : c.exceptionTable.toList = tableOf [(0, 6, 7, 15), (0, 6, 12, 19)] := vx_table (x := yL_addGrip) B (hts (.codeWith yL_addGrip cL_addGrip 3 (some .long) [(0, 6, 7, 15), (0, 6, 12, 19)]) (by decide +kernel))
  have hl := lv_entry ([.ref q, .int p0]) (n := 3) (Nat.le_of_ble_eq_true rfl)
  rw [lg_entry_eq]
  generalize (lg_sl ([.ref q, .int p0]) ++ List.replicate (3 - (lg_sl ([.ref q, .int p0])).length) Slot.unset).toArray = ls at hl ⊢
  have hl : lv_has ls 3 [(0, .ref q), (1, .int p0)] := hl
  have hS : va_S (fIv q 201) s.heap s.heap [] := va_S.rf
  refine lv_aload_n hx hb dL_addGrip_0 rfl (lv_at hl 0 rfl) ?_
  refine lv_iload_n hx hb dL_addGrip_1 rfl (lv_at hl 1 rfl) ?_
  refine vx_calli (vx_runV (As := [.int p0]) (rest := []) ⟨hx, hb, hml, hown, hts⟩ (kX4_addGrip l D cI cC cZ cQ cJ t lo q G p0 hlo hlS h0) (cwV 1 hts gL_addGrip_X4_addGrip rfl rfl rfl (by decide +kernel) ⟨Nat.le_of_ble_eq_true rfl, Nat.le_of_ble_eq_true rfl⟩) ⟨gBe_blind, va_recv hK hP (ci := 4) (q0 := 0) rfl rfl, fun U hU hW => ⟨rfl, ⟨by rw [hU]; exact hP, va_K.moved hW.alike hK⟩, by rw [hU]; exact hE.1.warm hW⟩⟩ rfl rfl hl.1 rfl (lv_room (Nat.le_of_ble_eq_true rfl)) dL_addGrip_2 ⟨Nat.le_of_ble_eq_true rfl, Nat.le_of_ble_eq_true rfl⟩) hS (fun q9 _ h9 => h9) (fun q9 h9 => h9) (fun q9 _ h9 => h9) (fun E ce q9 u t9 H1 locs ht hvm hu hBX hz hk1 hS hce hcv hcl => ?_) (fun r u t9 H1 locs ht hvm hw hB hz hk1 hS => ?_)
  · obtain ⟨hEq, hne, hB⟩ := hBX
    rw [ht] at hB
    obtain ⟨hc, rfl⟩ := gmx_no h1 hne
    rcases hc with hc | hc 
    · have hEq : E = gIAE := by rw [hEq, hc]; rfl
      subst hEq
      refine vx_catch (name := gIAE) hown [] ⟨0, 6, 7, 15⟩ [⟨0, 6, 12, 19⟩] (by rw [htb]; rfl) (fun z9 hz9 => nomatch hz9) (by decide) (by decide) (hts (.classLink RL 15 gIAE) (by decide +kernel)) (va_Nw.use rfl (hE.1.2.2.2.2.1 gIAE (by decide +kernel))) hce hcv hcl ?_
      refine lv_astore_n (lv' := [(2, .ref q9), (0, .ref q), (1, .int p0)]) hx hb dL_addGrip_7 rfl hl (by decide) rfl (fun ls hl => ?_)
      refine lv_ldc2 (v := (-9000000000000000002)) hx hb hown (hts (.constantLong RL 17 (-9000000000000000002)) (by decide +kernel)) dL_addGrip_8 ?_
      exact W.lret (v := (-9000000000000000002)) hx hb hr (fun t ht hW => ⟨⟨_, (), rfl, by rw [hc]; rfl, by show va_P D vwCl _ t.heap; rw [ht]; exact hB⟩, hS.F ht⟩) hS.2.2 dL_addGrip_11
    · obtain ⟨hc, -⟩ := hc
      have hEq : E = gISE := by rw [hEq, hc]; rfl
      subst hEq
      refine vx_catch (name := gISE) hown [⟨0, 6, 7, 15⟩] ⟨0, 6, 12, 19⟩ [] (by rw [htb]; rfl) (fun z9 hz9 => by rw [List.mem_singleton.mp hz9]; exact Or.inr ⟨by decide, gIAE, hts (.classLink RL 15 gIAE) (by decide +kernel), hE.2 (gISE, gIAE) (by decide +kernel)⟩) (by decide) (by decide) (hts (.classLink RL 19 gISE) (by decide +kernel)) (va_Nw.use rfl (hE.1.2.2.2.2.1 gISE (by decide +kernel))) hce hcv hcl ?_
      refine lv_astore_n (lv' := [(2, .ref q9), (0, .ref q), (1, .int p0)]) hx hb dL_addGrip_12 rfl hl (by decide) rfl (fun ls hl => ?_)
      refine lv_ldc2 (v := (-9000000000000000003)) hx hb hown (hts (.constantLong RL 21 (-9000000000000000003)) (by decide +kernel)) dL_addGrip_13 ?_
      exact W.lret (v := (-9000000000000000003)) hx hb hr (fun t ht hW => ⟨⟨_, (), rfl, by rw [hc]; rfl, by show va_P D vwCl _ t.heap; rw [ht]; exact hB⟩, hS.F ht⟩) hS.2.2 dL_addGrip_16
  · obtain ⟨hw0, rfl⟩ := hw
    rw [ht] at hB
    obtain rfl := gmx_yes h1 hw0
    generalize H1 = H at hB hS ⊢
    refine lv_i2l hx hb dL_addGrip_5 rfl ?_
    exact W.lret (v := R0.2.1.toInt64) hx hb hr (fun t ht hW => ⟨⟨_, (), rfl, rfl, by show va_P D vwCl _ t.heap; rw [ht]; exact hB⟩, hS.F ht⟩) hS.2.2 dL_addGrip_6
set_option maxHeartbeats 4000000 in
set_option maxRecDepth 100000 in
theorem kL_putOn (l : Launch) (D : va_G) (cI cC cZ cQ cJ : ClassId) (t lo q : Nat) (G : GSt) (p0 : Int32) (p1 : Int32) (hlo : lo ≤ q) (hlS : l.stackTraces = false) {R : Int64 × GSt} (h : fL_putOn G p0 p1 = some R) : Met l yL_putOn wsL_putOn ({ frames := 7, cells := 1, slots := 6, locals := 126 } : Room) (va_Pc [.ref q, .int p0, .int p1] (gBw D (gTy cI cC cZ cQ cJ) t lo (va_P D vwCl (GW cI cC cZ cQ q G)))) (va_Ql (fun r (_ : Unit) => r = R.1) (fun _ t => va_P D vwCl (GW cI cC cZ cQ q R.2) t.heap) (fIv q 201)) 1 6 (fIv q 201) := by
  unfold fL_putOn at h
  obtain ⟨R0, h0, h1⟩ := bd_some h
  refine gMet_ofWH (cc := cL_putOn) (maxL := 4) (ret := (some .long)) (hh := [(0, 7, 8, 34), (0, 7, 13, 19)]) (by decide) rfl ?_
  intro p e s m args below meth c s₁ B hml hv
  obtain ⟨rfl, ⟨hP, hK⟩, hE⟩ := hv
  have hx := B.exec
  have hb := B.bytes
  have hr := B.returns
  have hts := atoms_spec (ws := wsL_putOn) B.pre
  have hown : s.vm.findClass RL = some m.cls := findClass_of_methodNamed B.named
  have hlocks := B.notSynchronized
  have htb : c.exceptionTable.toList = tableOf [(0, 7, 8, 34), (0, 7, 13, 19)] := vx_table (x := yL_putOn) B (hts (.codeWith yL_putOn cL_putOn 4 (some .long) [(0, 7, 8, 34), (0, 7, 13, 19)]) (by decide +kernel))
  have hl := lv_entry ([.ref q, .int p0, .int p1]) (n := 4) (Nat.le_of_ble_eq_true rfl)
  rw [lg_entry_eq]
  generalize (lg_sl ([.ref q, .int p0, .int p1]) ++ List.replicate (4 - (lg_sl ([.ref q, .int p0, .int p1])).length) Slot.unset).toArray = ls at hl ⊢
  have hl : lv_has ls 4 [(0, .ref q), (1, .int p0), (2, .int p1)] := hl
  have hS : va_S (fIv q 201) s.heap s.heap [] := va_S.rf
  refine lv_aload_n hx hb dL_putOn_0 rfl (lv_at hl 0 rfl) ?_
  refine lv_iload_n hx hb dL_putOn_1 rfl (lv_at hl 1 rfl) ?_
  refine lv_iload_n hx hb dL_putOn_2 rfl (lv_at hl 2 rfl) ?_
  refine vx_calli (vx_runV (As := [.int p0, .int p1]) (rest := []) ⟨hx, hb, hml, hown, hts⟩ (kX4_putOn l D cI cC cZ cQ cJ t lo q G p0 p1 hlo hlS h0) (cwV 2 hts gL_putOn_X4_putOn rfl rfl rfl (by decide +kernel) ⟨Nat.le_of_ble_eq_true rfl, Nat.le_of_ble_eq_true rfl⟩) ⟨gBe_blind, va_recv hK hP (ci := 4) (q0 := 0) rfl rfl, fun U hU hW => ⟨rfl, ⟨by rw [hU]; exact hP, va_K.moved hW.alike hK⟩, by rw [hU]; exact hE.1.warm hW⟩⟩ rfl rfl hl.1 rfl (lv_room (Nat.le_of_ble_eq_true rfl)) dL_putOn_3 ⟨Nat.le_of_ble_eq_true rfl, Nat.le_of_ble_eq_true rfl⟩) hS (fun q9 _ h9 => h9) (fun q9 h9 => h9) (fun q9 _ h9 => h9) (fun E ce q9 u t9 H1 locs ht hvm hu hBX hz hk1 hS hce hcv hcl => ?_) (fun r u t9 H1 locs ht hvm hw hB hz hk1 hS => ?_)
  · obtain ⟨hEq, hne, hB⟩ := hBX
    rw [ht] at hB
    obtain ⟨hc, rfl⟩ := gmx_no h1 hne
    rcases hc with hc | hc 
    · have hEq : E = gIOB := by rw [hEq, hc]; rfl
      subst hEq
      refine vx_catch (name := gIOB) hown [] ⟨0, 7, 8, 34⟩ [⟨0, 7, 13, 19⟩] (by rw [htb]; rfl) (fun z9 hz9 => nomatch hz9) (by decide) (by decide) (hts (.classLink RL 34 gIOB) (by decide +kernel)) (va_Nw.use rfl (hE.1.2.2.2.2.1 gIOB (by decide +kernel))) hce hcv hcl ?_
      refine lv_astore_n (lv' := [(3, .ref q9), (0, .ref q), (1, .int p0), (2, .int p1)]) hx hb dL_putOn_8 rfl hl (by decide) rfl (fun ls hl => ?_)
      refine lv_ldc2 (v := (-9000000000000000001)) hx hb hown (hts (.constantLong RL 36 (-9000000000000000001)) (by decide +kernel)) dL_putOn_9 ?_
      exact W.lret (v := (-9000000000000000001)) hx hb hr (fun t ht hW => ⟨⟨_, (), rfl, by rw [hc]; rfl, by show va_P D vwCl _ t.heap; rw [ht]; exact hB⟩, hS.F ht⟩) hS.2.2 dL_putOn_12
    · obtain ⟨hc, -⟩ := hc
      have hEq : E = gISE := by rw [hEq, hc]; rfl
      subst hEq
      refine vx_catch (name := gISE) hown [⟨0, 7, 8, 34⟩] ⟨0, 7, 13, 19⟩ [] (by rw [htb]; rfl) (fun z9 hz9 => by rw [List.mem_singleton.mp hz9]; exact Or.inr ⟨by decide, gIOB, hts (.classLink RL 34 gIOB) (by decide +kernel), hE.2 (gISE, gIOB) (by decide +kernel)⟩) (by decide) (by decide) (hts (.classLink RL 19 gISE) (by decide +kernel)) (va_Nw.use rfl (hE.1.2.2.2.2.1 gISE (by decide +kernel))) hce hcv hcl ?_
      refine lv_astore_n (lv' := [(3, .ref q9), (0, .ref q), (1, .int p0), (2, .int p1)]) hx hb dL_putOn_13 rfl hl (by decide) rfl (fun ls hl => ?_)
      refine lv_ldc2 (v := (-9000000000000000003)) hx hb hown (hts (.constantLong RL 21 (-9000000000000000003)) (by decide +kernel)) dL_putOn_14 ?_
      exact W.lret (v := (-9000000000000000003)) hx hb hr (fun t ht hW => ⟨⟨_, (), rfl, by rw [hc]; rfl, by show va_P D vwCl _ t.heap; rw [ht]; exact hB⟩, hS.F ht⟩) hS.2.2 dL_putOn_17
  · obtain ⟨hw0, rfl⟩ := hw
    rw [ht] at hB
    obtain rfl := gmx_yes h1 hw0
    generalize H1 = H at hB hS ⊢
    refine lv_i2l hx hb dL_putOn_6 rfl ?_
    exact W.lret (v := R0.2.1.toInt64) hx hb hr (fun t ht hW => ⟨⟨_, (), rfl, rfl, by show va_P D vwCl _ t.heap; rw [ht]; exact hB⟩, hS.F ht⟩) hS.2.2 dL_putOn_7
set_option maxHeartbeats 4000000 in
set_option maxRecDepth 100000 in
theorem kL_takeOff (l : Launch) (D : va_G) (cI cC cZ cQ cJ : ClassId) (t lo q : Nat) (G : GSt) (p0 : Int32) (hlo : lo ≤ q) (hlS : l.stackTraces = false) {R : Int64 × GSt} (h : fL_takeOff G p0 = some R) : Met l yL_takeOff wsL_takeOff ({ frames := 7, cells := 1, slots := 6, locals := 126 } : Room) (va_Pc [.ref q, .int p0] (gBw D (gTy cI cC cZ cQ cJ) t lo (va_P D vwCl (GW cI cC cZ cQ q G)))) (va_Ql (fun r (_ : Unit) => r = R.1) (fun _ t => va_P D vwCl (GW cI cC cZ cQ q R.2) t.heap) (fIv q 201)) 1 6 (fIv q 201) := by
  unfold fL_takeOff at h
  obtain ⟨R0, h0, h1⟩ := bd_some h
  refine gMet_ofWH (cc := cL_takeOff) (maxL := 3) (ret := (some .long)) (hh := [(0, 6, 7, 34), (0, 6, 12, 19)]) (by decide) rfl ?_
  intro p e s m args below meth c s₁ B hml hv
  obtain ⟨rfl, ⟨hP, hK⟩, hE⟩ := hv
  have hx := B.exec
  have hb := B.bytes
  have hr := B.returns
  have hts := atoms_spec (ws := wsL_takeOff) B.pre
  have hown : s.vm.findClass RL = some m.cls := findClass_of_methodNamed B.named
  have hlocks := B.notSynchronized
  have htb : c.exceptionTable.toList = tableOf [(0, 6, 7, 34), (0, 6, 12, 19)] := vx_table (x := yL_takeOff) B (hts (.codeWith yL_takeOff cL_takeOff 3 (some .long) [(0, 6, 7, 34), (0, 6, 12, 19)]) (by decide +kernel))
  have hl := lv_entry ([.ref q, .int p0]) (n := 3) (Nat.le_of_ble_eq_true rfl)
  rw [lg_entry_eq]
  generalize (lg_sl ([.ref q, .int p0]) ++ List.replicate (3 - (lg_sl ([.ref q, .int p0])).length) Slot.unset).toArray = ls at hl ⊢
  have hl : lv_has ls 3 [(0, .ref q), (1, .int p0)] := hl
  have hS : va_S (fIv q 201) s.heap s.heap [] := va_S.rf
  refine lv_aload_n hx hb dL_takeOff_0 rfl (lv_at hl 0 rfl) ?_
  refine lv_iload_n hx hb dL_takeOff_1 rfl (lv_at hl 1 rfl) ?_
  refine vx_calli (vx_runV (As := [.int p0]) (rest := []) ⟨hx, hb, hml, hown, hts⟩ (kX4_takeOff l D cI cC cZ cQ cJ t lo q G p0 hlo hlS h0) (cwV 1 hts gL_takeOff_X4_takeOff rfl rfl rfl (by decide +kernel) ⟨Nat.le_of_ble_eq_true rfl, Nat.le_of_ble_eq_true rfl⟩) ⟨gBe_blind, va_recv hK hP (ci := 4) (q0 := 0) rfl rfl, fun U hU hW => ⟨rfl, ⟨by rw [hU]; exact hP, va_K.moved hW.alike hK⟩, by rw [hU]; exact hE.1.warm hW⟩⟩ rfl rfl hl.1 rfl (lv_room (Nat.le_of_ble_eq_true rfl)) dL_takeOff_2 ⟨Nat.le_of_ble_eq_true rfl, Nat.le_of_ble_eq_true rfl⟩) hS (fun q9 _ h9 => h9) (fun q9 h9 => h9) (fun q9 _ h9 => h9) (fun E ce q9 u t9 H1 locs ht hvm hu hBX hz hk1 hS hce hcv hcl => ?_) (fun r u t9 H1 locs ht hvm hw hB hz hk1 hS => ?_)
  · obtain ⟨hEq, hne, hB⟩ := hBX
    rw [ht] at hB
    obtain ⟨hc, rfl⟩ := gmx_no h1 hne
    rcases hc with hc | hc 
    · have hEq : E = gIOB := by rw [hEq, hc]; rfl
      subst hEq
      refine vx_catch (name := gIOB) hown [] ⟨0, 6, 7, 34⟩ [⟨0, 6, 12, 19⟩] (by rw [htb]; rfl) (fun z9 hz9 => nomatch hz9) (by decide) (by decide) (hts (.classLink RL 34 gIOB) (by decide +kernel)) (va_Nw.use rfl (hE.1.2.2.2.2.1 gIOB (by decide +kernel))) hce hcv hcl ?_
      refine lv_astore_n (lv' := [(2, .ref q9), (0, .ref q), (1, .int p0)]) hx hb dL_takeOff_7 rfl hl (by decide) rfl (fun ls hl => ?_)
      refine lv_ldc2 (v := (-9000000000000000001)) hx hb hown (hts (.constantLong RL 36 (-9000000000000000001)) (by decide +kernel)) dL_takeOff_8 ?_
      exact W.lret (v := (-9000000000000000001)) hx hb hr (fun t ht hW => ⟨⟨_, (), rfl, by rw [hc]; rfl, by show va_P D vwCl _ t.heap; rw [ht]; exact hB⟩, hS.F ht⟩) hS.2.2 dL_takeOff_11
    · obtain ⟨hc, -⟩ := hc
      have hEq : E = gISE := by rw [hEq, hc]; rfl
      subst hEq
      refine vx_catch (name := gISE) hown [⟨0, 6, 7, 34⟩] ⟨0, 6, 12, 19⟩ [] (by rw [htb]; rfl) (fun z9 hz9 => by rw [List.mem_singleton.mp hz9]; exact Or.inr ⟨by decide, gIOB, hts (.classLink RL 34 gIOB) (by decide +kernel), hE.2 (gISE, gIOB) (by decide +kernel)⟩) (by decide) (by decide) (hts (.classLink RL 19 gISE) (by decide +kernel)) (va_Nw.use rfl (hE.1.2.2.2.2.1 gISE (by decide +kernel))) hce hcv hcl ?_
      refine lv_astore_n (lv' := [(2, .ref q9), (0, .ref q), (1, .int p0)]) hx hb dL_takeOff_12 rfl hl (by decide) rfl (fun ls hl => ?_)
      refine lv_ldc2 (v := (-9000000000000000003)) hx hb hown (hts (.constantLong RL 21 (-9000000000000000003)) (by decide +kernel)) dL_takeOff_13 ?_
      exact W.lret (v := (-9000000000000000003)) hx hb hr (fun t ht hW => ⟨⟨_, (), rfl, by rw [hc]; rfl, by show va_P D vwCl _ t.heap; rw [ht]; exact hB⟩, hS.F ht⟩) hS.2.2 dL_takeOff_16
  · obtain ⟨hw0, rfl⟩ := hw
    rw [ht] at hB
    obtain rfl := gmx_yes h1 hw0
    generalize H1 = H at hB hS ⊢
    refine lv_i2l hx hb dL_takeOff_5 rfl ?_
    exact W.lret (v := R0.2.1.toInt64) hx hb hr (fun t ht hW => ⟨⟨_, (), rfl, rfl, by show va_P D vwCl _ t.heap; rw [ht]; exact hB⟩, hS.F ht⟩) hS.2.2 dL_takeOff_6
set_option maxHeartbeats 4000000 in
set_option maxRecDepth 100000 in
theorem kL_scrap (l : Launch) (D : va_G) (cI cC cZ cQ cJ : ClassId) (t lo q : Nat) (G : GSt) (p0 : Int32) (hlo : lo ≤ q) (hlS : l.stackTraces = false) {R : Int64 × GSt} (h : fL_scrap G p0 = some R) : Met l yL_scrap wsL_scrap ({ frames := 7, cells := 1, slots := 6, locals := 126 } : Room) (va_Pc [.ref q, .int p0] (gBw D (gTy cI cC cZ cQ cJ) t lo (va_P D vwCl (GW cI cC cZ cQ q G)))) (va_Ql (fun r (_ : Unit) => r = R.1) (fun _ t => va_P D vwCl (GW cI cC cZ cQ q R.2) t.heap) (fIv q 201)) 1 6 (fIv q 201) := by
  unfold fL_scrap at h
  obtain ⟨R0, h0, h1⟩ := bd_some h
  refine gMet_ofWH (cc := cL_scrap) (maxL := 3) (ret := (some .long)) (hh := [(0, 6, 7, 34), (0, 6, 12, 19)]) (by decide) rfl ?_
  intro p e s m args below meth c s₁ B hml hv
  obtain ⟨rfl, ⟨hP, hK⟩, hE⟩ := hv
  have hx := B.exec
  have hb := B.bytes
  have hr := B.returns
  have hts := atoms_spec (ws := wsL_scrap) B.pre
  have hown : s.vm.findClass RL = some m.cls := findClass_of_methodNamed B.named
  have hlocks := B.notSynchronized
  have htb : c.exceptionTable.toList = tableOf [(0, 6, 7, 34), (0, 6, 12, 19)] := vx_table (x := yL_scrap) B (hts (.codeWith yL_scrap cL_scrap 3 (some .long) [(0, 6, 7, 34), (0, 6, 12, 19)]) (by decide +kernel))
  have hl := lv_entry ([.ref q, .int p0]) (n := 3) (Nat.le_of_ble_eq_true rfl)
  rw [lg_entry_eq]
  generalize (lg_sl ([.ref q, .int p0]) ++ List.replicate (3 - (lg_sl ([.ref q, .int p0])).length) Slot.unset).toArray = ls at hl ⊢
  have hl : lv_has ls 3 [(0, .ref q), (1, .int p0)] := hl
  have hS : va_S (fIv q 201) s.heap s.heap [] := va_S.rf
  refine lv_aload_n hx hb dL_scrap_0 rfl (lv_at hl 0 rfl) ?_
  refine lv_iload_n hx hb dL_scrap_1 rfl (lv_at hl 1 rfl) ?_
  refine vx_calli (vx_runV (As := [.int p0]) (rest := []) ⟨hx, hb, hml, hown, hts⟩ (kX4_scrap l D cI cC cZ cQ cJ t lo q G p0 hlo hlS h0) (cwV 1 hts gL_scrap_X4_scrap rfl rfl rfl (by decide +kernel) ⟨Nat.le_of_ble_eq_true rfl, Nat.le_of_ble_eq_true rfl⟩) ⟨gBe_blind, va_recv hK hP (ci := 4) (q0 := 0) rfl rfl, fun U hU hW => ⟨rfl, ⟨by rw [hU]; exact hP, va_K.moved hW.alike hK⟩, by rw [hU]; exact hE.1.warm hW⟩⟩ rfl rfl hl.1 rfl (lv_room (Nat.le_of_ble_eq_true rfl)) dL_scrap_2 ⟨Nat.le_of_ble_eq_true rfl, Nat.le_of_ble_eq_true rfl⟩) hS (fun q9 _ h9 => h9) (fun q9 h9 => h9) (fun q9 _ h9 => h9) (fun E ce q9 u t9 H1 locs ht hvm hu hBX hz hk1 hS hce hcv hcl => ?_) (fun r u t9 H1 locs ht hvm hw hB hz hk1 hS => ?_)
  · obtain ⟨hEq, hne, hB⟩ := hBX
    rw [ht] at hB
    obtain ⟨hc, rfl⟩ := gmx_no h1 hne
    rcases hc with hc | hc 
    · have hEq : E = gIOB := by rw [hEq, hc]; rfl
      subst hEq
      refine vx_catch (name := gIOB) hown [] ⟨0, 6, 7, 34⟩ [⟨0, 6, 12, 19⟩] (by rw [htb]; rfl) (fun z9 hz9 => nomatch hz9) (by decide) (by decide) (hts (.classLink RL 34 gIOB) (by decide +kernel)) (va_Nw.use rfl (hE.1.2.2.2.2.1 gIOB (by decide +kernel))) hce hcv hcl ?_
      refine lv_astore_n (lv' := [(2, .ref q9), (0, .ref q), (1, .int p0)]) hx hb dL_scrap_7 rfl hl (by decide) rfl (fun ls hl => ?_)
      refine lv_ldc2 (v := (-9000000000000000001)) hx hb hown (hts (.constantLong RL 36 (-9000000000000000001)) (by decide +kernel)) dL_scrap_8 ?_
      exact W.lret (v := (-9000000000000000001)) hx hb hr (fun t ht hW => ⟨⟨_, (), rfl, by rw [hc]; rfl, by show va_P D vwCl _ t.heap; rw [ht]; exact hB⟩, hS.F ht⟩) hS.2.2 dL_scrap_11
    · obtain ⟨hc, -⟩ := hc
      have hEq : E = gISE := by rw [hEq, hc]; rfl
      subst hEq
      refine vx_catch (name := gISE) hown [⟨0, 6, 7, 34⟩] ⟨0, 6, 12, 19⟩ [] (by rw [htb]; rfl) (fun z9 hz9 => by rw [List.mem_singleton.mp hz9]; exact Or.inr ⟨by decide, gIOB, hts (.classLink RL 34 gIOB) (by decide +kernel), hE.2 (gISE, gIOB) (by decide +kernel)⟩) (by decide) (by decide) (hts (.classLink RL 19 gISE) (by decide +kernel)) (va_Nw.use rfl (hE.1.2.2.2.2.1 gISE (by decide +kernel))) hce hcv hcl ?_
      refine lv_astore_n (lv' := [(2, .ref q9), (0, .ref q), (1, .int p0)]) hx hb dL_scrap_12 rfl hl (by decide) rfl (fun ls hl => ?_)
      refine lv_ldc2 (v := (-9000000000000000003)) hx hb hown (hts (.constantLong RL 21 (-9000000000000000003)) (by decide +kernel)) dL_scrap_13 ?_
      exact W.lret (v := (-9000000000000000003)) hx hb hr (fun t ht hW => ⟨⟨_, (), rfl, by rw [hc]; rfl, by show va_P D vwCl _ t.heap; rw [ht]; exact hB⟩, hS.F ht⟩) hS.2.2 dL_scrap_16
  · obtain ⟨hw0, rfl⟩ := hw
    rw [ht] at hB
    obtain rfl := gmx_yes h1 hw0
    generalize H1 = H at hB hS ⊢
    refine lv_i2l hx hb dL_scrap_5 rfl ?_
    exact W.lret (v := R0.2.1.toInt64) hx hb hr (fun t ht hW => ⟨⟨_, (), rfl, rfl, by show va_P D vwCl _ t.heap; rw [ht]; exact hB⟩, hS.F ht⟩) hS.2.2 dL_scrap_6
set_option maxHeartbeats 4000000 in
set_option maxRecDepth 100000 in
theorem kL_setLimit (l : Launch) (D : va_G) (cI cC cZ cQ cJ : ClassId) (t lo q : Nat) (G : GSt) (p0 : Int32) (p1 : Int32) (hlo : lo ≤ q) (hlS : l.stackTraces = false) {R : Int64 × GSt} (h : fL_setLimit G p0 p1 = some R) : Met l yL_setLimit wsL_setLimit ({ frames := 7, cells := 1, slots := 6, locals := 127 } : Room) (va_Pc [.ref q, .int p0, .int p1] (gBw D (gTy cI cC cZ cQ cJ) t lo (va_P D vwCl (GW cI cC cZ cQ q G)))) (va_Ql (fun r (_ : Unit) => r = R.1) (fun _ t => va_P D vwCl (GW cI cC cZ cQ q R.2) t.heap) (fIv q 201)) 1 6 (fIv q 201) := by
  unfold fL_setLimit at h
  obtain ⟨R0, h0, h1⟩ := bd_some h
  refine gMet_ofWH (cc := cL_setLimit) (maxL := 4) (ret := (some .long)) (hh := [(0, 7, 8, 15)]) (by decide) rfl ?_
  intro p e s m args below meth c s₁ B hml hv
  obtain ⟨rfl, ⟨hP, hK⟩, hE⟩ := hv
  have hx := B.exec
  have hb := B.bytes
  have hr := B.returns
  have hts := atoms_spec (ws := wsL_setLimit) B.pre
  have hown : s.vm.findClass RL = some m.cls := findClass_of_methodNamed B.named
  have hlocks := B.notSynchronized
  have htb : c.exceptionTable.toList = tableOf [(0, 7, 8, 15)] := vx_table (x := yL_setLimit) B (hts (.codeWith yL_setLimit cL_setLimit 4 (some .long) [(0, 7, 8, 15)]) (by decide +kernel))
  have hl := lv_entry ([.ref q, .int p0, .int p1]) (n := 4) (Nat.le_of_ble_eq_true rfl)
  rw [lg_entry_eq]
  generalize (lg_sl ([.ref q, .int p0, .int p1]) ++ List.replicate (4 - (lg_sl ([.ref q, .int p0, .int p1])).length) Slot.unset).toArray = ls at hl ⊢
  have hl : lv_has ls 4 [(0, .ref q), (1, .int p0), (2, .int p1)] := hl
  have hS : va_S (fIv q 201) s.heap s.heap [] := va_S.rf
  refine lv_aload_n hx hb dL_setLimit_0 rfl (lv_at hl 0 rfl) ?_
  refine lv_iload_n hx hb dL_setLimit_1 rfl (lv_at hl 1 rfl) ?_
  refine lv_iload_n hx hb dL_setLimit_2 rfl (lv_at hl 2 rfl) ?_
  refine vx_calli (vx_runV (As := [.int p0, .int p1]) (rest := []) ⟨hx, hb, hml, hown, hts⟩ (kX4_setLimit l D cI cC cZ cQ cJ t lo q G p0 p1 hlo hlS h0) (cwV 2 hts gL_setLimit_X4_setLimit rfl rfl rfl (by decide +kernel) ⟨Nat.le_of_ble_eq_true rfl, Nat.le_of_ble_eq_true rfl⟩) ⟨gBe_blind, va_recv hK hP (ci := 4) (q0 := 0) rfl rfl, fun U hU hW => ⟨rfl, ⟨by rw [hU]; exact hP, va_K.moved hW.alike hK⟩, by rw [hU]; exact hE.1.warm hW⟩⟩ rfl rfl hl.1 rfl (lv_room (Nat.le_of_ble_eq_true rfl)) dL_setLimit_3 ⟨Nat.le_of_ble_eq_true rfl, Nat.le_of_ble_eq_true rfl⟩) hS (fun q9 _ h9 => h9) (fun q9 h9 => h9) (fun q9 _ h9 => h9) (fun E ce q9 u t9 H1 locs ht hvm hu hBX hz hk1 hS hce hcv hcl => ?_) (fun r u t9 H1 locs ht hvm hw hB hz hk1 hS => ?_)
  · obtain ⟨hEq, hne, hB⟩ := hBX
    rw [ht] at hB
    obtain ⟨hc, rfl⟩ := gmx_no h1 hne
    rcases hc with hc | hc 
    · have hEq : E = gIAE := by rw [hEq, hc]; rfl
      subst hEq
      refine vx_catch (name := gIAE) hown [] ⟨0, 7, 8, 15⟩ [] (by rw [htb]; rfl) (fun z9 hz9 => nomatch hz9) (by decide) (by decide) (hts (.classLink RL 15 gIAE) (by decide +kernel)) (va_Nw.use rfl (hE.1.2.2.2.2.1 gIAE (by decide +kernel))) hce hcv hcl ?_
      refine lv_astore_n (lv' := [(3, .ref q9), (0, .ref q), (1, .int p0), (2, .int p1)]) hx hb dL_setLimit_8 rfl hl (by decide) rfl (fun ls hl => ?_)
      refine lv_ldc2 (v := (-9000000000000000002)) hx hb hown (hts (.constantLong RL 17 (-9000000000000000002)) (by decide +kernel)) dL_setLimit_9 ?_
      exact W.lret (v := (-9000000000000000002)) hx hb hr (fun t ht hW => ⟨⟨_, (), rfl, by rw [hc]; rfl, by show va_P D vwCl _ t.heap; rw [ht]; exact hB⟩, hS.F ht⟩) hS.2.2 dL_setLimit_12
    · exact absurd rfl hc.2
  · obtain ⟨hw0, rfl⟩ := hw
    rw [ht] at hB
    obtain rfl := gmx_yes h1 hw0
    generalize H1 = H at hB hS ⊢
    refine lv_i2l hx hb dL_setLimit_6 rfl ?_
    exact W.lret (v := R0.2.1.toInt64) hx hb hr (fun t ht hW => ⟨⟨_, (), rfl, rfl, by show va_P D vwCl _ t.heap; rw [ht]; exact hB⟩, hS.F ht⟩) hS.2.2 dL_setLimit_7

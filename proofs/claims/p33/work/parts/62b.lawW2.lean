set_option maxHeartbeats 4000000 in
set_option maxRecDepth 100000 in
theorem kL_undo (l : Launch) (D : va_G) (cI cC cZ cQ cJ : ClassId) (t lo q : Nat) (G : GSt) (hlo : lo ≤ q) (hlS : l.stackTraces = false) {R : Int64 × GSt} (h : fL_undo G = some R) : Met l yL_undo wsL_undo ({ frames := 7, cells := 1, slots := 6, locals := 104 } : Room) (va_Pc [.ref q] (gBw D (gTy cI cC cZ cQ cJ) t lo (va_P D vwCl (GW cI cC cZ cQ q G)))) (va_Ql (fun r (_ : Unit) => r = R.1) (fun _ t => va_P D vwCl (GW cI cC cZ cQ q R.2) t.heap) (fIv q 201)) 1 6 (fIv q 201) := by
  unfold fL_undo at h
  obtain ⟨R0, h0, h1⟩ := bd_some h
  refine gMet_ofWH (cc := cL_undo) (maxL := 2) (ret := (some .long)) (hh := [(0, 5, 6, 19)]) (by decide) rfl ?_
  intro p e s m args below meth c s₁ B hml hv
  obtain ⟨rfl, ⟨hP, hK⟩, hE⟩ := hv
  have hx := B.exec
  have hb := B.bytes
  have hr := B.returns
  have hts := atoms_spec (ws := wsL_undo) B.pre
  have hown : s.vm.findClass RL = some m.cls := findClass_of_methodNamed B.named
  have hlocks := B.notSynchronized
  have htb : c.exceptionTable.toList = tableOf [(0, 5, 6, 19)] := vx_table (x := yL_undo) B (hts (.codeWith yL_undo cL_undo 2 (some .long) [(0, 5, 6, 19)]) (by decide +kernel))
  have hl := lv_entry ([.ref q]) (n := 2) (Nat.le_of_ble_eq_true rfl)
  rw [lg_entry_eq]
  generalize (lg_sl ([.ref q]) ++ List.replicate (2 - (lg_sl ([.ref q])).length) Slot.unset).toArray = ls at hl ⊢
  have hl : lv_has ls 2 [(0, .ref q)] := hl
  have hS : va_S (fIv q 201) s.heap s.heap [] := va_S.rf
  refine lv_aload_n hx hb dL_undo_0 rfl (lv_at hl 0 rfl) ?_
  refine vx_calli (vx_runV (As := []) (rest := []) ⟨hx, hb, hml, hown, hts⟩ (kX4_undo l D cI cC cZ cQ cJ t lo q G hlo hlS h0) (cwV 0 hts gL_undo_X4_undo rfl rfl rfl (by decide +kernel) ⟨Nat.le_of_ble_eq_true rfl, Nat.le_of_ble_eq_true rfl⟩) ⟨gBe_blind, va_recv hK hP (ci := 4) (q0 := 0) rfl rfl, fun U hU hW => ⟨rfl, ⟨by rw [hU]; exact hP, va_K.moved hW.alike hK⟩, by rw [hU]; exact hE.1.warm hW⟩⟩ rfl rfl hl.1 rfl (lv_room (Nat.le_of_ble_eq_true rfl)) dL_undo_1 ⟨Nat.le_of_ble_eq_true rfl, Nat.le_of_ble_eq_true rfl⟩) hS (fun q9 _ h9 => h9) (fun q9 h9 => h9) (fun q9 _ h9 => h9) (fun E ce q9 u t9 H1 locs ht hvm hu hBX hz hk1 hS hce hcv hcl => ?_) (fun r u t9 H1 locs ht hvm hw hB hz hk1 hS => ?_)
  · obtain ⟨hEq, hne, hB⟩ := hBX
    rw [ht] at hB
    obtain ⟨hc, rfl⟩ := gmx_no h1 hne
    rcases hc with hc | hc 
    · have hEq : E = gISE := by rw [hEq, hc]; rfl
      subst hEq
      refine vx_catch (name := gISE) hown [] ⟨0, 5, 6, 19⟩ [] (by rw [htb]; rfl) (fun z9 hz9 => nomatch hz9) (by decide) (by decide) (hts (.classLink RL 19 gISE) (by decide +kernel)) (va_Nw.use rfl (hE.1.2.2.2.2.1 gISE (by decide +kernel))) hce hcv hcl ?_
      refine lv_astore_n (lv' := [(1, .ref q9), (0, .ref q)]) hx hb dL_undo_6 rfl hl (by decide) rfl (fun ls hl => ?_)
      refine lv_ldc2 (v := (-9000000000000000003)) hx hb hown (hts (.constantLong RL 21 (-9000000000000000003)) (by decide +kernel)) dL_undo_7 ?_
      exact W.lret (v := (-9000000000000000003)) hx hb hr (fun t ht hW => ⟨⟨_, (), rfl, by rw [hc]; rfl, by show va_P D vwCl _ t.heap; rw [ht]; exact hB⟩, hS.F ht⟩) hS.2.2 dL_undo_10
    · exact absurd rfl hc.2
  · obtain ⟨hw0, rfl⟩ := hw
    rw [ht] at hB
    obtain rfl := gmx_yes h1 hw0
    generalize H1 = H at hB hS ⊢
    refine lv_i2l hx hb dL_undo_4 rfl ?_
    exact W.lret (v := R0.2.1.toInt64) hx hb hr (fun t ht hW => ⟨⟨_, (), rfl, rfl, by show va_P D vwCl _ t.heap; rw [ht]; exact hB⟩, hS.F ht⟩) hS.2.2 dL_undo_5
set_option maxHeartbeats 4000000 in
set_option maxRecDepth 100000 in
theorem kL_gap (l : Launch) (D : va_G) (cI cC cZ cQ cJ : ClassId) (t lo q : Nat) (G : GSt) (p0 : Int32) (hlo : lo ≤ q) (hlS : l.stackTraces = false) {R : Int64 × GSt} (h : fL_gap G p0 = some R) : Met l yL_gap wsL_gap ({ frames := 7, cells := 1, slots := 6, locals := 103 } : Room) (va_Pc [.ref q, .int p0] (gBw D (gTy cI cC cZ cQ cJ) t lo (va_P D vwCl (GW cI cC cZ cQ q G)))) (va_Ql (fun r (_ : Unit) => r = R.1) (fun _ t => va_P D vwCl (GW cI cC cZ cQ q R.2) t.heap) (fIv q 201)) 1 6 (fIv q 201) := by
  unfold fL_gap at h
  obtain ⟨R0, h0, h1⟩ := bd_some h
  refine gMet_ofWH (cc := cL_gap) (maxL := 3) (ret := (some .long)) (hh := [(0, 6, 7, 34)]) (by decide) rfl ?_
  intro p e s m args below meth c s₁ B hml hv
  obtain ⟨rfl, ⟨hP, hK⟩, hE⟩ := hv
  have hx := B.exec
  have hb := B.bytes
  have hr := B.returns
  have hts := atoms_spec (ws := wsL_gap) B.pre
  have hown : s.vm.findClass RL = some m.cls := findClass_of_methodNamed B.named
  have hlocks := B.notSynchronized
  have htb : c.exceptionTable.toList = tableOf [(0, 6, 7, 34)] := vx_table (x := yL_gap) B (hts (.codeWith yL_gap cL_gap 3 (some .long) [(0, 6, 7, 34)]) (by decide +kernel))
  have hl := lv_entry ([.ref q, .int p0]) (n := 3) (Nat.le_of_ble_eq_true rfl)
  rw [lg_entry_eq]
  generalize (lg_sl ([.ref q, .int p0]) ++ List.replicate (3 - (lg_sl ([.ref q, .int p0])).length) Slot.unset).toArray = ls at hl ⊢
  have hl : lv_has ls 3 [(0, .ref q), (1, .int p0)] := hl
  have hS : va_S (fIv q 201) s.heap s.heap [] := va_S.rf
  refine lv_aload_n hx hb dL_gap_0 rfl (lv_at hl 0 rfl) ?_
  refine lv_iload_n hx hb dL_gap_1 rfl (lv_at hl 1 rfl) ?_
  refine vx_calli (vx_runV (As := [.int p0]) (rest := []) ⟨hx, hb, hml, hown, hts⟩ (kX4_gap l D cI cC cZ cQ cJ t lo q G p0 hlo hlS h0) (cwV 1 hts gL_gap_X4_gap rfl rfl rfl (by decide +kernel) ⟨Nat.le_of_ble_eq_true rfl, Nat.le_of_ble_eq_true rfl⟩) ⟨gBe_blind, va_recv hK hP (ci := 4) (q0 := 0) rfl rfl, fun U hU hW => ⟨rfl, ⟨by rw [hU]; exact hP, va_K.moved hW.alike hK⟩, by rw [hU]; exact hE.1.warm hW⟩⟩ rfl rfl hl.1 rfl (lv_room (Nat.le_of_ble_eq_true rfl)) dL_gap_2 ⟨Nat.le_of_ble_eq_true rfl, Nat.le_of_ble_eq_true rfl⟩) hS (fun q9 _ h9 => h9) (fun q9 h9 => h9) (fun q9 _ h9 => h9) (fun E ce q9 u t9 H1 locs ht hvm hu hBX hz hk1 hS hce hcv hcl => ?_) (fun r u t9 H1 locs ht hvm hw hB hz hk1 hS => ?_)
  · obtain ⟨hEq, hne, hB⟩ := hBX
    rw [ht] at hB
    obtain ⟨hc, rfl⟩ := gmx_no h1 hne
    rcases hc with hc | hc 
    · have hEq : E = gIOB := by rw [hEq, hc]; rfl
      subst hEq
      refine vx_catch (name := gIOB) hown [] ⟨0, 6, 7, 34⟩ [] (by rw [htb]; rfl) (fun z9 hz9 => nomatch hz9) (by decide) (by decide) (hts (.classLink RL 34 gIOB) (by decide +kernel)) (va_Nw.use rfl (hE.1.2.2.2.2.1 gIOB (by decide +kernel))) hce hcv hcl ?_
      refine lv_astore_n (lv' := [(2, .ref q9), (0, .ref q), (1, .int p0)]) hx hb dL_gap_7 rfl hl (by decide) rfl (fun ls hl => ?_)
      refine lv_ldc2 (v := (-9000000000000000001)) hx hb hown (hts (.constantLong RL 36 (-9000000000000000001)) (by decide +kernel)) dL_gap_8 ?_
      exact W.lret (v := (-9000000000000000001)) hx hb hr (fun t ht hW => ⟨⟨_, (), rfl, by rw [hc]; rfl, by show va_P D vwCl _ t.heap; rw [ht]; exact hB⟩, hS.F ht⟩) hS.2.2 dL_gap_11
    · exact absurd rfl hc.2
  · obtain ⟨hw0, rfl⟩ := hw
    rw [ht] at hB
    obtain rfl := gmx_yes h1 hw0
    generalize H1 = H at hB hS ⊢
    refine lv_i2l hx hb dL_gap_5 rfl ?_
    exact W.lret (v := R0.2.1.toInt64) hx hb hr (fun t ht hW => ⟨⟨_, (), rfl, rfl, by show va_P D vwCl _ t.heap; rw [ht]; exact hB⟩, hS.F ht⟩) hS.2.2 dL_gap_6
set_option maxHeartbeats 4000000 in
set_option maxRecDepth 100000 in
theorem kL_room (l : Launch) (D : va_G) (cI cC cZ cQ cJ : ClassId) (t lo q : Nat) (G : GSt) (p0 : Int32) (hlo : lo ≤ q) (hlS : l.stackTraces = false) {R : Int64 × GSt} (h : fL_room G p0 = some R) : Met l yL_room wsL_room ({ frames := 7, cells := 1, slots := 6, locals := 103 } : Room) (va_Pc [.ref q, .int p0] (gBw D (gTy cI cC cZ cQ cJ) t lo (va_P D vwCl (GW cI cC cZ cQ q G)))) (va_Ql (fun r (_ : Unit) => r = R.1) (fun _ t => va_P D vwCl (GW cI cC cZ cQ q R.2) t.heap) (fIv q 201)) 1 6 (fIv q 201) := by
  unfold fL_room at h
  obtain ⟨R0, h0, h1⟩ := bd_some h
  refine gMet_ofWH (cc := cL_room) (maxL := 3) (ret := (some .long)) (hh := [(0, 6, 7, 15)]) (by decide) rfl ?_
  intro p e s m args below meth c s₁ B hml hv
  obtain ⟨rfl, ⟨hP, hK⟩, hE⟩ := hv
  have hx := B.exec
  have hb := B.bytes
  have hr := B.returns
  have hts := atoms_spec (ws := wsL_room) B.pre
  have hown : s.vm.findClass RL = some m.cls := findClass_of_methodNamed B.named
  have hlocks := B.notSynchronized
  have htb : c.exceptionTable.toList = tableOf [(0, 6, 7, 15)] := vx_table (x := yL_room) B (hts (.codeWith yL_room cL_room 3 (some .long) [(0, 6, 7, 15)]) (by decide +kernel))
  have hl := lv_entry ([.ref q, .int p0]) (n := 3) (Nat.le_of_ble_eq_true rfl)
  rw [lg_entry_eq]
  generalize (lg_sl ([.ref q, .int p0]) ++ List.replicate (3 - (lg_sl ([.ref q, .int p0])).length) Slot.unset).toArray = ls at hl ⊢
  have hl : lv_has ls 3 [(0, .ref q), (1, .int p0)] := hl
  have hS : va_S (fIv q 201) s.heap s.heap [] := va_S.rf
  refine lv_aload_n hx hb dL_room_0 rfl (lv_at hl 0 rfl) ?_
  refine lv_iload_n hx hb dL_room_1 rfl (lv_at hl 1 rfl) ?_
  refine vx_calli (vx_runV (As := [.int p0]) (rest := []) ⟨hx, hb, hml, hown, hts⟩ (kX4_room l D cI cC cZ cQ cJ t lo q G p0 hlo hlS h0) (cwV 1 hts gL_room_X4_room rfl rfl rfl (by decide +kernel) ⟨Nat.le_of_ble_eq_true rfl, Nat.le_of_ble_eq_true rfl⟩) ⟨gBe_blind, va_recv hK hP (ci := 4) (q0 := 0) rfl rfl, fun U hU hW => ⟨rfl, ⟨by rw [hU]; exact hP, va_K.moved hW.alike hK⟩, by rw [hU]; exact hE.1.warm hW⟩⟩ rfl rfl hl.1 rfl (lv_room (Nat.le_of_ble_eq_true rfl)) dL_room_2 ⟨Nat.le_of_ble_eq_true rfl, Nat.le_of_ble_eq_true rfl⟩) hS (fun q9 _ h9 => h9) (fun q9 h9 => h9) (fun q9 _ h9 => h9) (fun E ce q9 u t9 H1 locs ht hvm hu hBX hz hk1 hS hce hcv hcl => ?_) (fun r u t9 H1 locs ht hvm hw hB hz hk1 hS => ?_)
  · obtain ⟨hEq, hne, hB⟩ := hBX
    rw [ht] at hB
    obtain ⟨hc, rfl⟩ := gmx_no h1 hne
    rcases hc with hc | hc 
    · have hEq : E = gIAE := by rw [hEq, hc]; rfl
      subst hEq
      refine vx_catch (name := gIAE) hown [] ⟨0, 6, 7, 15⟩ [] (by rw [htb]; rfl) (fun z9 hz9 => nomatch hz9) (by decide) (by decide) (hts (.classLink RL 15 gIAE) (by decide +kernel)) (va_Nw.use rfl (hE.1.2.2.2.2.1 gIAE (by decide +kernel))) hce hcv hcl ?_
      refine lv_astore_n (lv' := [(2, .ref q9), (0, .ref q), (1, .int p0)]) hx hb dL_room_7 rfl hl (by decide) rfl (fun ls hl => ?_)
      refine lv_ldc2 (v := (-9000000000000000002)) hx hb hown (hts (.constantLong RL 17 (-9000000000000000002)) (by decide +kernel)) dL_room_8 ?_
      exact W.lret (v := (-9000000000000000002)) hx hb hr (fun t ht hW => ⟨⟨_, (), rfl, by rw [hc]; rfl, by show va_P D vwCl _ t.heap; rw [ht]; exact hB⟩, hS.F ht⟩) hS.2.2 dL_room_11
    · exact absurd rfl hc.2
  · obtain ⟨hw0, rfl⟩ := hw
    rw [ht] at hB
    obtain rfl := gmx_yes h1 hw0
    generalize H1 = H at hB hS ⊢
    refine lv_i2l hx hb dL_room_5 rfl ?_
    exact W.lret (v := R0.2.1.toInt64) hx hb hr (fun t ht hW => ⟨⟨_, (), rfl, rfl, by show va_P D vwCl _ t.heap; rw [ht]; exact hB⟩, hS.F ht⟩) hS.2.2 dL_room_6
set_option maxHeartbeats 4000000 in
set_option maxRecDepth 100000 in
theorem kL_groups (l : Launch) (D : va_G) (cI cC cZ cQ cJ : ClassId) (t lo q : Nat) (G : GSt) (p0 : Int32) (hlo : lo ≤ q) (hlS : l.stackTraces = false) {R : Int64 × GSt} (h : fL_groups G p0 = some R) : Met l yL_groups wsL_groups ({ frames := 7, cells := 1, slots := 6, locals := 108 } : Room) (va_Pc [.ref q, .int p0] (gBw D (gTy cI cC cZ cQ cJ) t lo (va_P D vwCl (GW cI cC cZ cQ q G)))) (va_Ql (fun r (_ : Unit) => r = R.1) (fun _ t => va_P D vwCl (GW cI cC cZ cQ q R.2) t.heap) (fIv q 201)) 1 6 (fIv q 201) := by
  unfold fL_groups at h
  obtain ⟨R0, h0, h1⟩ := bd_some h
  refine gMet_ofWH (cc := cL_groups) (maxL := 3) (ret := (some .long)) (hh := [(0, 6, 7, 15)]) (by decide) rfl ?_
  intro p e s m args below meth c s₁ B hml hv
  obtain ⟨rfl, ⟨hP, hK⟩, hE⟩ := hv
  have hx := B.exec
  have hb := B.bytes
  have hr := B.returns
  have hts := atoms_spec (ws := wsL_groups) B.pre
  have hown : s.vm.findClass RL = some m.cls := findClass_of_methodNamed B.named
  have hlocks := B.notSynchronized
  have htb : c.exceptionTable.toList = tableOf [(0, 6, 7, 15)] := vx_table (x := yL_groups) B (hts (.codeWith yL_groups cL_groups 3 (some .long) [(0, 6, 7, 15)]) (by decide +kernel))
  have hl := lv_entry ([.ref q, .int p0]) (n := 3) (Nat.le_of_ble_eq_true rfl)
  rw [lg_entry_eq]
  generalize (lg_sl ([.ref q, .int p0]) ++ List.replicate (3 - (lg_sl ([.ref q, .int p0])).length) Slot.unset).toArray = ls at hl ⊢
  have hl : lv_has ls 3 [(0, .ref q), (1, .int p0)] := hl
  have hS : va_S (fIv q 201) s.heap s.heap [] := va_S.rf
  refine lv_aload_n hx hb dL_groups_0 rfl (lv_at hl 0 rfl) ?_
  refine lv_iload_n hx hb dL_groups_1 rfl (lv_at hl 1 rfl) ?_
  refine vx_calli (vx_runV (As := [.int p0]) (rest := []) ⟨hx, hb, hml, hown, hts⟩ (kX4_groups l D cI cC cZ cQ cJ t lo q G p0 hlo hlS h0) (cwV 1 hts gL_groups_X4_groups rfl rfl rfl (by decide +kernel) ⟨Nat.le_of_ble_eq_true rfl, Nat.le_of_ble_eq_true rfl⟩) ⟨gBe_blind, va_recv hK hP (ci := 4) (q0 := 0) rfl rfl, fun U hU hW => ⟨rfl, ⟨by rw [hU]; exact hP, va_K.moved hW.alike hK⟩, by rw [hU]; exact hE.1.warm hW⟩⟩ rfl rfl hl.1 rfl (lv_room (Nat.le_of_ble_eq_true rfl)) dL_groups_2 ⟨Nat.le_of_ble_eq_true rfl, Nat.le_of_ble_eq_true rfl⟩) hS (fun q9 _ h9 => h9) (fun q9 h9 => h9) (fun q9 _ h9 => h9) (fun E ce q9 u t9 H1 locs ht hvm hu hBX hz hk1 hS hce hcv hcl => ?_) (fun r u t9 H1 locs ht hvm hw hB hz hk1 hS => ?_)
  · obtain ⟨hEq, hne, hB⟩ := hBX
    rw [ht] at hB
    obtain ⟨hc, rfl⟩ := gmx_no h1 hne
    rcases hc with hc | hc 
    · have hEq : E = gIAE := by rw [hEq, hc]; rfl
      subst hEq
      refine vx_catch (name := gIAE) hown [] ⟨0, 6, 7, 15⟩ [] (by rw [htb]; rfl) (fun z9 hz9 => nomatch hz9) (by decide) (by decide) (hts (.classLink RL 15 gIAE) (by decide +kernel)) (va_Nw.use rfl (hE.1.2.2.2.2.1 gIAE (by decide +kernel))) hce hcv hcl ?_
      refine lv_astore_n (lv' := [(2, .ref q9), (0, .ref q), (1, .int p0)]) hx hb dL_groups_7 rfl hl (by decide) rfl (fun ls hl => ?_)
      refine lv_ldc2 (v := (-9000000000000000002)) hx hb hown (hts (.constantLong RL 17 (-9000000000000000002)) (by decide +kernel)) dL_groups_8 ?_
      exact W.lret (v := (-9000000000000000002)) hx hb hr (fun t ht hW => ⟨⟨_, (), rfl, by rw [hc]; rfl, by show va_P D vwCl _ t.heap; rw [ht]; exact hB⟩, hS.F ht⟩) hS.2.2 dL_groups_11
    · exact absurd rfl hc.2
  · obtain ⟨hw0, rfl⟩ := hw
    rw [ht] at hB
    obtain rfl := gmx_yes h1 hw0
    generalize H1 = H at hB hS ⊢
    refine lv_i2l hx hb dL_groups_5 rfl ?_
    exact W.lret (v := R0.2.1.toInt64) hx hb hr (fun t ht hW => ⟨⟨_, (), rfl, rfl, by show va_P D vwCl _ t.heap; rw [ht]; exact hB⟩, hS.F ht⟩) hS.2.2 dL_groups_6
set_option maxHeartbeats 4000000 in
set_option maxRecDepth 100000 in
theorem kL_dueAfter (l : Launch) (D : va_G) (cI cC cZ cQ cJ : ClassId) (t lo q : Nat) (G : GSt) (p0 : Int32) (hlo : lo ≤ q) (hlS : l.stackTraces = false) {R : Int64 × GSt} (h : fL_dueAfter G p0 = some R) : Met l yL_dueAfter wsL_dueAfter ({ frames := 7, cells := 1, slots := 6, locals := 103 } : Room) (va_Pc [.ref q, .int p0] (gBw D (gTy cI cC cZ cQ cJ) t lo (va_P D vwCl (GW cI cC cZ cQ q G)))) (va_Ql (fun r (_ : Unit) => r = R.1) (fun _ t => va_P D vwCl (GW cI cC cZ cQ q R.2) t.heap) (fIv q 201)) 1 6 (fIv q 201) := by
  unfold fL_dueAfter at h
  obtain ⟨R0, h0, h1⟩ := bd_some h
  refine gMet_ofWH (cc := cL_dueAfter) (maxL := 3) (ret := (some .long)) (hh := [(0, 6, 7, 34)]) (by decide) rfl ?_
  intro p e s m args below meth c s₁ B hml hv
  obtain ⟨rfl, ⟨hP, hK⟩, hE⟩ := hv
  have hx := B.exec
  have hb := B.bytes
  have hr := B.returns
  have hts := atoms_spec (ws := wsL_dueAfter) B.pre
  have hown : s.vm.findClass RL = some m.cls := findClass_of_methodNamed B.named
  have hlocks := B.notSynchronized
  have htb : c.exceptionTable.toList = tableOf [(0, 6, 7, 34)] := vx_table (x := yL_dueAfter) B (hts (.codeWith yL_dueAfter cL_dueAfter 3 (some .long) [(0, 6, 7, 34)]) (by decide +kernel))
  have hl := lv_entry ([.ref q, .int p0]) (n := 3) (Nat.le_of_ble_eq_true rfl)
  rw [lg_entry_eq]
  generalize (lg_sl ([.ref q, .int p0]) ++ List.replicate (3 - (lg_sl ([.ref q, .int p0])).length) Slot.unset).toArray = ls at hl ⊢
  have hl : lv_has ls 3 [(0, .ref q), (1, .int p0)] := hl
  have hS : va_S (fIv q 201) s.heap s.heap [] := va_S.rf
  refine lv_aload_n hx hb dL_dueAfter_0 rfl (lv_at hl 0 rfl) ?_
  refine lv_iload_n hx hb dL_dueAfter_1 rfl (lv_at hl 1 rfl) ?_
  refine vx_calli (vx_runV (As := [.int p0]) (rest := []) ⟨hx, hb, hml, hown, hts⟩ (kX4_dueAfter l D cI cC cZ cQ cJ t lo q G p0 hlo hlS h0) (cwV 1 hts gL_dueAfter_X4_dueAfter rfl rfl rfl (by decide +kernel) ⟨Nat.le_of_ble_eq_true rfl, Nat.le_of_ble_eq_true rfl⟩) ⟨gBe_blind, va_recv hK hP (ci := 4) (q0 := 0) rfl rfl, fun U hU hW => ⟨rfl, ⟨by rw [hU]; exact hP, va_K.moved hW.alike hK⟩, by rw [hU]; exact hE.1.warm hW⟩⟩ rfl rfl hl.1 rfl (lv_room (Nat.le_of_ble_eq_true rfl)) dL_dueAfter_2 ⟨Nat.le_of_ble_eq_true rfl, Nat.le_of_ble_eq_true rfl⟩) hS (fun q9 _ h9 => h9) (fun q9 h9 => h9) (fun q9 _ h9 => h9) (fun E ce q9 u t9 H1 locs ht hvm hu hBX hz hk1 hS hce hcv hcl => ?_) (fun r u t9 H1 locs ht hvm hw hB hz hk1 hS => ?_)
  · obtain ⟨hEq, hne, hB⟩ := hBX
    rw [ht] at hB
    obtain ⟨hc, rfl⟩ := gmx_no h1 hne
    rcases hc with hc | hc 
    · have hEq : E = gIOB := by rw [hEq, hc]; rfl
      subst hEq
      refine vx_catch (name := gIOB) hown [] ⟨0, 6, 7, 34⟩ [] (by rw [htb]; rfl) (fun z9 hz9 => nomatch hz9) (by decide) (by decide) (hts (.classLink RL 34 gIOB) (by decide +kernel)) (va_Nw.use rfl (hE.1.2.2.2.2.1 gIOB (by decide +kernel))) hce hcv hcl ?_
      refine lv_astore_n (lv' := [(2, .ref q9), (0, .ref q), (1, .int p0)]) hx hb dL_dueAfter_7 rfl hl (by decide) rfl (fun ls hl => ?_)
      refine lv_ldc2 (v := (-9000000000000000001)) hx hb hown (hts (.constantLong RL 36 (-9000000000000000001)) (by decide +kernel)) dL_dueAfter_8 ?_
      exact W.lret (v := (-9000000000000000001)) hx hb hr (fun t ht hW => ⟨⟨_, (), rfl, by rw [hc]; rfl, by show va_P D vwCl _ t.heap; rw [ht]; exact hB⟩, hS.F ht⟩) hS.2.2 dL_dueAfter_11
    · exact absurd rfl hc.2
  · obtain ⟨hw0, rfl⟩ := hw
    rw [ht] at hB
    obtain rfl := gmx_yes h1 hw0
    generalize H1 = H at hB hS ⊢
    refine lv_i2l hx hb dL_dueAfter_5 rfl ?_
    exact W.lret (v := R0.2.1.toInt64) hx hb hr (fun t ht hW => ⟨⟨_, (), rfl, rfl, by show va_P D vwCl _ t.heap; rw [ht]; exact hB⟩, hS.F ht⟩) hS.2.2 dL_dueAfter_6
set_option maxHeartbeats 4000000 in
set_option maxRecDepth 100000 in
theorem kL_chance (l : Launch) (D : va_G) (cI cC cZ cQ cJ : ClassId) (t lo q : Nat) (G : GSt) (p0 : Int32) (p1 : Int32) (hlo : lo ≤ q) (hlS : l.stackTraces = false) {R : Int64 × GSt} (h : fL_chance G p0 p1 = some R) : Met l yL_chance wsL_chance ({ frames := 7, cells := 1, slots := 6, locals := 108 } : Room) (va_Pc [.ref q, .int p0, .int p1] (gBw D (gTy cI cC cZ cQ cJ) t lo (va_P D vwCl (GW cI cC cZ cQ q G)))) (va_Ql (fun r (_ : Unit) => r = R.1) (fun _ t => va_P D vwCl (GW cI cC cZ cQ q R.2) t.heap) (fIv q 201)) 1 6 (fIv q 201) := by
  unfold fL_chance at h
  obtain ⟨R0, h0, h1⟩ := bd_some h
  refine gMet_ofWH (cc := cL_chance) (maxL := 4) (ret := (some .long)) (hh := [(0, 7, 8, 15)]) (by decide) rfl ?_
  intro p e s m args below meth c s₁ B hml hv
  obtain ⟨rfl, ⟨hP, hK⟩, hE⟩ := hv
  have hx := B.exec
  have hb := B.bytes
  have hr := B.returns
  have hts := atoms_spec (ws := wsL_chance) B.pre
  have hown : s.vm.findClass RL = some m.cls := findClass_of_methodNamed B.named
  have hlocks := B.notSynchronized
  have htb : c.exceptionTable.toList = tableOf [(0, 7, 8, 15)] := vx_table (x := yL_chance) B (hts (.codeWith yL_chance cL_chance 4 (some .long) [(0, 7, 8, 15)]) (by decide +kernel))
  have hl := lv_entry ([.ref q, .int p0, .int p1]) (n := 4) (Nat.le_of_ble_eq_true rfl)
  rw [lg_entry_eq]
  generalize (lg_sl ([.ref q, .int p0, .int p1]) ++ List.replicate (4 - (lg_sl ([.ref q, .int p0, .int p1])).length) Slot.unset).toArray = ls at hl ⊢
  have hl : lv_has ls 4 [(0, .ref q), (1, .int p0), (2, .int p1)] := hl
  have hS : va_S (fIv q 201) s.heap s.heap [] := va_S.rf
  refine lv_aload_n hx hb dL_chance_0 rfl (lv_at hl 0 rfl) ?_
  refine lv_iload_n hx hb dL_chance_1 rfl (lv_at hl 1 rfl) ?_
  refine lv_iload_n hx hb dL_chance_2 rfl (lv_at hl 2 rfl) ?_
  refine vx_calli (vx_runV (As := [.int p0, .int p1]) (rest := []) ⟨hx, hb, hml, hown, hts⟩ (kX4_chance l D cI cC cZ cQ cJ t lo q G p0 p1 hlo hlS h0) (cwV 2 hts gL_chance_X4_chance rfl rfl rfl (by decide +kernel) ⟨Nat.le_of_ble_eq_true rfl, Nat.le_of_ble_eq_true rfl⟩) ⟨gBe_blind, va_recv hK hP (ci := 4) (q0 := 0) rfl rfl, fun U hU hW => ⟨rfl, ⟨by rw [hU]; exact hP, va_K.moved hW.alike hK⟩, by rw [hU]; exact hE.1.warm hW⟩⟩ rfl rfl hl.1 rfl (lv_room (Nat.le_of_ble_eq_true rfl)) dL_chance_3 ⟨Nat.le_of_ble_eq_true rfl, Nat.le_of_ble_eq_true rfl⟩) hS (fun q9 _ h9 => h9) (fun q9 h9 => h9) (fun q9 _ h9 => h9) (fun E ce q9 u t9 H1 locs ht hvm hu hBX hz hk1 hS hce hcv hcl => ?_) (fun r u t9 H1 locs ht hvm hw hB hz hk1 hS => ?_)
  · obtain ⟨hEq, hne, hB⟩ := hBX
    rw [ht] at hB
    obtain ⟨hc, rfl⟩ := gmx_no h1 hne
    rcases hc with hc | hc 
    · have hEq : E = gIAE := by rw [hEq, hc]; rfl
      subst hEq
      refine vx_catch (name := gIAE) hown [] ⟨0, 7, 8, 15⟩ [] (by rw [htb]; rfl) (fun z9 hz9 => nomatch hz9) (by decide) (by decide) (hts (.classLink RL 15 gIAE) (by decide +kernel)) (va_Nw.use rfl (hE.1.2.2.2.2.1 gIAE (by decide +kernel))) hce hcv hcl ?_
      refine lv_astore_n (lv' := [(3, .ref q9), (0, .ref q), (1, .int p0), (2, .int p1)]) hx hb dL_chance_8 rfl hl (by decide) rfl (fun ls hl => ?_)
      refine lv_ldc2 (v := (-9000000000000000002)) hx hb hown (hts (.constantLong RL 17 (-9000000000000000002)) (by decide +kernel)) dL_chance_9 ?_
      exact W.lret (v := (-9000000000000000002)) hx hb hr (fun t ht hW => ⟨⟨_, (), rfl, by rw [hc]; rfl, by show va_P D vwCl _ t.heap; rw [ht]; exact hB⟩, hS.F ht⟩) hS.2.2 dL_chance_12
    · exact absurd rfl hc.2
  · obtain ⟨hw0, rfl⟩ := hw
    rw [ht] at hB
    obtain rfl := gmx_yes h1 hw0
    generalize H1 = H at hB hS ⊢
    refine lv_i2l hx hb dL_chance_6 rfl ?_
    exact W.lret (v := R0.2.1.toInt64) hx hb hr (fun t ht hW => ⟨⟨_, (), rfl, rfl, by show va_P D vwCl _ t.heap; rw [ht]; exact hB⟩, hS.F ht⟩) hS.2.2 dL_chance_7
set_option maxHeartbeats 4000000 in
set_option maxRecDepth 100000 in
theorem kL_ahead (l : Launch) (D : va_G) (cI cC cZ cQ cJ : ClassId) (t lo q : Nat) (G : GSt) (p0 : Int32) (p1 : Int32) (p2 : Int32) (hlo : lo ≤ q) (hlS : l.stackTraces = false) {R : Int64 × GSt} (h : fL_ahead G p0 p1 p2 = some R) : Met l yL_ahead wsL_ahead ({ frames := 7, cells := 1, slots := 6, locals := 134 } : Room) (va_Pc [.ref q, .int p0, .int p1, .int p2] (gBw D (gTy cI cC cZ cQ cJ) t lo (va_P D vwCl (GW cI cC cZ cQ q G)))) (va_Ql (fun r (_ : Unit) => r = R.1) (fun _ t => va_P D vwCl (GW cI cC cZ cQ q R.2) t.heap) (fIv q 201)) 1 6 (fIv q 201) := by
  unfold fL_ahead at h
  obtain ⟨R0, h0, h1⟩ := bd_some h
  refine gMet_ofWH (cc := cL_ahead) (maxL := 5) (ret := (some .long)) (hh := [(0, 8, 9, 34), (0, 8, 15, 15)]) (by decide) rfl ?_
  intro p e s m args below meth c s₁ B hml hv
  obtain ⟨rfl, ⟨hP, hK⟩, hE⟩ := hv
  have hx := B.exec
  have hb := B.bytes
  have hr := B.returns
  have hts := atoms_spec (ws := wsL_ahead) B.pre
  have hown : s.vm.findClass RL = some m.cls := findClass_of_methodNamed B.named
  have hlocks := B.notSynchronized
  have htb : c.exceptionTable.toList = tableOf [(0, 8, 9, 34), (0, 8, 15, 15)] := vx_table (x := yL_ahead) B (hts (.codeWith yL_ahead cL_ahead 5 (some .long) [(0, 8, 9, 34), (0, 8, 15, 15)]) (by decide +kernel))
  have hl := lv_entry ([.ref q, .int p0, .int p1, .int p2]) (n := 5) (Nat.le_of_ble_eq_true rfl)
  rw [lg_entry_eq]
  generalize (lg_sl ([.ref q, .int p0, .int p1, .int p2]) ++ List.replicate (5 - (lg_sl ([.ref q, .int p0, .int p1, .int p2])).length) Slot.unset).toArray = ls at hl ⊢
  have hl : lv_has ls 5 [(0, .ref q), (1, .int p0), (2, .int p1), (3, .int p2)] := hl
  have hS : va_S (fIv q 201) s.heap s.heap [] := va_S.rf
  refine lv_aload_n hx hb dL_ahead_0 rfl (lv_at hl 0 rfl) ?_
  refine lv_iload_n hx hb dL_ahead_1 rfl (lv_at hl 1 rfl) ?_
  refine lv_iload_n hx hb dL_ahead_2 rfl (lv_at hl 2 rfl) ?_
  refine lv_iload_n hx hb dL_ahead_3 rfl (lv_at hl 3 rfl) ?_
  refine vx_calli (vx_runV (As := [.int p0, .int p1, .int p2]) (rest := []) ⟨hx, hb, hml, hown, hts⟩ (kX4_ahead l D cI cC cZ cQ cJ t lo q G p0 p1 p2 hlo hlS h0) (cwV 3 hts gL_ahead_X4_ahead rfl rfl rfl (by decide +kernel) ⟨Nat.le_of_ble_eq_true rfl, Nat.le_of_ble_eq_true rfl⟩) ⟨gBe_blind, va_recv hK hP (ci := 4) (q0 := 0) rfl rfl, fun U hU hW => ⟨rfl, ⟨by rw [hU]; exact hP, va_K.moved hW.alike hK⟩, by rw [hU]; exact hE.1.warm hW⟩⟩ rfl rfl hl.1 rfl (lv_room (Nat.le_of_ble_eq_true rfl)) dL_ahead_4 ⟨Nat.le_of_ble_eq_true rfl, Nat.le_of_ble_eq_true rfl⟩) hS (fun q9 _ h9 => h9) (fun q9 h9 => h9) (fun q9 _ h9 => h9) (fun E ce q9 u t9 H1 locs ht hvm hu hBX hz hk1 hS hce hcv hcl => ?_) (fun r u t9 H1 locs ht hvm hw hB hz hk1 hS => ?_)
  · obtain ⟨hEq, hne, hB⟩ := hBX
    rw [ht] at hB
    obtain ⟨hc, rfl⟩ := gmx_no h1 hne
    rcases hc with hc | hc 
    · have hEq : E = gIOB := by rw [hEq, hc]; rfl
      subst hEq
      refine vx_catch (name := gIOB) hown [] ⟨0, 8, 9, 34⟩ [⟨0, 8, 15, 15⟩] (by rw [htb]; rfl) (fun z9 hz9 => nomatch hz9) (by decide) (by decide) (hts (.classLink RL 34 gIOB) (by decide +kernel)) (va_Nw.use rfl (hE.1.2.2.2.2.1 gIOB (by decide +kernel))) hce hcv hcl ?_
      refine lv_astore (lv' := [(4, .ref q9), (0, .ref q), (1, .int p0), (2, .int p1), (3, .int p2)]) hx hb dL_ahead_9 hl (by decide) rfl (fun ls hl => ?_)
      refine lv_ldc2 (v := (-9000000000000000001)) hx hb hown (hts (.constantLong RL 36 (-9000000000000000001)) (by decide +kernel)) dL_ahead_11 ?_
      exact W.lret (v := (-9000000000000000001)) hx hb hr (fun t ht hW => ⟨⟨_, (), rfl, by rw [hc]; rfl, by show va_P D vwCl _ t.heap; rw [ht]; exact hB⟩, hS.F ht⟩) hS.2.2 dL_ahead_14
    · obtain ⟨hc, -⟩ := hc
      have hEq : E = gIAE := by rw [hEq, hc]; rfl
      subst hEq
      refine vx_catch (name := gIAE) hown [⟨0, 8, 9, 34⟩] ⟨0, 8, 15, 15⟩ [] (by rw [htb]; rfl) (fun z9 hz9 => by rw [List.mem_singleton.mp hz9]; exact Or.inr ⟨by decide, gIOB, hts (.classLink RL 34 gIOB) (by decide +kernel), hE.2 (gIAE, gIOB) (by decide +kernel)⟩) (by decide) (by decide) (hts (.classLink RL 15 gIAE) (by decide +kernel)) (va_Nw.use rfl (hE.1.2.2.2.2.1 gIAE (by decide +kernel))) hce hcv hcl ?_
      refine lv_astore (lv' := [(4, .ref q9), (0, .ref q), (1, .int p0), (2, .int p1), (3, .int p2)]) hx hb dL_ahead_15 hl (by decide) rfl (fun ls hl => ?_)
      refine lv_ldc2 (v := (-9000000000000000002)) hx hb hown (hts (.constantLong RL 17 (-9000000000000000002)) (by decide +kernel)) dL_ahead_17 ?_
      exact W.lret (v := (-9000000000000000002)) hx hb hr (fun t ht hW => ⟨⟨_, (), rfl, by rw [hc]; rfl, by show va_P D vwCl _ t.heap; rw [ht]; exact hB⟩, hS.F ht⟩) hS.2.2 dL_ahead_20
  · obtain ⟨hw0, rfl⟩ := hw
    rw [ht] at hB
    obtain rfl := gmx_yes h1 hw0
    generalize H1 = H at hB hS ⊢
    refine lv_i2l hx hb dL_ahead_7 rfl ?_
    exact W.lret (v := R0.2.1.toInt64) hx hb hr (fun t ht hW => ⟨⟨_, (), rfl, rfl, by show va_P D vwCl _ t.heap; rw [ht]; exact hB⟩, hS.F ht⟩) hS.2.2 dL_ahead_8
set_option maxHeartbeats 4000000 in
set_option maxRecDepth 100000 in
theorem kL_happens (l : Launch) (D : va_G) (cI cC cZ cQ cJ : ClassId) (t lo q : Nat) (G : GSt) (p0 : Int32) (p1 : Int32) (hlo : lo ≤ q) (hlS : l.stackTraces = false) {R : Int64 × GSt} (h : fL_happens G p0 p1 = some R) : Met l yL_happens wsL_happens ({ frames := 7, cells := 1, slots := 6, locals := 113 } : Room) (va_Pc [.ref q, .int p0, .int p1] (gBw D (gTy cI cC cZ cQ cJ) t lo (va_P D vwCl (GW cI cC cZ cQ q G)))) (va_Ql (fun r (_ : Unit) => r = R.1) (fun _ t => va_P D vwCl (GW cI cC cZ cQ q R.2) t.heap) (fIv q 201)) 1 6 (fIv q 201) := by
  unfold fL_happens at h
  obtain ⟨R0, h0, h1⟩ := bd_some h
  refine gMet_ofWH (cc := cL_happens) (maxL := 4) (ret := (some .long)) (hh := [(0, 7, 8, 15)]) (by decide) rfl ?_
  intro p e s m args below meth c s₁ B hml hv
  obtain ⟨rfl, ⟨hP, hK⟩, hE⟩ := hv
  have hx := B.exec
  have hb := B.bytes
  have hr := B.returns
  have hts := atoms_spec (ws := wsL_happens) B.pre
  have hown : s.vm.findClass RL = some m.cls := findClass_of_methodNamed B.named
  have hlocks := B.notSynchronized
  have htb : c.exceptionTable.toList = tableOf [(0, 7, 8, 15)] := vx_table (x := yL_happens) B (hts (.codeWith yL_happens cL_happens 4 (some .long) [(0, 7, 8, 15)]) (by decide +kernel))
  have hl := lv_entry ([.ref q, .int p0, .int p1]) (n := 4) (Nat.le_of_ble_eq_true rfl)
  rw [lg_entry_eq]
  generalize (lg_sl ([.ref q, .int p0, .int p1]) ++ List.replicate (4 - (lg_sl ([.ref q, .int p0, .int p1])).length) Slot.unset).toArray = ls at hl ⊢
  have hl : lv_has ls 4 [(0, .ref q), (1, .int p0), (2, .int p1)] := hl
  have hS : va_S (fIv q 201) s.heap s.heap [] := va_S.rf
  refine lv_aload_n hx hb dL_happens_0 rfl (lv_at hl 0 rfl) ?_
  refine lv_iload_n hx hb dL_happens_1 rfl (lv_at hl 1 rfl) ?_
  refine lv_iload_n hx hb dL_happens_2 rfl (lv_at hl 2 rfl) ?_
  refine vx_calli (vx_runV (As := [.int p0, .int p1]) (rest := []) ⟨hx, hb, hml, hown, hts⟩ (kX4_happens l D cI cC cZ cQ cJ t lo q G p0 p1 hlo hlS h0) (cwV 2 hts gL_happens_X4_happens rfl rfl rfl (by decide +kernel) ⟨Nat.le_of_ble_eq_true rfl, Nat.le_of_ble_eq_true rfl⟩) ⟨gBe_blind, va_recv hK hP (ci := 4) (q0 := 0) rfl rfl, fun U hU hW => ⟨rfl, ⟨by rw [hU]; exact hP, va_K.moved hW.alike hK⟩, by rw [hU]; exact hE.1.warm hW⟩⟩ rfl rfl hl.1 rfl (lv_room (Nat.le_of_ble_eq_true rfl)) dL_happens_3 ⟨Nat.le_of_ble_eq_true rfl, Nat.le_of_ble_eq_true rfl⟩) hS (fun q9 _ h9 => h9) (fun q9 h9 => h9) (fun q9 _ h9 => h9) (fun E ce q9 u t9 H1 locs ht hvm hu hBX hz hk1 hS hce hcv hcl => ?_) (fun r u t9 H1 locs ht hvm hw hB hz hk1 hS => ?_)
  · obtain ⟨hEq, hne, hB⟩ := hBX
    rw [ht] at hB
    obtain ⟨hc, rfl⟩ := gmx_no h1 hne
    rcases hc with hc | hc 
    · have hEq : E = gIAE := by rw [hEq, hc]; rfl
      subst hEq
      refine vx_catch (name := gIAE) hown [] ⟨0, 7, 8, 15⟩ [] (by rw [htb]; rfl) (fun z9 hz9 => nomatch hz9) (by decide) (by decide) (hts (.classLink RL 15 gIAE) (by decide +kernel)) (va_Nw.use rfl (hE.1.2.2.2.2.1 gIAE (by decide +kernel))) hce hcv hcl ?_
      refine lv_astore_n (lv' := [(3, .ref q9), (0, .ref q), (1, .int p0), (2, .int p1)]) hx hb dL_happens_8 rfl hl (by decide) rfl (fun ls hl => ?_)
      refine lv_ldc2 (v := (-9000000000000000002)) hx hb hown (hts (.constantLong RL 17 (-9000000000000000002)) (by decide +kernel)) dL_happens_9 ?_
      exact W.lret (v := (-9000000000000000002)) hx hb hr (fun t ht hW => ⟨⟨_, (), rfl, by rw [hc]; rfl, by show va_P D vwCl _ t.heap; rw [ht]; exact hB⟩, hS.F ht⟩) hS.2.2 dL_happens_12
    · exact absurd rfl hc.2
  · obtain ⟨hw0, rfl⟩ := hw
    rw [ht] at hB
    obtain rfl := gmx_yes h1 hw0
    generalize H1 = H at hB hS ⊢
    refine lv_i2l hx hb dL_happens_6 rfl ?_
    exact W.lret (v := R0.2.1.toInt64) hx hb hr (fun t ht hW => ⟨⟨_, (), rfl, rfl, by show va_P D vwCl _ t.heap; rw [ht]; exact hB⟩, hS.F ht⟩) hS.2.2 dL_happens_7
set_option maxHeartbeats 4000000 in
set_option maxRecDepth 100000 in
theorem kL_bestLimit (l : Launch) (D : va_G) (cI cC cZ cQ cJ : ClassId) (t lo q : Nat) (G : GSt) (p0 : Int32) (hlo : lo ≤ q) (hlS : l.stackTraces = false) {R : Int64 × GSt} (h : fL_bestLimit G p0 = some R) : Met l yL_bestLimit wsL_bestLimit ({ frames := 7, cells := 1, slots := 6, locals := 134 } : Room) (va_Pc [.ref q, .int p0] (gBw D (gTy cI cC cZ cQ cJ) t lo (va_P D vwCl (GW cI cC cZ cQ q G)))) (va_Ql (fun r (_ : Unit) => r = R.1) (fun _ t => va_P D vwCl (GW cI cC cZ cQ q R.2) t.heap) (fIv q 201)) 1 6 (fIv q 201) := by
  unfold fL_bestLimit at h
  obtain ⟨R0, h0, h1⟩ := bd_some h
  refine gMet_ofWH (cc := cL_bestLimit) (maxL := 3) (ret := (some .long)) (hh := [(0, 6, 7, 15)]) (by decide) rfl ?_
  intro p e s m args below meth c s₁ B hml hv
  obtain ⟨rfl, ⟨hP, hK⟩, hE⟩ := hv
  have hx := B.exec
  have hb := B.bytes
  have hr := B.returns
  have hts := atoms_spec (ws := wsL_bestLimit) B.pre
  have hown : s.vm.findClass RL = some m.cls := findClass_of_methodNamed B.named
  have hlocks := B.notSynchronized
  have htb : c.exceptionTable.toList = tableOf [(0, 6, 7, 15)] := vx_table (x := yL_bestLimit) B (hts (.codeWith yL_bestLimit cL_bestLimit 3 (some .long) [(0, 6, 7, 15)]) (by decide +kernel))
  have hl := lv_entry ([.ref q, .int p0]) (n := 3) (Nat.le_of_ble_eq_true rfl)
  rw [lg_entry_eq]
  generalize (lg_sl ([.ref q, .int p0]) ++ List.replicate (3 - (lg_sl ([.ref q, .int p0])).length) Slot.unset).toArray = ls at hl ⊢
  have hl : lv_has ls 3 [(0, .ref q), (1, .int p0)] := hl
  have hS : va_S (fIv q 201) s.heap s.heap [] := va_S.rf
  refine lv_aload_n hx hb dL_bestLimit_0 rfl (lv_at hl 0 rfl) ?_
  refine lv_iload_n hx hb dL_bestLimit_1 rfl (lv_at hl 1 rfl) ?_
  refine vx_calli (vx_runV (As := [.int p0]) (rest := []) ⟨hx, hb, hml, hown, hts⟩ (kX4_bestLimit l D cI cC cZ cQ cJ t lo q G p0 hlo hlS h0) (cwV 1 hts gL_bestLimit_X4_bestLimit rfl rfl rfl (by decide +kernel) ⟨Nat.le_of_ble_eq_true rfl, Nat.le_of_ble_eq_true rfl⟩) ⟨gBe_blind, va_recv hK hP (ci := 4) (q0 := 0) rfl rfl, fun U hU hW => ⟨rfl, ⟨by rw [hU]; exact hP, va_K.moved hW.alike hK⟩, by rw [hU]; exact hE.1.warm hW⟩⟩ rfl rfl hl.1 rfl (lv_room (Nat.le_of_ble_eq_true rfl)) dL_bestLimit_2 ⟨Nat.le_of_ble_eq_true rfl, Nat.le_of_ble_eq_true rfl⟩) hS (fun q9 _ h9 => h9) (fun q9 h9 => h9) (fun q9 _ h9 => h9) (fun E ce q9 u t9 H1 locs ht hvm hu hBX hz hk1 hS hce hcv hcl => ?_) (fun r u t9 H1 locs ht hvm hw hB hz hk1 hS => ?_)
  · obtain ⟨hEq, hne, hB⟩ := hBX
    rw [ht] at hB
    obtain ⟨hc, rfl⟩ := gmx_no h1 hne
    rcases hc with hc | hc 
    · have hEq : E = gIAE := by rw [hEq, hc]; rfl
      subst hEq
      refine vx_catch (name := gIAE) hown [] ⟨0, 6, 7, 15⟩ [] (by rw [htb]; rfl) (fun z9 hz9 => nomatch hz9) (by decide) (by decide) (hts (.classLink RL 15 gIAE) (by decide +kernel)) (va_Nw.use rfl (hE.1.2.2.2.2.1 gIAE (by decide +kernel))) hce hcv hcl ?_
      refine lv_astore_n (lv' := [(2, .ref q9), (0, .ref q), (1, .int p0)]) hx hb dL_bestLimit_7 rfl hl (by decide) rfl (fun ls hl => ?_)
      refine lv_ldc2 (v := (-9000000000000000002)) hx hb hown (hts (.constantLong RL 17 (-9000000000000000002)) (by decide +kernel)) dL_bestLimit_8 ?_
      exact W.lret (v := (-9000000000000000002)) hx hb hr (fun t ht hW => ⟨⟨_, (), rfl, by rw [hc]; rfl, by show va_P D vwCl _ t.heap; rw [ht]; exact hB⟩, hS.F ht⟩) hS.2.2 dL_bestLimit_11
    · exact absurd rfl hc.2
  · obtain ⟨hw0, rfl⟩ := hw
    rw [ht] at hB
    obtain rfl := gmx_yes h1 hw0
    generalize H1 = H at hB hS ⊢
    refine lv_i2l hx hb dL_bestLimit_5 rfl ?_
    exact W.lret (v := R0.2.1.toInt64) hx hb hr (fun t ht hW => ⟨⟨_, (), rfl, rfl, by show va_P D vwCl _ t.heap; rw [ht]; exact hB⟩, hS.F ht⟩) hS.2.2 dL_bestLimit_6
set_option maxHeartbeats 4000000 in
set_option maxRecDepth 100000 in
theorem kL_script (l : Launch) (D : va_G) (cI cC cZ cQ cJ : ClassId) (t lo q : Nat) (G : GSt) (p0 : Int32) (p1 : Int64) (hlo : lo ≤ q) (hlS : l.stackTraces = false) {R : Int64 × GSt} (h : fL_script G p0 p1 = some R) : Met l yL_script wsL_script ({ frames := 7, cells := 1, slots := 6, locals := 158 } : Room) (va_Pc [.ref q, .int p0, .long p1] (gBw D (gTy cI cC cZ cQ cJ) t lo (va_P D vwCl (GW cI cC cZ cQ q G)))) (va_Ql (fun r (_ : Unit) => r = R.1) (fun _ t => va_P D vwCl (GW cI cC cZ cQ q R.2) t.heap) (fIv q 201)) 1 6 (fIv q 201) := by
  unfold fL_script at h
  obtain ⟨R0, h0, h1⟩ := bd_some h
  refine gMet_ofWH (cc := cL_script) (maxL := 5) (ret := (some .long)) (hh := [(0, 7, 8, 15)]) (by decide) rfl ?_
  intro p e s m args below meth c s₁ B hml hv
  obtain ⟨rfl, ⟨hP, hK⟩, hE⟩ := hv
  have hx := B.exec
  have hb := B.bytes
  have hr := B.returns
  have hts := atoms_spec (ws := wsL_script) B.pre
  have hown : s.vm.findClass RL = some m.cls := findClass_of_methodNamed B.named
  have hlocks := B.notSynchronized
  have htb : c.exceptionTable.toList = tableOf [(0, 7, 8, 15)] := vx_table (x := yL_script) B (hts (.codeWith yL_script cL_script 5 (some .long) [(0, 7, 8, 15)]) (by decide +kernel))
  have hl := lv_entry ([.ref q, .int p0, .long p1]) (n := 5) (Nat.le_of_ble_eq_true rfl)
  rw [lg_entry_eq]
  generalize (lg_sl ([.ref q, .int p0, .long p1]) ++ List.replicate (5 - (lg_sl ([.ref q, .int p0, .long p1])).length) Slot.unset).toArray = ls at hl ⊢
  have hl : lv_has ls 5 [(0, .ref q), (1, .int p0), (2, .long p1)] := hl
  have hS : va_S (fIv q 201) s.heap s.heap [] := va_S.rf
  refine lv_aload_n hx hb dL_script_0 rfl (lv_at hl 0 rfl) ?_
  refine lv_iload_n hx hb dL_script_1 rfl (lv_at hl 1 rfl) ?_
  refine lv_lload_n hx hb dL_script_2 rfl (lv_at hl 2 rfl) ?_
  refine vx_calli (vx_runV (As := [.int p0, .long p1]) (rest := []) ⟨hx, hb, hml, hown, hts⟩ (kX4_runScript l D cI cC cZ cQ cJ t lo q G p0 p1 hlo hlS h0) (cwV 2 hts gL_script_X4_runScript rfl rfl rfl (by decide +kernel) ⟨Nat.le_of_ble_eq_true rfl, Nat.le_of_ble_eq_true rfl⟩) ⟨gBe_blind, va_recv hK hP (ci := 4) (q0 := 0) rfl rfl, fun U hU hW => ⟨rfl, ⟨by rw [hU]; exact hP, va_K.moved hW.alike hK⟩, by rw [hU]; exact hE.1.warm hW⟩⟩ rfl rfl hl.1 rfl (lv_room (Nat.le_of_ble_eq_true rfl)) dL_script_3 ⟨Nat.le_of_ble_eq_true rfl, Nat.le_of_ble_eq_true rfl⟩) hS (fun q9 _ h9 => h9) (fun q9 h9 => h9) (fun q9 _ h9 => h9) (fun E ce q9 u t9 H1 locs ht hvm hu hBX hz hk1 hS hce hcv hcl => ?_) (fun r u t9 H1 locs ht hvm hw hB hz hk1 hS => ?_)
  · obtain ⟨hEq, hne, hB⟩ := hBX
    rw [ht] at hB
    obtain ⟨hc, rfl⟩ := gmx_no h1 hne
    rcases hc with hc | hc 
    · have hEq : E = gIAE := by rw [hEq, hc]; rfl
      subst hEq
      refine vx_catch (name := gIAE) hown [] ⟨0, 7, 8, 15⟩ [] (by rw [htb]; rfl) (fun z9 hz9 => nomatch hz9) (by decide) (by decide) (hts (.classLink RL 15 gIAE) (by decide +kernel)) (va_Nw.use rfl (hE.1.2.2.2.2.1 gIAE (by decide +kernel))) hce hcv hcl ?_
      refine lv_astore (lv' := [(4, .ref q9), (0, .ref q), (1, .int p0), (2, .long p1)]) hx hb dL_script_8 hl (by decide) rfl (fun ls hl => ?_)
      refine lv_ldc2 (v := (-9000000000000000002)) hx hb hown (hts (.constantLong RL 17 (-9000000000000000002)) (by decide +kernel)) dL_script_10 ?_
      exact W.lret (v := (-9000000000000000002)) hx hb hr (fun t ht hW => ⟨⟨_, (), rfl, by rw [hc]; rfl, by show va_P D vwCl _ t.heap; rw [ht]; exact hB⟩, hS.F ht⟩) hS.2.2 dL_script_13
    · exact absurd rfl hc.2
  · obtain ⟨hw0, rfl⟩ := hw
    rw [ht] at hB
    obtain rfl := gmx_yes h1 hw0
    generalize H1 = H at hB hS ⊢
    refine lv_i2l hx hb dL_script_6 rfl ?_
    exact W.lret (v := R0.2.1.toInt64) hx hb hr (fun t ht hW => ⟨⟨_, (), rfl, rfl, by show va_P D vwCl _ t.heap; rw [ht]; exact hB⟩, hS.F ht⟩) hS.2.2 dL_script_7
set_option maxHeartbeats 4000000 in
set_option maxRecDepth 100000 in
theorem kL_simulate (l : Launch) (D : va_G) (cI cC cZ cQ cJ : ClassId) (t lo q : Nat) (G : GSt) (p0 : Int64) (p1 : Int32) (hlo : lo ≤ q) (hlS : l.stackTraces = false) {R : Int64 × GSt} (h : fL_simulate G p0 p1 = some R) : Met l yL_simulate wsL_simulate ({ frames := 7, cells := 1, slots := 6, locals := 134 } : Room) (va_Pc [.ref q, .long p0, .int p1] (gBw D (gTy cI cC cZ cQ cJ) t lo (va_P D vwCl (GW cI cC cZ cQ q G)))) (va_Ql (fun r (_ : Unit) => r = R.1) (fun _ t => va_P D vwCl (GW cI cC cZ cQ q R.2) t.heap) (fIv q 201)) 1 6 (fIv q 201) := by
  unfold fL_simulate at h
  obtain ⟨R0, h0, h1⟩ := bd_some h
  refine gMet_ofWH (cc := cL_simulate) (maxL := 5) (ret := (some .long)) (hh := [(0, 7, 8, 15)]) (by decide) rfl ?_
  intro p e s m args below meth c s₁ B hml hv
  obtain ⟨rfl, ⟨hP, hK⟩, hE⟩ := hv
  have hx := B.exec
  have hb := B.bytes
  have hr := B.returns
  have hts := atoms_spec (ws := wsL_simulate) B.pre
  have hown : s.vm.findClass RL = some m.cls := findClass_of_methodNamed B.named
  have hlocks := B.notSynchronized
  have htb : c.exceptionTable.toList = tableOf [(0, 7, 8, 15)] := vx_table (x := yL_simulate) B (hts (.codeWith yL_simulate cL_simulate 5 (some .long) [(0, 7, 8, 15)]) (by decide +kernel))
  have hl := lv_entry ([.ref q, .long p0, .int p1]) (n := 5) (Nat.le_of_ble_eq_true rfl)
  rw [lg_entry_eq]
  generalize (lg_sl ([.ref q, .long p0, .int p1]) ++ List.replicate (5 - (lg_sl ([.ref q, .long p0, .int p1])).length) Slot.unset).toArray = ls at hl ⊢
  have hl : lv_has ls 5 [(0, .ref q), (1, .long p0), (3, .int p1)] := hl
  have hS : va_S (fIv q 201) s.heap s.heap [] := va_S.rf
  refine lv_aload_n hx hb dL_simulate_0 rfl (lv_at hl 0 rfl) ?_
  refine lv_lload_n hx hb dL_simulate_1 rfl (lv_at hl 1 rfl) ?_
  refine lv_iload_n hx hb dL_simulate_2 rfl (lv_at hl 2 rfl) ?_
  refine vx_calli (vx_runV (As := [.long p0, .int p1]) (rest := []) ⟨hx, hb, hml, hown, hts⟩ (kX4_simulate l D cI cC cZ cQ cJ t lo q G p0 p1 hlo hlS h0) (cwV 2 hts gL_simulate_X4_simulate rfl rfl rfl (by decide +kernel) ⟨Nat.le_of_ble_eq_true rfl, Nat.le_of_ble_eq_true rfl⟩) ⟨gBe_blind, va_recv hK hP (ci := 4) (q0 := 0) rfl rfl, fun U hU hW => ⟨rfl, ⟨by rw [hU]; exact hP, va_K.moved hW.alike hK⟩, by rw [hU]; exact hE.1.warm hW⟩⟩ rfl rfl hl.1 rfl (lv_room (Nat.le_of_ble_eq_true rfl)) dL_simulate_3 ⟨Nat.le_of_ble_eq_true rfl, Nat.le_of_ble_eq_true rfl⟩) hS (fun q9 _ h9 => h9) (fun q9 h9 => h9) (fun q9 _ h9 => h9) (fun E ce q9 u t9 H1 locs ht hvm hu hBX hz hk1 hS hce hcv hcl => ?_) (fun r u t9 H1 locs ht hvm hw hB hz hk1 hS => ?_)
  · obtain ⟨hEq, hne, hB⟩ := hBX
    rw [ht] at hB
    obtain ⟨hc, rfl⟩ := gmx_no h1 hne
    rcases hc with hc | hc 
    · have hEq : E = gIAE := by rw [hEq, hc]; rfl
      subst hEq
      refine vx_catch (name := gIAE) hown [] ⟨0, 7, 8, 15⟩ [] (by rw [htb]; rfl) (fun z9 hz9 => nomatch hz9) (by decide) (by decide) (hts (.classLink RL 15 gIAE) (by decide +kernel)) (va_Nw.use rfl (hE.1.2.2.2.2.1 gIAE (by decide +kernel))) hce hcv hcl ?_
      refine lv_astore (lv' := [(4, .ref q9), (0, .ref q), (1, .long p0), (3, .int p1)]) hx hb dL_simulate_8 hl (by decide) rfl (fun ls hl => ?_)
      refine lv_ldc2 (v := (-9000000000000000002)) hx hb hown (hts (.constantLong RL 17 (-9000000000000000002)) (by decide +kernel)) dL_simulate_10 ?_
      exact W.lret (v := (-9000000000000000002)) hx hb hr (fun t ht hW => ⟨⟨_, (), rfl, by rw [hc]; rfl, by show va_P D vwCl _ t.heap; rw [ht]; exact hB⟩, hS.F ht⟩) hS.2.2 dL_simulate_13
    · exact absurd rfl hc.2
  · obtain ⟨hw0, rfl⟩ := hw
    rw [ht] at hB
    obtain rfl := gmx_yes h1 hw0
    generalize H1 = H at hB hS ⊢
    refine lv_i2l hx hb dL_simulate_6 rfl ?_
    exact W.lret (v := R0.2.1.toInt64) hx hb hr (fun t ht hW => ⟨⟨_, (), rfl, rfl, by show va_P D vwCl _ t.heap; rw [ht]; exact hB⟩, hS.F ht⟩) hS.2.2 dL_simulate_7
set_option maxHeartbeats 4000000 in
set_option maxRecDepth 100000 in
theorem kL_save (l : Launch) (D : va_G) (cI cC cZ cQ cJ : ClassId) (t lo q : Nat) (G : GSt) (p0 : Int32) (hlo : lo ≤ q) (hlS : l.stackTraces = false) {R : Int64 × GSt} (h : fL_save G p0 = some R) : Met l yL_save wsL_save ({ frames := 7, cells := 1, slots := 6, locals := 105 } : Room) (va_Pc [.ref q, .int p0] (gBw D (gTy cI cC cZ cQ cJ) t lo (va_P D vwCl (GW cI cC cZ cQ q G)))) (va_Ql (fun r (_ : Unit) => r = R.1) (fun _ t => va_P D vwCl (GW cI cC cZ cQ q R.2) t.heap) (fIv q 201)) 1 6 (fIv q 201) := by
  unfold fL_save at h
  obtain ⟨R0, h0, h1⟩ := bd_some h
  refine gMet_ofWH (cc := cL_save) (maxL := 3) (ret := (some .long)) (hh := [(0, 6, 7, 34)]) (by decide) rfl ?_
  intro p e s m args below meth c s₁ B hml hv
  obtain ⟨rfl, ⟨hP, hK⟩, hE⟩ := hv
  have hx := B.exec
  have hb := B.bytes
  have hr := B.returns
  have hts := atoms_spec (ws := wsL_save) B.pre
  have hown : s.vm.findClass RL = some m.cls := findClass_of_methodNamed B.named
  have hlocks := B.notSynchronized
  have htb : c.exceptionTable.toList = tableOf [(0, 6, 7, 34)] := vx_table (x := yL_save) B (hts (.codeWith yL_save cL_save 3 (some .long) [(0, 6, 7, 34)]) (by decide +kernel))
  have hl := lv_entry ([.ref q, .int p0]) (n := 3) (Nat.le_of_ble_eq_true rfl)
  rw [lg_entry_eq]
  generalize (lg_sl ([.ref q, .int p0]) ++ List.replicate (3 - (lg_sl ([.ref q, .int p0])).length) Slot.unset).toArray = ls at hl ⊢
  have hl : lv_has ls 3 [(0, .ref q), (1, .int p0)] := hl
  have hS : va_S (fIv q 201) s.heap s.heap [] := va_S.rf
  refine lv_aload_n hx hb dL_save_0 rfl (lv_at hl 0 rfl) ?_
  refine lv_iload_n hx hb dL_save_1 rfl (lv_at hl 1 rfl) ?_
  refine vx_calli (vx_runV (As := [.int p0]) (rest := []) ⟨hx, hb, hml, hown, hts⟩ (kX4_save l D cI cC cZ cQ cJ t lo q G p0 hlo hlS h0) (cwV 1 hts gL_save_X4_save rfl rfl rfl (by decide +kernel) ⟨Nat.le_of_ble_eq_true rfl, Nat.le_of_ble_eq_true rfl⟩) ⟨gBe_blind, va_recv hK hP (ci := 4) (q0 := 0) rfl rfl, fun U hU hW => ⟨rfl, ⟨by rw [hU]; exact hP, va_K.moved hW.alike hK⟩, by rw [hU]; exact hE.1.warm hW⟩⟩ rfl rfl hl.1 rfl (lv_room (Nat.le_of_ble_eq_true rfl)) dL_save_2 ⟨Nat.le_of_ble_eq_true rfl, Nat.le_of_ble_eq_true rfl⟩) hS (fun q9 _ h9 => h9) (fun q9 h9 => h9) (fun q9 _ h9 => h9) (fun E ce q9 u t9 H1 locs ht hvm hu hBX hz hk1 hS hce hcv hcl => ?_) (fun r u t9 H1 locs ht hvm hw hB hz hk1 hS => ?_)
  · obtain ⟨hEq, hne, hB⟩ := hBX
    rw [ht] at hB
    obtain ⟨hc, rfl⟩ := gmx_no h1 hne
    rcases hc with hc | hc 
    · have hEq : E = gIOB := by rw [hEq, hc]; rfl
      subst hEq
      refine vx_catch (name := gIOB) hown [] ⟨0, 6, 7, 34⟩ [] (by rw [htb]; rfl) (fun z9 hz9 => nomatch hz9) (by decide) (by decide) (hts (.classLink RL 34 gIOB) (by decide +kernel)) (va_Nw.use rfl (hE.1.2.2.2.2.1 gIOB (by decide +kernel))) hce hcv hcl ?_
      refine lv_astore_n (lv' := [(2, .ref q9), (0, .ref q), (1, .int p0)]) hx hb dL_save_7 rfl hl (by decide) rfl (fun ls hl => ?_)
      refine lv_ldc2 (v := (-9000000000000000001)) hx hb hown (hts (.constantLong RL 36 (-9000000000000000001)) (by decide +kernel)) dL_save_8 ?_
      exact W.lret (v := (-9000000000000000001)) hx hb hr (fun t ht hW => ⟨⟨_, (), rfl, by rw [hc]; rfl, by show va_P D vwCl _ t.heap; rw [ht]; exact hB⟩, hS.F ht⟩) hS.2.2 dL_save_11
    · exact absurd rfl hc.2
  · obtain ⟨hw0, rfl⟩ := hw
    rw [ht] at hB
    obtain rfl := gmx_yes h1 hw0
    generalize H1 = H at hB hS ⊢
    refine lv_i2l hx hb dL_save_5 rfl ?_
    exact W.lret (v := R0.2.1.toInt64) hx hb hr (fun t ht hW => ⟨⟨_, (), rfl, rfl, by show va_P D vwCl _ t.heap; rw [ht]; exact hB⟩, hS.F ht⟩) hS.2.2 dL_save_6
set_option maxHeartbeats 4000000 in
set_option maxRecDepth 100000 in
theorem kL_restore (l : Launch) (D : va_G) (cI cC cZ cQ cJ : ClassId) (t lo q : Nat) (G : GSt) (p0 : Int32) (hlo : lo ≤ q) (hlS : l.stackTraces = false) {R : Int64 × GSt} (h : fL_restore G p0 = some R) : Met l yL_restore wsL_restore ({ frames := 7, cells := 1, slots := 6, locals := 105 } : Room) (va_Pc [.ref q, .int p0] (gBw D (gTy cI cC cZ cQ cJ) t lo (va_P D vwCl (GW cI cC cZ cQ q G)))) (va_Ql (fun r (_ : Unit) => r = R.1) (fun _ t => va_P D vwCl (GW cI cC cZ cQ q R.2) t.heap) (fIv q 201)) 1 6 (fIv q 201) := by
  unfold fL_restore at h
  obtain ⟨R0, h0, h1⟩ := bd_some h
  refine gMet_ofWH (cc := cL_restore) (maxL := 3) (ret := (some .long)) (hh := [(0, 6, 7, 34), (0, 6, 12, 19)]) (by decide) rfl ?_
  intro p e s m args below meth c s₁ B hml hv
  obtain ⟨rfl, ⟨hP, hK⟩, hE⟩ := hv
  have hx := B.exec
  have hb := B.bytes
  have hr := B.returns
  have hts := atoms_spec (ws := wsL_restore) B.pre
  have hown : s.vm.findClass RL = some m.cls := findClass_of_methodNamed B.named
  have hlocks := B.notSynchronized
  have htb : c.exceptionTable.toList = tableOf [(0, 6, 7, 34), (0, 6, 12, 19)] := vx_table (x := yL_restore) B (hts (.codeWith yL_restore cL_restore 3 (some .long) [(0, 6, 7, 34), (0, 6, 12, 19)]) (by decide +kernel))
  have hl := lv_entry ([.ref q, .int p0]) (n := 3) (Nat.le_of_ble_eq_true rfl)
  rw [lg_entry_eq]
  generalize (lg_sl ([.ref q, .int p0]) ++ List.replicate (3 - (lg_sl ([.ref q, .int p0])).length) Slot.unset).toArray = ls at hl ⊢
  have hl : lv_has ls 3 [(0, .ref q), (1, .int p0)] := hl
  have hS : va_S (fIv q 201) s.heap s.heap [] := va_S.rf
  refine lv_aload_n hx hb dL_restore_0 rfl (lv_at hl 0 rfl) ?_
  refine lv_iload_n hx hb dL_restore_1 rfl (lv_at hl 1 rfl) ?_
  refine vx_calli (vx_runV (As := [.int p0]) (rest := []) ⟨hx, hb, hml, hown, hts⟩ (kX4_restore l D cI cC cZ cQ cJ t lo q G p0 hlo hlS h0) (cwV 1 hts gL_restore_X4_restore rfl rfl rfl (by decide +kernel) ⟨Nat.le_of_ble_eq_true rfl, Nat.le_of_ble_eq_true rfl⟩) ⟨gBe_blind, va_recv hK hP (ci := 4) (q0 := 0) rfl rfl, fun U hU hW => ⟨rfl, ⟨by rw [hU]; exact hP, va_K.moved hW.alike hK⟩, by rw [hU]; exact hE.1.warm hW⟩⟩ rfl rfl hl.1 rfl (lv_room (Nat.le_of_ble_eq_true rfl)) dL_restore_2 ⟨Nat.le_of_ble_eq_true rfl, Nat.le_of_ble_eq_true rfl⟩) hS (fun q9 _ h9 => h9) (fun q9 h9 => h9) (fun q9 _ h9 => h9) (fun E ce q9 u t9 H1 locs ht hvm hu hBX hz hk1 hS hce hcv hcl => ?_) (fun r u t9 H1 locs ht hvm hw hB hz hk1 hS => ?_)
  · obtain ⟨hEq, hne, hB⟩ := hBX
    rw [ht] at hB
    obtain ⟨hc, rfl⟩ := gmx_no h1 hne
    rcases hc with hc | hc 
    · have hEq : E = gIOB := by rw [hEq, hc]; rfl
      subst hEq
      refine vx_catch (name := gIOB) hown [] ⟨0, 6, 7, 34⟩ [⟨0, 6, 12, 19⟩] (by rw [htb]; rfl) (fun z9 hz9 => nomatch hz9) (by decide) (by decide) (hts (.classLink RL 34 gIOB) (by decide +kernel)) (va_Nw.use rfl (hE.1.2.2.2.2.1 gIOB (by decide +kernel))) hce hcv hcl ?_
      refine lv_astore_n (lv' := [(2, .ref q9), (0, .ref q), (1, .int p0)]) hx hb dL_restore_7 rfl hl (by decide) rfl (fun ls hl => ?_)
      refine lv_ldc2 (v := (-9000000000000000001)) hx hb hown (hts (.constantLong RL 36 (-9000000000000000001)) (by decide +kernel)) dL_restore_8 ?_
      exact W.lret (v := (-9000000000000000001)) hx hb hr (fun t ht hW => ⟨⟨_, (), rfl, by rw [hc]; rfl, by show va_P D vwCl _ t.heap; rw [ht]; exact hB⟩, hS.F ht⟩) hS.2.2 dL_restore_11
    · obtain ⟨hc, -⟩ := hc
      have hEq : E = gISE := by rw [hEq, hc]; rfl
      subst hEq
      refine vx_catch (name := gISE) hown [⟨0, 6, 7, 34⟩] ⟨0, 6, 12, 19⟩ [] (by rw [htb]; rfl) (fun z9 hz9 => by rw [List.mem_singleton.mp hz9]; exact Or.inr ⟨by decide, gIOB, hts (.classLink RL 34 gIOB) (by decide +kernel), hE.2 (gISE, gIOB) (by decide +kernel)⟩) (by decide) (by decide) (hts (.classLink RL 19 gISE) (by decide +kernel)) (va_Nw.use rfl (hE.1.2.2.2.2.1 gISE (by decide +kernel))) hce hcv hcl ?_
      refine lv_astore_n (lv' := [(2, .ref q9), (0, .ref q), (1, .int p0)]) hx hb dL_restore_12 rfl hl (by decide) rfl (fun ls hl => ?_)
      refine lv_ldc2 (v := (-9000000000000000003)) hx hb hown (hts (.constantLong RL 21 (-9000000000000000003)) (by decide +kernel)) dL_restore_13 ?_
      exact W.lret (v := (-9000000000000000003)) hx hb hr (fun t ht hW => ⟨⟨_, (), rfl, by rw [hc]; rfl, by show va_P D vwCl _ t.heap; rw [ht]; exact hB⟩, hS.F ht⟩) hS.2.2 dL_restore_16
  · obtain ⟨hw0, rfl⟩ := hw
    rw [ht] at hB
    obtain rfl := gmx_yes h1 hw0
    generalize H1 = H at hB hS ⊢
    refine lv_i2l hx hb dL_restore_5 rfl ?_
    exact W.lret (v := R0.2.1.toInt64) hx hb hr (fun t ht hW => ⟨⟨_, (), rfl, rfl, by show va_P D vwCl _ t.heap; rw [ht]; exact hB⟩, hS.F ht⟩) hS.2.2 dL_restore_6

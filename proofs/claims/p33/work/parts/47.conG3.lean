set_option maxHeartbeats 4000000 in
set_option maxRecDepth 100000 in
theorem kX4_slot (l : Launch) (D : va_G) (cI cC cZ cQ cJ : ClassId) (t lo : Nat) (q : Nat) (G : GSt) (p0 : Int32) (hlo : lo ≤ q) (hlS : l.stackTraces = false) {R : Nat × Int32 × GSt} (h : fX4_slot G p0 = some R) : vx_Met l yX4_slot wsX4_slot ({ frames := 6, cells := 1, slots := 6, locals := 82 } : Room) (va_Pc [.ref q, .int p0] (gBe D (gTy cI cC cZ cQ cJ) t lo (va_P D vwCl (GW cI cC cZ cQ q G)))) (va_Qi (fun r (_ : Unit) => R.1 = 0 ∧ r = R.2.1) (fun _ t => va_P D vwCl (GW cI cC cZ cQ q R.2.2) t.heap) (fIv q 201)) (vx_X (fun _ : Unit => True) (fun E _ t => E = gEx R.1 ∧ R.1 ≠ 0 ∧ va_P D vwCl (GW cI cC cZ cQ q R.2.2) t.heap) (fIv q 201)) 1 6 (fIv q 201) := by
  refine vx_ofW (cc := cX4_slot) (maxL := 2) (ret := (some .int)) (by decide) rfl ?_
  intro p e s m args below meth c s₁ B hml hnx hv
  obtain ⟨rfl, ⟨hP, hK⟩, hE⟩ := hv
  have hZ := hE.1
  have hx := B.exec
  have hb := B.bytes
  have hr := B.returns
  have hts := atoms_spec (ws := wsX4_slot) B.pre
  have hown : s.vm.findClass RX4 = some m.cls := findClass_of_methodNamed B.named
  have hlocks := B.notSynchronized
  have hinX4 : ∀ w ∈ wsX40, w ∈ wsX4_slot := by decide +kernel
  have hf10 := hts (.fieldLink RX4 10 "GripInspector" "lift" "LGripInspector$Lift;") (by decide +kernel)
  generalize hRM : (headSpec wsX4_slot ({ frames := 6, cells := 1, slots := 6, locals := 82 } : Room)).room = RM
  replace hRM : ({ frames := 6, cells := 1, slots := 6, locals := 82 } : Room) = RM := hRM
  subst hRM
  have hl := lv_entry ([.ref q, .int p0]) (n := 2) (Nat.le_of_ble_eq_true rfl)
  rw [lg_entry_eq]
  generalize (lg_sl ([.ref q, .int p0]) ++ List.replicate (2 - (lg_sl ([.ref q, .int p0])).length) Slot.unset).toArray = ls at hl ⊢
  have hl : lv_has ls 2 [(0, .ref q), (1, .int p0)] := hl
  have hS : va_S (fIv q 201) s.heap s.heap [] := va_S.rf
  unfold fX4_slot at h
  obtain ⟨H, hH⟩ : ∃ H, H = s.heap := ⟨_, rfl⟩
  obtain ⟨locs, hlz⟩ : ∃ z : List Loc, z = [] := ⟨_, rfl⟩
  have hP : va_P D vwCl (GW cI cC cZ cQ q G) H := by rw [hH]; exact hP
  have hS : va_S (fIv q 201) s.heap H locs := by rw [hH, hlz]; exact hS
  refine gc_at hH hlz ?_
  refine lv_aload_n hx hb dX4_slot_0 rfl (lv_at hl 0 rfl) ?_
  refine va_get (D := D) (ci := 4) (v := .ref (q + 1)) (C := RX4) (T := TX4) (N := 9) hx hb hts hinX4 hown hK hP 0 rfl rfl 0 (by decide) hf10 (fun _ h9 => h9) rfl dX4_slot_1 ?_
  refine lv_iload_n hx hb dX4_slot_4 rfl (lv_at hl 1 rfl) ?_
  obtain ⟨r5, hr5, h⟩ := bd_some h
  refine gc_ri (As := [.int p0]) (rest := []) ⟨hx, hb, hml, hown, hts⟩ hK (kX0_hasSlot l D cI cC cZ cQ cJ (q + 1) (gLift G) p0 hr5) (cwV 1 hts gX4_slot_X0_hasSlot rfl rfl rfl (by decide +kernel) ⟨Nat.le_of_ble_eq_true rfl, Nat.le_of_ble_eq_true rfl⟩) (va_recv hK (GW_lift (G := G) hP) (ci := 0) (q0 := 0) rfl rfl) (GW_lift (G := G) hP) rfl hl.1 rfl (Nat.le_of_ble_eq_true rfl) ⟨Nat.zero_le _, Nat.zero_le _⟩ dX4_slot_5 ?_
  refine lv_if_ne (tgt := 21) hx hb dX4_slot_8 (by decide) (fun c1 => ?_) (fun c1 => ?_)
  · replace h := (if_neg c1).symm.trans h
    refine lv_aload_n hx hb dX4_slot_21 rfl (lv_at hl 0 rfl) ?_
    refine va_get (D := D) (ci := 4) (v := .ref (q + 1)) (C := RX4) (T := TX4) (N := 9) hx hb hts hinX4 hown hK hP 0 rfl rfl 0 (by decide) hf10 (fun _ h9 => h9) rfl dX4_slot_22 ?_
    refine lv_iload_n hx hb dX4_slot_25 rfl (lv_at hl 1 rfl) ?_
    obtain ⟨r26, hr26, h⟩ := bd_some h
    refine gc_ri (As := [.int p0]) (rest := []) ⟨hx, hb, hml, hown, hts⟩ hK (kX0_gripAt l D cI cC cZ cQ cJ (q + 1) (gLift G) p0 hr26) (cwV 1 hts gX4_slot_X0_gripAt rfl rfl rfl (by decide +kernel) ⟨Nat.le_of_ble_eq_true rfl, Nat.le_of_ble_eq_true rfl⟩) (va_recv hK (GW_lift (G := G) hP) (ci := 0) (q0 := 0) rfl rfl) (GW_lift (G := G) hP) rfl hl.1 rfl (Nat.le_of_ble_eq_true rfl) ⟨Nat.zero_le _, Nat.zero_le _⟩ dX4_slot_26 ?_
    have h := Option.some.inj h
    subst h
    refine vx_ret ?_
    refine W.widen (k := 1) (n := 6) (by decide) (by decide) ?_
    exact W.iret (v := r26) hx hb hr (fun t ht hW => ⟨⟨_, (), rfl, ⟨rfl, rfl⟩, gh ht hP⟩, hS.F ht⟩) hS.2.2 dX4_slot_29
  · replace h := (if_pos c1).symm.trans h
    have h := Option.some.inj h
    subst h
    obtain ⟨sa, hsa⟩ := hE.2.2.2.1 (141, "no such slot") (by decide +kernel)
    exact vx_throwS hx hb hlS (own := RX4) (cls := gIOB) (names := gNm) (A := (fIv q 201)) hown (by decide +kernel) (by decide +kernel) (hts (.classLink RX4 124 gIOB) (by decide +kernel)) (hts (.initialized gIOB) (by decide +kernel)) hsa (vx_hat (fun w hw => hts w (List.mem_cons_of_mem _ (List.mem_append_right _ hw))) gx_ng_IOB (vx_c (va_Nw.use rfl (hE.2.2.2.2.1 gIOB (by decide +kernel))) (vx_c (va_Nw.use rfl (hE.2.2.2.2.2 _ (List.mem_cons_self))) (vx_c (va_Nw.use rfl (hE.2.2.2.2.2 _ (List.mem_cons_of_mem _ List.mem_cons_self))) (vx_c (va_Nw.use rfl (hE.2.2.2.2.2 _ (List.mem_cons_of_mem _ (List.mem_cons_of_mem _ List.mem_cons_self)))) vx_n))))) gx_ot_IOB (hE.2.1.narrow (fun _ h => Nat.le_trans hlo h.1)) (hE.2.2.1.narrow (fun _ h => Nat.le_trans hlo h.1)) hS (hl.1.trans hml.symm) dX4_slot_11 dX4_slot_14 dX4_slot_15 dX4_slot_17 dX4_slot_20 (fun x9 hx9 => (hnx x9 hx9).elim) (by decide) (by decide) (by decide) (by decide) hlocks (fun t9 hv9 hz9 hk9 => ⟨(), trivial, ⟨rfl, Nat.succ_ne_zero 2, (gx_end hP hS t9 hz9 hk9).1⟩, (gx_end hP hS t9 hz9 hk9).2⟩) hS.2.2 (by decide) (by decide)
set_option maxHeartbeats 4000000 in
set_option maxRecDepth 100000 in
theorem kX4_random (l : Launch) (D : va_G) (cI cC cZ cQ cJ : ClassId) (q : Nat) (G : GSt) {R : Int64} (h : fX4_random G = some R) : Met l yX4_random wsX4_random ({ frames := 0, cells := 0, slots := 0, locals := 0 } : Room) (va_Pc [.ref q] (gB D (gTy cI cC cZ cQ cJ) (va_P D vwCl (GW cI cC cZ cQ q G)))) (vp_Sl (fun r => r = R)) 0 0 (fun _ => False) := by
  refine Met.ofW (cc := cX4_random) (maxL := 1) (ret := (some .long)) (by decide) rfl ?_
  intro p e s m args below meth c s₁ B hml hv
  obtain ⟨rfl, hP, hK⟩ := hv
  have hx := B.exec
  have hb := B.bytes
  have hr := B.returns
  have hts := atoms_spec (ws := wsX4_random) B.pre
  have hown : s.vm.findClass RX4 = some m.cls := findClass_of_methodNamed B.named
  have hlocks := B.notSynchronized
  have hinX4 : ∀ w ∈ wsX40, w ∈ wsX4_random := by decide +kernel
  have hinX0 : ∀ w ∈ wsX00, w ∈ wsX4_random := by decide +kernel
  have hf10 := hts (.fieldLink RX4 10 "GripInspector" "lift" "LGripInspector$Lift;") (by decide +kernel)
  have hf146 := hts (.fieldLink RX4 146 "GripInspector$Lift" "randomState" "J") (by decide +kernel)
  generalize hRM : (headSpec wsX4_random ({ frames := 0, cells := 0, slots := 0, locals := 0 } : Room)).room = RM
  replace hRM : ({ frames := 0, cells := 0, slots := 0, locals := 0 } : Room) = RM := hRM
  subst hRM
  have hl := lv_entry ([.ref q]) (n := 1) (Nat.le_of_ble_eq_true rfl)
  rw [lg_entry_eq]
  generalize (lg_sl ([.ref q]) ++ List.replicate (1 - (lg_sl ([.ref q])).length) Slot.unset).toArray = ls at hl ⊢
  have hl : lv_has ls 1 [(0, .ref q)] := hl
  unfold fX4_random at h
  refine lv_aload_n hx hb dX4_random_0 rfl (lv_at hl 0 rfl) ?_
  refine va_get (D := D) (ci := 4) (v := .ref (q + 1)) (C := RX4) (T := TX4) (N := 9) hx hb hts hinX4 hown hK hP 0 rfl rfl 0 (by decide) hf10 (fun _ h9 => h9) rfl dX4_random_1 ?_
  refine va_get (D := D) (ci := 0) (v := .long (lRnd (gLift G))) (C := RX0) (T := TX0) (N := 13) hx hb hts hinX0 hown hK hP 1 rfl rfl 12 (by decide) hf146 (fun _ h9 => h9) rfl dX4_random_4 ?_
  have h := Option.some.inj h
  exact W.lret (v := (lRnd (gLift G))) hx hb hr (fun t ht hW => ⟨_, rfl, h, ht⟩) t_nil dX4_random_7
set_option maxHeartbeats 4000000 in
set_option maxRecDepth 100000 in
theorem kX4_report (l : Launch) (D : va_G) (cI cC cZ cQ cJ : ClassId) (t lo : Nat) (q : Nat) (G : GSt) (p0 : Int32) (hlo : lo ≤ q) (hlS : l.stackTraces = false) {R : Nat × Int32 × GSt} (h : fX4_report G p0 = some R) : vx_Met l yX4_report wsX4_report ({ frames := 6, cells := 1, slots := 6, locals := 86 } : Room) (va_Pc [.ref q, .int p0] (gBe D (gTy cI cC cZ cQ cJ) t lo (va_P D vwCl (GW cI cC cZ cQ q G)))) (va_Qi (fun r (_ : Unit) => R.1 = 0 ∧ r = R.2.1) (fun _ t => va_P D vwCl (GW cI cC cZ cQ q R.2.2) t.heap) (fIv q 201)) (vx_X (fun _ : Unit => True) (fun E _ t => E = gEx R.1 ∧ R.1 ≠ 0 ∧ va_P D vwCl (GW cI cC cZ cQ q R.2.2) t.heap) (fIv q 201)) 1 6 (fIv q 201) := by
  refine vx_ofW (cc := cX4_report) (maxL := 2) (ret := (some .int)) (by decide) rfl ?_
  intro p e s m args below meth c s₁ B hml hnx hv
  obtain ⟨rfl, ⟨hP, hK⟩, hE⟩ := hv
  have hZ := hE.1
  have hx := B.exec
  have hb := B.bytes
  have hr := B.returns
  have hts := atoms_spec (ws := wsX4_report) B.pre
  have hown : s.vm.findClass RX4 = some m.cls := findClass_of_methodNamed B.named
  have hlocks := B.notSynchronized
  have hinX4 : ∀ w ∈ wsX40, w ∈ wsX4_report := by decide +kernel
  have hf10 := hts (.fieldLink RX4 10 "GripInspector" "lift" "LGripInspector$Lift;") (by decide +kernel)
  have hf29 := hts (.fieldLink RX4 29 "GripInspector" "summary" "LGripInspector$Signs;") (by decide +kernel)
  generalize hRM : (headSpec wsX4_report ({ frames := 6, cells := 1, slots := 6, locals := 86 } : Room)).room = RM
  replace hRM : ({ frames := 6, cells := 1, slots := 6, locals := 86 } : Room) = RM := hRM
  subst hRM
  have hl := lv_entry ([.ref q, .int p0]) (n := 2) (Nat.le_of_ble_eq_true rfl)
  rw [lg_entry_eq]
  generalize (lg_sl ([.ref q, .int p0]) ++ List.replicate (2 - (lg_sl ([.ref q, .int p0])).length) Slot.unset).toArray = ls at hl ⊢
  have hl : lv_has ls 2 [(0, .ref q), (1, .int p0)] := hl
  have hS : va_S (fIv q 201) s.heap s.heap [] := va_S.rf
  unfold fX4_report at h
  obtain ⟨H, hH⟩ : ∃ H, H = s.heap := ⟨_, rfl⟩
  obtain ⟨locs, hlz⟩ : ∃ z : List Loc, z = [] := ⟨_, rfl⟩
  have hP : va_P D vwCl (GW cI cC cZ cQ q G) H := by rw [hH]; exact hP
  have hS : va_S (fIv q 201) s.heap H locs := by rw [hH, hlz]; exact hS
  refine gc_at hH hlz ?_
  refine lv_iload_n hx hb dX4_report_0 rfl (lv_at hl 1 rfl) ?_
  refine lv_if_ge (tgt := 14) hx hb dX4_report_1 (by decide) (fun c1 => ?_) (fun c1 => ?_)
  · replace h := (if_pos c1).symm.trans h
    refine lv_aload_n hx hb dX4_report_14 rfl (lv_at hl 0 rfl) ?_
    refine va_get (D := D) (ci := 4) (v := .ref (q + 1)) (C := RX4) (T := TX4) (N := 9) hx hb hts hinX4 hown hK hP 0 rfl rfl 0 (by decide) hf10 (fun _ h9 => h9) rfl dX4_report_15 ?_
    refine lv_aload_n hx hb dX4_report_18 rfl (lv_at hl 0 rfl) ?_
    refine va_get (D := D) (ci := 4) (v := .ref (q + 34)) (C := RX4) (T := TX4) (N := 9) hx hb hts hinX4 hown hK hP 0 rfl rfl 3 (by decide) hf29 (fun _ h9 => h9) rfl dX4_report_19 ?_
    obtain ⟨r22, hr22, h⟩ := bd_some h
    refine gc_wv (As := [.ref (q + 34)]) (rest := []) (B := va_P D vwCl (LGW cI cC (q + 1) (q + 34) ((gLift G), (gSum G)))) (B' := va_P D vwCl (LGW cI cC (q + 1) (q + 34) r22)) ⟨hx, hb, hml, hown, hts⟩ hK (kX0_describe l D cI cC cZ cQ cJ (q + 1) (q + 34) ((gLift G), (gSum G)) (by omega) hr22) (cwV 1 hts gX4_report_X0_describe rfl rfl rfl (by decide +kernel) ⟨Nat.le_of_ble_eq_true rfl, Nat.le_of_ble_eq_true rfl⟩) (va_recv hK (GW_lift (G := G) hP) (ci := 0) (q0 := 0) rfl rfl) (va_P.app (GW_lift (G := G) hP) (GW_sum (G := G) hP)) hS GW_inLS rfl hl.1 rfl (Nat.le_of_ble_eq_true rfl) ⟨Nat.zero_le _, Nat.zero_le _⟩ dX4_report_22 (fun H1 locs hB1 hS _ hk1 => ?_)
    have hP : va_P D vwCl (GW cI cC cZ cQ q (r22.1, (gTrial G), (gTxt G), r22.2, (gHis G), (gSav G), (gSvd G), (gRem G), (gNxt G))) H1 := GW_putLS (G := G) hP (gL hB1) (gR hB1) (fun a hl n1 n2 => hk1 a hl (fun z => z.elim n1 n2))
    generalize H1 = H at hP hS ⊢
    refine lv_aload_n hx hb dX4_report_25 rfl (lv_at hl 0 rfl) ?_
    refine va_get (D := D) (ci := 4) (v := .ref (q + 34)) (C := RX4) (T := TX4) (N := 9) hx hb hts hinX4 hown hK hP 0 rfl rfl 3 (by decide) hf29 (fun _ h9 => h9) rfl dX4_report_26 ?_
    refine lv_iload_n hx hb dX4_report_29 rfl (lv_at hl 1 rfl) ?_
    obtain ⟨r30, hr30, h⟩ := bd_some h
    refine gc_ri (As := [.int p0]) (rest := []) ⟨hx, hb, hml, hown, hts⟩ hK (kX3_at l D cI cC cZ cQ cJ (q + 34) r22.2 p0 hr30) (cwV 1 hts gX4_report_X3_at rfl rfl rfl (by decide +kernel) ⟨Nat.le_of_ble_eq_true rfl, Nat.le_of_ble_eq_true rfl⟩) (va_recv hK (GW_sum (G := (r22.1, (gTrial G), (gTxt G), r22.2, (gHis G), (gSav G), (gSvd G), (gRem G), (gNxt G))) hP) (ci := 3) (q0 := 0) rfl rfl) (GW_sum (G := (r22.1, (gTrial G), (gTxt G), r22.2, (gHis G), (gSav G), (gSvd G), (gRem G), (gNxt G))) hP) rfl hl.1 rfl (Nat.le_of_ble_eq_true rfl) ⟨Nat.zero_le _, Nat.zero_le _⟩ dX4_report_30 ?_
    have h := Option.some.inj h
    subst h
    refine vx_ret ?_
    refine W.widen (k := 1) (n := 6) (by decide) (by decide) ?_
    exact W.iret (v := r30) hx hb hr (fun t ht hW => ⟨⟨_, (), rfl, ⟨rfl, rfl⟩, gh ht hP⟩, hS.F ht⟩) hS.2.2 dX4_report_33
  · replace h := (if_neg c1).symm.trans h
    have h := Option.some.inj h
    subst h
    obtain ⟨sa, hsa⟩ := hE.2.2.2.1 (150, "i is negative") (by decide +kernel)
    exact vx_throwS hx hb hlS (own := RX4) (cls := gIAE) (names := gNm) (A := (fIv q 201)) hown (by decide +kernel) (by decide +kernel) (hts (.classLink RX4 56 gIAE) (by decide +kernel)) (hts (.initialized gIAE) (by decide +kernel)) hsa (vx_hat (fun w hw => hts w (List.mem_cons_of_mem _ (List.mem_append_right _ hw))) gx_ng_IAE (vx_c (va_Nw.use rfl (hE.2.2.2.2.1 gIAE (by decide +kernel))) (vx_c (va_Nw.use rfl (hE.2.2.2.2.2 _ (List.mem_cons_self))) (vx_c (va_Nw.use rfl (hE.2.2.2.2.2 _ (List.mem_cons_of_mem _ List.mem_cons_self))) (vx_c (va_Nw.use rfl (hE.2.2.2.2.2 _ (List.mem_cons_of_mem _ (List.mem_cons_of_mem _ List.mem_cons_self)))) vx_n))))) gx_ot_IAE (hE.2.1.narrow (fun _ h => Nat.le_trans hlo h.1)) (hE.2.2.1.narrow (fun _ h => Nat.le_trans hlo h.1)) hS (hl.1.trans hml.symm) dX4_report_4 dX4_report_7 dX4_report_8 dX4_report_10 dX4_report_13 (fun x9 hx9 => (hnx x9 hx9).elim) (by decide) (by decide) (by decide) (by decide) hlocks (fun t9 hv9 hz9 hk9 => ⟨(), trivial, ⟨rfl, Nat.succ_ne_zero 0, (gx_end hP hS t9 hz9 hk9).1⟩, (gx_end hP hS t9 hz9 hk9).2⟩) hS.2.2 (by decide) (by decide)
set_option maxHeartbeats 4000000 in
set_option maxRecDepth 100000 in
theorem kX4_step (l : Launch) (D : va_G) (cI cC cZ cQ cJ : ClassId) (t lo : Nat) (q : Nat) (G : GSt) (p0 : Int32) (hlo : lo ≤ q) (hlS : l.stackTraces = false) {R : Nat × Int32 × GSt} (h : fX4_step G p0 = some R) : vx_Met l yX4_step wsX4_step ({ frames := 6, cells := 1, slots := 6, locals := 111 } : Room) (va_Pc [.ref q, .int p0] (gBe D (gTy cI cC cZ cQ cJ) t lo (va_P D vwCl (GW cI cC cZ cQ q G)))) (va_Qi (fun r (_ : Unit) => R.1 = 0 ∧ r = R.2.1) (fun _ t => va_P D vwCl (GW cI cC cZ cQ q R.2.2) t.heap) (fIv q 201)) (vx_X (fun _ : Unit => True) (fun E _ t => E = gEx R.1 ∧ R.1 ≠ 0 ∧ va_P D vwCl (GW cI cC cZ cQ q R.2.2) t.heap) (fIv q 201)) 1 6 (fIv q 201) := by
  refine vx_ofW (cc := cX4_step) (maxL := 2) (ret := (some .int)) (by decide) rfl ?_
  intro p e s m args below meth c s₁ B hml hnx hv
  obtain ⟨rfl, ⟨hP, hK⟩, hE⟩ := hv
  have hZ := hE.1
  have hx := B.exec
  have hb := B.bytes
  have hr := B.returns
  have hts := atoms_spec (ws := wsX4_step) B.pre
  have hown : s.vm.findClass RX4 = some m.cls := findClass_of_methodNamed B.named
  have hlocks := B.notSynchronized
  have hinX4 : ∀ w ∈ wsX40, w ∈ wsX4_step := by decide +kernel
  have hf10 := hts (.fieldLink RX4 10 "GripInspector" "lift" "LGripInspector$Lift;") (by decide +kernel)
  generalize hRM : (headSpec wsX4_step ({ frames := 6, cells := 1, slots := 6, locals := 111 } : Room)).room = RM
  replace hRM : ({ frames := 6, cells := 1, slots := 6, locals := 111 } : Room) = RM := hRM
  subst hRM
  have hl := lv_entry ([.ref q, .int p0]) (n := 2) (Nat.le_of_ble_eq_true rfl)
  rw [lg_entry_eq]
  generalize (lg_sl ([.ref q, .int p0]) ++ List.replicate (2 - (lg_sl ([.ref q, .int p0])).length) Slot.unset).toArray = ls at hl ⊢
  have hl : lv_has ls 2 [(0, .ref q), (1, .int p0)] := hl
  have hS : va_S (fIv q 201) s.heap s.heap [] := va_S.rf
  unfold fX4_step at h
  obtain ⟨H, hH⟩ : ∃ H, H = s.heap := ⟨_, rfl⟩
  obtain ⟨locs, hlz⟩ : ∃ z : List Loc, z = [] := ⟨_, rfl⟩
  have hP : va_P D vwCl (GW cI cC cZ cQ q G) H := by rw [hH]; exact hP
  have hS : va_S (fIv q 201) s.heap H locs := by rw [hH, hlz]; exact hS
  refine gc_at hH hlz ?_
  refine lv_iload_n hx hb dX4_step_0 rfl (lv_at hl 1 rfl) ?_
  obtain ⟨r1, hr1, h⟩ := bd_some h
  refine gc_si (As := [.int p0]) (rest := []) ⟨hx, hb, hml, hown, hts⟩ hK (kX4_isStepNumber l D cI cC cZ cQ cJ p0 hr1) (va_cwS 1 hts gX4_step_X4_isStepNumber rfl rfl rfl (by decide +kernel) ⟨Nat.le_of_ble_eq_true rfl, Nat.le_of_ble_eq_true rfl⟩)  trivial rfl hl.1 rfl (Nat.le_of_ble_eq_true rfl) ⟨Nat.zero_le _, Nat.zero_le _⟩ dX4_step_1 ?_
  refine lv_if_ne (tgt := 17) hx hb dX4_step_4 (by decide) (fun c1 => ?_) (fun c1 => ?_)
  · replace h := (if_neg c1).symm.trans h
    refine lv_aload_n hx hb dX4_step_17 rfl (lv_at hl 0 rfl) ?_
    obtain ⟨r18, hr18, h⟩ := bd_some h
    refine gc_wv (As := []) (rest := []) ⟨hx, hb, hml, hown, hts⟩ hK (kX4_remember l D cI cC cZ cQ cJ q G hr18) (cwV 0 hts gX4_step_X4_remember rfl rfl rfl (by decide +kernel) ⟨Nat.le_of_ble_eq_true rfl, Nat.le_of_ble_eq_true rfl⟩) (va_recv hK hP (ci := 4) (q0 := 0) rfl rfl) hP hS (fun _ h => h) rfl hl.1 rfl (Nat.le_of_ble_eq_true rfl) ⟨Nat.zero_le _, Nat.zero_le _⟩ dX4_step_18 (fun H locs hP hS _ _ => ?_)
    refine lv_aload_n hx hb dX4_step_21 rfl (lv_at hl 0 rfl) ?_
    refine va_get (D := D) (ci := 4) (v := .ref (q + 1)) (C := RX4) (T := TX4) (N := 9) hx hb hts hinX4 hown hK hP 0 rfl rfl 0 (by decide) hf10 (fun _ h9 => h9) rfl dX4_step_22 ?_
    refine lv_iload_n hx hb dX4_step_25 rfl (lv_at hl 1 rfl) ?_
    obtain ⟨r26, hr26, h⟩ := bd_some h
    refine gc_wv (As := [.int p0]) (rest := []) ⟨hx, hb, hml, hown, hts⟩ hK (kX0_advanceBy l D cI cC cZ cQ cJ (q + 1) (gLift r18) p0 hr26) (cwV 1 hts gX4_step_X0_advanceBy rfl rfl rfl (by decide +kernel) ⟨Nat.le_of_ble_eq_true rfl, Nat.le_of_ble_eq_true rfl⟩) (va_recv hK (GW_lift (G := r18) hP) (ci := 0) (q0 := 0) rfl rfl) (GW_lift (G := r18) hP) hS GW_inLift rfl hl.1 rfl (Nat.le_of_ble_eq_true rfl) ⟨Nat.zero_le _, Nat.zero_le _⟩ dX4_step_26 (fun H1 locs hP1 hS _ hk1 => ?_)
    have hP : va_P D vwCl (GW cI cC cZ cQ q (r26, (gTrial r18), (gTxt r18), (gSum r18), (gHis r18), (gSav r18), (gSvd r18), (gRem r18), (gNxt r18))) H1 := GW_putLift (G := r18) hP hP1 hk1
    generalize H1 = H at hP hS ⊢
    refine lv_aload_n hx hb dX4_step_29 rfl (lv_at hl 0 rfl) ?_
    refine va_get (D := D) (ci := 4) (v := .ref (q + 1)) (C := RX4) (T := TX4) (N := 9) hx hb hts hinX4 hown hK hP 0 rfl rfl 0 (by decide) hf10 (fun _ h9 => h9) rfl dX4_step_30 ?_
    refine lv_iconst (v := 2) hx hb dX4_step_33 (by decide) ?_
    obtain ⟨r34, hr34, h⟩ := bd_some h
    refine gc_ri (As := [.int 2]) (rest := []) ⟨hx, hb, hml, hown, hts⟩ hK (kX0_count l D cI cC cZ cQ cJ (q + 1) r26 2 hr34) (cwV 1 hts gX4_step_X0_count rfl rfl rfl (by decide +kernel) ⟨Nat.le_of_ble_eq_true rfl, Nat.le_of_ble_eq_true rfl⟩) (va_recv hK (GW_lift (G := (r26, (gTrial r18), (gTxt r18), (gSum r18), (gHis r18), (gSav r18), (gSvd r18), (gRem r18), (gNxt r18))) hP) (ci := 0) (q0 := 0) rfl rfl) (GW_lift (G := (r26, (gTrial r18), (gTxt r18), (gSum r18), (gHis r18), (gSav r18), (gSvd r18), (gRem r18), (gNxt r18))) hP) rfl hl.1 rfl (Nat.le_of_ble_eq_true rfl) ⟨Nat.zero_le _, Nat.zero_le _⟩ dX4_step_34 ?_
    have h := Option.some.inj h
    subst h
    refine vx_ret ?_
    refine W.widen (k := 1) (n := 6) (by decide) (by decide) ?_
    exact W.iret (v := r34) hx hb hr (fun t ht hW => ⟨⟨_, (), rfl, ⟨rfl, rfl⟩, gh ht hP⟩, hS.F ht⟩) hS.2.2 dX4_step_37
  · replace h := (if_pos c1).symm.trans h
    have h := Option.some.inj h
    subst h
    obtain ⟨sa, hsa⟩ := hE.2.2.2.1 (162, "m is not 1 to 99") (by decide +kernel)
    exact vx_throwS hx hb hlS (own := RX4) (cls := gIAE) (names := gNm) (A := (fIv q 201)) hown (by decide +kernel) (by decide +kernel) (hts (.classLink RX4 56 gIAE) (by decide +kernel)) (hts (.initialized gIAE) (by decide +kernel)) hsa (vx_hat (fun w hw => hts w (List.mem_cons_of_mem _ (List.mem_append_right _ hw))) gx_ng_IAE (vx_c (va_Nw.use rfl (hE.2.2.2.2.1 gIAE (by decide +kernel))) (vx_c (va_Nw.use rfl (hE.2.2.2.2.2 _ (List.mem_cons_self))) (vx_c (va_Nw.use rfl (hE.2.2.2.2.2 _ (List.mem_cons_of_mem _ List.mem_cons_self))) (vx_c (va_Nw.use rfl (hE.2.2.2.2.2 _ (List.mem_cons_of_mem _ (List.mem_cons_of_mem _ List.mem_cons_self)))) vx_n))))) gx_ot_IAE (hE.2.1.narrow (fun _ h => Nat.le_trans hlo h.1)) (hE.2.2.1.narrow (fun _ h => Nat.le_trans hlo h.1)) hS (hl.1.trans hml.symm) dX4_step_7 dX4_step_10 dX4_step_11 dX4_step_13 dX4_step_16 (fun x9 hx9 => (hnx x9 hx9).elim) (by decide) (by decide) (by decide) (by decide) hlocks (fun t9 hv9 hz9 hk9 => ⟨(), trivial, ⟨rfl, Nat.succ_ne_zero 0, (gx_end hP hS t9 hz9 hk9).1⟩, (gx_end hP hS t9 hz9 hk9).2⟩) hS.2.2 (by decide) (by decide)
set_option maxHeartbeats 4000000 in
set_option maxRecDepth 100000 in
theorem kX4_addGrip (l : Launch) (D : va_G) (cI cC cZ cQ cJ : ClassId) (t lo : Nat) (q : Nat) (G : GSt) (p0 : Int32) (hlo : lo ≤ q) (hlS : l.stackTraces = false) {R : Nat × Int32 × GSt} (h : fX4_addGrip G p0 = some R) : vx_Met l yX4_addGrip wsX4_addGrip ({ frames := 6, cells := 1, slots := 6, locals := 104 } : Room) (va_Pc [.ref q, .int p0] (gBe D (gTy cI cC cZ cQ cJ) t lo (va_P D vwCl (GW cI cC cZ cQ q G)))) (va_Qi (fun r (_ : Unit) => R.1 = 0 ∧ r = R.2.1) (fun _ t => va_P D vwCl (GW cI cC cZ cQ q R.2.2) t.heap) (fIv q 201)) (vx_X (fun _ : Unit => True) (fun E _ t => E = gEx R.1 ∧ R.1 ≠ 0 ∧ va_P D vwCl (GW cI cC cZ cQ q R.2.2) t.heap) (fIv q 201)) 1 6 (fIv q 201) := by
  refine vx_ofW (cc := cX4_addGrip) (maxL := 2) (ret := (some .int)) (by decide) rfl ?_
  intro p e s m args below meth c s₁ B hml hnx hv
  obtain ⟨rfl, ⟨hP, hK⟩, hE⟩ := hv
  have hZ := hE.1
  have hx := B.exec
  have hb := B.bytes
  have hr := B.returns
  have hts := atoms_spec (ws := wsX4_addGrip) B.pre
  have hown : s.vm.findClass RX4 = some m.cls := findClass_of_methodNamed B.named
  have hlocks := B.notSynchronized
  have hinX4 : ∀ w ∈ wsX40, w ∈ wsX4_addGrip := by decide +kernel
  have hf10 := hts (.fieldLink RX4 10 "GripInspector" "lift" "LGripInspector$Lift;") (by decide +kernel)
  generalize hRM : (headSpec wsX4_addGrip ({ frames := 6, cells := 1, slots := 6, locals := 104 } : Room)).room = RM
  replace hRM : ({ frames := 6, cells := 1, slots := 6, locals := 104 } : Room) = RM := hRM
  subst hRM
  have hl := lv_entry ([.ref q, .int p0]) (n := 2) (Nat.le_of_ble_eq_true rfl)
  rw [lg_entry_eq]
  generalize (lg_sl ([.ref q, .int p0]) ++ List.replicate (2 - (lg_sl ([.ref q, .int p0])).length) Slot.unset).toArray = ls at hl ⊢
  have hl : lv_has ls 2 [(0, .ref q), (1, .int p0)] := hl
  have hS : va_S (fIv q 201) s.heap s.heap [] := va_S.rf
  unfold fX4_addGrip at h
  obtain ⟨H, hH⟩ : ∃ H, H = s.heap := ⟨_, rfl⟩
  obtain ⟨locs, hlz⟩ : ∃ z : List Loc, z = [] := ⟨_, rfl⟩
  have hP : va_P D vwCl (GW cI cC cZ cQ q G) H := by rw [hH]; exact hP
  have hS : va_S (fIv q 201) s.heap H locs := by rw [hH, hlz]; exact hS
  refine gc_at hH hlz ?_
  refine lv_iload_n hx hb dX4_addGrip_0 rfl (lv_at hl 1 rfl) ?_
  refine lv_if_lt (tgt := 9) hx hb dX4_addGrip_1 (by decide) (fun c1 => ?_) (fun c1 => ?_)
  · replace h := (if_pos c1).symm.trans h
    have h := Option.some.inj h
    subst h
    obtain ⟨sa, hsa⟩ := hE.2.2.2.1 (170, "weight is not 0 to 3") (by decide +kernel)
    exact vx_throwS hx hb hlS (own := RX4) (cls := gIAE) (names := gNm) (A := (fIv q 201)) hown (by decide +kernel) (by decide +kernel) (hts (.classLink RX4 56 gIAE) (by decide +kernel)) (hts (.initialized gIAE) (by decide +kernel)) hsa (vx_hat (fun w hw => hts w (List.mem_cons_of_mem _ (List.mem_append_left _ (List.mem_append_right _ hw)))) gx_ng_IAE (vx_c (va_Nw.use rfl (hE.2.2.2.2.1 gIAE (by decide +kernel))) (vx_c (va_Nw.use rfl (hE.2.2.2.2.2 _ (List.mem_cons_self))) (vx_c (va_Nw.use rfl (hE.2.2.2.2.2 _ (List.mem_cons_of_mem _ List.mem_cons_self))) (vx_c (va_Nw.use rfl (hE.2.2.2.2.2 _ (List.mem_cons_of_mem _ (List.mem_cons_of_mem _ List.mem_cons_self)))) vx_n))))) gx_ot_IAE (hE.2.1.narrow (fun _ h => Nat.le_trans hlo h.1)) (hE.2.2.1.narrow (fun _ h => Nat.le_trans hlo h.1)) hS (hl.1.trans hml.symm) dX4_addGrip_9 dX4_addGrip_12 dX4_addGrip_13 dX4_addGrip_15 dX4_addGrip_18 (fun x9 hx9 => (hnx x9 hx9).elim) (by decide) (by decide) (by decide) (by decide) hlocks (fun t9 hv9 hz9 hk9 => ⟨(), trivial, ⟨rfl, Nat.succ_ne_zero 0, (gx_end hP hS t9 hz9 hk9).1⟩, (gx_end hP hS t9 hz9 hk9).2⟩) hS.2.2 (by decide) (by decide)
  · replace h := (if_neg c1).symm.trans h
    refine lv_iload_n hx hb dX4_addGrip_4 rfl (lv_at hl 1 rfl) ?_
    refine lv_iconst (v := 3) hx hb dX4_addGrip_5 (by decide) ?_
    refine lv_icmp_le (tgt := 19) hx hb dX4_addGrip_6 (by decide) (fun c2 => ?_) (fun c2 => ?_)
    · replace h := (if_pos c2).symm.trans h
      refine lv_aload_n hx hb dX4_addGrip_19 rfl (lv_at hl 0 rfl) ?_
      refine va_get (D := D) (ci := 4) (v := .ref (q + 1)) (C := RX4) (T := TX4) (N := 9) hx hb hts hinX4 hown hK hP 0 rfl rfl 0 (by decide) hf10 (fun _ h9 => h9) rfl dX4_addGrip_20 ?_
      obtain ⟨r23, hr23, h⟩ := bd_some h
      refine gc_ri (As := []) (rest := []) ⟨hx, hb, hml, hown, hts⟩ hK (kX0_isFull l D cI cC cZ cQ cJ (q + 1) (gLift G) hr23) (cwV 0 hts gX4_addGrip_X0_isFull rfl rfl rfl (by decide +kernel) ⟨Nat.le_of_ble_eq_true rfl, Nat.le_of_ble_eq_true rfl⟩) (va_recv hK (GW_lift (G := G) hP) (ci := 0) (q0 := 0) rfl rfl) (GW_lift (G := G) hP) rfl hl.1 rfl (Nat.le_of_ble_eq_true rfl) ⟨Nat.zero_le _, Nat.zero_le _⟩ dX4_addGrip_23 ?_
      refine lv_if_eq (tgt := 39) hx hb dX4_addGrip_26 (by decide) (fun c3 => ?_) (fun c3 => ?_)
      · replace h := (if_pos c3).symm.trans h
        refine lv_aload_n hx hb dX4_addGrip_39 rfl (lv_at hl 0 rfl) ?_
        obtain ⟨r40, hr40, h⟩ := bd_some h
        refine gc_wv (As := []) (rest := []) ⟨hx, hb, hml, hown, hts⟩ hK (kX4_remember l D cI cC cZ cQ cJ q G hr40) (cwV 0 hts gX4_addGrip_X4_remember rfl rfl rfl (by decide +kernel) ⟨Nat.le_of_ble_eq_true rfl, Nat.le_of_ble_eq_true rfl⟩) (va_recv hK hP (ci := 4) (q0 := 0) rfl rfl) hP hS (fun _ h => h) rfl hl.1 rfl (Nat.le_of_ble_eq_true rfl) ⟨Nat.zero_le _, Nat.zero_le _⟩ dX4_addGrip_40 (fun H locs hP hS _ _ => ?_)
        refine lv_aload_n hx hb dX4_addGrip_43 rfl (lv_at hl 0 rfl) ?_
        refine va_get (D := D) (ci := 4) (v := .ref (q + 1)) (C := RX4) (T := TX4) (N := 9) hx hb hts hinX4 hown hK hP 0 rfl rfl 0 (by decide) hf10 (fun _ h9 => h9) rfl dX4_addGrip_44 ?_
        refine lv_iload_n hx hb dX4_addGrip_47 rfl (lv_at hl 1 rfl) ?_
        obtain ⟨r48, hr48, h⟩ := bd_some h
        refine gc_wv (As := [.int p0]) (rest := []) ⟨hx, hb, hml, hown, hts⟩ hK (kX0_add l D cI cC cZ cQ cJ (q + 1) (gLift r40) p0 hr48) (cwV 1 hts gX4_addGrip_X0_add rfl rfl rfl (by decide +kernel) ⟨Nat.le_of_ble_eq_true rfl, Nat.le_of_ble_eq_true rfl⟩) (va_recv hK (GW_lift (G := r40) hP) (ci := 0) (q0 := 0) rfl rfl) (GW_lift (G := r40) hP) hS GW_inLift rfl hl.1 rfl (Nat.le_of_ble_eq_true rfl) ⟨Nat.zero_le _, Nat.zero_le _⟩ dX4_addGrip_48 (fun H1 locs hP1 hS _ hk1 => ?_)
        have hP : va_P D vwCl (GW cI cC cZ cQ q (r48, (gTrial r40), (gTxt r40), (gSum r40), (gHis r40), (gSav r40), (gSvd r40), (gRem r40), (gNxt r40))) H1 := GW_putLift (G := r40) hP hP1 hk1
        generalize H1 = H at hP hS ⊢
        refine lv_aload_n hx hb dX4_addGrip_51 rfl (lv_at hl 0 rfl) ?_
        refine va_get (D := D) (ci := 4) (v := .ref (q + 1)) (C := RX4) (T := TX4) (N := 9) hx hb hts hinX4 hown hK hP 0 rfl rfl 0 (by decide) hf10 (fun _ h9 => h9) rfl dX4_addGrip_52 ?_
        obtain ⟨r55, hr55, h⟩ := bd_some h
        refine gc_ri (As := []) (rest := []) ⟨hx, hb, hml, hown, hts⟩ hK (kX0_grips l D cI cC cZ cQ cJ (q + 1) r48 hr55) (cwV 0 hts gX4_addGrip_X0_grips rfl rfl rfl (by decide +kernel) ⟨Nat.le_of_ble_eq_true rfl, Nat.le_of_ble_eq_true rfl⟩) (va_recv hK (GW_lift (G := (r48, (gTrial r40), (gTxt r40), (gSum r40), (gHis r40), (gSav r40), (gSvd r40), (gRem r40), (gNxt r40))) hP) (ci := 0) (q0 := 0) rfl rfl) (GW_lift (G := (r48, (gTrial r40), (gTxt r40), (gSum r40), (gHis r40), (gSav r40), (gSvd r40), (gRem r40), (gNxt r40))) hP) rfl hl.1 rfl (Nat.le_of_ble_eq_true rfl) ⟨Nat.zero_le _, Nat.zero_le _⟩ dX4_addGrip_55 ?_
        refine lv_iconst (v := 1) hx hb dX4_addGrip_58 (by decide) ?_
        refine lv_isub hx hb dX4_addGrip_59 ?_
        have h := Option.some.inj h
        subst h
        refine vx_ret ?_
        refine W.widen (k := 1) (n := 6) (by decide) (by decide) ?_
        exact W.iret (v := (r55 - 1)) hx hb hr (fun t ht hW => ⟨⟨_, (), rfl, ⟨rfl, rfl⟩, gh ht hP⟩, hS.F ht⟩) hS.2.2 dX4_addGrip_60
      · replace h := (if_neg c3).symm.trans h
        have h := Option.some.inj h
        subst h
        obtain ⟨sa, hsa⟩ := hE.2.2.2.1 (173, "there are 12 grips") (by decide +kernel)
        exact vx_throwS hx hb hlS (own := RX4) (cls := gISE) (names := gNm) (A := (fIv q 201)) hown (by decide +kernel) (by decide +kernel) (hts (.classLink RX4 70 gISE) (by decide +kernel)) (hts (.initialized gISE) (by decide +kernel)) hsa (vx_hat (fun w hw => hts w (List.mem_cons_of_mem _ (List.mem_append_right _ hw))) gx_ng_ISE (vx_c (va_Nw.use rfl (hE.2.2.2.2.1 gISE (by decide +kernel))) (vx_c (va_Nw.use rfl (hE.2.2.2.2.2 _ (List.mem_cons_self))) (vx_c (va_Nw.use rfl (hE.2.2.2.2.2 _ (List.mem_cons_of_mem _ List.mem_cons_self))) (vx_c (va_Nw.use rfl (hE.2.2.2.2.2 _ (List.mem_cons_of_mem _ (List.mem_cons_of_mem _ List.mem_cons_self)))) vx_n))))) gx_ot_ISE (hE.2.1.narrow (fun _ h => Nat.le_trans hlo h.1)) (hE.2.2.1.narrow (fun _ h => Nat.le_trans hlo h.1)) hS (hl.1.trans hml.symm) dX4_addGrip_29 dX4_addGrip_32 dX4_addGrip_33 dX4_addGrip_35 dX4_addGrip_38 (fun x9 hx9 => (hnx x9 hx9).elim) (by decide) (by decide) (by decide) (by decide) hlocks (fun t9 hv9 hz9 hk9 => ⟨(), trivial, ⟨rfl, Nat.succ_ne_zero 1, (gx_end hP hS t9 hz9 hk9).1⟩, (gx_end hP hS t9 hz9 hk9).2⟩) hS.2.2 (by decide) (by decide)
    · replace h := (if_neg c2).symm.trans h
      have h := Option.some.inj h
      subst h
      obtain ⟨sa, hsa⟩ := hE.2.2.2.1 (170, "weight is not 0 to 3") (by decide +kernel)
      exact vx_throwS hx hb hlS (own := RX4) (cls := gIAE) (names := gNm) (A := (fIv q 201)) hown (by decide +kernel) (by decide +kernel) (hts (.classLink RX4 56 gIAE) (by decide +kernel)) (hts (.initialized gIAE) (by decide +kernel)) hsa (vx_hat (fun w hw => hts w (List.mem_cons_of_mem _ (List.mem_append_left _ (List.mem_append_right _ hw)))) gx_ng_IAE (vx_c (va_Nw.use rfl (hE.2.2.2.2.1 gIAE (by decide +kernel))) (vx_c (va_Nw.use rfl (hE.2.2.2.2.2 _ (List.mem_cons_self))) (vx_c (va_Nw.use rfl (hE.2.2.2.2.2 _ (List.mem_cons_of_mem _ List.mem_cons_self))) (vx_c (va_Nw.use rfl (hE.2.2.2.2.2 _ (List.mem_cons_of_mem _ (List.mem_cons_of_mem _ List.mem_cons_self)))) vx_n))))) gx_ot_IAE (hE.2.1.narrow (fun _ h => Nat.le_trans hlo h.1)) (hE.2.2.1.narrow (fun _ h => Nat.le_trans hlo h.1)) hS (hl.1.trans hml.symm) dX4_addGrip_9 dX4_addGrip_12 dX4_addGrip_13 dX4_addGrip_15 dX4_addGrip_18 (fun x9 hx9 => (hnx x9 hx9).elim) (by decide) (by decide) (by decide) (by decide) hlocks (fun t9 hv9 hz9 hk9 => ⟨(), trivial, ⟨rfl, Nat.succ_ne_zero 0, (gx_end hP hS t9 hz9 hk9).1⟩, (gx_end hP hS t9 hz9 hk9).2⟩) hS.2.2 (by decide) (by decide)
set_option maxHeartbeats 4000000 in
set_option maxRecDepth 100000 in
theorem kX4_putOn (l : Launch) (D : va_G) (cI cC cZ cQ cJ : ClassId) (t lo : Nat) (q : Nat) (G : GSt) (p0 : Int32) (p1 : Int32) (hlo : lo ≤ q) (hlS : l.stackTraces = false) {R : Nat × Int32 × GSt} (h : fX4_putOn G p0 p1 = some R) : vx_Met l yX4_putOn wsX4_putOn ({ frames := 6, cells := 1, slots := 6, locals := 104 } : Room) (va_Pc [.ref q, .int p0, .int p1] (gBe D (gTy cI cC cZ cQ cJ) t lo (va_P D vwCl (GW cI cC cZ cQ q G)))) (va_Qi (fun r (_ : Unit) => R.1 = 0 ∧ r = R.2.1) (fun _ t => va_P D vwCl (GW cI cC cZ cQ q R.2.2) t.heap) (fIv q 201)) (vx_X (fun _ : Unit => True) (fun E _ t => E = gEx R.1 ∧ R.1 ≠ 0 ∧ va_P D vwCl (GW cI cC cZ cQ q R.2.2) t.heap) (fIv q 201)) 1 6 (fIv q 201) := by
  refine vx_ofW (cc := cX4_putOn) (maxL := 3) (ret := (some .int)) (by decide) rfl ?_
  intro p e s m args below meth c s₁ B hml hnx hv
  obtain ⟨rfl, ⟨hP, hK⟩, hE⟩ := hv
  have hZ := hE.1
  have hx := B.exec
  have hb := B.bytes
  have hr := B.returns
  have hts := atoms_spec (ws := wsX4_putOn) B.pre
  have hown : s.vm.findClass RX4 = some m.cls := findClass_of_methodNamed B.named
  have hlocks := B.notSynchronized
  have hinX4 : ∀ w ∈ wsX40, w ∈ wsX4_putOn := by decide +kernel
  have hf10 := hts (.fieldLink RX4 10 "GripInspector" "lift" "LGripInspector$Lift;") (by decide +kernel)
  generalize hRM : (headSpec wsX4_putOn ({ frames := 6, cells := 1, slots := 6, locals := 104 } : Room)).room = RM
  replace hRM : ({ frames := 6, cells := 1, slots := 6, locals := 104 } : Room) = RM := hRM
  subst hRM
  have hl := lv_entry ([.ref q, .int p0, .int p1]) (n := 3) (Nat.le_of_ble_eq_true rfl)
  rw [lg_entry_eq]
  generalize (lg_sl ([.ref q, .int p0, .int p1]) ++ List.replicate (3 - (lg_sl ([.ref q, .int p0, .int p1])).length) Slot.unset).toArray = ls at hl ⊢
  have hl : lv_has ls 3 [(0, .ref q), (1, .int p0), (2, .int p1)] := hl
  have hS : va_S (fIv q 201) s.heap s.heap [] := va_S.rf
  unfold fX4_putOn at h
  obtain ⟨H, hH⟩ : ∃ H, H = s.heap := ⟨_, rfl⟩
  obtain ⟨locs, hlz⟩ : ∃ z : List Loc, z = [] := ⟨_, rfl⟩
  have hP : va_P D vwCl (GW cI cC cZ cQ q G) H := by rw [hH]; exact hP
  have hS : va_S (fIv q 201) s.heap H locs := by rw [hH, hlz]; exact hS
  refine gc_at hH hlz ?_
  refine lv_aload_n hx hb dX4_putOn_0 rfl (lv_at hl 0 rfl) ?_
  refine va_get (D := D) (ci := 4) (v := .ref (q + 1)) (C := RX4) (T := TX4) (N := 9) hx hb hts hinX4 hown hK hP 0 rfl rfl 0 (by decide) hf10 (fun _ h9 => h9) rfl dX4_putOn_1 ?_
  refine lv_iload_n hx hb dX4_putOn_4 rfl (lv_at hl 1 rfl) ?_
  obtain ⟨r5, hr5, h⟩ := bd_some h
  refine gc_ri (As := [.int p0]) (rest := []) ⟨hx, hb, hml, hown, hts⟩ hK (kX0_has l D cI cC cZ cQ cJ (q + 1) (gLift G) p0 hr5) (cwV 1 hts gX4_putOn_X0_has rfl rfl rfl (by decide +kernel) ⟨Nat.le_of_ble_eq_true rfl, Nat.le_of_ble_eq_true rfl⟩) (va_recv hK (GW_lift (G := G) hP) (ci := 0) (q0 := 0) rfl rfl) (GW_lift (G := G) hP) rfl hl.1 rfl (Nat.le_of_ble_eq_true rfl) ⟨Nat.zero_le _, Nat.zero_le _⟩ dX4_putOn_5 ?_
  refine lv_if_eq (tgt := 22) hx hb dX4_putOn_8 (by decide) (fun c1 => ?_) (fun c1 => ?_)
  · replace h := (if_pos c1).symm.trans h
    have h := Option.some.inj h
    subst h
    obtain ⟨sa, hsa⟩ := hE.2.2.2.1 (178, "no such grip or slot") (by decide +kernel)
    exact vx_throwS hx hb hlS (own := RX4) (cls := gIOB) (names := gNm) (A := (fIv q 201)) hown (by decide +kernel) (by decide +kernel) (hts (.classLink RX4 124 gIOB) (by decide +kernel)) (hts (.initialized gIOB) (by decide +kernel)) hsa (vx_hat (fun w hw => hts w (List.mem_cons_of_mem _ (List.mem_append_left _ (List.mem_append_right _ hw)))) gx_ng_IOB (vx_c (va_Nw.use rfl (hE.2.2.2.2.1 gIOB (by decide +kernel))) (vx_c (va_Nw.use rfl (hE.2.2.2.2.2 _ (List.mem_cons_self))) (vx_c (va_Nw.use rfl (hE.2.2.2.2.2 _ (List.mem_cons_of_mem _ List.mem_cons_self))) (vx_c (va_Nw.use rfl (hE.2.2.2.2.2 _ (List.mem_cons_of_mem _ (List.mem_cons_of_mem _ List.mem_cons_self)))) vx_n))))) gx_ot_IOB (hE.2.1.narrow (fun _ h => Nat.le_trans hlo h.1)) (hE.2.2.1.narrow (fun _ h => Nat.le_trans hlo h.1)) hS (hl.1.trans hml.symm) dX4_putOn_22 dX4_putOn_25 dX4_putOn_26 dX4_putOn_28 dX4_putOn_31 (fun x9 hx9 => (hnx x9 hx9).elim) (by decide) (by decide) (by decide) (by decide) hlocks (fun t9 hv9 hz9 hk9 => ⟨(), trivial, ⟨rfl, Nat.succ_ne_zero 2, (gx_end hP hS t9 hz9 hk9).1⟩, (gx_end hP hS t9 hz9 hk9).2⟩) hS.2.2 (by decide) (by decide)
  · replace h := (if_neg c1).symm.trans h
    refine lv_aload_n hx hb dX4_putOn_11 rfl (lv_at hl 0 rfl) ?_
    refine va_get (D := D) (ci := 4) (v := .ref (q + 1)) (C := RX4) (T := TX4) (N := 9) hx hb hts hinX4 hown hK hP 0 rfl rfl 0 (by decide) hf10 (fun _ h9 => h9) rfl dX4_putOn_12 ?_
    refine lv_iload_n hx hb dX4_putOn_15 rfl (lv_at hl 2 rfl) ?_
    obtain ⟨r16, hr16, h⟩ := bd_some h
    refine gc_ri (As := [.int p1]) (rest := []) ⟨hx, hb, hml, hown, hts⟩ hK (kX0_hasSlot l D cI cC cZ cQ cJ (q + 1) (gLift G) p1 hr16) (cwV 1 hts gX4_putOn_X0_hasSlot rfl rfl rfl (by decide +kernel) ⟨Nat.le_of_ble_eq_true rfl, Nat.le_of_ble_eq_true rfl⟩) (va_recv hK (GW_lift (G := G) hP) (ci := 0) (q0 := 0) rfl rfl) (GW_lift (G := G) hP) rfl hl.1 rfl (Nat.le_of_ble_eq_true rfl) ⟨Nat.zero_le _, Nat.zero_le _⟩ dX4_putOn_16 ?_
    refine lv_if_ne (tgt := 32) hx hb dX4_putOn_19 (by decide) (fun c2 => ?_) (fun c2 => ?_)
    · replace h := (if_neg c2).symm.trans h
      refine lv_aload_n hx hb dX4_putOn_32 rfl (lv_at hl 0 rfl) ?_
      refine va_get (D := D) (ci := 4) (v := .ref (q + 1)) (C := RX4) (T := TX4) (N := 9) hx hb hts hinX4 hown hK hP 0 rfl rfl 0 (by decide) hf10 (fun _ h9 => h9) rfl dX4_putOn_33 ?_
      refine lv_iload_n hx hb dX4_putOn_36 rfl (lv_at hl 1 rfl) ?_
      refine lv_iconst (v := 1) hx hb dX4_putOn_37 (by decide) ?_
      obtain ⟨r38, hr38, h⟩ := bd_some h
      refine gc_ri (As := [.int p0, .int 1]) (rest := []) ⟨hx, hb, hml, hown, hts⟩ hK (kX0_isIn l D cI cC cZ cQ cJ (q + 1) (gLift G) p0 1 hr38) (cwV 2 hts gX4_putOn_X0_isIn rfl rfl rfl (by decide +kernel) ⟨Nat.le_of_ble_eq_true rfl, Nat.le_of_ble_eq_true rfl⟩) (va_recv hK (GW_lift (G := G) hP) (ci := 0) (q0 := 0) rfl rfl) (GW_lift (G := G) hP) rfl hl.1 rfl (Nat.le_of_ble_eq_true rfl) ⟨Nat.zero_le _, Nat.zero_le _⟩ dX4_putOn_38 ?_
      refine lv_if_eq (tgt := 55) hx hb dX4_putOn_41 (by decide) (fun c3 => ?_) (fun c3 => ?_)
      · replace h := (if_pos c3).symm.trans h
        have h := Option.some.inj h
        subst h
        obtain ⟨sa, hsa⟩ := hE.2.2.2.1 (187, "it can't be put there") (by decide +kernel)
        exact vx_throwS hx hb hlS (own := RX4) (cls := gISE) (names := gNm) (A := (fIv q 201)) hown (by decide +kernel) (by decide +kernel) (hts (.classLink RX4 70 gISE) (by decide +kernel)) (hts (.initialized gISE) (by decide +kernel)) hsa (vx_hat (fun w hw => hts w (List.mem_cons_of_mem _ (List.mem_append_right _ hw))) gx_ng_ISE (vx_c (va_Nw.use rfl (hE.2.2.2.2.1 gISE (by decide +kernel))) (vx_c (va_Nw.use rfl (hE.2.2.2.2.2 _ (List.mem_cons_self))) (vx_c (va_Nw.use rfl (hE.2.2.2.2.2 _ (List.mem_cons_of_mem _ List.mem_cons_self))) (vx_c (va_Nw.use rfl (hE.2.2.2.2.2 _ (List.mem_cons_of_mem _ (List.mem_cons_of_mem _ List.mem_cons_self)))) vx_n))))) gx_ot_ISE (hE.2.1.narrow (fun _ h => Nat.le_trans hlo h.1)) (hE.2.2.1.narrow (fun _ h => Nat.le_trans hlo h.1)) hS (hl.1.trans hml.symm) dX4_putOn_55 dX4_putOn_58 dX4_putOn_59 dX4_putOn_61 dX4_putOn_64 (fun x9 hx9 => (hnx x9 hx9).elim) (by decide) (by decide) (by decide) (by decide) hlocks (fun t9 hv9 hz9 hk9 => ⟨(), trivial, ⟨rfl, Nat.succ_ne_zero 1, (gx_end hP hS t9 hz9 hk9).1⟩, (gx_end hP hS t9 hz9 hk9).2⟩) hS.2.2 (by decide) (by decide)
      · replace h := (if_neg c3).symm.trans h
        refine lv_aload_n hx hb dX4_putOn_44 rfl (lv_at hl 0 rfl) ?_
        refine va_get (D := D) (ci := 4) (v := .ref (q + 1)) (C := RX4) (T := TX4) (N := 9) hx hb hts hinX4 hown hK hP 0 rfl rfl 0 (by decide) hf10 (fun _ h9 => h9) rfl dX4_putOn_45 ?_
        refine lv_iload_n hx hb dX4_putOn_48 rfl (lv_at hl 2 rfl) ?_
        obtain ⟨r49, hr49, h⟩ := bd_some h
        refine gc_ri (As := [.int p1]) (rest := []) ⟨hx, hb, hml, hown, hts⟩ hK (kX0_isRoomAt l D cI cC cZ cQ cJ (q + 1) (gLift G) p1 hr49) (cwV 1 hts gX4_putOn_X0_isRoomAt rfl rfl rfl (by decide +kernel) ⟨Nat.le_of_ble_eq_true rfl, Nat.le_of_ble_eq_true rfl⟩) (va_recv hK (GW_lift (G := G) hP) (ci := 0) (q0 := 0) rfl rfl) (GW_lift (G := G) hP) rfl hl.1 rfl (Nat.le_of_ble_eq_true rfl) ⟨Nat.zero_le _, Nat.zero_le _⟩ dX4_putOn_49 ?_
        refine lv_if_ne (tgt := 65) hx hb dX4_putOn_52 (by decide) (fun c4 => ?_) (fun c4 => ?_)
        · replace h := (if_neg c4).symm.trans h
          refine lv_aload_n hx hb dX4_putOn_65 rfl (lv_at hl 0 rfl) ?_
          obtain ⟨r66, hr66, h⟩ := bd_some h
          refine gc_wv (As := []) (rest := []) ⟨hx, hb, hml, hown, hts⟩ hK (kX4_remember l D cI cC cZ cQ cJ q G hr66) (cwV 0 hts gX4_putOn_X4_remember rfl rfl rfl (by decide +kernel) ⟨Nat.le_of_ble_eq_true rfl, Nat.le_of_ble_eq_true rfl⟩) (va_recv hK hP (ci := 4) (q0 := 0) rfl rfl) hP hS (fun _ h => h) rfl hl.1 rfl (Nat.le_of_ble_eq_true rfl) ⟨Nat.zero_le _, Nat.zero_le _⟩ dX4_putOn_66 (fun H locs hP hS _ _ => ?_)
          refine lv_aload_n hx hb dX4_putOn_69 rfl (lv_at hl 0 rfl) ?_
          refine va_get (D := D) (ci := 4) (v := .ref (q + 1)) (C := RX4) (T := TX4) (N := 9) hx hb hts hinX4 hown hK hP 0 rfl rfl 0 (by decide) hf10 (fun _ h9 => h9) rfl dX4_putOn_70 ?_
          refine lv_iload_n hx hb dX4_putOn_73 rfl (lv_at hl 1 rfl) ?_
          refine lv_iload_n hx hb dX4_putOn_74 rfl (lv_at hl 2 rfl) ?_
          obtain ⟨r75, hr75, h⟩ := bd_some h
          refine gc_wv (As := [.int p0, .int p1]) (rest := []) ⟨hx, hb, hml, hown, hts⟩ hK (kX0_hang l D cI cC cZ cQ cJ (q + 1) (gLift r66) p0 p1 hr75) (cwV 2 hts gX4_putOn_X0_hang rfl rfl rfl (by decide +kernel) ⟨Nat.le_of_ble_eq_true rfl, Nat.le_of_ble_eq_true rfl⟩) (va_recv hK (GW_lift (G := r66) hP) (ci := 0) (q0 := 0) rfl rfl) (GW_lift (G := r66) hP) hS GW_inLift rfl hl.1 rfl (Nat.le_of_ble_eq_true rfl) ⟨Nat.zero_le _, Nat.zero_le _⟩ dX4_putOn_75 (fun H1 locs hP1 hS _ hk1 => ?_)
          have hP : va_P D vwCl (GW cI cC cZ cQ q (r75, (gTrial r66), (gTxt r66), (gSum r66), (gHis r66), (gSav r66), (gSvd r66), (gRem r66), (gNxt r66))) H1 := GW_putLift (G := r66) hP hP1 hk1
          generalize H1 = H at hP hS ⊢
          refine lv_aload_n hx hb dX4_putOn_78 rfl (lv_at hl 0 rfl) ?_
          refine va_get (D := D) (ci := 4) (v := .ref (q + 1)) (C := RX4) (T := TX4) (N := 9) hx hb hts hinX4 hown hK hP 0 rfl rfl 0 (by decide) hf10 (fun _ h9 => h9) rfl dX4_putOn_79 ?_
          refine lv_iconst (v := 0) hx hb dX4_putOn_82 (by decide) ?_
          obtain ⟨r83, hr83, h⟩ := bd_some h
          refine gc_ri (As := [.int 0]) (rest := []) ⟨hx, hb, hml, hown, hts⟩ hK (kX0_count l D cI cC cZ cQ cJ (q + 1) r75 0 hr83) (cwV 1 hts gX4_putOn_X0_count rfl rfl rfl (by decide +kernel) ⟨Nat.le_of_ble_eq_true rfl, Nat.le_of_ble_eq_true rfl⟩) (va_recv hK (GW_lift (G := (r75, (gTrial r66), (gTxt r66), (gSum r66), (gHis r66), (gSav r66), (gSvd r66), (gRem r66), (gNxt r66))) hP) (ci := 0) (q0 := 0) rfl rfl) (GW_lift (G := (r75, (gTrial r66), (gTxt r66), (gSum r66), (gHis r66), (gSav r66), (gSvd r66), (gRem r66), (gNxt r66))) hP) rfl hl.1 rfl (Nat.le_of_ble_eq_true rfl) ⟨Nat.zero_le _, Nat.zero_le _⟩ dX4_putOn_83 ?_
          have h := Option.some.inj h
          subst h
          refine vx_ret ?_
          refine W.widen (k := 1) (n := 6) (by decide) (by decide) ?_
          exact W.iret (v := r83) hx hb hr (fun t ht hW => ⟨⟨_, (), rfl, ⟨rfl, rfl⟩, gh ht hP⟩, hS.F ht⟩) hS.2.2 dX4_putOn_86
        · replace h := (if_pos c4).symm.trans h
          have h := Option.some.inj h
          subst h
          obtain ⟨sa, hsa⟩ := hE.2.2.2.1 (187, "it can't be put there") (by decide +kernel)
          exact vx_throwS hx hb hlS (own := RX4) (cls := gISE) (names := gNm) (A := (fIv q 201)) hown (by decide +kernel) (by decide +kernel) (hts (.classLink RX4 70 gISE) (by decide +kernel)) (hts (.initialized gISE) (by decide +kernel)) hsa (vx_hat (fun w hw => hts w (List.mem_cons_of_mem _ (List.mem_append_right _ hw))) gx_ng_ISE (vx_c (va_Nw.use rfl (hE.2.2.2.2.1 gISE (by decide +kernel))) (vx_c (va_Nw.use rfl (hE.2.2.2.2.2 _ (List.mem_cons_self))) (vx_c (va_Nw.use rfl (hE.2.2.2.2.2 _ (List.mem_cons_of_mem _ List.mem_cons_self))) (vx_c (va_Nw.use rfl (hE.2.2.2.2.2 _ (List.mem_cons_of_mem _ (List.mem_cons_of_mem _ List.mem_cons_self)))) vx_n))))) gx_ot_ISE (hE.2.1.narrow (fun _ h => Nat.le_trans hlo h.1)) (hE.2.2.1.narrow (fun _ h => Nat.le_trans hlo h.1)) hS (hl.1.trans hml.symm) dX4_putOn_55 dX4_putOn_58 dX4_putOn_59 dX4_putOn_61 dX4_putOn_64 (fun x9 hx9 => (hnx x9 hx9).elim) (by decide) (by decide) (by decide) (by decide) hlocks (fun t9 hv9 hz9 hk9 => ⟨(), trivial, ⟨rfl, Nat.succ_ne_zero 1, (gx_end hP hS t9 hz9 hk9).1⟩, (gx_end hP hS t9 hz9 hk9).2⟩) hS.2.2 (by decide) (by decide)
    · replace h := (if_pos c2).symm.trans h
      have h := Option.some.inj h
      subst h
      obtain ⟨sa, hsa⟩ := hE.2.2.2.1 (178, "no such grip or slot") (by decide +kernel)
      exact vx_throwS hx hb hlS (own := RX4) (cls := gIOB) (names := gNm) (A := (fIv q 201)) hown (by decide +kernel) (by decide +kernel) (hts (.classLink RX4 124 gIOB) (by decide +kernel)) (hts (.initialized gIOB) (by decide +kernel)) hsa (vx_hat (fun w hw => hts w (List.mem_cons_of_mem _ (List.mem_append_left _ (List.mem_append_right _ hw)))) gx_ng_IOB (vx_c (va_Nw.use rfl (hE.2.2.2.2.1 gIOB (by decide +kernel))) (vx_c (va_Nw.use rfl (hE.2.2.2.2.2 _ (List.mem_cons_self))) (vx_c (va_Nw.use rfl (hE.2.2.2.2.2 _ (List.mem_cons_of_mem _ List.mem_cons_self))) (vx_c (va_Nw.use rfl (hE.2.2.2.2.2 _ (List.mem_cons_of_mem _ (List.mem_cons_of_mem _ List.mem_cons_self)))) vx_n))))) gx_ot_IOB (hE.2.1.narrow (fun _ h => Nat.le_trans hlo h.1)) (hE.2.2.1.narrow (fun _ h => Nat.le_trans hlo h.1)) hS (hl.1.trans hml.symm) dX4_putOn_22 dX4_putOn_25 dX4_putOn_26 dX4_putOn_28 dX4_putOn_31 (fun x9 hx9 => (hnx x9 hx9).elim) (by decide) (by decide) (by decide) (by decide) hlocks (fun t9 hv9 hz9 hk9 => ⟨(), trivial, ⟨rfl, Nat.succ_ne_zero 2, (gx_end hP hS t9 hz9 hk9).1⟩, (gx_end hP hS t9 hz9 hk9).2⟩) hS.2.2 (by decide) (by decide)
set_option maxHeartbeats 4000000 in
set_option maxRecDepth 100000 in
theorem kX4_takeOff (l : Launch) (D : va_G) (cI cC cZ cQ cJ : ClassId) (t lo : Nat) (q : Nat) (G : GSt) (p0 : Int32) (hlo : lo ≤ q) (hlS : l.stackTraces = false) {R : Nat × Int32 × GSt} (h : fX4_takeOff G p0 = some R) : vx_Met l yX4_takeOff wsX4_takeOff ({ frames := 6, cells := 1, slots := 6, locals := 104 } : Room) (va_Pc [.ref q, .int p0] (gBe D (gTy cI cC cZ cQ cJ) t lo (va_P D vwCl (GW cI cC cZ cQ q G)))) (va_Qi (fun r (_ : Unit) => R.1 = 0 ∧ r = R.2.1) (fun _ t => va_P D vwCl (GW cI cC cZ cQ q R.2.2) t.heap) (fIv q 201)) (vx_X (fun _ : Unit => True) (fun E _ t => E = gEx R.1 ∧ R.1 ≠ 0 ∧ va_P D vwCl (GW cI cC cZ cQ q R.2.2) t.heap) (fIv q 201)) 1 6 (fIv q 201) := by
  refine vx_ofW (cc := cX4_takeOff) (maxL := 3) (ret := (some .int)) (by decide) rfl ?_
  intro p e s m args below meth c s₁ B hml hnx hv
  obtain ⟨rfl, ⟨hP, hK⟩, hE⟩ := hv
  have hZ := hE.1
  have hx := B.exec
  have hb := B.bytes
  have hr := B.returns
  have hts := atoms_spec (ws := wsX4_takeOff) B.pre
  have hown : s.vm.findClass RX4 = some m.cls := findClass_of_methodNamed B.named
  have hlocks := B.notSynchronized
  have hinX4 : ∀ w ∈ wsX40, w ∈ wsX4_takeOff := by decide +kernel
  have hinX0 : ∀ w ∈ wsX00, w ∈ wsX4_takeOff := by decide +kernel
  have hf10 := hts (.fieldLink RX4 10 "GripInspector" "lift" "LGripInspector$Lift;") (by decide +kernel)
  have hf195 := hts (.fieldLink RX4 195 "GripInspector$Lift" "spot" "[I") (by decide +kernel)
  generalize hRM : (headSpec wsX4_takeOff ({ frames := 6, cells := 1, slots := 6, locals := 104 } : Room)).room = RM
  replace hRM : ({ frames := 6, cells := 1, slots := 6, locals := 104 } : Room) = RM := hRM
  subst hRM
  have hl := lv_entry ([.ref q, .int p0]) (n := 3) (Nat.le_of_ble_eq_true rfl)
  rw [lg_entry_eq]
  generalize (lg_sl ([.ref q, .int p0]) ++ List.replicate (3 - (lg_sl ([.ref q, .int p0])).length) Slot.unset).toArray = ls at hl ⊢
  have hl : lv_has ls 3 [(0, .ref q), (1, .int p0)] := hl
  have hS : va_S (fIv q 201) s.heap s.heap [] := va_S.rf
  unfold fX4_takeOff at h
  obtain ⟨H, hH⟩ : ∃ H, H = s.heap := ⟨_, rfl⟩
  obtain ⟨locs, hlz⟩ : ∃ z : List Loc, z = [] := ⟨_, rfl⟩
  have hP : va_P D vwCl (GW cI cC cZ cQ q G) H := by rw [hH]; exact hP
  have hS : va_S (fIv q 201) s.heap H locs := by rw [hH, hlz]; exact hS
  refine gc_at hH hlz ?_
  refine lv_aload_n hx hb dX4_takeOff_0 rfl (lv_at hl 0 rfl) ?_
  refine va_get (D := D) (ci := 4) (v := .ref (q + 1)) (C := RX4) (T := TX4) (N := 9) hx hb hts hinX4 hown hK hP 0 rfl rfl 0 (by decide) hf10 (fun _ h9 => h9) rfl dX4_takeOff_1 ?_
  refine lv_iload_n hx hb dX4_takeOff_4 rfl (lv_at hl 1 rfl) ?_
  obtain ⟨r5, hr5, h⟩ := bd_some h
  refine gc_ri (As := [.int p0]) (rest := []) ⟨hx, hb, hml, hown, hts⟩ hK (kX0_has l D cI cC cZ cQ cJ (q + 1) (gLift G) p0 hr5) (cwV 1 hts gX4_takeOff_X0_has rfl rfl rfl (by decide +kernel) ⟨Nat.le_of_ble_eq_true rfl, Nat.le_of_ble_eq_true rfl⟩) (va_recv hK (GW_lift (G := G) hP) (ci := 0) (q0 := 0) rfl rfl) (GW_lift (G := G) hP) rfl hl.1 rfl (Nat.le_of_ble_eq_true rfl) ⟨Nat.zero_le _, Nat.zero_le _⟩ dX4_takeOff_5 ?_
  refine lv_if_ne (tgt := 21) hx hb dX4_takeOff_8 (by decide) (fun c1 => ?_) (fun c1 => ?_)
  · replace h := (if_neg c1).symm.trans h
    refine lv_aload_n hx hb dX4_takeOff_21 rfl (lv_at hl 0 rfl) ?_
    refine va_get (D := D) (ci := 4) (v := .ref (q + 1)) (C := RX4) (T := TX4) (N := 9) hx hb hts hinX4 hown hK hP 0 rfl rfl 0 (by decide) hf10 (fun _ h9 => h9) rfl dX4_takeOff_22 ?_
    refine lv_iload_n hx hb dX4_takeOff_25 rfl (lv_at hl 1 rfl) ?_
    refine lv_iconst (v := 0) hx hb dX4_takeOff_26 (by decide) ?_
    obtain ⟨r27, hr27, h⟩ := bd_some h
    refine gc_ri (As := [.int p0, .int 0]) (rest := []) ⟨hx, hb, hml, hown, hts⟩ hK (kX0_isIn l D cI cC cZ cQ cJ (q + 1) (gLift G) p0 0 hr27) (cwV 2 hts gX4_takeOff_X0_isIn rfl rfl rfl (by decide +kernel) ⟨Nat.le_of_ble_eq_true rfl, Nat.le_of_ble_eq_true rfl⟩) (va_recv hK (GW_lift (G := G) hP) (ci := 0) (q0 := 0) rfl rfl) (GW_lift (G := G) hP) rfl hl.1 rfl (Nat.le_of_ble_eq_true rfl) ⟨Nat.zero_le _, Nat.zero_le _⟩ dX4_takeOff_27 ?_
    refine lv_if_ne (tgt := 43) hx hb dX4_takeOff_30 (by decide) (fun c2 => ?_) (fun c2 => ?_)
    · replace h := (if_neg c2).symm.trans h
      refine lv_aload_n hx hb dX4_takeOff_43 rfl (lv_at hl 0 rfl) ?_
      obtain ⟨r44, hr44, h⟩ := bd_some h
      refine gc_wv (As := []) (rest := []) ⟨hx, hb, hml, hown, hts⟩ hK (kX4_remember l D cI cC cZ cQ cJ q G hr44) (cwV 0 hts gX4_takeOff_X4_remember rfl rfl rfl (by decide +kernel) ⟨Nat.le_of_ble_eq_true rfl, Nat.le_of_ble_eq_true rfl⟩) (va_recv hK hP (ci := 4) (q0 := 0) rfl rfl) hP hS (fun _ h => h) rfl hl.1 rfl (Nat.le_of_ble_eq_true rfl) ⟨Nat.zero_le _, Nat.zero_le _⟩ dX4_takeOff_44 (fun H locs hP hS _ _ => ?_)
      refine lv_aload_n hx hb dX4_takeOff_47 rfl (lv_at hl 0 rfl) ?_
      refine va_get (D := D) (ci := 4) (v := .ref (q + 1)) (C := RX4) (T := TX4) (N := 9) hx hb hts hinX4 hown hK hP 0 rfl rfl 0 (by decide) hf10 (fun _ h9 => h9) rfl dX4_takeOff_48 ?_
      refine va_get (D := D) (ci := 0) (v := .ref (q + 8)) (C := RX0) (T := TX0) (N := 13) hx hb hts hinX0 hown hK hP 1 rfl rfl 6 (by decide) hf195 (fun _ h9 => h9) rfl dX4_takeOff_51 ?_
      refine lv_iload_n hx hb dX4_takeOff_54 rfl (lv_at hl 1 rfl) ?_
      obtain ⟨hg3, h⟩ := gd_some h
      refine g_iald (f := (lSp (gLift r44))) (k := p0.toNatClampNeg) hx hb hK hP 8 0 rfl rfl hg3 rfl dX4_takeOff_55 ?_
      refine lv_istore_n (lv' := [(2, .int ((lSp (gLift r44)) p0.toNatClampNeg)), (0, .ref q), (1, .int p0)]) hx hb dX4_takeOff_56 rfl hl (by decide) rfl (fun ls hl => ?_)
      refine lv_aload_n hx hb dX4_takeOff_57 rfl (lv_at hl 1 rfl) ?_
      refine va_get (D := D) (ci := 4) (v := .ref (q + 1)) (C := RX4) (T := TX4) (N := 9) hx hb hts hinX4 hown hK hP 0 rfl rfl 0 (by decide) hf10 (fun _ h9 => h9) rfl dX4_takeOff_58 ?_
      refine lv_iload_n hx hb dX4_takeOff_61 rfl (lv_at hl 2 rfl) ?_
      refine lv_iconst (v := 1) hx hb dX4_takeOff_62 (by decide) ?_
      obtain ⟨r63, hr63, h⟩ := bd_some h
      refine gc_wv (As := [.int p0, .int 1]) (rest := []) ⟨hx, hb, hml, hown, hts⟩ hK (kX0_move l D cI cC cZ cQ cJ (q + 1) (gLift r44) p0 1 hr63) (cwV 2 hts gX4_takeOff_X0_move rfl rfl rfl (by decide +kernel) ⟨Nat.le_of_ble_eq_true rfl, Nat.le_of_ble_eq_true rfl⟩) (va_recv hK (GW_lift (G := r44) hP) (ci := 0) (q0 := 0) rfl rfl) (GW_lift (G := r44) hP) hS GW_inLift rfl hl.1 rfl (Nat.le_of_ble_eq_true rfl) ⟨Nat.zero_le _, Nat.zero_le _⟩ dX4_takeOff_63 (fun H1 locs hP1 hS _ hk1 => ?_)
      have hP : va_P D vwCl (GW cI cC cZ cQ q (r63, (gTrial r44), (gTxt r44), (gSum r44), (gHis r44), (gSav r44), (gSvd r44), (gRem r44), (gNxt r44))) H1 := GW_putLift (G := r44) hP hP1 hk1
      generalize H1 = H at hP hS ⊢
      refine lv_iload_n hx hb dX4_takeOff_66 rfl (lv_at hl 0 rfl) ?_
      have h := Option.some.inj h
      subst h
      refine vx_ret ?_
      refine W.widen (k := 1) (n := 6) (by decide) (by decide) ?_
      exact W.iret (v := ((lSp (gLift r44)) p0.toNatClampNeg)) hx hb hr (fun t ht hW => ⟨⟨_, (), rfl, ⟨rfl, rfl⟩, gh ht hP⟩, hS.F ht⟩) hS.2.2 dX4_takeOff_67
    · replace h := (if_pos c2).symm.trans h
      have h := Option.some.inj h
      subst h
      obtain ⟨sa, hsa⟩ := hE.2.2.2.1 (193, "the grip is not on the line") (by decide +kernel)
      exact vx_throwS hx hb hlS (own := RX4) (cls := gISE) (names := gNm) (A := (fIv q 201)) hown (by decide +kernel) (by decide +kernel) (hts (.classLink RX4 70 gISE) (by decide +kernel)) (hts (.initialized gISE) (by decide +kernel)) hsa (vx_hat (fun w hw => hts w (List.mem_cons_of_mem _ (List.mem_append_right _ hw))) gx_ng_ISE (vx_c (va_Nw.use rfl (hE.2.2.2.2.1 gISE (by decide +kernel))) (vx_c (va_Nw.use rfl (hE.2.2.2.2.2 _ (List.mem_cons_self))) (vx_c (va_Nw.use rfl (hE.2.2.2.2.2 _ (List.mem_cons_of_mem _ List.mem_cons_self))) (vx_c (va_Nw.use rfl (hE.2.2.2.2.2 _ (List.mem_cons_of_mem _ (List.mem_cons_of_mem _ List.mem_cons_self)))) vx_n))))) gx_ot_ISE (hE.2.1.narrow (fun _ h => Nat.le_trans hlo h.1)) (hE.2.2.1.narrow (fun _ h => Nat.le_trans hlo h.1)) hS (hl.1.trans hml.symm) dX4_takeOff_33 dX4_takeOff_36 dX4_takeOff_37 dX4_takeOff_39 dX4_takeOff_42 (fun x9 hx9 => (hnx x9 hx9).elim) (by decide) (by decide) (by decide) (by decide) hlocks (fun t9 hv9 hz9 hk9 => ⟨(), trivial, ⟨rfl, Nat.succ_ne_zero 1, (gx_end hP hS t9 hz9 hk9).1⟩, (gx_end hP hS t9 hz9 hk9).2⟩) hS.2.2 (by decide) (by decide)
  · replace h := (if_pos c1).symm.trans h
    have h := Option.some.inj h
    subst h
    obtain ⟨sa, hsa⟩ := hE.2.2.2.1 (126, "no such grip") (by decide +kernel)
    exact vx_throwS hx hb hlS (own := RX4) (cls := gIOB) (names := gNm) (A := (fIv q 201)) hown (by decide +kernel) (by decide +kernel) (hts (.classLink RX4 124 gIOB) (by decide +kernel)) (hts (.initialized gIOB) (by decide +kernel)) hsa (vx_hat (fun w hw => hts w (List.mem_cons_of_mem _ (List.mem_append_left _ (List.mem_append_right _ hw)))) gx_ng_IOB (vx_c (va_Nw.use rfl (hE.2.2.2.2.1 gIOB (by decide +kernel))) (vx_c (va_Nw.use rfl (hE.2.2.2.2.2 _ (List.mem_cons_self))) (vx_c (va_Nw.use rfl (hE.2.2.2.2.2 _ (List.mem_cons_of_mem _ List.mem_cons_self))) (vx_c (va_Nw.use rfl (hE.2.2.2.2.2 _ (List.mem_cons_of_mem _ (List.mem_cons_of_mem _ List.mem_cons_self)))) vx_n))))) gx_ot_IOB (hE.2.1.narrow (fun _ h => Nat.le_trans hlo h.1)) (hE.2.2.1.narrow (fun _ h => Nat.le_trans hlo h.1)) hS (hl.1.trans hml.symm) dX4_takeOff_11 dX4_takeOff_14 dX4_takeOff_15 dX4_takeOff_17 dX4_takeOff_20 (fun x9 hx9 => (hnx x9 hx9).elim) (by decide) (by decide) (by decide) (by decide) hlocks (fun t9 hv9 hz9 hk9 => ⟨(), trivial, ⟨rfl, Nat.succ_ne_zero 2, (gx_end hP hS t9 hz9 hk9).1⟩, (gx_end hP hS t9 hz9 hk9).2⟩) hS.2.2 (by decide) (by decide)
set_option maxHeartbeats 4000000 in
set_option maxRecDepth 100000 in
theorem kX4_scrap (l : Launch) (D : va_G) (cI cC cZ cQ cJ : ClassId) (t lo : Nat) (q : Nat) (G : GSt) (p0 : Int32) (hlo : lo ≤ q) (hlS : l.stackTraces = false) {R : Nat × Int32 × GSt} (h : fX4_scrap G p0 = some R) : vx_Met l yX4_scrap wsX4_scrap ({ frames := 6, cells := 1, slots := 6, locals := 104 } : Room) (va_Pc [.ref q, .int p0] (gBe D (gTy cI cC cZ cQ cJ) t lo (va_P D vwCl (GW cI cC cZ cQ q G)))) (va_Qi (fun r (_ : Unit) => R.1 = 0 ∧ r = R.2.1) (fun _ t => va_P D vwCl (GW cI cC cZ cQ q R.2.2) t.heap) (fIv q 201)) (vx_X (fun _ : Unit => True) (fun E _ t => E = gEx R.1 ∧ R.1 ≠ 0 ∧ va_P D vwCl (GW cI cC cZ cQ q R.2.2) t.heap) (fIv q 201)) 1 6 (fIv q 201) := by
  refine vx_ofW (cc := cX4_scrap) (maxL := 3) (ret := (some .int)) (by decide) rfl ?_
  intro p e s m args below meth c s₁ B hml hnx hv
  obtain ⟨rfl, ⟨hP, hK⟩, hE⟩ := hv
  have hZ := hE.1
  have hx := B.exec
  have hb := B.bytes
  have hr := B.returns
  have hts := atoms_spec (ws := wsX4_scrap) B.pre
  have hown : s.vm.findClass RX4 = some m.cls := findClass_of_methodNamed B.named
  have hlocks := B.notSynchronized
  have hinX4 : ∀ w ∈ wsX40, w ∈ wsX4_scrap := by decide +kernel
  have hinX0 : ∀ w ∈ wsX00, w ∈ wsX4_scrap := by decide +kernel
  have hf10 := hts (.fieldLink RX4 10 "GripInspector" "lift" "LGripInspector$Lift;") (by decide +kernel)
  have hf203 := hts (.fieldLink RX4 203 "GripInspector$Lift" "place" "[I") (by decide +kernel)
  generalize hRM : (headSpec wsX4_scrap ({ frames := 6, cells := 1, slots := 6, locals := 104 } : Room)).room = RM
  replace hRM : ({ frames := 6, cells := 1, slots := 6, locals := 104 } : Room) = RM := hRM
  subst hRM
  have hl := lv_entry ([.ref q, .int p0]) (n := 3) (Nat.le_of_ble_eq_true rfl)
  rw [lg_entry_eq]
  generalize (lg_sl ([.ref q, .int p0]) ++ List.replicate (3 - (lg_sl ([.ref q, .int p0])).length) Slot.unset).toArray = ls at hl ⊢
  have hl : lv_has ls 3 [(0, .ref q), (1, .int p0)] := hl
  have hS : va_S (fIv q 201) s.heap s.heap [] := va_S.rf
  unfold fX4_scrap at h
  obtain ⟨H, hH⟩ : ∃ H, H = s.heap := ⟨_, rfl⟩
  obtain ⟨locs, hlz⟩ : ∃ z : List Loc, z = [] := ⟨_, rfl⟩
  have hP : va_P D vwCl (GW cI cC cZ cQ q G) H := by rw [hH]; exact hP
  have hS : va_S (fIv q 201) s.heap H locs := by rw [hH, hlz]; exact hS
  refine gc_at hH hlz ?_
  refine lv_aload_n hx hb dX4_scrap_0 rfl (lv_at hl 0 rfl) ?_
  refine va_get (D := D) (ci := 4) (v := .ref (q + 1)) (C := RX4) (T := TX4) (N := 9) hx hb hts hinX4 hown hK hP 0 rfl rfl 0 (by decide) hf10 (fun _ h9 => h9) rfl dX4_scrap_1 ?_
  refine lv_iload_n hx hb dX4_scrap_4 rfl (lv_at hl 1 rfl) ?_
  obtain ⟨r5, hr5, h⟩ := bd_some h
  refine gc_ri (As := [.int p0]) (rest := []) ⟨hx, hb, hml, hown, hts⟩ hK (kX0_has l D cI cC cZ cQ cJ (q + 1) (gLift G) p0 hr5) (cwV 1 hts gX4_scrap_X0_has rfl rfl rfl (by decide +kernel) ⟨Nat.le_of_ble_eq_true rfl, Nat.le_of_ble_eq_true rfl⟩) (va_recv hK (GW_lift (G := G) hP) (ci := 0) (q0 := 0) rfl rfl) (GW_lift (G := G) hP) rfl hl.1 rfl (Nat.le_of_ble_eq_true rfl) ⟨Nat.zero_le _, Nat.zero_le _⟩ dX4_scrap_5 ?_
  refine lv_if_ne (tgt := 21) hx hb dX4_scrap_8 (by decide) (fun c1 => ?_) (fun c1 => ?_)
  · replace h := (if_neg c1).symm.trans h
    refine lv_aload_n hx hb dX4_scrap_21 rfl (lv_at hl 0 rfl) ?_
    refine va_get (D := D) (ci := 4) (v := .ref (q + 1)) (C := RX4) (T := TX4) (N := 9) hx hb hts hinX4 hown hK hP 0 rfl rfl 0 (by decide) hf10 (fun _ h9 => h9) rfl dX4_scrap_22 ?_
    refine lv_iload_n hx hb dX4_scrap_25 rfl (lv_at hl 1 rfl) ?_
    refine lv_iconst (v := 3) hx hb dX4_scrap_26 (by decide) ?_
    obtain ⟨r27, hr27, h⟩ := bd_some h
    refine gc_ri (As := [.int p0, .int 3]) (rest := []) ⟨hx, hb, hml, hown, hts⟩ hK (kX0_isIn l D cI cC cZ cQ cJ (q + 1) (gLift G) p0 3 hr27) (cwV 2 hts gX4_scrap_X0_isIn rfl rfl rfl (by decide +kernel) ⟨Nat.le_of_ble_eq_true rfl, Nat.le_of_ble_eq_true rfl⟩) (va_recv hK (GW_lift (G := G) hP) (ci := 0) (q0 := 0) rfl rfl) (GW_lift (G := G) hP) rfl hl.1 rfl (Nat.le_of_ble_eq_true rfl) ⟨Nat.zero_le _, Nat.zero_le _⟩ dX4_scrap_27 ?_
    refine lv_if_eq (tgt := 43) hx hb dX4_scrap_30 (by decide) (fun c2 => ?_) (fun c2 => ?_)
    · replace h := (if_pos c2).symm.trans h
      refine lv_aload_n hx hb dX4_scrap_43 rfl (lv_at hl 0 rfl) ?_
      obtain ⟨r44, hr44, h⟩ := bd_some h
      refine gc_wv (As := []) (rest := []) ⟨hx, hb, hml, hown, hts⟩ hK (kX4_remember l D cI cC cZ cQ cJ q G hr44) (cwV 0 hts gX4_scrap_X4_remember rfl rfl rfl (by decide +kernel) ⟨Nat.le_of_ble_eq_true rfl, Nat.le_of_ble_eq_true rfl⟩) (va_recv hK hP (ci := 4) (q0 := 0) rfl rfl) hP hS (fun _ h => h) rfl hl.1 rfl (Nat.le_of_ble_eq_true rfl) ⟨Nat.zero_le _, Nat.zero_le _⟩ dX4_scrap_44 (fun H locs hP hS _ _ => ?_)
      refine lv_aload_n hx hb dX4_scrap_47 rfl (lv_at hl 0 rfl) ?_
      refine va_get (D := D) (ci := 4) (v := .ref (q + 1)) (C := RX4) (T := TX4) (N := 9) hx hb hts hinX4 hown hK hP 0 rfl rfl 0 (by decide) hf10 (fun _ h9 => h9) rfl dX4_scrap_48 ?_
      refine va_get (D := D) (ci := 0) (v := .ref (q + 7)) (C := RX0) (T := TX0) (N := 13) hx hb hts hinX0 hown hK hP 1 rfl rfl 5 (by decide) hf203 (fun _ h9 => h9) rfl dX4_scrap_51 ?_
      refine lv_iload_n hx hb dX4_scrap_54 rfl (lv_at hl 1 rfl) ?_
      obtain ⟨hg3, h⟩ := gd_some h
      refine g_iald (f := (lPl (gLift r44))) (k := p0.toNatClampNeg) hx hb hK hP 7 0 rfl rfl hg3 rfl dX4_scrap_55 ?_
      refine lv_istore_n (lv' := [(2, .int ((lPl (gLift r44)) p0.toNatClampNeg)), (0, .ref q), (1, .int p0)]) hx hb dX4_scrap_56 rfl hl (by decide) rfl (fun ls hl => ?_)
      refine lv_aload_n hx hb dX4_scrap_57 rfl (lv_at hl 1 rfl) ?_
      refine va_get (D := D) (ci := 4) (v := .ref (q + 1)) (C := RX4) (T := TX4) (N := 9) hx hb hts hinX4 hown hK hP 0 rfl rfl 0 (by decide) hf10 (fun _ h9 => h9) rfl dX4_scrap_58 ?_
      refine lv_iload_n hx hb dX4_scrap_61 rfl (lv_at hl 2 rfl) ?_
      refine lv_iconst (v := 3) hx hb dX4_scrap_62 (by decide) ?_
      obtain ⟨r63, hr63, h⟩ := bd_some h
      refine gc_wv (As := [.int p0, .int 3]) (rest := []) ⟨hx, hb, hml, hown, hts⟩ hK (kX0_move l D cI cC cZ cQ cJ (q + 1) (gLift r44) p0 3 hr63) (cwV 2 hts gX4_scrap_X0_move rfl rfl rfl (by decide +kernel) ⟨Nat.le_of_ble_eq_true rfl, Nat.le_of_ble_eq_true rfl⟩) (va_recv hK (GW_lift (G := r44) hP) (ci := 0) (q0 := 0) rfl rfl) (GW_lift (G := r44) hP) hS GW_inLift rfl hl.1 rfl (Nat.le_of_ble_eq_true rfl) ⟨Nat.zero_le _, Nat.zero_le _⟩ dX4_scrap_63 (fun H1 locs hP1 hS _ hk1 => ?_)
      have hP : va_P D vwCl (GW cI cC cZ cQ q (r63, (gTrial r44), (gTxt r44), (gSum r44), (gHis r44), (gSav r44), (gSvd r44), (gRem r44), (gNxt r44))) H1 := GW_putLift (G := r44) hP hP1 hk1
      generalize H1 = H at hP hS ⊢
      refine lv_iload_n hx hb dX4_scrap_66 rfl (lv_at hl 0 rfl) ?_
      have h := Option.some.inj h
      subst h
      refine vx_ret ?_
      refine W.widen (k := 1) (n := 6) (by decide) (by decide) ?_
      exact W.iret (v := ((lPl (gLift r44)) p0.toNatClampNeg)) hx hb hr (fun t ht hW => ⟨⟨_, (), rfl, ⟨rfl, rfl⟩, gh ht hP⟩, hS.F ht⟩) hS.2.2 dX4_scrap_67
    · replace h := (if_neg c2).symm.trans h
      have h := Option.some.inj h
      subst h
      obtain ⟨sa, hsa⟩ := hE.2.2.2.1 (201, "the grip is scrapped") (by decide +kernel)
      exact vx_throwS hx hb hlS (own := RX4) (cls := gISE) (names := gNm) (A := (fIv q 201)) hown (by decide +kernel) (by decide +kernel) (hts (.classLink RX4 70 gISE) (by decide +kernel)) (hts (.initialized gISE) (by decide +kernel)) hsa (vx_hat (fun w hw => hts w (List.mem_cons_of_mem _ (List.mem_append_right _ hw))) gx_ng_ISE (vx_c (va_Nw.use rfl (hE.2.2.2.2.1 gISE (by decide +kernel))) (vx_c (va_Nw.use rfl (hE.2.2.2.2.2 _ (List.mem_cons_self))) (vx_c (va_Nw.use rfl (hE.2.2.2.2.2 _ (List.mem_cons_of_mem _ List.mem_cons_self))) (vx_c (va_Nw.use rfl (hE.2.2.2.2.2 _ (List.mem_cons_of_mem _ (List.mem_cons_of_mem _ List.mem_cons_self)))) vx_n))))) gx_ot_ISE (hE.2.1.narrow (fun _ h => Nat.le_trans hlo h.1)) (hE.2.2.1.narrow (fun _ h => Nat.le_trans hlo h.1)) hS (hl.1.trans hml.symm) dX4_scrap_33 dX4_scrap_36 dX4_scrap_37 dX4_scrap_39 dX4_scrap_42 (fun x9 hx9 => (hnx x9 hx9).elim) (by decide) (by decide) (by decide) (by decide) hlocks (fun t9 hv9 hz9 hk9 => ⟨(), trivial, ⟨rfl, Nat.succ_ne_zero 1, (gx_end hP hS t9 hz9 hk9).1⟩, (gx_end hP hS t9 hz9 hk9).2⟩) hS.2.2 (by decide) (by decide)
  · replace h := (if_pos c1).symm.trans h
    have h := Option.some.inj h
    subst h
    obtain ⟨sa, hsa⟩ := hE.2.2.2.1 (126, "no such grip") (by decide +kernel)
    exact vx_throwS hx hb hlS (own := RX4) (cls := gIOB) (names := gNm) (A := (fIv q 201)) hown (by decide +kernel) (by decide +kernel) (hts (.classLink RX4 124 gIOB) (by decide +kernel)) (hts (.initialized gIOB) (by decide +kernel)) hsa (vx_hat (fun w hw => hts w (List.mem_cons_of_mem _ (List.mem_append_left _ (List.mem_append_right _ hw)))) gx_ng_IOB (vx_c (va_Nw.use rfl (hE.2.2.2.2.1 gIOB (by decide +kernel))) (vx_c (va_Nw.use rfl (hE.2.2.2.2.2 _ (List.mem_cons_self))) (vx_c (va_Nw.use rfl (hE.2.2.2.2.2 _ (List.mem_cons_of_mem _ List.mem_cons_self))) (vx_c (va_Nw.use rfl (hE.2.2.2.2.2 _ (List.mem_cons_of_mem _ (List.mem_cons_of_mem _ List.mem_cons_self)))) vx_n))))) gx_ot_IOB (hE.2.1.narrow (fun _ h => Nat.le_trans hlo h.1)) (hE.2.2.1.narrow (fun _ h => Nat.le_trans hlo h.1)) hS (hl.1.trans hml.symm) dX4_scrap_11 dX4_scrap_14 dX4_scrap_15 dX4_scrap_17 dX4_scrap_20 (fun x9 hx9 => (hnx x9 hx9).elim) (by decide) (by decide) (by decide) (by decide) hlocks (fun t9 hv9 hz9 hk9 => ⟨(), trivial, ⟨rfl, Nat.succ_ne_zero 2, (gx_end hP hS t9 hz9 hk9).1⟩, (gx_end hP hS t9 hz9 hk9).2⟩) hS.2.2 (by decide) (by decide)
set_option maxHeartbeats 4000000 in
set_option maxRecDepth 100000 in
theorem kX4_setLimit (l : Launch) (D : va_G) (cI cC cZ cQ cJ : ClassId) (t lo : Nat) (q : Nat) (G : GSt) (p0 : Int32) (p1 : Int32) (hlo : lo ≤ q) (hlS : l.stackTraces = false) {R : Nat × Int32 × GSt} (h : fX4_setLimit G p0 p1 = some R) : vx_Met l yX4_setLimit wsX4_setLimit ({ frames := 6, cells := 1, slots := 6, locals := 104 } : Room) (va_Pc [.ref q, .int p0, .int p1] (gBe D (gTy cI cC cZ cQ cJ) t lo (va_P D vwCl (GW cI cC cZ cQ q G)))) (va_Qi (fun r (_ : Unit) => R.1 = 0 ∧ r = R.2.1) (fun _ t => va_P D vwCl (GW cI cC cZ cQ q R.2.2) t.heap) (fIv q 201)) (vx_X (fun _ : Unit => True) (fun E _ t => E = gEx R.1 ∧ R.1 ≠ 0 ∧ va_P D vwCl (GW cI cC cZ cQ q R.2.2) t.heap) (fIv q 201)) 1 6 (fIv q 201) := by
  refine vx_ofW (cc := cX4_setLimit) (maxL := 4) (ret := (some .int)) (by decide) rfl ?_
  intro p e s m args below meth c s₁ B hml hnx hv
  obtain ⟨rfl, ⟨hP, hK⟩, hE⟩ := hv
  have hZ := hE.1
  have hx := B.exec
  have hb := B.bytes
  have hr := B.returns
  have hts := atoms_spec (ws := wsX4_setLimit) B.pre
  have hown : s.vm.findClass RX4 = some m.cls := findClass_of_methodNamed B.named
  have hlocks := B.notSynchronized
  have hinX4 : ∀ w ∈ wsX40, w ∈ wsX4_setLimit := by decide +kernel
  have hinX0 : ∀ w ∈ wsX00, w ∈ wsX4_setLimit := by decide +kernel
  have hf10 := hts (.fieldLink RX4 10 "GripInspector" "lift" "LGripInspector$Lift;") (by decide +kernel)
  have hf114 := hts (.fieldLink RX4 114 "GripInspector$Lift" "limits" "[I") (by decide +kernel)
  generalize hRM : (headSpec wsX4_setLimit ({ frames := 6, cells := 1, slots := 6, locals := 104 } : Room)).room = RM
  replace hRM : ({ frames := 6, cells := 1, slots := 6, locals := 104 } : Room) = RM := hRM
  subst hRM
  have hl := lv_entry ([.ref q, .int p0, .int p1]) (n := 4) (Nat.le_of_ble_eq_true rfl)
  rw [lg_entry_eq]
  generalize (lg_sl ([.ref q, .int p0, .int p1]) ++ List.replicate (4 - (lg_sl ([.ref q, .int p0, .int p1])).length) Slot.unset).toArray = ls at hl ⊢
  have hl : lv_has ls 4 [(0, .ref q), (1, .int p0), (2, .int p1)] := hl
  have hS : va_S (fIv q 201) s.heap s.heap [] := va_S.rf
  unfold fX4_setLimit at h
  obtain ⟨H, hH⟩ : ∃ H, H = s.heap := ⟨_, rfl⟩
  obtain ⟨locs, hlz⟩ : ∃ z : List Loc, z = [] := ⟨_, rfl⟩
  have hP : va_P D vwCl (GW cI cC cZ cQ q G) H := by rw [hH]; exact hP
  have hS : va_S (fIv q 201) s.heap H locs := by rw [hH, hlz]; exact hS
  refine gc_at hH hlz ?_
  refine lv_iload_n hx hb dX4_setLimit_0 rfl (lv_at hl 1 rfl) ?_
  refine lv_iload_n hx hb dX4_setLimit_1 rfl (lv_at hl 2 rfl) ?_
  obtain ⟨r2, hr2, h⟩ := bd_some h
  refine gs_si (As := [.int p0, .int p1]) (rest := []) ⟨hx, hb, hml, hown, hts⟩ (gZ_now hZ hS (fun _ h => Nat.le_trans hlo h.1)) hK (kX4_isLimit l D cI cC cZ cQ cJ t lo p0 p1 hr2) (va_cwS 2 hts gX4_setLimit_X4_isLimit rfl rfl rfl (by decide +kernel) ⟨Nat.le_of_ble_eq_true rfl, Nat.le_of_ble_eq_true rfl⟩)  trivial rfl hl.1 rfl (Nat.le_of_ble_eq_true rfl) ⟨Nat.zero_le _, Nat.zero_le _⟩ dX4_setLimit_2 ?_
  refine lv_if_ne (tgt := 18) hx hb dX4_setLimit_5 (by decide) (fun c1 => ?_) (fun c1 => ?_)
  · replace h := (if_neg c1).symm.trans h
    refine lv_aload_n hx hb dX4_setLimit_18 rfl (lv_at hl 0 rfl) ?_
    obtain ⟨r19, hr19, h⟩ := bd_some h
    refine gc_wv (As := []) (rest := []) ⟨hx, hb, hml, hown, hts⟩ hK (kX4_remember l D cI cC cZ cQ cJ q G hr19) (cwV 0 hts gX4_setLimit_X4_remember rfl rfl rfl (by decide +kernel) ⟨Nat.le_of_ble_eq_true rfl, Nat.le_of_ble_eq_true rfl⟩) (va_recv hK hP (ci := 4) (q0 := 0) rfl rfl) hP hS (fun _ h => h) rfl hl.1 rfl (Nat.le_of_ble_eq_true rfl) ⟨Nat.zero_le _, Nat.zero_le _⟩ dX4_setLimit_19 (fun H locs hP hS _ _ => ?_)
    refine lv_aload_n hx hb dX4_setLimit_22 rfl (lv_at hl 0 rfl) ?_
    refine va_get (D := D) (ci := 4) (v := .ref (q + 1)) (C := RX4) (T := TX4) (N := 9) hx hb hts hinX4 hown hK hP 0 rfl rfl 0 (by decide) hf10 (fun _ h9 => h9) rfl dX4_setLimit_23 ?_
    refine va_get (D := D) (ci := 0) (v := .ref (q + 10)) (C := RX0) (T := TX0) (N := 13) hx hb hts hinX0 hown hK hP 1 rfl rfl 8 (by decide) hf114 (fun _ h9 => h9) rfl dX4_setLimit_26 ?_
    refine lv_iload_n hx hb dX4_setLimit_29 rfl (lv_at hl 1 rfl) ?_
    obtain ⟨hg2, h⟩ := gd_some h
    refine g_iald (f := (lLi (gLift r19))) (k := p0.toNatClampNeg) hx hb hK hP 10 0 rfl rfl hg2 rfl dX4_setLimit_30 ?_
    refine lv_istore_n (lv' := [(3, .int ((lLi (gLift r19)) p0.toNatClampNeg)), (0, .ref q), (1, .int p0), (2, .int p1)]) hx hb dX4_setLimit_31 rfl hl (by decide) rfl (fun ls hl => ?_)
    refine lv_aload_n hx hb dX4_setLimit_32 rfl (lv_at hl 1 rfl) ?_
    refine va_get (D := D) (ci := 4) (v := .ref (q + 1)) (C := RX4) (T := TX4) (N := 9) hx hb hts hinX4 hown hK hP 0 rfl rfl 0 (by decide) hf10 (fun _ h9 => h9) rfl dX4_setLimit_33 ?_
    refine va_get (D := D) (ci := 0) (v := .ref (q + 10)) (C := RX0) (T := TX0) (N := 13) hx hb hts hinX0 hown hK hP 1 rfl rfl 8 (by decide) hf114 (fun _ h9 => h9) rfl dX4_setLimit_36 ?_
    refine lv_iload_n hx hb dX4_setLimit_39 rfl (lv_at hl 2 rfl) ?_
    refine lv_iload_n hx hb dX4_setLimit_40 rfl (lv_at hl 3 rfl) ?_
    refine g_iast (f := (lLi (gLift r19))) (k := p0.toNatClampNeg) hx hb hK hP GW_selfI hS 10 0 rfl rfl hg2 rfl dX4_setLimit_41 (fun H locs hP hS => ?_)
    have hP : va_P D vwCl (GW cI cC cZ cQ q (((lWe (gLift r19)), (lCy (gLift r19)), (lWr (gLift r19)), (lPu (gLift r19)), (lSl (gLift r19)), (lPl (gLift r19)), (lSp (gLift r19)), (lSt (gLift r19)), (upd (lLi (gLift r19)) p0.toNatClampNeg p1), (lN_ (gLift r19)), (lStn (gLift r19)), (lClk (gLift r19)), (lRnd (gLift r19))), (gTrial r19), (gTxt r19), (gSum r19), (gHis r19), (gSav r19), (gSvd r19), (gRem r19), (gNxt r19))) H := hP
    refine lv_iload_n hx hb dX4_setLimit_42 rfl (lv_at hl 0 rfl) ?_
    have h := Option.some.inj h
    subst h
    refine vx_ret ?_
    refine W.widen (k := 1) (n := 6) (by decide) (by decide) ?_
    exact W.iret (v := ((lLi (gLift r19)) p0.toNatClampNeg)) hx hb hr (fun t ht hW => ⟨⟨_, (), rfl, ⟨rfl, rfl⟩, gh ht hP⟩, hS.F ht⟩) hS.2.2 dX4_setLimit_43
  · replace h := (if_pos c1).symm.trans h
    have h := Option.some.inj h
    subst h
    obtain ⟨sa, hsa⟩ := hE.2.2.2.1 (209, "what or v is out of range") (by decide +kernel)
    exact vx_throwS hx hb hlS (own := RX4) (cls := gIAE) (names := gNm) (A := (fIv q 201)) hown (by decide +kernel) (by decide +kernel) (hts (.classLink RX4 56 gIAE) (by decide +kernel)) (hts (.initialized gIAE) (by decide +kernel)) hsa (vx_hat (fun w hw => hts w (List.mem_cons_of_mem _ (List.mem_append_right _ hw))) gx_ng_IAE (vx_c (va_Nw.use rfl (hE.2.2.2.2.1 gIAE (by decide +kernel))) (vx_c (va_Nw.use rfl (hE.2.2.2.2.2 _ (List.mem_cons_self))) (vx_c (va_Nw.use rfl (hE.2.2.2.2.2 _ (List.mem_cons_of_mem _ List.mem_cons_self))) (vx_c (va_Nw.use rfl (hE.2.2.2.2.2 _ (List.mem_cons_of_mem _ (List.mem_cons_of_mem _ List.mem_cons_self)))) vx_n))))) gx_ot_IAE (hE.2.1.narrow (fun _ h => Nat.le_trans hlo h.1)) (hE.2.2.1.narrow (fun _ h => Nat.le_trans hlo h.1)) hS (hl.1.trans hml.symm) dX4_setLimit_8 dX4_setLimit_11 dX4_setLimit_12 dX4_setLimit_14 dX4_setLimit_17 (fun x9 hx9 => (hnx x9 hx9).elim) (by decide) (by decide) (by decide) (by decide) hlocks (fun t9 hv9 hz9 hk9 => ⟨(), trivial, ⟨rfl, Nat.succ_ne_zero 0, (gx_end hP hS t9 hz9 hk9).1⟩, (gx_end hP hS t9 hz9 hk9).2⟩) hS.2.2 (by decide) (by decide)
set_option maxHeartbeats 4000000 in
set_option maxRecDepth 100000 in
theorem kX4_setRandom (l : Launch) (D : va_G) (cI cC cZ cQ cJ : ClassId) (q : Nat) (G : GSt) (p0 : Int64) {R : Int64 × GSt} (h : fX4_setRandom G p0 = some R) : Met l yX4_setRandom wsX4_setRandom ({ frames := 4, cells := 0, slots := 0, locals := 104 } : Room) (va_Pc [.ref q, .long p0] (gB D (gTy cI cC cZ cQ cJ) (va_P D vwCl (GW cI cC cZ cQ q G)))) (va_Ql (fun r (_ : Unit) => r = R.1) (fun _ t => va_P D vwCl (GW cI cC cZ cQ q R.2) t.heap) (fIv q 201)) 0 0 (fIv q 201) := by
  refine Met.ofW (cc := cX4_setRandom) (maxL := 5) (ret := (some .long)) (by decide) rfl ?_
  intro p e s m args below meth c s₁ B hml hv
  obtain ⟨rfl, hP, hK⟩ := hv
  have hx := B.exec
  have hb := B.bytes
  have hr := B.returns
  have hts := atoms_spec (ws := wsX4_setRandom) B.pre
  have hown : s.vm.findClass RX4 = some m.cls := findClass_of_methodNamed B.named
  have hlocks := B.notSynchronized
  have hinX4 : ∀ w ∈ wsX40, w ∈ wsX4_setRandom := by decide +kernel
  have hinX0 : ∀ w ∈ wsX00, w ∈ wsX4_setRandom := by decide +kernel
  have hf10 := hts (.fieldLink RX4 10 "GripInspector" "lift" "LGripInspector$Lift;") (by decide +kernel)
  have hf146 := hts (.fieldLink RX4 146 "GripInspector$Lift" "randomState" "J") (by decide +kernel)
  generalize hRM : (headSpec wsX4_setRandom ({ frames := 4, cells := 0, slots := 0, locals := 104 } : Room)).room = RM
  replace hRM : ({ frames := 4, cells := 0, slots := 0, locals := 104 } : Room) = RM := hRM
  subst hRM
  have hl := lv_entry ([.ref q, .long p0]) (n := 5) (Nat.le_of_ble_eq_true rfl)
  rw [lg_entry_eq]
  generalize (lg_sl ([.ref q, .long p0]) ++ List.replicate (5 - (lg_sl ([.ref q, .long p0])).length) Slot.unset).toArray = ls at hl ⊢
  have hl : lv_has ls 5 [(0, .ref q), (1, .long p0)] := hl
  have hS : va_S (fIv q 201) s.heap s.heap [] := va_S.rf
  unfold fX4_setRandom at h
  obtain ⟨H, hH⟩ : ∃ H, H = s.heap := ⟨_, rfl⟩
  obtain ⟨locs, hlz⟩ : ∃ z : List Loc, z = [] := ⟨_, rfl⟩
  have hP : va_P D vwCl (GW cI cC cZ cQ q G) H := by rw [hH]; exact hP
  have hS : va_S (fIv q 201) s.heap H locs := by rw [hH, hlz]; exact hS
  refine gc_at hH hlz ?_
  refine lv_aload_n hx hb dX4_setRandom_0 rfl (lv_at hl 0 rfl) ?_
  obtain ⟨r1, hr1, h⟩ := bd_some h
  refine gc_wv (As := []) (rest := []) ⟨hx, hb, hml, hown, hts⟩ hK (kX4_remember l D cI cC cZ cQ cJ q G hr1) (cwV 0 hts gX4_setRandom_X4_remember rfl rfl rfl (by decide +kernel) ⟨Nat.le_of_ble_eq_true rfl, Nat.le_of_ble_eq_true rfl⟩) (va_recv hK hP (ci := 4) (q0 := 0) rfl rfl) hP hS (fun _ h => h) rfl hl.1 rfl (Nat.le_of_ble_eq_true rfl) ⟨Nat.zero_le _, Nat.zero_le _⟩ dX4_setRandom_1 (fun H locs hP hS _ _ => ?_)
  refine lv_aload_n hx hb dX4_setRandom_4 rfl (lv_at hl 0 rfl) ?_
  refine va_get (D := D) (ci := 4) (v := .ref (q + 1)) (C := RX4) (T := TX4) (N := 9) hx hb hts hinX4 hown hK hP 0 rfl rfl 0 (by decide) hf10 (fun _ h9 => h9) rfl dX4_setRandom_5 ?_
  refine va_get (D := D) (ci := 0) (v := .long (lRnd (gLift r1))) (C := RX0) (T := TX0) (N := 13) hx hb hts hinX0 hown hK hP 1 rfl rfl 12 (by decide) hf146 (fun _ h9 => h9) rfl dX4_setRandom_8 ?_
  refine lv_lstore_n (lv' := [(3, .long (lRnd (gLift r1))), (0, .ref q), (1, .long p0)]) hx hb dX4_setRandom_11 rfl hl (by decide) rfl (fun ls hl => ?_)
  refine lv_aload_n hx hb dX4_setRandom_12 rfl (lv_at hl 1 rfl) ?_
  refine va_get (D := D) (ci := 4) (v := .ref (q + 1)) (C := RX4) (T := TX4) (N := 9) hx hb hts hinX4 hown hK hP 0 rfl rfl 0 (by decide) hf10 (fun _ h9 => h9) rfl dX4_setRandom_13 ?_
  refine lv_lload_n hx hb dX4_setRandom_16 rfl (lv_at hl 2 rfl) ?_
  refine va_put (D := D) (ci := 0) (v := .long p0) (ty := .long) (C := RX0) (T := TX0) (N := 13) hx hb hts hinX0 tyX0 tyX0_ok nmX0 hown hK hP GW_selfI hS 1 rfl rfl 12 (by decide) hf146 (fun _ h9 => h9) rfl (by decide +kernel) rfl rfl (Nat.le_of_ble_eq_true rfl) dX4_setRandom_17 (fun H locs hP _ hS => ?_)
  have hP : va_P D vwCl (GW cI cC cZ cQ q (((lWe (gLift r1)), (lCy (gLift r1)), (lWr (gLift r1)), (lPu (gLift r1)), (lSl (gLift r1)), (lPl (gLift r1)), (lSp (gLift r1)), (lSt (gLift r1)), (lLi (gLift r1)), (lN_ (gLift r1)), (lStn (gLift r1)), (lClk (gLift r1)), p0), (gTrial r1), (gTxt r1), (gSum r1), (gHis r1), (gSav r1), (gSvd r1), (gRem r1), (gNxt r1))) H := hP
  refine lv_lload_n hx hb dX4_setRandom_20 rfl (lv_at hl 0 rfl) ?_
  have h := Option.some.inj h
  subst h
  exact W.lret (v := (lRnd (gLift r1))) hx hb hr (fun t ht hW => ⟨⟨_, (), rfl, rfl, gh ht hP⟩, hS.F ht⟩) hS.2.2 dX4_setRandom_21

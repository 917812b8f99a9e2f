set_option maxHeartbeats 4000000 in
set_option maxRecDepth 100000 in
theorem kX4_undo (l : Launch) (D : va_G) (cI cC cZ cQ cJ : ClassId) (t lo : Nat) (q : Nat) (G : GSt) (hlo : lo ≤ q) (hlS : l.stackTraces = false) {R : Nat × Int32 × GSt} (h : fX4_undo G = some R) : vx_Met l yX4_undo wsX4_undo ({ frames := 6, cells := 1, slots := 6, locals := 84 } : Room) (va_Pc [.ref q] (gBe D (gTy cI cC cZ cQ cJ) t lo (va_P D vwCl (GW cI cC cZ cQ q G)))) (va_Qi (fun r (_ : Unit) => R.1 = 0 ∧ r = R.2.1) (fun _ t => va_P D vwCl (GW cI cC cZ cQ q R.2.2) t.heap) (fIv q 201)) (vx_X (fun _ : Unit => True) (fun E _ t => E = gEx R.1 ∧ R.1 ≠ 0 ∧ va_P D vwCl (GW cI cC cZ cQ q R.2.2) t.heap) (fIv q 201)) 1 6 (fIv q 201) := by
  refine vx_ofW (cc := cX4_undo) (maxL := 1) (ret := (some .int)) (by decide) rfl ?_
  intro p e s m args below meth c s₁ B hml hnx hv
  obtain ⟨rfl, ⟨hP, hK⟩, hE⟩ := hv
  have hZ := hE.1
  have hx := B.exec
  have hb := B.bytes
  have hr := B.returns
  have hts := atoms_spec (ws := wsX4_undo) B.pre
  have hown : s.vm.findClass RX4 = some m.cls := findClass_of_methodNamed B.named
  have hlocks := B.notSynchronized
  have hinX4 : ∀ w ∈ wsX40, w ∈ wsX4_undo := by decide +kernel
  have hf49 := hts (.fieldLink RX4 49 "GripInspector" "remembered" "I") (by decide +kernel)
  have hf53 := hts (.fieldLink RX4 53 "GripInspector" "nextRemembered" "I") (by decide +kernel)
  have hf38 := hts (.fieldLink RX4 38 "GripInspector" "history" "LGripInspector$Memory;") (by decide +kernel)
  have hf10 := hts (.fieldLink RX4 10 "GripInspector" "lift" "LGripInspector$Lift;") (by decide +kernel)
  generalize hRM : (headSpec wsX4_undo ({ frames := 6, cells := 1, slots := 6, locals := 84 } : Room)).room = RM
  replace hRM : ({ frames := 6, cells := 1, slots := 6, locals := 84 } : Room) = RM := hRM
  subst hRM
  have hl := lv_entry ([.ref q]) (n := 1) (Nat.le_of_ble_eq_true rfl)
  rw [lg_entry_eq]
  generalize (lg_sl ([.ref q]) ++ List.replicate (1 - (lg_sl ([.ref q])).length) Slot.unset).toArray = ls at hl ⊢
  have hl : lv_has ls 1 [(0, .ref q)] := hl
  have hS : va_S (fIv q 201) s.heap s.heap [] := va_S.rf
  unfold fX4_undo at h
  obtain ⟨H, hH⟩ : ∃ H, H = s.heap := ⟨_, rfl⟩
  obtain ⟨locs, hlz⟩ : ∃ z : List Loc, z = [] := ⟨_, rfl⟩
  have hP : va_P D vwCl (GW cI cC cZ cQ q G) H := by rw [hH]; exact hP
  have hS : va_S (fIv q 201) s.heap H locs := by rw [hH, hlz]; exact hS
  refine gc_at hH hlz ?_
  refine lv_aload_n hx hb dX4_undo_0 rfl (lv_at hl 0 rfl) ?_
  refine va_get (D := D) (ci := 4) (v := .int (gRem G)) (C := RX4) (T := TX4) (N := 9) hx hb hts hinX4 hown hK hP 0 rfl rfl 7 (by decide) hf49 (fun _ h9 => h9) rfl dX4_undo_1 ?_
  refine lv_if_ne (tgt := 17) hx hb dX4_undo_4 (by decide) (fun c1 => ?_) (fun c1 => ?_)
  · replace h := (if_neg c1).symm.trans h
    refine lv_aload_n hx hb dX4_undo_17 rfl (lv_at hl 0 rfl) ?_
    refine lv_dup hx hb dX4_undo_18 rfl ?_
    refine va_get (D := D) (ci := 4) (v := .int (gRem G)) (C := RX4) (T := TX4) (N := 9) hx hb hts hinX4 hown hK hP 0 rfl rfl 7 (by decide) hf49 (fun _ h9 => h9) rfl dX4_undo_19 ?_
    refine lv_iconst (v := 1) hx hb dX4_undo_22 (by decide) ?_
    refine lv_isub hx hb dX4_undo_23 ?_
    refine va_put (D := D) (ci := 4) (v := .int ((gRem G) - 1)) (ty := .int) (C := RX4) (T := TX4) (N := 9) hx hb hts hinX4 tyX4 tyX4_ok nmX4 hown hK hP GW_selfI hS 0 rfl rfl 7 (by decide) hf49 (fun _ h9 => h9) rfl (by decide +kernel) rfl rfl (Nat.le_of_ble_eq_true rfl) dX4_undo_24 (fun H locs hP _ hS => ?_)
    have hP : va_P D vwCl (GW cI cC cZ cQ q ((gLift G), (gTrial G), (gTxt G), (gSum G), (gHis G), (gSav G), (gSvd G), ((gRem G) - 1), (gNxt G))) H := hP
    refine lv_aload_n hx hb dX4_undo_27 rfl (lv_at hl 0 rfl) ?_
    refine lv_aload_n hx hb dX4_undo_28 rfl (lv_at hl 0 rfl) ?_
    refine va_get (D := D) (ci := 4) (v := .int (gNxt G)) (C := RX4) (T := TX4) (N := 9) hx hb hts hinX4 hown hK hP 0 rfl rfl 8 (by decide) hf53 (fun _ h9 => h9) rfl dX4_undo_29 ?_
    refine lv_if_le (tgt := 44) hx hb dX4_undo_32 (by decide) (fun c2 => ?_) (fun c2 => ?_)
    · replace h := (if_pos c2).symm.trans h
      refine lv_bipush (v := 13) hx hb dX4_undo_44 (by decide) ?_
      refine va_put (D := D) (ci := 4) (v := .int 13) (ty := .int) (C := RX4) (T := TX4) (N := 9) hx hb hts hinX4 tyX4 tyX4_ok nmX4 hown hK hP GW_selfI hS 0 rfl rfl 8 (by decide) hf53 (fun _ h9 => h9) rfl (by decide +kernel) rfl rfl (Nat.le_of_ble_eq_true rfl) dX4_undo_46 (fun H locs hP _ hS => ?_)
      have hP : va_P D vwCl (GW cI cC cZ cQ q ((gLift G), (gTrial G), (gTxt G), (gSum G), (gHis G), (gSav G), (gSvd G), ((gRem G) - 1), 13)) H := hP
      refine lv_aload_n hx hb dX4_undo_49 rfl (lv_at hl 0 rfl) ?_
      refine va_get (D := D) (ci := 4) (v := .ref (q + 36)) (C := RX4) (T := TX4) (N := 9) hx hb hts hinX4 hown hK hP 0 rfl rfl 4 (by decide) hf38 (fun _ h9 => h9) rfl dX4_undo_50 ?_
      refine lv_aload_n hx hb dX4_undo_53 rfl (lv_at hl 0 rfl) ?_
      refine va_get (D := D) (ci := 4) (v := .int 13) (C := RX4) (T := TX4) (N := 9) hx hb hts hinX4 hown hK hP 0 rfl rfl 8 (by decide) hf53 (fun _ h9 => h9) rfl dX4_undo_54 ?_
      refine lv_aload_n hx hb dX4_undo_57 rfl (lv_at hl 0 rfl) ?_
      refine va_get (D := D) (ci := 4) (v := .ref (q + 1)) (C := RX4) (T := TX4) (N := 9) hx hb hts hinX4 hown hK hP 0 rfl rfl 0 (by decide) hf10 (fun _ h9 => h9) rfl dX4_undo_58 ?_
      refine gc_wv (As := [.int 13, .ref (q + 1)]) (rest := []) (B := (mkB D cI cQ (q + 36) 14 (q + 1) (gHis G) (gLift G))) (B' := (mkB D cI cQ (q + 36) 14 (q + 1) (gHis G) (lCopy (gLift G) ((gHis G) 13)))) ⟨hx, hb, hml, hown, hts⟩ hK (kX2_recall l D cI cC cZ cQ cJ (q + 36) 14 (q + 1) (gHis G) (gLift G) 13 (by decide) (vin_lit rfl) (by omega)) (cwV 2 hts gX4_undo_X2_recall rfl rfl rfl (by decide +kernel) ⟨Nat.le_of_ble_eq_true rfl, Nat.le_of_ble_eq_true rfl⟩) (va_recv hK (GW_his (G := ((gLift G), (gTrial G), (gTxt G), (gSum G), (gHis G), (gSav G), (gSvd G), ((gRem G) - 1), 13)) hP) (ci := 2) (q0 := 0) rfl rfl) ⟨(GW_his (G := ((gLift G), (gTrial G), (gTxt G), (gSum G), (gHis G), (gSav G), (gSvd G), ((gRem G) - 1), 13)) hP), (GW_lift (G := ((gLift G), (gTrial G), (gTxt G), (gSum G), (gHis G), (gSav G), (gSvd G), ((gRem G) - 1), 13)) hP)⟩ hS GW_inHisLift rfl hl.1 rfl (Nat.le_of_ble_eq_true rfl) ⟨Nat.zero_le _, Nat.zero_le _⟩ dX4_undo_61 (fun H1 locs hB1 hS _ hk1 => ?_)
      have hP : va_P D vwCl (GW cI cC cZ cQ q ((lCopy (gLift G) ((gHis G) 13)), (gTrial G), (gTxt G), (gSum G), (gHis G), (gSav G), (gSvd G), ((gRem G) - 1), 13)) H1 := GW_putHisLift (G := ((gLift G), (gTrial G), (gTxt G), (gSum G), (gHis G), (gSav G), (gSvd G), ((gRem G) - 1), 13)) hP hB1.1 hB1.2 (fun a hl n1 n2 => hk1 a hl (fun z => z.elim n1 n2))
      generalize H1 = H at hP hS ⊢
      refine lv_aload_n hx hb dX4_undo_64 rfl (lv_at hl 0 rfl) ?_
      refine va_get (D := D) (ci := 4) (v := .int ((gRem G) - 1)) (C := RX4) (T := TX4) (N := 9) hx hb hts hinX4 hown hK hP 0 rfl rfl 7 (by decide) hf49 (fun _ h9 => h9) rfl dX4_undo_65 ?_
      have h := Option.some.inj h
      subst h
      refine vx_ret ?_
      refine W.widen (k := 1) (n := 6) (by decide) (by decide) ?_
      exact W.iret (v := ((gRem G) - 1)) hx hb hr (fun t ht hW => ⟨⟨_, (), rfl, ⟨rfl, rfl⟩, gh ht hP⟩, hS.F ht⟩) hS.2.2 dX4_undo_68
    · replace h := (if_neg c2).symm.trans h
      refine lv_aload_n hx hb dX4_undo_35 rfl (lv_at hl 0 rfl) ?_
      refine va_get (D := D) (ci := 4) (v := .int (gNxt G)) (C := RX4) (T := TX4) (N := 9) hx hb hts hinX4 hown hK hP 0 rfl rfl 8 (by decide) hf53 (fun _ h9 => h9) rfl dX4_undo_36 ?_
      refine lv_iconst (v := 1) hx hb dX4_undo_39 (by decide) ?_
      refine lv_isub hx hb dX4_undo_40 ?_
      refine lv_goto (tgt := 46) hx hb dX4_undo_41 (by decide) ?_
      refine va_put (D := D) (ci := 4) (v := .int ((gNxt G) - 1)) (ty := .int) (C := RX4) (T := TX4) (N := 9) hx hb hts hinX4 tyX4 tyX4_ok nmX4 hown hK hP GW_selfI hS 0 rfl rfl 8 (by decide) hf53 (fun _ h9 => h9) rfl (by decide +kernel) rfl rfl (Nat.le_of_ble_eq_true rfl) dX4_undo_46 (fun H locs hP _ hS => ?_)
      have hP : va_P D vwCl (GW cI cC cZ cQ q ((gLift G), (gTrial G), (gTxt G), (gSum G), (gHis G), (gSav G), (gSvd G), ((gRem G) - 1), ((gNxt G) - 1))) H := hP
      refine lv_aload_n hx hb dX4_undo_49 rfl (lv_at hl 0 rfl) ?_
      refine va_get (D := D) (ci := 4) (v := .ref (q + 36)) (C := RX4) (T := TX4) (N := 9) hx hb hts hinX4 hown hK hP 0 rfl rfl 4 (by decide) hf38 (fun _ h9 => h9) rfl dX4_undo_50 ?_
      refine lv_aload_n hx hb dX4_undo_53 rfl (lv_at hl 0 rfl) ?_
      refine va_get (D := D) (ci := 4) (v := .int ((gNxt G) - 1)) (C := RX4) (T := TX4) (N := 9) hx hb hts hinX4 hown hK hP 0 rfl rfl 8 (by decide) hf53 (fun _ h9 => h9) rfl dX4_undo_54 ?_
      refine lv_aload_n hx hb dX4_undo_57 rfl (lv_at hl 0 rfl) ?_
      refine va_get (D := D) (ci := 4) (v := .ref (q + 1)) (C := RX4) (T := TX4) (N := 9) hx hb hts hinX4 hown hK hP 0 rfl rfl 0 (by decide) hf10 (fun _ h9 => h9) rfl dX4_undo_58 ?_
      obtain ⟨hg3, h⟩ := gd_some h
      refine gc_wv (As := [.int ((gNxt G) - 1), .ref (q + 1)]) (rest := []) (B := (mkB D cI cQ (q + 36) 14 (q + 1) (gHis G) (gLift G))) (B' := (mkB D cI cQ (q + 36) 14 (q + 1) (gHis G) (lCopy (gLift G) ((gHis G) ((((gNxt G) - 1)).toNatClampNeg))))) ⟨hx, hb, hml, hown, hts⟩ hK (kX2_recall l D cI cC cZ cQ cJ (q + 36) 14 (q + 1) (gHis G) (gLift G) ((gNxt G) - 1) (by decide) hg3 (by omega)) (cwV 2 hts gX4_undo_X2_recall rfl rfl rfl (by decide +kernel) ⟨Nat.le_of_ble_eq_true rfl, Nat.le_of_ble_eq_true rfl⟩) (va_recv hK (GW_his (G := ((gLift G), (gTrial G), (gTxt G), (gSum G), (gHis G), (gSav G), (gSvd G), ((gRem G) - 1), ((gNxt G) - 1))) hP) (ci := 2) (q0 := 0) rfl rfl) ⟨(GW_his (G := ((gLift G), (gTrial G), (gTxt G), (gSum G), (gHis G), (gSav G), (gSvd G), ((gRem G) - 1), ((gNxt G) - 1))) hP), (GW_lift (G := ((gLift G), (gTrial G), (gTxt G), (gSum G), (gHis G), (gSav G), (gSvd G), ((gRem G) - 1), ((gNxt G) - 1))) hP)⟩ hS GW_inHisLift rfl hl.1 rfl (Nat.le_of_ble_eq_true rfl) ⟨Nat.zero_le _, Nat.zero_le _⟩ dX4_undo_61 (fun H1 locs hB1 hS _ hk1 => ?_)
      have hP : va_P D vwCl (GW cI cC cZ cQ q ((lCopy (gLift G) ((gHis G) ((((gNxt G) - 1)).toNatClampNeg))), (gTrial G), (gTxt G), (gSum G), (gHis G), (gSav G), (gSvd G), ((gRem G) - 1), ((gNxt G) - 1))) H1 := GW_putHisLift (G := ((gLift G), (gTrial G), (gTxt G), (gSum G), (gHis G), (gSav G), (gSvd G), ((gRem G) - 1), ((gNxt G) - 1))) hP hB1.1 hB1.2 (fun a hl n1 n2 => hk1 a hl (fun z => z.elim n1 n2))
      generalize H1 = H at hP hS ⊢
      refine lv_aload_n hx hb dX4_undo_64 rfl (lv_at hl 0 rfl) ?_
      refine va_get (D := D) (ci := 4) (v := .int ((gRem G) - 1)) (C := RX4) (T := TX4) (N := 9) hx hb hts hinX4 hown hK hP 0 rfl rfl 7 (by decide) hf49 (fun _ h9 => h9) rfl dX4_undo_65 ?_
      have h := Option.some.inj h
      subst h
      refine vx_ret ?_
      refine W.widen (k := 1) (n := 6) (by decide) (by decide) ?_
      exact W.iret (v := ((gRem G) - 1)) hx hb hr (fun t ht hW => ⟨⟨_, (), rfl, ⟨rfl, rfl⟩, gh ht hP⟩, hS.F ht⟩) hS.2.2 dX4_undo_68
  · replace h := (if_pos c1).symm.trans h
    have h := Option.some.inj h
    subst h
    obtain ⟨sa, hsa⟩ := hE.2.2.2.1 (211, "no state is remembered") (by decide +kernel)
    exact vx_throwS hx hb hlS (own := RX4) (cls := gISE) (names := gNm) (A := (fIv q 201)) hown (by decide +kernel) (by decide +kernel) (hts (.classLink RX4 70 gISE) (by decide +kernel)) (hts (.initialized gISE) (by decide +kernel)) hsa (vx_hat (fun w hw => hts w (List.mem_cons_of_mem _ (List.mem_append_right _ hw))) gx_ng_ISE (vx_c (va_Nw.use rfl (hE.2.2.2.2.1 gISE (by decide +kernel))) (vx_c (va_Nw.use rfl (hE.2.2.2.2.2 _ (List.mem_cons_self))) (vx_c (va_Nw.use rfl (hE.2.2.2.2.2 _ (List.mem_cons_of_mem _ List.mem_cons_self))) (vx_c (va_Nw.use rfl (hE.2.2.2.2.2 _ (List.mem_cons_of_mem _ (List.mem_cons_of_mem _ List.mem_cons_self)))) vx_n))))) gx_ot_ISE (hE.2.1.narrow (fun _ h => Nat.le_trans hlo h.1)) (hE.2.2.1.narrow (fun _ h => Nat.le_trans hlo h.1)) hS (hl.1.trans hml.symm) dX4_undo_7 dX4_undo_10 dX4_undo_11 dX4_undo_13 dX4_undo_16 (fun x9 hx9 => (hnx x9 hx9).elim) (by decide) (by decide) (by decide) (by decide) hlocks (fun t9 hv9 hz9 hk9 => ⟨(), trivial, ⟨rfl, Nat.succ_ne_zero 1, (gx_end hP hS t9 hz9 hk9).1⟩, (gx_end hP hS t9 hz9 hk9).2⟩) hS.2.2 (by decide) (by decide)
set_option maxHeartbeats 4000000 in
set_option maxRecDepth 100000 in
theorem kX4_gap (l : Launch) (D : va_G) (cI cC cZ cQ cJ : ClassId) (t lo : Nat) (q : Nat) (G : GSt) (p0 : Int32) (hlo : lo ≤ q) (hlS : l.stackTraces = false) {R : Nat × Int32 × GSt} (h : fX4_gap G p0 = some R) : vx_Met l yX4_gap wsX4_gap ({ frames := 6, cells := 1, slots := 6, locals := 82 } : Room) (va_Pc [.ref q, .int p0] (gBe D (gTy cI cC cZ cQ cJ) t lo (va_P D vwCl (GW cI cC cZ cQ q G)))) (va_Qi (fun r (_ : Unit) => R.1 = 0 ∧ r = R.2.1) (fun _ t => va_P D vwCl (GW cI cC cZ cQ q R.2.2) t.heap) (fIv q 201)) (vx_X (fun _ : Unit => True) (fun E _ t => E = gEx R.1 ∧ R.1 ≠ 0 ∧ va_P D vwCl (GW cI cC cZ cQ q R.2.2) t.heap) (fIv q 201)) 1 6 (fIv q 201) := by
  refine vx_ofW (cc := cX4_gap) (maxL := 2) (ret := (some .int)) (by decide) rfl ?_
  intro p e s m args below meth c s₁ B hml hnx hv
  obtain ⟨rfl, ⟨hP, hK⟩, hE⟩ := hv
  have hZ := hE.1
  have hx := B.exec
  have hb := B.bytes
  have hr := B.returns
  have hts := atoms_spec (ws := wsX4_gap) B.pre
  have hown : s.vm.findClass RX4 = some m.cls := findClass_of_methodNamed B.named
  have hlocks := B.notSynchronized
  have hinX4 : ∀ w ∈ wsX40, w ∈ wsX4_gap := by decide +kernel
  have hf10 := hts (.fieldLink RX4 10 "GripInspector" "lift" "LGripInspector$Lift;") (by decide +kernel)
  generalize hRM : (headSpec wsX4_gap ({ frames := 6, cells := 1, slots := 6, locals := 82 } : Room)).room = RM
  replace hRM : ({ frames := 6, cells := 1, slots := 6, locals := 82 } : Room) = RM := hRM
  subst hRM
  have hl := lv_entry ([.ref q, .int p0]) (n := 2) (Nat.le_of_ble_eq_true rfl)
  rw [lg_entry_eq]
  generalize (lg_sl ([.ref q, .int p0]) ++ List.replicate (2 - (lg_sl ([.ref q, .int p0])).length) Slot.unset).toArray = ls at hl ⊢
  have hl : lv_has ls 2 [(0, .ref q), (1, .int p0)] := hl
  have hS : va_S (fIv q 201) s.heap s.heap [] := va_S.rf
  unfold fX4_gap at h
  obtain ⟨H, hH⟩ : ∃ H, H = s.heap := ⟨_, rfl⟩
  obtain ⟨locs, hlz⟩ : ∃ z : List Loc, z = [] := ⟨_, rfl⟩
  have hP : va_P D vwCl (GW cI cC cZ cQ q G) H := by rw [hH]; exact hP
  have hS : va_S (fIv q 201) s.heap H locs := by rw [hH, hlz]; exact hS
  refine gc_at hH hlz ?_
  refine lv_aload_n hx hb dX4_gap_0 rfl (lv_at hl 0 rfl) ?_
  refine va_get (D := D) (ci := 4) (v := .ref (q + 1)) (C := RX4) (T := TX4) (N := 9) hx hb hts hinX4 hown hK hP 0 rfl rfl 0 (by decide) hf10 (fun _ h9 => h9) rfl dX4_gap_1 ?_
  refine lv_iload_n hx hb dX4_gap_4 rfl (lv_at hl 1 rfl) ?_
  obtain ⟨r5, hr5, h⟩ := bd_some h
  refine gc_ri (As := [.int p0]) (rest := []) ⟨hx, hb, hml, hown, hts⟩ hK (kX0_has l D cI cC cZ cQ cJ (q + 1) (gLift G) p0 hr5) (cwV 1 hts gX4_gap_X0_has rfl rfl rfl (by decide +kernel) ⟨Nat.le_of_ble_eq_true rfl, Nat.le_of_ble_eq_true rfl⟩) (va_recv hK (GW_lift (G := G) hP) (ci := 0) (q0 := 0) rfl rfl) (GW_lift (G := G) hP) rfl hl.1 rfl (Nat.le_of_ble_eq_true rfl) ⟨Nat.zero_le _, Nat.zero_le _⟩ dX4_gap_5 ?_
  refine lv_if_ne (tgt := 21) hx hb dX4_gap_8 (by decide) (fun c1 => ?_) (fun c1 => ?_)
  · replace h := (if_neg c1).symm.trans h
    refine lv_aload_n hx hb dX4_gap_21 rfl (lv_at hl 0 rfl) ?_
    refine va_get (D := D) (ci := 4) (v := .ref (q + 1)) (C := RX4) (T := TX4) (N := 9) hx hb hts hinX4 hown hK hP 0 rfl rfl 0 (by decide) hf10 (fun _ h9 => h9) rfl dX4_gap_22 ?_
    refine lv_iload_n hx hb dX4_gap_25 rfl (lv_at hl 1 rfl) ?_
    refine lv_iconst (v := 0) hx hb dX4_gap_26 (by decide) ?_
    obtain ⟨r27, hr27, h⟩ := bd_some h
    refine gc_ri (As := [.int p0, .int 0]) (rest := []) ⟨hx, hb, hml, hown, hts⟩ hK (kX0_isIn l D cI cC cZ cQ cJ (q + 1) (gLift G) p0 0 hr27) (cwV 2 hts gX4_gap_X0_isIn rfl rfl rfl (by decide +kernel) ⟨Nat.le_of_ble_eq_true rfl, Nat.le_of_ble_eq_true rfl⟩) (va_recv hK (GW_lift (G := G) hP) (ci := 0) (q0 := 0) rfl rfl) (GW_lift (G := G) hP) rfl hl.1 rfl (Nat.le_of_ble_eq_true rfl) ⟨Nat.zero_le _, Nat.zero_le _⟩ dX4_gap_27 ?_
    refine lv_if_eq (tgt := 44) hx hb dX4_gap_30 (by decide) (fun c2 => ?_) (fun c2 => ?_)
    · replace h := (if_pos c2).symm.trans h
      refine lv_bipush (v := (-9)) hx hb dX4_gap_44 (by decide) ?_
      have h := Option.some.inj h
      subst h
      refine vx_ret ?_
      refine W.widen (k := 1) (n := 6) (by decide) (by decide) ?_
      exact W.iret (v := (-9)) hx hb hr (fun t ht hW => ⟨⟨_, (), rfl, ⟨rfl, rfl⟩, gh ht hP⟩, hS.F ht⟩) hS.2.2 dX4_gap_46
    · replace h := (if_neg c2).symm.trans h
      refine lv_aload_n hx hb dX4_gap_33 rfl (lv_at hl 0 rfl) ?_
      refine va_get (D := D) (ci := 4) (v := .ref (q + 1)) (C := RX4) (T := TX4) (N := 9) hx hb hts hinX4 hown hK hP 0 rfl rfl 0 (by decide) hf10 (fun _ h9 => h9) rfl dX4_gap_34 ?_
      refine lv_iload_n hx hb dX4_gap_37 rfl (lv_at hl 1 rfl) ?_
      obtain ⟨r38, hr38, h⟩ := bd_some h
      refine gc_ri (As := [.int p0]) (rest := []) ⟨hx, hb, hml, hown, hts⟩ hK (kX0_gapBehind l D cI cC cZ cQ cJ (q + 1) (gLift G) p0 hr38) (cwV 1 hts gX4_gap_X0_gapBehind rfl rfl rfl (by decide +kernel) ⟨Nat.le_of_ble_eq_true rfl, Nat.le_of_ble_eq_true rfl⟩) (va_recv hK (GW_lift (G := G) hP) (ci := 0) (q0 := 0) rfl rfl) (GW_lift (G := G) hP) rfl hl.1 rfl (Nat.le_of_ble_eq_true rfl) ⟨Nat.zero_le _, Nat.zero_le _⟩ dX4_gap_38 ?_
      refine lv_goto (tgt := 46) hx hb dX4_gap_41 (by decide) ?_
      have h := Option.some.inj h
      subst h
      refine vx_ret ?_
      refine W.widen (k := 1) (n := 6) (by decide) (by decide) ?_
      exact W.iret (v := r38) hx hb hr (fun t ht hW => ⟨⟨_, (), rfl, ⟨rfl, rfl⟩, gh ht hP⟩, hS.F ht⟩) hS.2.2 dX4_gap_46
  · replace h := (if_pos c1).symm.trans h
    have h := Option.some.inj h
    subst h
    obtain ⟨sa, hsa⟩ := hE.2.2.2.1 (126, "no such grip") (by decide +kernel)
    exact vx_throwS hx hb hlS (own := RX4) (cls := gIOB) (names := gNm) (A := (fIv q 201)) hown (by decide +kernel) (by decide +kernel) (hts (.classLink RX4 124 gIOB) (by decide +kernel)) (hts (.initialized gIOB) (by decide +kernel)) hsa (vx_hat (fun w hw => hts w (List.mem_cons_of_mem _ (List.mem_append_right _ hw))) gx_ng_IOB (vx_c (va_Nw.use rfl (hE.2.2.2.2.1 gIOB (by decide +kernel))) (vx_c (va_Nw.use rfl (hE.2.2.2.2.2 _ (List.mem_cons_self))) (vx_c (va_Nw.use rfl (hE.2.2.2.2.2 _ (List.mem_cons_of_mem _ List.mem_cons_self))) (vx_c (va_Nw.use rfl (hE.2.2.2.2.2 _ (List.mem_cons_of_mem _ (List.mem_cons_of_mem _ List.mem_cons_self)))) vx_n))))) gx_ot_IOB (hE.2.1.narrow (fun _ h => Nat.le_trans hlo h.1)) (hE.2.2.1.narrow (fun _ h => Nat.le_trans hlo h.1)) hS (hl.1.trans hml.symm) dX4_gap_11 dX4_gap_14 dX4_gap_15 dX4_gap_17 dX4_gap_20 (fun x9 hx9 => (hnx x9 hx9).elim) (by decide) (by decide) (by decide) (by decide) hlocks (fun t9 hv9 hz9 hk9 => ⟨(), trivial, ⟨rfl, Nat.succ_ne_zero 2, (gx_end hP hS t9 hz9 hk9).1⟩, (gx_end hP hS t9 hz9 hk9).2⟩) hS.2.2 (by decide) (by decide)
set_option maxHeartbeats 4000000 in
set_option maxRecDepth 100000 in
theorem kX4_room (l : Launch) (D : va_G) (cI cC cZ cQ cJ : ClassId) (t lo : Nat) (q : Nat) (G : GSt) (p0 : Int32) (hlo : lo ≤ q) (hlS : l.stackTraces = false) {R : Nat × Int32 × GSt} (h : fX4_room G p0 = some R) : vx_Met l yX4_room wsX4_room ({ frames := 6, cells := 1, slots := 6, locals := 82 } : Room) (va_Pc [.ref q, .int p0] (gBe D (gTy cI cC cZ cQ cJ) t lo (va_P D vwCl (GW cI cC cZ cQ q G)))) (va_Qi (fun r (_ : Unit) => R.1 = 0 ∧ r = R.2.1) (fun _ t => va_P D vwCl (GW cI cC cZ cQ q R.2.2) t.heap) (fIv q 201)) (vx_X (fun _ : Unit => True) (fun E _ t => E = gEx R.1 ∧ R.1 ≠ 0 ∧ va_P D vwCl (GW cI cC cZ cQ q R.2.2) t.heap) (fIv q 201)) 1 6 (fIv q 201) := by
  refine vx_ofW (cc := cX4_room) (maxL := 2) (ret := (some .int)) (by decide) rfl ?_
  intro p e s m args below meth c s₁ B hml hnx hv
  obtain ⟨rfl, ⟨hP, hK⟩, hE⟩ := hv
  have hZ := hE.1
  have hx := B.exec
  have hb := B.bytes
  have hr := B.returns
  have hts := atoms_spec (ws := wsX4_room) B.pre
  have hown : s.vm.findClass RX4 = some m.cls := findClass_of_methodNamed B.named
  have hlocks := B.notSynchronized
  have hinX4 : ∀ w ∈ wsX40, w ∈ wsX4_room := by decide +kernel
  have hf10 := hts (.fieldLink RX4 10 "GripInspector" "lift" "LGripInspector$Lift;") (by decide +kernel)
  generalize hRM : (headSpec wsX4_room ({ frames := 6, cells := 1, slots := 6, locals := 82 } : Room)).room = RM
  replace hRM : ({ frames := 6, cells := 1, slots := 6, locals := 82 } : Room) = RM := hRM
  subst hRM
  have hl := lv_entry ([.ref q, .int p0]) (n := 2) (Nat.le_of_ble_eq_true rfl)
  rw [lg_entry_eq]
  generalize (lg_sl ([.ref q, .int p0]) ++ List.replicate (2 - (lg_sl ([.ref q, .int p0])).length) Slot.unset).toArray = ls at hl ⊢
  have hl : lv_has ls 2 [(0, .ref q), (1, .int p0)] := hl
  have hS : va_S (fIv q 201) s.heap s.heap [] := va_S.rf
  unfold fX4_room at h
  obtain ⟨H, hH⟩ : ∃ H, H = s.heap := ⟨_, rfl⟩
  obtain ⟨locs, hlz⟩ : ∃ z : List Loc, z = [] := ⟨_, rfl⟩
  have hP : va_P D vwCl (GW cI cC cZ cQ q G) H := by rw [hH]; exact hP
  have hS : va_S (fIv q 201) s.heap H locs := by rw [hH, hlz]; exact hS
  refine gc_at hH hlz ?_
  refine lv_iload_n hx hb dX4_room_0 rfl (lv_at hl 1 rfl) ?_
  by_cases c1 : p0 = 0
  · replace h := (if_pos c1).symm.trans h
    refine lv_tableIn (off := 27) (tgt := 28) hx hb dX4_room_1 (by rw [c1]; decide) (by rw [c1]; decide) (by rw [c1]; rfl) (by decide) ?_
    refine lv_aload_n hx hb dX4_room_28 rfl (lv_at hl 0 rfl) ?_
    refine va_get (D := D) (ci := 4) (v := .ref (q + 1)) (C := RX4) (T := TX4) (N := 9) hx hb hts hinX4 hown hK hP 0 rfl rfl 0 (by decide) hf10 (fun _ h9 => h9) rfl dX4_room_29 ?_
    obtain ⟨r32, hr32, h⟩ := bd_some h
    refine gc_ri (As := []) (rest := []) ⟨hx, hb, hml, hown, hts⟩ hK (kX0_roomySlots l D cI cC cZ cQ cJ (q + 1) (gLift G) hr32) (cwV 0 hts gX4_room_X0_roomySlots rfl rfl rfl (by decide +kernel) ⟨Nat.le_of_ble_eq_true rfl, Nat.le_of_ble_eq_true rfl⟩) (va_recv hK (GW_lift (G := G) hP) (ci := 0) (q0 := 0) rfl rfl) (GW_lift (G := G) hP) rfl hl.1 rfl (Nat.le_of_ble_eq_true rfl) ⟨Nat.zero_le _, Nat.zero_le _⟩ dX4_room_32 ?_
    have h := Option.some.inj h
    subst h
    refine vx_ret ?_
    refine W.widen (k := 1) (n := 6) (by decide) (by decide) ?_
    exact W.iret (v := r32) hx hb hr (fun t ht hW => ⟨⟨_, (), rfl, ⟨rfl, rfl⟩, gh ht hP⟩, hS.F ht⟩) hS.2.2 dX4_room_35
  · replace h := (if_neg c1).symm.trans h
    by_cases c2 : p0 = 1
    · replace h := (if_pos c2).symm.trans h
      refine lv_tableIn (off := 35) (tgt := 36) hx hb dX4_room_1 (by rw [c2]; decide) (by rw [c2]; decide) (by rw [c2]; rfl) (by decide) ?_
      refine lv_aload_n hx hb dX4_room_36 rfl (lv_at hl 0 rfl) ?_
      refine va_get (D := D) (ci := 4) (v := .ref (q + 1)) (C := RX4) (T := TX4) (N := 9) hx hb hts hinX4 hown hK hP 0 rfl rfl 0 (by decide) hf10 (fun _ h9 => h9) rfl dX4_room_37 ?_
      obtain ⟨r40, hr40, h⟩ := bd_some h
      refine gc_ri (As := []) (rest := []) ⟨hx, hb, hml, hown, hts⟩ hK (kX0_smallestGap l D cI cC cZ cQ cJ (q + 1) (gLift G) hr40) (cwV 0 hts gX4_room_X0_smallestGap rfl rfl rfl (by decide +kernel) ⟨Nat.le_of_ble_eq_true rfl, Nat.le_of_ble_eq_true rfl⟩) (va_recv hK (GW_lift (G := G) hP) (ci := 0) (q0 := 0) rfl rfl) (GW_lift (G := G) hP) rfl hl.1 rfl (Nat.le_of_ble_eq_true rfl) ⟨Nat.zero_le _, Nat.zero_le _⟩ dX4_room_40 ?_
      have h := Option.some.inj h
      subst h
      refine vx_ret ?_
      refine W.widen (k := 1) (n := 6) (by decide) (by decide) ?_
      exact W.iret (v := r40) hx hb hr (fun t ht hW => ⟨⟨_, (), rfl, ⟨rfl, rfl⟩, gh ht hP⟩, hS.F ht⟩) hS.2.2 dX4_room_43
    · replace h := (if_neg c2).symm.trans h
      by_cases c3 : p0 = 2
      · replace h := (if_pos c3).symm.trans h
        refine lv_tableIn (off := 43) (tgt := 44) hx hb dX4_room_1 (by rw [c3]; decide) (by rw [c3]; decide) (by rw [c3]; rfl) (by decide) ?_
        refine lv_aload_n hx hb dX4_room_44 rfl (lv_at hl 0 rfl) ?_
        refine va_get (D := D) (ci := 4) (v := .ref (q + 1)) (C := RX4) (T := TX4) (N := 9) hx hb hts hinX4 hown hK hP 0 rfl rfl 0 (by decide) hf10 (fun _ h9 => h9) rfl dX4_room_45 ?_
        obtain ⟨r48, hr48, h⟩ := bd_some h
        refine gc_ri (As := []) (rest := []) ⟨hx, hb, hml, hown, hts⟩ hK (kX0_capacity l D cI cC cZ cQ cJ (q + 1) (gLift G) hr48) (cwV 0 hts gX4_room_X0_capacity rfl rfl rfl (by decide +kernel) ⟨Nat.le_of_ble_eq_true rfl, Nat.le_of_ble_eq_true rfl⟩) (va_recv hK (GW_lift (G := G) hP) (ci := 0) (q0 := 0) rfl rfl) (GW_lift (G := G) hP) rfl hl.1 rfl (Nat.le_of_ble_eq_true rfl) ⟨Nat.zero_le _, Nat.zero_le _⟩ dX4_room_48 ?_
        have h := Option.some.inj h
        subst h
        refine vx_ret ?_
        refine W.widen (k := 1) (n := 6) (by decide) (by decide) ?_
        exact W.iret (v := r48) hx hb hr (fun t ht hW => ⟨⟨_, (), rfl, ⟨rfl, rfl⟩, gh ht hP⟩, hS.F ht⟩) hS.2.2 dX4_room_51
      · replace h := (if_neg c3).symm.trans h
        refine lv_tableOut (tgt := 52) hx hb dX4_room_1 (gsw_out 0 2 (x := p0) ?_) (by decide) ?_
        · intro k h1 h2 hk
          rcases (show k = 0 ∨ k = 1 ∨ k = 2 by omega) with rfl | rfl | rfl
          · exact lv_neT c1 (by decide) hk
          · exact lv_neT c2 (by decide) hk
          · exact lv_neT c3 (by decide) hk
        · have h := Option.some.inj h
          subst h
          obtain ⟨sa, hsa⟩ := hE.2.2.2.1 (229, "what is not 0 to 2") (by decide +kernel)
          exact vx_throwS hx hb hlS (own := RX4) (cls := gIAE) (names := gNm) (A := (fIv q 201)) hown (by decide +kernel) (by decide +kernel) (hts (.classLink RX4 56 gIAE) (by decide +kernel)) (hts (.initialized gIAE) (by decide +kernel)) hsa (vx_hat (fun w hw => hts w (List.mem_cons_of_mem _ (List.mem_append_right _ hw))) gx_ng_IAE (vx_c (va_Nw.use rfl (hE.2.2.2.2.1 gIAE (by decide +kernel))) (vx_c (va_Nw.use rfl (hE.2.2.2.2.2 _ (List.mem_cons_self))) (vx_c (va_Nw.use rfl (hE.2.2.2.2.2 _ (List.mem_cons_of_mem _ List.mem_cons_self))) (vx_c (va_Nw.use rfl (hE.2.2.2.2.2 _ (List.mem_cons_of_mem _ (List.mem_cons_of_mem _ List.mem_cons_self)))) vx_n))))) gx_ot_IAE (hE.2.1.narrow (fun _ h => Nat.le_trans hlo h.1)) (hE.2.2.1.narrow (fun _ h => Nat.le_trans hlo h.1)) hS (hl.1.trans hml.symm) dX4_room_52 dX4_room_55 dX4_room_56 dX4_room_58 dX4_room_61 (fun x9 hx9 => (hnx x9 hx9).elim) (by decide) (by decide) (by decide) (by decide) hlocks (fun t9 hv9 hz9 hk9 => ⟨(), trivial, ⟨rfl, Nat.succ_ne_zero 0, (gx_end hP hS t9 hz9 hk9).1⟩, (gx_end hP hS t9 hz9 hk9).2⟩) hS.2.2 (by decide) (by decide)
set_option maxHeartbeats 4000000 in
set_option maxRecDepth 100000 in
theorem kX4_groups (l : Launch) (D : va_G) (cI cC cZ cQ cJ : ClassId) (t lo : Nat) (q : Nat) (G : GSt) (p0 : Int32) (hlo : lo ≤ q) (hlS : l.stackTraces = false) {R : Nat × Int32 × GSt} (h : fX4_groups G p0 = some R) : vx_Met l yX4_groups wsX4_groups ({ frames := 6, cells := 1, slots := 6, locals := 82 } : Room) (va_Pc [.ref q, .int p0] (gBe D (gTy cI cC cZ cQ cJ) t lo (va_P D vwCl (GW cI cC cZ cQ q G)))) (va_Qi (fun r (_ : Unit) => R.1 = 0 ∧ r = R.2.1) (fun _ t => va_P D vwCl (GW cI cC cZ cQ q R.2.2) t.heap) (fIv q 201)) (vx_X (fun _ : Unit => True) (fun E _ t => E = gEx R.1 ∧ R.1 ≠ 0 ∧ va_P D vwCl (GW cI cC cZ cQ q R.2.2) t.heap) (fIv q 201)) 1 6 (fIv q 201) := by
  refine vx_ofW (cc := cX4_groups) (maxL := 7) (ret := (some .int)) (by decide) rfl ?_
  intro p e s m args below meth c s₁ B hml hnx hv
  obtain ⟨rfl, ⟨hP, hK⟩, hE⟩ := hv
  have hZ := hE.1
  have hx := B.exec
  have hb := B.bytes
  have hr := B.returns
  have hts := atoms_spec (ws := wsX4_groups) B.pre
  have hown : s.vm.findClass RX4 = some m.cls := findClass_of_methodNamed B.named
  have hlocks := B.notSynchronized
  have hinX4 : ∀ w ∈ wsX40, w ∈ wsX4_groups := by decide +kernel
  have hf10 := hts (.fieldLink RX4 10 "GripInspector" "lift" "LGripInspector$Lift;") (by decide +kernel)
  generalize hRM : (headSpec wsX4_groups ({ frames := 6, cells := 1, slots := 6, locals := 82 } : Room)).room = RM
  replace hRM : ({ frames := 6, cells := 1, slots := 6, locals := 82 } : Room) = RM := hRM
  subst hRM
  have hl := lv_entry ([.ref q, .int p0]) (n := 7) (Nat.le_of_ble_eq_true rfl)
  rw [lg_entry_eq]
  generalize (lg_sl ([.ref q, .int p0]) ++ List.replicate (7 - (lg_sl ([.ref q, .int p0])).length) Slot.unset).toArray = ls at hl ⊢
  have hl : lv_has ls 7 [(0, .ref q), (1, .int p0)] := hl
  have hS : va_S (fIv q 201) s.heap s.heap [] := va_S.rf
  have LP30 : ∀ (n : Nat) (S : GSt) (x1 : Int32) (x2 : Int32) (x3 : Int32) (x4 : Int32) (x5 : Int32) (H : Heap) (locs : List Loc) (ls : Array Slot), fX4_groups_L30 n S x1 x2 x3 x4 x5 = some R → va_P D vwCl (GW cI cC cZ cQ q S) H → va_S (fIv q 201) s.heap H locs → lv_has ls 7 [(0, .ref q), (1, .int x1), (2, .int x2), (3, .int x3), (4, .int x4), (5, .int x5)] → W p l e ({ frames := 6, cells := 1, slots := 6, locals := 82 } : Room) s m ([.ref q, .int p0] : List Value).toArray below meth c H locs 0 0 (vx_MQ below (va_Qi (fun r (_ : Unit) => R.1 = 0 ∧ r = R.2.1) (fun _ t => va_P D vwCl (GW cI cC cZ cQ q R.2.2) t.heap) (fIv q 201)) (vx_X (fun _ : Unit => True) (fun E _ t => E = gEx R.1 ∧ R.1 ≠ 0 ∧ va_P D vwCl (GW cI cC cZ cQ q R.2.2) t.heap) (fIv q 201)) ([.ref q, .int p0] : List Value).toArray s 1 6 (fIv q 201)) (F0 m 30 ls []) := by
    intro n
    induction n with
    | zero => intro S x1 x2 x3 x4 x5 H locs ls h hP hS hl; exact no_some h
    | succ n ih =>
      intro S x1 x2 x3 x4 x5 H locs ls h hP hS hl
      rw [fX4_groups_L30] at h
      refine lv_iload hx hb dX4_groups_30 (lv_at hl 5 rfl) ?_
      refine lv_bipush (v := 12) hx hb dX4_groups_32 (by decide) ?_
      refine lv_icmp_ge (tgt := 85) hx hb dX4_groups_34 (by decide) (fun c3 => ?_) (fun c3 => ?_)
      · replace h := (if_pos c3).symm.trans h
        refine lv_iload_n hx hb dX4_groups_85 rfl (lv_at hl 1 rfl) ?_
        refine lv_if_ne (tgt := 93) hx hb dX4_groups_86 (by decide) (fun c4 => ?_) (fun c4 => ?_)
        · replace h := (if_neg c4).symm.trans h
          refine lv_iload_n hx hb dX4_groups_93 rfl (lv_at hl 1 rfl) ?_
          refine lv_iconst (v := 1) hx hb dX4_groups_94 (by decide) ?_
          refine lv_icmp_ne (tgt := 102) hx hb dX4_groups_95 (by decide) (fun c5 => ?_) (fun c5 => ?_)
          · replace h := (if_neg c5).symm.trans h
            refine lv_iload hx hb dX4_groups_102 (lv_at hl 4 rfl) ?_
            have h := Option.some.inj h
            subst h
            refine vx_ret ?_
            refine W.widen (k := 1) (n := 6) (by decide) (by decide) ?_
            exact W.iret (v := x4) hx hb hr (fun t ht hW => ⟨⟨_, (), rfl, ⟨rfl, rfl⟩, gh ht hP⟩, hS.F ht⟩) hS.2.2 dX4_groups_104
          · replace h := (if_pos c5).symm.trans h
            refine lv_iload_n hx hb dX4_groups_98 rfl (lv_at hl 3 rfl) ?_
            refine lv_goto (tgt := 104) hx hb dX4_groups_99 (by decide) ?_
            have h := Option.some.inj h
            subst h
            refine vx_ret ?_
            refine W.widen (k := 1) (n := 6) (by decide) (by decide) ?_
            exact W.iret (v := x3) hx hb hr (fun t ht hW => ⟨⟨_, (), rfl, ⟨rfl, rfl⟩, gh ht hP⟩, hS.F ht⟩) hS.2.2 dX4_groups_104
        · replace h := (if_pos c4).symm.trans h
          refine lv_iload_n hx hb dX4_groups_89 rfl (lv_at hl 2 rfl) ?_
          refine lv_goto (tgt := 104) hx hb dX4_groups_90 (by decide) ?_
          have h := Option.some.inj h
          subst h
          refine vx_ret ?_
          refine W.widen (k := 1) (n := 6) (by decide) (by decide) ?_
          exact W.iret (v := x2) hx hb hr (fun t ht hW => ⟨⟨_, (), rfl, ⟨rfl, rfl⟩, gh ht hP⟩, hS.F ht⟩) hS.2.2 dX4_groups_104
      · replace h := (if_neg c3).symm.trans h
        refine lv_aload_n hx hb dX4_groups_37 rfl (lv_at hl 0 rfl) ?_
        refine va_get (D := D) (ci := 4) (v := .ref (q + 1)) (C := RX4) (T := TX4) (N := 9) hx hb hts hinX4 hown hK hP 0 rfl rfl 0 (by decide) hf10 (fun _ h9 => h9) rfl dX4_groups_38 ?_
        refine lv_iload hx hb dX4_groups_41 (lv_at hl 5 rfl) ?_
        obtain ⟨r43, hr43, h⟩ := bd_some h
        refine gc_ri (As := [.int x5]) (rest := []) ⟨hx, hb, hml, hown, hts⟩ hK (kX0_opensGroup l D cI cC cZ cQ cJ (q + 1) (gLift S) x5 hr43) (cwV 1 hts gX4_groups_X0_opensGroup rfl rfl rfl (by decide +kernel) ⟨Nat.le_of_ble_eq_true rfl, Nat.le_of_ble_eq_true rfl⟩) (va_recv hK (GW_lift (G := S) hP) (ci := 0) (q0 := 0) rfl rfl) (GW_lift (G := S) hP) rfl hl.1 rfl (Nat.le_of_ble_eq_true rfl) ⟨Nat.zero_le _, Nat.zero_le _⟩ dX4_groups_43 ?_
        refine lv_if_ne (tgt := 52) hx hb dX4_groups_46 (by decide) (fun c6 => ?_) (fun c6 => ?_)
        · replace h := (if_neg c6).symm.trans h
          refine lv_iinc (v := (x2 + 1)) (lv' := [(2, .int (x2 + 1)), (0, .ref q), (1, .int x1), (3, .int x3), (4, .int x4), (5, .int x5)]) hx hb dX4_groups_52 hl (k := 2) rfl rfl (by decide) rfl (fun ls hl => ?_)
          refine lv_aload_n hx hb dX4_groups_55 rfl (lv_at hl 1 rfl) ?_
          refine va_get (D := D) (ci := 4) (v := .ref (q + 1)) (C := RX4) (T := TX4) (N := 9) hx hb hts hinX4 hown hK hP 0 rfl rfl 0 (by decide) hf10 (fun _ h9 => h9) rfl dX4_groups_56 ?_
          refine lv_iload hx hb dX4_groups_59 (lv_at hl 5 rfl) ?_
          obtain ⟨r61, hr61, h⟩ := bd_some h
          refine gc_ri (As := [.int x5]) (rest := []) ⟨hx, hb, hml, hown, hts⟩ hK (kX0_groupSize l D cI cC cZ cQ cJ (q + 1) (gLift S) x5 hr61) (cwV 1 hts gX4_groups_X0_groupSize rfl rfl rfl (by decide +kernel) ⟨Nat.le_of_ble_eq_true rfl, Nat.le_of_ble_eq_true rfl⟩) (va_recv hK (GW_lift (G := S) hP) (ci := 0) (q0 := 0) rfl rfl) (GW_lift (G := S) hP) rfl hl.1 rfl (Nat.le_of_ble_eq_true rfl) ⟨Nat.zero_le _, Nat.zero_le _⟩ dX4_groups_61 ?_
          refine lv_istore (lv' := [(6, .int r61), (2, .int (x2 + 1)), (0, .ref q), (1, .int x1), (3, .int x3), (4, .int x4), (5, .int x5)]) hx hb dX4_groups_64 hl (by decide) rfl (fun ls hl => ?_)
          refine lv_iload hx hb dX4_groups_66 (lv_at hl 0 rfl) ?_
          refine lv_iload_n hx hb dX4_groups_68 rfl (lv_at hl 4 rfl) ?_
          refine lv_icmp_le (tgt := 79) hx hb dX4_groups_69 (by decide) (fun c7 => ?_) (fun c7 => ?_)
          · replace h := (if_pos c7).symm.trans h
            refine lv_iinc (v := (x5 + 1)) (lv' := [(5, .int (x5 + 1)), (6, .int r61), (2, .int (x2 + 1)), (0, .ref q), (1, .int x1), (3, .int x3), (4, .int x4)]) hx hb dX4_groups_79 hl (k := 6) rfl rfl (by decide) rfl (fun ls hl => ?_)
            refine lv_goto (tgt := 30) hx hb dX4_groups_82 (by decide) ?_
            exact ih S x1 (x2 + 1) x3 x4 (x5 + 1) H locs ls h hP hS (lv_sub hl [3, 4, 2, 5, 6, 0] rfl)
          · replace h := (if_neg c7).symm.trans h
            refine lv_iload hx hb dX4_groups_72 (lv_at hl 0 rfl) ?_
            refine lv_istore_n (lv' := [(3, .int r61), (6, .int r61), (2, .int (x2 + 1)), (0, .ref q), (1, .int x1), (4, .int x4), (5, .int x5)]) hx hb dX4_groups_74 rfl hl (by decide) rfl (fun ls hl => ?_)
            refine lv_iload hx hb dX4_groups_75 (lv_at hl 6 rfl) ?_
            refine lv_istore (lv' := [(4, .int x5), (3, .int r61), (6, .int r61), (2, .int (x2 + 1)), (0, .ref q), (1, .int x1), (5, .int x5)]) hx hb dX4_groups_77 hl (by decide) rfl (fun ls hl => ?_)
            refine lv_iinc (v := (x5 + 1)) (lv' := [(5, .int (x5 + 1)), (4, .int x5), (3, .int r61), (6, .int r61), (2, .int (x2 + 1)), (0, .ref q), (1, .int x1)]) hx hb dX4_groups_79 hl (k := 6) rfl rfl (by decide) rfl (fun ls hl => ?_)
            refine lv_goto (tgt := 30) hx hb dX4_groups_82 (by decide) ?_
            exact ih S x1 (x2 + 1) r61 x5 (x5 + 1) H locs ls h hP hS (lv_sub hl [5, 6, 4, 2, 1, 0] rfl)
        · replace h := (if_pos c6).symm.trans h
          refine lv_goto (tgt := 79) hx hb dX4_groups_49 (by decide) ?_
          refine lv_iinc (v := (x5 + 1)) (lv' := [(5, .int (x5 + 1)), (0, .ref q), (1, .int x1), (2, .int x2), (3, .int x3), (4, .int x4)]) hx hb dX4_groups_79 hl (k := 5) rfl rfl (by decide) rfl (fun ls hl => ?_)
          refine lv_goto (tgt := 30) hx hb dX4_groups_82 (by decide) ?_
          exact ih S x1 x2 x3 x4 (x5 + 1) H locs ls h hP hS (lv_sub hl [1, 2, 3, 4, 5, 0] rfl)
  unfold fX4_groups at h
  obtain ⟨H, hH⟩ : ∃ H, H = s.heap := ⟨_, rfl⟩
  obtain ⟨locs, hlz⟩ : ∃ z : List Loc, z = [] := ⟨_, rfl⟩
  have hP : va_P D vwCl (GW cI cC cZ cQ q G) H := by rw [hH]; exact hP
  have hS : va_S (fIv q 201) s.heap H locs := by rw [hH, hlz]; exact hS
  refine gc_at hH hlz ?_
  refine lv_iload_n hx hb dX4_groups_0 rfl (lv_at hl 1 rfl) ?_
  refine lv_if_lt (tgt := 9) hx hb dX4_groups_1 (by decide) (fun c1 => ?_) (fun c1 => ?_)
  · replace h := (if_pos c1).symm.trans h
    have h := Option.some.inj h
    subst h
    obtain ⟨sa, hsa⟩ := hE.2.2.2.1 (229, "what is not 0 to 2") (by decide +kernel)
    exact vx_throwS hx hb hlS (own := RX4) (cls := gIAE) (names := gNm) (A := (fIv q 201)) hown (by decide +kernel) (by decide +kernel) (hts (.classLink RX4 56 gIAE) (by decide +kernel)) (hts (.initialized gIAE) (by decide +kernel)) hsa (vx_hat (fun w hw => hts w (List.mem_cons_of_mem _ (List.mem_append_right _ hw))) gx_ng_IAE (vx_c (va_Nw.use rfl (hE.2.2.2.2.1 gIAE (by decide +kernel))) (vx_c (va_Nw.use rfl (hE.2.2.2.2.2 _ (List.mem_cons_self))) (vx_c (va_Nw.use rfl (hE.2.2.2.2.2 _ (List.mem_cons_of_mem _ List.mem_cons_self))) (vx_c (va_Nw.use rfl (hE.2.2.2.2.2 _ (List.mem_cons_of_mem _ (List.mem_cons_of_mem _ List.mem_cons_self)))) vx_n))))) gx_ot_IAE (hE.2.1.narrow (fun _ h => Nat.le_trans hlo h.1)) (hE.2.2.1.narrow (fun _ h => Nat.le_trans hlo h.1)) hS (hl.1.trans hml.symm) dX4_groups_9 dX4_groups_12 dX4_groups_13 dX4_groups_15 dX4_groups_18 (fun x9 hx9 => (hnx x9 hx9).elim) (by decide) (by decide) (by decide) (by decide) hlocks (fun t9 hv9 hz9 hk9 => ⟨(), trivial, ⟨rfl, Nat.succ_ne_zero 0, (gx_end hP hS t9 hz9 hk9).1⟩, (gx_end hP hS t9 hz9 hk9).2⟩) hS.2.2 (by decide) (by decide)
  · replace h := (if_neg c1).symm.trans h
    refine lv_iload_n hx hb dX4_groups_4 rfl (lv_at hl 1 rfl) ?_
    refine lv_iconst (v := 2) hx hb dX4_groups_5 (by decide) ?_
    refine lv_icmp_le (tgt := 19) hx hb dX4_groups_6 (by decide) (fun c2 => ?_) (fun c2 => ?_)
    · replace h := (if_pos c2).symm.trans h
      refine lv_iconst (v := 0) hx hb dX4_groups_19 (by decide) ?_
      refine lv_istore_n (lv' := [(2, .int 0), (0, .ref q), (1, .int p0)]) hx hb dX4_groups_20 rfl hl (by decide) rfl (fun ls hl => ?_)
      refine lv_iconst (v := 0) hx hb dX4_groups_21 (by decide) ?_
      refine lv_istore_n (lv' := [(3, .int 0), (2, .int 0), (0, .ref q), (1, .int p0)]) hx hb dX4_groups_22 rfl hl (by decide) rfl (fun ls hl => ?_)
      refine lv_bipush (v := (-9)) hx hb dX4_groups_23 (by decide) ?_
      refine lv_istore (lv' := [(4, .int (-9)), (3, .int 0), (2, .int 0), (0, .ref q), (1, .int p0)]) hx hb dX4_groups_25 hl (by decide) rfl (fun ls hl => ?_)
      refine lv_iconst (v := 0) hx hb dX4_groups_27 (by decide) ?_
      refine lv_istore (lv' := [(5, .int 0), (4, .int (-9)), (3, .int 0), (2, .int 0), (0, .ref q), (1, .int p0)]) hx hb dX4_groups_28 hl (by decide) rfl (fun ls hl => ?_)
      exact LP30 KF G p0 0 0 (-9) 0 H locs ls h hP hS (lv_sub hl [4, 5, 3, 2, 1, 0] rfl)
    · replace h := (if_neg c2).symm.trans h
      have h := Option.some.inj h
      subst h
      obtain ⟨sa, hsa⟩ := hE.2.2.2.1 (229, "what is not 0 to 2") (by decide +kernel)
      exact vx_throwS hx hb hlS (own := RX4) (cls := gIAE) (names := gNm) (A := (fIv q 201)) hown (by decide +kernel) (by decide +kernel) (hts (.classLink RX4 56 gIAE) (by decide +kernel)) (hts (.initialized gIAE) (by decide +kernel)) hsa (vx_hat (fun w hw => hts w (List.mem_cons_of_mem _ (List.mem_append_right _ hw))) gx_ng_IAE (vx_c (va_Nw.use rfl (hE.2.2.2.2.1 gIAE (by decide +kernel))) (vx_c (va_Nw.use rfl (hE.2.2.2.2.2 _ (List.mem_cons_self))) (vx_c (va_Nw.use rfl (hE.2.2.2.2.2 _ (List.mem_cons_of_mem _ List.mem_cons_self))) (vx_c (va_Nw.use rfl (hE.2.2.2.2.2 _ (List.mem_cons_of_mem _ (List.mem_cons_of_mem _ List.mem_cons_self)))) vx_n))))) gx_ot_IAE (hE.2.1.narrow (fun _ h => Nat.le_trans hlo h.1)) (hE.2.2.1.narrow (fun _ h => Nat.le_trans hlo h.1)) hS (hl.1.trans hml.symm) dX4_groups_9 dX4_groups_12 dX4_groups_13 dX4_groups_15 dX4_groups_18 (fun x9 hx9 => (hnx x9 hx9).elim) (by decide) (by decide) (by decide) (by decide) hlocks (fun t9 hv9 hz9 hk9 => ⟨(), trivial, ⟨rfl, Nat.succ_ne_zero 0, (gx_end hP hS t9 hz9 hk9).1⟩, (gx_end hP hS t9 hz9 hk9).2⟩) hS.2.2 (by decide) (by decide)
set_option maxHeartbeats 4000000 in
set_option maxRecDepth 100000 in
theorem kX4_dueAfter (l : Launch) (D : va_G) (cI cC cZ cQ cJ : ClassId) (t lo : Nat) (q : Nat) (G : GSt) (p0 : Int32) (hlo : lo ≤ q) (hlS : l.stackTraces = false) {R : Nat × Int32 × GSt} (h : fX4_dueAfter G p0 = some R) : vx_Met l yX4_dueAfter wsX4_dueAfter ({ frames := 6, cells := 1, slots := 6, locals := 82 } : Room) (va_Pc [.ref q, .int p0] (gBe D (gTy cI cC cZ cQ cJ) t lo (va_P D vwCl (GW cI cC cZ cQ q G)))) (va_Qi (fun r (_ : Unit) => R.1 = 0 ∧ r = R.2.1) (fun _ t => va_P D vwCl (GW cI cC cZ cQ q R.2.2) t.heap) (fIv q 201)) (vx_X (fun _ : Unit => True) (fun E _ t => E = gEx R.1 ∧ R.1 ≠ 0 ∧ va_P D vwCl (GW cI cC cZ cQ q R.2.2) t.heap) (fIv q 201)) 1 6 (fIv q 201) := by
  refine vx_ofW (cc := cX4_dueAfter) (maxL := 2) (ret := (some .int)) (by decide) rfl ?_
  intro p e s m args below meth c s₁ B hml hnx hv
  obtain ⟨rfl, ⟨hP, hK⟩, hE⟩ := hv
  have hZ := hE.1
  have hx := B.exec
  have hb := B.bytes
  have hr := B.returns
  have hts := atoms_spec (ws := wsX4_dueAfter) B.pre
  have hown : s.vm.findClass RX4 = some m.cls := findClass_of_methodNamed B.named
  have hlocks := B.notSynchronized
  have hinX4 : ∀ w ∈ wsX40, w ∈ wsX4_dueAfter := by decide +kernel
  have hf10 := hts (.fieldLink RX4 10 "GripInspector" "lift" "LGripInspector$Lift;") (by decide +kernel)
  generalize hRM : (headSpec wsX4_dueAfter ({ frames := 6, cells := 1, slots := 6, locals := 82 } : Room)).room = RM
  replace hRM : ({ frames := 6, cells := 1, slots := 6, locals := 82 } : Room) = RM := hRM
  subst hRM
  have hl := lv_entry ([.ref q, .int p0]) (n := 2) (Nat.le_of_ble_eq_true rfl)
  rw [lg_entry_eq]
  generalize (lg_sl ([.ref q, .int p0]) ++ List.replicate (2 - (lg_sl ([.ref q, .int p0])).length) Slot.unset).toArray = ls at hl ⊢
  have hl : lv_has ls 2 [(0, .ref q), (1, .int p0)] := hl
  have hS : va_S (fIv q 201) s.heap s.heap [] := va_S.rf
  unfold fX4_dueAfter at h
  obtain ⟨H, hH⟩ : ∃ H, H = s.heap := ⟨_, rfl⟩
  obtain ⟨locs, hlz⟩ : ∃ z : List Loc, z = [] := ⟨_, rfl⟩
  have hP : va_P D vwCl (GW cI cC cZ cQ q G) H := by rw [hH]; exact hP
  have hS : va_S (fIv q 201) s.heap H locs := by rw [hH, hlz]; exact hS
  refine gc_at hH hlz ?_
  refine lv_aload_n hx hb dX4_dueAfter_0 rfl (lv_at hl 0 rfl) ?_
  refine va_get (D := D) (ci := 4) (v := .ref (q + 1)) (C := RX4) (T := TX4) (N := 9) hx hb hts hinX4 hown hK hP 0 rfl rfl 0 (by decide) hf10 (fun _ h9 => h9) rfl dX4_dueAfter_1 ?_
  refine lv_iload_n hx hb dX4_dueAfter_4 rfl (lv_at hl 1 rfl) ?_
  obtain ⟨r5, hr5, h⟩ := bd_some h
  refine gc_ri (As := [.int p0]) (rest := []) ⟨hx, hb, hml, hown, hts⟩ hK (kX0_has l D cI cC cZ cQ cJ (q + 1) (gLift G) p0 hr5) (cwV 1 hts gX4_dueAfter_X0_has rfl rfl rfl (by decide +kernel) ⟨Nat.le_of_ble_eq_true rfl, Nat.le_of_ble_eq_true rfl⟩) (va_recv hK (GW_lift (G := G) hP) (ci := 0) (q0 := 0) rfl rfl) (GW_lift (G := G) hP) rfl hl.1 rfl (Nat.le_of_ble_eq_true rfl) ⟨Nat.zero_le _, Nat.zero_le _⟩ dX4_dueAfter_5 ?_
  refine lv_if_ne (tgt := 21) hx hb dX4_dueAfter_8 (by decide) (fun c1 => ?_) (fun c1 => ?_)
  · replace h := (if_neg c1).symm.trans h
    refine lv_aload_n hx hb dX4_dueAfter_21 rfl (lv_at hl 0 rfl) ?_
    refine va_get (D := D) (ci := 4) (v := .ref (q + 1)) (C := RX4) (T := TX4) (N := 9) hx hb hts hinX4 hown hK hP 0 rfl rfl 0 (by decide) hf10 (fun _ h9 => h9) rfl dX4_dueAfter_22 ?_
    refine lv_iload_n hx hb dX4_dueAfter_25 rfl (lv_at hl 1 rfl) ?_
    refine lv_iconst (v := 0) hx hb dX4_dueAfter_26 (by decide) ?_
    obtain ⟨r27, hr27, h⟩ := bd_some h
    refine gc_ri (As := [.int p0, .int 0]) (rest := []) ⟨hx, hb, hml, hown, hts⟩ hK (kX0_isIn l D cI cC cZ cQ cJ (q + 1) (gLift G) p0 0 hr27) (cwV 2 hts gX4_dueAfter_X0_isIn rfl rfl rfl (by decide +kernel) ⟨Nat.le_of_ble_eq_true rfl, Nat.le_of_ble_eq_true rfl⟩) (va_recv hK (GW_lift (G := G) hP) (ci := 0) (q0 := 0) rfl rfl) (GW_lift (G := G) hP) rfl hl.1 rfl (Nat.le_of_ble_eq_true rfl) ⟨Nat.zero_le _, Nat.zero_le _⟩ dX4_dueAfter_27 ?_
    refine lv_if_eq (tgt := 44) hx hb dX4_dueAfter_30 (by decide) (fun c2 => ?_) (fun c2 => ?_)
    · replace h := (if_pos c2).symm.trans h
      refine lv_bipush (v := (-9)) hx hb dX4_dueAfter_44 (by decide) ?_
      have h := Option.some.inj h
      subst h
      refine vx_ret ?_
      refine W.widen (k := 1) (n := 6) (by decide) (by decide) ?_
      exact W.iret (v := (-9)) hx hb hr (fun t ht hW => ⟨⟨_, (), rfl, ⟨rfl, rfl⟩, gh ht hP⟩, hS.F ht⟩) hS.2.2 dX4_dueAfter_46
    · replace h := (if_neg c2).symm.trans h
      refine lv_aload_n hx hb dX4_dueAfter_33 rfl (lv_at hl 0 rfl) ?_
      refine va_get (D := D) (ci := 4) (v := .ref (q + 1)) (C := RX4) (T := TX4) (N := 9) hx hb hts hinX4 hown hK hP 0 rfl rfl 0 (by decide) hf10 (fun _ h9 => h9) rfl dX4_dueAfter_34 ?_
      refine lv_iload_n hx hb dX4_dueAfter_37 rfl (lv_at hl 1 rfl) ?_
      obtain ⟨r38, hr38, h⟩ := bd_some h
      refine gc_ri (As := [.int p0]) (rest := []) ⟨hx, hb, hml, hown, hts⟩ hK (kX0_stepsUntilDue l D cI cC cZ cQ cJ (q + 1) (gLift G) p0 hr38) (cwV 1 hts gX4_dueAfter_X0_stepsUntilDue rfl rfl rfl (by decide +kernel) ⟨Nat.le_of_ble_eq_true rfl, Nat.le_of_ble_eq_true rfl⟩) (va_recv hK (GW_lift (G := G) hP) (ci := 0) (q0 := 0) rfl rfl) (GW_lift (G := G) hP) rfl hl.1 rfl (Nat.le_of_ble_eq_true rfl) ⟨Nat.zero_le _, Nat.zero_le _⟩ dX4_dueAfter_38 ?_
      refine lv_goto (tgt := 46) hx hb dX4_dueAfter_41 (by decide) ?_
      have h := Option.some.inj h
      subst h
      refine vx_ret ?_
      refine W.widen (k := 1) (n := 6) (by decide) (by decide) ?_
      exact W.iret (v := r38) hx hb hr (fun t ht hW => ⟨⟨_, (), rfl, ⟨rfl, rfl⟩, gh ht hP⟩, hS.F ht⟩) hS.2.2 dX4_dueAfter_46
  · replace h := (if_pos c1).symm.trans h
    have h := Option.some.inj h
    subst h
    obtain ⟨sa, hsa⟩ := hE.2.2.2.1 (126, "no such grip") (by decide +kernel)
    exact vx_throwS hx hb hlS (own := RX4) (cls := gIOB) (names := gNm) (A := (fIv q 201)) hown (by decide +kernel) (by decide +kernel) (hts (.classLink RX4 124 gIOB) (by decide +kernel)) (hts (.initialized gIOB) (by decide +kernel)) hsa (vx_hat (fun w hw => hts w (List.mem_cons_of_mem _ (List.mem_append_right _ hw))) gx_ng_IOB (vx_c (va_Nw.use rfl (hE.2.2.2.2.1 gIOB (by decide +kernel))) (vx_c (va_Nw.use rfl (hE.2.2.2.2.2 _ (List.mem_cons_self))) (vx_c (va_Nw.use rfl (hE.2.2.2.2.2 _ (List.mem_cons_of_mem _ List.mem_cons_self))) (vx_c (va_Nw.use rfl (hE.2.2.2.2.2 _ (List.mem_cons_of_mem _ (List.mem_cons_of_mem _ List.mem_cons_self)))) vx_n))))) gx_ot_IOB (hE.2.1.narrow (fun _ h => Nat.le_trans hlo h.1)) (hE.2.2.1.narrow (fun _ h => Nat.le_trans hlo h.1)) hS (hl.1.trans hml.symm) dX4_dueAfter_11 dX4_dueAfter_14 dX4_dueAfter_15 dX4_dueAfter_17 dX4_dueAfter_20 (fun x9 hx9 => (hnx x9 hx9).elim) (by decide) (by decide) (by decide) (by decide) hlocks (fun t9 hv9 hz9 hk9 => ⟨(), trivial, ⟨rfl, Nat.succ_ne_zero 2, (gx_end hP hS t9 hz9 hk9).1⟩, (gx_end hP hS t9 hz9 hk9).2⟩) hS.2.2 (by decide) (by decide)
set_option maxHeartbeats 4000000 in
set_option maxRecDepth 100000 in
theorem kX4_chance (l : Launch) (D : va_G) (cI cC cZ cQ cJ : ClassId) (t lo : Nat) (q : Nat) (G : GSt) (p0 : Int32) (p1 : Int32) (hlo : lo ≤ q) (hlS : l.stackTraces = false) {R : Nat × Int32 × GSt} (h : fX4_chance G p0 p1 = some R) : vx_Met l yX4_chance wsX4_chance ({ frames := 6, cells := 1, slots := 6, locals := 82 } : Room) (va_Pc [.ref q, .int p0, .int p1] (gBe D (gTy cI cC cZ cQ cJ) t lo (va_P D vwCl (GW cI cC cZ cQ q G)))) (va_Qi (fun r (_ : Unit) => R.1 = 0 ∧ r = R.2.1) (fun _ t => va_P D vwCl (GW cI cC cZ cQ q R.2.2) t.heap) (fIv q 201)) (vx_X (fun _ : Unit => True) (fun E _ t => E = gEx R.1 ∧ R.1 ≠ 0 ∧ va_P D vwCl (GW cI cC cZ cQ q R.2.2) t.heap) (fIv q 201)) 1 6 (fIv q 201) := by
  refine vx_ofW (cc := cX4_chance) (maxL := 7) (ret := (some .int)) (by decide) rfl ?_
  intro p e s m args below meth c s₁ B hml hnx hv
  obtain ⟨rfl, ⟨hP, hK⟩, hE⟩ := hv
  have hZ := hE.1
  have hx := B.exec
  have hb := B.bytes
  have hr := B.returns
  have hts := atoms_spec (ws := wsX4_chance) B.pre
  have hown : s.vm.findClass RX4 = some m.cls := findClass_of_methodNamed B.named
  have hlocks := B.notSynchronized
  have hinX4 : ∀ w ∈ wsX40, w ∈ wsX4_chance := by decide +kernel
  have hinX0 : ∀ w ∈ wsX00, w ∈ wsX4_chance := by decide +kernel
  have hf10 := hts (.fieldLink RX4 10 "GripInspector" "lift" "LGripInspector$Lift;") (by decide +kernel)
  have hf114 := hts (.fieldLink RX4 114 "GripInspector$Lift" "limits" "[I") (by decide +kernel)
  generalize hRM : (headSpec wsX4_chance ({ frames := 6, cells := 1, slots := 6, locals := 82 } : Room)).room = RM
  replace hRM : ({ frames := 6, cells := 1, slots := 6, locals := 82 } : Room) = RM := hRM
  subst hRM
  have hl := lv_entry ([.ref q, .int p0, .int p1]) (n := 7) (Nat.le_of_ble_eq_true rfl)
  rw [lg_entry_eq]
  generalize (lg_sl ([.ref q, .int p0, .int p1]) ++ List.replicate (7 - (lg_sl ([.ref q, .int p0, .int p1])).length) Slot.unset).toArray = ls at hl ⊢
  have hl : lv_has ls 7 [(0, .ref q), (1, .int p0), (2, .int p1)] := hl
  have hS : va_S (fIv q 201) s.heap s.heap [] := va_S.rf
  have LP50 : ∀ (n : Nat) (S : GSt) (x1 : Int32) (x4 : Int32) (x5 : Int32) (x6 : Int32) (H : Heap) (locs : List Loc) (ls : Array Slot), fX4_chance_L50 n S x1 x4 x5 x6 = some R → va_P D vwCl (GW cI cC cZ cQ q S) H → va_S (fIv q 201) s.heap H locs → lv_has ls 7 [(1, .int x1), (4, .int x4), (5, .int x5), (6, .int x6)] → W p l e ({ frames := 6, cells := 1, slots := 6, locals := 82 } : Room) s m ([.ref q, .int p0, .int p1] : List Value).toArray below meth c H locs 0 0 (vx_MQ below (va_Qi (fun r (_ : Unit) => R.1 = 0 ∧ r = R.2.1) (fun _ t => va_P D vwCl (GW cI cC cZ cQ q R.2.2) t.heap) (fIv q 201)) (vx_X (fun _ : Unit => True) (fun E _ t => E = gEx R.1 ∧ R.1 ≠ 0 ∧ va_P D vwCl (GW cI cC cZ cQ q R.2.2) t.heap) (fIv q 201)) ([.ref q, .int p0, .int p1] : List Value).toArray s 1 6 (fIv q 201)) (F0 m 50 ls []) := by
    intro n
    induction n with
    | zero => intro S x1 x4 x5 x6 H locs ls h hP hS hl; exact no_some h
    | succ n ih =>
      intro S x1 x4 x5 x6 H locs ls h hP hS hl
      rw [fX4_chance_L50] at h
      refine lv_iload hx hb dX4_chance_50 (lv_at hl 3 rfl) ?_
      refine lv_iload_n hx hb dX4_chance_52 rfl (lv_at hl 0 rfl) ?_
      refine lv_icmp_ge (tgt := 69) hx hb dX4_chance_53 (by decide) (fun c4 => ?_) (fun c4 => ?_)
      · replace h := (if_pos c4).symm.trans h
        refine lv_iload hx hb dX4_chance_69 (lv_at hl 2 rfl) ?_
        have h := Option.some.inj h
        subst h
        refine vx_ret ?_
        refine W.widen (k := 1) (n := 6) (by decide) (by decide) ?_
        exact W.iret (v := x5) hx hb hr (fun t ht hW => ⟨⟨_, (), rfl, ⟨rfl, rfl⟩, gh ht hP⟩, hS.F ht⟩) hS.2.2 dX4_chance_71
      · replace h := (if_neg c4).symm.trans h
        refine lv_iload hx hb dX4_chance_56 (lv_at hl 2 rfl) ?_
        refine lv_iload hx hb dX4_chance_58 (lv_at hl 1 rfl) ?_
        refine lv_imul hx hb dX4_chance_60 ?_
        refine lv_istore (lv' := [(5, .int (x5 * x4)), (1, .int x1), (4, .int x4), (6, .int x6)]) hx hb dX4_chance_61 hl (by decide) rfl (fun ls hl => ?_)
        refine lv_iinc (v := (x6 + 1)) (lv' := [(6, .int (x6 + 1)), (5, .int (x5 * x4)), (1, .int x1), (4, .int x4)]) hx hb dX4_chance_63 hl (k := 3) rfl rfl (by decide) rfl (fun ls hl => ?_)
        refine lv_goto (tgt := 50) hx hb dX4_chance_66 (by decide) ?_
        exact ih S x1 x4 (x5 * x4) (x6 + 1) H locs ls h hP hS (lv_sub hl [2, 3, 1, 0] rfl)
  unfold fX4_chance at h
  obtain ⟨H, hH⟩ : ∃ H, H = s.heap := ⟨_, rfl⟩
  obtain ⟨locs, hlz⟩ : ∃ z : List Loc, z = [] := ⟨_, rfl⟩
  have hP : va_P D vwCl (GW cI cC cZ cQ q G) H := by rw [hH]; exact hP
  have hS : va_S (fIv q 201) s.heap H locs := by rw [hH, hlz]; exact hS
  refine gc_at hH hlz ?_
  refine lv_iload_n hx hb dX4_chance_0 rfl (lv_at hl 1 rfl) ?_
  refine lv_iconst (v := 1) hx hb dX4_chance_1 (by decide) ?_
  refine lv_icmp_lt (tgt := 11) hx hb dX4_chance_2 (by decide) (fun c1 => ?_) (fun c1 => ?_)
  · replace h := (if_pos c1).symm.trans h
    have h := Option.some.inj h
    subst h
    obtain ⟨sa, hsa⟩ := hE.2.2.2.1 (240, "passes is not 1 to 9") (by decide +kernel)
    exact vx_throwS hx hb hlS (own := RX4) (cls := gIAE) (names := gNm) (A := (fIv q 201)) hown (by decide +kernel) (by decide +kernel) (hts (.classLink RX4 56 gIAE) (by decide +kernel)) (hts (.initialized gIAE) (by decide +kernel)) hsa (vx_hat (fun w hw => hts w (List.mem_cons_of_mem _ (List.mem_append_right _ hw))) gx_ng_IAE (vx_c (va_Nw.use rfl (hE.2.2.2.2.1 gIAE (by decide +kernel))) (vx_c (va_Nw.use rfl (hE.2.2.2.2.2 _ (List.mem_cons_self))) (vx_c (va_Nw.use rfl (hE.2.2.2.2.2 _ (List.mem_cons_of_mem _ List.mem_cons_self))) (vx_c (va_Nw.use rfl (hE.2.2.2.2.2 _ (List.mem_cons_of_mem _ (List.mem_cons_of_mem _ List.mem_cons_self)))) vx_n))))) gx_ot_IAE (hE.2.1.narrow (fun _ h => Nat.le_trans hlo h.1)) (hE.2.2.1.narrow (fun _ h => Nat.le_trans hlo h.1)) hS (hl.1.trans hml.symm) dX4_chance_11 dX4_chance_14 dX4_chance_15 dX4_chance_17 dX4_chance_20 (fun x9 hx9 => (hnx x9 hx9).elim) (by decide) (by decide) (by decide) (by decide) hlocks (fun t9 hv9 hz9 hk9 => ⟨(), trivial, ⟨rfl, Nat.succ_ne_zero 0, (gx_end hP hS t9 hz9 hk9).1⟩, (gx_end hP hS t9 hz9 hk9).2⟩) hS.2.2 (by decide) (by decide)
  · replace h := (if_neg c1).symm.trans h
    refine lv_iload_n hx hb dX4_chance_5 rfl (lv_at hl 1 rfl) ?_
    refine lv_bipush (v := 9) hx hb dX4_chance_6 (by decide) ?_
    refine lv_icmp_le (tgt := 21) hx hb dX4_chance_8 (by decide) (fun c2 => ?_) (fun c2 => ?_)
    · replace h := (if_pos c2).symm.trans h
      refine lv_aload_n hx hb dX4_chance_21 rfl (lv_at hl 0 rfl) ?_
      refine va_get (D := D) (ci := 4) (v := .ref (q + 1)) (C := RX4) (T := TX4) (N := 9) hx hb hts hinX4 hown hK hP 0 rfl rfl 0 (by decide) hf10 (fun _ h9 => h9) rfl dX4_chance_22 ?_
      refine va_get (D := D) (ci := 0) (v := .ref (q + 10)) (C := RX0) (T := TX0) (N := 13) hx hb hts hinX0 hown hK hP 1 rfl rfl 8 (by decide) hf114 (fun _ h9 => h9) rfl dX4_chance_25 ?_
      refine lv_iconst (v := 2) hx hb dX4_chance_28 (by decide) ?_
      refine g_iald (f := (lLi (gLift G))) (k := 2) hx hb hK hP 10 0 rfl rfl (vin_lit rfl) rfl dX4_chance_29 ?_
      refine lv_istore_n (lv' := [(3, .int ((lLi (gLift G)) 2)), (0, .ref q), (1, .int p0), (2, .int p1)]) hx hb dX4_chance_30 rfl hl (by decide) rfl (fun ls hl => ?_)
      refine lv_iload_n hx hb dX4_chance_31 rfl (lv_at hl 3 rfl) ?_
      refine lv_if_eq (tgt := 41) hx hb dX4_chance_32 (by decide) (fun c3 => ?_) (fun c3 => ?_)
      · replace h := (if_pos c3).symm.trans h
        refine lv_iload_n hx hb dX4_chance_41 rfl (lv_at hl 0 rfl) ?_
        refine lv_istore (lv' := [(4, .int ((lLi (gLift G)) 2)), (3, .int ((lLi (gLift G)) 2)), (0, .ref q), (1, .int p0), (2, .int p1)]) hx hb dX4_chance_42 hl (by decide) rfl (fun ls hl => ?_)
        refine lv_iconst (v := 1) hx hb dX4_chance_44 (by decide) ?_
        refine lv_istore (lv' := [(5, .int 1), (4, .int ((lLi (gLift G)) 2)), (3, .int ((lLi (gLift G)) 2)), (0, .ref q), (1, .int p0), (2, .int p1)]) hx hb dX4_chance_45 hl (by decide) rfl (fun ls hl => ?_)
        refine lv_iconst (v := 0) hx hb dX4_chance_47 (by decide) ?_
        refine lv_istore (lv' := [(6, .int 0), (5, .int 1), (4, .int ((lLi (gLift G)) 2)), (3, .int ((lLi (gLift G)) 2)), (0, .ref q), (1, .int p0), (2, .int p1)]) hx hb dX4_chance_48 hl (by decide) rfl (fun ls hl => ?_)
        exact LP50 KF G p0 ((lLi (gLift G)) 2) 1 0 H locs ls h hP hS (lv_sub hl [5, 2, 1, 0] rfl)
      · replace h := (if_neg c3).symm.trans h
        refine lv_iload_n hx hb dX4_chance_35 rfl (lv_at hl 0 rfl) ?_
        refine lv_iconst (v := 1) hx hb dX4_chance_36 (by decide) ?_
        refine lv_isub hx hb dX4_chance_37 ?_
        refine lv_goto (tgt := 42) hx hb dX4_chance_38 (by decide) ?_
        refine lv_istore (lv' := [(4, .int (((lLi (gLift G)) 2) - 1)), (3, .int ((lLi (gLift G)) 2)), (0, .ref q), (1, .int p0), (2, .int p1)]) hx hb dX4_chance_42 hl (by decide) rfl (fun ls hl => ?_)
        refine lv_iconst (v := 1) hx hb dX4_chance_44 (by decide) ?_
        refine lv_istore (lv' := [(5, .int 1), (4, .int (((lLi (gLift G)) 2) - 1)), (3, .int ((lLi (gLift G)) 2)), (0, .ref q), (1, .int p0), (2, .int p1)]) hx hb dX4_chance_45 hl (by decide) rfl (fun ls hl => ?_)
        refine lv_iconst (v := 0) hx hb dX4_chance_47 (by decide) ?_
        refine lv_istore (lv' := [(6, .int 0), (5, .int 1), (4, .int (((lLi (gLift G)) 2) - 1)), (3, .int ((lLi (gLift G)) 2)), (0, .ref q), (1, .int p0), (2, .int p1)]) hx hb dX4_chance_48 hl (by decide) rfl (fun ls hl => ?_)
        exact LP50 KF G p0 (((lLi (gLift G)) 2) - 1) 1 0 H locs ls h hP hS (lv_sub hl [5, 2, 1, 0] rfl)
    · replace h := (if_neg c2).symm.trans h
      have h := Option.some.inj h
      subst h
      obtain ⟨sa, hsa⟩ := hE.2.2.2.1 (240, "passes is not 1 to 9") (by decide +kernel)
      exact vx_throwS hx hb hlS (own := RX4) (cls := gIAE) (names := gNm) (A := (fIv q 201)) hown (by decide +kernel) (by decide +kernel) (hts (.classLink RX4 56 gIAE) (by decide +kernel)) (hts (.initialized gIAE) (by decide +kernel)) hsa (vx_hat (fun w hw => hts w (List.mem_cons_of_mem _ (List.mem_append_right _ hw))) gx_ng_IAE (vx_c (va_Nw.use rfl (hE.2.2.2.2.1 gIAE (by decide +kernel))) (vx_c (va_Nw.use rfl (hE.2.2.2.2.2 _ (List.mem_cons_self))) (vx_c (va_Nw.use rfl (hE.2.2.2.2.2 _ (List.mem_cons_of_mem _ List.mem_cons_self))) (vx_c (va_Nw.use rfl (hE.2.2.2.2.2 _ (List.mem_cons_of_mem _ (List.mem_cons_of_mem _ List.mem_cons_self)))) vx_n))))) gx_ot_IAE (hE.2.1.narrow (fun _ h => Nat.le_trans hlo h.1)) (hE.2.2.1.narrow (fun _ h => Nat.le_trans hlo h.1)) hS (hl.1.trans hml.symm) dX4_chance_11 dX4_chance_14 dX4_chance_15 dX4_chance_17 dX4_chance_20 (fun x9 hx9 => (hnx x9 hx9).elim) (by decide) (by decide) (by decide) (by decide) hlocks (fun t9 hv9 hz9 hk9 => ⟨(), trivial, ⟨rfl, Nat.succ_ne_zero 0, (gx_end hP hS t9 hz9 hk9).1⟩, (gx_end hP hS t9 hz9 hk9).2⟩) hS.2.2 (by decide) (by decide)

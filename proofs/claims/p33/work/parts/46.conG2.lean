set_option maxHeartbeats 4000000 in
set_option maxRecDepth 100000 in
theorem kX4_append (l : Launch) (D : va_G) (cI cC cZ cQ cJ : ClassId) (t lo : Nat) (q : Nat) (G : GSt) (p0 : Int32) (hlo : lo ≤ q) (hlS : l.stackTraces = false) {R : Nat × Int32 × GSt} (h : fX4_append G p0 = some R) : vx_Met l yX4_append wsX4_append ({ frames := 6, cells := 1, slots := 6, locals := 82 } : Room) (va_Pc [.ref q, .int p0] (gBe D (gTy cI cC cZ cQ cJ) t lo (va_P D vwCl (GW cI cC cZ cQ q G)))) (va_Qi (fun r (_ : Unit) => R.1 = 0 ∧ r = R.2.1) (fun _ t => va_P D vwCl (GW cI cC cZ cQ q R.2.2) t.heap) (fIv q 201)) (vx_X (fun _ : Unit => True) (fun E _ t => E = gEx R.1 ∧ R.1 ≠ 0 ∧ va_P D vwCl (GW cI cC cZ cQ q R.2.2) t.heap) (fIv q 201)) 1 6 (fIv q 201) := by
  refine vx_ofW (cc := cX4_append) (maxL := 2) (ret := (some .int)) (by decide) rfl ?_
  intro p e s m args below meth c s₁ B hml hnx hv
  obtain ⟨rfl, ⟨hP, hK⟩, hE⟩ := hv
  have hZ := hE.1
  have hx := B.exec
  have hb := B.bytes
  have hr := B.returns
  have hts := atoms_spec (ws := wsX4_append) B.pre
  have hown : s.vm.findClass RX4 = some m.cls := findClass_of_methodNamed B.named
  have hlocks := B.notSynchronized
  have hinX4 : ∀ w ∈ wsX40, w ∈ wsX4_append := by decide +kernel
  have hinX1 : ∀ w ∈ wsX10, w ∈ wsX4_append := by decide +kernel
  have hinX3 : ∀ w ∈ wsX30, w ∈ wsX4_append := by decide +kernel
  have hf22 := hts (.fieldLink RX4 22 "GripInspector" "text" "LGripInspector$LiftText;") (by decide +kernel)
  have hf63 := hts (.fieldLink RX4 63 "GripInspector$LiftText" "signs" "LGripInspector$Signs;") (by decide +kernel)
  have hf79 := hts (.fieldLink RX4 79 "GripInspector$Signs" "length" "I") (by decide +kernel)
  generalize hRM : (headSpec wsX4_append ({ frames := 6, cells := 1, slots := 6, locals := 82 } : Room)).room = RM
  replace hRM : ({ frames := 6, cells := 1, slots := 6, locals := 82 } : Room) = RM := hRM
  subst hRM
  have hl := lv_entry ([.ref q, .int p0]) (n := 2) (Nat.le_of_ble_eq_true rfl)
  rw [lg_entry_eq]
  generalize (lg_sl ([.ref q, .int p0]) ++ List.replicate (2 - (lg_sl ([.ref q, .int p0])).length) Slot.unset).toArray = ls at hl ⊢
  have hl : lv_has ls 2 [(0, .ref q), (1, .int p0)] := hl
  have hS : va_S (fIv q 201) s.heap s.heap [] := va_S.rf
  unfold fX4_append at h
  obtain ⟨H, hH⟩ : ∃ H, H = s.heap := ⟨_, rfl⟩
  obtain ⟨locs, hlz⟩ : ∃ z : List Loc, z = [] := ⟨_, rfl⟩
  have hP : va_P D vwCl (GW cI cC cZ cQ q G) H := by rw [hH]; exact hP
  have hS : va_S (fIv q 201) s.heap H locs := by rw [hH, hlz]; exact hS
  refine gc_at hH hlz ?_
  refine lv_iload_n hx hb dX4_append_0 rfl (lv_at hl 1 rfl) ?_
  refine lv_if_lt (tgt := 11) hx hb dX4_append_1 (by decide) (fun c1 => ?_) (fun c1 => ?_)
  · replace h := (if_pos c1).symm.trans h
    have h := Option.some.inj h
    subst h
    obtain ⟨sa, hsa⟩ := hE.2.2.2.1 (58, "c is not 0 to 255") (by decide +kernel)
    exact vx_throwS hx hb hlS (own := RX4) (cls := gIAE) (names := gNm) (A := (fIv q 201)) hown (by decide +kernel) (by decide +kernel) (hts (.classLink RX4 56 gIAE) (by decide +kernel)) (hts (.initialized gIAE) (by decide +kernel)) hsa (vx_hat (fun w hw => hts w (List.mem_cons_of_mem _ (List.mem_append_left _ (List.mem_append_right _ hw)))) gx_ng_IAE (vx_c (va_Nw.use rfl (hE.2.2.2.2.1 gIAE (by decide +kernel))) (vx_c (va_Nw.use rfl (hE.2.2.2.2.2 _ (List.mem_cons_self))) (vx_c (va_Nw.use rfl (hE.2.2.2.2.2 _ (List.mem_cons_of_mem _ List.mem_cons_self))) (vx_c (va_Nw.use rfl (hE.2.2.2.2.2 _ (List.mem_cons_of_mem _ (List.mem_cons_of_mem _ List.mem_cons_self)))) vx_n))))) gx_ot_IAE (hE.2.1.narrow (fun _ h => Nat.le_trans hlo h.1)) (hE.2.2.1.narrow (fun _ h => Nat.le_trans hlo h.1)) hS (hl.1.trans hml.symm) dX4_append_11 dX4_append_14 dX4_append_15 dX4_append_17 dX4_append_20 (fun x9 hx9 => (hnx x9 hx9).elim) (by decide) (by decide) (by decide) (by decide) hlocks (fun t9 hv9 hz9 hk9 => ⟨(), trivial, ⟨rfl, Nat.succ_ne_zero 0, (gx_end hP hS t9 hz9 hk9).1⟩, (gx_end hP hS t9 hz9 hk9).2⟩) hS.2.2 (by decide) (by decide)
  · replace h := (if_neg c1).symm.trans h
    refine lv_iload_n hx hb dX4_append_4 rfl (lv_at hl 1 rfl) ?_
    refine lv_sipush (v := 255) hx hb dX4_append_5 (by decide) ?_
    refine lv_icmp_le (tgt := 21) hx hb dX4_append_8 (by decide) (fun c2 => ?_) (fun c2 => ?_)
    · replace h := (if_pos c2).symm.trans h
      refine lv_aload_n hx hb dX4_append_21 rfl (lv_at hl 0 rfl) ?_
      refine va_get (D := D) (ci := 4) (v := .ref (q + 21)) (C := RX4) (T := TX4) (N := 9) hx hb hts hinX4 hown hK hP 0 rfl rfl 2 (by decide) hf22 (fun _ h9 => h9) rfl dX4_append_22 ?_
      refine va_get (D := D) (ci := 1) (v := .ref (q + 22)) (C := RX1) (T := TX1) (N := 3) hx hb hts hinX1 hown hK hP 21 rfl rfl 0 (by decide) hf63 (fun _ h9 => h9) rfl dX4_append_25 ?_
      obtain ⟨r28, hr28, h⟩ := bd_some h
      refine gc_ri (As := []) (rest := []) ⟨hx, hb, hml, hown, hts⟩ hK (kX3_isFull l D cI cC cZ cQ cJ (q + 22) (tSg (gTxt G)) hr28) (cwV 0 hts gX4_append_X3_isFull rfl rfl rfl (by decide +kernel) ⟨Nat.le_of_ble_eq_true rfl, Nat.le_of_ble_eq_true rfl⟩) (va_recv hK (GW_sg (G := G) hP) (ci := 3) (q0 := 0) rfl rfl) (GW_sg (G := G) hP) rfl hl.1 rfl (Nat.le_of_ble_eq_true rfl) ⟨Nat.zero_le _, Nat.zero_le _⟩ dX4_append_28 ?_
      refine lv_if_eq (tgt := 44) hx hb dX4_append_31 (by decide) (fun c3 => ?_) (fun c3 => ?_)
      · replace h := (if_pos c3).symm.trans h
        refine lv_aload_n hx hb dX4_append_44 rfl (lv_at hl 0 rfl) ?_
        refine va_get (D := D) (ci := 4) (v := .ref (q + 21)) (C := RX4) (T := TX4) (N := 9) hx hb hts hinX4 hown hK hP 0 rfl rfl 2 (by decide) hf22 (fun _ h9 => h9) rfl dX4_append_45 ?_
        refine va_get (D := D) (ci := 1) (v := .ref (q + 22)) (C := RX1) (T := TX1) (N := 3) hx hb hts hinX1 hown hK hP 21 rfl rfl 0 (by decide) hf63 (fun _ h9 => h9) rfl dX4_append_48 ?_
        refine lv_iload_n hx hb dX4_append_51 rfl (lv_at hl 1 rfl) ?_
        refine lv_i2c hx hb dX4_append_52 rfl ?_
        obtain ⟨r53, hr53, h⟩ := bd_some h
        refine gc_wv (As := [.int (((p0).toUInt32 % 65536).toInt32)]) (rest := []) ⟨hx, hb, hml, hown, hts⟩ hK (kX3_put l D cI cC cZ cQ cJ (q + 22) (tSg (gTxt G)) (((p0).toUInt32 % 65536).toInt32) hr53) (cwV 1 hts gX4_append_X3_put rfl rfl rfl (by decide +kernel) ⟨Nat.le_of_ble_eq_true rfl, Nat.le_of_ble_eq_true rfl⟩) (va_recv hK (GW_sg (G := G) hP) (ci := 3) (q0 := 0) rfl rfl) (GW_sg (G := G) hP) hS GW_inSg rfl hl.1 rfl (Nat.le_of_ble_eq_true rfl) ⟨Nat.zero_le _, Nat.zero_le _⟩ dX4_append_53 (fun H1 locs hP1 hS _ hk1 => ?_)
        have hP : va_P D vwCl (GW cI cC cZ cQ q ((gLift G), (gTrial G), (r53, (tD (gTxt G)), (tAt (gTxt G))), (gSum G), (gHis G), (gSav G), (gSvd G), (gRem G), (gNxt G))) H1 := GW_putSg (G := G) hP hP1 hk1
        generalize H1 = H at hP hS ⊢
        refine lv_aload_n hx hb dX4_append_56 rfl (lv_at hl 0 rfl) ?_
        refine va_get (D := D) (ci := 4) (v := .ref (q + 21)) (C := RX4) (T := TX4) (N := 9) hx hb hts hinX4 hown hK hP 0 rfl rfl 2 (by decide) hf22 (fun _ h9 => h9) rfl dX4_append_57 ?_
        refine va_get (D := D) (ci := 1) (v := .ref (q + 22)) (C := RX1) (T := TX1) (N := 3) hx hb hts hinX1 hown hK hP 21 rfl rfl 0 (by decide) hf63 (fun _ h9 => h9) rfl dX4_append_60 ?_
        refine va_get (D := D) (ci := 3) (v := .int (sLen r53)) (C := RX3) (T := TX3) (N := 2) hx hb hts hinX3 hown hK hP 22 rfl rfl 1 (by decide) hf79 (fun _ h9 => h9) rfl dX4_append_63 ?_
        have h := Option.some.inj h
        subst h
        refine vx_ret ?_
        refine W.widen (k := 1) (n := 6) (by decide) (by decide) ?_
        exact W.iret (v := (sLen r53)) hx hb hr (fun t ht hW => ⟨⟨_, (), rfl, ⟨rfl, rfl⟩, gh ht hP⟩, hS.F ht⟩) hS.2.2 dX4_append_66
      · replace h := (if_neg c3).symm.trans h
        have h := Option.some.inj h
        subst h
        obtain ⟨sa, hsa⟩ := hE.2.2.2.1 (72, "the text has 60 characters") (by decide +kernel)
        exact vx_throwS hx hb hlS (own := RX4) (cls := gISE) (names := gNm) (A := (fIv q 201)) hown (by decide +kernel) (by decide +kernel) (hts (.classLink RX4 70 gISE) (by decide +kernel)) (hts (.initialized gISE) (by decide +kernel)) hsa (vx_hat (fun w hw => hts w (List.mem_cons_of_mem _ (List.mem_append_right _ hw))) gx_ng_ISE (vx_c (va_Nw.use rfl (hE.2.2.2.2.1 gISE (by decide +kernel))) (vx_c (va_Nw.use rfl (hE.2.2.2.2.2 _ (List.mem_cons_self))) (vx_c (va_Nw.use rfl (hE.2.2.2.2.2 _ (List.mem_cons_of_mem _ List.mem_cons_self))) (vx_c (va_Nw.use rfl (hE.2.2.2.2.2 _ (List.mem_cons_of_mem _ (List.mem_cons_of_mem _ List.mem_cons_self)))) vx_n))))) gx_ot_ISE (hE.2.1.narrow (fun _ h => Nat.le_trans hlo h.1)) (hE.2.2.1.narrow (fun _ h => Nat.le_trans hlo h.1)) hS (hl.1.trans hml.symm) dX4_append_34 dX4_append_37 dX4_append_38 dX4_append_40 dX4_append_43 (fun x9 hx9 => (hnx x9 hx9).elim) (by decide) (by decide) (by decide) (by decide) hlocks (fun t9 hv9 hz9 hk9 => ⟨(), trivial, ⟨rfl, Nat.succ_ne_zero 1, (gx_end hP hS t9 hz9 hk9).1⟩, (gx_end hP hS t9 hz9 hk9).2⟩) hS.2.2 (by decide) (by decide)
    · replace h := (if_neg c2).symm.trans h
      have h := Option.some.inj h
      subst h
      obtain ⟨sa, hsa⟩ := hE.2.2.2.1 (58, "c is not 0 to 255") (by decide +kernel)
      exact vx_throwS hx hb hlS (own := RX4) (cls := gIAE) (names := gNm) (A := (fIv q 201)) hown (by decide +kernel) (by decide +kernel) (hts (.classLink RX4 56 gIAE) (by decide +kernel)) (hts (.initialized gIAE) (by decide +kernel)) hsa (vx_hat (fun w hw => hts w (List.mem_cons_of_mem _ (List.mem_append_left _ (List.mem_append_right _ hw)))) gx_ng_IAE (vx_c (va_Nw.use rfl (hE.2.2.2.2.1 gIAE (by decide +kernel))) (vx_c (va_Nw.use rfl (hE.2.2.2.2.2 _ (List.mem_cons_self))) (vx_c (va_Nw.use rfl (hE.2.2.2.2.2 _ (List.mem_cons_of_mem _ List.mem_cons_self))) (vx_c (va_Nw.use rfl (hE.2.2.2.2.2 _ (List.mem_cons_of_mem _ (List.mem_cons_of_mem _ List.mem_cons_self)))) vx_n))))) gx_ot_IAE (hE.2.1.narrow (fun _ h => Nat.le_trans hlo h.1)) (hE.2.2.1.narrow (fun _ h => Nat.le_trans hlo h.1)) hS (hl.1.trans hml.symm) dX4_append_11 dX4_append_14 dX4_append_15 dX4_append_17 dX4_append_20 (fun x9 hx9 => (hnx x9 hx9).elim) (by decide) (by decide) (by decide) (by decide) hlocks (fun t9 hv9 hz9 hk9 => ⟨(), trivial, ⟨rfl, Nat.succ_ne_zero 0, (gx_end hP hS t9 hz9 hk9).1⟩, (gx_end hP hS t9 hz9 hk9).2⟩) hS.2.2 (by decide) (by decide)
set_option maxHeartbeats 4000000 in
set_option maxRecDepth 100000 in
theorem kX4_clearText (l : Launch) (D : va_G) (cI cC cZ cQ cJ : ClassId) (q : Nat) (G : GSt) {R : Int32 × GSt} (h : fX4_clearText G = some R) : Met l yX4_clearText wsX4_clearText ({ frames := 1, cells := 0, slots := 0, locals := 20 } : Room) (va_Pc [.ref q] (gB D (gTy cI cC cZ cQ cJ) (va_P D vwCl (GW cI cC cZ cQ q G)))) (va_Qi (fun r (_ : Unit) => r = R.1) (fun _ t => va_P D vwCl (GW cI cC cZ cQ q R.2) t.heap) (fIv q 201)) 0 0 (fIv q 201) := by
  refine Met.ofW (cc := cX4_clearText) (maxL := 2) (ret := (some .int)) (by decide) rfl ?_
  intro p e s m args below meth c s₁ B hml hv
  obtain ⟨rfl, hP, hK⟩ := hv
  have hx := B.exec
  have hb := B.bytes
  have hr := B.returns
  have hts := atoms_spec (ws := wsX4_clearText) B.pre
  have hown : s.vm.findClass RX4 = some m.cls := findClass_of_methodNamed B.named
  have hlocks := B.notSynchronized
  have hinX4 : ∀ w ∈ wsX40, w ∈ wsX4_clearText := by decide +kernel
  have hinX1 : ∀ w ∈ wsX10, w ∈ wsX4_clearText := by decide +kernel
  have hinX3 : ∀ w ∈ wsX30, w ∈ wsX4_clearText := by decide +kernel
  have hf22 := hts (.fieldLink RX4 22 "GripInspector" "text" "LGripInspector$LiftText;") (by decide +kernel)
  have hf63 := hts (.fieldLink RX4 63 "GripInspector$LiftText" "signs" "LGripInspector$Signs;") (by decide +kernel)
  have hf79 := hts (.fieldLink RX4 79 "GripInspector$Signs" "length" "I") (by decide +kernel)
  generalize hRM : (headSpec wsX4_clearText ({ frames := 1, cells := 0, slots := 0, locals := 20 } : Room)).room = RM
  replace hRM : ({ frames := 1, cells := 0, slots := 0, locals := 20 } : Room) = RM := hRM
  subst hRM
  have hl := lv_entry ([.ref q]) (n := 2) (Nat.le_of_ble_eq_true rfl)
  rw [lg_entry_eq]
  generalize (lg_sl ([.ref q]) ++ List.replicate (2 - (lg_sl ([.ref q])).length) Slot.unset).toArray = ls at hl ⊢
  have hl : lv_has ls 2 [(0, .ref q)] := hl
  have hS : va_S (fIv q 201) s.heap s.heap [] := va_S.rf
  unfold fX4_clearText at h
  obtain ⟨H, hH⟩ : ∃ H, H = s.heap := ⟨_, rfl⟩
  obtain ⟨locs, hlz⟩ : ∃ z : List Loc, z = [] := ⟨_, rfl⟩
  have hP : va_P D vwCl (GW cI cC cZ cQ q G) H := by rw [hH]; exact hP
  have hS : va_S (fIv q 201) s.heap H locs := by rw [hH, hlz]; exact hS
  refine gc_at hH hlz ?_
  refine lv_aload_n hx hb dX4_clearText_0 rfl (lv_at hl 0 rfl) ?_
  refine va_get (D := D) (ci := 4) (v := .ref (q + 21)) (C := RX4) (T := TX4) (N := 9) hx hb hts hinX4 hown hK hP 0 rfl rfl 2 (by decide) hf22 (fun _ h9 => h9) rfl dX4_clearText_1 ?_
  refine va_get (D := D) (ci := 1) (v := .ref (q + 22)) (C := RX1) (T := TX1) (N := 3) hx hb hts hinX1 hown hK hP 21 rfl rfl 0 (by decide) hf63 (fun _ h9 => h9) rfl dX4_clearText_4 ?_
  refine va_get (D := D) (ci := 3) (v := .int (sLen (tSg (gTxt G)))) (C := RX3) (T := TX3) (N := 2) hx hb hts hinX3 hown hK hP 22 rfl rfl 1 (by decide) hf79 (fun _ h9 => h9) rfl dX4_clearText_7 ?_
  refine lv_istore_n (lv' := [(1, .int (sLen (tSg (gTxt G)))), (0, .ref q)]) hx hb dX4_clearText_10 rfl hl (by decide) rfl (fun ls hl => ?_)
  refine lv_aload_n hx hb dX4_clearText_11 rfl (lv_at hl 1 rfl) ?_
  refine va_get (D := D) (ci := 4) (v := .ref (q + 21)) (C := RX4) (T := TX4) (N := 9) hx hb hts hinX4 hown hK hP 0 rfl rfl 2 (by decide) hf22 (fun _ h9 => h9) rfl dX4_clearText_12 ?_
  refine va_get (D := D) (ci := 1) (v := .ref (q + 22)) (C := RX1) (T := TX1) (N := 3) hx hb hts hinX1 hown hK hP 21 rfl rfl 0 (by decide) hf63 (fun _ h9 => h9) rfl dX4_clearText_15 ?_
  obtain ⟨r18, hr18, h⟩ := bd_some h
  refine gc_wv (As := []) (rest := []) ⟨hx, hb, hml, hown, hts⟩ hK (kX3_clear l D cI cC cZ cQ cJ (q + 22) (tSg (gTxt G)) hr18) (cwV 0 hts gX4_clearText_X3_clear rfl rfl rfl (by decide +kernel) ⟨Nat.le_of_ble_eq_true rfl, Nat.le_of_ble_eq_true rfl⟩) (va_recv hK (GW_sg (G := G) hP) (ci := 3) (q0 := 0) rfl rfl) (GW_sg (G := G) hP) hS GW_inSg rfl hl.1 rfl (Nat.le_of_ble_eq_true rfl) ⟨Nat.zero_le _, Nat.zero_le _⟩ dX4_clearText_18 (fun H1 locs hP1 hS _ hk1 => ?_)
  have hP : va_P D vwCl (GW cI cC cZ cQ q ((gLift G), (gTrial G), (r18, (tD (gTxt G)), (tAt (gTxt G))), (gSum G), (gHis G), (gSav G), (gSvd G), (gRem G), (gNxt G))) H1 := GW_putSg (G := G) hP hP1 hk1
  generalize H1 = H at hP hS ⊢
  refine lv_iload_n hx hb dX4_clearText_21 rfl (lv_at hl 0 rfl) ?_
  have h := Option.some.inj h
  subst h
  exact W.iret (v := (sLen (tSg (gTxt G)))) hx hb hr (fun t ht hW => ⟨⟨_, (), rfl, rfl, gh ht hP⟩, hS.F ht⟩) hS.2.2 dX4_clearText_22
set_option maxHeartbeats 4000000 in
set_option maxRecDepth 100000 in
theorem kX4_errorPosition (l : Launch) (D : va_G) (cI cC cZ cQ cJ : ClassId) (t lo : Nat) (q : Nat) (G : GSt) (hlo : lo ≤ q) {R : Int32 × GSt} (h : fX4_errorPosition G = some R) : Met l yX4_errorPosition wsX4_errorPosition ({ frames := 6, cells := 0, slots := 0, locals := 143 } : Room) (va_Pc [.ref q] (gBs D (gTy cI cC cZ cQ cJ) t lo (va_P D vwCl (GW cI cC cZ cQ q G)))) (va_Qi (fun r (_ : Unit) => r = R.1) (fun _ t => va_P D vwCl (GW cI cC cZ cQ q R.2) t.heap) (fIv q 201)) 0 0 (fIv q 201) := by
  refine Met.ofW (cc := cX4_errorPosition) (maxL := 1) (ret := (some .int)) (by decide) rfl ?_
  intro p e s m args below meth c s₁ B hml hv
  obtain ⟨rfl, ⟨hP, hK⟩, hZ⟩ := hv
  have hx := B.exec
  have hb := B.bytes
  have hr := B.returns
  have hts := atoms_spec (ws := wsX4_errorPosition) B.pre
  have hown : s.vm.findClass RX4 = some m.cls := findClass_of_methodNamed B.named
  have hlocks := B.notSynchronized
  have hinX4 : ∀ w ∈ wsX40, w ∈ wsX4_errorPosition := by decide +kernel
  have hf22 := hts (.fieldLink RX4 22 "GripInspector" "text" "LGripInspector$LiftText;") (by decide +kernel)
  generalize hRM : (headSpec wsX4_errorPosition ({ frames := 6, cells := 0, slots := 0, locals := 143 } : Room)).room = RM
  replace hRM : ({ frames := 6, cells := 0, slots := 0, locals := 143 } : Room) = RM := hRM
  subst hRM
  have hl := lv_entry ([.ref q]) (n := 1) (Nat.le_of_ble_eq_true rfl)
  rw [lg_entry_eq]
  generalize (lg_sl ([.ref q]) ++ List.replicate (1 - (lg_sl ([.ref q])).length) Slot.unset).toArray = ls at hl ⊢
  have hl : lv_has ls 1 [(0, .ref q)] := hl
  have hS : va_S (fIv q 201) s.heap s.heap [] := va_S.rf
  unfold fX4_errorPosition at h
  obtain ⟨H, hH⟩ : ∃ H, H = s.heap := ⟨_, rfl⟩
  obtain ⟨locs, hlz⟩ : ∃ z : List Loc, z = [] := ⟨_, rfl⟩
  have hP : va_P D vwCl (GW cI cC cZ cQ q G) H := by rw [hH]; exact hP
  have hS : va_S (fIv q 201) s.heap H locs := by rw [hH, hlz]; exact hS
  refine gc_at hH hlz ?_
  refine lv_aload_n hx hb dX4_errorPosition_0 rfl (lv_at hl 0 rfl) ?_
  refine va_get (D := D) (ci := 4) (v := .ref (q + 21)) (C := RX4) (T := TX4) (N := 9) hx hb hts hinX4 hown hK hP 0 rfl rfl 2 (by decide) hf22 (fun _ h9 => h9) rfl dX4_errorPosition_1 ?_
  obtain ⟨r4, hr4, h⟩ := bd_some h
  refine gs_wi (As := []) (rest := []) ⟨hx, hb, hml, hown, hts⟩ (gZ_now hZ hS (fun _ h => Nat.le_trans hlo h.1)) hK (kX1_findError l D cI cC cZ cQ cJ t lo (q + 21) (gTxt G) (Nat.le_trans hlo (by omega)) hr4) (cwV 0 hts gX4_errorPosition_X1_findError rfl rfl rfl (by decide +kernel) ⟨Nat.le_of_ble_eq_true rfl, Nat.le_of_ble_eq_true rfl⟩) (va_recv hK (GW_txt (G := G) hP) (ci := 1) (q0 := 0) rfl rfl) (GW_txt (G := G) hP) hS GW_inTxt rfl hl.1 rfl (Nat.le_of_ble_eq_true rfl) ⟨Nat.zero_le _, Nat.zero_le _⟩ dX4_errorPosition_4 (fun H1 locs hP1 hS _ hk1 => ?_)
  have hP : va_P D vwCl (GW cI cC cZ cQ q ((gLift G), (gTrial G), r4.2, (gSum G), (gHis G), (gSav G), (gSvd G), (gRem G), (gNxt G))) H1 := GW_putTxt (G := G) hP hP1 hk1
  generalize H1 = H at hP hS ⊢
  have h := Option.some.inj h
  subst h
  exact W.iret (v := r4.1) hx hb hr (fun t ht hW => ⟨⟨_, (), rfl, rfl, gh ht hP⟩, hS.F ht⟩) hS.2.2 dX4_errorPosition_7
set_option maxHeartbeats 4000000 in
set_option maxRecDepth 100000 in
theorem kX4_load (l : Launch) (D : va_G) (cI cC cZ cQ cJ : ClassId) (t lo : Nat) (q : Nat) (G : GSt) (hlo : lo ≤ q) (hlS : l.stackTraces = false) {R : Nat × Int32 × GSt} (h : fX4_load G = some R) : vx_Met l yX4_load wsX4_load ({ frames := 6, cells := 1, slots := 6, locals := 143 } : Room) (va_Pc [.ref q] (gBe D (gTy cI cC cZ cQ cJ) t lo (va_P D vwCl (GW cI cC cZ cQ q G)))) (va_Qi (fun r (_ : Unit) => R.1 = 0 ∧ r = R.2.1) (fun _ t => va_P D vwCl (GW cI cC cZ cQ q R.2.2) t.heap) (fIv q 201)) (vx_X (fun _ : Unit => True) (fun E _ t => E = gEx R.1 ∧ R.1 ≠ 0 ∧ va_P D vwCl (GW cI cC cZ cQ q R.2.2) t.heap) (fIv q 201)) 1 6 (fIv q 201) := by
  refine vx_ofW (cc := cX4_load) (maxL := 2) (ret := (some .int)) (by decide) rfl ?_
  intro p e s m args below meth c s₁ B hml hnx hv
  obtain ⟨rfl, ⟨hP, hK⟩, hE⟩ := hv
  have hZ := hE.1
  have hx := B.exec
  have hb := B.bytes
  have hr := B.returns
  have hts := atoms_spec (ws := wsX4_load) B.pre
  have hown : s.vm.findClass RX4 = some m.cls := findClass_of_methodNamed B.named
  have hlocks := B.notSynchronized
  have hinX4 : ∀ w ∈ wsX40, w ∈ wsX4_load := by decide +kernel
  have hinX1 : ∀ w ∈ wsX10, w ∈ wsX4_load := by decide +kernel
  have hf22 := hts (.fieldLink RX4 22 "GripInspector" "text" "LGripInspector$LiftText;") (by decide +kernel)
  have hf10 := hts (.fieldLink RX4 10 "GripInspector" "lift" "LGripInspector$Lift;") (by decide +kernel)
  have hf91 := hts (.fieldLink RX4 91 "GripInspector$LiftText" "draft" "LGripInspector$Lift;") (by decide +kernel)
  have hf49 := hts (.fieldLink RX4 49 "GripInspector" "remembered" "I") (by decide +kernel)
  have hf45 := hts (.fieldLink RX4 45 "GripInspector" "saved" "[Z") (by decide +kernel)
  generalize hRM : (headSpec wsX4_load ({ frames := 6, cells := 1, slots := 6, locals := 143 } : Room)).room = RM
  replace hRM : ({ frames := 6, cells := 1, slots := 6, locals := 143 } : Room) = RM := hRM
  subst hRM
  have hl := lv_entry ([.ref q]) (n := 2) (Nat.le_of_ble_eq_true rfl)
  rw [lg_entry_eq]
  generalize (lg_sl ([.ref q]) ++ List.replicate (2 - (lg_sl ([.ref q])).length) Slot.unset).toArray = ls at hl ⊢
  have hl : lv_has ls 2 [(0, .ref q)] := hl
  have hS : va_S (fIv q 201) s.heap s.heap [] := va_S.rf
  have LP43 : ∀ (n : Nat) (S : GSt) (x1 : Int32) (H : Heap) (locs : List Loc) (ls : Array Slot), fX4_load_L43 n S x1 = some R → va_P D vwCl (GW cI cC cZ cQ q S) H → va_S (fIv q 201) s.heap H locs → lv_has ls 2 [(0, .ref q), (1, .int x1)] → W p l e ({ frames := 6, cells := 1, slots := 6, locals := 143 } : Room) s m ([.ref q] : List Value).toArray below meth c H locs 0 0 (vx_MQ below (va_Qi (fun r (_ : Unit) => R.1 = 0 ∧ r = R.2.1) (fun _ t => va_P D vwCl (GW cI cC cZ cQ q R.2.2) t.heap) (fIv q 201)) (vx_X (fun _ : Unit => True) (fun E _ t => E = gEx R.1 ∧ R.1 ≠ 0 ∧ va_P D vwCl (GW cI cC cZ cQ q R.2.2) t.heap) (fIv q 201)) ([.ref q] : List Value).toArray s 1 6 (fIv q 201)) (F0 m 43 ls []) := by
    intro n
    induction n with
    | zero => intro S x1 H locs ls h hP hS hl; exact no_some h
    | succ n ih =>
      intro S x1 H locs ls h hP hS hl
      rw [fX4_load_L43] at h
      refine lv_iload_n hx hb dX4_load_43 rfl (lv_at hl 1 rfl) ?_
      refine lv_aload_n hx hb dX4_load_44 rfl (lv_at hl 0 rfl) ?_
      refine va_get (D := D) (ci := 4) (v := .ref (q + 200)) (C := RX4) (T := TX4) (N := 9) hx hb hts hinX4 hown hK hP 0 rfl rfl 6 (by decide) hf45 (fun _ h9 => h9) rfl dX4_load_45 ?_
      refine va_alen hx hb hK hP 200 2 (x := (2, .inl (gSvd S))) GW_at_svd rfl (v := 2) rfl dX4_load_48 ?_
      refine lv_icmp_ge (tgt := 65) hx hb dX4_load_49 (by decide) (fun c2 => ?_) (fun c2 => ?_)
      · replace h := (if_pos c2).symm.trans h
        refine lv_aload_n hx hb dX4_load_65 rfl (lv_at hl 0 rfl) ?_
        refine va_get (D := D) (ci := 4) (v := .ref (q + 1)) (C := RX4) (T := TX4) (N := 9) hx hb hts hinX4 hown hK hP 0 rfl rfl 0 (by decide) hf10 (fun _ h9 => h9) rfl dX4_load_66 ?_
        obtain ⟨r69, hr69, h⟩ := bd_some h
        refine gc_ri (As := []) (rest := []) ⟨hx, hb, hml, hown, hts⟩ hK (kX0_grips l D cI cC cZ cQ cJ (q + 1) (gLift S) hr69) (cwV 0 hts gX4_load_X0_grips rfl rfl rfl (by decide +kernel) ⟨Nat.le_of_ble_eq_true rfl, Nat.le_of_ble_eq_true rfl⟩) (va_recv hK (GW_lift (G := S) hP) (ci := 0) (q0 := 0) rfl rfl) (GW_lift (G := S) hP) rfl hl.1 rfl (Nat.le_of_ble_eq_true rfl) ⟨Nat.zero_le _, Nat.zero_le _⟩ dX4_load_69 ?_
        have h := Option.some.inj h
        subst h
        refine vx_ret ?_
        refine W.widen (k := 1) (n := 6) (by decide) (by decide) ?_
        exact W.iret (v := r69) hx hb hr (fun t ht hW => ⟨⟨_, (), rfl, ⟨rfl, rfl⟩, gh ht hP⟩, hS.F ht⟩) hS.2.2 dX4_load_72
      · replace h := (if_neg c2).symm.trans h
        refine lv_aload_n hx hb dX4_load_52 rfl (lv_at hl 0 rfl) ?_
        refine va_get (D := D) (ci := 4) (v := .ref (q + 200)) (C := RX4) (T := TX4) (N := 9) hx hb hts hinX4 hown hK hP 0 rfl rfl 6 (by decide) hf45 (fun _ h9 => h9) rfl dX4_load_53 ?_
        refine lv_iload_n hx hb dX4_load_56 rfl (lv_at hl 1 rfl) ?_
        refine lv_iconst (v := 0) hx hb dX4_load_57 (by decide) ?_
        obtain ⟨hg3, h⟩ := gd_some h
        refine g_zast (f := (gSvd S)) (k := x1.toNatClampNeg) hx hb hK hP GW_selfI hS 200 2 GW_at_svd rfl hg3 rfl dX4_load_58 (fun H locs hP hS => ?_)
        have hP : va_P D vwCl (GW cI cC cZ cQ q ((gLift S), (gTrial S), (gTxt S), (gSum S), (gHis S), (gSav S), (upd (gSvd S) x1.toNatClampNeg (vp_nar .boolean 0)), (gRem S), (gNxt S))) H := by have h9 := hP; rw [GW_set_svd] at h9; exact h9
        refine lv_iinc (v := (x1 + 1)) (lv' := [(1, .int (x1 + 1)), (0, .ref q)]) hx hb dX4_load_59 hl (k := 1) rfl rfl (by decide) rfl (fun ls hl => ?_)
        refine lv_goto (tgt := 43) hx hb dX4_load_62 (by decide) ?_
        exact ih ((gLift S), (gTrial S), (gTxt S), (gSum S), (gHis S), (gSav S), (upd (gSvd S) x1.toNatClampNeg (vp_nar .boolean 0)), (gRem S), (gNxt S)) (x1 + 1) H locs ls h hP hS (lv_sub hl [1, 0] rfl)
  unfold fX4_load at h
  obtain ⟨H, hH⟩ : ∃ H, H = s.heap := ⟨_, rfl⟩
  obtain ⟨locs, hlz⟩ : ∃ z : List Loc, z = [] := ⟨_, rfl⟩
  have hP : va_P D vwCl (GW cI cC cZ cQ q G) H := by rw [hH]; exact hP
  have hS : va_S (fIv q 201) s.heap H locs := by rw [hH, hlz]; exact hS
  refine gc_at hH hlz ?_
  refine lv_aload_n hx hb dX4_load_0 rfl (lv_at hl 0 rfl) ?_
  refine va_get (D := D) (ci := 4) (v := .ref (q + 21)) (C := RX4) (T := TX4) (N := 9) hx hb hts hinX4 hown hK hP 0 rfl rfl 2 (by decide) hf22 (fun _ h9 => h9) rfl dX4_load_1 ?_
  obtain ⟨r4, hr4, h⟩ := bd_some h
  refine gs_wi (As := []) (rest := []) ⟨hx, hb, hml, hown, hts⟩ (gZ_now hZ hS (fun _ h => Nat.le_trans hlo h.1)) hK (kX1_findError l D cI cC cZ cQ cJ t lo (q + 21) (gTxt G) (Nat.le_trans hlo (by omega)) hr4) (cwV 0 hts gX4_load_X1_findError rfl rfl rfl (by decide +kernel) ⟨Nat.le_of_ble_eq_true rfl, Nat.le_of_ble_eq_true rfl⟩) (va_recv hK (GW_txt (G := G) hP) (ci := 1) (q0 := 0) rfl rfl) (GW_txt (G := G) hP) hS GW_inTxt rfl hl.1 rfl (Nat.le_of_ble_eq_true rfl) ⟨Nat.zero_le _, Nat.zero_le _⟩ dX4_load_4 (fun H1 locs hP1 hS _ hk1 => ?_)
  have hP : va_P D vwCl (GW cI cC cZ cQ q ((gLift G), (gTrial G), r4.2, (gSum G), (gHis G), (gSav G), (gSvd G), (gRem G), (gNxt G))) H1 := GW_putTxt (G := G) hP hP1 hk1
  generalize H1 = H at hP hS ⊢
  refine lv_bipush (v := (-9)) hx hb dX4_load_7 (by decide) ?_
  refine lv_icmp_eq (tgt := 22) hx hb dX4_load_9 (by decide) (fun c1 => ?_) (fun c1 => ?_)
  · replace h := (if_pos c1).symm.trans h
    refine lv_aload_n hx hb dX4_load_22 rfl (lv_at hl 0 rfl) ?_
    refine va_get (D := D) (ci := 4) (v := .ref (q + 1)) (C := RX4) (T := TX4) (N := 9) hx hb hts hinX4 hown hK hP 0 rfl rfl 0 (by decide) hf10 (fun _ h9 => h9) rfl dX4_load_23 ?_
    refine lv_aload_n hx hb dX4_load_26 rfl (lv_at hl 0 rfl) ?_
    refine va_get (D := D) (ci := 4) (v := .ref (q + 21)) (C := RX4) (T := TX4) (N := 9) hx hb hts hinX4 hown hK hP 0 rfl rfl 2 (by decide) hf22 (fun _ h9 => h9) rfl dX4_load_27 ?_
    refine va_get (D := D) (ci := 1) (v := .ref (q + 24)) (C := RX1) (T := TX1) (N := 3) hx hb hts hinX1 hown hK hP 21 rfl rfl 1 (by decide) hf91 (fun _ h9 => h9) rfl dX4_load_30 ?_
    refine gc_wv (As := [.ref (q + 24)]) (rest := []) (B := va_P D vwCl (LLW cI (q + 1) (q + 24) ((gLift G), (tD r4.2)))) (B' := va_P D vwCl (LLW cI (q + 1) (q + 24) (lCopy (gLift G) (tD r4.2), (tD r4.2)))) ⟨hx, hb, hml, hown, hts⟩ hK (kX0_become l D cI cC cZ cQ cJ (q + 1) (q + 24) ((gLift G), (tD r4.2)) (by omega) (become_copy (gLift G) (tD r4.2))) (cwV 1 hts gX4_load_X0_become rfl rfl rfl (by decide +kernel) ⟨Nat.le_of_ble_eq_true rfl, Nat.le_of_ble_eq_true rfl⟩) (va_recv hK (GW_lift (G := ((gLift G), (gTrial G), r4.2, (gSum G), (gHis G), (gSav G), (gSvd G), (gRem G), (gNxt G))) hP) (ci := 0) (q0 := 0) rfl rfl) (va_P.app (GW_lift (G := ((gLift G), (gTrial G), r4.2, (gSum G), (gHis G), (gSav G), (gSvd G), (gRem G), (gNxt G))) hP) (GW_draft (G := ((gLift G), (gTrial G), r4.2, (gSum G), (gHis G), (gSav G), (gSvd G), (gRem G), (gNxt G))) hP)) hS GW_inLD rfl hl.1 rfl (Nat.le_of_ble_eq_true rfl) ⟨Nat.zero_le _, Nat.zero_le _⟩ dX4_load_33 (fun H1 locs hB1 hS _ hk1 => ?_)
    have hP : va_P D vwCl (GW cI cC cZ cQ q ((lCopy (gLift G) (tD r4.2)), (gTrial G), r4.2, (gSum G), (gHis G), (gSav G), (gSvd G), (gRem G), (gNxt G))) H1 := GW_putLD (G := ((gLift G), (gTrial G), r4.2, (gSum G), (gHis G), (gSav G), (gSvd G), (gRem G), (gNxt G))) hP (gL hB1) (gR hB1) (fun a hl n1 n2 => hk1 a hl (fun z => z.elim n1 n2))
    generalize H1 = H at hP hS ⊢
    refine lv_aload_n hx hb dX4_load_36 rfl (lv_at hl 0 rfl) ?_
    refine lv_iconst (v := 0) hx hb dX4_load_37 (by decide) ?_
    refine va_put (D := D) (ci := 4) (v := .int 0) (ty := .int) (C := RX4) (T := TX4) (N := 9) hx hb hts hinX4 tyX4 tyX4_ok nmX4 hown hK hP GW_selfI hS 0 rfl rfl 7 (by decide) hf49 (fun _ h9 => h9) rfl (by decide +kernel) rfl rfl (Nat.le_of_ble_eq_true rfl) dX4_load_38 (fun H locs hP _ hS => ?_)
    have hP : va_P D vwCl (GW cI cC cZ cQ q ((lCopy (gLift G) (tD r4.2)), (gTrial G), r4.2, (gSum G), (gHis G), (gSav G), (gSvd G), 0, (gNxt G))) H := hP
    refine lv_iconst (v := 0) hx hb dX4_load_41 (by decide) ?_
    refine lv_istore_n (lv' := [(1, .int 0), (0, .ref q)]) hx hb dX4_load_42 rfl hl (by decide) rfl (fun ls hl => ?_)
    exact LP43 KF ((lCopy (gLift G) (tD r4.2)), (gTrial G), r4.2, (gSum G), (gHis G), (gSav G), (gSvd G), 0, (gNxt G)) 0 H locs ls h hP hS (lv_sub hl [1, 0] rfl)
  · replace h := (if_neg c1).symm.trans h
    have h := Option.some.inj h
    subst h
    obtain ⟨sa, hsa⟩ := hE.2.2.2.1 (89, "the text is not a lift") (by decide +kernel)
    exact vx_throwS hx hb hlS (own := RX4) (cls := gISE) (names := gNm) (A := (fIv q 201)) hown (by decide +kernel) (by decide +kernel) (hts (.classLink RX4 70 gISE) (by decide +kernel)) (hts (.initialized gISE) (by decide +kernel)) hsa (vx_hat (fun w hw => hts w (List.mem_cons_of_mem _ (List.mem_append_right _ hw))) gx_ng_ISE (vx_c (va_Nw.use rfl (hE.2.2.2.2.1 gISE (by decide +kernel))) (vx_c (va_Nw.use rfl (hE.2.2.2.2.2 _ (List.mem_cons_self))) (vx_c (va_Nw.use rfl (hE.2.2.2.2.2 _ (List.mem_cons_of_mem _ List.mem_cons_self))) (vx_c (va_Nw.use rfl (hE.2.2.2.2.2 _ (List.mem_cons_of_mem _ (List.mem_cons_of_mem _ List.mem_cons_self)))) vx_n))))) gx_ot_ISE (hE.2.1.narrow (fun _ h => Nat.le_trans hlo h.1)) (hE.2.2.1.narrow (fun _ h => Nat.le_trans hlo h.1)) hS (hl.1.trans hml.symm) dX4_load_12 dX4_load_15 dX4_load_16 dX4_load_18 dX4_load_21 (fun x9 hx9 => (hnx x9 hx9).elim) (by decide) (by decide) (by decide) (by decide) hlocks (fun t9 hv9 hz9 hk9 => ⟨(), trivial, ⟨rfl, Nat.succ_ne_zero 1, (gx_end hP hS t9 hz9 hk9).1⟩, (gx_end hP hS t9 hz9 hk9).2⟩) hS.2.2 (by decide) (by decide)
set_option maxHeartbeats 4000000 in
set_option maxRecDepth 100000 in
theorem kX4_about (l : Launch) (D : va_G) (cI cC cZ cQ cJ : ClassId) (t lo : Nat) (q : Nat) (G : GSt) (p0 : Int32) (hlo : lo ≤ q) (hlS : l.stackTraces = false) {R : Nat × Int32 × GSt} (h : fX4_about G p0 = some R) : vx_Met l yX4_about wsX4_about ({ frames := 6, cells := 1, slots := 6, locals := 82 } : Room) (va_Pc [.ref q, .int p0] (gBe D (gTy cI cC cZ cQ cJ) t lo (va_P D vwCl (GW cI cC cZ cQ q G)))) (va_Qi (fun r (_ : Unit) => R.1 = 0 ∧ r = R.2.1) (fun _ t => va_P D vwCl (GW cI cC cZ cQ q R.2.2) t.heap) (fIv q 201)) (vx_X (fun _ : Unit => True) (fun E _ t => E = gEx R.1 ∧ R.1 ≠ 0 ∧ va_P D vwCl (GW cI cC cZ cQ q R.2.2) t.heap) (fIv q 201)) 1 6 (fIv q 201) := by
  refine vx_ofW (cc := cX4_about) (maxL := 2) (ret := (some .int)) (by decide) rfl ?_
  intro p e s m args below meth c s₁ B hml hnx hv
  obtain ⟨rfl, ⟨hP, hK⟩, hE⟩ := hv
  have hZ := hE.1
  have hx := B.exec
  have hb := B.bytes
  have hr := B.returns
  have hts := atoms_spec (ws := wsX4_about) B.pre
  have hown : s.vm.findClass RX4 = some m.cls := findClass_of_methodNamed B.named
  have hlocks := B.notSynchronized
  have hinX4 : ∀ w ∈ wsX40, w ∈ wsX4_about := by decide +kernel
  have hinX0 : ∀ w ∈ wsX00, w ∈ wsX4_about := by decide +kernel
  have hf10 := hts (.fieldLink RX4 10 "GripInspector" "lift" "LGripInspector$Lift;") (by decide +kernel)
  have hf101 := hts (.fieldLink RX4 101 "GripInspector$Lift" "n" "I") (by decide +kernel)
  have hf108 := hts (.fieldLink RX4 108 "GripInspector$Lift" "station" "I") (by decide +kernel)
  have hf111 := hts (.fieldLink RX4 111 "GripInspector$Lift" "clock" "I") (by decide +kernel)
  have hf114 := hts (.fieldLink RX4 114 "GripInspector$Lift" "limits" "[I") (by decide +kernel)
  generalize hRM : (headSpec wsX4_about ({ frames := 6, cells := 1, slots := 6, locals := 82 } : Room)).room = RM
  replace hRM : ({ frames := 6, cells := 1, slots := 6, locals := 82 } : Room) = RM := hRM
  subst hRM
  have hl := lv_entry ([.ref q, .int p0]) (n := 2) (Nat.le_of_ble_eq_true rfl)
  rw [lg_entry_eq]
  generalize (lg_sl ([.ref q, .int p0]) ++ List.replicate (2 - (lg_sl ([.ref q, .int p0])).length) Slot.unset).toArray = ls at hl ⊢
  have hl : lv_has ls 2 [(0, .ref q), (1, .int p0)] := hl
  have hS : va_S (fIv q 201) s.heap s.heap [] := va_S.rf
  unfold fX4_about at h
  obtain ⟨H, hH⟩ : ∃ H, H = s.heap := ⟨_, rfl⟩
  obtain ⟨locs, hlz⟩ : ∃ z : List Loc, z = [] := ⟨_, rfl⟩
  have hP : va_P D vwCl (GW cI cC cZ cQ q G) H := by rw [hH]; exact hP
  have hS : va_S (fIv q 201) s.heap H locs := by rw [hH, hlz]; exact hS
  refine gc_at hH hlz ?_
  refine lv_iload_n hx hb dX4_about_0 rfl (lv_at hl 1 rfl) ?_
  by_cases c1 : p0 = 0
  · replace h := (if_pos c1).symm.trans h
    refine lv_tableIn (off := 67) (tgt := 68) hx hb dX4_about_1 (by rw [c1]; decide) (by rw [c1]; decide) (by rw [c1]; rfl) (by decide) ?_
    refine lv_aload_n hx hb dX4_about_68 rfl (lv_at hl 0 rfl) ?_
    refine va_get (D := D) (ci := 4) (v := .ref (q + 1)) (C := RX4) (T := TX4) (N := 9) hx hb hts hinX4 hown hK hP 0 rfl rfl 0 (by decide) hf10 (fun _ h9 => h9) rfl dX4_about_69 ?_
    refine va_get (D := D) (ci := 0) (v := .int (lN_ (gLift G))) (C := RX0) (T := TX0) (N := 13) hx hb hts hinX0 hown hK hP 1 rfl rfl 9 (by decide) hf101 (fun _ h9 => h9) rfl dX4_about_72 ?_
    have h := Option.some.inj h
    subst h
    refine vx_ret ?_
    refine W.widen (k := 1) (n := 6) (by decide) (by decide) ?_
    exact W.iret (v := (lN_ (gLift G))) hx hb hr (fun t ht hW => ⟨⟨_, (), rfl, ⟨rfl, rfl⟩, gh ht hP⟩, hS.F ht⟩) hS.2.2 dX4_about_75
  · replace h := (if_neg c1).symm.trans h
    by_cases c2 : p0 = 1
    · replace h := (if_pos c2).symm.trans h
      refine lv_tableIn (off := 75) (tgt := 76) hx hb dX4_about_1 (by rw [c2]; decide) (by rw [c2]; decide) (by rw [c2]; rfl) (by decide) ?_
      refine lv_aload_n hx hb dX4_about_76 rfl (lv_at hl 0 rfl) ?_
      refine va_get (D := D) (ci := 4) (v := .ref (q + 1)) (C := RX4) (T := TX4) (N := 9) hx hb hts hinX4 hown hK hP 0 rfl rfl 0 (by decide) hf10 (fun _ h9 => h9) rfl dX4_about_77 ?_
      obtain ⟨r80, hr80, h⟩ := bd_some h
      refine gc_ri (As := []) (rest := []) ⟨hx, hb, hml, hown, hts⟩ hK (kX0_grips l D cI cC cZ cQ cJ (q + 1) (gLift G) hr80) (cwV 0 hts gX4_about_X0_grips rfl rfl rfl (by decide +kernel) ⟨Nat.le_of_ble_eq_true rfl, Nat.le_of_ble_eq_true rfl⟩) (va_recv hK (GW_lift (G := G) hP) (ci := 0) (q0 := 0) rfl rfl) (GW_lift (G := G) hP) rfl hl.1 rfl (Nat.le_of_ble_eq_true rfl) ⟨Nat.zero_le _, Nat.zero_le _⟩ dX4_about_80 ?_
      have h := Option.some.inj h
      subst h
      refine vx_ret ?_
      refine W.widen (k := 1) (n := 6) (by decide) (by decide) ?_
      exact W.iret (v := r80) hx hb hr (fun t ht hW => ⟨⟨_, (), rfl, ⟨rfl, rfl⟩, gh ht hP⟩, hS.F ht⟩) hS.2.2 dX4_about_83
    · replace h := (if_neg c2).symm.trans h
      by_cases c3 : p0 = 2
      · replace h := (if_pos c3).symm.trans h
        refine lv_tableIn (off := 83) (tgt := 84) hx hb dX4_about_1 (by rw [c3]; decide) (by rw [c3]; decide) (by rw [c3]; rfl) (by decide) ?_
        refine lv_aload_n hx hb dX4_about_84 rfl (lv_at hl 0 rfl) ?_
        refine va_get (D := D) (ci := 4) (v := .ref (q + 1)) (C := RX4) (T := TX4) (N := 9) hx hb hts hinX4 hown hK hP 0 rfl rfl 0 (by decide) hf10 (fun _ h9 => h9) rfl dX4_about_85 ?_
        refine lv_iconst (v := 0) hx hb dX4_about_88 (by decide) ?_
        obtain ⟨r89, hr89, h⟩ := bd_some h
        refine gc_ri (As := [.int 0]) (rest := []) ⟨hx, hb, hml, hown, hts⟩ hK (kX0_count l D cI cC cZ cQ cJ (q + 1) (gLift G) 0 hr89) (cwV 1 hts gX4_about_X0_count rfl rfl rfl (by decide +kernel) ⟨Nat.le_of_ble_eq_true rfl, Nat.le_of_ble_eq_true rfl⟩) (va_recv hK (GW_lift (G := G) hP) (ci := 0) (q0 := 0) rfl rfl) (GW_lift (G := G) hP) rfl hl.1 rfl (Nat.le_of_ble_eq_true rfl) ⟨Nat.zero_le _, Nat.zero_le _⟩ dX4_about_89 ?_
        have h := Option.some.inj h
        subst h
        refine vx_ret ?_
        refine W.widen (k := 1) (n := 6) (by decide) (by decide) ?_
        exact W.iret (v := r89) hx hb hr (fun t ht hW => ⟨⟨_, (), rfl, ⟨rfl, rfl⟩, gh ht hP⟩, hS.F ht⟩) hS.2.2 dX4_about_92
      · replace h := (if_neg c3).symm.trans h
        by_cases c4 : p0 = 3
        · replace h := (if_pos c4).symm.trans h
          refine lv_tableIn (off := 92) (tgt := 93) hx hb dX4_about_1 (by rw [c4]; decide) (by rw [c4]; decide) (by rw [c4]; rfl) (by decide) ?_
          refine lv_aload_n hx hb dX4_about_93 rfl (lv_at hl 0 rfl) ?_
          refine va_get (D := D) (ci := 4) (v := .ref (q + 1)) (C := RX4) (T := TX4) (N := 9) hx hb hts hinX4 hown hK hP 0 rfl rfl 0 (by decide) hf10 (fun _ h9 => h9) rfl dX4_about_94 ?_
          refine lv_iconst (v := 1) hx hb dX4_about_97 (by decide) ?_
          obtain ⟨r98, hr98, h⟩ := bd_some h
          refine gc_ri (As := [.int 1]) (rest := []) ⟨hx, hb, hml, hown, hts⟩ hK (kX0_count l D cI cC cZ cQ cJ (q + 1) (gLift G) 1 hr98) (cwV 1 hts gX4_about_X0_count rfl rfl rfl (by decide +kernel) ⟨Nat.le_of_ble_eq_true rfl, Nat.le_of_ble_eq_true rfl⟩) (va_recv hK (GW_lift (G := G) hP) (ci := 0) (q0 := 0) rfl rfl) (GW_lift (G := G) hP) rfl hl.1 rfl (Nat.le_of_ble_eq_true rfl) ⟨Nat.zero_le _, Nat.zero_le _⟩ dX4_about_98 ?_
          have h := Option.some.inj h
          subst h
          refine vx_ret ?_
          refine W.widen (k := 1) (n := 6) (by decide) (by decide) ?_
          exact W.iret (v := r98) hx hb hr (fun t ht hW => ⟨⟨_, (), rfl, ⟨rfl, rfl⟩, gh ht hP⟩, hS.F ht⟩) hS.2.2 dX4_about_101
        · replace h := (if_neg c4).symm.trans h
          by_cases c5 : p0 = 4
          · replace h := (if_pos c5).symm.trans h
            refine lv_tableIn (off := 101) (tgt := 102) hx hb dX4_about_1 (by rw [c5]; decide) (by rw [c5]; decide) (by rw [c5]; rfl) (by decide) ?_
            refine lv_aload_n hx hb dX4_about_102 rfl (lv_at hl 0 rfl) ?_
            refine va_get (D := D) (ci := 4) (v := .ref (q + 1)) (C := RX4) (T := TX4) (N := 9) hx hb hts hinX4 hown hK hP 0 rfl rfl 0 (by decide) hf10 (fun _ h9 => h9) rfl dX4_about_103 ?_
            refine lv_iconst (v := 2) hx hb dX4_about_106 (by decide) ?_
            obtain ⟨r107, hr107, h⟩ := bd_some h
            refine gc_ri (As := [.int 2]) (rest := []) ⟨hx, hb, hml, hown, hts⟩ hK (kX0_count l D cI cC cZ cQ cJ (q + 1) (gLift G) 2 hr107) (cwV 1 hts gX4_about_X0_count rfl rfl rfl (by decide +kernel) ⟨Nat.le_of_ble_eq_true rfl, Nat.le_of_ble_eq_true rfl⟩) (va_recv hK (GW_lift (G := G) hP) (ci := 0) (q0 := 0) rfl rfl) (GW_lift (G := G) hP) rfl hl.1 rfl (Nat.le_of_ble_eq_true rfl) ⟨Nat.zero_le _, Nat.zero_le _⟩ dX4_about_107 ?_
            have h := Option.some.inj h
            subst h
            refine vx_ret ?_
            refine W.widen (k := 1) (n := 6) (by decide) (by decide) ?_
            exact W.iret (v := r107) hx hb hr (fun t ht hW => ⟨⟨_, (), rfl, ⟨rfl, rfl⟩, gh ht hP⟩, hS.F ht⟩) hS.2.2 dX4_about_110
          · replace h := (if_neg c5).symm.trans h
            by_cases c6 : p0 = 5
            · replace h := (if_pos c6).symm.trans h
              refine lv_tableIn (off := 110) (tgt := 111) hx hb dX4_about_1 (by rw [c6]; decide) (by rw [c6]; decide) (by rw [c6]; rfl) (by decide) ?_
              refine lv_aload_n hx hb dX4_about_111 rfl (lv_at hl 0 rfl) ?_
              refine va_get (D := D) (ci := 4) (v := .ref (q + 1)) (C := RX4) (T := TX4) (N := 9) hx hb hts hinX4 hown hK hP 0 rfl rfl 0 (by decide) hf10 (fun _ h9 => h9) rfl dX4_about_112 ?_
              refine lv_iconst (v := 3) hx hb dX4_about_115 (by decide) ?_
              obtain ⟨r116, hr116, h⟩ := bd_some h
              refine gc_ri (As := [.int 3]) (rest := []) ⟨hx, hb, hml, hown, hts⟩ hK (kX0_count l D cI cC cZ cQ cJ (q + 1) (gLift G) 3 hr116) (cwV 1 hts gX4_about_X0_count rfl rfl rfl (by decide +kernel) ⟨Nat.le_of_ble_eq_true rfl, Nat.le_of_ble_eq_true rfl⟩) (va_recv hK (GW_lift (G := G) hP) (ci := 0) (q0 := 0) rfl rfl) (GW_lift (G := G) hP) rfl hl.1 rfl (Nat.le_of_ble_eq_true rfl) ⟨Nat.zero_le _, Nat.zero_le _⟩ dX4_about_116 ?_
              have h := Option.some.inj h
              subst h
              refine vx_ret ?_
              refine W.widen (k := 1) (n := 6) (by decide) (by decide) ?_
              exact W.iret (v := r116) hx hb hr (fun t ht hW => ⟨⟨_, (), rfl, ⟨rfl, rfl⟩, gh ht hP⟩, hS.F ht⟩) hS.2.2 dX4_about_119
            · replace h := (if_neg c6).symm.trans h
              by_cases c7 : p0 = 6
              · replace h := (if_pos c7).symm.trans h
                refine lv_tableIn (off := 119) (tgt := 120) hx hb dX4_about_1 (by rw [c7]; decide) (by rw [c7]; decide) (by rw [c7]; rfl) (by decide) ?_
                refine lv_aload_n hx hb dX4_about_120 rfl (lv_at hl 0 rfl) ?_
                refine va_get (D := D) (ci := 4) (v := .ref (q + 1)) (C := RX4) (T := TX4) (N := 9) hx hb hts hinX4 hown hK hP 0 rfl rfl 0 (by decide) hf10 (fun _ h9 => h9) rfl dX4_about_121 ?_
                refine va_get (D := D) (ci := 0) (v := .int (lStn (gLift G))) (C := RX0) (T := TX0) (N := 13) hx hb hts hinX0 hown hK hP 1 rfl rfl 10 (by decide) hf108 (fun _ h9 => h9) rfl dX4_about_124 ?_
                have h := Option.some.inj h
                subst h
                refine vx_ret ?_
                refine W.widen (k := 1) (n := 6) (by decide) (by decide) ?_
                exact W.iret (v := (lStn (gLift G))) hx hb hr (fun t ht hW => ⟨⟨_, (), rfl, ⟨rfl, rfl⟩, gh ht hP⟩, hS.F ht⟩) hS.2.2 dX4_about_127
              · replace h := (if_neg c7).symm.trans h
                by_cases c8 : p0 = 7
                · replace h := (if_pos c8).symm.trans h
                  refine lv_tableIn (off := 127) (tgt := 128) hx hb dX4_about_1 (by rw [c8]; decide) (by rw [c8]; decide) (by rw [c8]; rfl) (by decide) ?_
                  refine lv_aload_n hx hb dX4_about_128 rfl (lv_at hl 0 rfl) ?_
                  refine va_get (D := D) (ci := 4) (v := .ref (q + 1)) (C := RX4) (T := TX4) (N := 9) hx hb hts hinX4 hown hK hP 0 rfl rfl 0 (by decide) hf10 (fun _ h9 => h9) rfl dX4_about_129 ?_
                  refine va_get (D := D) (ci := 0) (v := .int (lClk (gLift G))) (C := RX0) (T := TX0) (N := 13) hx hb hts hinX0 hown hK hP 1 rfl rfl 11 (by decide) hf111 (fun _ h9 => h9) rfl dX4_about_132 ?_
                  have h := Option.some.inj h
                  subst h
                  refine vx_ret ?_
                  refine W.widen (k := 1) (n := 6) (by decide) (by decide) ?_
                  exact W.iret (v := (lClk (gLift G))) hx hb hr (fun t ht hW => ⟨⟨_, (), rfl, ⟨rfl, rfl⟩, gh ht hP⟩, hS.F ht⟩) hS.2.2 dX4_about_135
                · replace h := (if_neg c8).symm.trans h
                  by_cases c9 : p0 = 8
                  · replace h := (if_pos c9).symm.trans h
                    refine lv_tableIn (off := 135) (tgt := 136) hx hb dX4_about_1 (by rw [c9]; decide) (by rw [c9]; decide) (by rw [c9]; rfl) (by decide) ?_
                    refine lv_aload_n hx hb dX4_about_136 rfl (lv_at hl 0 rfl) ?_
                    refine va_get (D := D) (ci := 4) (v := .ref (q + 1)) (C := RX4) (T := TX4) (N := 9) hx hb hts hinX4 hown hK hP 0 rfl rfl 0 (by decide) hf10 (fun _ h9 => h9) rfl dX4_about_137 ?_
                    refine va_get (D := D) (ci := 0) (v := .ref (q + 10)) (C := RX0) (T := TX0) (N := 13) hx hb hts hinX0 hown hK hP 1 rfl rfl 8 (by decide) hf114 (fun _ h9 => h9) rfl dX4_about_140 ?_
                    refine lv_iconst (v := 0) hx hb dX4_about_143 (by decide) ?_
                    refine g_iald (f := (lLi (gLift G))) (k := 0) hx hb hK hP 10 0 rfl rfl (vin_lit rfl) rfl dX4_about_144 ?_
                    have h := Option.some.inj h
                    subst h
                    refine vx_ret ?_
                    refine W.widen (k := 1) (n := 6) (by decide) (by decide) ?_
                    exact W.iret (v := ((lLi (gLift G)) 0)) hx hb hr (fun t ht hW => ⟨⟨_, (), rfl, ⟨rfl, rfl⟩, gh ht hP⟩, hS.F ht⟩) hS.2.2 dX4_about_145
                  · replace h := (if_neg c9).symm.trans h
                    by_cases c10 : p0 = 9
                    · replace h := (if_pos c10).symm.trans h
                      refine lv_tableIn (off := 145) (tgt := 146) hx hb dX4_about_1 (by rw [c10]; decide) (by rw [c10]; decide) (by rw [c10]; rfl) (by decide) ?_
                      refine lv_aload_n hx hb dX4_about_146 rfl (lv_at hl 0 rfl) ?_
                      refine va_get (D := D) (ci := 4) (v := .ref (q + 1)) (C := RX4) (T := TX4) (N := 9) hx hb hts hinX4 hown hK hP 0 rfl rfl 0 (by decide) hf10 (fun _ h9 => h9) rfl dX4_about_147 ?_
                      refine va_get (D := D) (ci := 0) (v := .ref (q + 10)) (C := RX0) (T := TX0) (N := 13) hx hb hts hinX0 hown hK hP 1 rfl rfl 8 (by decide) hf114 (fun _ h9 => h9) rfl dX4_about_150 ?_
                      refine lv_iconst (v := 1) hx hb dX4_about_153 (by decide) ?_
                      refine g_iald (f := (lLi (gLift G))) (k := 1) hx hb hK hP 10 0 rfl rfl (vin_lit rfl) rfl dX4_about_154 ?_
                      have h := Option.some.inj h
                      subst h
                      refine vx_ret ?_
                      refine W.widen (k := 1) (n := 6) (by decide) (by decide) ?_
                      exact W.iret (v := ((lLi (gLift G)) 1)) hx hb hr (fun t ht hW => ⟨⟨_, (), rfl, ⟨rfl, rfl⟩, gh ht hP⟩, hS.F ht⟩) hS.2.2 dX4_about_155
                    · replace h := (if_neg c10).symm.trans h
                      by_cases c11 : p0 = 10
                      · replace h := (if_pos c11).symm.trans h
                        refine lv_tableIn (off := 155) (tgt := 156) hx hb dX4_about_1 (by rw [c11]; decide) (by rw [c11]; decide) (by rw [c11]; rfl) (by decide) ?_
                        refine lv_aload_n hx hb dX4_about_156 rfl (lv_at hl 0 rfl) ?_
                        refine va_get (D := D) (ci := 4) (v := .ref (q + 1)) (C := RX4) (T := TX4) (N := 9) hx hb hts hinX4 hown hK hP 0 rfl rfl 0 (by decide) hf10 (fun _ h9 => h9) rfl dX4_about_157 ?_
                        refine va_get (D := D) (ci := 0) (v := .ref (q + 10)) (C := RX0) (T := TX0) (N := 13) hx hb hts hinX0 hown hK hP 1 rfl rfl 8 (by decide) hf114 (fun _ h9 => h9) rfl dX4_about_160 ?_
                        refine lv_iconst (v := 2) hx hb dX4_about_163 (by decide) ?_
                        refine g_iald (f := (lLi (gLift G))) (k := 2) hx hb hK hP 10 0 rfl rfl (vin_lit rfl) rfl dX4_about_164 ?_
                        have h := Option.some.inj h
                        subst h
                        refine vx_ret ?_
                        refine W.widen (k := 1) (n := 6) (by decide) (by decide) ?_
                        exact W.iret (v := ((lLi (gLift G)) 2)) hx hb hr (fun t ht hW => ⟨⟨_, (), rfl, ⟨rfl, rfl⟩, gh ht hP⟩, hS.F ht⟩) hS.2.2 dX4_about_165
                      · replace h := (if_neg c11).symm.trans h
                        by_cases c12 : p0 = 11
                        · replace h := (if_pos c12).symm.trans h
                          refine lv_tableIn (off := 165) (tgt := 166) hx hb dX4_about_1 (by rw [c12]; decide) (by rw [c12]; decide) (by rw [c12]; rfl) (by decide) ?_
                          refine lv_aload_n hx hb dX4_about_166 rfl (lv_at hl 0 rfl) ?_
                          refine va_get (D := D) (ci := 4) (v := .ref (q + 1)) (C := RX4) (T := TX4) (N := 9) hx hb hts hinX4 hown hK hP 0 rfl rfl 0 (by decide) hf10 (fun _ h9 => h9) rfl dX4_about_167 ?_
                          refine va_get (D := D) (ci := 0) (v := .ref (q + 10)) (C := RX0) (T := TX0) (N := 13) hx hb hts hinX0 hown hK hP 1 rfl rfl 8 (by decide) hf114 (fun _ h9 => h9) rfl dX4_about_170 ?_
                          refine lv_iconst (v := 3) hx hb dX4_about_173 (by decide) ?_
                          refine g_iald (f := (lLi (gLift G))) (k := 3) hx hb hK hP 10 0 rfl rfl (vin_lit rfl) rfl dX4_about_174 ?_
                          have h := Option.some.inj h
                          subst h
                          refine vx_ret ?_
                          refine W.widen (k := 1) (n := 6) (by decide) (by decide) ?_
                          exact W.iret (v := ((lLi (gLift G)) 3)) hx hb hr (fun t ht hW => ⟨⟨_, (), rfl, ⟨rfl, rfl⟩, gh ht hP⟩, hS.F ht⟩) hS.2.2 dX4_about_175
                        · replace h := (if_neg c12).symm.trans h
                          by_cases c13 : p0 = 12
                          · replace h := (if_pos c13).symm.trans h
                            refine lv_tableIn (off := 175) (tgt := 176) hx hb dX4_about_1 (by rw [c13]; decide) (by rw [c13]; decide) (by rw [c13]; rfl) (by decide) ?_
                            refine lv_aload_n hx hb dX4_about_176 rfl (lv_at hl 0 rfl) ?_
                            refine va_get (D := D) (ci := 4) (v := .ref (q + 1)) (C := RX4) (T := TX4) (N := 9) hx hb hts hinX4 hown hK hP 0 rfl rfl 0 (by decide) hf10 (fun _ h9 => h9) rfl dX4_about_177 ?_
                            refine va_get (D := D) (ci := 0) (v := .ref (q + 10)) (C := RX0) (T := TX0) (N := 13) hx hb hts hinX0 hown hK hP 1 rfl rfl 8 (by decide) hf114 (fun _ h9 => h9) rfl dX4_about_180 ?_
                            refine lv_iconst (v := 4) hx hb dX4_about_183 (by decide) ?_
                            refine g_iald (f := (lLi (gLift G))) (k := 4) hx hb hK hP 10 0 rfl rfl (vin_lit rfl) rfl dX4_about_184 ?_
                            have h := Option.some.inj h
                            subst h
                            refine vx_ret ?_
                            refine W.widen (k := 1) (n := 6) (by decide) (by decide) ?_
                            exact W.iret (v := ((lLi (gLift G)) 4)) hx hb hr (fun t ht hW => ⟨⟨_, (), rfl, ⟨rfl, rfl⟩, gh ht hP⟩, hS.F ht⟩) hS.2.2 dX4_about_185
                          · replace h := (if_neg c13).symm.trans h
                            refine lv_tableOut (tgt := 186) hx hb dX4_about_1 (gsw_out 0 12 (x := p0) ?_) (by decide) ?_
                            · intro k h1 h2 hk
                              rcases (show k = 0 ∨ k = 1 ∨ k = 2 ∨ k = 3 ∨ k = 4 ∨ k = 5 ∨ k = 6 ∨ k = 7 ∨ k = 8 ∨ k = 9 ∨ k = 10 ∨ k = 11 ∨ k = 12 by omega) with rfl | rfl | rfl | rfl | rfl | rfl | rfl | rfl | rfl | rfl | rfl | rfl | rfl
                              · exact lv_neT c1 (by decide) hk
                              · exact lv_neT c2 (by decide) hk
                              · exact lv_neT c3 (by decide) hk
                              · exact lv_neT c4 (by decide) hk
                              · exact lv_neT c5 (by decide) hk
                              · exact lv_neT c6 (by decide) hk
                              · exact lv_neT c7 (by decide) hk
                              · exact lv_neT c8 (by decide) hk
                              · exact lv_neT c9 (by decide) hk
                              · exact lv_neT c10 (by decide) hk
                              · exact lv_neT c11 (by decide) hk
                              · exact lv_neT c12 (by decide) hk
                              · exact lv_neT c13 (by decide) hk
                            · have h := Option.some.inj h
                              subst h
                              obtain ⟨sa, hsa⟩ := hE.2.2.2.1 (118, "what is not 0 to 12") (by decide +kernel)
                              exact vx_throwS hx hb hlS (own := RX4) (cls := gIAE) (names := gNm) (A := (fIv q 201)) hown (by decide +kernel) (by decide +kernel) (hts (.classLink RX4 56 gIAE) (by decide +kernel)) (hts (.initialized gIAE) (by decide +kernel)) hsa (vx_hat (fun w hw => hts w (List.mem_cons_of_mem _ (List.mem_append_right _ hw))) gx_ng_IAE (vx_c (va_Nw.use rfl (hE.2.2.2.2.1 gIAE (by decide +kernel))) (vx_c (va_Nw.use rfl (hE.2.2.2.2.2 _ (List.mem_cons_self))) (vx_c (va_Nw.use rfl (hE.2.2.2.2.2 _ (List.mem_cons_of_mem _ List.mem_cons_self))) (vx_c (va_Nw.use rfl (hE.2.2.2.2.2 _ (List.mem_cons_of_mem _ (List.mem_cons_of_mem _ List.mem_cons_self)))) vx_n))))) gx_ot_IAE (hE.2.1.narrow (fun _ h => Nat.le_trans hlo h.1)) (hE.2.2.1.narrow (fun _ h => Nat.le_trans hlo h.1)) hS (hl.1.trans hml.symm) dX4_about_186 dX4_about_189 dX4_about_190 dX4_about_192 dX4_about_195 (fun x9 hx9 => (hnx x9 hx9).elim) (by decide) (by decide) (by decide) (by decide) hlocks (fun t9 hv9 hz9 hk9 => ⟨(), trivial, ⟨rfl, Nat.succ_ne_zero 0, (gx_end hP hS t9 hz9 hk9).1⟩, (gx_end hP hS t9 hz9 hk9).2⟩) hS.2.2 (by decide) (by decide)
set_option maxHeartbeats 4000000 in
set_option maxRecDepth 100000 in
theorem kX4_grip (l : Launch) (D : va_G) (cI cC cZ cQ cJ : ClassId) (t lo : Nat) (q : Nat) (G : GSt) (p0 : Int32) (p1 : Int32) (hlo : lo ≤ q) (hlS : l.stackTraces = false) {R : Nat × Int32 × GSt} (h : fX4_grip G p0 p1 = some R) : vx_Met l yX4_grip wsX4_grip ({ frames := 6, cells := 1, slots := 6, locals := 82 } : Room) (va_Pc [.ref q, .int p0, .int p1] (gBe D (gTy cI cC cZ cQ cJ) t lo (va_P D vwCl (GW cI cC cZ cQ q G)))) (va_Qi (fun r (_ : Unit) => R.1 = 0 ∧ r = R.2.1) (fun _ t => va_P D vwCl (GW cI cC cZ cQ q R.2.2) t.heap) (fIv q 201)) (vx_X (fun _ : Unit => True) (fun E _ t => E = gEx R.1 ∧ R.1 ≠ 0 ∧ va_P D vwCl (GW cI cC cZ cQ q R.2.2) t.heap) (fIv q 201)) 1 6 (fIv q 201) := by
  refine vx_ofW (cc := cX4_grip) (maxL := 3) (ret := (some .int)) (by decide) rfl ?_
  intro p e s m args below meth c s₁ B hml hnx hv
  obtain ⟨rfl, ⟨hP, hK⟩, hE⟩ := hv
  have hZ := hE.1
  have hx := B.exec
  have hb := B.bytes
  have hr := B.returns
  have hts := atoms_spec (ws := wsX4_grip) B.pre
  have hown : s.vm.findClass RX4 = some m.cls := findClass_of_methodNamed B.named
  have hlocks := B.notSynchronized
  have hinX4 : ∀ w ∈ wsX40, w ∈ wsX4_grip := by decide +kernel
  have hf10 := hts (.fieldLink RX4 10 "GripInspector" "lift" "LGripInspector$Lift;") (by decide +kernel)
  generalize hRM : (headSpec wsX4_grip ({ frames := 6, cells := 1, slots := 6, locals := 82 } : Room)).room = RM
  replace hRM : ({ frames := 6, cells := 1, slots := 6, locals := 82 } : Room) = RM := hRM
  subst hRM
  have hl := lv_entry ([.ref q, .int p0, .int p1]) (n := 3) (Nat.le_of_ble_eq_true rfl)
  rw [lg_entry_eq]
  generalize (lg_sl ([.ref q, .int p0, .int p1]) ++ List.replicate (3 - (lg_sl ([.ref q, .int p0, .int p1])).length) Slot.unset).toArray = ls at hl ⊢
  have hl : lv_has ls 3 [(0, .ref q), (1, .int p0), (2, .int p1)] := hl
  have hS : va_S (fIv q 201) s.heap s.heap [] := va_S.rf
  unfold fX4_grip at h
  obtain ⟨H, hH⟩ : ∃ H, H = s.heap := ⟨_, rfl⟩
  obtain ⟨locs, hlz⟩ : ∃ z : List Loc, z = [] := ⟨_, rfl⟩
  have hP : va_P D vwCl (GW cI cC cZ cQ q G) H := by rw [hH]; exact hP
  have hS : va_S (fIv q 201) s.heap H locs := by rw [hH, hlz]; exact hS
  refine gc_at hH hlz ?_
  refine lv_aload_n hx hb dX4_grip_0 rfl (lv_at hl 0 rfl) ?_
  refine va_get (D := D) (ci := 4) (v := .ref (q + 1)) (C := RX4) (T := TX4) (N := 9) hx hb hts hinX4 hown hK hP 0 rfl rfl 0 (by decide) hf10 (fun _ h9 => h9) rfl dX4_grip_1 ?_
  refine lv_iload_n hx hb dX4_grip_4 rfl (lv_at hl 1 rfl) ?_
  obtain ⟨r5, hr5, h⟩ := bd_some h
  refine gc_ri (As := [.int p0]) (rest := []) ⟨hx, hb, hml, hown, hts⟩ hK (kX0_has l D cI cC cZ cQ cJ (q + 1) (gLift G) p0 hr5) (cwV 1 hts gX4_grip_X0_has rfl rfl rfl (by decide +kernel) ⟨Nat.le_of_ble_eq_true rfl, Nat.le_of_ble_eq_true rfl⟩) (va_recv hK (GW_lift (G := G) hP) (ci := 0) (q0 := 0) rfl rfl) (GW_lift (G := G) hP) rfl hl.1 rfl (Nat.le_of_ble_eq_true rfl) ⟨Nat.zero_le _, Nat.zero_le _⟩ dX4_grip_5 ?_
  refine lv_if_ne (tgt := 21) hx hb dX4_grip_8 (by decide) (fun c1 => ?_) (fun c1 => ?_)
  · replace h := (if_neg c1).symm.trans h
    refine lv_iload_n hx hb dX4_grip_21 rfl (lv_at hl 2 rfl) ?_
    obtain ⟨r22, hr22, h⟩ := bd_some h
    refine gc_si (As := [.int p1]) (rest := []) ⟨hx, hb, hml, hown, hts⟩ hK (kX4_isGripNumber l D cI cC cZ cQ cJ p1 hr22) (va_cwS 1 hts gX4_grip_X4_isGripNumber rfl rfl rfl (by decide +kernel) ⟨Nat.le_of_ble_eq_true rfl, Nat.le_of_ble_eq_true rfl⟩)  trivial rfl hl.1 rfl (Nat.le_of_ble_eq_true rfl) ⟨Nat.zero_le _, Nat.zero_le _⟩ dX4_grip_22 ?_
    refine lv_if_ne (tgt := 38) hx hb dX4_grip_25 (by decide) (fun c2 => ?_) (fun c2 => ?_)
    · replace h := (if_neg c2).symm.trans h
      refine lv_aload_n hx hb dX4_grip_38 rfl (lv_at hl 0 rfl) ?_
      refine va_get (D := D) (ci := 4) (v := .ref (q + 1)) (C := RX4) (T := TX4) (N := 9) hx hb hts hinX4 hown hK hP 0 rfl rfl 0 (by decide) hf10 (fun _ h9 => h9) rfl dX4_grip_39 ?_
      refine lv_iload_n hx hb dX4_grip_42 rfl (lv_at hl 1 rfl) ?_
      refine lv_iload_n hx hb dX4_grip_43 rfl (lv_at hl 2 rfl) ?_
      obtain ⟨r44, hr44, h⟩ := bd_some h
      refine gc_ri (As := [.int p0, .int p1]) (rest := []) ⟨hx, hb, hml, hown, hts⟩ hK (kX0_number l D cI cC cZ cQ cJ (q + 1) (gLift G) p0 p1 hr44) (cwV 2 hts gX4_grip_X0_number rfl rfl rfl (by decide +kernel) ⟨Nat.le_of_ble_eq_true rfl, Nat.le_of_ble_eq_true rfl⟩) (va_recv hK (GW_lift (G := G) hP) (ci := 0) (q0 := 0) rfl rfl) (GW_lift (G := G) hP) rfl hl.1 rfl (Nat.le_of_ble_eq_true rfl) ⟨Nat.zero_le _, Nat.zero_le _⟩ dX4_grip_44 ?_
      have h := Option.some.inj h
      subst h
      refine vx_ret ?_
      refine W.widen (k := 1) (n := 6) (by decide) (by decide) ?_
      exact W.iret (v := r44) hx hb hr (fun t ht hW => ⟨⟨_, (), rfl, ⟨rfl, rfl⟩, gh ht hP⟩, hS.F ht⟩) hS.2.2 dX4_grip_47
    · replace h := (if_pos c2).symm.trans h
      have h := Option.some.inj h
      subst h
      obtain ⟨sa, hsa⟩ := hE.2.2.2.1 (132, "what is not 0 to 7") (by decide +kernel)
      exact vx_throwS hx hb hlS (own := RX4) (cls := gIAE) (names := gNm) (A := (fIv q 201)) hown (by decide +kernel) (by decide +kernel) (hts (.classLink RX4 56 gIAE) (by decide +kernel)) (hts (.initialized gIAE) (by decide +kernel)) hsa (vx_hat (fun w hw => hts w (List.mem_cons_of_mem _ (List.mem_append_right _ hw))) gx_ng_IAE (vx_c (va_Nw.use rfl (hE.2.2.2.2.1 gIAE (by decide +kernel))) (vx_c (va_Nw.use rfl (hE.2.2.2.2.2 _ (List.mem_cons_self))) (vx_c (va_Nw.use rfl (hE.2.2.2.2.2 _ (List.mem_cons_of_mem _ List.mem_cons_self))) (vx_c (va_Nw.use rfl (hE.2.2.2.2.2 _ (List.mem_cons_of_mem _ (List.mem_cons_of_mem _ List.mem_cons_self)))) vx_n))))) gx_ot_IAE (hE.2.1.narrow (fun _ h => Nat.le_trans hlo h.1)) (hE.2.2.1.narrow (fun _ h => Nat.le_trans hlo h.1)) hS (hl.1.trans hml.symm) dX4_grip_28 dX4_grip_31 dX4_grip_32 dX4_grip_34 dX4_grip_37 (fun x9 hx9 => (hnx x9 hx9).elim) (by decide) (by decide) (by decide) (by decide) hlocks (fun t9 hv9 hz9 hk9 => ⟨(), trivial, ⟨rfl, Nat.succ_ne_zero 0, (gx_end hP hS t9 hz9 hk9).1⟩, (gx_end hP hS t9 hz9 hk9).2⟩) hS.2.2 (by decide) (by decide)
  · replace h := (if_pos c1).symm.trans h
    have h := Option.some.inj h
    subst h
    obtain ⟨sa, hsa⟩ := hE.2.2.2.1 (126, "no such grip") (by decide +kernel)
    exact vx_throwS hx hb hlS (own := RX4) (cls := gIOB) (names := gNm) (A := (fIv q 201)) hown (by decide +kernel) (by decide +kernel) (hts (.classLink RX4 124 gIOB) (by decide +kernel)) (hts (.initialized gIOB) (by decide +kernel)) hsa (vx_hat (fun w hw => hts w (List.mem_cons_of_mem _ (List.mem_append_left _ (List.mem_append_right _ hw)))) gx_ng_IOB (vx_c (va_Nw.use rfl (hE.2.2.2.2.1 gIOB (by decide +kernel))) (vx_c (va_Nw.use rfl (hE.2.2.2.2.2 _ (List.mem_cons_self))) (vx_c (va_Nw.use rfl (hE.2.2.2.2.2 _ (List.mem_cons_of_mem _ List.mem_cons_self))) (vx_c (va_Nw.use rfl (hE.2.2.2.2.2 _ (List.mem_cons_of_mem _ (List.mem_cons_of_mem _ List.mem_cons_self)))) vx_n))))) gx_ot_IOB (hE.2.1.narrow (fun _ h => Nat.le_trans hlo h.1)) (hE.2.2.1.narrow (fun _ h => Nat.le_trans hlo h.1)) hS (hl.1.trans hml.symm) dX4_grip_11 dX4_grip_14 dX4_grip_15 dX4_grip_17 dX4_grip_20 (fun x9 hx9 => (hnx x9 hx9).elim) (by decide) (by decide) (by decide) (by decide) hlocks (fun t9 hv9 hz9 hk9 => ⟨(), trivial, ⟨rfl, Nat.succ_ne_zero 2, (gx_end hP hS t9 hz9 hk9).1⟩, (gx_end hP hS t9 hz9 hk9).2⟩) hS.2.2 (by decide) (by decide)

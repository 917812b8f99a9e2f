set_option maxHeartbeats 4000000 in
set_option maxRecDepth 100000 in
theorem kX4_ahead (l : Launch) (D : va_G) (cI cC cZ cQ cJ : ClassId) (t lo : Nat) (q : Nat) (G : GSt) (p0 : Int32) (p1 : Int32) (p2 : Int32) (hlo : lo ≤ q) (hlS : l.stackTraces = false) {R : Nat × Int32 × GSt} (h : fX4_ahead G p0 p1 p2 = some R) : vx_Met l yX4_ahead wsX4_ahead ({ frames := 6, cells := 1, slots := 6, locals := 111 } : Room) (va_Pc [.ref q, .int p0, .int p1, .int p2] (gBe D (gTy cI cC cZ cQ cJ) t lo (va_P D vwCl (GW cI cC cZ cQ q G)))) (va_Qi (fun r (_ : Unit) => R.1 = 0 ∧ r = R.2.1) (fun _ t => va_P D vwCl (GW cI cC cZ cQ q R.2.2) t.heap) (fIv q 201)) (vx_X (fun _ : Unit => True) (fun E _ t => E = gEx R.1 ∧ R.1 ≠ 0 ∧ va_P D vwCl (GW cI cC cZ cQ q R.2.2) t.heap) (fIv q 201)) 1 6 (fIv q 201) := by
  refine vx_ofW (cc := cX4_ahead) (maxL := 4) (ret := (some .int)) (by decide) rfl ?_
  intro p e s m args below meth c s₁ B hml hnx hv
  obtain ⟨rfl, ⟨hP, hK⟩, hE⟩ := hv
  have hZ := hE.1
  have hx := B.exec
  have hb := B.bytes
  have hr := B.returns
  have hts := atoms_spec (ws := wsX4_ahead) B.pre
  have hown : s.vm.findClass RX4 = some m.cls := findClass_of_methodNamed B.named
  have hlocks := B.notSynchronized
  have hinX4 : ∀ w ∈ wsX40, w ∈ wsX4_ahead := by decide +kernel
  have hf10 := hts (.fieldLink RX4 10 "GripInspector" "lift" "LGripInspector$Lift;") (by decide +kernel)
  have hf16 := hts (.fieldLink RX4 16 "GripInspector" "trial" "LGripInspector$Lift;") (by decide +kernel)
  generalize hRM : (headSpec wsX4_ahead ({ frames := 6, cells := 1, slots := 6, locals := 111 } : Room)).room = RM
  replace hRM : ({ frames := 6, cells := 1, slots := 6, locals := 111 } : Room) = RM := hRM
  subst hRM
  have hl := lv_entry ([.ref q, .int p0, .int p1, .int p2]) (n := 4) (Nat.le_of_ble_eq_true rfl)
  rw [lg_entry_eq]
  generalize (lg_sl ([.ref q, .int p0, .int p1, .int p2]) ++ List.replicate (4 - (lg_sl ([.ref q, .int p0, .int p1, .int p2])).length) Slot.unset).toArray = ls at hl ⊢
  have hl : lv_has ls 4 [(0, .ref q), (1, .int p0), (2, .int p1), (3, .int p2)] := hl
  have hS : va_S (fIv q 201) s.heap s.heap [] := va_S.rf
  unfold fX4_ahead at h
  obtain ⟨H, hH⟩ : ∃ H, H = s.heap := ⟨_, rfl⟩
  obtain ⟨locs, hlz⟩ : ∃ z : List Loc, z = [] := ⟨_, rfl⟩
  have hP : va_P D vwCl (GW cI cC cZ cQ q G) H := by rw [hH]; exact hP
  have hS : va_S (fIv q 201) s.heap H locs := by rw [hH, hlz]; exact hS
  refine gc_at hH hlz ?_
  refine lv_aload_n hx hb dX4_ahead_0 rfl (lv_at hl 0 rfl) ?_
  refine va_get (D := D) (ci := 4) (v := .ref (q + 1)) (C := RX4) (T := TX4) (N := 9) hx hb hts hinX4 hown hK hP 0 rfl rfl 0 (by decide) hf10 (fun _ h9 => h9) rfl dX4_ahead_1 ?_
  refine lv_iload_n hx hb dX4_ahead_4 rfl (lv_at hl 1 rfl) ?_
  obtain ⟨r5, hr5, h⟩ := bd_some h
  refine gc_ri (As := [.int p0]) (rest := []) ⟨hx, hb, hml, hown, hts⟩ hK (kX0_has l D cI cC cZ cQ cJ (q + 1) (gLift G) p0 hr5) (cwV 1 hts gX4_ahead_X0_has rfl rfl rfl (by decide +kernel) ⟨Nat.le_of_ble_eq_true rfl, Nat.le_of_ble_eq_true rfl⟩) (va_recv hK (GW_lift (G := G) hP) (ci := 0) (q0 := 0) rfl rfl) (GW_lift (G := G) hP) rfl hl.1 rfl (Nat.le_of_ble_eq_true rfl) ⟨Nat.zero_le _, Nat.zero_le _⟩ dX4_ahead_5 ?_
  refine lv_if_ne (tgt := 21) hx hb dX4_ahead_8 (by decide) (fun c1 => ?_) (fun c1 => ?_)
  · replace h := (if_neg c1).symm.trans h
    refine lv_iload_n hx hb dX4_ahead_21 rfl (lv_at hl 2 rfl) ?_
    refine lv_if_lt (tgt := 31) hx hb dX4_ahead_22 (by decide) (fun c2 => ?_) (fun c2 => ?_)
    · replace h := (if_pos c2).symm.trans h
      have h := Option.some.inj h
      subst h
      obtain ⟨sa, hsa⟩ := hE.2.2.2.1 (242, "m is not 0 to 99") (by decide +kernel)
      exact vx_throwS hx hb hlS (own := RX4) (cls := gIAE) (names := gNm) (A := (fIv q 201)) hown (by decide +kernel) (by decide +kernel) (hts (.classLink RX4 56 gIAE) (by decide +kernel)) (hts (.initialized gIAE) (by decide +kernel)) hsa (vx_hat (fun w hw => hts w (List.mem_cons_of_mem _ (List.mem_append_right _ hw))) gx_ng_IAE (vx_c (va_Nw.use rfl (hE.2.2.2.2.1 gIAE (by decide +kernel))) (vx_c (va_Nw.use rfl (hE.2.2.2.2.2 _ (List.mem_cons_self))) (vx_c (va_Nw.use rfl (hE.2.2.2.2.2 _ (List.mem_cons_of_mem _ List.mem_cons_self))) (vx_c (va_Nw.use rfl (hE.2.2.2.2.2 _ (List.mem_cons_of_mem _ (List.mem_cons_of_mem _ List.mem_cons_self)))) vx_n))))) gx_ot_IAE (hE.2.1.narrow (fun _ h => Nat.le_trans hlo h.1)) (hE.2.2.1.narrow (fun _ h => Nat.le_trans hlo h.1)) hS (hl.1.trans hml.symm) dX4_ahead_31 dX4_ahead_34 dX4_ahead_35 dX4_ahead_37 dX4_ahead_40 (fun x9 hx9 => (hnx x9 hx9).elim) (by decide) (by decide) (by decide) (by decide) hlocks (fun t9 hv9 hz9 hk9 => ⟨(), trivial, ⟨rfl, Nat.succ_ne_zero 0, (gx_end hP hS t9 hz9 hk9).1⟩, (gx_end hP hS t9 hz9 hk9).2⟩) hS.2.2 (by decide) (by decide)
    · replace h := (if_neg c2).symm.trans h
      refine lv_iload_n hx hb dX4_ahead_25 rfl (lv_at hl 2 rfl) ?_
      refine lv_bipush (v := 99) hx hb dX4_ahead_26 (by decide) ?_
      refine lv_icmp_le (tgt := 41) hx hb dX4_ahead_28 (by decide) (fun c3 => ?_) (fun c3 => ?_)
      · replace h := (if_pos c3).symm.trans h
        refine lv_iload_n hx hb dX4_ahead_41 rfl (lv_at hl 3 rfl) ?_
        obtain ⟨r42, hr42, h⟩ := bd_some h
        refine gc_si (As := [.int p2]) (rest := []) ⟨hx, hb, hml, hown, hts⟩ hK (kX4_isGripNumber l D cI cC cZ cQ cJ p2 hr42) (va_cwS 1 hts gX4_ahead_X4_isGripNumber rfl rfl rfl (by decide +kernel) ⟨Nat.le_of_ble_eq_true rfl, Nat.le_of_ble_eq_true rfl⟩)  trivial rfl hl.1 rfl (Nat.le_of_ble_eq_true rfl) ⟨Nat.zero_le _, Nat.zero_le _⟩ dX4_ahead_42 ?_
        refine lv_if_ne (tgt := 58) hx hb dX4_ahead_45 (by decide) (fun c4 => ?_) (fun c4 => ?_)
        · replace h := (if_neg c4).symm.trans h
          refine lv_aload_n hx hb dX4_ahead_58 rfl (lv_at hl 0 rfl) ?_
          refine va_get (D := D) (ci := 4) (v := .ref (q + 11)) (C := RX4) (T := TX4) (N := 9) hx hb hts hinX4 hown hK hP 0 rfl rfl 1 (by decide) hf16 (fun _ h9 => h9) rfl dX4_ahead_59 ?_
          refine lv_aload_n hx hb dX4_ahead_62 rfl (lv_at hl 0 rfl) ?_
          refine va_get (D := D) (ci := 4) (v := .ref (q + 1)) (C := RX4) (T := TX4) (N := 9) hx hb hts hinX4 hown hK hP 0 rfl rfl 0 (by decide) hf10 (fun _ h9 => h9) rfl dX4_ahead_63 ?_
          refine gc_wv (As := [.ref (q + 1)]) (rest := []) (B := va_P D vwCl (LLW cI (q + 11) (q + 1) ((gTrial G), (gLift G)))) (B' := va_P D vwCl (LLW cI (q + 11) (q + 1) (lCopy (gTrial G) (gLift G), (gLift G)))) ⟨hx, hb, hml, hown, hts⟩ hK (kX0_become l D cI cC cZ cQ cJ (q + 11) (q + 1) ((gTrial G), (gLift G)) (by omega) (become_copy (gTrial G) (gLift G))) (cwV 1 hts gX4_ahead_X0_become rfl rfl rfl (by decide +kernel) ⟨Nat.le_of_ble_eq_true rfl, Nat.le_of_ble_eq_true rfl⟩) (va_recv hK (GW_trial (G := G) hP) (ci := 0) (q0 := 0) rfl rfl) (va_P.app (GW_trial (G := G) hP) (GW_lift (G := G) hP)) hS GW_inTL rfl hl.1 rfl (Nat.le_of_ble_eq_true rfl) ⟨Nat.zero_le _, Nat.zero_le _⟩ dX4_ahead_66 (fun H1 locs hB1 hS _ hk1 => ?_)
          have hP : va_P D vwCl (GW cI cC cZ cQ q ((gLift G), (lCopy (gTrial G) (gLift G)), (gTxt G), (gSum G), (gHis G), (gSav G), (gSvd G), (gRem G), (gNxt G))) H1 := GW_putTL (G := G) hP (gL hB1) (gR hB1) (fun a hl n1 n2 => hk1 a hl (fun z => z.elim n1 n2))
          generalize H1 = H at hP hS ⊢
          refine lv_aload_n hx hb dX4_ahead_69 rfl (lv_at hl 0 rfl) ?_
          refine va_get (D := D) (ci := 4) (v := .ref (q + 11)) (C := RX4) (T := TX4) (N := 9) hx hb hts hinX4 hown hK hP 0 rfl rfl 1 (by decide) hf16 (fun _ h9 => h9) rfl dX4_ahead_70 ?_
          refine lv_iload_n hx hb dX4_ahead_73 rfl (lv_at hl 2 rfl) ?_
          obtain ⟨r74, hr74, h⟩ := bd_some h
          refine gc_wv (As := [.int p1]) (rest := []) ⟨hx, hb, hml, hown, hts⟩ hK (kX0_advanceBy l D cI cC cZ cQ cJ (q + 11) (lCopy (gTrial G) (gLift G)) p1 hr74) (cwV 1 hts gX4_ahead_X0_advanceBy rfl rfl rfl (by decide +kernel) ⟨Nat.le_of_ble_eq_true rfl, Nat.le_of_ble_eq_true rfl⟩) (va_recv hK (GW_trial (G := ((gLift G), (lCopy (gTrial G) (gLift G)), (gTxt G), (gSum G), (gHis G), (gSav G), (gSvd G), (gRem G), (gNxt G))) hP) (ci := 0) (q0 := 0) rfl rfl) (GW_trial (G := ((gLift G), (lCopy (gTrial G) (gLift G)), (gTxt G), (gSum G), (gHis G), (gSav G), (gSvd G), (gRem G), (gNxt G))) hP) hS GW_inTrial rfl hl.1 rfl (Nat.le_of_ble_eq_true rfl) ⟨Nat.zero_le _, Nat.zero_le _⟩ dX4_ahead_74 (fun H1 locs hP1 hS _ hk1 => ?_)
          have hP : va_P D vwCl (GW cI cC cZ cQ q ((gLift G), r74, (gTxt G), (gSum G), (gHis G), (gSav G), (gSvd G), (gRem G), (gNxt G))) H1 := GW_putTrial (G := ((gLift G), (lCopy (gTrial G) (gLift G)), (gTxt G), (gSum G), (gHis G), (gSav G), (gSvd G), (gRem G), (gNxt G))) hP hP1 hk1
          generalize H1 = H at hP hS ⊢
          refine lv_aload_n hx hb dX4_ahead_77 rfl (lv_at hl 0 rfl) ?_
          refine va_get (D := D) (ci := 4) (v := .ref (q + 11)) (C := RX4) (T := TX4) (N := 9) hx hb hts hinX4 hown hK hP 0 rfl rfl 1 (by decide) hf16 (fun _ h9 => h9) rfl dX4_ahead_78 ?_
          refine lv_iload_n hx hb dX4_ahead_81 rfl (lv_at hl 1 rfl) ?_
          refine lv_iload_n hx hb dX4_ahead_82 rfl (lv_at hl 3 rfl) ?_
          obtain ⟨r83, hr83, h⟩ := bd_some h
          refine gc_ri (As := [.int p0, .int p2]) (rest := []) ⟨hx, hb, hml, hown, hts⟩ hK (kX0_number l D cI cC cZ cQ cJ (q + 11) r74 p0 p2 hr83) (cwV 2 hts gX4_ahead_X0_number rfl rfl rfl (by decide +kernel) ⟨Nat.le_of_ble_eq_true rfl, Nat.le_of_ble_eq_true rfl⟩) (va_recv hK (GW_trial (G := ((gLift G), r74, (gTxt G), (gSum G), (gHis G), (gSav G), (gSvd G), (gRem G), (gNxt G))) hP) (ci := 0) (q0 := 0) rfl rfl) (GW_trial (G := ((gLift G), r74, (gTxt G), (gSum G), (gHis G), (gSav G), (gSvd G), (gRem G), (gNxt G))) hP) rfl hl.1 rfl (Nat.le_of_ble_eq_true rfl) ⟨Nat.zero_le _, Nat.zero_le _⟩ dX4_ahead_83 ?_
          have h := Option.some.inj h
          subst h
          refine vx_ret ?_
          refine W.widen (k := 1) (n := 6) (by decide) (by decide) ?_
          exact W.iret (v := r83) hx hb hr (fun t ht hW => ⟨⟨_, (), rfl, ⟨rfl, rfl⟩, gh ht hP⟩, hS.F ht⟩) hS.2.2 dX4_ahead_86
        · replace h := (if_pos c4).symm.trans h
          have h := Option.some.inj h
          subst h
          obtain ⟨sa, hsa⟩ := hE.2.2.2.1 (132, "what is not 0 to 7") (by decide +kernel)
          exact vx_throwS hx hb hlS (own := RX4) (cls := gIAE) (names := gNm) (A := (fIv q 201)) hown (by decide +kernel) (by decide +kernel) (hts (.classLink RX4 56 gIAE) (by decide +kernel)) (hts (.initialized gIAE) (by decide +kernel)) hsa (vx_hat (fun w hw => hts w (List.mem_cons_of_mem _ (List.mem_append_right _ hw))) gx_ng_IAE (vx_c (va_Nw.use rfl (hE.2.2.2.2.1 gIAE (by decide +kernel))) (vx_c (va_Nw.use rfl (hE.2.2.2.2.2 _ (List.mem_cons_self))) (vx_c (va_Nw.use rfl (hE.2.2.2.2.2 _ (List.mem_cons_of_mem _ List.mem_cons_self))) (vx_c (va_Nw.use rfl (hE.2.2.2.2.2 _ (List.mem_cons_of_mem _ (List.mem_cons_of_mem _ List.mem_cons_self)))) vx_n))))) gx_ot_IAE (hE.2.1.narrow (fun _ h => Nat.le_trans hlo h.1)) (hE.2.2.1.narrow (fun _ h => Nat.le_trans hlo h.1)) hS (hl.1.trans hml.symm) dX4_ahead_48 dX4_ahead_51 dX4_ahead_52 dX4_ahead_54 dX4_ahead_57 (fun x9 hx9 => (hnx x9 hx9).elim) (by decide) (by decide) (by decide) (by decide) hlocks (fun t9 hv9 hz9 hk9 => ⟨(), trivial, ⟨rfl, Nat.succ_ne_zero 0, (gx_end hP hS t9 hz9 hk9).1⟩, (gx_end hP hS t9 hz9 hk9).2⟩) hS.2.2 (by decide) (by decide)
      · replace h := (if_neg c3).symm.trans h
        have h := Option.some.inj h
        subst h
        obtain ⟨sa, hsa⟩ := hE.2.2.2.1 (242, "m is not 0 to 99") (by decide +kernel)
        exact vx_throwS hx hb hlS (own := RX4) (cls := gIAE) (names := gNm) (A := (fIv q 201)) hown (by decide +kernel) (by decide +kernel) (hts (.classLink RX4 56 gIAE) (by decide +kernel)) (hts (.initialized gIAE) (by decide +kernel)) hsa (vx_hat (fun w hw => hts w (List.mem_cons_of_mem _ (List.mem_append_right _ hw))) gx_ng_IAE (vx_c (va_Nw.use rfl (hE.2.2.2.2.1 gIAE (by decide +kernel))) (vx_c (va_Nw.use rfl (hE.2.2.2.2.2 _ (List.mem_cons_self))) (vx_c (va_Nw.use rfl (hE.2.2.2.2.2 _ (List.mem_cons_of_mem _ List.mem_cons_self))) (vx_c (va_Nw.use rfl (hE.2.2.2.2.2 _ (List.mem_cons_of_mem _ (List.mem_cons_of_mem _ List.mem_cons_self)))) vx_n))))) gx_ot_IAE (hE.2.1.narrow (fun _ h => Nat.le_trans hlo h.1)) (hE.2.2.1.narrow (fun _ h => Nat.le_trans hlo h.1)) hS (hl.1.trans hml.symm) dX4_ahead_31 dX4_ahead_34 dX4_ahead_35 dX4_ahead_37 dX4_ahead_40 (fun x9 hx9 => (hnx x9 hx9).elim) (by decide) (by decide) (by decide) (by decide) hlocks (fun t9 hv9 hz9 hk9 => ⟨(), trivial, ⟨rfl, Nat.succ_ne_zero 0, (gx_end hP hS t9 hz9 hk9).1⟩, (gx_end hP hS t9 hz9 hk9).2⟩) hS.2.2 (by decide) (by decide)
  · replace h := (if_pos c1).symm.trans h
    have h := Option.some.inj h
    subst h
    obtain ⟨sa, hsa⟩ := hE.2.2.2.1 (126, "no such grip") (by decide +kernel)
    exact vx_throwS hx hb hlS (own := RX4) (cls := gIOB) (names := gNm) (A := (fIv q 201)) hown (by decide +kernel) (by decide +kernel) (hts (.classLink RX4 124 gIOB) (by decide +kernel)) (hts (.initialized gIOB) (by decide +kernel)) hsa (vx_hat (fun w hw => hts w (List.mem_cons_of_mem _ (List.mem_append_left _ (List.mem_append_right _ hw)))) gx_ng_IOB (vx_c (va_Nw.use rfl (hE.2.2.2.2.1 gIOB (by decide +kernel))) (vx_c (va_Nw.use rfl (hE.2.2.2.2.2 _ (List.mem_cons_self))) (vx_c (va_Nw.use rfl (hE.2.2.2.2.2 _ (List.mem_cons_of_mem _ List.mem_cons_self))) (vx_c (va_Nw.use rfl (hE.2.2.2.2.2 _ (List.mem_cons_of_mem _ (List.mem_cons_of_mem _ List.mem_cons_self)))) vx_n))))) gx_ot_IOB (hE.2.1.narrow (fun _ h => Nat.le_trans hlo h.1)) (hE.2.2.1.narrow (fun _ h => Nat.le_trans hlo h.1)) hS (hl.1.trans hml.symm) dX4_ahead_11 dX4_ahead_14 dX4_ahead_15 dX4_ahead_17 dX4_ahead_20 (fun x9 hx9 => (hnx x9 hx9).elim) (by decide) (by decide) (by decide) (by decide) hlocks (fun t9 hv9 hz9 hk9 => ⟨(), trivial, ⟨rfl, Nat.succ_ne_zero 2, (gx_end hP hS t9 hz9 hk9).1⟩, (gx_end hP hS t9 hz9 hk9).2⟩) hS.2.2 (by decide) (by decide)
set_option maxHeartbeats 4000000 in
set_option maxRecDepth 100000 in
theorem kX4_happens (l : Launch) (D : va_G) (cI cC cZ cQ cJ : ClassId) (t lo : Nat) (q : Nat) (G : GSt) (p0 : Int32) (p1 : Int32) (hlo : lo ≤ q) (hlS : l.stackTraces = false) {R : Nat × Int32 × GSt} (h : fX4_happens G p0 p1 = some R) : vx_Met l yX4_happens wsX4_happens ({ frames := 6, cells := 1, slots := 6, locals := 89 } : Room) (va_Pc [.ref q, .int p0, .int p1] (gBe D (gTy cI cC cZ cQ cJ) t lo (va_P D vwCl (GW cI cC cZ cQ q G)))) (va_Qi (fun r (_ : Unit) => R.1 = 0 ∧ r = R.2.1) (fun _ t => va_P D vwCl (GW cI cC cZ cQ q R.2.2) t.heap) (fIv q 201)) (vx_X (fun _ : Unit => True) (fun E _ t => E = gEx R.1 ∧ R.1 ≠ 0 ∧ va_P D vwCl (GW cI cC cZ cQ q R.2.2) t.heap) (fIv q 201)) 1 6 (fIv q 201) := by
  refine vx_ofW (cc := cX4_happens) (maxL := 5) (ret := (some .int)) (by decide) rfl ?_
  intro p e s m args below meth c s₁ B hml hnx hv
  obtain ⟨rfl, ⟨hP, hK⟩, hE⟩ := hv
  have hZ := hE.1
  have hx := B.exec
  have hb := B.bytes
  have hr := B.returns
  have hts := atoms_spec (ws := wsX4_happens) B.pre
  have hown : s.vm.findClass RX4 = some m.cls := findClass_of_methodNamed B.named
  have hlocks := B.notSynchronized
  have hinX4 : ∀ w ∈ wsX40, w ∈ wsX4_happens := by decide +kernel
  have hf16 := hts (.fieldLink RX4 16 "GripInspector" "trial" "LGripInspector$Lift;") (by decide +kernel)
  have hf10 := hts (.fieldLink RX4 10 "GripInspector" "lift" "LGripInspector$Lift;") (by decide +kernel)
  generalize hRM : (headSpec wsX4_happens ({ frames := 6, cells := 1, slots := 6, locals := 89 } : Room)).room = RM
  replace hRM : ({ frames := 6, cells := 1, slots := 6, locals := 89 } : Room) = RM := hRM
  subst hRM
  have hl := lv_entry ([.ref q, .int p0, .int p1]) (n := 5) (Nat.le_of_ble_eq_true rfl)
  rw [lg_entry_eq]
  generalize (lg_sl ([.ref q, .int p0, .int p1]) ++ List.replicate (5 - (lg_sl ([.ref q, .int p0, .int p1])).length) Slot.unset).toArray = ls at hl ⊢
  have hl : lv_has ls 5 [(0, .ref q), (1, .int p0), (2, .int p1)] := hl
  have hS : va_S (fIv q 201) s.heap s.heap [] := va_S.rf
  have LP42 : ∀ (n : Nat) (S : GSt) (x1 : Int32) (x2 : Int32) (x3 : Int32) (x4 : Int32) (H : Heap) (locs : List Loc) (ls : Array Slot), fX4_happens_L42 n S x1 x2 x3 x4 = some R → va_P D vwCl (GW cI cC cZ cQ q S) H → va_S (fIv q 201) s.heap H locs → lv_has ls 5 [(0, .ref q), (1, .int x1), (2, .int x2), (3, .int x3), (4, .int x4)] → W p l e ({ frames := 6, cells := 1, slots := 6, locals := 89 } : Room) s m ([.ref q, .int p0, .int p1] : List Value).toArray below meth c H locs 0 0 (vx_MQ below (va_Qi (fun r (_ : Unit) => R.1 = 0 ∧ r = R.2.1) (fun _ t => va_P D vwCl (GW cI cC cZ cQ q R.2.2) t.heap) (fIv q 201)) (vx_X (fun _ : Unit => True) (fun E _ t => E = gEx R.1 ∧ R.1 ≠ 0 ∧ va_P D vwCl (GW cI cC cZ cQ q R.2.2) t.heap) (fIv q 201)) ([.ref q, .int p0, .int p1] : List Value).toArray s 1 6 (fIv q 201)) (F0 m 42 ls []) := by
    intro n
    induction n with
    | zero => intro S x1 x2 x3 x4 H locs ls h hP hS hl; exact no_some h
    | succ n ih =>
      intro S x1 x2 x3 x4 H locs ls h hP hS hl
      rw [fX4_happens_L42] at h
      refine lv_iload hx hb dX4_happens_42 (lv_at hl 4 rfl) ?_
      refine lv_iload_n hx hb dX4_happens_44 rfl (lv_at hl 1 rfl) ?_
      refine lv_icmp_ge (tgt := 68) hx hb dX4_happens_45 (by decide) (fun c4 => ?_) (fun c4 => ?_)
      · replace h := (if_pos c4).symm.trans h
        refine lv_iload_n hx hb dX4_happens_68 rfl (lv_at hl 3 rfl) ?_
        have h := Option.some.inj h
        subst h
        refine vx_ret ?_
        refine W.widen (k := 1) (n := 6) (by decide) (by decide) ?_
        exact W.iret (v := x3) hx hb hr (fun t ht hW => ⟨⟨_, (), rfl, ⟨rfl, rfl⟩, gh ht hP⟩, hS.F ht⟩) hS.2.2 dX4_happens_69
      · replace h := (if_neg c4).symm.trans h
        refine lv_iload_n hx hb dX4_happens_48 rfl (lv_at hl 3 rfl) ?_
        refine lv_aload_n hx hb dX4_happens_49 rfl (lv_at hl 0 rfl) ?_
        refine va_get (D := D) (ci := 4) (v := .ref (q + 11)) (C := RX4) (T := TX4) (N := 9) hx hb hts hinX4 hown hK hP 0 rfl rfl 1 (by decide) hf16 (fun _ h9 => h9) rfl dX4_happens_50 ?_
        obtain ⟨r53, hr53, h⟩ := bd_some h
        refine gc_wi (As := []) (rest := [.int x3]) ⟨hx, hb, hml, hown, hts⟩ hK (kX0_advance l D cI cC cZ cQ cJ (q + 11) (gTrial S) hr53) (cwV 0 hts gX4_happens_X0_advance rfl rfl rfl (by decide +kernel) ⟨Nat.le_of_ble_eq_true rfl, Nat.le_of_ble_eq_true rfl⟩) (va_recv hK (GW_trial (G := S) hP) (ci := 0) (q0 := 0) rfl rfl) (GW_trial (G := S) hP) hS GW_inTrial rfl hl.1 rfl (Nat.le_of_ble_eq_true rfl) ⟨Nat.zero_le _, Nat.zero_le _⟩ dX4_happens_53 (fun H1 locs hP1 hS _ hk1 => ?_)
        have hP : va_P D vwCl (GW cI cC cZ cQ q ((gLift S), r53.2, (gTxt S), (gSum S), (gHis S), (gSav S), (gSvd S), (gRem S), (gNxt S))) H1 := GW_putTrial (G := S) hP hP1 hk1
        generalize H1 = H at hP hS ⊢
        refine lv_iload_n hx hb dX4_happens_56 rfl (lv_at hl 2 rfl) ?_
        refine lv_ishr hx hb dX4_happens_57 ?_
        refine lv_iconst (v := 1) hx hb dX4_happens_58 (by decide) ?_
        refine lv_iand hx hb dX4_happens_59 ?_
        refine lv_iadd hx hb dX4_happens_60 ?_
        refine lv_istore_n (lv' := [(3, .int (x3 + ((r53.1 >>> (x2 &&& 31)) &&& 1))), (0, .ref q), (1, .int x1), (2, .int x2), (4, .int x4)]) hx hb dX4_happens_61 rfl hl (by decide) rfl (fun ls hl => ?_)
        refine lv_iinc (v := (x4 + 1)) (lv' := [(4, .int (x4 + 1)), (3, .int (x3 + ((r53.1 >>> (x2 &&& 31)) &&& 1))), (0, .ref q), (1, .int x1), (2, .int x2)]) hx hb dX4_happens_62 hl (k := 4) rfl rfl (by decide) rfl (fun ls hl => ?_)
        refine lv_goto (tgt := 42) hx hb dX4_happens_65 (by decide) ?_
        exact ih ((gLift S), r53.2, (gTxt S), (gSum S), (gHis S), (gSav S), (gSvd S), (gRem S), (gNxt S)) x1 x2 (x3 + ((r53.1 >>> (x2 &&& 31)) &&& 1)) (x4 + 1) H locs ls h hP hS (lv_sub hl [2, 3, 4, 1, 0] rfl)
  unfold fX4_happens at h
  obtain ⟨H, hH⟩ : ∃ H, H = s.heap := ⟨_, rfl⟩
  obtain ⟨locs, hlz⟩ : ∃ z : List Loc, z = [] := ⟨_, rfl⟩
  have hP : va_P D vwCl (GW cI cC cZ cQ q G) H := by rw [hH]; exact hP
  have hS : va_S (fIv q 201) s.heap H locs := by rw [hH, hlz]; exact hS
  refine gc_at hH hlz ?_
  refine lv_iload_n hx hb dX4_happens_0 rfl (lv_at hl 1 rfl) ?_
  obtain ⟨r1, hr1, h⟩ := bd_some h
  refine gc_si (As := [.int p0]) (rest := []) ⟨hx, hb, hml, hown, hts⟩ hK (kX4_isStepNumber l D cI cC cZ cQ cJ p0 hr1) (va_cwS 1 hts gX4_happens_X4_isStepNumber rfl rfl rfl (by decide +kernel) ⟨Nat.le_of_ble_eq_true rfl, Nat.le_of_ble_eq_true rfl⟩)  trivial rfl hl.1 rfl (Nat.le_of_ble_eq_true rfl) ⟨Nat.zero_le _, Nat.zero_le _⟩ dX4_happens_1 ?_
  refine lv_if_eq (tgt := 16) hx hb dX4_happens_4 (by decide) (fun c1 => ?_) (fun c1 => ?_)
  · replace h := (if_pos c1).symm.trans h
    have h := Option.some.inj h
    subst h
    obtain ⟨sa, hsa⟩ := hE.2.2.2.1 (244, "m or what is out of range") (by decide +kernel)
    exact vx_throwS hx hb hlS (own := RX4) (cls := gIAE) (names := gNm) (A := (fIv q 201)) hown (by decide +kernel) (by decide +kernel) (hts (.classLink RX4 56 gIAE) (by decide +kernel)) (hts (.initialized gIAE) (by decide +kernel)) hsa (vx_hat (fun w hw => hts w (List.mem_cons_of_mem _ (List.mem_append_right _ hw))) gx_ng_IAE (vx_c (va_Nw.use rfl (hE.2.2.2.2.1 gIAE (by decide +kernel))) (vx_c (va_Nw.use rfl (hE.2.2.2.2.2 _ (List.mem_cons_self))) (vx_c (va_Nw.use rfl (hE.2.2.2.2.2 _ (List.mem_cons_of_mem _ List.mem_cons_self))) (vx_c (va_Nw.use rfl (hE.2.2.2.2.2 _ (List.mem_cons_of_mem _ (List.mem_cons_of_mem _ List.mem_cons_self)))) vx_n))))) gx_ot_IAE (hE.2.1.narrow (fun _ h => Nat.le_trans hlo h.1)) (hE.2.2.1.narrow (fun _ h => Nat.le_trans hlo h.1)) hS (hl.1.trans hml.symm) dX4_happens_16 dX4_happens_19 dX4_happens_20 dX4_happens_22 dX4_happens_25 (fun x9 hx9 => (hnx x9 hx9).elim) (by decide) (by decide) (by decide) (by decide) hlocks (fun t9 hv9 hz9 hk9 => ⟨(), trivial, ⟨rfl, Nat.succ_ne_zero 0, (gx_end hP hS t9 hz9 hk9).1⟩, (gx_end hP hS t9 hz9 hk9).2⟩) hS.2.2 (by decide) (by decide)
  · replace h := (if_neg c1).symm.trans h
    refine lv_iload_n hx hb dX4_happens_7 rfl (lv_at hl 2 rfl) ?_
    refine lv_if_lt (tgt := 16) hx hb dX4_happens_8 (by decide) (fun c2 => ?_) (fun c2 => ?_)
    · replace h := (if_pos c2).symm.trans h
      have h := Option.some.inj h
      subst h
      obtain ⟨sa, hsa⟩ := hE.2.2.2.1 (244, "m or what is out of range") (by decide +kernel)
      exact vx_throwS hx hb hlS (own := RX4) (cls := gIAE) (names := gNm) (A := (fIv q 201)) hown (by decide +kernel) (by decide +kernel) (hts (.classLink RX4 56 gIAE) (by decide +kernel)) (hts (.initialized gIAE) (by decide +kernel)) hsa (vx_hat (fun w hw => hts w (List.mem_cons_of_mem _ (List.mem_append_right _ hw))) gx_ng_IAE (vx_c (va_Nw.use rfl (hE.2.2.2.2.1 gIAE (by decide +kernel))) (vx_c (va_Nw.use rfl (hE.2.2.2.2.2 _ (List.mem_cons_self))) (vx_c (va_Nw.use rfl (hE.2.2.2.2.2 _ (List.mem_cons_of_mem _ List.mem_cons_self))) (vx_c (va_Nw.use rfl (hE.2.2.2.2.2 _ (List.mem_cons_of_mem _ (List.mem_cons_of_mem _ List.mem_cons_self)))) vx_n))))) gx_ot_IAE (hE.2.1.narrow (fun _ h => Nat.le_trans hlo h.1)) (hE.2.2.1.narrow (fun _ h => Nat.le_trans hlo h.1)) hS (hl.1.trans hml.symm) dX4_happens_16 dX4_happens_19 dX4_happens_20 dX4_happens_22 dX4_happens_25 (fun x9 hx9 => (hnx x9 hx9).elim) (by decide) (by decide) (by decide) (by decide) hlocks (fun t9 hv9 hz9 hk9 => ⟨(), trivial, ⟨rfl, Nat.succ_ne_zero 0, (gx_end hP hS t9 hz9 hk9).1⟩, (gx_end hP hS t9 hz9 hk9).2⟩) hS.2.2 (by decide) (by decide)
    · replace h := (if_neg c2).symm.trans h
      refine lv_iload_n hx hb dX4_happens_11 rfl (lv_at hl 2 rfl) ?_
      refine lv_iconst (v := 3) hx hb dX4_happens_12 (by decide) ?_
      refine lv_icmp_le (tgt := 26) hx hb dX4_happens_13 (by decide) (fun c3 => ?_) (fun c3 => ?_)
      · replace h := (if_pos c3).symm.trans h
        refine lv_aload_n hx hb dX4_happens_26 rfl (lv_at hl 0 rfl) ?_
        refine va_get (D := D) (ci := 4) (v := .ref (q + 11)) (C := RX4) (T := TX4) (N := 9) hx hb hts hinX4 hown hK hP 0 rfl rfl 1 (by decide) hf16 (fun _ h9 => h9) rfl dX4_happens_27 ?_
        refine lv_aload_n hx hb dX4_happens_30 rfl (lv_at hl 0 rfl) ?_
        refine va_get (D := D) (ci := 4) (v := .ref (q + 1)) (C := RX4) (T := TX4) (N := 9) hx hb hts hinX4 hown hK hP 0 rfl rfl 0 (by decide) hf10 (fun _ h9 => h9) rfl dX4_happens_31 ?_
        refine gc_wv (As := [.ref (q + 1)]) (rest := []) (B := va_P D vwCl (LLW cI (q + 11) (q + 1) ((gTrial G), (gLift G)))) (B' := va_P D vwCl (LLW cI (q + 11) (q + 1) (lCopy (gTrial G) (gLift G), (gLift G)))) ⟨hx, hb, hml, hown, hts⟩ hK (kX0_become l D cI cC cZ cQ cJ (q + 11) (q + 1) ((gTrial G), (gLift G)) (by omega) (become_copy (gTrial G) (gLift G))) (cwV 1 hts gX4_happens_X0_become rfl rfl rfl (by decide +kernel) ⟨Nat.le_of_ble_eq_true rfl, Nat.le_of_ble_eq_true rfl⟩) (va_recv hK (GW_trial (G := G) hP) (ci := 0) (q0 := 0) rfl rfl) (va_P.app (GW_trial (G := G) hP) (GW_lift (G := G) hP)) hS GW_inTL rfl hl.1 rfl (Nat.le_of_ble_eq_true rfl) ⟨Nat.zero_le _, Nat.zero_le _⟩ dX4_happens_34 (fun H1 locs hB1 hS _ hk1 => ?_)
        have hP : va_P D vwCl (GW cI cC cZ cQ q ((gLift G), (lCopy (gTrial G) (gLift G)), (gTxt G), (gSum G), (gHis G), (gSav G), (gSvd G), (gRem G), (gNxt G))) H1 := GW_putTL (G := G) hP (gL hB1) (gR hB1) (fun a hl n1 n2 => hk1 a hl (fun z => z.elim n1 n2))
        generalize H1 = H at hP hS ⊢
        refine lv_iconst (v := 0) hx hb dX4_happens_37 (by decide) ?_
        refine lv_istore_n (lv' := [(3, .int 0), (0, .ref q), (1, .int p0), (2, .int p1)]) hx hb dX4_happens_38 rfl hl (by decide) rfl (fun ls hl => ?_)
        refine lv_iconst (v := 0) hx hb dX4_happens_39 (by decide) ?_
        refine lv_istore (lv' := [(4, .int 0), (3, .int 0), (0, .ref q), (1, .int p0), (2, .int p1)]) hx hb dX4_happens_40 hl (by decide) rfl (fun ls hl => ?_)
        exact LP42 KF ((gLift G), (lCopy (gTrial G) (gLift G)), (gTxt G), (gSum G), (gHis G), (gSav G), (gSvd G), (gRem G), (gNxt G)) p0 p1 0 0 H locs ls h hP hS (lv_sub hl [2, 3, 4, 1, 0] rfl)
      · replace h := (if_neg c3).symm.trans h
        have h := Option.some.inj h
        subst h
        obtain ⟨sa, hsa⟩ := hE.2.2.2.1 (244, "m or what is out of range") (by decide +kernel)
        exact vx_throwS hx hb hlS (own := RX4) (cls := gIAE) (names := gNm) (A := (fIv q 201)) hown (by decide +kernel) (by decide +kernel) (hts (.classLink RX4 56 gIAE) (by decide +kernel)) (hts (.initialized gIAE) (by decide +kernel)) hsa (vx_hat (fun w hw => hts w (List.mem_cons_of_mem _ (List.mem_append_right _ hw))) gx_ng_IAE (vx_c (va_Nw.use rfl (hE.2.2.2.2.1 gIAE (by decide +kernel))) (vx_c (va_Nw.use rfl (hE.2.2.2.2.2 _ (List.mem_cons_self))) (vx_c (va_Nw.use rfl (hE.2.2.2.2.2 _ (List.mem_cons_of_mem _ List.mem_cons_self))) (vx_c (va_Nw.use rfl (hE.2.2.2.2.2 _ (List.mem_cons_of_mem _ (List.mem_cons_of_mem _ List.mem_cons_self)))) vx_n))))) gx_ot_IAE (hE.2.1.narrow (fun _ h => Nat.le_trans hlo h.1)) (hE.2.2.1.narrow (fun _ h => Nat.le_trans hlo h.1)) hS (hl.1.trans hml.symm) dX4_happens_16 dX4_happens_19 dX4_happens_20 dX4_happens_22 dX4_happens_25 (fun x9 hx9 => (hnx x9 hx9).elim) (by decide) (by decide) (by decide) (by decide) hlocks (fun t9 hv9 hz9 hk9 => ⟨(), trivial, ⟨rfl, Nat.succ_ne_zero 0, (gx_end hP hS t9 hz9 hk9).1⟩, (gx_end hP hS t9 hz9 hk9).2⟩) hS.2.2 (by decide) (by decide)
set_option maxHeartbeats 4000000 in
set_option maxRecDepth 100000 in
theorem kX4_bestLimit (l : Launch) (D : va_G) (cI cC cZ cQ cJ : ClassId) (t lo : Nat) (q : Nat) (G : GSt) (p0 : Int32) (hlo : lo ≤ q) (hlS : l.stackTraces = false) {R : Nat × Int32 × GSt} (h : fX4_bestLimit G p0 = some R) : vx_Met l yX4_bestLimit wsX4_bestLimit ({ frames := 6, cells := 1, slots := 6, locals := 112 } : Room) (va_Pc [.ref q, .int p0] (gBe D (gTy cI cC cZ cQ cJ) t lo (va_P D vwCl (GW cI cC cZ cQ q G)))) (va_Qi (fun r (_ : Unit) => R.1 = 0 ∧ r = R.2.1) (fun _ t => va_P D vwCl (GW cI cC cZ cQ q R.2.2) t.heap) (fIv q 201)) (vx_X (fun _ : Unit => True) (fun E _ t => E = gEx R.1 ∧ R.1 ≠ 0 ∧ va_P D vwCl (GW cI cC cZ cQ q R.2.2) t.heap) (fIv q 201)) 1 6 (fIv q 201) := by
  refine vx_ofW (cc := cX4_bestLimit) (maxL := 3) (ret := (some .int)) (by decide) rfl ?_
  intro p e s m args below meth c s₁ B hml hnx hv
  obtain ⟨rfl, ⟨hP, hK⟩, hE⟩ := hv
  have hZ := hE.1
  have hx := B.exec
  have hb := B.bytes
  have hr := B.returns
  have hts := atoms_spec (ws := wsX4_bestLimit) B.pre
  have hown : s.vm.findClass RX4 = some m.cls := findClass_of_methodNamed B.named
  have hlocks := B.notSynchronized
  have hf249 := hts (.fieldLink RX4 249 "GripInspector" "GREATEST_LIMITS" "[I") (by decide +kernel)
  generalize hRM : (headSpec wsX4_bestLimit ({ frames := 6, cells := 1, slots := 6, locals := 112 } : Room)).room = RM
  replace hRM : ({ frames := 6, cells := 1, slots := 6, locals := 112 } : Room) = RM := hRM
  subst hRM
  have hl := lv_entry ([.ref q, .int p0]) (n := 3) (Nat.le_of_ble_eq_true rfl)
  rw [lg_entry_eq]
  generalize (lg_sl ([.ref q, .int p0]) ++ List.replicate (3 - (lg_sl ([.ref q, .int p0])).length) Slot.unset).toArray = ls at hl ⊢
  have hl : lv_has ls 3 [(0, .ref q), (1, .int p0)] := hl
  have hS : va_S (fIv q 201) s.heap s.heap [] := va_S.rf
  have LP23 : ∀ (n : Nat) (S : GSt) (x1 : Int32) (x2 : Int32) (H : Heap) (locs : List Loc) (ls : Array Slot), fX4_bestLimit_L23 n S x1 x2 = some R → va_P D vwCl (GW cI cC cZ cQ q S) H → va_S (fIv q 201) s.heap H locs → lv_has ls 3 [(0, .ref q), (1, .int x1), (2, .int x2)] → W p l e ({ frames := 6, cells := 1, slots := 6, locals := 112 } : Room) s m ([.ref q, .int p0] : List Value).toArray below meth c H locs 0 0 (vx_MQ below (va_Qi (fun r (_ : Unit) => R.1 = 0 ∧ r = R.2.1) (fun _ t => va_P D vwCl (GW cI cC cZ cQ q R.2.2) t.heap) (fIv q 201)) (vx_X (fun _ : Unit => True) (fun E _ t => E = gEx R.1 ∧ R.1 ≠ 0 ∧ va_P D vwCl (GW cI cC cZ cQ q R.2.2) t.heap) (fIv q 201)) ([.ref q, .int p0] : List Value).toArray s 1 6 (fIv q 201)) (F0 m 23 ls []) := by
    intro n
    induction n with
    | zero => intro S x1 x2 H locs ls h hP hS hl; exact no_some h
    | succ n ih =>
      intro S x1 x2 H locs ls h hP hS hl
      rw [fX4_bestLimit_L23] at h
      refine lv_iload_n hx hb dX4_bestLimit_23 rfl (lv_at hl 2 rfl) ?_
      refine lv_iconst (v := 1) hx hb dX4_bestLimit_24 (by decide) ?_
      refine lv_icmp_lt (tgt := 45) hx hb dX4_bestLimit_25 (by decide) (fun c2 => ?_) (fun c2 => ?_)
      · replace h := (if_pos c2).symm.trans h
        refine lv_bipush (v := (-9)) hx hb dX4_bestLimit_45 (by decide) ?_
        have h := Option.some.inj h
        subst h
        refine vx_ret ?_
        refine W.widen (k := 1) (n := 6) (by decide) (by decide) ?_
        exact W.iret (v := (-9)) hx hb hr (fun t ht hW => ⟨⟨_, (), rfl, ⟨rfl, rfl⟩, gh ht hP⟩, hS.F ht⟩) hS.2.2 dX4_bestLimit_47
      · replace h := (if_neg c2).symm.trans h
        refine lv_aload_n hx hb dX4_bestLimit_28 rfl (lv_at hl 0 rfl) ?_
        refine lv_iload_n hx hb dX4_bestLimit_29 rfl (lv_at hl 2 rfl) ?_
        refine lv_iload_n hx hb dX4_bestLimit_30 rfl (lv_at hl 1 rfl) ?_
        obtain ⟨r31, hr31, h⟩ := bd_some h
        refine gc_wi (As := [.int x2, .int x1]) (rest := []) ⟨hx, hb, hml, hown, hts⟩ hK (kX4_isSlipFree l D cI cC cZ cQ cJ q S x2 x1 hr31) (cwV 2 hts gX4_bestLimit_X4_isSlipFree rfl rfl rfl (by decide +kernel) ⟨Nat.le_of_ble_eq_true rfl, Nat.le_of_ble_eq_true rfl⟩) (va_recv hK hP (ci := 4) (q0 := 0) rfl rfl) hP hS (fun _ h => h) rfl hl.1 rfl (Nat.le_of_ble_eq_true rfl) ⟨Nat.zero_le _, Nat.zero_le _⟩ dX4_bestLimit_31 (fun H locs hP hS _ _ => ?_)
        refine lv_if_eq (tgt := 39) hx hb dX4_bestLimit_34 (by decide) (fun c3 => ?_) (fun c3 => ?_)
        · replace h := (if_pos c3).symm.trans h
          refine lv_iinc (v := (x2 + (-1))) (lv' := [(2, .int (x2 + (-1))), (0, .ref q), (1, .int x1)]) hx hb dX4_bestLimit_39 hl (k := 2) rfl rfl (by decide) rfl (fun ls hl => ?_)
          refine lv_goto (tgt := 23) hx hb dX4_bestLimit_42 (by decide) ?_
          exact ih r31.2 x1 (x2 + (-1)) H locs ls h hP hS (lv_sub hl [1, 2, 0] rfl)
        · replace h := (if_neg c3).symm.trans h
          refine lv_iload_n hx hb dX4_bestLimit_37 rfl (lv_at hl 2 rfl) ?_
          have h := Option.some.inj h
          subst h
          refine vx_ret ?_
          refine W.widen (k := 1) (n := 6) (by decide) (by decide) ?_
          exact W.iret (v := x2) hx hb hr (fun t ht hW => ⟨⟨_, (), rfl, ⟨rfl, rfl⟩, gh ht hP⟩, hS.F ht⟩) hS.2.2 dX4_bestLimit_38
  unfold fX4_bestLimit at h
  obtain ⟨H, hH⟩ : ∃ H, H = s.heap := ⟨_, rfl⟩
  obtain ⟨locs, hlz⟩ : ∃ z : List Loc, z = [] := ⟨_, rfl⟩
  have hP : va_P D vwCl (GW cI cC cZ cQ q G) H := by rw [hH]; exact hP
  have hS : va_S (fIv q 201) s.heap H locs := by rw [hH, hlz]; exact hS
  refine gc_at hH hlz ?_
  refine lv_iload_n hx hb dX4_bestLimit_0 rfl (lv_at hl 1 rfl) ?_
  obtain ⟨r1, hr1, h⟩ := bd_some h
  refine gc_si (As := [.int p0]) (rest := []) ⟨hx, hb, hml, hown, hts⟩ hK (kX4_isStepNumber l D cI cC cZ cQ cJ p0 hr1) (va_cwS 1 hts gX4_bestLimit_X4_isStepNumber rfl rfl rfl (by decide +kernel) ⟨Nat.le_of_ble_eq_true rfl, Nat.le_of_ble_eq_true rfl⟩)  trivial rfl hl.1 rfl (Nat.le_of_ble_eq_true rfl) ⟨Nat.zero_le _, Nat.zero_le _⟩ dX4_bestLimit_1 ?_
  refine lv_if_ne (tgt := 17) hx hb dX4_bestLimit_4 (by decide) (fun c1 => ?_) (fun c1 => ?_)
  · replace h := (if_neg c1).symm.trans h
    refine va_gets hx hb (hZ.1.narrow (fun _ h => Nat.le_trans hlo h.1)) hS hown hf249 (fun _ h9 => h9) dX4_bestLimit_17 ?_
    refine lv_iconst (v := 0) hx hb dX4_bestLimit_20 (by decide) ?_
    refine va_ti hx hb (hZ.2.1.narrow (fun _ h => Nat.le_trans hlo h.1)) hS (vin_lit rfl) (v := .int (gGL 0)) rfl dX4_bestLimit_21 ?_
    refine lv_istore_n (lv' := [(2, .int (gGL 0)), (0, .ref q), (1, .int p0)]) hx hb dX4_bestLimit_22 rfl hl (by decide) rfl (fun ls hl => ?_)
    exact LP23 KF G p0 (gGL 0) H locs ls h hP hS (lv_sub hl [1, 2, 0] rfl)
  · replace h := (if_pos c1).symm.trans h
    have h := Option.some.inj h
    subst h
    obtain ⟨sa, hsa⟩ := hE.2.2.2.1 (162, "m is not 1 to 99") (by decide +kernel)
    exact vx_throwS hx hb hlS (own := RX4) (cls := gIAE) (names := gNm) (A := (fIv q 201)) hown (by decide +kernel) (by decide +kernel) (hts (.classLink RX4 56 gIAE) (by decide +kernel)) (hts (.initialized gIAE) (by decide +kernel)) hsa (vx_hat (fun w hw => hts w (List.mem_cons_of_mem _ (List.mem_append_right _ hw))) gx_ng_IAE (vx_c (va_Nw.use rfl (hE.2.2.2.2.1 gIAE (by decide +kernel))) (vx_c (va_Nw.use rfl (hE.2.2.2.2.2 _ (List.mem_cons_self))) (vx_c (va_Nw.use rfl (hE.2.2.2.2.2 _ (List.mem_cons_of_mem _ List.mem_cons_self))) (vx_c (va_Nw.use rfl (hE.2.2.2.2.2 _ (List.mem_cons_of_mem _ (List.mem_cons_of_mem _ List.mem_cons_self)))) vx_n))))) gx_ot_IAE (hE.2.1.narrow (fun _ h => Nat.le_trans hlo h.1)) (hE.2.2.1.narrow (fun _ h => Nat.le_trans hlo h.1)) hS (hl.1.trans hml.symm) dX4_bestLimit_7 dX4_bestLimit_10 dX4_bestLimit_11 dX4_bestLimit_13 dX4_bestLimit_16 (fun x9 hx9 => (hnx x9 hx9).elim) (by decide) (by decide) (by decide) (by decide) hlocks (fun t9 hv9 hz9 hk9 => ⟨(), trivial, ⟨rfl, Nat.succ_ne_zero 0, (gx_end hP hS t9 hz9 hk9).1⟩, (gx_end hP hS t9 hz9 hk9).2⟩) hS.2.2 (by decide) (by decide)
set_option maxHeartbeats 4000000 in
set_option maxRecDepth 100000 in
theorem kX4_emptyAfter (l : Launch) (D : va_G) (cI cC cZ cQ cJ : ClassId) (q : Nat) (G : GSt) {R : Int32 × GSt} (h : fX4_emptyAfter G = some R) : Met l yX4_emptyAfter wsX4_emptyAfter ({ frames := 4, cells := 0, slots := 0, locals := 89 } : Room) (va_Pc [.ref q] (gB D (gTy cI cC cZ cQ cJ) (va_P D vwCl (GW cI cC cZ cQ q G)))) (va_Qi (fun r (_ : Unit) => r = R.1) (fun _ t => va_P D vwCl (GW cI cC cZ cQ q R.2) t.heap) (fIv q 201)) 0 0 (fIv q 201) := by
  refine Met.ofW (cc := cX4_emptyAfter) (maxL := 2) (ret := (some .int)) (by decide) rfl ?_
  intro p e s m args below meth c s₁ B hml hv
  obtain ⟨rfl, hP, hK⟩ := hv
  have hx := B.exec
  have hb := B.bytes
  have hr := B.returns
  have hts := atoms_spec (ws := wsX4_emptyAfter) B.pre
  have hown : s.vm.findClass RX4 = some m.cls := findClass_of_methodNamed B.named
  have hlocks := B.notSynchronized
  have hinX4 : ∀ w ∈ wsX40, w ∈ wsX4_emptyAfter := by decide +kernel
  have hf16 := hts (.fieldLink RX4 16 "GripInspector" "trial" "LGripInspector$Lift;") (by decide +kernel)
  have hf10 := hts (.fieldLink RX4 10 "GripInspector" "lift" "LGripInspector$Lift;") (by decide +kernel)
  generalize hRM : (headSpec wsX4_emptyAfter ({ frames := 4, cells := 0, slots := 0, locals := 89 } : Room)).room = RM
  replace hRM : ({ frames := 4, cells := 0, slots := 0, locals := 89 } : Room) = RM := hRM
  subst hRM
  have hl := lv_entry ([.ref q]) (n := 2) (Nat.le_of_ble_eq_true rfl)
  rw [lg_entry_eq]
  generalize (lg_sl ([.ref q]) ++ List.replicate (2 - (lg_sl ([.ref q])).length) Slot.unset).toArray = ls at hl ⊢
  have hl : lv_has ls 2 [(0, .ref q)] := hl
  have hS : va_S (fIv q 201) s.heap s.heap [] := va_S.rf
  have LP13 : ∀ (n : Nat) (S : GSt) (x1 : Int32) (H : Heap) (locs : List Loc) (ls : Array Slot), fX4_emptyAfter_L13 n S x1 = some R → va_P D vwCl (GW cI cC cZ cQ q S) H → va_S (fIv q 201) s.heap H locs → lv_has ls 2 [(0, .ref q), (1, .int x1)] → W p l e ({ frames := 4, cells := 0, slots := 0, locals := 89 } : Room) s m ([.ref q] : List Value).toArray below meth c H locs 0 0 (MQ below (va_Qi (fun r (_ : Unit) => r = R.1) (fun _ t => va_P D vwCl (GW cI cC cZ cQ q R.2) t.heap) (fIv q 201)) ([.ref q] : List Value).toArray s 0 0 (fIv q 201)) (F0 m 13 ls []) := by
    intro n
    induction n with
    | zero => intro S x1 H locs ls h hP hS hl; exact no_some h
    | succ n ih =>
      intro S x1 H locs ls h hP hS hl
      rw [fX4_emptyAfter_L13] at h
      refine lv_iload_n hx hb dX4_emptyAfter_13 rfl (lv_at hl 1 rfl) ?_
      refine lv_sipush (v := 150) hx hb dX4_emptyAfter_14 (by decide) ?_
      refine lv_icmp_gt (tgt := 47) hx hb dX4_emptyAfter_17 (by decide) (fun c1 => ?_) (fun c1 => ?_)
      · replace h := (if_pos c1).symm.trans h
        refine lv_bipush (v := (-9)) hx hb dX4_emptyAfter_47 (by decide) ?_
        have h := Option.some.inj h
        subst h
        exact W.iret (v := (-9)) hx hb hr (fun t ht hW => ⟨⟨_, (), rfl, rfl, gh ht hP⟩, hS.F ht⟩) hS.2.2 dX4_emptyAfter_49
      · replace h := (if_neg c1).symm.trans h
        refine lv_aload_n hx hb dX4_emptyAfter_20 rfl (lv_at hl 0 rfl) ?_
        refine va_get (D := D) (ci := 4) (v := .ref (q + 11)) (C := RX4) (T := TX4) (N := 9) hx hb hts hinX4 hown hK hP 0 rfl rfl 1 (by decide) hf16 (fun _ h9 => h9) rfl dX4_emptyAfter_21 ?_
        refine lv_iconst (v := 0) hx hb dX4_emptyAfter_24 (by decide) ?_
        obtain ⟨r25, hr25, h⟩ := bd_some h
        refine gc_ri (As := [.int 0]) (rest := []) ⟨hx, hb, hml, hown, hts⟩ hK (kX0_count l D cI cC cZ cQ cJ (q + 11) (gTrial S) 0 hr25) (cwV 1 hts gX4_emptyAfter_X0_count rfl rfl rfl (by decide +kernel) ⟨Nat.le_of_ble_eq_true rfl, Nat.le_of_ble_eq_true rfl⟩) (va_recv hK (GW_trial (G := S) hP) (ci := 0) (q0 := 0) rfl rfl) (GW_trial (G := S) hP) rfl hl.1 rfl (Nat.le_of_ble_eq_true rfl) ⟨Nat.zero_le _, Nat.zero_le _⟩ dX4_emptyAfter_25 ?_
        refine lv_if_ne (tgt := 33) hx hb dX4_emptyAfter_28 (by decide) (fun c2 => ?_) (fun c2 => ?_)
        · replace h := (if_neg c2).symm.trans h
          refine lv_aload_n hx hb dX4_emptyAfter_33 rfl (lv_at hl 0 rfl) ?_
          refine va_get (D := D) (ci := 4) (v := .ref (q + 11)) (C := RX4) (T := TX4) (N := 9) hx hb hts hinX4 hown hK hP 0 rfl rfl 1 (by decide) hf16 (fun _ h9 => h9) rfl dX4_emptyAfter_34 ?_
          obtain ⟨r37, hr37, h⟩ := bd_some h
          refine gc_wi (As := []) (rest := []) ⟨hx, hb, hml, hown, hts⟩ hK (kX0_advance l D cI cC cZ cQ cJ (q + 11) (gTrial S) hr37) (cwV 0 hts gX4_emptyAfter_X0_advance rfl rfl rfl (by decide +kernel) ⟨Nat.le_of_ble_eq_true rfl, Nat.le_of_ble_eq_true rfl⟩) (va_recv hK (GW_trial (G := S) hP) (ci := 0) (q0 := 0) rfl rfl) (GW_trial (G := S) hP) hS GW_inTrial rfl hl.1 rfl (Nat.le_of_ble_eq_true rfl) ⟨Nat.zero_le _, Nat.zero_le _⟩ dX4_emptyAfter_37 (fun H1 locs hP1 hS _ hk1 => ?_)
          have hP : va_P D vwCl (GW cI cC cZ cQ q ((gLift S), r37.2, (gTxt S), (gSum S), (gHis S), (gSav S), (gSvd S), (gRem S), (gNxt S))) H1 := GW_putTrial (G := S) hP hP1 hk1
          generalize H1 = H at hP hS ⊢
          refine lv_pop hx hb dX4_emptyAfter_40 rfl ?_
          refine lv_iinc (v := (x1 + 1)) (lv' := [(1, .int (x1 + 1)), (0, .ref q)]) hx hb dX4_emptyAfter_41 hl (k := 1) rfl rfl (by decide) rfl (fun ls hl => ?_)
          refine lv_goto (tgt := 13) hx hb dX4_emptyAfter_44 (by decide) ?_
          exact ih ((gLift S), r37.2, (gTxt S), (gSum S), (gHis S), (gSav S), (gSvd S), (gRem S), (gNxt S)) (x1 + 1) H locs ls h hP hS (lv_sub hl [1, 0] rfl)
        · replace h := (if_pos c2).symm.trans h
          refine lv_iload_n hx hb dX4_emptyAfter_31 rfl (lv_at hl 1 rfl) ?_
          have h := Option.some.inj h
          subst h
          exact W.iret (v := x1) hx hb hr (fun t ht hW => ⟨⟨_, (), rfl, rfl, gh ht hP⟩, hS.F ht⟩) hS.2.2 dX4_emptyAfter_32
  unfold fX4_emptyAfter at h
  obtain ⟨H, hH⟩ : ∃ H, H = s.heap := ⟨_, rfl⟩
  obtain ⟨locs, hlz⟩ : ∃ z : List Loc, z = [] := ⟨_, rfl⟩
  have hP : va_P D vwCl (GW cI cC cZ cQ q G) H := by rw [hH]; exact hP
  have hS : va_S (fIv q 201) s.heap H locs := by rw [hH, hlz]; exact hS
  refine gc_at hH hlz ?_
  refine lv_aload_n hx hb dX4_emptyAfter_0 rfl (lv_at hl 0 rfl) ?_
  refine va_get (D := D) (ci := 4) (v := .ref (q + 11)) (C := RX4) (T := TX4) (N := 9) hx hb hts hinX4 hown hK hP 0 rfl rfl 1 (by decide) hf16 (fun _ h9 => h9) rfl dX4_emptyAfter_1 ?_
  refine lv_aload_n hx hb dX4_emptyAfter_4 rfl (lv_at hl 0 rfl) ?_
  refine va_get (D := D) (ci := 4) (v := .ref (q + 1)) (C := RX4) (T := TX4) (N := 9) hx hb hts hinX4 hown hK hP 0 rfl rfl 0 (by decide) hf10 (fun _ h9 => h9) rfl dX4_emptyAfter_5 ?_
  refine gc_wv (As := [.ref (q + 1)]) (rest := []) (B := va_P D vwCl (LLW cI (q + 11) (q + 1) ((gTrial G), (gLift G)))) (B' := va_P D vwCl (LLW cI (q + 11) (q + 1) (lCopy (gTrial G) (gLift G), (gLift G)))) ⟨hx, hb, hml, hown, hts⟩ hK (kX0_become l D cI cC cZ cQ cJ (q + 11) (q + 1) ((gTrial G), (gLift G)) (by omega) (become_copy (gTrial G) (gLift G))) (cwV 1 hts gX4_emptyAfter_X0_become rfl rfl rfl (by decide +kernel) ⟨Nat.le_of_ble_eq_true rfl, Nat.le_of_ble_eq_true rfl⟩) (va_recv hK (GW_trial (G := G) hP) (ci := 0) (q0 := 0) rfl rfl) (va_P.app (GW_trial (G := G) hP) (GW_lift (G := G) hP)) hS GW_inTL rfl hl.1 rfl (Nat.le_of_ble_eq_true rfl) ⟨Nat.zero_le _, Nat.zero_le _⟩ dX4_emptyAfter_8 (fun H1 locs hB1 hS _ hk1 => ?_)
  have hP : va_P D vwCl (GW cI cC cZ cQ q ((gLift G), (lCopy (gTrial G) (gLift G)), (gTxt G), (gSum G), (gHis G), (gSav G), (gSvd G), (gRem G), (gNxt G))) H1 := GW_putTL (G := G) hP (gL hB1) (gR hB1) (fun a hl n1 n2 => hk1 a hl (fun z => z.elim n1 n2))
  generalize H1 = H at hP hS ⊢
  refine lv_iconst (v := 0) hx hb dX4_emptyAfter_11 (by decide) ?_
  refine lv_istore_n (lv' := [(1, .int 0), (0, .ref q)]) hx hb dX4_emptyAfter_12 rfl hl (by decide) rfl (fun ls hl => ?_)
  exact LP13 KF ((gLift G), (lCopy (gTrial G) (gLift G)), (gTxt G), (gSum G), (gHis G), (gSav G), (gSvd G), (gRem G), (gNxt G)) 0 H locs ls h hP hS (lv_sub hl [1, 0] rfl)
set_option maxHeartbeats 4000000 in
set_option maxRecDepth 100000 in
theorem kX4_runScript (l : Launch) (D : va_G) (cI cC cZ cQ cJ : ClassId) (t lo : Nat) (q : Nat) (G : GSt) (p0 : Int32) (p1 : Int64) (hlo : lo ≤ q) (hlS : l.stackTraces = false) {R : Nat × Int32 × GSt} (h : fX4_runScript G p0 p1 = some R) : vx_Met l yX4_runScript wsX4_runScript ({ frames := 6, cells := 1, slots := 6, locals := 134 } : Room) (va_Pc [.ref q, .int p0, .long p1] (gBe D (gTy cI cC cZ cQ cJ) t lo (va_P D vwCl (GW cI cC cZ cQ q G)))) (va_Qi (fun r (_ : Unit) => R.1 = 0 ∧ r = R.2.1) (fun _ t => va_P D vwCl (GW cI cC cZ cQ q R.2.2) t.heap) (fIv q 201)) (vx_X (fun _ : Unit => True) (fun E _ t => E = gEx R.1 ∧ R.1 ≠ 0 ∧ va_P D vwCl (GW cI cC cZ cQ q R.2.2) t.heap) (fIv q 201)) 1 6 (fIv q 201) := by
  refine vx_ofW (cc := cX4_runScript) (maxL := 5) (ret := (some .int)) (by decide) rfl ?_
  intro p e s m args below meth c s₁ B hml hnx hv
  obtain ⟨rfl, ⟨hP, hK⟩, hE⟩ := hv
  have hZ := hE.1
  have hx := B.exec
  have hb := B.bytes
  have hr := B.returns
  have hts := atoms_spec (ws := wsX4_runScript) B.pre
  have hown : s.vm.findClass RX4 = some m.cls := findClass_of_methodNamed B.named
  have hlocks := B.notSynchronized
  have hinX4 : ∀ w ∈ wsX40, w ∈ wsX4_runScript := by decide +kernel
  have hf16 := hts (.fieldLink RX4 16 "GripInspector" "trial" "LGripInspector$Lift;") (by decide +kernel)
  have hf10 := hts (.fieldLink RX4 10 "GripInspector" "lift" "LGripInspector$Lift;") (by decide +kernel)
  generalize hRM : (headSpec wsX4_runScript ({ frames := 6, cells := 1, slots := 6, locals := 134 } : Room)).room = RM
  replace hRM : ({ frames := 6, cells := 1, slots := 6, locals := 134 } : Room) = RM := hRM
  subst hRM
  have hl := lv_entry ([.ref q, .int p0, .long p1]) (n := 5) (Nat.le_of_ble_eq_true rfl)
  rw [lg_entry_eq]
  generalize (lg_sl ([.ref q, .int p0, .long p1]) ++ List.replicate (5 - (lg_sl ([.ref q, .int p0, .long p1])).length) Slot.unset).toArray = ls at hl ⊢
  have hl : lv_has ls 5 [(0, .ref q), (1, .int p0), (2, .long p1)] := hl
  have hS : va_S (fIv q 201) s.heap s.heap [] := va_S.rf
  have LP60 : ∀ (n : Nat) (S : GSt) (x1 : Int32) (x2 : Int64) (x4 : Int32) (H : Heap) (locs : List Loc) (ls : Array Slot), fX4_runScript_L60 n S x1 x2 x4 = some R → va_P D vwCl (GW cI cC cZ cQ q S) H → va_S (fIv q 201) s.heap H locs → lv_has ls 5 [(0, .ref q), (1, .int x1), (2, .long x2), (4, .int x4)] → W p l e ({ frames := 6, cells := 1, slots := 6, locals := 134 } : Room) s m ([.ref q, .int p0, .long p1] : List Value).toArray below meth c H locs 0 0 (vx_MQ below (va_Qi (fun r (_ : Unit) => R.1 = 0 ∧ r = R.2.1) (fun _ t => va_P D vwCl (GW cI cC cZ cQ q R.2.2) t.heap) (fIv q 201)) (vx_X (fun _ : Unit => True) (fun E _ t => E = gEx R.1 ∧ R.1 ≠ 0 ∧ va_P D vwCl (GW cI cC cZ cQ q R.2.2) t.heap) (fIv q 201)) ([.ref q, .int p0, .long p1] : List Value).toArray s 1 6 (fIv q 201)) (F0 m 60 ls []) := by
    intro n
    induction n with
    | zero => intro S x1 x2 x4 H locs ls h hP hS hl; exact no_some h
    | succ n ih =>
      intro S x1 x2 x4 H locs ls h hP hS hl
      rw [fX4_runScript_L60] at h
      refine lv_iload hx hb dX4_runScript_60 (lv_at hl 3 rfl) ?_
      refine lv_iload_n hx hb dX4_runScript_62 rfl (lv_at hl 1 rfl) ?_
      refine lv_icmp_ge (tgt := 92) hx hb dX4_runScript_63 (by decide) (fun c5 => ?_) (fun c5 => ?_)
      · replace h := (if_pos c5).symm.trans h
        refine lv_bipush (v := (-9)) hx hb dX4_runScript_92 (by decide) ?_
        have h := Option.some.inj h
        subst h
        refine vx_ret ?_
        refine W.widen (k := 1) (n := 6) (by decide) (by decide) ?_
        exact W.iret (v := (-9)) hx hb hr (fun t ht hW => ⟨⟨_, (), rfl, ⟨rfl, rfl⟩, gh ht hP⟩, hS.F ht⟩) hS.2.2 dX4_runScript_94
      · replace h := (if_neg c5).symm.trans h
        refine lv_aload_n hx hb dX4_runScript_66 rfl (lv_at hl 0 rfl) ?_
        refine lv_lload_n hx hb dX4_runScript_67 rfl (lv_at hl 2 rfl) ?_
        refine lv_iload_n hx hb dX4_runScript_68 rfl (lv_at hl 1 rfl) ?_
        refine lv_iconst (v := 1) hx hb dX4_runScript_69 (by decide) ?_
        refine lv_isub hx hb dX4_runScript_70 ?_
        refine lv_iload hx hb dX4_runScript_71 (lv_at hl 3 rfl) ?_
        refine lv_isub hx hb dX4_runScript_73 ?_
        obtain ⟨r74, hr74, h⟩ := bd_some h
        refine gc_si (As := [.long x2, .int ((x1 - 1) - x4)]) (rest := [.ref q]) ⟨hx, hb, hml, hown, hts⟩ hK (kX4_groupAt l D cI cC cZ cQ cJ x2 ((x1 - 1) - x4) hr74) (va_cwS 2 hts gX4_runScript_X4_groupAt rfl rfl rfl (by decide +kernel) ⟨Nat.le_of_ble_eq_true rfl, Nat.le_of_ble_eq_true rfl⟩)  trivial rfl hl.1 rfl (Nat.le_of_ble_eq_true rfl) ⟨Nat.zero_le _, Nat.zero_le _⟩ dX4_runScript_74 ?_
        obtain ⟨r77, hr77, h⟩ := bd_some h
        refine gs_wi (As := [.int r74]) (rest := []) ⟨hx, hb, hml, hown, hts⟩ (gZ_now hZ hS (fun _ h => Nat.le_trans hlo h.1)) hK (kX4_obeys l D cI cC cZ cQ cJ t lo q S r74 (Nat.le_trans hlo (by omega)) hr77) (cwV 1 hts gX4_runScript_X4_obeys rfl rfl rfl (by decide +kernel) ⟨Nat.le_of_ble_eq_true rfl, Nat.le_of_ble_eq_true rfl⟩) (va_recv hK hP (ci := 4) (q0 := 0) rfl rfl) hP hS (fun _ h => h) rfl hl.1 rfl (Nat.le_of_ble_eq_true rfl) ⟨Nat.zero_le _, Nat.zero_le _⟩ dX4_runScript_77 (fun H locs hP hS _ _ => ?_)
        refine lv_if_ne (tgt := 86) hx hb dX4_runScript_80 (by decide) (fun c6 => ?_) (fun c6 => ?_)
        · replace h := (if_neg c6).symm.trans h
          refine lv_iinc (v := (x4 + 1)) (lv' := [(4, .int (x4 + 1)), (0, .ref q), (1, .int x1), (2, .long x2)]) hx hb dX4_runScript_86 hl (k := 3) rfl rfl (by decide) rfl (fun ls hl => ?_)
          refine lv_goto (tgt := 60) hx hb dX4_runScript_89 (by decide) ?_
          exact ih r77.2 x1 x2 (x4 + 1) H locs ls h hP hS (lv_sub hl [1, 2, 3, 0] rfl)
        · replace h := (if_pos c6).symm.trans h
          refine lv_iload hx hb dX4_runScript_83 (lv_at hl 3 rfl) ?_
          have h := Option.some.inj h
          subst h
          refine vx_ret ?_
          refine W.widen (k := 1) (n := 6) (by decide) (by decide) ?_
          exact W.iret (v := x4) hx hb hr (fun t ht hW => ⟨⟨_, (), rfl, ⟨rfl, rfl⟩, gh ht hP⟩, hS.F ht⟩) hS.2.2 dX4_runScript_85
  unfold fX4_runScript at h
  obtain ⟨H, hH⟩ : ∃ H, H = s.heap := ⟨_, rfl⟩
  obtain ⟨locs, hlz⟩ : ∃ z : List Loc, z = [] := ⟨_, rfl⟩
  have hP : va_P D vwCl (GW cI cC cZ cQ q G) H := by rw [hH]; exact hP
  have hS : va_S (fIv q 201) s.heap H locs := by rw [hH, hlz]; exact hS
  refine gc_at hH hlz ?_
  refine lv_iload_n hx hb dX4_runScript_0 rfl (lv_at hl 1 rfl) ?_
  refine lv_iconst (v := 1) hx hb dX4_runScript_1 (by decide) ?_
  refine lv_icmp_lt (tgt := 10) hx hb dX4_runScript_2 (by decide) (fun c1 => ?_) (fun c1 => ?_)
  · replace h := (if_pos c1).symm.trans h
    have h := Option.some.inj h
    subst h
    obtain ⟨sa, hsa⟩ := hE.2.2.2.1 (255, "n is not 1 to 3") (by decide +kernel)
    exact vx_throwS hx hb hlS (own := RX4) (cls := gIAE) (names := gNm) (A := (fIv q 201)) hown (by decide +kernel) (by decide +kernel) (hts (.classLink RX4 56 gIAE) (by decide +kernel)) (hts (.initialized gIAE) (by decide +kernel)) hsa (vx_hat (fun w hw => hts w (List.mem_cons_of_mem _ (List.mem_append_right _ hw))) gx_ng_IAE (vx_c (va_Nw.use rfl (hE.2.2.2.2.1 gIAE (by decide +kernel))) (vx_c (va_Nw.use rfl (hE.2.2.2.2.2 _ (List.mem_cons_self))) (vx_c (va_Nw.use rfl (hE.2.2.2.2.2 _ (List.mem_cons_of_mem _ List.mem_cons_self))) (vx_c (va_Nw.use rfl (hE.2.2.2.2.2 _ (List.mem_cons_of_mem _ (List.mem_cons_of_mem _ List.mem_cons_self)))) vx_n))))) gx_ot_IAE (hE.2.1.narrow (fun _ h => Nat.le_trans hlo h.1)) (hE.2.2.1.narrow (fun _ h => Nat.le_trans hlo h.1)) hS (hl.1.trans hml.symm) dX4_runScript_10 dX4_runScript_13 dX4_runScript_14 dX4_runScript_16 dX4_runScript_19 (fun x9 hx9 => (hnx x9 hx9).elim) (by decide) (by decide) (by decide) (by decide) hlocks (fun t9 hv9 hz9 hk9 => ⟨(), trivial, ⟨rfl, Nat.succ_ne_zero 0, (gx_end hP hS t9 hz9 hk9).1⟩, (gx_end hP hS t9 hz9 hk9).2⟩) hS.2.2 (by decide) (by decide)
  · replace h := (if_neg c1).symm.trans h
    refine lv_iload_n hx hb dX4_runScript_5 rfl (lv_at hl 1 rfl) ?_
    refine lv_iconst (v := 3) hx hb dX4_runScript_6 (by decide) ?_
    refine lv_icmp_le (tgt := 20) hx hb dX4_runScript_7 (by decide) (fun c2 => ?_) (fun c2 => ?_)
    · replace h := (if_pos c2).symm.trans h
      refine lv_lload_n hx hb dX4_runScript_20 rfl (lv_at hl 2 rfl) ?_
      refine lv_lconst (v := 0) hx hb dX4_runScript_21 (by decide) ?_
      refine W.lcmp hx hb dX4_runScript_22 ?_
      refine lv_if_lt (tgt := 35) hx hb dX4_runScript_23 (by decide) (fun c3 => ?_) (fun c3 => ?_)
      · replace h := (if_pos c3).symm.trans h
        have h := Option.some.inj h
        subst h
        obtain ⟨sa, hsa⟩ := hE.2.2.2.1 (261, "script is out of range") (by decide +kernel)
        exact vx_throwSW hx hb hlS (own := RX4) (cls := gIAE) (names := gNm) (A := (fIv q 201)) hown (by decide +kernel) (by decide +kernel) (hts (.classLink RX4 56 gIAE) (by decide +kernel)) (hts (.initialized gIAE) (by decide +kernel)) hsa (vx_hat (fun w hw => hts w (List.mem_cons_of_mem _ (List.mem_append_right _ hw))) gx_ng_IAE (vx_c (va_Nw.use rfl (hE.2.2.2.2.1 gIAE (by decide +kernel))) (vx_c (va_Nw.use rfl (hE.2.2.2.2.2 _ (List.mem_cons_self))) (vx_c (va_Nw.use rfl (hE.2.2.2.2.2 _ (List.mem_cons_of_mem _ List.mem_cons_self))) (vx_c (va_Nw.use rfl (hE.2.2.2.2.2 _ (List.mem_cons_of_mem _ (List.mem_cons_of_mem _ List.mem_cons_self)))) vx_n))))) gx_ot_IAE (hE.2.1.narrow (fun _ h => Nat.le_trans hlo h.1)) (hE.2.2.1.narrow (fun _ h => Nat.le_trans hlo h.1)) hS (hl.1.trans hml.symm) dX4_runScript_35 dX4_runScript_38 dX4_runScript_39 dX4_runScript_42 dX4_runScript_45 (fun x9 hx9 => (hnx x9 hx9).elim) (by decide) (by decide) (by decide) (by decide) hlocks (fun t9 hv9 hz9 hk9 => ⟨(), trivial, ⟨rfl, Nat.succ_ne_zero 0, (gx_end hP hS t9 hz9 hk9).1⟩, (gx_end hP hS t9 hz9 hk9).2⟩) hS.2.2 (by decide) (by decide)
      · replace h := (if_neg c3).symm.trans h
        refine lv_lload_n hx hb dX4_runScript_26 rfl (lv_at hl 2 rfl) ?_
        refine lv_iload_n hx hb dX4_runScript_27 rfl (lv_at hl 1 rfl) ?_
        obtain ⟨r28, hr28, h⟩ := bd_some h
        refine gc_sl (As := [.int p0]) (rest := [.long p1]) ⟨hx, hb, hml, hown, hts⟩ hK (kX4_groupPower l D cI cC cZ cQ cJ p0 hr28) (va_cwS 1 hts gX4_runScript_X4_groupPower rfl rfl rfl (by decide +kernel) ⟨Nat.le_of_ble_eq_true rfl, Nat.le_of_ble_eq_true rfl⟩)  trivial rfl hl.1 rfl (Nat.le_of_ble_eq_true rfl) ⟨Nat.zero_le _, Nat.zero_le _⟩ dX4_runScript_28 ?_
        refine W.lcmp hx hb dX4_runScript_31 ?_
        refine lv_if_lt (tgt := 46) hx hb dX4_runScript_32 (by decide) (fun c4 => ?_) (fun c4 => ?_)
        · replace h := (if_pos c4).symm.trans h
          refine lv_aload_n hx hb dX4_runScript_46 rfl (lv_at hl 0 rfl) ?_
          refine va_get (D := D) (ci := 4) (v := .ref (q + 11)) (C := RX4) (T := TX4) (N := 9) hx hb hts hinX4 hown hK hP 0 rfl rfl 1 (by decide) hf16 (fun _ h9 => h9) rfl dX4_runScript_47 ?_
          refine lv_aload_n hx hb dX4_runScript_50 rfl (lv_at hl 0 rfl) ?_
          refine va_get (D := D) (ci := 4) (v := .ref (q + 1)) (C := RX4) (T := TX4) (N := 9) hx hb hts hinX4 hown hK hP 0 rfl rfl 0 (by decide) hf10 (fun _ h9 => h9) rfl dX4_runScript_51 ?_
          refine gc_wv (As := [.ref (q + 1)]) (rest := []) (B := va_P D vwCl (LLW cI (q + 11) (q + 1) ((gTrial G), (gLift G)))) (B' := va_P D vwCl (LLW cI (q + 11) (q + 1) (lCopy (gTrial G) (gLift G), (gLift G)))) ⟨hx, hb, hml, hown, hts⟩ hK (kX0_become l D cI cC cZ cQ cJ (q + 11) (q + 1) ((gTrial G), (gLift G)) (by omega) (become_copy (gTrial G) (gLift G))) (cwV 1 hts gX4_runScript_X0_become rfl rfl rfl (by decide +kernel) ⟨Nat.le_of_ble_eq_true rfl, Nat.le_of_ble_eq_true rfl⟩) (va_recv hK (GW_trial (G := G) hP) (ci := 0) (q0 := 0) rfl rfl) (va_P.app (GW_trial (G := G) hP) (GW_lift (G := G) hP)) hS GW_inTL rfl hl.1 rfl (Nat.le_of_ble_eq_true rfl) ⟨Nat.zero_le _, Nat.zero_le _⟩ dX4_runScript_54 (fun H1 locs hB1 hS _ hk1 => ?_)
          have hP : va_P D vwCl (GW cI cC cZ cQ q ((gLift G), (lCopy (gTrial G) (gLift G)), (gTxt G), (gSum G), (gHis G), (gSav G), (gSvd G), (gRem G), (gNxt G))) H1 := GW_putTL (G := G) hP (gL hB1) (gR hB1) (fun a hl n1 n2 => hk1 a hl (fun z => z.elim n1 n2))
          generalize H1 = H at hP hS ⊢
          refine lv_iconst (v := 0) hx hb dX4_runScript_57 (by decide) ?_
          refine lv_istore (lv' := [(4, .int 0), (0, .ref q), (1, .int p0), (2, .long p1)]) hx hb dX4_runScript_58 hl (by decide) rfl (fun ls hl => ?_)
          exact LP60 KF ((gLift G), (lCopy (gTrial G) (gLift G)), (gTxt G), (gSum G), (gHis G), (gSav G), (gSvd G), (gRem G), (gNxt G)) p0 p1 0 H locs ls h hP hS (lv_sub hl [1, 2, 3, 0] rfl)
        · replace h := (if_neg c4).symm.trans h
          have h := Option.some.inj h
          subst h
          obtain ⟨sa, hsa⟩ := hE.2.2.2.1 (261, "script is out of range") (by decide +kernel)
          exact vx_throwSW hx hb hlS (own := RX4) (cls := gIAE) (names := gNm) (A := (fIv q 201)) hown (by decide +kernel) (by decide +kernel) (hts (.classLink RX4 56 gIAE) (by decide +kernel)) (hts (.initialized gIAE) (by decide +kernel)) hsa (vx_hat (fun w hw => hts w (List.mem_cons_of_mem _ (List.mem_append_right _ hw))) gx_ng_IAE (vx_c (va_Nw.use rfl (hE.2.2.2.2.1 gIAE (by decide +kernel))) (vx_c (va_Nw.use rfl (hE.2.2.2.2.2 _ (List.mem_cons_self))) (vx_c (va_Nw.use rfl (hE.2.2.2.2.2 _ (List.mem_cons_of_mem _ List.mem_cons_self))) (vx_c (va_Nw.use rfl (hE.2.2.2.2.2 _ (List.mem_cons_of_mem _ (List.mem_cons_of_mem _ List.mem_cons_self)))) vx_n))))) gx_ot_IAE (hE.2.1.narrow (fun _ h => Nat.le_trans hlo h.1)) (hE.2.2.1.narrow (fun _ h => Nat.le_trans hlo h.1)) hS (hl.1.trans hml.symm) dX4_runScript_35 dX4_runScript_38 dX4_runScript_39 dX4_runScript_42 dX4_runScript_45 (fun x9 hx9 => (hnx x9 hx9).elim) (by decide) (by decide) (by decide) (by decide) hlocks (fun t9 hv9 hz9 hk9 => ⟨(), trivial, ⟨rfl, Nat.succ_ne_zero 0, (gx_end hP hS t9 hz9 hk9).1⟩, (gx_end hP hS t9 hz9 hk9).2⟩) hS.2.2 (by decide) (by decide)
    · replace h := (if_neg c2).symm.trans h
      have h := Option.some.inj h
      subst h
      obtain ⟨sa, hsa⟩ := hE.2.2.2.1 (255, "n is not 1 to 3") (by decide +kernel)
      exact vx_throwS hx hb hlS (own := RX4) (cls := gIAE) (names := gNm) (A := (fIv q 201)) hown (by decide +kernel) (by decide +kernel) (hts (.classLink RX4 56 gIAE) (by decide +kernel)) (hts (.initialized gIAE) (by decide +kernel)) hsa (vx_hat (fun w hw => hts w (List.mem_cons_of_mem _ (List.mem_append_right _ hw))) gx_ng_IAE (vx_c (va_Nw.use rfl (hE.2.2.2.2.1 gIAE (by decide +kernel))) (vx_c (va_Nw.use rfl (hE.2.2.2.2.2 _ (List.mem_cons_self))) (vx_c (va_Nw.use rfl (hE.2.2.2.2.2 _ (List.mem_cons_of_mem _ List.mem_cons_self))) (vx_c (va_Nw.use rfl (hE.2.2.2.2.2 _ (List.mem_cons_of_mem _ (List.mem_cons_of_mem _ List.mem_cons_self)))) vx_n))))) gx_ot_IAE (hE.2.1.narrow (fun _ h => Nat.le_trans hlo h.1)) (hE.2.2.1.narrow (fun _ h => Nat.le_trans hlo h.1)) hS (hl.1.trans hml.symm) dX4_runScript_10 dX4_runScript_13 dX4_runScript_14 dX4_runScript_16 dX4_runScript_19 (fun x9 hx9 => (hnx x9 hx9).elim) (by decide) (by decide) (by decide) (by decide) hlocks (fun t9 hv9 hz9 hk9 => ⟨(), trivial, ⟨rfl, Nat.succ_ne_zero 0, (gx_end hP hS t9 hz9 hk9).1⟩, (gx_end hP hS t9 hz9 hk9).2⟩) hS.2.2 (by decide) (by decide)
set_option maxHeartbeats 4000000 in
set_option maxRecDepth 100000 in
theorem kX4_simulate (l : Launch) (D : va_G) (cI cC cZ cQ cJ : ClassId) (t lo : Nat) (q : Nat) (G : GSt) (p0 : Int64) (p1 : Int32) (hlo : lo ≤ q) (hlS : l.stackTraces = false) {R : Nat × Int32 × GSt} (h : fX4_simulate G p0 p1 = some R) : vx_Met l yX4_simulate wsX4_simulate ({ frames := 6, cells := 1, slots := 6, locals := 111 } : Room) (va_Pc [.ref q, .long p0, .int p1] (gBe D (gTy cI cC cZ cQ cJ) t lo (va_P D vwCl (GW cI cC cZ cQ q G)))) (va_Qi (fun r (_ : Unit) => R.1 = 0 ∧ r = R.2.1) (fun _ t => va_P D vwCl (GW cI cC cZ cQ q R.2.2) t.heap) (fIv q 201)) (vx_X (fun _ : Unit => True) (fun E _ t => E = gEx R.1 ∧ R.1 ≠ 0 ∧ va_P D vwCl (GW cI cC cZ cQ q R.2.2) t.heap) (fIv q 201)) 1 6 (fIv q 201) := by
  refine vx_ofW (cc := cX4_simulate) (maxL := 4) (ret := (some .int)) (by decide) rfl ?_
  intro p e s m args below meth c s₁ B hml hnx hv
  obtain ⟨rfl, ⟨hP, hK⟩, hE⟩ := hv
  have hZ := hE.1
  have hx := B.exec
  have hb := B.bytes
  have hr := B.returns
  have hts := atoms_spec (ws := wsX4_simulate) B.pre
  have hown : s.vm.findClass RX4 = some m.cls := findClass_of_methodNamed B.named
  have hlocks := B.notSynchronized
  have hinX4 : ∀ w ∈ wsX40, w ∈ wsX4_simulate := by decide +kernel
  have hinX0 : ∀ w ∈ wsX00, w ∈ wsX4_simulate := by decide +kernel
  have hf16 := hts (.fieldLink RX4 16 "GripInspector" "trial" "LGripInspector$Lift;") (by decide +kernel)
  have hf10 := hts (.fieldLink RX4 10 "GripInspector" "lift" "LGripInspector$Lift;") (by decide +kernel)
  have hf146 := hts (.fieldLink RX4 146 "GripInspector$Lift" "randomState" "J") (by decide +kernel)
  generalize hRM : (headSpec wsX4_simulate ({ frames := 6, cells := 1, slots := 6, locals := 111 } : Room)).room = RM
  replace hRM : ({ frames := 6, cells := 1, slots := 6, locals := 111 } : Room) = RM := hRM
  subst hRM
  have hl := lv_entry ([.ref q, .long p0, .int p1]) (n := 4) (Nat.le_of_ble_eq_true rfl)
  rw [lg_entry_eq]
  generalize (lg_sl ([.ref q, .long p0, .int p1]) ++ List.replicate (4 - (lg_sl ([.ref q, .long p0, .int p1])).length) Slot.unset).toArray = ls at hl ⊢
  have hl : lv_has ls 4 [(0, .ref q), (1, .long p0), (3, .int p1)] := hl
  have hS : va_S (fIv q 201) s.heap s.heap [] := va_S.rf
  unfold fX4_simulate at h
  obtain ⟨H, hH⟩ : ∃ H, H = s.heap := ⟨_, rfl⟩
  obtain ⟨locs, hlz⟩ : ∃ z : List Loc, z = [] := ⟨_, rfl⟩
  have hP : va_P D vwCl (GW cI cC cZ cQ q G) H := by rw [hH]; exact hP
  have hS : va_S (fIv q 201) s.heap H locs := by rw [hH, hlz]; exact hS
  refine gc_at hH hlz ?_
  refine lv_iload_n hx hb dX4_simulate_0 rfl (lv_at hl 2 rfl) ?_
  obtain ⟨r1, hr1, h⟩ := bd_some h
  refine gc_si (As := [.int p1]) (rest := []) ⟨hx, hb, hml, hown, hts⟩ hK (kX4_isStepNumber l D cI cC cZ cQ cJ p1 hr1) (va_cwS 1 hts gX4_simulate_X4_isStepNumber rfl rfl rfl (by decide +kernel) ⟨Nat.le_of_ble_eq_true rfl, Nat.le_of_ble_eq_true rfl⟩)  trivial rfl hl.1 rfl (Nat.le_of_ble_eq_true rfl) ⟨Nat.zero_le _, Nat.zero_le _⟩ dX4_simulate_1 ?_
  refine lv_if_ne (tgt := 17) hx hb dX4_simulate_4 (by decide) (fun c1 => ?_) (fun c1 => ?_)
  · replace h := (if_neg c1).symm.trans h
    refine lv_aload_n hx hb dX4_simulate_17 rfl (lv_at hl 0 rfl) ?_
    refine va_get (D := D) (ci := 4) (v := .ref (q + 11)) (C := RX4) (T := TX4) (N := 9) hx hb hts hinX4 hown hK hP 0 rfl rfl 1 (by decide) hf16 (fun _ h9 => h9) rfl dX4_simulate_18 ?_
    refine lv_aload_n hx hb dX4_simulate_21 rfl (lv_at hl 0 rfl) ?_
    refine va_get (D := D) (ci := 4) (v := .ref (q + 1)) (C := RX4) (T := TX4) (N := 9) hx hb hts hinX4 hown hK hP 0 rfl rfl 0 (by decide) hf10 (fun _ h9 => h9) rfl dX4_simulate_22 ?_
    refine gc_wv (As := [.ref (q + 1)]) (rest := []) (B := va_P D vwCl (LLW cI (q + 11) (q + 1) ((gTrial G), (gLift G)))) (B' := va_P D vwCl (LLW cI (q + 11) (q + 1) (lCopy (gTrial G) (gLift G), (gLift G)))) ⟨hx, hb, hml, hown, hts⟩ hK (kX0_become l D cI cC cZ cQ cJ (q + 11) (q + 1) ((gTrial G), (gLift G)) (by omega) (become_copy (gTrial G) (gLift G))) (cwV 1 hts gX4_simulate_X0_become rfl rfl rfl (by decide +kernel) ⟨Nat.le_of_ble_eq_true rfl, Nat.le_of_ble_eq_true rfl⟩) (va_recv hK (GW_trial (G := G) hP) (ci := 0) (q0 := 0) rfl rfl) (va_P.app (GW_trial (G := G) hP) (GW_lift (G := G) hP)) hS GW_inTL rfl hl.1 rfl (Nat.le_of_ble_eq_true rfl) ⟨Nat.zero_le _, Nat.zero_le _⟩ dX4_simulate_25 (fun H1 locs hB1 hS _ hk1 => ?_)
    have hP : va_P D vwCl (GW cI cC cZ cQ q ((gLift G), (lCopy (gTrial G) (gLift G)), (gTxt G), (gSum G), (gHis G), (gSav G), (gSvd G), (gRem G), (gNxt G))) H1 := GW_putTL (G := G) hP (gL hB1) (gR hB1) (fun a hl n1 n2 => hk1 a hl (fun z => z.elim n1 n2))
    generalize H1 = H at hP hS ⊢
    refine lv_aload_n hx hb dX4_simulate_28 rfl (lv_at hl 0 rfl) ?_
    refine va_get (D := D) (ci := 4) (v := .ref (q + 11)) (C := RX4) (T := TX4) (N := 9) hx hb hts hinX4 hown hK hP 0 rfl rfl 1 (by decide) hf16 (fun _ h9 => h9) rfl dX4_simulate_29 ?_
    refine lv_lload_n hx hb dX4_simulate_32 rfl (lv_at hl 1 rfl) ?_
    refine va_put (D := D) (ci := 0) (v := .long p0) (ty := .long) (C := RX0) (T := TX0) (N := 13) hx hb hts hinX0 tyX0 tyX0_ok nmX0 hown hK hP GW_selfI hS 11 rfl rfl 12 (by decide) hf146 (fun _ h9 => h9) rfl (by decide +kernel) rfl rfl (Nat.le_of_ble_eq_true rfl) dX4_simulate_33 (fun H locs hP _ hS => ?_)
    have hP : va_P D vwCl (GW cI cC cZ cQ q ((gLift G), ((lWe (lCopy (gTrial G) (gLift G))), (lCy (lCopy (gTrial G) (gLift G))), (lWr (lCopy (gTrial G) (gLift G))), (lPu (lCopy (gTrial G) (gLift G))), (lSl (lCopy (gTrial G) (gLift G))), (lPl (lCopy (gTrial G) (gLift G))), (lSp (lCopy (gTrial G) (gLift G))), (lSt (lCopy (gTrial G) (gLift G))), (lLi (lCopy (gTrial G) (gLift G))), (lN_ (lCopy (gTrial G) (gLift G))), (lStn (lCopy (gTrial G) (gLift G))), (lClk (lCopy (gTrial G) (gLift G))), p0), (gTxt G), (gSum G), (gHis G), (gSav G), (gSvd G), (gRem G), (gNxt G))) H := hP
    refine lv_aload_n hx hb dX4_simulate_36 rfl (lv_at hl 0 rfl) ?_
    refine va_get (D := D) (ci := 4) (v := .ref (q + 11)) (C := RX4) (T := TX4) (N := 9) hx hb hts hinX4 hown hK hP 0 rfl rfl 1 (by decide) hf16 (fun _ h9 => h9) rfl dX4_simulate_37 ?_
    refine lv_iload_n hx hb dX4_simulate_40 rfl (lv_at hl 2 rfl) ?_
    obtain ⟨r41, hr41, h⟩ := bd_some h
    refine gc_wv (As := [.int p1]) (rest := []) ⟨hx, hb, hml, hown, hts⟩ hK (kX0_advanceBy l D cI cC cZ cQ cJ (q + 11) ((lWe (lCopy (gTrial G) (gLift G))), (lCy (lCopy (gTrial G) (gLift G))), (lWr (lCopy (gTrial G) (gLift G))), (lPu (lCopy (gTrial G) (gLift G))), (lSl (lCopy (gTrial G) (gLift G))), (lPl (lCopy (gTrial G) (gLift G))), (lSp (lCopy (gTrial G) (gLift G))), (lSt (lCopy (gTrial G) (gLift G))), (lLi (lCopy (gTrial G) (gLift G))), (lN_ (lCopy (gTrial G) (gLift G))), (lStn (lCopy (gTrial G) (gLift G))), (lClk (lCopy (gTrial G) (gLift G))), p0) p1 hr41) (cwV 1 hts gX4_simulate_X0_advanceBy rfl rfl rfl (by decide +kernel) ⟨Nat.le_of_ble_eq_true rfl, Nat.le_of_ble_eq_true rfl⟩) (va_recv hK (GW_trial (G := ((gLift G), ((lWe (lCopy (gTrial G) (gLift G))), (lCy (lCopy (gTrial G) (gLift G))), (lWr (lCopy (gTrial G) (gLift G))), (lPu (lCopy (gTrial G) (gLift G))), (lSl (lCopy (gTrial G) (gLift G))), (lPl (lCopy (gTrial G) (gLift G))), (lSp (lCopy (gTrial G) (gLift G))), (lSt (lCopy (gTrial G) (gLift G))), (lLi (lCopy (gTrial G) (gLift G))), (lN_ (lCopy (gTrial G) (gLift G))), (lStn (lCopy (gTrial G) (gLift G))), (lClk (lCopy (gTrial G) (gLift G))), p0), (gTxt G), (gSum G), (gHis G), (gSav G), (gSvd G), (gRem G), (gNxt G))) hP) (ci := 0) (q0 := 0) rfl rfl) (GW_trial (G := ((gLift G), ((lWe (lCopy (gTrial G) (gLift G))), (lCy (lCopy (gTrial G) (gLift G))), (lWr (lCopy (gTrial G) (gLift G))), (lPu (lCopy (gTrial G) (gLift G))), (lSl (lCopy (gTrial G) (gLift G))), (lPl (lCopy (gTrial G) (gLift G))), (lSp (lCopy (gTrial G) (gLift G))), (lSt (lCopy (gTrial G) (gLift G))), (lLi (lCopy (gTrial G) (gLift G))), (lN_ (lCopy (gTrial G) (gLift G))), (lStn (lCopy (gTrial G) (gLift G))), (lClk (lCopy (gTrial G) (gLift G))), p0), (gTxt G), (gSum G), (gHis G), (gSav G), (gSvd G), (gRem G), (gNxt G))) hP) hS GW_inTrial rfl hl.1 rfl (Nat.le_of_ble_eq_true rfl) ⟨Nat.zero_le _, Nat.zero_le _⟩ dX4_simulate_41 (fun H1 locs hP1 hS _ hk1 => ?_)
    have hP : va_P D vwCl (GW cI cC cZ cQ q ((gLift G), r41, (gTxt G), (gSum G), (gHis G), (gSav G), (gSvd G), (gRem G), (gNxt G))) H1 := GW_putTrial (G := ((gLift G), ((lWe (lCopy (gTrial G) (gLift G))), (lCy (lCopy (gTrial G) (gLift G))), (lWr (lCopy (gTrial G) (gLift G))), (lPu (lCopy (gTrial G) (gLift G))), (lSl (lCopy (gTrial G) (gLift G))), (lPl (lCopy (gTrial G) (gLift G))), (lSp (lCopy (gTrial G) (gLift G))), (lSt (lCopy (gTrial G) (gLift G))), (lLi (lCopy (gTrial G) (gLift G))), (lN_ (lCopy (gTrial G) (gLift G))), (lStn (lCopy (gTrial G) (gLift G))), (lClk (lCopy (gTrial G) (gLift G))), p0), (gTxt G), (gSum G), (gHis G), (gSav G), (gSvd G), (gRem G), (gNxt G))) hP hP1 hk1
    generalize H1 = H at hP hS ⊢
    refine lv_bipush (v := 100) hx hb dX4_simulate_44 (by decide) ?_
    refine lv_aload_n hx hb dX4_simulate_46 rfl (lv_at hl 0 rfl) ?_
    refine va_get (D := D) (ci := 4) (v := .ref (q + 11)) (C := RX4) (T := TX4) (N := 9) hx hb hts hinX4 hown hK hP 0 rfl rfl 1 (by decide) hf16 (fun _ h9 => h9) rfl dX4_simulate_47 ?_
    obtain ⟨r50, hr50, h⟩ := bd_some h
    refine gc_ri (As := []) (rest := [.int 100]) ⟨hx, hb, hml, hown, hts⟩ hK (kX0_allPulls l D cI cC cZ cQ cJ (q + 11) r41 hr50) (cwV 0 hts gX4_simulate_X0_allPulls rfl rfl rfl (by decide +kernel) ⟨Nat.le_of_ble_eq_true rfl, Nat.le_of_ble_eq_true rfl⟩) (va_recv hK (GW_trial (G := ((gLift G), r41, (gTxt G), (gSum G), (gHis G), (gSav G), (gSvd G), (gRem G), (gNxt G))) hP) (ci := 0) (q0 := 0) rfl rfl) (GW_trial (G := ((gLift G), r41, (gTxt G), (gSum G), (gHis G), (gSav G), (gSvd G), (gRem G), (gNxt G))) hP) rfl hl.1 rfl (Nat.le_of_ble_eq_true rfl) ⟨Nat.zero_le _, Nat.zero_le _⟩ dX4_simulate_50 ?_
    refine lv_imul hx hb dX4_simulate_53 ?_
    refine lv_aload_n hx hb dX4_simulate_54 rfl (lv_at hl 0 rfl) ?_
    refine va_get (D := D) (ci := 4) (v := .ref (q + 11)) (C := RX4) (T := TX4) (N := 9) hx hb hts hinX4 hown hK hP 0 rfl rfl 1 (by decide) hf16 (fun _ h9 => h9) rfl dX4_simulate_55 ?_
    refine lv_iconst (v := 0) hx hb dX4_simulate_58 (by decide) ?_
    obtain ⟨r59, hr59, h⟩ := bd_some h
    refine gc_ri (As := [.int 0]) (rest := [.int (100 * r50)]) ⟨hx, hb, hml, hown, hts⟩ hK (kX0_count l D cI cC cZ cQ cJ (q + 11) r41 0 hr59) (cwV 1 hts gX4_simulate_X0_count rfl rfl rfl (by decide +kernel) ⟨Nat.le_of_ble_eq_true rfl, Nat.le_of_ble_eq_true rfl⟩) (va_recv hK (GW_trial (G := ((gLift G), r41, (gTxt G), (gSum G), (gHis G), (gSav G), (gSvd G), (gRem G), (gNxt G))) hP) (ci := 0) (q0 := 0) rfl rfl) (GW_trial (G := ((gLift G), r41, (gTxt G), (gSum G), (gHis G), (gSav G), (gSvd G), (gRem G), (gNxt G))) hP) rfl hl.1 rfl (Nat.le_of_ble_eq_true rfl) ⟨Nat.zero_le _, Nat.zero_le _⟩ dX4_simulate_59 ?_
    refine lv_iadd hx hb dX4_simulate_62 ?_
    have h := Option.some.inj h
    subst h
    refine vx_ret ?_
    refine W.widen (k := 1) (n := 6) (by decide) (by decide) ?_
    exact W.iret (v := ((100 * r50) + r59)) hx hb hr (fun t ht hW => ⟨⟨_, (), rfl, ⟨rfl, rfl⟩, gh ht hP⟩, hS.F ht⟩) hS.2.2 dX4_simulate_63
  · replace h := (if_pos c1).symm.trans h
    have h := Option.some.inj h
    subst h
    obtain ⟨sa, hsa⟩ := hE.2.2.2.1 (162, "m is not 1 to 99") (by decide +kernel)
    exact vx_throwS hx hb hlS (own := RX4) (cls := gIAE) (names := gNm) (A := (fIv q 201)) hown (by decide +kernel) (by decide +kernel) (hts (.classLink RX4 56 gIAE) (by decide +kernel)) (hts (.initialized gIAE) (by decide +kernel)) hsa (vx_hat (fun w hw => hts w (List.mem_cons_of_mem _ (List.mem_append_right _ hw))) gx_ng_IAE (vx_c (va_Nw.use rfl (hE.2.2.2.2.1 gIAE (by decide +kernel))) (vx_c (va_Nw.use rfl (hE.2.2.2.2.2 _ (List.mem_cons_self))) (vx_c (va_Nw.use rfl (hE.2.2.2.2.2 _ (List.mem_cons_of_mem _ List.mem_cons_self))) (vx_c (va_Nw.use rfl (hE.2.2.2.2.2 _ (List.mem_cons_of_mem _ (List.mem_cons_of_mem _ List.mem_cons_self)))) vx_n))))) gx_ot_IAE (hE.2.1.narrow (fun _ h => Nat.le_trans hlo h.1)) (hE.2.2.1.narrow (fun _ h => Nat.le_trans hlo h.1)) hS (hl.1.trans hml.symm) dX4_simulate_7 dX4_simulate_10 dX4_simulate_11 dX4_simulate_13 dX4_simulate_16 (fun x9 hx9 => (hnx x9 hx9).elim) (by decide) (by decide) (by decide) (by decide) hlocks (fun t9 hv9 hz9 hk9 => ⟨(), trivial, ⟨rfl, Nat.succ_ne_zero 0, (gx_end hP hS t9 hz9 hk9).1⟩, (gx_end hP hS t9 hz9 hk9).2⟩) hS.2.2 (by decide) (by decide)
set_option maxHeartbeats 4000000 in
set_option maxRecDepth 100000 in
theorem kX4_save (l : Launch) (D : va_G) (cI cC cZ cQ cJ : ClassId) (t lo : Nat) (q : Nat) (G : GSt) (p0 : Int32) (hlo : lo ≤ q) (hlS : l.stackTraces = false) {R : Nat × Int32 × GSt} (h : fX4_save G p0 = some R) : vx_Met l yX4_save wsX4_save ({ frames := 6, cells := 1, slots := 6, locals := 84 } : Room) (va_Pc [.ref q, .int p0] (gBe D (gTy cI cC cZ cQ cJ) t lo (va_P D vwCl (GW cI cC cZ cQ q G)))) (va_Qi (fun r (_ : Unit) => R.1 = 0 ∧ r = R.2.1) (fun _ t => va_P D vwCl (GW cI cC cZ cQ q R.2.2) t.heap) (fIv q 201)) (vx_X (fun _ : Unit => True) (fun E _ t => E = gEx R.1 ∧ R.1 ≠ 0 ∧ va_P D vwCl (GW cI cC cZ cQ q R.2.2) t.heap) (fIv q 201)) 1 6 (fIv q 201) := by
  refine vx_ofW (cc := cX4_save) (maxL := 2) (ret := (some .int)) (by decide) rfl ?_
  intro p e s m args below meth c s₁ B hml hnx hv
  obtain ⟨rfl, ⟨hP, hK⟩, hE⟩ := hv
  have hZ := hE.1
  have hx := B.exec
  have hb := B.bytes
  have hr := B.returns
  have hts := atoms_spec (ws := wsX4_save) B.pre
  have hown : s.vm.findClass RX4 = some m.cls := findClass_of_methodNamed B.named
  have hlocks := B.notSynchronized
  have hinX4 : ∀ w ∈ wsX40, w ∈ wsX4_save := by decide +kernel
  have hinX0 : ∀ w ∈ wsX00, w ∈ wsX4_save := by decide +kernel
  have hf42 := hts (.fieldLink RX4 42 "GripInspector" "saves" "LGripInspector$Memory;") (by decide +kernel)
  have hf10 := hts (.fieldLink RX4 10 "GripInspector" "lift" "LGripInspector$Lift;") (by decide +kernel)
  have hf45 := hts (.fieldLink RX4 45 "GripInspector" "saved" "[Z") (by decide +kernel)
  have hf111 := hts (.fieldLink RX4 111 "GripInspector$Lift" "clock" "I") (by decide +kernel)
  generalize hRM : (headSpec wsX4_save ({ frames := 6, cells := 1, slots := 6, locals := 84 } : Room)).room = RM
  replace hRM : ({ frames := 6, cells := 1, slots := 6, locals := 84 } : Room) = RM := hRM
  subst hRM
  have hl := lv_entry ([.ref q, .int p0]) (n := 2) (Nat.le_of_ble_eq_true rfl)
  rw [lg_entry_eq]
  generalize (lg_sl ([.ref q, .int p0]) ++ List.replicate (2 - (lg_sl ([.ref q, .int p0])).length) Slot.unset).toArray = ls at hl ⊢
  have hl : lv_has ls 2 [(0, .ref q), (1, .int p0)] := hl
  have hS : va_S (fIv q 201) s.heap s.heap [] := va_S.rf
  unfold fX4_save at h
  obtain ⟨H, hH⟩ : ∃ H, H = s.heap := ⟨_, rfl⟩
  obtain ⟨locs, hlz⟩ : ∃ z : List Loc, z = [] := ⟨_, rfl⟩
  have hP : va_P D vwCl (GW cI cC cZ cQ q G) H := by rw [hH]; exact hP
  have hS : va_S (fIv q 201) s.heap H locs := by rw [hH, hlz]; exact hS
  refine gc_at hH hlz ?_
  refine lv_iload_n hx hb dX4_save_0 rfl (lv_at hl 1 rfl) ?_
  refine lv_if_lt (tgt := 9) hx hb dX4_save_1 (by decide) (fun c1 => ?_) (fun c1 => ?_)
  · replace h := (if_pos c1).symm.trans h
    have h := Option.some.inj h
    subst h
    obtain ⟨sa, hsa⟩ := hE.2.2.2.1 (273, "no such save slot") (by decide +kernel)
    exact vx_throwSW hx hb hlS (own := RX4) (cls := gIOB) (names := gNm) (A := (fIv q 201)) hown (by decide +kernel) (by decide +kernel) (hts (.classLink RX4 124 gIOB) (by decide +kernel)) (hts (.initialized gIOB) (by decide +kernel)) hsa (vx_hat (fun w hw => hts w (List.mem_cons_of_mem _ (List.mem_append_right _ hw))) gx_ng_IOB (vx_c (va_Nw.use rfl (hE.2.2.2.2.1 gIOB (by decide +kernel))) (vx_c (va_Nw.use rfl (hE.2.2.2.2.2 _ (List.mem_cons_self))) (vx_c (va_Nw.use rfl (hE.2.2.2.2.2 _ (List.mem_cons_of_mem _ List.mem_cons_self))) (vx_c (va_Nw.use rfl (hE.2.2.2.2.2 _ (List.mem_cons_of_mem _ (List.mem_cons_of_mem _ List.mem_cons_self)))) vx_n))))) gx_ot_IOB (hE.2.1.narrow (fun _ h => Nat.le_trans hlo h.1)) (hE.2.2.1.narrow (fun _ h => Nat.le_trans hlo h.1)) hS (hl.1.trans hml.symm) dX4_save_9 dX4_save_12 dX4_save_13 dX4_save_16 dX4_save_19 (fun x9 hx9 => (hnx x9 hx9).elim) (by decide) (by decide) (by decide) (by decide) hlocks (fun t9 hv9 hz9 hk9 => ⟨(), trivial, ⟨rfl, Nat.succ_ne_zero 2, (gx_end hP hS t9 hz9 hk9).1⟩, (gx_end hP hS t9 hz9 hk9).2⟩) hS.2.2 (by decide) (by decide)
  · replace h := (if_neg c1).symm.trans h
    refine lv_iload_n hx hb dX4_save_4 rfl (lv_at hl 1 rfl) ?_
    refine lv_iconst (v := 2) hx hb dX4_save_5 (by decide) ?_
    refine lv_icmp_lt (tgt := 20) hx hb dX4_save_6 (by decide) (fun c2 => ?_) (fun c2 => ?_)
    · replace h := (if_pos c2).symm.trans h
      refine lv_aload_n hx hb dX4_save_20 rfl (lv_at hl 0 rfl) ?_
      refine va_get (D := D) (ci := 4) (v := .ref (q + 178)) (C := RX4) (T := TX4) (N := 9) hx hb hts hinX4 hown hK hP 0 rfl rfl 5 (by decide) hf42 (fun _ h9 => h9) rfl dX4_save_21 ?_
      refine lv_iload_n hx hb dX4_save_24 rfl (lv_at hl 1 rfl) ?_
      refine lv_aload_n hx hb dX4_save_25 rfl (lv_at hl 0 rfl) ?_
      refine va_get (D := D) (ci := 4) (v := .ref (q + 1)) (C := RX4) (T := TX4) (N := 9) hx hb hts hinX4 hown hK hP 0 rfl rfl 0 (by decide) hf10 (fun _ h9 => h9) rfl dX4_save_26 ?_
      obtain ⟨hg3, h⟩ := gd_some h
      refine gc_wv (As := [.int p0, .ref (q + 1)]) (rest := []) (B := (mkB D cI cQ (q + 178) 2 (q + 1) (gSav G) (gLift G))) (B' := (mkB D cI cQ (q + 178) 2 (q + 1) (va_up (gSav G) (p0.toNatClampNeg) (lCopy ((gSav G) (p0.toNatClampNeg)) (gLift G))) (gLift G))) ⟨hx, hb, hml, hown, hts⟩ hK (kX2_keep l D cI cC cZ cQ cJ (q + 178) 2 (q + 1) (gSav G) (gLift G) p0 (by decide) hg3 (by omega)) (cwV 2 hts gX4_save_X2_keep rfl rfl rfl (by decide +kernel) ⟨Nat.le_of_ble_eq_true rfl, Nat.le_of_ble_eq_true rfl⟩) (va_recv hK (GW_sav (G := G) hP) (ci := 2) (q0 := 0) rfl rfl) ⟨(GW_sav (G := G) hP), (GW_lift (G := G) hP)⟩ hS GW_inSavLift rfl hl.1 rfl (Nat.le_of_ble_eq_true rfl) ⟨Nat.zero_le _, Nat.zero_le _⟩ dX4_save_29 (fun H1 locs hB1 hS _ hk1 => ?_)
      have hP : va_P D vwCl (GW cI cC cZ cQ q ((gLift G), (gTrial G), (gTxt G), (gSum G), (gHis G), (va_up (gSav G) (p0.toNatClampNeg) (lCopy ((gSav G) (p0.toNatClampNeg)) (gLift G))), (gSvd G), (gRem G), (gNxt G))) H1 := GW_putSavLift (G := G) hP hB1.1 hB1.2 (fun a hl n1 n2 => hk1 a hl (fun z => z.elim n1 n2))
      generalize H1 = H at hP hS ⊢
      refine lv_aload_n hx hb dX4_save_32 rfl (lv_at hl 0 rfl) ?_
      refine va_get (D := D) (ci := 4) (v := .ref (q + 200)) (C := RX4) (T := TX4) (N := 9) hx hb hts hinX4 hown hK hP 0 rfl rfl 6 (by decide) hf45 (fun _ h9 => h9) rfl dX4_save_33 ?_
      refine lv_iload_n hx hb dX4_save_36 rfl (lv_at hl 1 rfl) ?_
      refine lv_iconst (v := 1) hx hb dX4_save_37 (by decide) ?_
      refine g_zast (f := (gSvd G)) (k := p0.toNatClampNeg) hx hb hK hP GW_selfI hS 200 2 GW_at_svd rfl hg3 rfl dX4_save_38 (fun H locs hP hS => ?_)
      have hP : va_P D vwCl (GW cI cC cZ cQ q ((gLift G), (gTrial G), (gTxt G), (gSum G), (gHis G), (va_up (gSav G) (p0.toNatClampNeg) (lCopy ((gSav G) (p0.toNatClampNeg)) (gLift G))), (upd (gSvd G) p0.toNatClampNeg (vp_nar .boolean 1)), (gRem G), (gNxt G))) H := by have h9 := hP; rw [GW_set_svd] at h9; exact h9
      refine lv_aload_n hx hb dX4_save_39 rfl (lv_at hl 0 rfl) ?_
      refine va_get (D := D) (ci := 4) (v := .ref (q + 1)) (C := RX4) (T := TX4) (N := 9) hx hb hts hinX4 hown hK hP 0 rfl rfl 0 (by decide) hf10 (fun _ h9 => h9) rfl dX4_save_40 ?_
      refine va_get (D := D) (ci := 0) (v := .int (lClk (gLift G))) (C := RX0) (T := TX0) (N := 13) hx hb hts hinX0 hown hK hP 1 rfl rfl 11 (by decide) hf111 (fun _ h9 => h9) rfl dX4_save_43 ?_
      have h := Option.some.inj h
      subst h
      refine vx_ret ?_
      refine W.widen (k := 1) (n := 6) (by decide) (by decide) ?_
      exact W.iret (v := (lClk (gLift G))) hx hb hr (fun t ht hW => ⟨⟨_, (), rfl, ⟨rfl, rfl⟩, gh ht hP⟩, hS.F ht⟩) hS.2.2 dX4_save_46
    · replace h := (if_neg c2).symm.trans h
      have h := Option.some.inj h
      subst h
      obtain ⟨sa, hsa⟩ := hE.2.2.2.1 (273, "no such save slot") (by decide +kernel)
      exact vx_throwSW hx hb hlS (own := RX4) (cls := gIOB) (names := gNm) (A := (fIv q 201)) hown (by decide +kernel) (by decide +kernel) (hts (.classLink RX4 124 gIOB) (by decide +kernel)) (hts (.initialized gIOB) (by decide +kernel)) hsa (vx_hat (fun w hw => hts w (List.mem_cons_of_mem _ (List.mem_append_right _ hw))) gx_ng_IOB (vx_c (va_Nw.use rfl (hE.2.2.2.2.1 gIOB (by decide +kernel))) (vx_c (va_Nw.use rfl (hE.2.2.2.2.2 _ (List.mem_cons_self))) (vx_c (va_Nw.use rfl (hE.2.2.2.2.2 _ (List.mem_cons_of_mem _ List.mem_cons_self))) (vx_c (va_Nw.use rfl (hE.2.2.2.2.2 _ (List.mem_cons_of_mem _ (List.mem_cons_of_mem _ List.mem_cons_self)))) vx_n))))) gx_ot_IOB (hE.2.1.narrow (fun _ h => Nat.le_trans hlo h.1)) (hE.2.2.1.narrow (fun _ h => Nat.le_trans hlo h.1)) hS (hl.1.trans hml.symm) dX4_save_9 dX4_save_12 dX4_save_13 dX4_save_16 dX4_save_19 (fun x9 hx9 => (hnx x9 hx9).elim) (by decide) (by decide) (by decide) (by decide) hlocks (fun t9 hv9 hz9 hk9 => ⟨(), trivial, ⟨rfl, Nat.succ_ne_zero 2, (gx_end hP hS t9 hz9 hk9).1⟩, (gx_end hP hS t9 hz9 hk9).2⟩) hS.2.2 (by decide) (by decide)
set_option maxHeartbeats 4000000 in
set_option maxRecDepth 100000 in
theorem kX4_restore (l : Launch) (D : va_G) (cI cC cZ cQ cJ : ClassId) (t lo : Nat) (q : Nat) (G : GSt) (p0 : Int32) (hlo : lo ≤ q) (hlS : l.stackTraces = false) {R : Nat × Int32 × GSt} (h : fX4_restore G p0 = some R) : vx_Met l yX4_restore wsX4_restore ({ frames := 6, cells := 1, slots := 6, locals := 84 } : Room) (va_Pc [.ref q, .int p0] (gBe D (gTy cI cC cZ cQ cJ) t lo (va_P D vwCl (GW cI cC cZ cQ q G)))) (va_Qi (fun r (_ : Unit) => R.1 = 0 ∧ r = R.2.1) (fun _ t => va_P D vwCl (GW cI cC cZ cQ q R.2.2) t.heap) (fIv q 201)) (vx_X (fun _ : Unit => True) (fun E _ t => E = gEx R.1 ∧ R.1 ≠ 0 ∧ va_P D vwCl (GW cI cC cZ cQ q R.2.2) t.heap) (fIv q 201)) 1 6 (fIv q 201) := by
  refine vx_ofW (cc := cX4_restore) (maxL := 2) (ret := (some .int)) (by decide) rfl ?_
  intro p e s m args below meth c s₁ B hml hnx hv
  obtain ⟨rfl, ⟨hP, hK⟩, hE⟩ := hv
  have hZ := hE.1
  have hx := B.exec
  have hb := B.bytes
  have hr := B.returns
  have hts := atoms_spec (ws := wsX4_restore) B.pre
  have hown : s.vm.findClass RX4 = some m.cls := findClass_of_methodNamed B.named
  have hlocks := B.notSynchronized
  have hinX4 : ∀ w ∈ wsX40, w ∈ wsX4_restore := by decide +kernel
  have hinX0 : ∀ w ∈ wsX00, w ∈ wsX4_restore := by decide +kernel
  have hf45 := hts (.fieldLink RX4 45 "GripInspector" "saved" "[Z") (by decide +kernel)
  have hf42 := hts (.fieldLink RX4 42 "GripInspector" "saves" "LGripInspector$Memory;") (by decide +kernel)
  have hf10 := hts (.fieldLink RX4 10 "GripInspector" "lift" "LGripInspector$Lift;") (by decide +kernel)
  have hf49 := hts (.fieldLink RX4 49 "GripInspector" "remembered" "I") (by decide +kernel)
  have hf111 := hts (.fieldLink RX4 111 "GripInspector$Lift" "clock" "I") (by decide +kernel)
  generalize hRM : (headSpec wsX4_restore ({ frames := 6, cells := 1, slots := 6, locals := 84 } : Room)).room = RM
  replace hRM : ({ frames := 6, cells := 1, slots := 6, locals := 84 } : Room) = RM := hRM
  subst hRM
  have hl := lv_entry ([.ref q, .int p0]) (n := 2) (Nat.le_of_ble_eq_true rfl)
  rw [lg_entry_eq]
  generalize (lg_sl ([.ref q, .int p0]) ++ List.replicate (2 - (lg_sl ([.ref q, .int p0])).length) Slot.unset).toArray = ls at hl ⊢
  have hl : lv_has ls 2 [(0, .ref q), (1, .int p0)] := hl
  have hS : va_S (fIv q 201) s.heap s.heap [] := va_S.rf
  unfold fX4_restore at h
  obtain ⟨H, hH⟩ : ∃ H, H = s.heap := ⟨_, rfl⟩
  obtain ⟨locs, hlz⟩ : ∃ z : List Loc, z = [] := ⟨_, rfl⟩
  have hP : va_P D vwCl (GW cI cC cZ cQ q G) H := by rw [hH]; exact hP
  have hS : va_S (fIv q 201) s.heap H locs := by rw [hH, hlz]; exact hS
  refine gc_at hH hlz ?_
  refine lv_iload_n hx hb dX4_restore_0 rfl (lv_at hl 1 rfl) ?_
  refine lv_if_lt (tgt := 9) hx hb dX4_restore_1 (by decide) (fun c1 => ?_) (fun c1 => ?_)
  · replace h := (if_pos c1).symm.trans h
    have h := Option.some.inj h
    subst h
    obtain ⟨sa, hsa⟩ := hE.2.2.2.1 (273, "no such save slot") (by decide +kernel)
    exact vx_throwSW hx hb hlS (own := RX4) (cls := gIOB) (names := gNm) (A := (fIv q 201)) hown (by decide +kernel) (by decide +kernel) (hts (.classLink RX4 124 gIOB) (by decide +kernel)) (hts (.initialized gIOB) (by decide +kernel)) hsa (vx_hat (fun w hw => hts w (List.mem_cons_of_mem _ (List.mem_append_left _ (List.mem_append_right _ hw)))) gx_ng_IOB (vx_c (va_Nw.use rfl (hE.2.2.2.2.1 gIOB (by decide +kernel))) (vx_c (va_Nw.use rfl (hE.2.2.2.2.2 _ (List.mem_cons_self))) (vx_c (va_Nw.use rfl (hE.2.2.2.2.2 _ (List.mem_cons_of_mem _ List.mem_cons_self))) (vx_c (va_Nw.use rfl (hE.2.2.2.2.2 _ (List.mem_cons_of_mem _ (List.mem_cons_of_mem _ List.mem_cons_self)))) vx_n))))) gx_ot_IOB (hE.2.1.narrow (fun _ h => Nat.le_trans hlo h.1)) (hE.2.2.1.narrow (fun _ h => Nat.le_trans hlo h.1)) hS (hl.1.trans hml.symm) dX4_restore_9 dX4_restore_12 dX4_restore_13 dX4_restore_16 dX4_restore_19 (fun x9 hx9 => (hnx x9 hx9).elim) (by decide) (by decide) (by decide) (by decide) hlocks (fun t9 hv9 hz9 hk9 => ⟨(), trivial, ⟨rfl, Nat.succ_ne_zero 2, (gx_end hP hS t9 hz9 hk9).1⟩, (gx_end hP hS t9 hz9 hk9).2⟩) hS.2.2 (by decide) (by decide)
  · replace h := (if_neg c1).symm.trans h
    refine lv_iload_n hx hb dX4_restore_4 rfl (lv_at hl 1 rfl) ?_
    refine lv_iconst (v := 2) hx hb dX4_restore_5 (by decide) ?_
    refine lv_icmp_lt (tgt := 20) hx hb dX4_restore_6 (by decide) (fun c2 => ?_) (fun c2 => ?_)
    · replace h := (if_pos c2).symm.trans h
      refine lv_aload_n hx hb dX4_restore_20 rfl (lv_at hl 0 rfl) ?_
      refine va_get (D := D) (ci := 4) (v := .ref (q + 200)) (C := RX4) (T := TX4) (N := 9) hx hb hts hinX4 hown hK hP 0 rfl rfl 6 (by decide) hf45 (fun _ h9 => h9) rfl dX4_restore_21 ?_
      refine lv_iload_n hx hb dX4_restore_24 rfl (lv_at hl 1 rfl) ?_
      obtain ⟨hg3, h⟩ := gd_some h
      refine g_zald (f := (gSvd G)) (k := p0.toNatClampNeg) hx hb hK hP 200 2 GW_at_svd rfl hg3 rfl dX4_restore_25 ?_
      refine lv_if_ne (tgt := 40) hx hb dX4_restore_26 (by decide) (fun c4 => ?_) (fun c4 => ?_)
      · replace h := (if_neg c4).symm.trans h
        refine lv_aload_n hx hb dX4_restore_40 rfl (lv_at hl 0 rfl) ?_
        refine va_get (D := D) (ci := 4) (v := .ref (q + 178)) (C := RX4) (T := TX4) (N := 9) hx hb hts hinX4 hown hK hP 0 rfl rfl 5 (by decide) hf42 (fun _ h9 => h9) rfl dX4_restore_41 ?_
        refine lv_iload_n hx hb dX4_restore_44 rfl (lv_at hl 1 rfl) ?_
        refine lv_aload_n hx hb dX4_restore_45 rfl (lv_at hl 0 rfl) ?_
        refine va_get (D := D) (ci := 4) (v := .ref (q + 1)) (C := RX4) (T := TX4) (N := 9) hx hb hts hinX4 hown hK hP 0 rfl rfl 0 (by decide) hf10 (fun _ h9 => h9) rfl dX4_restore_46 ?_
        refine gc_wv (As := [.int p0, .ref (q + 1)]) (rest := []) (B := (mkB D cI cQ (q + 178) 2 (q + 1) (gSav G) (gLift G))) (B' := (mkB D cI cQ (q + 178) 2 (q + 1) (gSav G) (lCopy (gLift G) ((gSav G) (p0.toNatClampNeg))))) ⟨hx, hb, hml, hown, hts⟩ hK (kX2_recall l D cI cC cZ cQ cJ (q + 178) 2 (q + 1) (gSav G) (gLift G) p0 (by decide) hg3 (by omega)) (cwV 2 hts gX4_restore_X2_recall rfl rfl rfl (by decide +kernel) ⟨Nat.le_of_ble_eq_true rfl, Nat.le_of_ble_eq_true rfl⟩) (va_recv hK (GW_sav (G := G) hP) (ci := 2) (q0 := 0) rfl rfl) ⟨(GW_sav (G := G) hP), (GW_lift (G := G) hP)⟩ hS GW_inSavLift rfl hl.1 rfl (Nat.le_of_ble_eq_true rfl) ⟨Nat.zero_le _, Nat.zero_le _⟩ dX4_restore_49 (fun H1 locs hB1 hS _ hk1 => ?_)
        have hP : va_P D vwCl (GW cI cC cZ cQ q ((lCopy (gLift G) ((gSav G) (p0.toNatClampNeg))), (gTrial G), (gTxt G), (gSum G), (gHis G), (gSav G), (gSvd G), (gRem G), (gNxt G))) H1 := GW_putSavLift (G := G) hP hB1.1 hB1.2 (fun a hl n1 n2 => hk1 a hl (fun z => z.elim n1 n2))
        generalize H1 = H at hP hS ⊢
        refine lv_aload_n hx hb dX4_restore_52 rfl (lv_at hl 0 rfl) ?_
        refine lv_iconst (v := 0) hx hb dX4_restore_53 (by decide) ?_
        refine va_put (D := D) (ci := 4) (v := .int 0) (ty := .int) (C := RX4) (T := TX4) (N := 9) hx hb hts hinX4 tyX4 tyX4_ok nmX4 hown hK hP GW_selfI hS 0 rfl rfl 7 (by decide) hf49 (fun _ h9 => h9) rfl (by decide +kernel) rfl rfl (Nat.le_of_ble_eq_true rfl) dX4_restore_54 (fun H locs hP _ hS => ?_)
        have hP : va_P D vwCl (GW cI cC cZ cQ q ((lCopy (gLift G) ((gSav G) (p0.toNatClampNeg))), (gTrial G), (gTxt G), (gSum G), (gHis G), (gSav G), (gSvd G), 0, (gNxt G))) H := hP
        refine lv_aload_n hx hb dX4_restore_57 rfl (lv_at hl 0 rfl) ?_
        refine va_get (D := D) (ci := 4) (v := .ref (q + 1)) (C := RX4) (T := TX4) (N := 9) hx hb hts hinX4 hown hK hP 0 rfl rfl 0 (by decide) hf10 (fun _ h9 => h9) rfl dX4_restore_58 ?_
        refine va_get (D := D) (ci := 0) (v := .int (lClk (lCopy (gLift G) ((gSav G) (p0.toNatClampNeg))))) (C := RX0) (T := TX0) (N := 13) hx hb hts hinX0 hown hK hP 1 rfl rfl 11 (by decide) hf111 (fun _ h9 => h9) rfl dX4_restore_61 ?_
        have h := Option.some.inj h
        subst h
        refine vx_ret ?_
        refine W.widen (k := 1) (n := 6) (by decide) (by decide) ?_
        exact W.iret (v := (lClk (lCopy (gLift G) ((gSav G) (p0.toNatClampNeg))))) hx hb hr (fun t ht hW => ⟨⟨_, (), rfl, ⟨rfl, rfl⟩, gh ht hP⟩, hS.F ht⟩) hS.2.2 dX4_restore_64
      · replace h := (if_pos c4).symm.trans h
        have h := Option.some.inj h
        subst h
        obtain ⟨sa, hsa⟩ := hE.2.2.2.1 (278, "nothing has been saved there") (by decide +kernel)
        exact vx_throwSW hx hb hlS (own := RX4) (cls := gISE) (names := gNm) (A := (fIv q 201)) hown (by decide +kernel) (by decide +kernel) (hts (.classLink RX4 70 gISE) (by decide +kernel)) (hts (.initialized gISE) (by decide +kernel)) hsa (vx_hat (fun w hw => hts w (List.mem_cons_of_mem _ (List.mem_append_right _ hw))) gx_ng_ISE (vx_c (va_Nw.use rfl (hE.2.2.2.2.1 gISE (by decide +kernel))) (vx_c (va_Nw.use rfl (hE.2.2.2.2.2 _ (List.mem_cons_self))) (vx_c (va_Nw.use rfl (hE.2.2.2.2.2 _ (List.mem_cons_of_mem _ List.mem_cons_self))) (vx_c (va_Nw.use rfl (hE.2.2.2.2.2 _ (List.mem_cons_of_mem _ (List.mem_cons_of_mem _ List.mem_cons_self)))) vx_n))))) gx_ot_ISE (hE.2.1.narrow (fun _ h => Nat.le_trans hlo h.1)) (hE.2.2.1.narrow (fun _ h => Nat.le_trans hlo h.1)) hS (hl.1.trans hml.symm) dX4_restore_29 dX4_restore_32 dX4_restore_33 dX4_restore_36 dX4_restore_39 (fun x9 hx9 => (hnx x9 hx9).elim) (by decide) (by decide) (by decide) (by decide) hlocks (fun t9 hv9 hz9 hk9 => ⟨(), trivial, ⟨rfl, Nat.succ_ne_zero 1, (gx_end hP hS t9 hz9 hk9).1⟩, (gx_end hP hS t9 hz9 hk9).2⟩) hS.2.2 (by decide) (by decide)
    · replace h := (if_neg c2).symm.trans h
      have h := Option.some.inj h
      subst h
      obtain ⟨sa, hsa⟩ := hE.2.2.2.1 (273, "no such save slot") (by decide +kernel)
      exact vx_throwSW hx hb hlS (own := RX4) (cls := gIOB) (names := gNm) (A := (fIv q 201)) hown (by decide +kernel) (by decide +kernel) (hts (.classLink RX4 124 gIOB) (by decide +kernel)) (hts (.initialized gIOB) (by decide +kernel)) hsa (vx_hat (fun w hw => hts w (List.mem_cons_of_mem _ (List.mem_append_left _ (List.mem_append_right _ hw)))) gx_ng_IOB (vx_c (va_Nw.use rfl (hE.2.2.2.2.1 gIOB (by decide +kernel))) (vx_c (va_Nw.use rfl (hE.2.2.2.2.2 _ (List.mem_cons_self))) (vx_c (va_Nw.use rfl (hE.2.2.2.2.2 _ (List.mem_cons_of_mem _ List.mem_cons_self))) (vx_c (va_Nw.use rfl (hE.2.2.2.2.2 _ (List.mem_cons_of_mem _ (List.mem_cons_of_mem _ List.mem_cons_self)))) vx_n))))) gx_ot_IOB (hE.2.1.narrow (fun _ h => Nat.le_trans hlo h.1)) (hE.2.2.1.narrow (fun _ h => Nat.le_trans hlo h.1)) hS (hl.1.trans hml.symm) dX4_restore_9 dX4_restore_12 dX4_restore_13 dX4_restore_16 dX4_restore_19 (fun x9 hx9 => (hnx x9 hx9).elim) (by decide) (by decide) (by decide) (by decide) hlocks (fun t9 hv9 hz9 hk9 => ⟨(), trivial, ⟨rfl, Nat.succ_ne_zero 2, (gx_end hP hS t9 hz9 hk9).1⟩, (gx_end hP hS t9 hz9 hk9).2⟩) hS.2.2 (by decide) (by decide)

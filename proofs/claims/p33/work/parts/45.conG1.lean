set_option maxHeartbeats 4000000 in
set_option maxRecDepth 100000 in
theorem kX4_isStepNumber (l : Launch) (D : va_G) (cI cC cZ cQ cJ : ClassId) (p0 : Int32) {R : Int32} (h : fX4_isStepNumber p0 = some R) : Met l yX4_isStepNumber wsX4_isStepNumber ({ frames := 0, cells := 0, slots := 0, locals := 0 } : Room) (va_Pc [.int p0] (gB D (gTy cI cC cZ cQ cJ) (fun _ => True))) (vp_Si (fun r => r = R)) 0 0 (fun _ => False) := by
  refine Met.ofW (cc := cX4_isStepNumber) (maxL := 1) (ret := (some .boolean)) (by decide) rfl ?_
  intro p e s m args below meth c s₁ B hml hv
  obtain ⟨rfl, hP, hK⟩ := hv
  have hx := B.exec
  have hb := B.bytes
  have hr := B.returns
  have hts := atoms_spec (ws := wsX4_isStepNumber) B.pre
  have hown : s.vm.findClass RX4 = some m.cls := findClass_of_methodNamed B.named
  have hlocks := B.notSynchronized
  generalize hRM : (headSpec wsX4_isStepNumber ({ frames := 0, cells := 0, slots := 0, locals := 0 } : Room)).room = RM
  replace hRM : ({ frames := 0, cells := 0, slots := 0, locals := 0 } : Room) = RM := hRM
  subst hRM
  have hl := lv_entry ([.int p0]) (n := 1) (Nat.le_of_ble_eq_true rfl)
  rw [lg_entry_eq]
  generalize (lg_sl ([.int p0]) ++ List.replicate (1 - (lg_sl ([.int p0])).length) Slot.unset).toArray = ls at hl ⊢
  have hl : lv_has ls 1 [(0, .int p0)] := hl
  unfold fX4_isStepNumber at h
  refine lv_iload_n hx hb dX4_isStepNumber_0 rfl (lv_at hl 0 rfl) ?_
  refine lv_iconst (v := 1) hx hb dX4_isStepNumber_1 (by decide) ?_
  refine lv_icmp_lt (tgt := 15) hx hb dX4_isStepNumber_2 (by decide) (fun c1 => ?_) (fun c1 => ?_)
  · replace h := (if_pos c1).symm.trans h
    refine lv_iconst (v := 0) hx hb dX4_isStepNumber_15 (by decide) ?_
    have h := Option.some.inj h
    exact W.zret (v := 0) hx hb hr rfl (fun t ht hW => ⟨_, rfl, h, ht⟩) t_nil dX4_isStepNumber_16
  · replace h := (if_neg c1).symm.trans h
    refine lv_iload_n hx hb dX4_isStepNumber_5 rfl (lv_at hl 0 rfl) ?_
    refine lv_bipush (v := 99) hx hb dX4_isStepNumber_6 (by decide) ?_
    refine lv_icmp_gt (tgt := 15) hx hb dX4_isStepNumber_8 (by decide) (fun c2 => ?_) (fun c2 => ?_)
    · replace h := (if_pos c2).symm.trans h
      refine lv_iconst (v := 0) hx hb dX4_isStepNumber_15 (by decide) ?_
      have h := Option.some.inj h
      exact W.zret (v := 0) hx hb hr rfl (fun t ht hW => ⟨_, rfl, h, ht⟩) t_nil dX4_isStepNumber_16
    · replace h := (if_neg c2).symm.trans h
      refine lv_iconst (v := 1) hx hb dX4_isStepNumber_11 (by decide) ?_
      refine lv_goto (tgt := 16) hx hb dX4_isStepNumber_12 (by decide) ?_
      have h := Option.some.inj h
      exact W.zret (v := 1) hx hb hr rfl (fun t ht hW => ⟨_, rfl, h, ht⟩) t_nil dX4_isStepNumber_16
set_option maxHeartbeats 4000000 in
set_option maxRecDepth 100000 in
theorem kX4_isGripNumber (l : Launch) (D : va_G) (cI cC cZ cQ cJ : ClassId) (p0 : Int32) {R : Int32} (h : fX4_isGripNumber p0 = some R) : Met l yX4_isGripNumber wsX4_isGripNumber ({ frames := 0, cells := 0, slots := 0, locals := 0 } : Room) (va_Pc [.int p0] (gB D (gTy cI cC cZ cQ cJ) (fun _ => True))) (vp_Si (fun r => r = R)) 0 0 (fun _ => False) := by
  refine Met.ofW (cc := cX4_isGripNumber) (maxL := 1) (ret := (some .boolean)) (by decide) rfl ?_
  intro p e s m args below meth c s₁ B hml hv
  obtain ⟨rfl, hP, hK⟩ := hv
  have hx := B.exec
  have hb := B.bytes
  have hr := B.returns
  have hts := atoms_spec (ws := wsX4_isGripNumber) B.pre
  have hown : s.vm.findClass RX4 = some m.cls := findClass_of_methodNamed B.named
  have hlocks := B.notSynchronized
  generalize hRM : (headSpec wsX4_isGripNumber ({ frames := 0, cells := 0, slots := 0, locals := 0 } : Room)).room = RM
  replace hRM : ({ frames := 0, cells := 0, slots := 0, locals := 0 } : Room) = RM := hRM
  subst hRM
  have hl := lv_entry ([.int p0]) (n := 1) (Nat.le_of_ble_eq_true rfl)
  rw [lg_entry_eq]
  generalize (lg_sl ([.int p0]) ++ List.replicate (1 - (lg_sl ([.int p0])).length) Slot.unset).toArray = ls at hl ⊢
  have hl : lv_has ls 1 [(0, .int p0)] := hl
  unfold fX4_isGripNumber at h
  refine lv_iload_n hx hb dX4_isGripNumber_0 rfl (lv_at hl 0 rfl) ?_
  refine lv_if_lt (tgt := 14) hx hb dX4_isGripNumber_1 (by decide) (fun c1 => ?_) (fun c1 => ?_)
  · replace h := (if_pos c1).symm.trans h
    refine lv_iconst (v := 0) hx hb dX4_isGripNumber_14 (by decide) ?_
    have h := Option.some.inj h
    exact W.zret (v := 0) hx hb hr rfl (fun t ht hW => ⟨_, rfl, h, ht⟩) t_nil dX4_isGripNumber_15
  · replace h := (if_neg c1).symm.trans h
    refine lv_iload_n hx hb dX4_isGripNumber_4 rfl (lv_at hl 0 rfl) ?_
    refine lv_bipush (v := 7) hx hb dX4_isGripNumber_5 (by decide) ?_
    refine lv_icmp_gt (tgt := 14) hx hb dX4_isGripNumber_7 (by decide) (fun c2 => ?_) (fun c2 => ?_)
    · replace h := (if_pos c2).symm.trans h
      refine lv_iconst (v := 0) hx hb dX4_isGripNumber_14 (by decide) ?_
      have h := Option.some.inj h
      exact W.zret (v := 0) hx hb hr rfl (fun t ht hW => ⟨_, rfl, h, ht⟩) t_nil dX4_isGripNumber_15
    · replace h := (if_neg c2).symm.trans h
      refine lv_iconst (v := 1) hx hb dX4_isGripNumber_10 (by decide) ?_
      refine lv_goto (tgt := 15) hx hb dX4_isGripNumber_11 (by decide) ?_
      have h := Option.some.inj h
      exact W.zret (v := 1) hx hb hr rfl (fun t ht hW => ⟨_, rfl, h, ht⟩) t_nil dX4_isGripNumber_15
set_option maxHeartbeats 4000000 in
set_option maxRecDepth 100000 in
theorem kX4_isLimit (l : Launch) (D : va_G) (cI cC cZ cQ cJ : ClassId) (t lo : Nat) (p0 : Int32) (p1 : Int32) {R : Int32} (h : fX4_isLimit p0 p1 = some R) : Met l yX4_isLimit wsX4_isLimit ({ frames := 0, cells := 0, slots := 0, locals := 0 } : Room) (va_Pc [.int p0, .int p1] (gBs D (gTy cI cC cZ cQ cJ) t lo (fun _ => True))) (vp_Si (fun r => r = R)) 0 0 (fun _ => False) := by
  refine Met.ofW (cc := cX4_isLimit) (maxL := 2) (ret := (some .boolean)) (by decide) rfl ?_
  intro p e s m args below meth c s₁ B hml hv
  obtain ⟨rfl, ⟨hP, hK⟩, hZ⟩ := hv
  have hx := B.exec
  have hb := B.bytes
  have hr := B.returns
  have hts := atoms_spec (ws := wsX4_isLimit) B.pre
  have hown : s.vm.findClass RX4 = some m.cls := findClass_of_methodNamed B.named
  have hlocks := B.notSynchronized
  have hf249 := hts (.fieldLink RX4 249 "GripInspector" "GREATEST_LIMITS" "[I") (by decide +kernel)
  generalize hRM : (headSpec wsX4_isLimit ({ frames := 0, cells := 0, slots := 0, locals := 0 } : Room)).room = RM
  replace hRM : ({ frames := 0, cells := 0, slots := 0, locals := 0 } : Room) = RM := hRM
  subst hRM
  have hl := lv_entry ([.int p0, .int p1]) (n := 2) (Nat.le_of_ble_eq_true rfl)
  rw [lg_entry_eq]
  generalize (lg_sl ([.int p0, .int p1]) ++ List.replicate (2 - (lg_sl ([.int p0, .int p1])).length) Slot.unset).toArray = ls at hl ⊢
  have hl : lv_has ls 2 [(0, .int p0), (1, .int p1)] := hl
  unfold fX4_isLimit at h
  refine lv_iload_n hx hb dX4_isLimit_0 rfl (lv_at hl 0 rfl) ?_
  refine lv_if_lt (tgt := 27) hx hb dX4_isLimit_1 (by decide) (fun c1 => ?_) (fun c1 => ?_)
  · replace h := (if_pos c1).symm.trans h
    refine lv_iconst (v := 0) hx hb dX4_isLimit_27 (by decide) ?_
    have h := Option.some.inj h
    exact W.zret (v := 0) hx hb hr rfl (fun t ht hW => ⟨_, rfl, h, ht⟩) t_nil dX4_isLimit_28
  · replace h := (if_neg c1).symm.trans h
    refine lv_iload_n hx hb dX4_isLimit_4 rfl (lv_at hl 0 rfl) ?_
    refine lv_iconst (v := 5) hx hb dX4_isLimit_5 (by decide) ?_
    refine lv_icmp_ge (tgt := 27) hx hb dX4_isLimit_6 (by decide) (fun c2 => ?_) (fun c2 => ?_)
    · replace h := (if_pos c2).symm.trans h
      refine lv_iconst (v := 0) hx hb dX4_isLimit_27 (by decide) ?_
      have h := Option.some.inj h
      exact W.zret (v := 0) hx hb hr rfl (fun t ht hW => ⟨_, rfl, h, ht⟩) t_nil dX4_isLimit_28
    · replace h := (if_neg c2).symm.trans h
      refine lv_iload_n hx hb dX4_isLimit_9 rfl (lv_at hl 1 rfl) ?_
      refine lv_iconst (v := 1) hx hb dX4_isLimit_10 (by decide) ?_
      refine lv_icmp_lt (tgt := 27) hx hb dX4_isLimit_11 (by decide) (fun c3 => ?_) (fun c3 => ?_)
      · replace h := (if_pos c3).symm.trans h
        refine lv_iconst (v := 0) hx hb dX4_isLimit_27 (by decide) ?_
        have h := Option.some.inj h
        exact W.zret (v := 0) hx hb hr rfl (fun t ht hW => ⟨_, rfl, h, ht⟩) t_nil dX4_isLimit_28
      · replace h := (if_neg c3).symm.trans h
        refine lv_iload_n hx hb dX4_isLimit_14 rfl (lv_at hl 1 rfl) ?_
        refine va_gets hx hb (hZ.1.narrow (fun _ h => h.elim)) (va_S.rf (A := fun _ => False)) hown hf249 (fun _ h9 => h9) dX4_isLimit_15 ?_
        refine lv_iload_n hx hb dX4_isLimit_18 rfl (lv_at hl 0 rfl) ?_
        obtain ⟨hg4, h⟩ := gd_some h
        refine va_ti hx hb (hZ.2.1.narrow (fun _ h => h.elim)) (va_S.rf (A := fun _ => False)) hg4 (v := .int (gGL p0.toNatClampNeg)) rfl dX4_isLimit_19 ?_
        refine lv_icmp_gt (tgt := 27) hx hb dX4_isLimit_20 (by decide) (fun c5 => ?_) (fun c5 => ?_)
        · replace h := (if_pos c5).symm.trans h
          refine lv_iconst (v := 0) hx hb dX4_isLimit_27 (by decide) ?_
          have h := Option.some.inj h
          exact W.zret (v := 0) hx hb hr rfl (fun t ht hW => ⟨_, rfl, h, ht⟩) t_nil dX4_isLimit_28
        · replace h := (if_neg c5).symm.trans h
          refine lv_iconst (v := 1) hx hb dX4_isLimit_23 (by decide) ?_
          refine lv_goto (tgt := 28) hx hb dX4_isLimit_24 (by decide) ?_
          have h := Option.some.inj h
          exact W.zret (v := 1) hx hb hr rfl (fun t ht hW => ⟨_, rfl, h, ht⟩) t_nil dX4_isLimit_28
set_option maxHeartbeats 4000000 in
set_option maxRecDepth 100000 in
theorem kX4_groupPower (l : Launch) (D : va_G) (cI cC cZ cQ cJ : ClassId) (p0 : Int32) {R : Int64} (h : fX4_groupPower p0 = some R) : Met l yX4_groupPower wsX4_groupPower ({ frames := 0, cells := 0, slots := 0, locals := 0 } : Room) (va_Pc [.int p0] (gB D (gTy cI cC cZ cQ cJ) (fun _ => True))) (vp_Sl (fun r => r = R)) 0 0 (fun _ => False) := by
  refine Met.ofW (cc := cX4_groupPower) (maxL := 4) (ret := (some .long)) (by decide) rfl ?_
  intro p e s m args below meth c s₁ B hml hv
  obtain ⟨rfl, hP, hK⟩ := hv
  have hx := B.exec
  have hb := B.bytes
  have hr := B.returns
  have hts := atoms_spec (ws := wsX4_groupPower) B.pre
  have hown : s.vm.findClass RX4 = some m.cls := findClass_of_methodNamed B.named
  have hlocks := B.notSynchronized
  generalize hRM : (headSpec wsX4_groupPower ({ frames := 0, cells := 0, slots := 0, locals := 0 } : Room)).room = RM
  replace hRM : ({ frames := 0, cells := 0, slots := 0, locals := 0 } : Room) = RM := hRM
  subst hRM
  have hl := lv_entry ([.int p0]) (n := 4) (Nat.le_of_ble_eq_true rfl)
  rw [lg_entry_eq]
  generalize (lg_sl ([.int p0]) ++ List.replicate (4 - (lg_sl ([.int p0])).length) Slot.unset).toArray = ls at hl ⊢
  have hl : lv_has ls 4 [(0, .int p0)] := hl
  have LP4 : ∀ (n : Nat) (x0 : Int32) (x1 : Int64) (x3 : Int32) (ls : Array Slot), fX4_groupPower_L4 n x0 x1 x3 = some R → lv_has ls 4 [(0, .int x0), (1, .long x1), (3, .int x3)] → W p l e ({ frames := 0, cells := 0, slots := 0, locals := 0 } : Room) s m ([.int p0] : List Value).toArray below meth c s.heap [] 0 0 (MQ below (vp_Sl (fun r => r = R)) ([.int p0] : List Value).toArray s 0 0 (fun _ => False)) (F0 m 4 ls []) := by
    intro n
    induction n with
    | zero => intro x0 x1 x3 ls h hl; exact no_some h
    | succ n ih =>
      intro x0 x1 x3 ls h hl
      rw [fX4_groupPower_L4] at h
      refine lv_iload_n hx hb dX4_groupPower_4 rfl (lv_at hl 2 rfl) ?_
      refine lv_iload_n hx hb dX4_groupPower_5 rfl (lv_at hl 0 rfl) ?_
      refine lv_icmp_ge (tgt := 21) hx hb dX4_groupPower_6 (by decide) (fun c1 => ?_) (fun c1 => ?_)
      · replace h := (if_pos c1).symm.trans h
        refine lv_lload_n hx hb dX4_groupPower_21 rfl (lv_at hl 1 rfl) ?_
        have h := Option.some.inj h
        exact W.lret (v := x1) hx hb hr (fun t ht hW => ⟨_, rfl, h, ht⟩) t_nil dX4_groupPower_22
      · replace h := (if_neg c1).symm.trans h
        refine lv_lload_n hx hb dX4_groupPower_9 rfl (lv_at hl 1 rfl) ?_
        refine lv_ldc2 (v := 100000) hx hb hown (hts (.constantLong RX4 280 (100000)) (by decide +kernel)) dX4_groupPower_10 ?_
        refine lv_lmul hx hb dX4_groupPower_13 ?_
        refine lv_lstore_n (lv' := [(1, .long (x1 * 100000)), (0, .int x0), (3, .int x3)]) hx hb dX4_groupPower_14 rfl hl (by decide) rfl (fun ls hl => ?_)
        refine lv_iinc (v := (x3 + 1)) (lv' := [(3, .int (x3 + 1)), (1, .long (x1 * 100000)), (0, .int x0)]) hx hb dX4_groupPower_15 hl (k := 2) rfl rfl (by decide) rfl (fun ls hl => ?_)
        refine lv_goto (tgt := 4) hx hb dX4_groupPower_18 (by decide) ?_
        exact ih x0 (x1 * 100000) (x3 + 1) ls h (lv_sub hl [2, 1, 0] rfl)
  unfold fX4_groupPower at h
  refine lv_lconst (v := 1) hx hb dX4_groupPower_0 (by decide) ?_
  refine lv_lstore_n (lv' := [(1, .long 1), (0, .int p0)]) hx hb dX4_groupPower_1 rfl hl (by decide) rfl (fun ls hl => ?_)
  refine lv_iconst (v := 0) hx hb dX4_groupPower_2 (by decide) ?_
  refine lv_istore_n (lv' := [(3, .int 0), (1, .long 1), (0, .int p0)]) hx hb dX4_groupPower_3 rfl hl (by decide) rfl (fun ls hl => ?_)
  exact LP4 KF p0 1 0 ls h (lv_sub hl [2, 1, 0] rfl)
set_option maxHeartbeats 4000000 in
set_option maxRecDepth 100000 in
theorem kX4_groupAt (l : Launch) (D : va_G) (cI cC cZ cQ cJ : ClassId) (p0 : Int64) (p1 : Int32) {R : Int32} (h : fX4_groupAt p0 p1 = some R) : Met l yX4_groupAt wsX4_groupAt ({ frames := 0, cells := 0, slots := 0, locals := 0 } : Room) (va_Pc [.long p0, .int p1] (gB D (gTy cI cC cZ cQ cJ) (fun _ => True))) (vp_Si (fun r => r = R)) 0 0 (fun _ => False) := by
  refine Met.ofW (cc := cX4_groupAt) (maxL := 6) (ret := (some .int)) (by decide) rfl ?_
  intro p e s m args below meth c s₁ B hml hv
  obtain ⟨rfl, hP, hK⟩ := hv
  have hx := B.exec
  have hb := B.bytes
  have hr := B.returns
  have hts := atoms_spec (ws := wsX4_groupAt) B.pre
  have hown : s.vm.findClass RX4 = some m.cls := findClass_of_methodNamed B.named
  have hlocks := B.notSynchronized
  generalize hRM : (headSpec wsX4_groupAt ({ frames := 0, cells := 0, slots := 0, locals := 0 } : Room)).room = RM
  replace hRM : ({ frames := 0, cells := 0, slots := 0, locals := 0 } : Room) = RM := hRM
  subst hRM
  have hl := lv_entry ([.long p0, .int p1]) (n := 6) (Nat.le_of_ble_eq_true rfl)
  rw [lg_entry_eq]
  generalize (lg_sl ([.long p0, .int p1]) ++ List.replicate (6 - (lg_sl ([.long p0, .int p1])).length) Slot.unset).toArray = ls at hl ⊢
  have hl : lv_has ls 6 [(0, .long p0), (2, .int p1)] := hl
  have LP5 : ∀ (n : Nat) (x2 : Int32) (x3 : Int64) (x5 : Int32) (ls : Array Slot), fX4_groupAt_L5 n x2 x3 x5 = some R → lv_has ls 6 [(2, .int x2), (3, .long x3), (5, .int x5)] → W p l e ({ frames := 0, cells := 0, slots := 0, locals := 0 } : Room) s m ([.long p0, .int p1] : List Value).toArray below meth c s.heap [] 0 0 (MQ below (vp_Si (fun r => r = R)) ([.long p0, .int p1] : List Value).toArray s 0 0 (fun _ => False)) (F0 m 5 ls []) := by
    intro n
    induction n with
    | zero => intro x2 x3 x5 ls h hl; exact no_some h
    | succ n ih =>
      intro x2 x3 x5 ls h hl
      rw [fX4_groupAt_L5] at h
      refine lv_iload hx hb dX4_groupAt_5 (lv_at hl 2 rfl) ?_
      refine lv_iload_n hx hb dX4_groupAt_7 rfl (lv_at hl 0 rfl) ?_
      refine lv_icmp_ge (tgt := 23) hx hb dX4_groupAt_8 (by decide) (fun c1 => ?_) (fun c1 => ?_)
      · replace h := (if_pos c1).symm.trans h
        refine lv_lload_n hx hb dX4_groupAt_23 rfl (lv_at hl 1 rfl) ?_
        refine lv_ldc2 (v := 100000) hx hb hown (hts (.constantLong RX4 280 (100000)) (by decide +kernel)) dX4_groupAt_24 ?_
        refine lv_lrem hx hb dX4_groupAt_27 (by decide) ?_
        refine lv_l2i hx hb dX4_groupAt_28 rfl ?_
        have h := Option.some.inj h
        exact W.iret (v := (((x3 - x3 / 100000 * 100000)).toInt32)) hx hb hr (fun t ht hW => ⟨_, rfl, h, ht⟩) t_nil dX4_groupAt_29
      · replace h := (if_neg c1).symm.trans h
        refine lv_lload_n hx hb dX4_groupAt_11 rfl (lv_at hl 1 rfl) ?_
        refine lv_ldc2 (v := 100000) hx hb hown (hts (.constantLong RX4 280 (100000)) (by decide +kernel)) dX4_groupAt_12 ?_
        refine lv_ldiv hx hb dX4_groupAt_15 (by decide) ?_
        refine lv_lstore_n (lv' := [(3, .long (x3 / 100000)), (2, .int x2), (5, .int x5)]) hx hb dX4_groupAt_16 rfl hl (by decide) rfl (fun ls hl => ?_)
        refine lv_iinc (v := (x5 + 1)) (lv' := [(5, .int (x5 + 1)), (3, .long (x3 / 100000)), (2, .int x2)]) hx hb dX4_groupAt_17 hl (k := 2) rfl rfl (by decide) rfl (fun ls hl => ?_)
        refine lv_goto (tgt := 5) hx hb dX4_groupAt_20 (by decide) ?_
        exact ih x2 (x3 / 100000) (x5 + 1) ls h (lv_sub hl [2, 1, 0] rfl)
  unfold fX4_groupAt at h
  refine lv_lload_n hx hb dX4_groupAt_0 rfl (lv_at hl 0 rfl) ?_
  refine lv_lstore_n (lv' := [(3, .long p0), (0, .long p0), (2, .int p1)]) hx hb dX4_groupAt_1 rfl hl (by decide) rfl (fun ls hl => ?_)
  refine lv_iconst (v := 0) hx hb dX4_groupAt_2 (by decide) ?_
  refine lv_istore (lv' := [(5, .int 0), (3, .long p0), (0, .long p0), (2, .int p1)]) hx hb dX4_groupAt_3 hl (by decide) rfl (fun ls hl => ?_)
  exact LP5 KF p1 p0 0 ls h (lv_sub hl [3, 1, 0] rfl)
set_option maxHeartbeats 4000000 in
set_option maxRecDepth 100000 in
theorem kX4_remember (l : Launch) (D : va_G) (cI cC cZ cQ cJ : ClassId) (q : Nat) (G : GSt) {R : GSt} (h : fX4_remember G = some R) : Met l yX4_remember wsX4_remember ({ frames := 3, cells := 0, slots := 0, locals := 84 } : Room) (va_Pc [.ref q] (gB D (gTy cI cC cZ cQ cJ) (va_P D vwCl (GW cI cC cZ cQ q G)))) (va_Qv (fun _ : Unit => True) (fun _ t => va_P D vwCl (GW cI cC cZ cQ q R) t.heap) (fIv q 201)) 0 0 (fIv q 201) := by
  refine Met.ofW (cc := cX4_remember) (maxL := 1) (ret := none) (by decide) rfl ?_
  intro p e s m args below meth c s₁ B hml hv
  obtain ⟨rfl, hP, hK⟩ := hv
  have hx := B.exec
  have hb := B.bytes
  have hr := B.returns
  have hts := atoms_spec (ws := wsX4_remember) B.pre
  have hown : s.vm.findClass RX4 = some m.cls := findClass_of_methodNamed B.named
  have hlocks := B.notSynchronized
  have hinX4 : ∀ w ∈ wsX40, w ∈ wsX4_remember := by decide +kernel
  have hf38 := hts (.fieldLink RX4 38 "GripInspector" "history" "LGripInspector$Memory;") (by decide +kernel)
  have hf53 := hts (.fieldLink RX4 53 "GripInspector" "nextRemembered" "I") (by decide +kernel)
  have hf10 := hts (.fieldLink RX4 10 "GripInspector" "lift" "LGripInspector$Lift;") (by decide +kernel)
  have hf49 := hts (.fieldLink RX4 49 "GripInspector" "remembered" "I") (by decide +kernel)
  generalize hRM : (headSpec wsX4_remember ({ frames := 3, cells := 0, slots := 0, locals := 84 } : Room)).room = RM
  replace hRM : ({ frames := 3, cells := 0, slots := 0, locals := 84 } : Room) = RM := hRM
  subst hRM
  have hl := lv_entry ([.ref q]) (n := 1) (Nat.le_of_ble_eq_true rfl)
  rw [lg_entry_eq]
  generalize (lg_sl ([.ref q]) ++ List.replicate (1 - (lg_sl ([.ref q])).length) Slot.unset).toArray = ls at hl ⊢
  have hl : lv_has ls 1 [(0, .ref q)] := hl
  have hS : va_S (fIv q 201) s.heap s.heap [] := va_S.rf
  unfold fX4_remember at h
  obtain ⟨H, hH⟩ : ∃ H, H = s.heap := ⟨_, rfl⟩
  obtain ⟨locs, hlz⟩ : ∃ z : List Loc, z = [] := ⟨_, rfl⟩
  have hP : va_P D vwCl (GW cI cC cZ cQ q G) H := by rw [hH]; exact hP
  have hS : va_S (fIv q 201) s.heap H locs := by rw [hH, hlz]; exact hS
  refine gc_at hH hlz ?_
  refine lv_aload_n hx hb dX4_remember_0 rfl (lv_at hl 0 rfl) ?_
  refine va_get (D := D) (ci := 4) (v := .ref (q + 36)) (C := RX4) (T := TX4) (N := 9) hx hb hts hinX4 hown hK hP 0 rfl rfl 4 (by decide) hf38 (fun _ h9 => h9) rfl dX4_remember_1 ?_
  refine lv_aload_n hx hb dX4_remember_4 rfl (lv_at hl 0 rfl) ?_
  refine va_get (D := D) (ci := 4) (v := .int (gNxt G)) (C := RX4) (T := TX4) (N := 9) hx hb hts hinX4 hown hK hP 0 rfl rfl 8 (by decide) hf53 (fun _ h9 => h9) rfl dX4_remember_5 ?_
  refine lv_aload_n hx hb dX4_remember_8 rfl (lv_at hl 0 rfl) ?_
  refine va_get (D := D) (ci := 4) (v := .ref (q + 1)) (C := RX4) (T := TX4) (N := 9) hx hb hts hinX4 hown hK hP 0 rfl rfl 0 (by decide) hf10 (fun _ h9 => h9) rfl dX4_remember_9 ?_
  obtain ⟨hg1, h⟩ := gd_some h
  refine gc_wv (As := [.int (gNxt G), .ref (q + 1)]) (rest := []) (B := (mkB D cI cQ (q + 36) 14 (q + 1) (gHis G) (gLift G))) (B' := (mkB D cI cQ (q + 36) 14 (q + 1) (va_up (gHis G) (((gNxt G)).toNatClampNeg) (lCopy ((gHis G) (((gNxt G)).toNatClampNeg)) (gLift G))) (gLift G))) ⟨hx, hb, hml, hown, hts⟩ hK (kX2_keep l D cI cC cZ cQ cJ (q + 36) 14 (q + 1) (gHis G) (gLift G) (gNxt G) (by decide) hg1 (by omega)) (cwV 2 hts gX4_remember_X2_keep rfl rfl rfl (by decide +kernel) ⟨Nat.le_of_ble_eq_true rfl, Nat.le_of_ble_eq_true rfl⟩) (va_recv hK (GW_his (G := G) hP) (ci := 2) (q0 := 0) rfl rfl) ⟨(GW_his (G := G) hP), (GW_lift (G := G) hP)⟩ hS GW_inHisLift rfl hl.1 rfl (Nat.le_of_ble_eq_true rfl) ⟨Nat.zero_le _, Nat.zero_le _⟩ dX4_remember_12 (fun H1 locs hB1 hS _ hk1 => ?_)
  have hP : va_P D vwCl (GW cI cC cZ cQ q ((gLift G), (gTrial G), (gTxt G), (gSum G), (va_up (gHis G) (((gNxt G)).toNatClampNeg) (lCopy ((gHis G) (((gNxt G)).toNatClampNeg)) (gLift G))), (gSav G), (gSvd G), (gRem G), (gNxt G))) H1 := GW_putHisLift (G := G) hP hB1.1 hB1.2 (fun a hl n1 n2 => hk1 a hl (fun z => z.elim n1 n2))
  generalize H1 = H at hP hS ⊢
  refine lv_aload_n hx hb dX4_remember_15 rfl (lv_at hl 0 rfl) ?_
  refine lv_aload_n hx hb dX4_remember_16 rfl (lv_at hl 0 rfl) ?_
  refine va_get (D := D) (ci := 4) (v := .int (gNxt G)) (C := RX4) (T := TX4) (N := 9) hx hb hts hinX4 hown hK hP 0 rfl rfl 8 (by decide) hf53 (fun _ h9 => h9) rfl dX4_remember_17 ?_
  refine lv_iconst (v := 1) hx hb dX4_remember_20 (by decide) ?_
  refine lv_iadd hx hb dX4_remember_21 ?_
  refine lv_bipush (v := 14) hx hb dX4_remember_22 (by decide) ?_
  refine lv_icmp_ge (tgt := 36) hx hb dX4_remember_24 (by decide) (fun c2 => ?_) (fun c2 => ?_)
  · replace h := (if_pos c2).symm.trans h
    refine lv_iconst (v := 0) hx hb dX4_remember_36 (by decide) ?_
    refine va_put (D := D) (ci := 4) (v := .int 0) (ty := .int) (C := RX4) (T := TX4) (N := 9) hx hb hts hinX4 tyX4 tyX4_ok nmX4 hown hK hP GW_selfI hS 0 rfl rfl 8 (by decide) hf53 (fun _ h9 => h9) rfl (by decide +kernel) rfl rfl (Nat.le_of_ble_eq_true rfl) dX4_remember_37 (fun H locs hP _ hS => ?_)
    have hP : va_P D vwCl (GW cI cC cZ cQ q ((gLift G), (gTrial G), (gTxt G), (gSum G), (va_up (gHis G) (((gNxt G)).toNatClampNeg) (lCopy ((gHis G) (((gNxt G)).toNatClampNeg)) (gLift G))), (gSav G), (gSvd G), (gRem G), 0)) H := hP
    refine lv_aload_n hx hb dX4_remember_40 rfl (lv_at hl 0 rfl) ?_
    refine va_get (D := D) (ci := 4) (v := .int (gRem G)) (C := RX4) (T := TX4) (N := 9) hx hb hts hinX4 hown hK hP 0 rfl rfl 7 (by decide) hf49 (fun _ h9 => h9) rfl dX4_remember_41 ?_
    refine lv_bipush (v := 14) hx hb dX4_remember_44 (by decide) ?_
    refine lv_icmp_ge (tgt := 59) hx hb dX4_remember_46 (by decide) (fun c3 => ?_) (fun c3 => ?_)
    · replace h := (if_pos c3).symm.trans h
      have h := Option.some.inj h
      subst h
      exact W.vret hx hb hr (fun t ht hW => ⟨⟨(), rfl, trivial, gh ht hP⟩, hS.F ht⟩) hS.2.2 dX4_remember_59
    · replace h := (if_neg c3).symm.trans h
      refine lv_aload_n hx hb dX4_remember_49 rfl (lv_at hl 0 rfl) ?_
      refine lv_dup hx hb dX4_remember_50 rfl ?_
      refine va_get (D := D) (ci := 4) (v := .int (gRem G)) (C := RX4) (T := TX4) (N := 9) hx hb hts hinX4 hown hK hP 0 rfl rfl 7 (by decide) hf49 (fun _ h9 => h9) rfl dX4_remember_51 ?_
      refine lv_iconst (v := 1) hx hb dX4_remember_54 (by decide) ?_
      refine lv_iadd hx hb dX4_remember_55 ?_
      refine va_put (D := D) (ci := 4) (v := .int ((gRem G) + 1)) (ty := .int) (C := RX4) (T := TX4) (N := 9) hx hb hts hinX4 tyX4 tyX4_ok nmX4 hown hK hP GW_selfI hS 0 rfl rfl 7 (by decide) hf49 (fun _ h9 => h9) rfl (by decide +kernel) rfl rfl (Nat.le_of_ble_eq_true rfl) dX4_remember_56 (fun H locs hP _ hS => ?_)
      have hP : va_P D vwCl (GW cI cC cZ cQ q ((gLift G), (gTrial G), (gTxt G), (gSum G), (va_up (gHis G) (((gNxt G)).toNatClampNeg) (lCopy ((gHis G) (((gNxt G)).toNatClampNeg)) (gLift G))), (gSav G), (gSvd G), ((gRem G) + 1), 0)) H := hP
      have h := Option.some.inj h
      subst h
      exact W.vret hx hb hr (fun t ht hW => ⟨⟨(), rfl, trivial, gh ht hP⟩, hS.F ht⟩) hS.2.2 dX4_remember_59
  · replace h := (if_neg c2).symm.trans h
    refine lv_aload_n hx hb dX4_remember_27 rfl (lv_at hl 0 rfl) ?_
    refine va_get (D := D) (ci := 4) (v := .int (gNxt G)) (C := RX4) (T := TX4) (N := 9) hx hb hts hinX4 hown hK hP 0 rfl rfl 8 (by decide) hf53 (fun _ h9 => h9) rfl dX4_remember_28 ?_
    refine lv_iconst (v := 1) hx hb dX4_remember_31 (by decide) ?_
    refine lv_iadd hx hb dX4_remember_32 ?_
    refine lv_goto (tgt := 37) hx hb dX4_remember_33 (by decide) ?_
    refine va_put (D := D) (ci := 4) (v := .int ((gNxt G) + 1)) (ty := .int) (C := RX4) (T := TX4) (N := 9) hx hb hts hinX4 tyX4 tyX4_ok nmX4 hown hK hP GW_selfI hS 0 rfl rfl 8 (by decide) hf53 (fun _ h9 => h9) rfl (by decide +kernel) rfl rfl (Nat.le_of_ble_eq_true rfl) dX4_remember_37 (fun H locs hP _ hS => ?_)
    have hP : va_P D vwCl (GW cI cC cZ cQ q ((gLift G), (gTrial G), (gTxt G), (gSum G), (va_up (gHis G) (((gNxt G)).toNatClampNeg) (lCopy ((gHis G) (((gNxt G)).toNatClampNeg)) (gLift G))), (gSav G), (gSvd G), (gRem G), ((gNxt G) + 1))) H := hP
    refine lv_aload_n hx hb dX4_remember_40 rfl (lv_at hl 0 rfl) ?_
    refine va_get (D := D) (ci := 4) (v := .int (gRem G)) (C := RX4) (T := TX4) (N := 9) hx hb hts hinX4 hown hK hP 0 rfl rfl 7 (by decide) hf49 (fun _ h9 => h9) rfl dX4_remember_41 ?_
    refine lv_bipush (v := 14) hx hb dX4_remember_44 (by decide) ?_
    refine lv_icmp_ge (tgt := 59) hx hb dX4_remember_46 (by decide) (fun c4 => ?_) (fun c4 => ?_)
    · replace h := (if_pos c4).symm.trans h
      have h := Option.some.inj h
      subst h
      exact W.vret hx hb hr (fun t ht hW => ⟨⟨(), rfl, trivial, gh ht hP⟩, hS.F ht⟩) hS.2.2 dX4_remember_59
    · replace h := (if_neg c4).symm.trans h
      refine lv_aload_n hx hb dX4_remember_49 rfl (lv_at hl 0 rfl) ?_
      refine lv_dup hx hb dX4_remember_50 rfl ?_
      refine va_get (D := D) (ci := 4) (v := .int (gRem G)) (C := RX4) (T := TX4) (N := 9) hx hb hts hinX4 hown hK hP 0 rfl rfl 7 (by decide) hf49 (fun _ h9 => h9) rfl dX4_remember_51 ?_
      refine lv_iconst (v := 1) hx hb dX4_remember_54 (by decide) ?_
      refine lv_iadd hx hb dX4_remember_55 ?_
      refine va_put (D := D) (ci := 4) (v := .int ((gRem G) + 1)) (ty := .int) (C := RX4) (T := TX4) (N := 9) hx hb hts hinX4 tyX4 tyX4_ok nmX4 hown hK hP GW_selfI hS 0 rfl rfl 7 (by decide) hf49 (fun _ h9 => h9) rfl (by decide +kernel) rfl rfl (Nat.le_of_ble_eq_true rfl) dX4_remember_56 (fun H locs hP _ hS => ?_)
      have hP : va_P D vwCl (GW cI cC cZ cQ q ((gLift G), (gTrial G), (gTxt G), (gSum G), (va_up (gHis G) (((gNxt G)).toNatClampNeg) (lCopy ((gHis G) (((gNxt G)).toNatClampNeg)) (gLift G))), (gSav G), (gSvd G), ((gRem G) + 1), ((gNxt G) + 1))) H := hP
      have h := Option.some.inj h
      subst h
      exact W.vret hx hb hr (fun t ht hW => ⟨⟨(), rfl, trivial, gh ht hP⟩, hS.F ht⟩) hS.2.2 dX4_remember_59
set_option maxHeartbeats 4000000 in
set_option maxRecDepth 100000 in
theorem kX4_isSlipFree (l : Launch) (D : va_G) (cI cC cZ cQ cJ : ClassId) (q : Nat) (G : GSt) (p0 : Int32) (p1 : Int32) {R : Int32 × GSt} (h : fX4_isSlipFree G p0 p1 = some R) : Met l yX4_isSlipFree wsX4_isSlipFree ({ frames := 4, cells := 0, slots := 0, locals := 89 } : Room) (va_Pc [.ref q, .int p0, .int p1] (gB D (gTy cI cC cZ cQ cJ) (va_P D vwCl (GW cI cC cZ cQ q G)))) (va_Qi (fun r (_ : Unit) => r = R.1) (fun _ t => va_P D vwCl (GW cI cC cZ cQ q R.2) t.heap) (fIv q 201)) 0 0 (fIv q 201) := by
  refine Met.ofW (cc := cX4_isSlipFree) (maxL := 4) (ret := (some .boolean)) (by decide) rfl ?_
  intro p e s m args below meth c s₁ B hml hv
  obtain ⟨rfl, hP, hK⟩ := hv
  have hx := B.exec
  have hb := B.bytes
  have hr := B.returns
  have hts := atoms_spec (ws := wsX4_isSlipFree) B.pre
  have hown : s.vm.findClass RX4 = some m.cls := findClass_of_methodNamed B.named
  have hlocks := B.notSynchronized
  have hinX4 : ∀ w ∈ wsX40, w ∈ wsX4_isSlipFree := by decide +kernel
  have hinX0 : ∀ w ∈ wsX00, w ∈ wsX4_isSlipFree := by decide +kernel
  have hf16 := hts (.fieldLink RX4 16 "GripInspector" "trial" "LGripInspector$Lift;") (by decide +kernel)
  have hf10 := hts (.fieldLink RX4 10 "GripInspector" "lift" "LGripInspector$Lift;") (by decide +kernel)
  have hf114 := hts (.fieldLink RX4 114 "GripInspector$Lift" "limits" "[I") (by decide +kernel)
  generalize hRM : (headSpec wsX4_isSlipFree ({ frames := 4, cells := 0, slots := 0, locals := 89 } : Room)).room = RM
  replace hRM : ({ frames := 4, cells := 0, slots := 0, locals := 89 } : Room) = RM := hRM
  subst hRM
  have hl := lv_entry ([.ref q, .int p0, .int p1]) (n := 4) (Nat.le_of_ble_eq_true rfl)
  rw [lg_entry_eq]
  generalize (lg_sl ([.ref q, .int p0, .int p1]) ++ List.replicate (4 - (lg_sl ([.ref q, .int p0, .int p1])).length) Slot.unset).toArray = ls at hl ⊢
  have hl : lv_has ls 4 [(0, .ref q), (1, .int p0), (2, .int p1)] := hl
  have hS : va_S (fIv q 201) s.heap s.heap [] := va_S.rf
  have LP23 : ∀ (n : Nat) (S : GSt) (x2 : Int32) (x3 : Int32) (H : Heap) (locs : List Loc) (ls : Array Slot), fX4_isSlipFree_L23 n S x2 x3 = some R → va_P D vwCl (GW cI cC cZ cQ q S) H → va_S (fIv q 201) s.heap H locs → lv_has ls 4 [(0, .ref q), (2, .int x2), (3, .int x3)] → W p l e ({ frames := 4, cells := 0, slots := 0, locals := 89 } : Room) s m ([.ref q, .int p0, .int p1] : List Value).toArray below meth c H locs 0 0 (MQ below (va_Qi (fun r (_ : Unit) => r = R.1) (fun _ t => va_P D vwCl (GW cI cC cZ cQ q R.2) t.heap) (fIv q 201)) ([.ref q, .int p0, .int p1] : List Value).toArray s 0 0 (fIv q 201)) (F0 m 23 ls []) := by
    intro n
    induction n with
    | zero => intro S x2 x3 H locs ls h hP hS hl; exact no_some h
    | succ n ih =>
      intro S x2 x3 H locs ls h hP hS hl
      rw [fX4_isSlipFree_L23] at h
      refine lv_iload_n hx hb dX4_isSlipFree_23 rfl (lv_at hl 2 rfl) ?_
      refine lv_iload_n hx hb dX4_isSlipFree_24 rfl (lv_at hl 1 rfl) ?_
      refine lv_icmp_ge (tgt := 48) hx hb dX4_isSlipFree_25 (by decide) (fun c1 => ?_) (fun c1 => ?_)
      · replace h := (if_pos c1).symm.trans h
        refine lv_iconst (v := 1) hx hb dX4_isSlipFree_48 (by decide) ?_
        have h := Option.some.inj h
        subst h
        exact W.zret (v := 1) hx hb hr rfl (fun t ht hW => ⟨⟨_, (), rfl, rfl, gh ht hP⟩, hS.F ht⟩) hS.2.2 dX4_isSlipFree_49
      · replace h := (if_neg c1).symm.trans h
        refine lv_aload_n hx hb dX4_isSlipFree_28 rfl (lv_at hl 0 rfl) ?_
        refine va_get (D := D) (ci := 4) (v := .ref (q + 11)) (C := RX4) (T := TX4) (N := 9) hx hb hts hinX4 hown hK hP 0 rfl rfl 1 (by decide) hf16 (fun _ h9 => h9) rfl dX4_isSlipFree_29 ?_
        obtain ⟨r32, hr32, h⟩ := bd_some h
        refine gc_wi (As := []) (rest := []) ⟨hx, hb, hml, hown, hts⟩ hK (kX0_advance l D cI cC cZ cQ cJ (q + 11) (gTrial S) hr32) (cwV 0 hts gX4_isSlipFree_X0_advance rfl rfl rfl (by decide +kernel) ⟨Nat.le_of_ble_eq_true rfl, Nat.le_of_ble_eq_true rfl⟩) (va_recv hK (GW_trial (G := S) hP) (ci := 0) (q0 := 0) rfl rfl) (GW_trial (G := S) hP) hS GW_inTrial rfl hl.1 rfl (Nat.le_of_ble_eq_true rfl) ⟨Nat.zero_le _, Nat.zero_le _⟩ dX4_isSlipFree_32 (fun H1 locs hP1 hS _ hk1 => ?_)
        have hP : va_P D vwCl (GW cI cC cZ cQ q ((gLift S), r32.2, (gTxt S), (gSum S), (gHis S), (gSav S), (gSvd S), (gRem S), (gNxt S))) H1 := GW_putTrial (G := S) hP hP1 hk1
        generalize H1 = H at hP hS ⊢
        refine lv_iconst (v := 4) hx hb dX4_isSlipFree_35 (by decide) ?_
        refine lv_iand hx hb dX4_isSlipFree_36 ?_
        refine lv_if_eq (tgt := 42) hx hb dX4_isSlipFree_37 (by decide) (fun c2 => ?_) (fun c2 => ?_)
        · replace h := (if_pos c2).symm.trans h
          refine lv_iinc (v := (x3 + 1)) (lv' := [(3, .int (x3 + 1)), (0, .ref q), (2, .int x2)]) hx hb dX4_isSlipFree_42 hl (k := 2) rfl rfl (by decide) rfl (fun ls hl => ?_)
          refine lv_goto (tgt := 23) hx hb dX4_isSlipFree_45 (by decide) ?_
          exact ih ((gLift S), r32.2, (gTxt S), (gSum S), (gHis S), (gSav S), (gSvd S), (gRem S), (gNxt S)) x2 (x3 + 1) H locs ls h hP hS (lv_sub hl [1, 2, 0] rfl)
        · replace h := (if_neg c2).symm.trans h
          refine lv_iconst (v := 0) hx hb dX4_isSlipFree_40 (by decide) ?_
          have h := Option.some.inj h
          subst h
          exact W.zret (v := 0) hx hb hr rfl (fun t ht hW => ⟨⟨_, (), rfl, rfl, gh ht hP⟩, hS.F ht⟩) hS.2.2 dX4_isSlipFree_41
  unfold fX4_isSlipFree at h
  obtain ⟨H, hH⟩ : ∃ H, H = s.heap := ⟨_, rfl⟩
  obtain ⟨locs, hlz⟩ : ∃ z : List Loc, z = [] := ⟨_, rfl⟩
  have hP : va_P D vwCl (GW cI cC cZ cQ q G) H := by rw [hH]; exact hP
  have hS : va_S (fIv q 201) s.heap H locs := by rw [hH, hlz]; exact hS
  refine gc_at hH hlz ?_
  refine lv_aload_n hx hb dX4_isSlipFree_0 rfl (lv_at hl 0 rfl) ?_
  refine va_get (D := D) (ci := 4) (v := .ref (q + 11)) (C := RX4) (T := TX4) (N := 9) hx hb hts hinX4 hown hK hP 0 rfl rfl 1 (by decide) hf16 (fun _ h9 => h9) rfl dX4_isSlipFree_1 ?_
  refine lv_aload_n hx hb dX4_isSlipFree_4 rfl (lv_at hl 0 rfl) ?_
  refine va_get (D := D) (ci := 4) (v := .ref (q + 1)) (C := RX4) (T := TX4) (N := 9) hx hb hts hinX4 hown hK hP 0 rfl rfl 0 (by decide) hf10 (fun _ h9 => h9) rfl dX4_isSlipFree_5 ?_
  refine gc_wv (As := [.ref (q + 1)]) (rest := []) (B := va_P D vwCl (LLW cI (q + 11) (q + 1) ((gTrial G), (gLift G)))) (B' := va_P D vwCl (LLW cI (q + 11) (q + 1) (lCopy (gTrial G) (gLift G), (gLift G)))) ⟨hx, hb, hml, hown, hts⟩ hK (kX0_become l D cI cC cZ cQ cJ (q + 11) (q + 1) ((gTrial G), (gLift G)) (by omega) (become_copy (gTrial G) (gLift G))) (cwV 1 hts gX4_isSlipFree_X0_become rfl rfl rfl (by decide +kernel) ⟨Nat.le_of_ble_eq_true rfl, Nat.le_of_ble_eq_true rfl⟩) (va_recv hK (GW_trial (G := G) hP) (ci := 0) (q0 := 0) rfl rfl) (va_P.app (GW_trial (G := G) hP) (GW_lift (G := G) hP)) hS GW_inTL rfl hl.1 rfl (Nat.le_of_ble_eq_true rfl) ⟨Nat.zero_le _, Nat.zero_le _⟩ dX4_isSlipFree_8 (fun H1 locs hB1 hS _ hk1 => ?_)
  have hP : va_P D vwCl (GW cI cC cZ cQ q ((gLift G), (lCopy (gTrial G) (gLift G)), (gTxt G), (gSum G), (gHis G), (gSav G), (gSvd G), (gRem G), (gNxt G))) H1 := GW_putTL (G := G) hP (gL hB1) (gR hB1) (fun a hl n1 n2 => hk1 a hl (fun z => z.elim n1 n2))
  generalize H1 = H at hP hS ⊢
  refine lv_aload_n hx hb dX4_isSlipFree_11 rfl (lv_at hl 0 rfl) ?_
  refine va_get (D := D) (ci := 4) (v := .ref (q + 11)) (C := RX4) (T := TX4) (N := 9) hx hb hts hinX4 hown hK hP 0 rfl rfl 1 (by decide) hf16 (fun _ h9 => h9) rfl dX4_isSlipFree_12 ?_
  refine va_get (D := D) (ci := 0) (v := .ref (q + 20)) (C := RX0) (T := TX0) (N := 13) hx hb hts hinX0 hown hK hP 11 rfl rfl 8 (by decide) hf114 (fun _ h9 => h9) rfl dX4_isSlipFree_15 ?_
  refine lv_iconst (v := 0) hx hb dX4_isSlipFree_18 (by decide) ?_
  refine lv_iload_n hx hb dX4_isSlipFree_19 rfl (lv_at hl 1 rfl) ?_
  refine g_iast (f := (lLi (lCopy (gTrial G) (gLift G)))) (k := 0) hx hb hK hP GW_selfI hS 20 0 rfl rfl (vin_lit rfl) rfl dX4_isSlipFree_20 (fun H locs hP hS => ?_)
  have hP : va_P D vwCl (GW cI cC cZ cQ q ((gLift G), ((lWe (lCopy (gTrial G) (gLift G))), (lCy (lCopy (gTrial G) (gLift G))), (lWr (lCopy (gTrial G) (gLift G))), (lPu (lCopy (gTrial G) (gLift G))), (lSl (lCopy (gTrial G) (gLift G))), (lPl (lCopy (gTrial G) (gLift G))), (lSp (lCopy (gTrial G) (gLift G))), (lSt (lCopy (gTrial G) (gLift G))), (upd (lLi (lCopy (gTrial G) (gLift G))) 0 p0), (lN_ (lCopy (gTrial G) (gLift G))), (lStn (lCopy (gTrial G) (gLift G))), (lClk (lCopy (gTrial G) (gLift G))), (lRnd (lCopy (gTrial G) (gLift G)))), (gTxt G), (gSum G), (gHis G), (gSav G), (gSvd G), (gRem G), (gNxt G))) H := hP
  refine lv_iconst (v := 0) hx hb dX4_isSlipFree_21 (by decide) ?_
  refine lv_istore_n (lv' := [(3, .int 0), (0, .ref q), (1, .int p0), (2, .int p1)]) hx hb dX4_isSlipFree_22 rfl hl (by decide) rfl (fun ls hl => ?_)
  exact LP23 KF ((gLift G), ((lWe (lCopy (gTrial G) (gLift G))), (lCy (lCopy (gTrial G) (gLift G))), (lWr (lCopy (gTrial G) (gLift G))), (lPu (lCopy (gTrial G) (gLift G))), (lSl (lCopy (gTrial G) (gLift G))), (lPl (lCopy (gTrial G) (gLift G))), (lSp (lCopy (gTrial G) (gLift G))), (lSt (lCopy (gTrial G) (gLift G))), (upd (lLi (lCopy (gTrial G) (gLift G))) 0 p0), (lN_ (lCopy (gTrial G) (gLift G))), (lStn (lCopy (gTrial G) (gLift G))), (lClk (lCopy (gTrial G) (gLift G))), (lRnd (lCopy (gTrial G) (gLift G)))), (gTxt G), (gSum G), (gHis G), (gSav G), (gSvd G), (gRem G), (gNxt G)) p1 0 H locs ls h hP hS (lv_sub hl [1, 3, 0] rfl)
set_option maxHeartbeats 4000000 in
set_option maxRecDepth 100000 in
theorem kX4_triesPutting (l : Launch) (D : va_G) (cI cC cZ cQ cJ : ClassId) (q : Nat) (G : GSt) (p0 : Int32) (p1 : Int32) {R : Int32 × GSt} (h : fX4_triesPutting G p0 p1 = some R) : Met l yX4_triesPutting wsX4_triesPutting ({ frames := 2, cells := 0, slots := 0, locals := 45 } : Room) (va_Pc [.ref q, .int p0, .int p1] (gB D (gTy cI cC cZ cQ cJ) (va_P D vwCl (GW cI cC cZ cQ q G)))) (va_Qi (fun r (_ : Unit) => r = R.1) (fun _ t => va_P D vwCl (GW cI cC cZ cQ q R.2) t.heap) (fIv q 201)) 0 0 (fIv q 201) := by
  refine Met.ofW (cc := cX4_triesPutting) (maxL := 3) (ret := (some .boolean)) (by decide) rfl ?_
  intro p e s m args below meth c s₁ B hml hv
  obtain ⟨rfl, hP, hK⟩ := hv
  have hx := B.exec
  have hb := B.bytes
  have hr := B.returns
  have hts := atoms_spec (ws := wsX4_triesPutting) B.pre
  have hown : s.vm.findClass RX4 = some m.cls := findClass_of_methodNamed B.named
  have hlocks := B.notSynchronized
  have hinX4 : ∀ w ∈ wsX40, w ∈ wsX4_triesPutting := by decide +kernel
  have hf16 := hts (.fieldLink RX4 16 "GripInspector" "trial" "LGripInspector$Lift;") (by decide +kernel)
  generalize hRM : (headSpec wsX4_triesPutting ({ frames := 2, cells := 0, slots := 0, locals := 45 } : Room)).room = RM
  replace hRM : ({ frames := 2, cells := 0, slots := 0, locals := 45 } : Room) = RM := hRM
  subst hRM
  have hl := lv_entry ([.ref q, .int p0, .int p1]) (n := 3) (Nat.le_of_ble_eq_true rfl)
  rw [lg_entry_eq]
  generalize (lg_sl ([.ref q, .int p0, .int p1]) ++ List.replicate (3 - (lg_sl ([.ref q, .int p0, .int p1])).length) Slot.unset).toArray = ls at hl ⊢
  have hl : lv_has ls 3 [(0, .ref q), (1, .int p0), (2, .int p1)] := hl
  have hS : va_S (fIv q 201) s.heap s.heap [] := va_S.rf
  unfold fX4_triesPutting at h
  obtain ⟨H, hH⟩ : ∃ H, H = s.heap := ⟨_, rfl⟩
  obtain ⟨locs, hlz⟩ : ∃ z : List Loc, z = [] := ⟨_, rfl⟩
  have hP : va_P D vwCl (GW cI cC cZ cQ q G) H := by rw [hH]; exact hP
  have hS : va_S (fIv q 201) s.heap H locs := by rw [hH, hlz]; exact hS
  refine gc_at hH hlz ?_
  refine lv_aload_n hx hb dX4_triesPutting_0 rfl (lv_at hl 0 rfl) ?_
  refine va_get (D := D) (ci := 4) (v := .ref (q + 11)) (C := RX4) (T := TX4) (N := 9) hx hb hts hinX4 hown hK hP 0 rfl rfl 1 (by decide) hf16 (fun _ h9 => h9) rfl dX4_triesPutting_1 ?_
  refine lv_iload_n hx hb dX4_triesPutting_4 rfl (lv_at hl 1 rfl) ?_
  obtain ⟨r5, hr5, h⟩ := bd_some h
  refine gc_ri (As := [.int p0]) (rest := []) ⟨hx, hb, hml, hown, hts⟩ hK (kX0_has l D cI cC cZ cQ cJ (q + 11) (gTrial G) p0 hr5) (cwV 1 hts gX4_triesPutting_X0_has rfl rfl rfl (by decide +kernel) ⟨Nat.le_of_ble_eq_true rfl, Nat.le_of_ble_eq_true rfl⟩) (va_recv hK (GW_trial (G := G) hP) (ci := 0) (q0 := 0) rfl rfl) (GW_trial (G := G) hP) rfl hl.1 rfl (Nat.le_of_ble_eq_true rfl) ⟨Nat.zero_le _, Nat.zero_le _⟩ dX4_triesPutting_5 ?_
  refine lv_if_eq (tgt := 45) hx hb dX4_triesPutting_8 (by decide) (fun c1 => ?_) (fun c1 => ?_)
  · replace h := (if_pos c1).symm.trans h
    refine lv_iconst (v := 0) hx hb dX4_triesPutting_45 (by decide) ?_
    have h := Option.some.inj h
    subst h
    exact W.zret (v := 0) hx hb hr rfl (fun t ht hW => ⟨⟨_, (), rfl, rfl, gh ht hP⟩, hS.F ht⟩) hS.2.2 dX4_triesPutting_46
  · replace h := (if_neg c1).symm.trans h
    refine lv_aload_n hx hb dX4_triesPutting_11 rfl (lv_at hl 0 rfl) ?_
    refine va_get (D := D) (ci := 4) (v := .ref (q + 11)) (C := RX4) (T := TX4) (N := 9) hx hb hts hinX4 hown hK hP 0 rfl rfl 1 (by decide) hf16 (fun _ h9 => h9) rfl dX4_triesPutting_12 ?_
    refine lv_iload_n hx hb dX4_triesPutting_15 rfl (lv_at hl 2 rfl) ?_
    obtain ⟨r16, hr16, h⟩ := bd_some h
    refine gc_ri (As := [.int p1]) (rest := []) ⟨hx, hb, hml, hown, hts⟩ hK (kX0_hasSlot l D cI cC cZ cQ cJ (q + 11) (gTrial G) p1 hr16) (cwV 1 hts gX4_triesPutting_X0_hasSlot rfl rfl rfl (by decide +kernel) ⟨Nat.le_of_ble_eq_true rfl, Nat.le_of_ble_eq_true rfl⟩) (va_recv hK (GW_trial (G := G) hP) (ci := 0) (q0 := 0) rfl rfl) (GW_trial (G := G) hP) rfl hl.1 rfl (Nat.le_of_ble_eq_true rfl) ⟨Nat.zero_le _, Nat.zero_le _⟩ dX4_triesPutting_16 ?_
    refine lv_if_eq (tgt := 45) hx hb dX4_triesPutting_19 (by decide) (fun c2 => ?_) (fun c2 => ?_)
    · replace h := (if_pos c2).symm.trans h
      refine lv_iconst (v := 0) hx hb dX4_triesPutting_45 (by decide) ?_
      have h := Option.some.inj h
      subst h
      exact W.zret (v := 0) hx hb hr rfl (fun t ht hW => ⟨⟨_, (), rfl, rfl, gh ht hP⟩, hS.F ht⟩) hS.2.2 dX4_triesPutting_46
    · replace h := (if_neg c2).symm.trans h
      refine lv_aload_n hx hb dX4_triesPutting_22 rfl (lv_at hl 0 rfl) ?_
      refine va_get (D := D) (ci := 4) (v := .ref (q + 11)) (C := RX4) (T := TX4) (N := 9) hx hb hts hinX4 hown hK hP 0 rfl rfl 1 (by decide) hf16 (fun _ h9 => h9) rfl dX4_triesPutting_23 ?_
      refine lv_iload_n hx hb dX4_triesPutting_26 rfl (lv_at hl 1 rfl) ?_
      refine lv_iconst (v := 1) hx hb dX4_triesPutting_27 (by decide) ?_
      obtain ⟨r28, hr28, h⟩ := bd_some h
      refine gc_ri (As := [.int p0, .int 1]) (rest := []) ⟨hx, hb, hml, hown, hts⟩ hK (kX0_isIn l D cI cC cZ cQ cJ (q + 11) (gTrial G) p0 1 hr28) (cwV 2 hts gX4_triesPutting_X0_isIn rfl rfl rfl (by decide +kernel) ⟨Nat.le_of_ble_eq_true rfl, Nat.le_of_ble_eq_true rfl⟩) (va_recv hK (GW_trial (G := G) hP) (ci := 0) (q0 := 0) rfl rfl) (GW_trial (G := G) hP) rfl hl.1 rfl (Nat.le_of_ble_eq_true rfl) ⟨Nat.zero_le _, Nat.zero_le _⟩ dX4_triesPutting_28 ?_
      refine lv_if_eq (tgt := 45) hx hb dX4_triesPutting_31 (by decide) (fun c3 => ?_) (fun c3 => ?_)
      · replace h := (if_pos c3).symm.trans h
        refine lv_iconst (v := 0) hx hb dX4_triesPutting_45 (by decide) ?_
        have h := Option.some.inj h
        subst h
        exact W.zret (v := 0) hx hb hr rfl (fun t ht hW => ⟨⟨_, (), rfl, rfl, gh ht hP⟩, hS.F ht⟩) hS.2.2 dX4_triesPutting_46
      · replace h := (if_neg c3).symm.trans h
        refine lv_aload_n hx hb dX4_triesPutting_34 rfl (lv_at hl 0 rfl) ?_
        refine va_get (D := D) (ci := 4) (v := .ref (q + 11)) (C := RX4) (T := TX4) (N := 9) hx hb hts hinX4 hown hK hP 0 rfl rfl 1 (by decide) hf16 (fun _ h9 => h9) rfl dX4_triesPutting_35 ?_
        refine lv_iload_n hx hb dX4_triesPutting_38 rfl (lv_at hl 2 rfl) ?_
        obtain ⟨r39, hr39, h⟩ := bd_some h
        refine gc_ri (As := [.int p1]) (rest := []) ⟨hx, hb, hml, hown, hts⟩ hK (kX0_isRoomAt l D cI cC cZ cQ cJ (q + 11) (gTrial G) p1 hr39) (cwV 1 hts gX4_triesPutting_X0_isRoomAt rfl rfl rfl (by decide +kernel) ⟨Nat.le_of_ble_eq_true rfl, Nat.le_of_ble_eq_true rfl⟩) (va_recv hK (GW_trial (G := G) hP) (ci := 0) (q0 := 0) rfl rfl) (GW_trial (G := G) hP) rfl hl.1 rfl (Nat.le_of_ble_eq_true rfl) ⟨Nat.zero_le _, Nat.zero_le _⟩ dX4_triesPutting_39 ?_
        refine lv_if_ne (tgt := 47) hx hb dX4_triesPutting_42 (by decide) (fun c4 => ?_) (fun c4 => ?_)
        · replace h := (if_neg c4).symm.trans h
          refine lv_aload_n hx hb dX4_triesPutting_47 rfl (lv_at hl 0 rfl) ?_
          refine va_get (D := D) (ci := 4) (v := .ref (q + 11)) (C := RX4) (T := TX4) (N := 9) hx hb hts hinX4 hown hK hP 0 rfl rfl 1 (by decide) hf16 (fun _ h9 => h9) rfl dX4_triesPutting_48 ?_
          refine lv_iload_n hx hb dX4_triesPutting_51 rfl (lv_at hl 1 rfl) ?_
          refine lv_iload_n hx hb dX4_triesPutting_52 rfl (lv_at hl 2 rfl) ?_
          obtain ⟨r53, hr53, h⟩ := bd_some h
          refine gc_wv (As := [.int p0, .int p1]) (rest := []) ⟨hx, hb, hml, hown, hts⟩ hK (kX0_hang l D cI cC cZ cQ cJ (q + 11) (gTrial G) p0 p1 hr53) (cwV 2 hts gX4_triesPutting_X0_hang rfl rfl rfl (by decide +kernel) ⟨Nat.le_of_ble_eq_true rfl, Nat.le_of_ble_eq_true rfl⟩) (va_recv hK (GW_trial (G := G) hP) (ci := 0) (q0 := 0) rfl rfl) (GW_trial (G := G) hP) hS GW_inTrial rfl hl.1 rfl (Nat.le_of_ble_eq_true rfl) ⟨Nat.zero_le _, Nat.zero_le _⟩ dX4_triesPutting_53 (fun H1 locs hP1 hS _ hk1 => ?_)
          have hP : va_P D vwCl (GW cI cC cZ cQ q ((gLift G), r53, (gTxt G), (gSum G), (gHis G), (gSav G), (gSvd G), (gRem G), (gNxt G))) H1 := GW_putTrial (G := G) hP hP1 hk1
          generalize H1 = H at hP hS ⊢
          refine lv_iconst (v := 1) hx hb dX4_triesPutting_56 (by decide) ?_
          have h := Option.some.inj h
          subst h
          exact W.zret (v := 1) hx hb hr rfl (fun t ht hW => ⟨⟨_, (), rfl, rfl, gh ht hP⟩, hS.F ht⟩) hS.2.2 dX4_triesPutting_57
        · replace h := (if_pos c4).symm.trans h
          refine lv_iconst (v := 0) hx hb dX4_triesPutting_45 (by decide) ?_
          have h := Option.some.inj h
          subst h
          exact W.zret (v := 0) hx hb hr rfl (fun t ht hW => ⟨⟨_, (), rfl, rfl, gh ht hP⟩, hS.F ht⟩) hS.2.2 dX4_triesPutting_46
set_option maxHeartbeats 4000000 in
set_option maxRecDepth 100000 in
theorem kX4_triesTaking (l : Launch) (D : va_G) (cI cC cZ cQ cJ : ClassId) (q : Nat) (G : GSt) (p0 : Int32) {R : Int32 × GSt} (h : fX4_triesTaking G p0 = some R) : Met l yX4_triesTaking wsX4_triesTaking ({ frames := 1, cells := 0, slots := 0, locals := 22 } : Room) (va_Pc [.ref q, .int p0] (gB D (gTy cI cC cZ cQ cJ) (va_P D vwCl (GW cI cC cZ cQ q G)))) (va_Qi (fun r (_ : Unit) => r = R.1) (fun _ t => va_P D vwCl (GW cI cC cZ cQ q R.2) t.heap) (fIv q 201)) 0 0 (fIv q 201) := by
  refine Met.ofW (cc := cX4_triesTaking) (maxL := 2) (ret := (some .boolean)) (by decide) rfl ?_
  intro p e s m args below meth c s₁ B hml hv
  obtain ⟨rfl, hP, hK⟩ := hv
  have hx := B.exec
  have hb := B.bytes
  have hr := B.returns
  have hts := atoms_spec (ws := wsX4_triesTaking) B.pre
  have hown : s.vm.findClass RX4 = some m.cls := findClass_of_methodNamed B.named
  have hlocks := B.notSynchronized
  have hinX4 : ∀ w ∈ wsX40, w ∈ wsX4_triesTaking := by decide +kernel
  have hf16 := hts (.fieldLink RX4 16 "GripInspector" "trial" "LGripInspector$Lift;") (by decide +kernel)
  generalize hRM : (headSpec wsX4_triesTaking ({ frames := 1, cells := 0, slots := 0, locals := 22 } : Room)).room = RM
  replace hRM : ({ frames := 1, cells := 0, slots := 0, locals := 22 } : Room) = RM := hRM
  subst hRM
  have hl := lv_entry ([.ref q, .int p0]) (n := 2) (Nat.le_of_ble_eq_true rfl)
  rw [lg_entry_eq]
  generalize (lg_sl ([.ref q, .int p0]) ++ List.replicate (2 - (lg_sl ([.ref q, .int p0])).length) Slot.unset).toArray = ls at hl ⊢
  have hl : lv_has ls 2 [(0, .ref q), (1, .int p0)] := hl
  have hS : va_S (fIv q 201) s.heap s.heap [] := va_S.rf
  unfold fX4_triesTaking at h
  obtain ⟨H, hH⟩ : ∃ H, H = s.heap := ⟨_, rfl⟩
  obtain ⟨locs, hlz⟩ : ∃ z : List Loc, z = [] := ⟨_, rfl⟩
  have hP : va_P D vwCl (GW cI cC cZ cQ q G) H := by rw [hH]; exact hP
  have hS : va_S (fIv q 201) s.heap H locs := by rw [hH, hlz]; exact hS
  refine gc_at hH hlz ?_
  refine lv_aload_n hx hb dX4_triesTaking_0 rfl (lv_at hl 0 rfl) ?_
  refine va_get (D := D) (ci := 4) (v := .ref (q + 11)) (C := RX4) (T := TX4) (N := 9) hx hb hts hinX4 hown hK hP 0 rfl rfl 1 (by decide) hf16 (fun _ h9 => h9) rfl dX4_triesTaking_1 ?_
  refine lv_iload_n hx hb dX4_triesTaking_4 rfl (lv_at hl 1 rfl) ?_
  obtain ⟨r5, hr5, h⟩ := bd_some h
  refine gc_ri (As := [.int p0]) (rest := []) ⟨hx, hb, hml, hown, hts⟩ hK (kX0_has l D cI cC cZ cQ cJ (q + 11) (gTrial G) p0 hr5) (cwV 1 hts gX4_triesTaking_X0_has rfl rfl rfl (by decide +kernel) ⟨Nat.le_of_ble_eq_true rfl, Nat.le_of_ble_eq_true rfl⟩) (va_recv hK (GW_trial (G := G) hP) (ci := 0) (q0 := 0) rfl rfl) (GW_trial (G := G) hP) rfl hl.1 rfl (Nat.le_of_ble_eq_true rfl) ⟨Nat.zero_le _, Nat.zero_le _⟩ dX4_triesTaking_5 ?_
  refine lv_if_eq (tgt := 23) hx hb dX4_triesTaking_8 (by decide) (fun c1 => ?_) (fun c1 => ?_)
  · replace h := (if_pos c1).symm.trans h
    refine lv_iconst (v := 0) hx hb dX4_triesTaking_23 (by decide) ?_
    have h := Option.some.inj h
    subst h
    exact W.zret (v := 0) hx hb hr rfl (fun t ht hW => ⟨⟨_, (), rfl, rfl, gh ht hP⟩, hS.F ht⟩) hS.2.2 dX4_triesTaking_24
  · replace h := (if_neg c1).symm.trans h
    refine lv_aload_n hx hb dX4_triesTaking_11 rfl (lv_at hl 0 rfl) ?_
    refine va_get (D := D) (ci := 4) (v := .ref (q + 11)) (C := RX4) (T := TX4) (N := 9) hx hb hts hinX4 hown hK hP 0 rfl rfl 1 (by decide) hf16 (fun _ h9 => h9) rfl dX4_triesTaking_12 ?_
    refine lv_iload_n hx hb dX4_triesTaking_15 rfl (lv_at hl 1 rfl) ?_
    refine lv_iconst (v := 0) hx hb dX4_triesTaking_16 (by decide) ?_
    obtain ⟨r17, hr17, h⟩ := bd_some h
    refine gc_ri (As := [.int p0, .int 0]) (rest := []) ⟨hx, hb, hml, hown, hts⟩ hK (kX0_isIn l D cI cC cZ cQ cJ (q + 11) (gTrial G) p0 0 hr17) (cwV 2 hts gX4_triesTaking_X0_isIn rfl rfl rfl (by decide +kernel) ⟨Nat.le_of_ble_eq_true rfl, Nat.le_of_ble_eq_true rfl⟩) (va_recv hK (GW_trial (G := G) hP) (ci := 0) (q0 := 0) rfl rfl) (GW_trial (G := G) hP) rfl hl.1 rfl (Nat.le_of_ble_eq_true rfl) ⟨Nat.zero_le _, Nat.zero_le _⟩ dX4_triesTaking_17 ?_
    refine lv_if_ne (tgt := 25) hx hb dX4_triesTaking_20 (by decide) (fun c2 => ?_) (fun c2 => ?_)
    · replace h := (if_neg c2).symm.trans h
      refine lv_aload_n hx hb dX4_triesTaking_25 rfl (lv_at hl 0 rfl) ?_
      refine va_get (D := D) (ci := 4) (v := .ref (q + 11)) (C := RX4) (T := TX4) (N := 9) hx hb hts hinX4 hown hK hP 0 rfl rfl 1 (by decide) hf16 (fun _ h9 => h9) rfl dX4_triesTaking_26 ?_
      refine lv_iload_n hx hb dX4_triesTaking_29 rfl (lv_at hl 1 rfl) ?_
      refine lv_iconst (v := 1) hx hb dX4_triesTaking_30 (by decide) ?_
      obtain ⟨r31, hr31, h⟩ := bd_some h
      refine gc_wv (As := [.int p0, .int 1]) (rest := []) ⟨hx, hb, hml, hown, hts⟩ hK (kX0_move l D cI cC cZ cQ cJ (q + 11) (gTrial G) p0 1 hr31) (cwV 2 hts gX4_triesTaking_X0_move rfl rfl rfl (by decide +kernel) ⟨Nat.le_of_ble_eq_true rfl, Nat.le_of_ble_eq_true rfl⟩) (va_recv hK (GW_trial (G := G) hP) (ci := 0) (q0 := 0) rfl rfl) (GW_trial (G := G) hP) hS GW_inTrial rfl hl.1 rfl (Nat.le_of_ble_eq_true rfl) ⟨Nat.zero_le _, Nat.zero_le _⟩ dX4_triesTaking_31 (fun H1 locs hP1 hS _ hk1 => ?_)
      have hP : va_P D vwCl (GW cI cC cZ cQ q ((gLift G), r31, (gTxt G), (gSum G), (gHis G), (gSav G), (gSvd G), (gRem G), (gNxt G))) H1 := GW_putTrial (G := G) hP hP1 hk1
      generalize H1 = H at hP hS ⊢
      refine lv_iconst (v := 1) hx hb dX4_triesTaking_34 (by decide) ?_
      have h := Option.some.inj h
      subst h
      exact W.zret (v := 1) hx hb hr rfl (fun t ht hW => ⟨⟨_, (), rfl, rfl, gh ht hP⟩, hS.F ht⟩) hS.2.2 dX4_triesTaking_35
    · replace h := (if_pos c2).symm.trans h
      refine lv_iconst (v := 0) hx hb dX4_triesTaking_23 (by decide) ?_
      have h := Option.some.inj h
      subst h
      exact W.zret (v := 0) hx hb hr rfl (fun t ht hW => ⟨⟨_, (), rfl, rfl, gh ht hP⟩, hS.F ht⟩) hS.2.2 dX4_triesTaking_24
set_option maxHeartbeats 4000000 in
set_option maxRecDepth 100000 in
theorem kX4_triesLimit (l : Launch) (D : va_G) (cI cC cZ cQ cJ : ClassId) (t lo : Nat) (q : Nat) (G : GSt) (p0 : Int32) (p1 : Int32) (hlo : lo ≤ q) {R : Int32 × GSt} (h : fX4_triesLimit G p0 p1 = some R) : Met l yX4_triesLimit wsX4_triesLimit ({ frames := 1, cells := 0, slots := 0, locals := 21 } : Room) (va_Pc [.ref q, .int p0, .int p1] (gBs D (gTy cI cC cZ cQ cJ) t lo (va_P D vwCl (GW cI cC cZ cQ q G)))) (va_Qi (fun r (_ : Unit) => r = R.1) (fun _ t => va_P D vwCl (GW cI cC cZ cQ q R.2) t.heap) (fIv q 201)) 0 0 (fIv q 201) := by
  refine Met.ofW (cc := cX4_triesLimit) (maxL := 3) (ret := (some .boolean)) (by decide) rfl ?_
  intro p e s m args below meth c s₁ B hml hv
  obtain ⟨rfl, ⟨hP, hK⟩, hZ⟩ := hv
  have hx := B.exec
  have hb := B.bytes
  have hr := B.returns
  have hts := atoms_spec (ws := wsX4_triesLimit) B.pre
  have hown : s.vm.findClass RX4 = some m.cls := findClass_of_methodNamed B.named
  have hlocks := B.notSynchronized
  have hinX4 : ∀ w ∈ wsX40, w ∈ wsX4_triesLimit := by decide +kernel
  have hinX0 : ∀ w ∈ wsX00, w ∈ wsX4_triesLimit := by decide +kernel
  have hf16 := hts (.fieldLink RX4 16 "GripInspector" "trial" "LGripInspector$Lift;") (by decide +kernel)
  have hf114 := hts (.fieldLink RX4 114 "GripInspector$Lift" "limits" "[I") (by decide +kernel)
  generalize hRM : (headSpec wsX4_triesLimit ({ frames := 1, cells := 0, slots := 0, locals := 21 } : Room)).room = RM
  replace hRM : ({ frames := 1, cells := 0, slots := 0, locals := 21 } : Room) = RM := hRM
  subst hRM
  have hl := lv_entry ([.ref q, .int p0, .int p1]) (n := 3) (Nat.le_of_ble_eq_true rfl)
  rw [lg_entry_eq]
  generalize (lg_sl ([.ref q, .int p0, .int p1]) ++ List.replicate (3 - (lg_sl ([.ref q, .int p0, .int p1])).length) Slot.unset).toArray = ls at hl ⊢
  have hl : lv_has ls 3 [(0, .ref q), (1, .int p0), (2, .int p1)] := hl
  have hS : va_S (fIv q 201) s.heap s.heap [] := va_S.rf
  unfold fX4_triesLimit at h
  obtain ⟨H, hH⟩ : ∃ H, H = s.heap := ⟨_, rfl⟩
  obtain ⟨locs, hlz⟩ : ∃ z : List Loc, z = [] := ⟨_, rfl⟩
  have hP : va_P D vwCl (GW cI cC cZ cQ q G) H := by rw [hH]; exact hP
  have hS : va_S (fIv q 201) s.heap H locs := by rw [hH, hlz]; exact hS
  refine gc_at hH hlz ?_
  refine lv_iload_n hx hb dX4_triesLimit_0 rfl (lv_at hl 1 rfl) ?_
  refine lv_iload_n hx hb dX4_triesLimit_1 rfl (lv_at hl 2 rfl) ?_
  obtain ⟨r2, hr2, h⟩ := bd_some h
  refine gs_si (As := [.int p0, .int p1]) (rest := []) ⟨hx, hb, hml, hown, hts⟩ (gZ_now hZ hS (fun _ h => Nat.le_trans hlo h.1)) hK (kX4_isLimit l D cI cC cZ cQ cJ t lo p0 p1 hr2) (va_cwS 2 hts gX4_triesLimit_X4_isLimit rfl rfl rfl (by decide +kernel) ⟨Nat.le_of_ble_eq_true rfl, Nat.le_of_ble_eq_true rfl⟩)  trivial rfl hl.1 rfl (Nat.le_of_ble_eq_true rfl) ⟨Nat.zero_le _, Nat.zero_le _⟩ dX4_triesLimit_2 ?_
  refine lv_if_ne (tgt := 10) hx hb dX4_triesLimit_5 (by decide) (fun c1 => ?_) (fun c1 => ?_)
  · replace h := (if_neg c1).symm.trans h
    refine lv_aload_n hx hb dX4_triesLimit_10 rfl (lv_at hl 0 rfl) ?_
    refine va_get (D := D) (ci := 4) (v := .ref (q + 11)) (C := RX4) (T := TX4) (N := 9) hx hb hts hinX4 hown hK hP 0 rfl rfl 1 (by decide) hf16 (fun _ h9 => h9) rfl dX4_triesLimit_11 ?_
    refine va_get (D := D) (ci := 0) (v := .ref (q + 20)) (C := RX0) (T := TX0) (N := 13) hx hb hts hinX0 hown hK hP 11 rfl rfl 8 (by decide) hf114 (fun _ h9 => h9) rfl dX4_triesLimit_14 ?_
    refine lv_iload_n hx hb dX4_triesLimit_17 rfl (lv_at hl 1 rfl) ?_
    refine lv_iload_n hx hb dX4_triesLimit_18 rfl (lv_at hl 2 rfl) ?_
    obtain ⟨hg2, h⟩ := gd_some h
    refine g_iast (f := (lLi (gTrial G))) (k := p0.toNatClampNeg) hx hb hK hP GW_selfI hS 20 0 rfl rfl hg2 rfl dX4_triesLimit_19 (fun H locs hP hS => ?_)
    have hP : va_P D vwCl (GW cI cC cZ cQ q ((gLift G), ((lWe (gTrial G)), (lCy (gTrial G)), (lWr (gTrial G)), (lPu (gTrial G)), (lSl (gTrial G)), (lPl (gTrial G)), (lSp (gTrial G)), (lSt (gTrial G)), (upd (lLi (gTrial G)) p0.toNatClampNeg p1), (lN_ (gTrial G)), (lStn (gTrial G)), (lClk (gTrial G)), (lRnd (gTrial G))), (gTxt G), (gSum G), (gHis G), (gSav G), (gSvd G), (gRem G), (gNxt G))) H := hP
    refine lv_iconst (v := 1) hx hb dX4_triesLimit_20 (by decide) ?_
    have h := Option.some.inj h
    subst h
    exact W.zret (v := 1) hx hb hr rfl (fun t ht hW => ⟨⟨_, (), rfl, rfl, gh ht hP⟩, hS.F ht⟩) hS.2.2 dX4_triesLimit_21
  · replace h := (if_pos c1).symm.trans h
    refine lv_iconst (v := 0) hx hb dX4_triesLimit_8 (by decide) ?_
    have h := Option.some.inj h
    subst h
    exact W.zret (v := 0) hx hb hr rfl (fun t ht hW => ⟨⟨_, (), rfl, rfl, gh ht hP⟩, hS.F ht⟩) hS.2.2 dX4_triesLimit_9
set_option maxHeartbeats 4000000 in
set_option maxRecDepth 100000 in
theorem kX4_obeys (l : Launch) (D : va_G) (cI cC cZ cQ cJ : ClassId) (t lo : Nat) (q : Nat) (G : GSt) (p0 : Int32) (hlo : lo ≤ q) {R : Int32 × GSt} (h : fX4_obeys G p0 = some R) : Met l yX4_obeys wsX4_obeys ({ frames := 5, cells := 0, slots := 0, locals := 111 } : Room) (va_Pc [.ref q, .int p0] (gBs D (gTy cI cC cZ cQ cJ) t lo (va_P D vwCl (GW cI cC cZ cQ q G)))) (va_Qi (fun r (_ : Unit) => r = R.1) (fun _ t => va_P D vwCl (GW cI cC cZ cQ q R.2) t.heap) (fIv q 201)) 0 0 (fIv q 201) := by
  refine Met.ofW (cc := cX4_obeys) (maxL := 4) (ret := (some .boolean)) (by decide) rfl ?_
  intro p e s m args below meth c s₁ B hml hv
  obtain ⟨rfl, ⟨hP, hK⟩, hZ⟩ := hv
  have hx := B.exec
  have hb := B.bytes
  have hr := B.returns
  have hts := atoms_spec (ws := wsX4_obeys) B.pre
  have hown : s.vm.findClass RX4 = some m.cls := findClass_of_methodNamed B.named
  have hlocks := B.notSynchronized
  have hinX4 : ∀ w ∈ wsX40, w ∈ wsX4_obeys := by decide +kernel
  have hinX0 : ∀ w ∈ wsX00, w ∈ wsX4_obeys := by decide +kernel
  have hf16 := hts (.fieldLink RX4 16 "GripInspector" "trial" "LGripInspector$Lift;") (by decide +kernel)
  have hf291 := hts (.fieldLink RX4 291 "GripInspector$Lift" "cycles" "[I") (by decide +kernel)
  have hf195 := hts (.fieldLink RX4 195 "GripInspector$Lift" "spot" "[I") (by decide +kernel)
  generalize hRM : (headSpec wsX4_obeys ({ frames := 5, cells := 0, slots := 0, locals := 111 } : Room)).room = RM
  replace hRM : ({ frames := 5, cells := 0, slots := 0, locals := 111 } : Room) = RM := hRM
  subst hRM
  have hl := lv_entry ([.ref q, .int p0]) (n := 4) (Nat.le_of_ble_eq_true rfl)
  rw [lg_entry_eq]
  generalize (lg_sl ([.ref q, .int p0]) ++ List.replicate (4 - (lg_sl ([.ref q, .int p0])).length) Slot.unset).toArray = ls at hl ⊢
  have hl : lv_has ls 4 [(0, .ref q), (1, .int p0)] := hl
  have hS : va_S (fIv q 201) s.heap s.heap [] := va_S.rf
  unfold fX4_obeys at h
  obtain ⟨H, hH⟩ : ∃ H, H = s.heap := ⟨_, rfl⟩
  obtain ⟨locs, hlz⟩ : ∃ z : List Loc, z = [] := ⟨_, rfl⟩
  have hP : va_P D vwCl (GW cI cC cZ cQ q G) H := by rw [hH]; exact hP
  have hS : va_S (fIv q 201) s.heap H locs := by rw [hH, hlz]; exact hS
  refine gc_at hH hlz ?_
  refine lv_iload_n hx hb dX4_obeys_0 rfl (lv_at hl 1 rfl) ?_
  refine lv_bipush (v := 100) hx hb dX4_obeys_1 (by decide) ?_
  refine lv_idiv hx hb dX4_obeys_3 (by decide) ?_
  refine lv_bipush (v := 100) hx hb dX4_obeys_4 (by decide) ?_
  refine lv_irem hx hb dX4_obeys_6 (by decide) ?_
  refine lv_istore_n (lv' := [(2, .int ((p0 / 100) - (p0 / 100) / 100 * 100)), (0, .ref q), (1, .int p0)]) hx hb dX4_obeys_7 rfl hl (by decide) rfl (fun ls hl => ?_)
  refine lv_iload_n hx hb dX4_obeys_8 rfl (lv_at hl 2 rfl) ?_
  refine lv_bipush (v := 100) hx hb dX4_obeys_9 (by decide) ?_
  refine lv_irem hx hb dX4_obeys_11 (by decide) ?_
  refine lv_istore_n (lv' := [(3, .int (p0 - p0 / 100 * 100)), (2, .int ((p0 / 100) - (p0 / 100) / 100 * 100)), (0, .ref q), (1, .int p0)]) hx hb dX4_obeys_12 rfl hl (by decide) rfl (fun ls hl => ?_)
  refine lv_iload_n hx hb dX4_obeys_13 rfl (lv_at hl 3 rfl) ?_
  refine lv_sipush (v := 10000) hx hb dX4_obeys_14 (by decide) ?_
  refine lv_idiv hx hb dX4_obeys_17 (by decide) ?_
  by_cases c1 : (p0 / 10000) = 1
  · replace h := (if_pos c1).symm.trans h
    refine lv_tableIn (off := 46) (tgt := 64) hx hb dX4_obeys_18 (by rw [c1]; decide) (by rw [c1]; decide) (by rw [c1]; rfl) (by decide) ?_
    refine lv_iload_n hx hb dX4_obeys_64 rfl (lv_at hl 1 rfl) ?_
    refine lv_if_ne (tgt := 75) hx hb dX4_obeys_65 (by decide) (fun c2 => ?_) (fun c2 => ?_)
    · replace h := (if_neg c2).symm.trans h
      refine lv_iconst (v := 0) hx hb dX4_obeys_75 (by decide) ?_
      have h := Option.some.inj h
      subst h
      exact W.zret (v := 0) hx hb hr rfl (fun t ht hW => ⟨⟨_, (), rfl, rfl, gh ht hP⟩, hS.F ht⟩) hS.2.2 dX4_obeys_76
    · replace h := (if_pos c2).symm.trans h
      refine lv_iload_n hx hb dX4_obeys_68 rfl (lv_at hl 0 rfl) ?_
      obtain ⟨r69, hr69, h⟩ := bd_some h
      refine gc_si (As := [.int (p0 - p0 / 100 * 100)]) (rest := []) ⟨hx, hb, hml, hown, hts⟩ hK (kX4_isStepNumber l D cI cC cZ cQ cJ (p0 - p0 / 100 * 100) hr69) (va_cwS 1 hts gX4_obeys_X4_isStepNumber rfl rfl rfl (by decide +kernel) ⟨Nat.le_of_ble_eq_true rfl, Nat.le_of_ble_eq_true rfl⟩)  trivial rfl hl.1 rfl (Nat.le_of_ble_eq_true rfl) ⟨Nat.zero_le _, Nat.zero_le _⟩ dX4_obeys_69 ?_
      refine lv_if_ne (tgt := 77) hx hb dX4_obeys_72 (by decide) (fun c3 => ?_) (fun c3 => ?_)
      · replace h := (if_neg c3).symm.trans h
        refine lv_aload_n hx hb dX4_obeys_77 rfl (lv_at hl 2 rfl) ?_
        refine va_get (D := D) (ci := 4) (v := .ref (q + 11)) (C := RX4) (T := TX4) (N := 9) hx hb hts hinX4 hown hK hP 0 rfl rfl 1 (by decide) hf16 (fun _ h9 => h9) rfl dX4_obeys_78 ?_
        refine lv_iload_n hx hb dX4_obeys_81 rfl (lv_at hl 0 rfl) ?_
        obtain ⟨r82, hr82, h⟩ := bd_some h
        refine gc_wv (As := [.int (p0 - p0 / 100 * 100)]) (rest := []) ⟨hx, hb, hml, hown, hts⟩ hK (kX0_advanceBy l D cI cC cZ cQ cJ (q + 11) (gTrial G) (p0 - p0 / 100 * 100) hr82) (cwV 1 hts gX4_obeys_X0_advanceBy rfl rfl rfl (by decide +kernel) ⟨Nat.le_of_ble_eq_true rfl, Nat.le_of_ble_eq_true rfl⟩) (va_recv hK (GW_trial (G := G) hP) (ci := 0) (q0 := 0) rfl rfl) (GW_trial (G := G) hP) hS GW_inTrial rfl hl.1 rfl (Nat.le_of_ble_eq_true rfl) ⟨Nat.zero_le _, Nat.zero_le _⟩ dX4_obeys_82 (fun H1 locs hP1 hS _ hk1 => ?_)
        have hP : va_P D vwCl (GW cI cC cZ cQ q ((gLift G), r82, (gTxt G), (gSum G), (gHis G), (gSav G), (gSvd G), (gRem G), (gNxt G))) H1 := GW_putTrial (G := G) hP hP1 hk1
        generalize H1 = H at hP hS ⊢
        refine lv_iconst (v := 1) hx hb dX4_obeys_85 (by decide) ?_
        have h := Option.some.inj h
        subst h
        exact W.zret (v := 1) hx hb hr rfl (fun t ht hW => ⟨⟨_, (), rfl, rfl, gh ht hP⟩, hS.F ht⟩) hS.2.2 dX4_obeys_86
      · replace h := (if_pos c3).symm.trans h
        refine lv_iconst (v := 0) hx hb dX4_obeys_75 (by decide) ?_
        have h := Option.some.inj h
        subst h
        exact W.zret (v := 0) hx hb hr rfl (fun t ht hW => ⟨⟨_, (), rfl, rfl, gh ht hP⟩, hS.F ht⟩) hS.2.2 dX4_obeys_76
  · replace h := (if_neg c1).symm.trans h
    by_cases c4 : (p0 / 10000) = 2
    · replace h := (if_pos c4).symm.trans h
      refine lv_tableIn (off := 69) (tgt := 87) hx hb dX4_obeys_18 (by rw [c4]; decide) (by rw [c4]; decide) (by rw [c4]; rfl) (by decide) ?_
      refine lv_aload_n hx hb dX4_obeys_87 rfl (lv_at hl 2 rfl) ?_
      refine lv_iload_n hx hb dX4_obeys_88 rfl (lv_at hl 1 rfl) ?_
      refine lv_iload_n hx hb dX4_obeys_89 rfl (lv_at hl 0 rfl) ?_
      obtain ⟨r90, hr90, h⟩ := bd_some h
      refine gc_wi (As := [.int ((p0 / 100) - (p0 / 100) / 100 * 100), .int (p0 - p0 / 100 * 100)]) (rest := []) ⟨hx, hb, hml, hown, hts⟩ hK (kX4_triesPutting l D cI cC cZ cQ cJ q G ((p0 / 100) - (p0 / 100) / 100 * 100) (p0 - p0 / 100 * 100) hr90) (cwV 2 hts gX4_obeys_X4_triesPutting rfl rfl rfl (by decide +kernel) ⟨Nat.le_of_ble_eq_true rfl, Nat.le_of_ble_eq_true rfl⟩) (va_recv hK hP (ci := 4) (q0 := 0) rfl rfl) hP hS (fun _ h => h) rfl hl.1 rfl (Nat.le_of_ble_eq_true rfl) ⟨Nat.zero_le _, Nat.zero_le _⟩ dX4_obeys_90 (fun H locs hP hS _ _ => ?_)
      obtain ⟨hz5, h⟩ := gz_some h
      have h := Option.some.inj h
      subst h
      exact W.zret (v := r90.1) hx hb hr hz5 (fun t ht hW => ⟨⟨_, (), rfl, rfl, gh ht hP⟩, hS.F ht⟩) hS.2.2 dX4_obeys_93
    · replace h := (if_neg c4).symm.trans h
      by_cases c6 : (p0 / 10000) = 3
      · replace h := (if_pos c6).symm.trans h
        refine lv_tableIn (off := 76) (tgt := 94) hx hb dX4_obeys_18 (by rw [c6]; decide) (by rw [c6]; decide) (by rw [c6]; rfl) (by decide) ?_
        refine lv_iload_n hx hb dX4_obeys_94 rfl (lv_at hl 0 rfl) ?_
        refine lv_if_ne (tgt := 110) hx hb dX4_obeys_95 (by decide) (fun c7 => ?_) (fun c7 => ?_)
        · replace h := (if_neg c7).symm.trans h
          refine lv_iconst (v := 0) hx hb dX4_obeys_110 (by decide) ?_
          have h := Option.some.inj h
          subst h
          exact W.zret (v := 0) hx hb hr rfl (fun t ht hW => ⟨⟨_, (), rfl, rfl, gh ht hP⟩, hS.F ht⟩) hS.2.2 dX4_obeys_111
        · replace h := (if_pos c7).symm.trans h
          refine lv_aload_n hx hb dX4_obeys_98 rfl (lv_at hl 2 rfl) ?_
          refine lv_iload_n hx hb dX4_obeys_99 rfl (lv_at hl 1 rfl) ?_
          obtain ⟨r100, hr100, h⟩ := bd_some h
          refine gc_wi (As := [.int ((p0 / 100) - (p0 / 100) / 100 * 100)]) (rest := []) ⟨hx, hb, hml, hown, hts⟩ hK (kX4_triesTaking l D cI cC cZ cQ cJ q G ((p0 / 100) - (p0 / 100) / 100 * 100) hr100) (cwV 1 hts gX4_obeys_X4_triesTaking rfl rfl rfl (by decide +kernel) ⟨Nat.le_of_ble_eq_true rfl, Nat.le_of_ble_eq_true rfl⟩) (va_recv hK hP (ci := 4) (q0 := 0) rfl rfl) hP hS (fun _ h => h) rfl hl.1 rfl (Nat.le_of_ble_eq_true rfl) ⟨Nat.zero_le _, Nat.zero_le _⟩ dX4_obeys_100 (fun H locs hP hS _ _ => ?_)
          refine lv_if_eq (tgt := 110) hx hb dX4_obeys_103 (by decide) (fun c8 => ?_) (fun c8 => ?_)
          · replace h := (if_pos c8).symm.trans h
            refine lv_iconst (v := 0) hx hb dX4_obeys_110 (by decide) ?_
            have h := Option.some.inj h
            subst h
            exact W.zret (v := 0) hx hb hr rfl (fun t ht hW => ⟨⟨_, (), rfl, rfl, gh ht hP⟩, hS.F ht⟩) hS.2.2 dX4_obeys_111
          · replace h := (if_neg c8).symm.trans h
            refine lv_iconst (v := 1) hx hb dX4_obeys_106 (by decide) ?_
            refine lv_goto (tgt := 111) hx hb dX4_obeys_107 (by decide) ?_
            have h := Option.some.inj h
            subst h
            exact W.zret (v := 1) hx hb hr rfl (fun t ht hW => ⟨⟨_, (), rfl, rfl, gh ht hP⟩, hS.F ht⟩) hS.2.2 dX4_obeys_111
      · replace h := (if_neg c6).symm.trans h
        by_cases c9 : (p0 / 10000) = 4
        · replace h := (if_pos c9).symm.trans h
          refine lv_tableIn (off := 94) (tgt := 112) hx hb dX4_obeys_18 (by rw [c9]; decide) (by rw [c9]; decide) (by rw [c9]; rfl) (by decide) ?_
          refine lv_iload_n hx hb dX4_obeys_112 rfl (lv_at hl 1 rfl) ?_
          refine lv_bipush (v := 10) hx hb dX4_obeys_113 (by decide) ?_
          refine lv_irem hx hb dX4_obeys_115 (by decide) ?_
          refine lv_if_ne (tgt := 135) hx hb dX4_obeys_116 (by decide) (fun c10 => ?_) (fun c10 => ?_)
          · replace h := (if_neg c10).symm.trans h
            refine lv_iconst (v := 0) hx hb dX4_obeys_135 (by decide) ?_
            have h := Option.some.inj h
            subst h
            exact W.zret (v := 0) hx hb hr rfl (fun t ht hW => ⟨⟨_, (), rfl, rfl, gh ht hP⟩, hS.F ht⟩) hS.2.2 dX4_obeys_136
          · replace h := (if_pos c10).symm.trans h
            refine lv_aload_n hx hb dX4_obeys_119 rfl (lv_at hl 2 rfl) ?_
            refine lv_iload_n hx hb dX4_obeys_120 rfl (lv_at hl 1 rfl) ?_
            refine lv_bipush (v := 10) hx hb dX4_obeys_121 (by decide) ?_
            refine lv_idiv hx hb dX4_obeys_123 (by decide) ?_
            refine lv_iload_n hx hb dX4_obeys_124 rfl (lv_at hl 0 rfl) ?_
            obtain ⟨r125, hr125, h⟩ := bd_some h
            refine gs_wi (As := [.int (((p0 / 100) - (p0 / 100) / 100 * 100) / 10), .int (p0 - p0 / 100 * 100)]) (rest := []) ⟨hx, hb, hml, hown, hts⟩ (gZ_now hZ hS (fun _ h => Nat.le_trans hlo h.1)) hK (kX4_triesLimit l D cI cC cZ cQ cJ t lo q G (((p0 / 100) - (p0 / 100) / 100 * 100) / 10) (p0 - p0 / 100 * 100) (Nat.le_trans hlo (by omega)) hr125) (cwV 2 hts gX4_obeys_X4_triesLimit rfl rfl rfl (by decide +kernel) ⟨Nat.le_of_ble_eq_true rfl, Nat.le_of_ble_eq_true rfl⟩) (va_recv hK hP (ci := 4) (q0 := 0) rfl rfl) hP hS (fun _ h => h) rfl hl.1 rfl (Nat.le_of_ble_eq_true rfl) ⟨Nat.zero_le _, Nat.zero_le _⟩ dX4_obeys_125 (fun H locs hP hS _ _ => ?_)
            refine lv_if_eq (tgt := 135) hx hb dX4_obeys_128 (by decide) (fun c11 => ?_) (fun c11 => ?_)
            · replace h := (if_pos c11).symm.trans h
              refine lv_iconst (v := 0) hx hb dX4_obeys_135 (by decide) ?_
              have h := Option.some.inj h
              subst h
              exact W.zret (v := 0) hx hb hr rfl (fun t ht hW => ⟨⟨_, (), rfl, rfl, gh ht hP⟩, hS.F ht⟩) hS.2.2 dX4_obeys_136
            · replace h := (if_neg c11).symm.trans h
              refine lv_iconst (v := 1) hx hb dX4_obeys_131 (by decide) ?_
              refine lv_goto (tgt := 136) hx hb dX4_obeys_132 (by decide) ?_
              have h := Option.some.inj h
              subst h
              exact W.zret (v := 1) hx hb hr rfl (fun t ht hW => ⟨⟨_, (), rfl, rfl, gh ht hP⟩, hS.F ht⟩) hS.2.2 dX4_obeys_136
        · replace h := (if_neg c9).symm.trans h
          by_cases c12 : (p0 / 10000) = 5
          · replace h := (if_pos c12).symm.trans h
            refine lv_tableIn (off := 119) (tgt := 137) hx hb dX4_obeys_18 (by rw [c12]; decide) (by rw [c12]; decide) (by rw [c12]; rfl) (by decide) ?_
            refine lv_aload_n hx hb dX4_obeys_137 rfl (lv_at hl 2 rfl) ?_
            refine va_get (D := D) (ci := 4) (v := .ref (q + 11)) (C := RX4) (T := TX4) (N := 9) hx hb hts hinX4 hown hK hP 0 rfl rfl 1 (by decide) hf16 (fun _ h9 => h9) rfl dX4_obeys_138 ?_
            refine lv_iload_n hx hb dX4_obeys_141 rfl (lv_at hl 1 rfl) ?_
            obtain ⟨r142, hr142, h⟩ := bd_some h
            refine gc_ri (As := [.int ((p0 / 100) - (p0 / 100) / 100 * 100)]) (rest := []) ⟨hx, hb, hml, hown, hts⟩ hK (kX0_has l D cI cC cZ cQ cJ (q + 11) (gTrial G) ((p0 / 100) - (p0 / 100) / 100 * 100) hr142) (cwV 1 hts gX4_obeys_X0_has rfl rfl rfl (by decide +kernel) ⟨Nat.le_of_ble_eq_true rfl, Nat.le_of_ble_eq_true rfl⟩) (va_recv hK (GW_trial (G := G) hP) (ci := 0) (q0 := 0) rfl rfl) (GW_trial (G := G) hP) rfl hl.1 rfl (Nat.le_of_ble_eq_true rfl) ⟨Nat.zero_le _, Nat.zero_le _⟩ dX4_obeys_142 ?_
            refine lv_if_eq (tgt := 165) hx hb dX4_obeys_145 (by decide) (fun c13 => ?_) (fun c13 => ?_)
            · replace h := (if_pos c13).symm.trans h
              refine lv_iconst (v := 0) hx hb dX4_obeys_165 (by decide) ?_
              have h := Option.some.inj h
              subst h
              exact W.zret (v := 0) hx hb hr rfl (fun t ht hW => ⟨⟨_, (), rfl, rfl, gh ht hP⟩, hS.F ht⟩) hS.2.2 dX4_obeys_166
            · replace h := (if_neg c13).symm.trans h
              refine lv_aload_n hx hb dX4_obeys_148 rfl (lv_at hl 2 rfl) ?_
              refine va_get (D := D) (ci := 4) (v := .ref (q + 11)) (C := RX4) (T := TX4) (N := 9) hx hb hts hinX4 hown hK hP 0 rfl rfl 1 (by decide) hf16 (fun _ h9 => h9) rfl dX4_obeys_149 ?_
              refine va_get (D := D) (ci := 0) (v := .ref (q + 13)) (C := RX0) (T := TX0) (N := 13) hx hb hts hinX0 hown hK hP 11 rfl rfl 1 (by decide) hf291 (fun _ h9 => h9) rfl dX4_obeys_152 ?_
              refine lv_iload_n hx hb dX4_obeys_155 rfl (lv_at hl 1 rfl) ?_
              obtain ⟨hg14, h⟩ := gd_some h
              refine g_iald (f := (lCy (gTrial G))) (k := (((p0 / 100) - (p0 / 100) / 100 * 100)).toNatClampNeg) hx hb hK hP 13 0 rfl rfl hg14 rfl dX4_obeys_156 ?_
              refine lv_iload_n hx hb dX4_obeys_157 rfl (lv_at hl 0 rfl) ?_
              refine lv_icmp_ne (tgt := 165) hx hb dX4_obeys_158 (by decide) (fun c15 => ?_) (fun c15 => ?_)
              · replace h := (if_neg c15).symm.trans h
                refine lv_iconst (v := 0) hx hb dX4_obeys_165 (by decide) ?_
                have h := Option.some.inj h
                subst h
                exact W.zret (v := 0) hx hb hr rfl (fun t ht hW => ⟨⟨_, (), rfl, rfl, gh ht hP⟩, hS.F ht⟩) hS.2.2 dX4_obeys_166
              · replace h := (if_pos c15).symm.trans h
                refine lv_iconst (v := 1) hx hb dX4_obeys_161 (by decide) ?_
                refine lv_goto (tgt := 166) hx hb dX4_obeys_162 (by decide) ?_
                have h := Option.some.inj h
                subst h
                exact W.zret (v := 1) hx hb hr rfl (fun t ht hW => ⟨⟨_, (), rfl, rfl, gh ht hP⟩, hS.F ht⟩) hS.2.2 dX4_obeys_166
          · replace h := (if_neg c12).symm.trans h
            by_cases c16 : (p0 / 10000) = 6
            · replace h := (if_pos c16).symm.trans h
              refine lv_tableIn (off := 149) (tgt := 167) hx hb dX4_obeys_18 (by rw [c16]; decide) (by rw [c16]; decide) (by rw [c16]; rfl) (by decide) ?_
              refine lv_aload_n hx hb dX4_obeys_167 rfl (lv_at hl 2 rfl) ?_
              refine va_get (D := D) (ci := 4) (v := .ref (q + 11)) (C := RX4) (T := TX4) (N := 9) hx hb hts hinX4 hown hK hP 0 rfl rfl 1 (by decide) hf16 (fun _ h9 => h9) rfl dX4_obeys_168 ?_
              refine lv_iload_n hx hb dX4_obeys_171 rfl (lv_at hl 1 rfl) ?_
              obtain ⟨r172, hr172, h⟩ := bd_some h
              refine gc_ri (As := [.int ((p0 / 100) - (p0 / 100) / 100 * 100)]) (rest := []) ⟨hx, hb, hml, hown, hts⟩ hK (kX0_has l D cI cC cZ cQ cJ (q + 11) (gTrial G) ((p0 / 100) - (p0 / 100) / 100 * 100) hr172) (cwV 1 hts gX4_obeys_X0_has rfl rfl rfl (by decide +kernel) ⟨Nat.le_of_ble_eq_true rfl, Nat.le_of_ble_eq_true rfl⟩) (va_recv hK (GW_trial (G := G) hP) (ci := 0) (q0 := 0) rfl rfl) (GW_trial (G := G) hP) rfl hl.1 rfl (Nat.le_of_ble_eq_true rfl) ⟨Nat.zero_le _, Nat.zero_le _⟩ dX4_obeys_172 ?_
              refine lv_if_eq (tgt := 194) hx hb dX4_obeys_175 (by decide) (fun c17 => ?_) (fun c17 => ?_)
              · replace h := (if_pos c17).symm.trans h
                refine lv_iconst (v := 0) hx hb dX4_obeys_194 (by decide) ?_
                have h := Option.some.inj h
                subst h
                exact W.zret (v := 0) hx hb hr rfl (fun t ht hW => ⟨⟨_, (), rfl, rfl, gh ht hP⟩, hS.F ht⟩) hS.2.2 dX4_obeys_195
              · replace h := (if_neg c17).symm.trans h
                refine lv_aload_n hx hb dX4_obeys_178 rfl (lv_at hl 2 rfl) ?_
                refine va_get (D := D) (ci := 4) (v := .ref (q + 11)) (C := RX4) (T := TX4) (N := 9) hx hb hts hinX4 hown hK hP 0 rfl rfl 1 (by decide) hf16 (fun _ h9 => h9) rfl dX4_obeys_179 ?_
                refine lv_iload_n hx hb dX4_obeys_182 rfl (lv_at hl 1 rfl) ?_
                refine lv_iload_n hx hb dX4_obeys_183 rfl (lv_at hl 0 rfl) ?_
                obtain ⟨r184, hr184, h⟩ := bd_some h
                refine gc_ri (As := [.int ((p0 / 100) - (p0 / 100) / 100 * 100), .int (p0 - p0 / 100 * 100)]) (rest := []) ⟨hx, hb, hml, hown, hts⟩ hK (kX0_isIn l D cI cC cZ cQ cJ (q + 11) (gTrial G) ((p0 / 100) - (p0 / 100) / 100 * 100) (p0 - p0 / 100 * 100) hr184) (cwV 2 hts gX4_obeys_X0_isIn rfl rfl rfl (by decide +kernel) ⟨Nat.le_of_ble_eq_true rfl, Nat.le_of_ble_eq_true rfl⟩) (va_recv hK (GW_trial (G := G) hP) (ci := 0) (q0 := 0) rfl rfl) (GW_trial (G := G) hP) rfl hl.1 rfl (Nat.le_of_ble_eq_true rfl) ⟨Nat.zero_le _, Nat.zero_le _⟩ dX4_obeys_184 ?_
                refine lv_if_eq (tgt := 194) hx hb dX4_obeys_187 (by decide) (fun c18 => ?_) (fun c18 => ?_)
                · replace h := (if_pos c18).symm.trans h
                  refine lv_iconst (v := 0) hx hb dX4_obeys_194 (by decide) ?_
                  have h := Option.some.inj h
                  subst h
                  exact W.zret (v := 0) hx hb hr rfl (fun t ht hW => ⟨⟨_, (), rfl, rfl, gh ht hP⟩, hS.F ht⟩) hS.2.2 dX4_obeys_195
                · replace h := (if_neg c18).symm.trans h
                  refine lv_iconst (v := 1) hx hb dX4_obeys_190 (by decide) ?_
                  refine lv_goto (tgt := 195) hx hb dX4_obeys_191 (by decide) ?_
                  have h := Option.some.inj h
                  subst h
                  exact W.zret (v := 1) hx hb hr rfl (fun t ht hW => ⟨⟨_, (), rfl, rfl, gh ht hP⟩, hS.F ht⟩) hS.2.2 dX4_obeys_195
            · replace h := (if_neg c16).symm.trans h
              by_cases c19 : (p0 / 10000) = 7
              · replace h := (if_pos c19).symm.trans h
                refine lv_tableIn (off := 178) (tgt := 196) hx hb dX4_obeys_18 (by rw [c19]; decide) (by rw [c19]; decide) (by rw [c19]; rfl) (by decide) ?_
                refine lv_iload_n hx hb dX4_obeys_196 rfl (lv_at hl 1 rfl) ?_
                refine lv_if_ne (tgt := 216) hx hb dX4_obeys_197 (by decide) (fun c20 => ?_) (fun c20 => ?_)
                · replace h := (if_neg c20).symm.trans h
                  refine lv_iconst (v := 0) hx hb dX4_obeys_216 (by decide) ?_
                  have h := Option.some.inj h
                  subst h
                  exact W.zret (v := 0) hx hb hr rfl (fun t ht hW => ⟨⟨_, (), rfl, rfl, gh ht hP⟩, hS.F ht⟩) hS.2.2 dX4_obeys_217
                · replace h := (if_pos c20).symm.trans h
                  refine lv_aload_n hx hb dX4_obeys_200 rfl (lv_at hl 2 rfl) ?_
                  refine va_get (D := D) (ci := 4) (v := .ref (q + 11)) (C := RX4) (T := TX4) (N := 9) hx hb hts hinX4 hown hK hP 0 rfl rfl 1 (by decide) hf16 (fun _ h9 => h9) rfl dX4_obeys_201 ?_
                  refine lv_iconst (v := 0) hx hb dX4_obeys_204 (by decide) ?_
                  obtain ⟨r205, hr205, h⟩ := bd_some h
                  refine gc_ri (As := [.int 0]) (rest := []) ⟨hx, hb, hml, hown, hts⟩ hK (kX0_count l D cI cC cZ cQ cJ (q + 11) (gTrial G) 0 hr205) (cwV 1 hts gX4_obeys_X0_count rfl rfl rfl (by decide +kernel) ⟨Nat.le_of_ble_eq_true rfl, Nat.le_of_ble_eq_true rfl⟩) (va_recv hK (GW_trial (G := G) hP) (ci := 0) (q0 := 0) rfl rfl) (GW_trial (G := G) hP) rfl hl.1 rfl (Nat.le_of_ble_eq_true rfl) ⟨Nat.zero_le _, Nat.zero_le _⟩ dX4_obeys_205 ?_
                  refine lv_iload_n hx hb dX4_obeys_208 rfl (lv_at hl 0 rfl) ?_
                  refine lv_icmp_ne (tgt := 216) hx hb dX4_obeys_209 (by decide) (fun c21 => ?_) (fun c21 => ?_)
                  · replace h := (if_neg c21).symm.trans h
                    refine lv_iconst (v := 0) hx hb dX4_obeys_216 (by decide) ?_
                    have h := Option.some.inj h
                    subst h
                    exact W.zret (v := 0) hx hb hr rfl (fun t ht hW => ⟨⟨_, (), rfl, rfl, gh ht hP⟩, hS.F ht⟩) hS.2.2 dX4_obeys_217
                  · replace h := (if_pos c21).symm.trans h
                    refine lv_iconst (v := 1) hx hb dX4_obeys_212 (by decide) ?_
                    refine lv_goto (tgt := 217) hx hb dX4_obeys_213 (by decide) ?_
                    have h := Option.some.inj h
                    subst h
                    exact W.zret (v := 1) hx hb hr rfl (fun t ht hW => ⟨⟨_, (), rfl, rfl, gh ht hP⟩, hS.F ht⟩) hS.2.2 dX4_obeys_217
              · replace h := (if_neg c19).symm.trans h
                by_cases c22 : (p0 / 10000) = 8
                · replace h := (if_pos c22).symm.trans h
                  refine lv_tableIn (off := 200) (tgt := 218) hx hb dX4_obeys_18 (by rw [c22]; decide) (by rw [c22]; decide) (by rw [c22]; rfl) (by decide) ?_
                  refine lv_aload_n hx hb dX4_obeys_218 rfl (lv_at hl 2 rfl) ?_
                  refine va_get (D := D) (ci := 4) (v := .ref (q + 11)) (C := RX4) (T := TX4) (N := 9) hx hb hts hinX4 hown hK hP 0 rfl rfl 1 (by decide) hf16 (fun _ h9 => h9) rfl dX4_obeys_219 ?_
                  refine lv_iload_n hx hb dX4_obeys_222 rfl (lv_at hl 0 rfl) ?_
                  obtain ⟨r223, hr223, h⟩ := bd_some h
                  refine gc_ri (As := [.int (p0 - p0 / 100 * 100)]) (rest := []) ⟨hx, hb, hml, hown, hts⟩ hK (kX0_has l D cI cC cZ cQ cJ (q + 11) (gTrial G) (p0 - p0 / 100 * 100) hr223) (cwV 1 hts gX4_obeys_X0_has rfl rfl rfl (by decide +kernel) ⟨Nat.le_of_ble_eq_true rfl, Nat.le_of_ble_eq_true rfl⟩) (va_recv hK (GW_trial (G := G) hP) (ci := 0) (q0 := 0) rfl rfl) (GW_trial (G := G) hP) rfl hl.1 rfl (Nat.le_of_ble_eq_true rfl) ⟨Nat.zero_le _, Nat.zero_le _⟩ dX4_obeys_223 ?_
                  refine lv_if_eq (tgt := 258) hx hb dX4_obeys_226 (by decide) (fun c23 => ?_) (fun c23 => ?_)
                  · replace h := (if_pos c23).symm.trans h
                    refine lv_iconst (v := 0) hx hb dX4_obeys_258 (by decide) ?_
                    have h := Option.some.inj h
                    subst h
                    exact W.zret (v := 0) hx hb hr rfl (fun t ht hW => ⟨⟨_, (), rfl, rfl, gh ht hP⟩, hS.F ht⟩) hS.2.2 dX4_obeys_259
                  · replace h := (if_neg c23).symm.trans h
                    refine lv_aload_n hx hb dX4_obeys_229 rfl (lv_at hl 2 rfl) ?_
                    refine va_get (D := D) (ci := 4) (v := .ref (q + 11)) (C := RX4) (T := TX4) (N := 9) hx hb hts hinX4 hown hK hP 0 rfl rfl 1 (by decide) hf16 (fun _ h9 => h9) rfl dX4_obeys_230 ?_
                    refine lv_iload_n hx hb dX4_obeys_233 rfl (lv_at hl 0 rfl) ?_
                    refine lv_iconst (v := 0) hx hb dX4_obeys_234 (by decide) ?_
                    obtain ⟨r235, hr235, h⟩ := bd_some h
                    refine gc_ri (As := [.int (p0 - p0 / 100 * 100), .int 0]) (rest := []) ⟨hx, hb, hml, hown, hts⟩ hK (kX0_isIn l D cI cC cZ cQ cJ (q + 11) (gTrial G) (p0 - p0 / 100 * 100) 0 hr235) (cwV 2 hts gX4_obeys_X0_isIn rfl rfl rfl (by decide +kernel) ⟨Nat.le_of_ble_eq_true rfl, Nat.le_of_ble_eq_true rfl⟩) (va_recv hK (GW_trial (G := G) hP) (ci := 0) (q0 := 0) rfl rfl) (GW_trial (G := G) hP) rfl hl.1 rfl (Nat.le_of_ble_eq_true rfl) ⟨Nat.zero_le _, Nat.zero_le _⟩ dX4_obeys_235 ?_
                    refine lv_if_eq (tgt := 258) hx hb dX4_obeys_238 (by decide) (fun c24 => ?_) (fun c24 => ?_)
                    · replace h := (if_pos c24).symm.trans h
                      refine lv_iconst (v := 0) hx hb dX4_obeys_258 (by decide) ?_
                      have h := Option.some.inj h
                      subst h
                      exact W.zret (v := 0) hx hb hr rfl (fun t ht hW => ⟨⟨_, (), rfl, rfl, gh ht hP⟩, hS.F ht⟩) hS.2.2 dX4_obeys_259
                    · replace h := (if_neg c24).symm.trans h
                      refine lv_aload_n hx hb dX4_obeys_241 rfl (lv_at hl 2 rfl) ?_
                      refine va_get (D := D) (ci := 4) (v := .ref (q + 11)) (C := RX4) (T := TX4) (N := 9) hx hb hts hinX4 hown hK hP 0 rfl rfl 1 (by decide) hf16 (fun _ h9 => h9) rfl dX4_obeys_242 ?_
                      refine va_get (D := D) (ci := 0) (v := .ref (q + 18)) (C := RX0) (T := TX0) (N := 13) hx hb hts hinX0 hown hK hP 11 rfl rfl 6 (by decide) hf195 (fun _ h9 => h9) rfl dX4_obeys_245 ?_
                      refine lv_iload_n hx hb dX4_obeys_248 rfl (lv_at hl 0 rfl) ?_
                      obtain ⟨hg25, h⟩ := gd_some h
                      refine g_iald (f := (lSp (gTrial G))) (k := ((p0 - p0 / 100 * 100)).toNatClampNeg) hx hb hK hP 18 0 rfl rfl hg25 rfl dX4_obeys_249 ?_
                      refine lv_iload_n hx hb dX4_obeys_250 rfl (lv_at hl 1 rfl) ?_
                      refine lv_icmp_ne (tgt := 258) hx hb dX4_obeys_251 (by decide) (fun c26 => ?_) (fun c26 => ?_)
                      · replace h := (if_neg c26).symm.trans h
                        refine lv_iconst (v := 0) hx hb dX4_obeys_258 (by decide) ?_
                        have h := Option.some.inj h
                        subst h
                        exact W.zret (v := 0) hx hb hr rfl (fun t ht hW => ⟨⟨_, (), rfl, rfl, gh ht hP⟩, hS.F ht⟩) hS.2.2 dX4_obeys_259
                      · replace h := (if_pos c26).symm.trans h
                        refine lv_iconst (v := 1) hx hb dX4_obeys_254 (by decide) ?_
                        refine lv_goto (tgt := 259) hx hb dX4_obeys_255 (by decide) ?_
                        have h := Option.some.inj h
                        subst h
                        exact W.zret (v := 1) hx hb hr rfl (fun t ht hW => ⟨⟨_, (), rfl, rfl, gh ht hP⟩, hS.F ht⟩) hS.2.2 dX4_obeys_259
                · replace h := (if_neg c22).symm.trans h
                  refine lv_tableOut (tgt := 260) hx hb dX4_obeys_18 (gsw_out 1 8 (x := (p0 / 10000)) ?_) (by decide) ?_
                  · intro k h1 h2 hk
                    rcases (show k = 1 ∨ k = 2 ∨ k = 3 ∨ k = 4 ∨ k = 5 ∨ k = 6 ∨ k = 7 ∨ k = 8 by omega) with rfl | rfl | rfl | rfl | rfl | rfl | rfl | rfl
                    · exact lv_neT c1 (by decide) hk
                    · exact lv_neT c4 (by decide) hk
                    · exact lv_neT c6 (by decide) hk
                    · exact lv_neT c9 (by decide) hk
                    · exact lv_neT c12 (by decide) hk
                    · exact lv_neT c16 (by decide) hk
                    · exact lv_neT c19 (by decide) hk
                    · exact lv_neT c22 (by decide) hk
                  · refine lv_iconst (v := 0) hx hb dX4_obeys_260 (by decide) ?_
                    have h := Option.some.inj h
                    subst h
                    exact W.zret (v := 0) hx hb hr rfl (fun t ht hW => ⟨⟨_, (), rfl, rfl, gh ht hP⟩, hS.F ht⟩) hS.2.2 dX4_obeys_261

set_option maxHeartbeats 4000000 in
set_option maxRecDepth 100000 in
theorem kX5_gapOf (l : Launch) (D : va_G) (cI cC cZ cQ cJ : ClassId) (q : Nat) (M : MSt) (p0 : Int32) {R : Int32} (h : fX5_gapOf M p0 = some R) : Met l yX5_gapOf wsX5_gapOf ({ frames := 1, cells := 0, slots := 0, locals := 22 } : Room) (va_Pc [.ref q, .int p0] (gB D (gTy cI cC cZ cQ cJ) (va_P D vwCl (MW cI cZ q M)))) (vp_Si (fun r => r = R)) 0 0 (fun _ => False) := by
  refine Met.ofW (cc := cX5_gapOf) (maxL := 3) (ret := (some .int)) (by decide) rfl ?_
  intro p e s m args below meth c s₁ B hml hv
  obtain ⟨rfl, hP, hK⟩ := hv
  have hx := B.exec
  have hb := B.bytes
  have hr := B.returns
  have hts := atoms_spec (ws := wsX5_gapOf) B.pre
  have hown : s.vm.findClass RX5 = some m.cls := findClass_of_methodNamed B.named
  have hlocks := B.notSynchronized
  have hinX5 : ∀ w ∈ wsX50, w ∈ wsX5_gapOf := by decide +kernel
  have hf16 := hts (.fieldLink RX5 16 "GripInspectorModel" "now" "[I") (by decide +kernel)
  have hf38 := hts (.fieldLink RX5 38 "GripInspectorModel" "n" "I") (by decide +kernel)
  generalize hRM : (headSpec wsX5_gapOf ({ frames := 1, cells := 0, slots := 0, locals := 22 } : Room)).room = RM
  replace hRM : ({ frames := 1, cells := 0, slots := 0, locals := 22 } : Room) = RM := hRM
  subst hRM
  have hl := lv_entry ([.ref q, .int p0]) (n := 3) (Nat.le_of_ble_eq_true rfl)
  rw [lg_entry_eq]
  generalize (lg_sl ([.ref q, .int p0]) ++ List.replicate (3 - (lg_sl ([.ref q, .int p0])).length) Slot.unset).toArray = ls at hl ⊢
  have hl : lv_has ls 3 [(0, .ref q), (1, .int p0)] := hl
  have LP2 : ∀ (n : Nat) (x1 : Int32) (x2 : Int32) (ls : Array Slot), fX5_gapOf_L2 M n x1 x2 = some R → lv_has ls 3 [(0, .ref q), (1, .int x1), (2, .int x2)] → W p l e ({ frames := 1, cells := 0, slots := 0, locals := 22 } : Room) s m ([.ref q, .int p0] : List Value).toArray below meth c s.heap [] 0 0 (MQ below (vp_Si (fun r => r = R)) ([.ref q, .int p0] : List Value).toArray s 0 0 (fun _ => False)) (F0 m 2 ls []) := by
    intro n
    induction n with
    | zero => intro x1 x2 ls h hl; exact no_some h
    | succ n ih =>
      intro x1 x2 ls h hl
      rw [fX5_gapOf_L2] at h
      refine lv_aload_n hx hb dX5_gapOf_2 rfl (lv_at hl 0 rfl) ?_
      refine va_get (D := D) (ci := 5) (v := .ref (q + 3)) (C := RX5) (T := TX5) (N := 15) hx hb hts hinX5 hown hK hP 0 rfl rfl 7 (by decide) hf16 (fun _ h9 => h9) rfl dX5_gapOf_3 ?_
      refine lv_aload_n hx hb dX5_gapOf_6 rfl (lv_at hl 0 rfl) ?_
      refine va_get (D := D) (ci := 5) (v := .ref (q + 3)) (C := RX5) (T := TX5) (N := 15) hx hb hts hinX5 hown hK hP 0 rfl rfl 7 (by decide) hf16 (fun _ h9 => h9) rfl dX5_gapOf_7 ?_
      refine lv_bipush (v := 72) hx hb dX5_gapOf_10 (by decide) ?_
      refine lv_iload_n hx hb dX5_gapOf_12 rfl (lv_at hl 1 rfl) ?_
      refine lv_iadd hx hb dX5_gapOf_13 ?_
      obtain ⟨hg1, h⟩ := gd_some h
      refine g_iald (f := ((mA M) 3)) (k := ((72 + x1)).toNatClampNeg) hx hb hK hP 3 0 rfl rfl hg1 rfl dX5_gapOf_14 ?_
      refine lv_iload_n hx hb dX5_gapOf_15 rfl (lv_at hl 2 rfl) ?_
      refine lv_iadd hx hb dX5_gapOf_16 ?_
      refine lv_aload_n hx hb dX5_gapOf_17 rfl (lv_at hl 0 rfl) ?_
      refine va_get (D := D) (ci := 5) (v := .int (mN M)) (C := RX5) (T := TX5) (N := 15) hx hb hts hinX5 hown hK hP 0 rfl rfl 6 (by decide) hf38 (fun _ h9 => h9) rfl dX5_gapOf_18 ?_
      obtain ⟨hn2, h⟩ := nz_some h
      refine lv_irem hx hb dX5_gapOf_21 hn2 ?_
      obtain ⟨r22, hr22, h⟩ := bd_some h
      refine gc_si (As := [.ref (q + 3), .int (((((mA M) 3) ((72 + x1)).toNatClampNeg) + x2) - ((((mA M) 3) ((72 + x1)).toNatClampNeg) + x2) / (mN M) * (mN M))]) (rest := []) ⟨hx, hb, hml, hown, hts⟩ hK (kX5_gripAt l D cI cC cZ cQ cJ q 3 M (((((mA M) 3) ((72 + x1)).toNatClampNeg) + x2) - ((((mA M) 3) ((72 + x1)).toNatClampNeg) + x2) / (mN M) * (mN M)) (Or.inr (Or.inl rfl)) hr22) (va_cwS 2 hts gX5_gapOf_X5_gripAt rfl rfl rfl (by decide +kernel) ⟨Nat.le_of_ble_eq_true rfl, Nat.le_of_ble_eq_true rfl⟩)  hP rfl hl.1 rfl (Nat.le_of_ble_eq_true rfl) ⟨Nat.zero_le _, Nat.zero_le _⟩ dX5_gapOf_22 ?_
      refine lv_bipush (v := (-9)) hx hb dX5_gapOf_25 (by decide) ?_
      refine lv_icmp_ne (tgt := 36) hx hb dX5_gapOf_27 (by decide) (fun c3 => ?_) (fun c3 => ?_)
      · replace h := (if_neg c3).symm.trans h
        refine lv_iload_n hx hb dX5_gapOf_36 rfl (lv_at hl 2 rfl) ?_
        have h := Option.some.inj h
        exact W.iret (v := x2) hx hb hr (fun t ht hW => ⟨_, rfl, h, ht⟩) t_nil dX5_gapOf_37
      · replace h := (if_pos c3).symm.trans h
        refine lv_iinc (v := (x2 + 1)) (lv' := [(2, .int (x2 + 1)), (0, .ref q), (1, .int x1)]) hx hb dX5_gapOf_30 hl (k := 2) rfl rfl (by decide) rfl (fun ls hl => ?_)
        refine lv_goto (tgt := 2) hx hb dX5_gapOf_33 (by decide) ?_
        exact ih x1 (x2 + 1) ls h (lv_sub hl [1, 2, 0] rfl)
  unfold fX5_gapOf at h
  refine lv_iconst (v := 1) hx hb dX5_gapOf_0 (by decide) ?_
  refine lv_istore_n (lv' := [(2, .int 1), (0, .ref q), (1, .int p0)]) hx hb dX5_gapOf_1 rfl hl (by decide) rfl (fun ls hl => ?_)
  exact LP2 KF p0 1 ls h (lv_sub hl [1, 2, 0] rfl)
set_option maxHeartbeats 4000000 in
set_option maxRecDepth 100000 in
theorem kX5_gap (l : Launch) (D : va_G) (cI cC cZ cQ cJ : ClassId) (q : Nat) (M : MSt) (p0 : Int32) {R : Int32 × MSt} (h : fX5_gap M p0 = some R) : Met l yX5_gap wsX5_gap ({ frames := 2, cells := 0, slots := 0, locals := 46 } : Room) (va_Pc [.ref q, .int p0] (gB D (gTy cI cC cZ cQ cJ) (va_P D vwCl (MW cI cZ q M)))) (va_Qi (fun r (_ : Unit) => r = R.1) (fun _ t => va_P D vwCl (MW cI cZ q R.2) t.heap) (fIv q 10)) 0 0 (fIv q 10) := by
  refine Met.ofW (cc := cX5_gap) (maxL := 2) (ret := (some .int)) (by decide) rfl ?_
  intro p e s m args below meth c s₁ B hml hv
  obtain ⟨rfl, hP, hK⟩ := hv
  have hx := B.exec
  have hb := B.bytes
  have hr := B.returns
  have hts := atoms_spec (ws := wsX5_gap) B.pre
  have hown : s.vm.findClass RX5 = some m.cls := findClass_of_methodNamed B.named
  have hlocks := B.notSynchronized
  have hinX5 : ∀ w ∈ wsX50, w ∈ wsX5_gap := by decide +kernel
  have hf16 := hts (.fieldLink RX5 16 "GripInspectorModel" "now" "[I") (by decide +kernel)
  generalize hRM : (headSpec wsX5_gap ({ frames := 2, cells := 0, slots := 0, locals := 46 } : Room)).room = RM
  replace hRM : ({ frames := 2, cells := 0, slots := 0, locals := 46 } : Room) = RM := hRM
  subst hRM
  have hl := lv_entry ([.ref q, .int p0]) (n := 2) (Nat.le_of_ble_eq_true rfl)
  rw [lg_entry_eq]
  generalize (lg_sl ([.ref q, .int p0]) ++ List.replicate (2 - (lg_sl ([.ref q, .int p0])).length) Slot.unset).toArray = ls at hl ⊢
  have hl : lv_has ls 2 [(0, .ref q), (1, .int p0)] := hl
  have hS : va_S (fIv q 10) s.heap s.heap [] := va_S.rf
  unfold fX5_gap at h
  obtain ⟨H, hH⟩ : ∃ H, H = s.heap := ⟨_, rfl⟩
  obtain ⟨locs, hlz⟩ : ∃ z : List Loc, z = [] := ⟨_, rfl⟩
  have hP : va_P D vwCl (MW cI cZ q M) H := by rw [hH]; exact hP
  have hS : va_S (fIv q 10) s.heap H locs := by rw [hH, hlz]; exact hS
  refine gc_at hH hlz ?_
  refine lv_aload_n hx hb dX5_gap_0 rfl (lv_at hl 0 rfl) ?_
  refine lv_aload_n hx hb dX5_gap_1 rfl (lv_at hl 0 rfl) ?_
  refine lv_iload_n hx hb dX5_gap_2 rfl (lv_at hl 1 rfl) ?_
  obtain ⟨r3, hr3, h⟩ := bd_some h
  refine gc_ri (As := [.int p0]) (rest := [.ref q]) ⟨hx, hb, hml, hown, hts⟩ hK (kX5_isGrip l D cI cC cZ cQ cJ q M p0 hr3) (cwV 1 hts gX5_gap_X5_isGrip rfl rfl rfl (by decide +kernel) ⟨Nat.le_of_ble_eq_true rfl, Nat.le_of_ble_eq_true rfl⟩) (va_recv hK hP (ci := 5) (q0 := 0) rfl rfl) hP rfl hl.1 rfl (Nat.le_of_ble_eq_true rfl) ⟨Nat.zero_le _, Nat.zero_le _⟩ dX5_gap_3 ?_
  refine lv_if_eq (tgt := 13) hx hb dX5_gap_6 (by decide) (fun c1 => ?_) (fun c1 => ?_)
  · replace h := (if_pos c1).symm.trans h
    refine lv_iconst (v := 1) hx hb dX5_gap_13 (by decide) ?_
    obtain ⟨r14, hr14, h⟩ := bd_some h
    refine gc_wi (As := [.int 1]) (rest := []) ⟨hx, hb, hml, hown, hts⟩ hK (kX5_refused l D cI cC cZ cQ cJ q M 1 hr14) (cwV 1 hts gX5_gap_X5_refused rfl rfl rfl (by decide +kernel) ⟨Nat.le_of_ble_eq_true rfl, Nat.le_of_ble_eq_true rfl⟩) (va_recv hK hP (ci := 5) (q0 := 0) rfl rfl) hP hS (fun _ h => h) rfl hl.1 rfl (Nat.le_of_ble_eq_true rfl) ⟨Nat.zero_le _, Nat.zero_le _⟩ dX5_gap_14 (fun H locs hP hS _ _ => ?_)
    refine lv_if_eq (tgt := 22) hx hb dX5_gap_17 (by decide) (fun c2 => ?_) (fun c2 => ?_)
    · replace h := (if_pos c2).symm.trans h
      refine lv_aload_n hx hb dX5_gap_22 rfl (lv_at hl 0 rfl) ?_
      refine va_get (D := D) (ci := 5) (v := .ref (q + 3)) (C := RX5) (T := TX5) (N := 15) hx hb hts hinX5 hown hK hP 0 rfl rfl 7 (by decide) hf16 (fun _ h9 => h9) rfl dX5_gap_23 ?_
      refine lv_bipush (v := 60) hx hb dX5_gap_26 (by decide) ?_
      refine lv_iload_n hx hb dX5_gap_28 rfl (lv_at hl 1 rfl) ?_
      refine lv_iadd hx hb dX5_gap_29 ?_
      obtain ⟨hg3, h⟩ := gd_some h
      refine g_iald (f := ((mA r14.2) 3)) (k := ((60 + p0)).toNatClampNeg) hx hb hK hP 3 0 rfl rfl hg3 rfl dX5_gap_30 ?_
      refine lv_if_ne (tgt := 42) hx hb dX5_gap_31 (by decide) (fun c4 => ?_) (fun c4 => ?_)
      · replace h := (if_neg c4).symm.trans h
        refine lv_bipush (v := (-9)) hx hb dX5_gap_42 (by decide) ?_
        have h := Option.some.inj h
        subst h
        exact W.iret (v := (-9)) hx hb hr (fun t ht hW => ⟨⟨_, (), rfl, rfl, gh ht hP⟩, hS.F ht⟩) hS.2.2 dX5_gap_44
      · replace h := (if_pos c4).symm.trans h
        refine lv_aload_n hx hb dX5_gap_34 rfl (lv_at hl 0 rfl) ?_
        refine lv_iload_n hx hb dX5_gap_35 rfl (lv_at hl 1 rfl) ?_
        obtain ⟨r36, hr36, h⟩ := bd_some h
        refine gc_ri (As := [.int p0]) (rest := []) ⟨hx, hb, hml, hown, hts⟩ hK (kX5_gapOf l D cI cC cZ cQ cJ q r14.2 p0 hr36) (cwV 1 hts gX5_gap_X5_gapOf rfl rfl rfl (by decide +kernel) ⟨Nat.le_of_ble_eq_true rfl, Nat.le_of_ble_eq_true rfl⟩) (va_recv hK hP (ci := 5) (q0 := 0) rfl rfl) hP rfl hl.1 rfl (Nat.le_of_ble_eq_true rfl) ⟨Nat.zero_le _, Nat.zero_le _⟩ dX5_gap_36 ?_
        refine lv_goto (tgt := 44) hx hb dX5_gap_39 (by decide) ?_
        have h := Option.some.inj h
        subst h
        exact W.iret (v := r36) hx hb hr (fun t ht hW => ⟨⟨_, (), rfl, rfl, gh ht hP⟩, hS.F ht⟩) hS.2.2 dX5_gap_44
    · replace h := (if_neg c2).symm.trans h
      refine lv_iconst (v := 0) hx hb dX5_gap_20 (by decide) ?_
      have h := Option.some.inj h
      subst h
      exact W.iret (v := 0) hx hb hr (fun t ht hW => ⟨⟨_, (), rfl, rfl, gh ht hP⟩, hS.F ht⟩) hS.2.2 dX5_gap_21
  · replace h := (if_neg c1).symm.trans h
    refine lv_iconst (v := 0) hx hb dX5_gap_9 (by decide) ?_
    refine lv_goto (tgt := 14) hx hb dX5_gap_10 (by decide) ?_
    obtain ⟨r14, hr14, h⟩ := bd_some h
    refine gc_wi (As := [.int 0]) (rest := []) ⟨hx, hb, hml, hown, hts⟩ hK (kX5_refused l D cI cC cZ cQ cJ q M 0 hr14) (cwV 1 hts gX5_gap_X5_refused rfl rfl rfl (by decide +kernel) ⟨Nat.le_of_ble_eq_true rfl, Nat.le_of_ble_eq_true rfl⟩) (va_recv hK hP (ci := 5) (q0 := 0) rfl rfl) hP hS (fun _ h => h) rfl hl.1 rfl (Nat.le_of_ble_eq_true rfl) ⟨Nat.zero_le _, Nat.zero_le _⟩ dX5_gap_14 (fun H locs hP hS _ _ => ?_)
    refine lv_if_eq (tgt := 22) hx hb dX5_gap_17 (by decide) (fun c5 => ?_) (fun c5 => ?_)
    · replace h := (if_pos c5).symm.trans h
      refine lv_aload_n hx hb dX5_gap_22 rfl (lv_at hl 0 rfl) ?_
      refine va_get (D := D) (ci := 5) (v := .ref (q + 3)) (C := RX5) (T := TX5) (N := 15) hx hb hts hinX5 hown hK hP 0 rfl rfl 7 (by decide) hf16 (fun _ h9 => h9) rfl dX5_gap_23 ?_
      refine lv_bipush (v := 60) hx hb dX5_gap_26 (by decide) ?_
      refine lv_iload_n hx hb dX5_gap_28 rfl (lv_at hl 1 rfl) ?_
      refine lv_iadd hx hb dX5_gap_29 ?_
      obtain ⟨hg6, h⟩ := gd_some h
      refine g_iald (f := ((mA r14.2) 3)) (k := ((60 + p0)).toNatClampNeg) hx hb hK hP 3 0 rfl rfl hg6 rfl dX5_gap_30 ?_
      refine lv_if_ne (tgt := 42) hx hb dX5_gap_31 (by decide) (fun c7 => ?_) (fun c7 => ?_)
      · replace h := (if_neg c7).symm.trans h
        refine lv_bipush (v := (-9)) hx hb dX5_gap_42 (by decide) ?_
        have h := Option.some.inj h
        subst h
        exact W.iret (v := (-9)) hx hb hr (fun t ht hW => ⟨⟨_, (), rfl, rfl, gh ht hP⟩, hS.F ht⟩) hS.2.2 dX5_gap_44
      · replace h := (if_pos c7).symm.trans h
        refine lv_aload_n hx hb dX5_gap_34 rfl (lv_at hl 0 rfl) ?_
        refine lv_iload_n hx hb dX5_gap_35 rfl (lv_at hl 1 rfl) ?_
        obtain ⟨r36, hr36, h⟩ := bd_some h
        refine gc_ri (As := [.int p0]) (rest := []) ⟨hx, hb, hml, hown, hts⟩ hK (kX5_gapOf l D cI cC cZ cQ cJ q r14.2 p0 hr36) (cwV 1 hts gX5_gap_X5_gapOf rfl rfl rfl (by decide +kernel) ⟨Nat.le_of_ble_eq_true rfl, Nat.le_of_ble_eq_true rfl⟩) (va_recv hK hP (ci := 5) (q0 := 0) rfl rfl) hP rfl hl.1 rfl (Nat.le_of_ble_eq_true rfl) ⟨Nat.zero_le _, Nat.zero_le _⟩ dX5_gap_36 ?_
        refine lv_goto (tgt := 44) hx hb dX5_gap_39 (by decide) ?_
        have h := Option.some.inj h
        subst h
        exact W.iret (v := r36) hx hb hr (fun t ht hW => ⟨⟨_, (), rfl, rfl, gh ht hP⟩, hS.F ht⟩) hS.2.2 dX5_gap_44
    · replace h := (if_neg c5).symm.trans h
      refine lv_iconst (v := 0) hx hb dX5_gap_20 (by decide) ?_
      have h := Option.some.inj h
      subst h
      exact W.iret (v := 0) hx hb hr (fun t ht hW => ⟨⟨_, (), rfl, rfl, gh ht hP⟩, hS.F ht⟩) hS.2.2 dX5_gap_21
set_option maxHeartbeats 4000000 in
set_option maxRecDepth 100000 in
theorem kX5_room (l : Launch) (D : va_G) (cI cC cZ cQ cJ : ClassId) (q : Nat) (M : MSt) (p0 : Int32) {R : Int32 × MSt} (h : fX5_room M p0 = some R) : Met l yX5_room wsX5_room ({ frames := 2, cells := 0, slots := 0, locals := 47 } : Room) (va_Pc [.ref q, .int p0] (gB D (gTy cI cC cZ cQ cJ) (va_P D vwCl (MW cI cZ q M)))) (va_Qi (fun r (_ : Unit) => r = R.1) (fun _ t => va_P D vwCl (MW cI cZ q R.2) t.heap) (fIv q 10)) 0 0 (fIv q 10) := by
  refine Met.ofW (cc := cX5_room) (maxL := 4) (ret := (some .int)) (by decide) rfl ?_
  intro p e s m args below meth c s₁ B hml hv
  obtain ⟨rfl, hP, hK⟩ := hv
  have hx := B.exec
  have hb := B.bytes
  have hr := B.returns
  have hts := atoms_spec (ws := wsX5_room) B.pre
  have hown : s.vm.findClass RX5 = some m.cls := findClass_of_methodNamed B.named
  have hlocks := B.notSynchronized
  have hinX5 : ∀ w ∈ wsX50, w ∈ wsX5_room := by decide +kernel
  have hf16 := hts (.fieldLink RX5 16 "GripInspectorModel" "now" "[I") (by decide +kernel)
  have hf38 := hts (.fieldLink RX5 38 "GripInspectorModel" "n" "I") (by decide +kernel)
  generalize hRM : (headSpec wsX5_room ({ frames := 2, cells := 0, slots := 0, locals := 47 } : Room)).room = RM
  replace hRM : ({ frames := 2, cells := 0, slots := 0, locals := 47 } : Room) = RM := hRM
  subst hRM
  have hl := lv_entry ([.ref q, .int p0]) (n := 4) (Nat.le_of_ble_eq_true rfl)
  rw [lg_entry_eq]
  generalize (lg_sl ([.ref q, .int p0]) ++ List.replicate (4 - (lg_sl ([.ref q, .int p0])).length) Slot.unset).toArray = ls at hl ⊢
  have hl : lv_has ls 4 [(0, .ref q), (1, .int p0)] := hl
  have hS : va_S (fIv q 10) s.heap s.heap [] := va_S.rf
  have LP93 : ∀ (n : Nat) (S : MSt) (x2 : Int32) (x3 : Int32) (H : Heap) (locs : List Loc) (ls : Array Slot), fX5_room_L93 n S x2 x3 = some R → va_P D vwCl (MW cI cZ q S) H → va_S (fIv q 10) s.heap H locs → lv_has ls 4 [(0, .ref q), (2, .int x2), (3, .int x3)] → W p l e ({ frames := 2, cells := 0, slots := 0, locals := 47 } : Room) s m ([.ref q, .int p0] : List Value).toArray below meth c H locs 0 0 (MQ below (va_Qi (fun r (_ : Unit) => r = R.1) (fun _ t => va_P D vwCl (MW cI cZ q R.2) t.heap) (fIv q 10)) ([.ref q, .int p0] : List Value).toArray s 0 0 (fIv q 10)) (F0 m 93 ls []) := by
    intro n
    induction n with
    | zero => intro S x2 x3 H locs ls h hP hS hl; exact no_some h
    | succ n ih =>
      intro S x2 x3 H locs ls h hP hS hl
      rw [fX5_room_L93] at h
      refine lv_iload_n hx hb dX5_room_93 rfl (lv_at hl 2 rfl) ?_
      refine lv_aload_n hx hb dX5_room_94 rfl (lv_at hl 0 rfl) ?_
      refine va_get (D := D) (ci := 5) (v := .ref (q + 3)) (C := RX5) (T := TX5) (N := 15) hx hb hts hinX5 hown hK hP 0 rfl rfl 7 (by decide) hf16 (fun _ h9 => h9) rfl dX5_room_95 ?_
      refine lv_bipush (v := 96) hx hb dX5_room_98 (by decide) ?_
      refine g_iald (f := ((mA S) 3)) (k := 96) hx hb hK hP 3 0 rfl rfl (vin_lit rfl) rfl dX5_room_100 ?_
      refine lv_icmp_ge (tgt := 143) hx hb dX5_room_101 (by decide) (fun c5 => ?_) (fun c5 => ?_)
      · replace h := (if_pos c5).symm.trans h
        refine lv_iload_n hx hb dX5_room_143 rfl (lv_at hl 1 rfl) ?_
        have h := Option.some.inj h
        subst h
        exact W.iret (v := x2) hx hb hr (fun t ht hW => ⟨⟨_, (), rfl, rfl, gh ht hP⟩, hS.F ht⟩) hS.2.2 dX5_room_144
      · replace h := (if_neg c5).symm.trans h
        refine lv_aload_n hx hb dX5_room_104 rfl (lv_at hl 0 rfl) ?_
        refine va_get (D := D) (ci := 5) (v := .ref (q + 3)) (C := RX5) (T := TX5) (N := 15) hx hb hts hinX5 hown hK hP 0 rfl rfl 7 (by decide) hf16 (fun _ h9 => h9) rfl dX5_room_105 ?_
        refine lv_bipush (v := 60) hx hb dX5_room_108 (by decide) ?_
        refine lv_iload_n hx hb dX5_room_110 rfl (lv_at hl 2 rfl) ?_
        refine lv_iadd hx hb dX5_room_111 ?_
        obtain ⟨hg6, h⟩ := gd_some h
        refine g_iald (f := ((mA S) 3)) (k := ((60 + x3)).toNatClampNeg) hx hb hK hP 3 0 rfl rfl hg6 rfl dX5_room_112 ?_
        refine lv_if_ne (tgt := 137) hx hb dX5_room_113 (by decide) (fun c7 => ?_) (fun c7 => ?_)
        · replace h := (if_neg c7).symm.trans h
          refine lv_iinc (v := (x3 + 1)) (lv' := [(3, .int (x3 + 1)), (0, .ref q), (2, .int x2)]) hx hb dX5_room_137 hl (k := 2) rfl rfl (by decide) rfl (fun ls hl => ?_)
          refine lv_goto (tgt := 93) hx hb dX5_room_140 (by decide) ?_
          exact ih S x2 (x3 + 1) H locs ls h hP hS (lv_sub hl [1, 2, 0] rfl)
        · replace h := (if_pos c7).symm.trans h
          refine lv_iload_n hx hb dX5_room_116 rfl (lv_at hl 1 rfl) ?_
          refine lv_bipush (v := (-9)) hx hb dX5_room_117 (by decide) ?_
          refine lv_icmp_eq (tgt := 131) hx hb dX5_room_119 (by decide) (fun c8 => ?_) (fun c8 => ?_)
          · replace h := (if_pos c8).symm.trans h
            refine lv_aload_n hx hb dX5_room_131 rfl (lv_at hl 0 rfl) ?_
            refine lv_iload_n hx hb dX5_room_132 rfl (lv_at hl 2 rfl) ?_
            obtain ⟨r133, hr133, h⟩ := bd_some h
            refine gc_ri (As := [.int x3]) (rest := []) ⟨hx, hb, hml, hown, hts⟩ hK (kX5_gapOf l D cI cC cZ cQ cJ q S x3 hr133) (cwV 1 hts gX5_room_X5_gapOf rfl rfl rfl (by decide +kernel) ⟨Nat.le_of_ble_eq_true rfl, Nat.le_of_ble_eq_true rfl⟩) (va_recv hK hP (ci := 5) (q0 := 0) rfl rfl) hP rfl hl.1 rfl (Nat.le_of_ble_eq_true rfl) ⟨Nat.zero_le _, Nat.zero_le _⟩ dX5_room_133 ?_
            refine lv_istore_n (lv' := [(2, .int r133), (0, .ref q), (3, .int x3)]) hx hb dX5_room_136 rfl hl (by decide) rfl (fun ls hl => ?_)
            refine lv_iinc (v := (x3 + 1)) (lv' := [(3, .int (x3 + 1)), (2, .int r133), (0, .ref q)]) hx hb dX5_room_137 hl (k := 2) rfl rfl (by decide) rfl (fun ls hl => ?_)
            refine lv_goto (tgt := 93) hx hb dX5_room_140 (by decide) ?_
            exact ih S r133 (x3 + 1) H locs ls h hP hS (lv_sub hl [2, 1, 0] rfl)
          · replace h := (if_neg c8).symm.trans h
            refine lv_aload_n hx hb dX5_room_122 rfl (lv_at hl 0 rfl) ?_
            refine lv_iload_n hx hb dX5_room_123 rfl (lv_at hl 2 rfl) ?_
            obtain ⟨r124, hr124, h⟩ := bd_some h
            refine gc_ri (As := [.int x3]) (rest := []) ⟨hx, hb, hml, hown, hts⟩ hK (kX5_gapOf l D cI cC cZ cQ cJ q S x3 hr124) (cwV 1 hts gX5_room_X5_gapOf rfl rfl rfl (by decide +kernel) ⟨Nat.le_of_ble_eq_true rfl, Nat.le_of_ble_eq_true rfl⟩) (va_recv hK hP (ci := 5) (q0 := 0) rfl rfl) hP rfl hl.1 rfl (Nat.le_of_ble_eq_true rfl) ⟨Nat.zero_le _, Nat.zero_le _⟩ dX5_room_124 ?_
            refine lv_iload_n hx hb dX5_room_127 rfl (lv_at hl 1 rfl) ?_
            refine lv_icmp_ge (tgt := 137) hx hb dX5_room_128 (by decide) (fun c9 => ?_) (fun c9 => ?_)
            · replace h := (if_pos c9).symm.trans h
              refine lv_iinc (v := (x3 + 1)) (lv' := [(3, .int (x3 + 1)), (0, .ref q), (2, .int x2)]) hx hb dX5_room_137 hl (k := 2) rfl rfl (by decide) rfl (fun ls hl => ?_)
              refine lv_goto (tgt := 93) hx hb dX5_room_140 (by decide) ?_
              exact ih S x2 (x3 + 1) H locs ls h hP hS (lv_sub hl [1, 2, 0] rfl)
            · replace h := (if_neg c9).symm.trans h
              refine lv_aload_n hx hb dX5_room_131 rfl (lv_at hl 0 rfl) ?_
              refine lv_iload_n hx hb dX5_room_132 rfl (lv_at hl 2 rfl) ?_
              obtain ⟨r133, hr133, h⟩ := bd_some h
              refine gc_ri (As := [.int x3]) (rest := []) ⟨hx, hb, hml, hown, hts⟩ hK (kX5_gapOf l D cI cC cZ cQ cJ q S x3 hr133) (cwV 1 hts gX5_room_X5_gapOf rfl rfl rfl (by decide +kernel) ⟨Nat.le_of_ble_eq_true rfl, Nat.le_of_ble_eq_true rfl⟩) (va_recv hK hP (ci := 5) (q0 := 0) rfl rfl) hP rfl hl.1 rfl (Nat.le_of_ble_eq_true rfl) ⟨Nat.zero_le _, Nat.zero_le _⟩ dX5_room_133 ?_
              refine lv_istore_n (lv' := [(2, .int r133), (0, .ref q), (3, .int x3)]) hx hb dX5_room_136 rfl hl (by decide) rfl (fun ls hl => ?_)
              refine lv_iinc (v := (x3 + 1)) (lv' := [(3, .int (x3 + 1)), (2, .int r133), (0, .ref q)]) hx hb dX5_room_137 hl (k := 2) rfl rfl (by decide) rfl (fun ls hl => ?_)
              refine lv_goto (tgt := 93) hx hb dX5_room_140 (by decide) ?_
              exact ih S r133 (x3 + 1) H locs ls h hP hS (lv_sub hl [2, 1, 0] rfl)
  have LP34 : ∀ (n : Nat) (S : MSt) (x2 : Int32) (x3 : Int32) (H : Heap) (locs : List Loc) (ls : Array Slot), fX5_room_L34 n S x2 x3 = some R → va_P D vwCl (MW cI cZ q S) H → va_S (fIv q 10) s.heap H locs → lv_has ls 4 [(0, .ref q), (2, .int x2), (3, .int x3)] → W p l e ({ frames := 2, cells := 0, slots := 0, locals := 47 } : Room) s m ([.ref q, .int p0] : List Value).toArray below meth c H locs 0 0 (MQ below (va_Qi (fun r (_ : Unit) => r = R.1) (fun _ t => va_P D vwCl (MW cI cZ q R.2) t.heap) (fIv q 10)) ([.ref q, .int p0] : List Value).toArray s 0 0 (fIv q 10)) (F0 m 34 ls []) := by
    intro n
    induction n with
    | zero => intro S x2 x3 H locs ls h hP hS hl; exact no_some h
    | succ n ih =>
      intro S x2 x3 H locs ls h hP hS hl
      rw [fX5_room_L34] at h
      refine lv_iload_n hx hb dX5_room_34 rfl (lv_at hl 2 rfl) ?_
      refine lv_aload_n hx hb dX5_room_35 rfl (lv_at hl 0 rfl) ?_
      refine va_get (D := D) (ci := 5) (v := .int (mN S)) (C := RX5) (T := TX5) (N := 15) hx hb hts hinX5 hown hK hP 0 rfl rfl 6 (by decide) hf38 (fun _ h9 => h9) rfl dX5_room_36 ?_
      refine lv_icmp_ge (tgt := 68) hx hb dX5_room_39 (by decide) (fun c11 => ?_) (fun c11 => ?_)
      · replace h := (if_pos c11).symm.trans h
        refine lv_iload_n hx hb dX5_room_68 rfl (lv_at hl 1 rfl) ?_
        have h := Option.some.inj h
        subst h
        exact W.iret (v := x2) hx hb hr (fun t ht hW => ⟨⟨_, (), rfl, rfl, gh ht hP⟩, hS.F ht⟩) hS.2.2 dX5_room_69
      · replace h := (if_neg c11).symm.trans h
        refine lv_iload_n hx hb dX5_room_42 rfl (lv_at hl 1 rfl) ?_
        refine lv_aload_n hx hb dX5_room_43 rfl (lv_at hl 0 rfl) ?_
        refine lv_aload_n hx hb dX5_room_44 rfl (lv_at hl 0 rfl) ?_
        refine va_get (D := D) (ci := 5) (v := .ref (q + 3)) (C := RX5) (T := TX5) (N := 15) hx hb hts hinX5 hown hK hP 0 rfl rfl 7 (by decide) hf16 (fun _ h9 => h9) rfl dX5_room_45 ?_
        refine lv_iload_n hx hb dX5_room_48 rfl (lv_at hl 2 rfl) ?_
        obtain ⟨r49, hr49, h⟩ := bd_some h
        refine gc_ri (As := [.ref (q + 3), .int x3]) (rest := [.int x2]) ⟨hx, hb, hml, hown, hts⟩ hK (kX5_isFree l D cI cC cZ cQ cJ q 3 S x3 (Or.inr (Or.inl rfl)) hr49) (cwV 2 hts gX5_room_X5_isFree rfl rfl rfl (by decide +kernel) ⟨Nat.le_of_ble_eq_true rfl, Nat.le_of_ble_eq_true rfl⟩) (va_recv hK hP (ci := 5) (q0 := 0) rfl rfl) hP rfl hl.1 rfl (Nat.le_of_ble_eq_true rfl) ⟨Nat.zero_le _, Nat.zero_le _⟩ dX5_room_49 ?_
        refine lv_if_eq (tgt := 59) hx hb dX5_room_52 (by decide) (fun c12 => ?_) (fun c12 => ?_)
        · replace h := (if_pos c12).symm.trans h
          refine lv_iconst (v := 0) hx hb dX5_room_59 (by decide) ?_
          refine lv_iadd hx hb dX5_room_60 ?_
          refine lv_istore_n (lv' := [(2, .int (x2 + 0)), (0, .ref q), (3, .int x3)]) hx hb dX5_room_61 rfl hl (by decide) rfl (fun ls hl => ?_)
          refine lv_iinc (v := (x3 + 1)) (lv' := [(3, .int (x3 + 1)), (2, .int (x2 + 0)), (0, .ref q)]) hx hb dX5_room_62 hl (k := 2) rfl rfl (by decide) rfl (fun ls hl => ?_)
          refine lv_goto (tgt := 34) hx hb dX5_room_65 (by decide) ?_
          exact ih S (x2 + 0) (x3 + 1) H locs ls h hP hS (lv_sub hl [2, 1, 0] rfl)
        · replace h := (if_neg c12).symm.trans h
          refine lv_iconst (v := 1) hx hb dX5_room_55 (by decide) ?_
          refine lv_goto (tgt := 60) hx hb dX5_room_56 (by decide) ?_
          refine lv_iadd hx hb dX5_room_60 ?_
          refine lv_istore_n (lv' := [(2, .int (x2 + 1)), (0, .ref q), (3, .int x3)]) hx hb dX5_room_61 rfl hl (by decide) rfl (fun ls hl => ?_)
          refine lv_iinc (v := (x3 + 1)) (lv' := [(3, .int (x3 + 1)), (2, .int (x2 + 1)), (0, .ref q)]) hx hb dX5_room_62 hl (k := 2) rfl rfl (by decide) rfl (fun ls hl => ?_)
          refine lv_goto (tgt := 34) hx hb dX5_room_65 (by decide) ?_
          exact ih S (x2 + 1) (x3 + 1) H locs ls h hP hS (lv_sub hl [2, 1, 0] rfl)
  unfold fX5_room at h
  obtain ⟨H, hH⟩ : ∃ H, H = s.heap := ⟨_, rfl⟩
  obtain ⟨locs, hlz⟩ : ∃ z : List Loc, z = [] := ⟨_, rfl⟩
  have hP : va_P D vwCl (MW cI cZ q M) H := by rw [hH]; exact hP
  have hS : va_S (fIv q 10) s.heap H locs := by rw [hH, hlz]; exact hS
  refine gc_at hH hlz ?_
  refine lv_aload_n hx hb dX5_room_0 rfl (lv_at hl 0 rfl) ?_
  refine lv_iload_n hx hb dX5_room_1 rfl (lv_at hl 1 rfl) ?_
  refine lv_i2l hx hb dX5_room_2 rfl ?_
  refine lv_lconst (v := 0) hx hb dX5_room_3 (by decide) ?_
  refine lv_ldc2 (v := 2) hx hb hown (hts (.constantLong RX5 181 (2)) (by decide +kernel)) dX5_room_4 ?_
  obtain ⟨r7, hr7, h⟩ := bd_some h
  refine gc_si (As := [.long ((p0).toInt64), .long 0, .long 2]) (rest := [.ref q]) ⟨hx, hb, hml, hown, hts⟩ hK (kX5_in l D cI cC cZ cQ cJ ((p0).toInt64) 0 2 hr7) (va_cwS 3 hts gX5_room_X5_in rfl rfl rfl (by decide +kernel) ⟨Nat.le_of_ble_eq_true rfl, Nat.le_of_ble_eq_true rfl⟩)  trivial rfl hl.1 rfl (Nat.le_of_ble_eq_true rfl) ⟨Nat.zero_le _, Nat.zero_le _⟩ dX5_room_7 ?_
  refine lv_if_eq (tgt := 17) hx hb dX5_room_10 (by decide) (fun c1 => ?_) (fun c1 => ?_)
  · replace h := (if_pos c1).symm.trans h
    refine lv_iconst (v := 1) hx hb dX5_room_17 (by decide) ?_
    obtain ⟨r18, hr18, h⟩ := bd_some h
    refine gc_wi (As := [.int 1]) (rest := []) ⟨hx, hb, hml, hown, hts⟩ hK (kX5_refused l D cI cC cZ cQ cJ q M 1 hr18) (cwV 1 hts gX5_room_X5_refused rfl rfl rfl (by decide +kernel) ⟨Nat.le_of_ble_eq_true rfl, Nat.le_of_ble_eq_true rfl⟩) (va_recv hK hP (ci := 5) (q0 := 0) rfl rfl) hP hS (fun _ h => h) rfl hl.1 rfl (Nat.le_of_ble_eq_true rfl) ⟨Nat.zero_le _, Nat.zero_le _⟩ dX5_room_18 (fun H locs hP hS _ _ => ?_)
    refine lv_if_eq (tgt := 26) hx hb dX5_room_21 (by decide) (fun c2 => ?_) (fun c2 => ?_)
    · replace h := (if_pos c2).symm.trans h
      refine lv_iload_n hx hb dX5_room_26 rfl (lv_at hl 1 rfl) ?_
      refine lv_if_ne (tgt := 70) hx hb dX5_room_27 (by decide) (fun c3 => ?_) (fun c3 => ?_)
      · replace h := (if_neg c3).symm.trans h
        refine lv_iload_n hx hb dX5_room_70 rfl (lv_at hl 1 rfl) ?_
        refine lv_iconst (v := 2) hx hb dX5_room_71 (by decide) ?_
        refine lv_icmp_ne (tgt := 88) hx hb dX5_room_72 (by decide) (fun c4 => ?_) (fun c4 => ?_)
        · replace h := (if_neg c4).symm.trans h
          refine lv_bipush (v := (-9)) hx hb dX5_room_88 (by decide) ?_
          refine lv_istore_n (lv' := [(2, .int (-9)), (0, .ref q), (1, .int p0)]) hx hb dX5_room_90 rfl hl (by decide) rfl (fun ls hl => ?_)
          refine lv_iconst (v := 0) hx hb dX5_room_91 (by decide) ?_
          refine lv_istore_n (lv' := [(3, .int 0), (2, .int (-9)), (0, .ref q), (1, .int p0)]) hx hb dX5_room_92 rfl hl (by decide) rfl (fun ls hl => ?_)
          exact LP93 KF r18.2 (-9) 0 H locs ls h hP hS (lv_sub hl [2, 1, 0] rfl)
        · replace h := (if_pos c4).symm.trans h
          refine lv_aload_n hx hb dX5_room_75 rfl (lv_at hl 0 rfl) ?_
          refine va_get (D := D) (ci := 5) (v := .int (mN r18.2)) (C := RX5) (T := TX5) (N := 15) hx hb hts hinX5 hown hK hP 0 rfl rfl 6 (by decide) hf38 (fun _ h9 => h9) rfl dX5_room_76 ?_
          refine lv_aload_n hx hb dX5_room_79 rfl (lv_at hl 0 rfl) ?_
          refine va_get (D := D) (ci := 5) (v := .ref (q + 3)) (C := RX5) (T := TX5) (N := 15) hx hb hts hinX5 hown hK hP 0 rfl rfl 7 (by decide) hf16 (fun _ h9 => h9) rfl dX5_room_80 ?_
          refine lv_bipush (v := 102) hx hb dX5_room_83 (by decide) ?_
          refine g_iald (f := ((mA r18.2) 3)) (k := 102) hx hb hK hP 3 0 rfl rfl (vin_lit rfl) rfl dX5_room_85 ?_
          obtain ⟨hn10, h⟩ := nz_some h
          refine lv_idiv hx hb dX5_room_86 hn10 ?_
          have h := Option.some.inj h
          subst h
          exact W.iret (v := ((mN r18.2) / (((mA r18.2) 3) 102))) hx hb hr (fun t ht hW => ⟨⟨_, (), rfl, rfl, gh ht hP⟩, hS.F ht⟩) hS.2.2 dX5_room_87
      · replace h := (if_pos c3).symm.trans h
        refine lv_iconst (v := 0) hx hb dX5_room_30 (by decide) ?_
        refine lv_istore_n (lv' := [(2, .int 0), (0, .ref q), (1, .int p0)]) hx hb dX5_room_31 rfl hl (by decide) rfl (fun ls hl => ?_)
        refine lv_iconst (v := 0) hx hb dX5_room_32 (by decide) ?_
        refine lv_istore_n (lv' := [(3, .int 0), (2, .int 0), (0, .ref q), (1, .int p0)]) hx hb dX5_room_33 rfl hl (by decide) rfl (fun ls hl => ?_)
        exact LP34 KF r18.2 0 0 H locs ls h hP hS (lv_sub hl [2, 1, 0] rfl)
    · replace h := (if_neg c2).symm.trans h
      refine lv_iconst (v := 0) hx hb dX5_room_24 (by decide) ?_
      have h := Option.some.inj h
      subst h
      exact W.iret (v := 0) hx hb hr (fun t ht hW => ⟨⟨_, (), rfl, rfl, gh ht hP⟩, hS.F ht⟩) hS.2.2 dX5_room_25
  · replace h := (if_neg c1).symm.trans h
    refine lv_iconst (v := 0) hx hb dX5_room_13 (by decide) ?_
    refine lv_goto (tgt := 18) hx hb dX5_room_14 (by decide) ?_
    obtain ⟨r18, hr18, h⟩ := bd_some h
    refine gc_wi (As := [.int 0]) (rest := []) ⟨hx, hb, hml, hown, hts⟩ hK (kX5_refused l D cI cC cZ cQ cJ q M 0 hr18) (cwV 1 hts gX5_room_X5_refused rfl rfl rfl (by decide +kernel) ⟨Nat.le_of_ble_eq_true rfl, Nat.le_of_ble_eq_true rfl⟩) (va_recv hK hP (ci := 5) (q0 := 0) rfl rfl) hP hS (fun _ h => h) rfl hl.1 rfl (Nat.le_of_ble_eq_true rfl) ⟨Nat.zero_le _, Nat.zero_le _⟩ dX5_room_18 (fun H locs hP hS _ _ => ?_)
    refine lv_if_eq (tgt := 26) hx hb dX5_room_21 (by decide) (fun c13 => ?_) (fun c13 => ?_)
    · replace h := (if_pos c13).symm.trans h
      refine lv_iload_n hx hb dX5_room_26 rfl (lv_at hl 1 rfl) ?_
      refine lv_if_ne (tgt := 70) hx hb dX5_room_27 (by decide) (fun c14 => ?_) (fun c14 => ?_)
      · replace h := (if_neg c14).symm.trans h
        refine lv_iload_n hx hb dX5_room_70 rfl (lv_at hl 1 rfl) ?_
        refine lv_iconst (v := 2) hx hb dX5_room_71 (by decide) ?_
        refine lv_icmp_ne (tgt := 88) hx hb dX5_room_72 (by decide) (fun c15 => ?_) (fun c15 => ?_)
        · replace h := (if_neg c15).symm.trans h
          refine lv_bipush (v := (-9)) hx hb dX5_room_88 (by decide) ?_
          refine lv_istore_n (lv' := [(2, .int (-9)), (0, .ref q), (1, .int p0)]) hx hb dX5_room_90 rfl hl (by decide) rfl (fun ls hl => ?_)
          refine lv_iconst (v := 0) hx hb dX5_room_91 (by decide) ?_
          refine lv_istore_n (lv' := [(3, .int 0), (2, .int (-9)), (0, .ref q), (1, .int p0)]) hx hb dX5_room_92 rfl hl (by decide) rfl (fun ls hl => ?_)
          exact LP93 KF r18.2 (-9) 0 H locs ls h hP hS (lv_sub hl [2, 1, 0] rfl)
        · replace h := (if_pos c15).symm.trans h
          refine lv_aload_n hx hb dX5_room_75 rfl (lv_at hl 0 rfl) ?_
          refine va_get (D := D) (ci := 5) (v := .int (mN r18.2)) (C := RX5) (T := TX5) (N := 15) hx hb hts hinX5 hown hK hP 0 rfl rfl 6 (by decide) hf38 (fun _ h9 => h9) rfl dX5_room_76 ?_
          refine lv_aload_n hx hb dX5_room_79 rfl (lv_at hl 0 rfl) ?_
          refine va_get (D := D) (ci := 5) (v := .ref (q + 3)) (C := RX5) (T := TX5) (N := 15) hx hb hts hinX5 hown hK hP 0 rfl rfl 7 (by decide) hf16 (fun _ h9 => h9) rfl dX5_room_80 ?_
          refine lv_bipush (v := 102) hx hb dX5_room_83 (by decide) ?_
          refine g_iald (f := ((mA r18.2) 3)) (k := 102) hx hb hK hP 3 0 rfl rfl (vin_lit rfl) rfl dX5_room_85 ?_
          obtain ⟨hn16, h⟩ := nz_some h
          refine lv_idiv hx hb dX5_room_86 hn16 ?_
          have h := Option.some.inj h
          subst h
          exact W.iret (v := ((mN r18.2) / (((mA r18.2) 3) 102))) hx hb hr (fun t ht hW => ⟨⟨_, (), rfl, rfl, gh ht hP⟩, hS.F ht⟩) hS.2.2 dX5_room_87
      · replace h := (if_pos c14).symm.trans h
        refine lv_iconst (v := 0) hx hb dX5_room_30 (by decide) ?_
        refine lv_istore_n (lv' := [(2, .int 0), (0, .ref q), (1, .int p0)]) hx hb dX5_room_31 rfl hl (by decide) rfl (fun ls hl => ?_)
        refine lv_iconst (v := 0) hx hb dX5_room_32 (by decide) ?_
        refine lv_istore_n (lv' := [(3, .int 0), (2, .int 0), (0, .ref q), (1, .int p0)]) hx hb dX5_room_33 rfl hl (by decide) rfl (fun ls hl => ?_)
        exact LP34 KF r18.2 0 0 H locs ls h hP hS (lv_sub hl [2, 1, 0] rfl)
    · replace h := (if_neg c13).symm.trans h
      refine lv_iconst (v := 0) hx hb dX5_room_24 (by decide) ?_
      have h := Option.some.inj h
      subst h
      exact W.iret (v := 0) hx hb hr (fun t ht hW => ⟨⟨_, (), rfl, rfl, gh ht hP⟩, hS.F ht⟩) hS.2.2 dX5_room_25
set_option maxHeartbeats 4000000 in
set_option maxRecDepth 100000 in
theorem kX5_isLike (l : Launch) (D : va_G) (cI cC cZ cQ cJ : ClassId) (q : Nat) (M : MSt) (p0 : Int32) (p1 : Int32) {R : Int32} (h : fX5_isLike M p0 p1 = some R) : Met l yX5_isLike wsX5_isLike ({ frames := 0, cells := 0, slots := 0, locals := 0 } : Room) (va_Pc [.ref q, .int p0, .int p1] (gB D (gTy cI cC cZ cQ cJ) (va_P D vwCl (MW cI cZ q M)))) (vp_Si (fun r => r = R)) 0 0 (fun _ => False) := by
  refine Met.ofW (cc := cX5_isLike) (maxL := 3) (ret := (some .boolean)) (by decide) rfl ?_
  intro p e s m args below meth c s₁ B hml hv
  obtain ⟨rfl, hP, hK⟩ := hv
  have hx := B.exec
  have hb := B.bytes
  have hr := B.returns
  have hts := atoms_spec (ws := wsX5_isLike) B.pre
  have hown : s.vm.findClass RX5 = some m.cls := findClass_of_methodNamed B.named
  have hlocks := B.notSynchronized
  have hinX5 : ∀ w ∈ wsX50, w ∈ wsX5_isLike := by decide +kernel
  have hf16 := hts (.fieldLink RX5 16 "GripInspectorModel" "now" "[I") (by decide +kernel)
  generalize hRM : (headSpec wsX5_isLike ({ frames := 0, cells := 0, slots := 0, locals := 0 } : Room)).room = RM
  replace hRM : ({ frames := 0, cells := 0, slots := 0, locals := 0 } : Room) = RM := hRM
  subst hRM
  have hl := lv_entry ([.ref q, .int p0, .int p1]) (n := 3) (Nat.le_of_ble_eq_true rfl)
  rw [lg_entry_eq]
  generalize (lg_sl ([.ref q, .int p0, .int p1]) ++ List.replicate (3 - (lg_sl ([.ref q, .int p0, .int p1])).length) Slot.unset).toArray = ls at hl ⊢
  have hl : lv_has ls 3 [(0, .ref q), (1, .int p0), (2, .int p1)] := hl
  unfold fX5_isLike at h
  refine lv_aload_n hx hb dX5_isLike_0 rfl (lv_at hl 0 rfl) ?_
  refine va_get (D := D) (ci := 5) (v := .ref (q + 3)) (C := RX5) (T := TX5) (N := 15) hx hb hts hinX5 hown hK hP 0 rfl rfl 7 (by decide) hf16 (fun _ h9 => h9) rfl dX5_isLike_1 ?_
  refine lv_bipush (v := 60) hx hb dX5_isLike_4 (by decide) ?_
  refine lv_iload_n hx hb dX5_isLike_6 rfl (lv_at hl 1 rfl) ?_
  refine lv_iadd hx hb dX5_isLike_7 ?_
  obtain ⟨hg1, h⟩ := gd_some h
  refine g_iald (f := ((mA M) 3)) (k := ((60 + p0)).toNatClampNeg) hx hb hK hP 3 0 rfl rfl hg1 rfl dX5_isLike_8 ?_
  refine lv_iconst (v := 3) hx hb dX5_isLike_9 (by decide) ?_
  refine lv_icmp_eq (tgt := 76) hx hb dX5_isLike_10 (by decide) (fun c2 => ?_) (fun c2 => ?_)
  · replace h := (if_pos c2).symm.trans h
    refine lv_iconst (v := 0) hx hb dX5_isLike_76 (by decide) ?_
    have h := Option.some.inj h
    exact W.zret (v := 0) hx hb hr rfl (fun t ht hW => ⟨_, rfl, h, ht⟩) t_nil dX5_isLike_77
  · replace h := (if_neg c2).symm.trans h
    refine lv_aload_n hx hb dX5_isLike_13 rfl (lv_at hl 0 rfl) ?_
    refine va_get (D := D) (ci := 5) (v := .ref (q + 3)) (C := RX5) (T := TX5) (N := 15) hx hb hts hinX5 hown hK hP 0 rfl rfl 7 (by decide) hf16 (fun _ h9 => h9) rfl dX5_isLike_14 ?_
    refine lv_bipush (v := 60) hx hb dX5_isLike_17 (by decide) ?_
    refine lv_iload_n hx hb dX5_isLike_19 rfl (lv_at hl 2 rfl) ?_
    refine lv_iadd hx hb dX5_isLike_20 ?_
    obtain ⟨hg3, h⟩ := gd_some h
    refine g_iald (f := ((mA M) 3)) (k := ((60 + p1)).toNatClampNeg) hx hb hK hP 3 0 rfl rfl hg3 rfl dX5_isLike_21 ?_
    refine lv_iconst (v := 3) hx hb dX5_isLike_22 (by decide) ?_
    refine lv_icmp_eq (tgt := 76) hx hb dX5_isLike_23 (by decide) (fun c4 => ?_) (fun c4 => ?_)
    · replace h := (if_pos c4).symm.trans h
      refine lv_iconst (v := 0) hx hb dX5_isLike_76 (by decide) ?_
      have h := Option.some.inj h
      exact W.zret (v := 0) hx hb hr rfl (fun t ht hW => ⟨_, rfl, h, ht⟩) t_nil dX5_isLike_77
    · replace h := (if_neg c4).symm.trans h
      refine lv_aload_n hx hb dX5_isLike_26 rfl (lv_at hl 0 rfl) ?_
      refine va_get (D := D) (ci := 5) (v := .ref (q + 3)) (C := RX5) (T := TX5) (N := 15) hx hb hts hinX5 hown hK hP 0 rfl rfl 7 (by decide) hf16 (fun _ h9 => h9) rfl dX5_isLike_27 ?_
      refine lv_iconst (v := 0) hx hb dX5_isLike_30 (by decide) ?_
      refine lv_iload_n hx hb dX5_isLike_31 rfl (lv_at hl 1 rfl) ?_
      refine lv_iadd hx hb dX5_isLike_32 ?_
      obtain ⟨hg5, h⟩ := gd_some h
      refine g_iald (f := ((mA M) 3)) (k := ((0 + p0)).toNatClampNeg) hx hb hK hP 3 0 rfl rfl hg5 rfl dX5_isLike_33 ?_
      refine lv_aload_n hx hb dX5_isLike_34 rfl (lv_at hl 0 rfl) ?_
      refine va_get (D := D) (ci := 5) (v := .ref (q + 3)) (C := RX5) (T := TX5) (N := 15) hx hb hts hinX5 hown hK hP 0 rfl rfl 7 (by decide) hf16 (fun _ h9 => h9) rfl dX5_isLike_35 ?_
      refine lv_iconst (v := 0) hx hb dX5_isLike_38 (by decide) ?_
      refine lv_iload_n hx hb dX5_isLike_39 rfl (lv_at hl 2 rfl) ?_
      refine lv_iadd hx hb dX5_isLike_40 ?_
      obtain ⟨hg6, h⟩ := gd_some h
      refine g_iald (f := ((mA M) 3)) (k := ((0 + p1)).toNatClampNeg) hx hb hK hP 3 0 rfl rfl hg6 rfl dX5_isLike_41 ?_
      refine lv_icmp_ne (tgt := 76) hx hb dX5_isLike_42 (by decide) (fun c7 => ?_) (fun c7 => ?_)
      · replace h := (if_neg c7).symm.trans h
        refine lv_iconst (v := 0) hx hb dX5_isLike_76 (by decide) ?_
        have h := Option.some.inj h
        exact W.zret (v := 0) hx hb hr rfl (fun t ht hW => ⟨_, rfl, h, ht⟩) t_nil dX5_isLike_77
      · replace h := (if_pos c7).symm.trans h
        refine lv_aload_n hx hb dX5_isLike_45 rfl (lv_at hl 0 rfl) ?_
        refine va_get (D := D) (ci := 5) (v := .ref (q + 3)) (C := RX5) (T := TX5) (N := 15) hx hb hts hinX5 hown hK hP 0 rfl rfl 7 (by decide) hf16 (fun _ h9 => h9) rfl dX5_isLike_46 ?_
        refine lv_bipush (v := 12) hx hb dX5_isLike_49 (by decide) ?_
        refine lv_iload_n hx hb dX5_isLike_51 rfl (lv_at hl 1 rfl) ?_
        refine lv_iadd hx hb dX5_isLike_52 ?_
        obtain ⟨hg8, h⟩ := gd_some h
        refine g_iald (f := ((mA M) 3)) (k := ((12 + p0)).toNatClampNeg) hx hb hK hP 3 0 rfl rfl hg8 rfl dX5_isLike_53 ?_
        refine lv_bipush (v := 10) hx hb dX5_isLike_54 (by decide) ?_
        refine lv_idiv hx hb dX5_isLike_56 (by decide) ?_
        refine lv_aload_n hx hb dX5_isLike_57 rfl (lv_at hl 0 rfl) ?_
        refine va_get (D := D) (ci := 5) (v := .ref (q + 3)) (C := RX5) (T := TX5) (N := 15) hx hb hts hinX5 hown hK hP 0 rfl rfl 7 (by decide) hf16 (fun _ h9 => h9) rfl dX5_isLike_58 ?_
        refine lv_bipush (v := 12) hx hb dX5_isLike_61 (by decide) ?_
        refine lv_iload_n hx hb dX5_isLike_63 rfl (lv_at hl 2 rfl) ?_
        refine lv_iadd hx hb dX5_isLike_64 ?_
        obtain ⟨hg9, h⟩ := gd_some h
        refine g_iald (f := ((mA M) 3)) (k := ((12 + p1)).toNatClampNeg) hx hb hK hP 3 0 rfl rfl hg9 rfl dX5_isLike_65 ?_
        refine lv_bipush (v := 10) hx hb dX5_isLike_66 (by decide) ?_
        refine lv_idiv hx hb dX5_isLike_68 (by decide) ?_
        refine lv_icmp_ne (tgt := 76) hx hb dX5_isLike_69 (by decide) (fun c10 => ?_) (fun c10 => ?_)
        · replace h := (if_neg c10).symm.trans h
          refine lv_iconst (v := 0) hx hb dX5_isLike_76 (by decide) ?_
          have h := Option.some.inj h
          exact W.zret (v := 0) hx hb hr rfl (fun t ht hW => ⟨_, rfl, h, ht⟩) t_nil dX5_isLike_77
        · replace h := (if_pos c10).symm.trans h
          refine lv_iconst (v := 1) hx hb dX5_isLike_72 (by decide) ?_
          refine lv_goto (tgt := 77) hx hb dX5_isLike_73 (by decide) ?_
          have h := Option.some.inj h
          exact W.zret (v := 1) hx hb hr rfl (fun t ht hW => ⟨_, rfl, h, ht⟩) t_nil dX5_isLike_77
set_option maxHeartbeats 4000000 in
set_option maxRecDepth 100000 in
theorem kX5_groups (l : Launch) (D : va_G) (cI cC cZ cQ cJ : ClassId) (q : Nat) (M : MSt) (p0 : Int32) {R : Int32 × MSt} (h : fX5_groups M p0 = some R) : Met l yX5_groups wsX5_groups ({ frames := 1, cells := 0, slots := 0, locals := 25 } : Room) (va_Pc [.ref q, .int p0] (gB D (gTy cI cC cZ cQ cJ) (va_P D vwCl (MW cI cZ q M)))) (va_Qi (fun r (_ : Unit) => r = R.1) (fun _ t => va_P D vwCl (MW cI cZ q R.2) t.heap) (fIv q 10)) 0 0 (fIv q 10) := by
  refine Met.ofW (cc := cX5_groups) (maxL := 9) (ret := (some .int)) (by decide) rfl ?_
  intro p e s m args below meth c s₁ B hml hv
  obtain ⟨rfl, hP, hK⟩ := hv
  have hx := B.exec
  have hb := B.bytes
  have hr := B.returns
  have hts := atoms_spec (ws := wsX5_groups) B.pre
  have hown : s.vm.findClass RX5 = some m.cls := findClass_of_methodNamed B.named
  have hlocks := B.notSynchronized
  have hinX5 : ∀ w ∈ wsX50, w ∈ wsX5_groups := by decide +kernel
  have hf16 := hts (.fieldLink RX5 16 "GripInspectorModel" "now" "[I") (by decide +kernel)
  generalize hRM : (headSpec wsX5_groups ({ frames := 1, cells := 0, slots := 0, locals := 25 } : Room)).room = RM
  replace hRM : ({ frames := 1, cells := 0, slots := 0, locals := 25 } : Room) = RM := hRM
  subst hRM
  have hl := lv_entry ([.ref q, .int p0]) (n := 9) (Nat.le_of_ble_eq_true rfl)
  rw [lg_entry_eq]
  generalize (lg_sl ([.ref q, .int p0]) ++ List.replicate (9 - (lg_sl ([.ref q, .int p0])).length) Slot.unset).toArray = ls at hl ⊢
  have hl : lv_has ls 9 [(0, .ref q), (1, .int p0)] := hl
  have hS : va_S (fIv q 10) s.heap s.heap [] := va_S.rf
  have LP76 : ∀ (kk : MSt → Int32 → Int32 → Int32 → Int32 → Int32 → Int32 → Int32 → Option (Int32 × MSt)) (n : Nat) (S : MSt) (x1 : Int32) (x2 : Int32) (x3 : Int32) (x4 : Int32) (x5 : Int32) (x6 : Int32) (x7 : Int32) (x8 : Int32) (H : Heap) (locs : List Loc) (ls : Array Slot), fX5_groups_L76 kk n S x1 x2 x3 x4 x5 x6 x7 x8 = some R → (∀ (S : MSt) (y1 : Int32) (y2 : Int32) (y3 : Int32) (y4 : Int32) (y5 : Int32) (y6 : Int32) (y7 : Int32) (H : Heap) (locs : List Loc) (ls : Array Slot), kk S y1 y2 y3 y4 y5 y6 y7 = some R → va_P D vwCl (MW cI cZ q S) H → va_S (fIv q 10) s.heap H locs → lv_has ls 9 [(0, .ref q), (1, .int y1), (2, .int y2), (3, .int y3), (4, .int y4), (5, .int y5), (6, .int y6), (7, .int y7)] → W p l e ({ frames := 1, cells := 0, slots := 0, locals := 25 } : Room) s m ([.ref q, .int p0] : List Value).toArray below meth c H locs 0 0 (MQ below (va_Qi (fun r (_ : Unit) => r = R.1) (fun _ t => va_P D vwCl (MW cI cZ q R.2) t.heap) (fIv q 10)) ([.ref q, .int p0] : List Value).toArray s 0 0 (fIv q 10)) (F0 m 145 ls [])) → va_P D vwCl (MW cI cZ q S) H → va_S (fIv q 10) s.heap H locs → lv_has ls 9 [(0, .ref q), (1, .int x1), (2, .int x2), (3, .int x3), (4, .int x4), (5, .int x5), (6, .int x6), (7, .int x7), (8, .int x8)] → W p l e ({ frames := 1, cells := 0, slots := 0, locals := 25 } : Room) s m ([.ref q, .int p0] : List Value).toArray below meth c H locs 0 0 (MQ below (va_Qi (fun r (_ : Unit) => r = R.1) (fun _ t => va_P D vwCl (MW cI cZ q R.2) t.heap) (fIv q 10)) ([.ref q, .int p0] : List Value).toArray s 0 0 (fIv q 10)) (F0 m 76 ls []) := by
    intro kk n
    induction n with
    | zero => intro S x1 x2 x3 x4 x5 x6 x7 x8 H locs ls h hk hP hS hl; exact no_some h
    | succ n ih =>
      intro S x1 x2 x3 x4 x5 x6 x7 x8 H locs ls h hk hP hS hl
      rw [fX5_groups_L76] at h
      refine lv_iload hx hb dX5_groups_76 (lv_at hl 8 rfl) ?_
      refine lv_aload_n hx hb dX5_groups_78 rfl (lv_at hl 0 rfl) ?_
      refine va_get (D := D) (ci := 5) (v := .ref (q + 3)) (C := RX5) (T := TX5) (N := 15) hx hb hts hinX5 hown hK hP 0 rfl rfl 7 (by decide) hf16 (fun _ h9 => h9) rfl dX5_groups_79 ?_
      refine lv_bipush (v := 96) hx hb dX5_groups_82 (by decide) ?_
      refine g_iald (f := ((mA S) 3)) (k := 96) hx hb hK hP 3 0 rfl rfl (vin_lit rfl) rfl dX5_groups_84 ?_
      refine lv_icmp_ge (tgt := 145) hx hb dX5_groups_85 (by decide) (fun c8 => ?_) (fun c8 => ?_)
      · replace h := (if_pos c8).symm.trans h
        exact hk S x1 x2 x3 x4 x5 x6 x7 H locs ls h hP hS (lv_sub hl [0, 1, 2, 3, 4, 5, 6, 7] rfl)
      · replace h := (if_neg c8).symm.trans h
        refine lv_iload hx hb dX5_groups_88 (lv_at hl 6 rfl) ?_
        refine lv_aload_n hx hb dX5_groups_90 rfl (lv_at hl 0 rfl) ?_
        refine lv_iload hx hb dX5_groups_91 (lv_at hl 5 rfl) ?_
        refine lv_iload hx hb dX5_groups_93 (lv_at hl 8 rfl) ?_
        obtain ⟨r95, hr95, h⟩ := bd_some h
        refine gc_ri (As := [.int x5, .int x8]) (rest := [.int x6]) ⟨hx, hb, hml, hown, hts⟩ hK (kX5_isLike l D cI cC cZ cQ cJ q S x5 x8 hr95) (cwV 2 hts gX5_groups_X5_isLike rfl rfl rfl (by decide +kernel) ⟨Nat.le_of_ble_eq_true rfl, Nat.le_of_ble_eq_true rfl⟩) (va_recv hK hP (ci := 5) (q0 := 0) rfl rfl) hP rfl hl.1 rfl (Nat.le_of_ble_eq_true rfl) ⟨Nat.zero_le _, Nat.zero_le _⟩ dX5_groups_95 ?_
        refine lv_if_eq (tgt := 105) hx hb dX5_groups_98 (by decide) (fun c9 => ?_) (fun c9 => ?_)
        · replace h := (if_pos c9).symm.trans h
          refine lv_iconst (v := 0) hx hb dX5_groups_105 (by decide) ?_
          refine lv_iadd hx hb dX5_groups_106 ?_
          refine lv_istore (lv' := [(6, .int (x6 + 0)), (0, .ref q), (1, .int x1), (2, .int x2), (3, .int x3), (4, .int x4), (5, .int x5), (7, .int x7), (8, .int x8)]) hx hb dX5_groups_107 hl (by decide) rfl (fun ls hl => ?_)
          refine lv_iload hx hb dX5_groups_109 (lv_at hl 7 rfl) ?_
          refine lv_if_eq (tgt := 136) hx hb dX5_groups_111 (by decide) (fun c10 => ?_) (fun c10 => ?_)
          · replace h := (if_pos c10).symm.trans h
            refine lv_iconst (v := 0) hx hb dX5_groups_136 (by decide) ?_
            refine lv_istore (lv' := [(7, .int 0), (6, .int (x6 + 0)), (0, .ref q), (1, .int x1), (2, .int x2), (3, .int x3), (4, .int x4), (5, .int x5), (8, .int x8)]) hx hb dX5_groups_137 hl (by decide) rfl (fun ls hl => ?_)
            refine lv_iinc (v := (x8 + 1)) (lv' := [(8, .int (x8 + 1)), (7, .int 0), (6, .int (x6 + 0)), (0, .ref q), (1, .int x1), (2, .int x2), (3, .int x3), (4, .int x4), (5, .int x5)]) hx hb dX5_groups_139 hl (k := 8) rfl rfl (by decide) rfl (fun ls hl => ?_)
            refine lv_goto (tgt := 76) hx hb dX5_groups_142 (by decide) ?_
            exact ih S x1 x2 x3 x4 x5 (x6 + 0) 0 (x8 + 1) H locs ls h hk hP hS (lv_sub hl [3, 4, 5, 6, 7, 8, 2, 1, 0] rfl)
          · replace h := (if_neg c10).symm.trans h
            refine lv_iload hx hb dX5_groups_114 (lv_at hl 8 rfl) ?_
            refine lv_iload hx hb dX5_groups_116 (lv_at hl 6 rfl) ?_
            refine lv_icmp_ge (tgt := 132) hx hb dX5_groups_118 (by decide) (fun c11 => ?_) (fun c11 => ?_)
            · replace h := (if_pos c11).symm.trans h
              refine lv_iconst (v := 1) hx hb dX5_groups_132 (by decide) ?_
              refine lv_goto (tgt := 137) hx hb dX5_groups_133 (by decide) ?_
              refine lv_istore (lv' := [(7, .int 1), (6, .int (x6 + 0)), (0, .ref q), (1, .int x1), (2, .int x2), (3, .int x3), (4, .int x4), (5, .int x5), (8, .int x8)]) hx hb dX5_groups_137 hl (by decide) rfl (fun ls hl => ?_)
              refine lv_iinc (v := (x8 + 1)) (lv' := [(8, .int (x8 + 1)), (7, .int 1), (6, .int (x6 + 0)), (0, .ref q), (1, .int x1), (2, .int x2), (3, .int x3), (4, .int x4), (5, .int x5)]) hx hb dX5_groups_139 hl (k := 8) rfl rfl (by decide) rfl (fun ls hl => ?_)
              refine lv_goto (tgt := 76) hx hb dX5_groups_142 (by decide) ?_
              exact ih S x1 x2 x3 x4 x5 (x6 + 0) 1 (x8 + 1) H locs ls h hk hP hS (lv_sub hl [3, 4, 5, 6, 7, 8, 2, 1, 0] rfl)
            · replace h := (if_neg c11).symm.trans h
              refine lv_aload_n hx hb dX5_groups_121 rfl (lv_at hl 1 rfl) ?_
              refine lv_iload hx hb dX5_groups_122 (lv_at hl 6 rfl) ?_
              refine lv_iload hx hb dX5_groups_124 (lv_at hl 8 rfl) ?_
              obtain ⟨r126, hr126, h⟩ := bd_some h
              refine gc_ri (As := [.int x5, .int x8]) (rest := []) ⟨hx, hb, hml, hown, hts⟩ hK (kX5_isLike l D cI cC cZ cQ cJ q S x5 x8 hr126) (cwV 2 hts gX5_groups_X5_isLike rfl rfl rfl (by decide +kernel) ⟨Nat.le_of_ble_eq_true rfl, Nat.le_of_ble_eq_true rfl⟩) (va_recv hK hP (ci := 5) (q0 := 0) rfl rfl) hP rfl hl.1 rfl (Nat.le_of_ble_eq_true rfl) ⟨Nat.zero_le _, Nat.zero_le _⟩ dX5_groups_126 ?_
              refine lv_if_ne (tgt := 136) hx hb dX5_groups_129 (by decide) (fun c12 => ?_) (fun c12 => ?_)
              · replace h := (if_neg c12).symm.trans h
                refine lv_iconst (v := 0) hx hb dX5_groups_136 (by decide) ?_
                refine lv_istore (lv' := [(7, .int 0), (6, .int (x6 + 0)), (0, .ref q), (1, .int x1), (2, .int x2), (3, .int x3), (4, .int x4), (5, .int x5), (8, .int x8)]) hx hb dX5_groups_137 hl (by decide) rfl (fun ls hl => ?_)
                refine lv_iinc (v := (x8 + 1)) (lv' := [(8, .int (x8 + 1)), (7, .int 0), (6, .int (x6 + 0)), (0, .ref q), (1, .int x1), (2, .int x2), (3, .int x3), (4, .int x4), (5, .int x5)]) hx hb dX5_groups_139 hl (k := 8) rfl rfl (by decide) rfl (fun ls hl => ?_)
                refine lv_goto (tgt := 76) hx hb dX5_groups_142 (by decide) ?_
                exact ih S x1 x2 x3 x4 x5 (x6 + 0) 0 (x8 + 1) H locs ls h hk hP hS (lv_sub hl [3, 4, 5, 6, 7, 8, 2, 1, 0] rfl)
              · replace h := (if_pos c12).symm.trans h
                refine lv_iconst (v := 1) hx hb dX5_groups_132 (by decide) ?_
                refine lv_goto (tgt := 137) hx hb dX5_groups_133 (by decide) ?_
                refine lv_istore (lv' := [(7, .int 1), (6, .int (x6 + 0)), (0, .ref q), (1, .int x1), (2, .int x2), (3, .int x3), (4, .int x4), (5, .int x5), (8, .int x8)]) hx hb dX5_groups_137 hl (by decide) rfl (fun ls hl => ?_)
                refine lv_iinc (v := (x8 + 1)) (lv' := [(8, .int (x8 + 1)), (7, .int 1), (6, .int (x6 + 0)), (0, .ref q), (1, .int x1), (2, .int x2), (3, .int x3), (4, .int x4), (5, .int x5)]) hx hb dX5_groups_139 hl (k := 8) rfl rfl (by decide) rfl (fun ls hl => ?_)
                refine lv_goto (tgt := 76) hx hb dX5_groups_142 (by decide) ?_
                exact ih S x1 x2 x3 x4 x5 (x6 + 0) 1 (x8 + 1) H locs ls h hk hP hS (lv_sub hl [3, 4, 5, 6, 7, 8, 2, 1, 0] rfl)
        · replace h := (if_neg c9).symm.trans h
          refine lv_iconst (v := 1) hx hb dX5_groups_101 (by decide) ?_
          refine lv_goto (tgt := 106) hx hb dX5_groups_102 (by decide) ?_
          refine lv_iadd hx hb dX5_groups_106 ?_
          refine lv_istore (lv' := [(6, .int (x6 + 1)), (0, .ref q), (1, .int x1), (2, .int x2), (3, .int x3), (4, .int x4), (5, .int x5), (7, .int x7), (8, .int x8)]) hx hb dX5_groups_107 hl (by decide) rfl (fun ls hl => ?_)
          refine lv_iload hx hb dX5_groups_109 (lv_at hl 7 rfl) ?_
          refine lv_if_eq (tgt := 136) hx hb dX5_groups_111 (by decide) (fun c13 => ?_) (fun c13 => ?_)
          · replace h := (if_pos c13).symm.trans h
            refine lv_iconst (v := 0) hx hb dX5_groups_136 (by decide) ?_
            refine lv_istore (lv' := [(7, .int 0), (6, .int (x6 + 1)), (0, .ref q), (1, .int x1), (2, .int x2), (3, .int x3), (4, .int x4), (5, .int x5), (8, .int x8)]) hx hb dX5_groups_137 hl (by decide) rfl (fun ls hl => ?_)
            refine lv_iinc (v := (x8 + 1)) (lv' := [(8, .int (x8 + 1)), (7, .int 0), (6, .int (x6 + 1)), (0, .ref q), (1, .int x1), (2, .int x2), (3, .int x3), (4, .int x4), (5, .int x5)]) hx hb dX5_groups_139 hl (k := 8) rfl rfl (by decide) rfl (fun ls hl => ?_)
            refine lv_goto (tgt := 76) hx hb dX5_groups_142 (by decide) ?_
            exact ih S x1 x2 x3 x4 x5 (x6 + 1) 0 (x8 + 1) H locs ls h hk hP hS (lv_sub hl [3, 4, 5, 6, 7, 8, 2, 1, 0] rfl)
          · replace h := (if_neg c13).symm.trans h
            refine lv_iload hx hb dX5_groups_114 (lv_at hl 8 rfl) ?_
            refine lv_iload hx hb dX5_groups_116 (lv_at hl 6 rfl) ?_
            refine lv_icmp_ge (tgt := 132) hx hb dX5_groups_118 (by decide) (fun c14 => ?_) (fun c14 => ?_)
            · replace h := (if_pos c14).symm.trans h
              refine lv_iconst (v := 1) hx hb dX5_groups_132 (by decide) ?_
              refine lv_goto (tgt := 137) hx hb dX5_groups_133 (by decide) ?_
              refine lv_istore (lv' := [(7, .int 1), (6, .int (x6 + 1)), (0, .ref q), (1, .int x1), (2, .int x2), (3, .int x3), (4, .int x4), (5, .int x5), (8, .int x8)]) hx hb dX5_groups_137 hl (by decide) rfl (fun ls hl => ?_)
              refine lv_iinc (v := (x8 + 1)) (lv' := [(8, .int (x8 + 1)), (7, .int 1), (6, .int (x6 + 1)), (0, .ref q), (1, .int x1), (2, .int x2), (3, .int x3), (4, .int x4), (5, .int x5)]) hx hb dX5_groups_139 hl (k := 8) rfl rfl (by decide) rfl (fun ls hl => ?_)
              refine lv_goto (tgt := 76) hx hb dX5_groups_142 (by decide) ?_
              exact ih S x1 x2 x3 x4 x5 (x6 + 1) 1 (x8 + 1) H locs ls h hk hP hS (lv_sub hl [3, 4, 5, 6, 7, 8, 2, 1, 0] rfl)
            · replace h := (if_neg c14).symm.trans h
              refine lv_aload_n hx hb dX5_groups_121 rfl (lv_at hl 1 rfl) ?_
              refine lv_iload hx hb dX5_groups_122 (lv_at hl 6 rfl) ?_
              refine lv_iload hx hb dX5_groups_124 (lv_at hl 8 rfl) ?_
              obtain ⟨r126, hr126, h⟩ := bd_some h
              refine gc_ri (As := [.int x5, .int x8]) (rest := []) ⟨hx, hb, hml, hown, hts⟩ hK (kX5_isLike l D cI cC cZ cQ cJ q S x5 x8 hr126) (cwV 2 hts gX5_groups_X5_isLike rfl rfl rfl (by decide +kernel) ⟨Nat.le_of_ble_eq_true rfl, Nat.le_of_ble_eq_true rfl⟩) (va_recv hK hP (ci := 5) (q0 := 0) rfl rfl) hP rfl hl.1 rfl (Nat.le_of_ble_eq_true rfl) ⟨Nat.zero_le _, Nat.zero_le _⟩ dX5_groups_126 ?_
              refine lv_if_ne (tgt := 136) hx hb dX5_groups_129 (by decide) (fun c15 => ?_) (fun c15 => ?_)
              · replace h := (if_neg c15).symm.trans h
                refine lv_iconst (v := 0) hx hb dX5_groups_136 (by decide) ?_
                refine lv_istore (lv' := [(7, .int 0), (6, .int (x6 + 1)), (0, .ref q), (1, .int x1), (2, .int x2), (3, .int x3), (4, .int x4), (5, .int x5), (8, .int x8)]) hx hb dX5_groups_137 hl (by decide) rfl (fun ls hl => ?_)
                refine lv_iinc (v := (x8 + 1)) (lv' := [(8, .int (x8 + 1)), (7, .int 0), (6, .int (x6 + 1)), (0, .ref q), (1, .int x1), (2, .int x2), (3, .int x3), (4, .int x4), (5, .int x5)]) hx hb dX5_groups_139 hl (k := 8) rfl rfl (by decide) rfl (fun ls hl => ?_)
                refine lv_goto (tgt := 76) hx hb dX5_groups_142 (by decide) ?_
                exact ih S x1 x2 x3 x4 x5 (x6 + 1) 0 (x8 + 1) H locs ls h hk hP hS (lv_sub hl [3, 4, 5, 6, 7, 8, 2, 1, 0] rfl)
              · replace h := (if_pos c15).symm.trans h
                refine lv_iconst (v := 1) hx hb dX5_groups_132 (by decide) ?_
                refine lv_goto (tgt := 137) hx hb dX5_groups_133 (by decide) ?_
                refine lv_istore (lv' := [(7, .int 1), (6, .int (x6 + 1)), (0, .ref q), (1, .int x1), (2, .int x2), (3, .int x3), (4, .int x4), (5, .int x5), (8, .int x8)]) hx hb dX5_groups_137 hl (by decide) rfl (fun ls hl => ?_)
                refine lv_iinc (v := (x8 + 1)) (lv' := [(8, .int (x8 + 1)), (7, .int 1), (6, .int (x6 + 1)), (0, .ref q), (1, .int x1), (2, .int x2), (3, .int x3), (4, .int x4), (5, .int x5)]) hx hb dX5_groups_139 hl (k := 8) rfl rfl (by decide) rfl (fun ls hl => ?_)
                refine lv_goto (tgt := 76) hx hb dX5_groups_142 (by decide) ?_
                exact ih S x1 x2 x3 x4 x5 (x6 + 1) 1 (x8 + 1) H locs ls h hk hP hS (lv_sub hl [3, 4, 5, 6, 7, 8, 2, 1, 0] rfl)
  have LP37 : ∀ (n : Nat) (S : MSt) (x1 : Int32) (x2 : Int32) (x3 : Int32) (x4 : Int32) (x5 : Int32) (H : Heap) (locs : List Loc) (ls : Array Slot), fX5_groups_L37 n S x1 x2 x3 x4 x5 = some R → va_P D vwCl (MW cI cZ q S) H → va_S (fIv q 10) s.heap H locs → lv_has ls 9 [(0, .ref q), (1, .int x1), (2, .int x2), (3, .int x3), (4, .int x4), (5, .int x5)] → W p l e ({ frames := 1, cells := 0, slots := 0, locals := 25 } : Room) s m ([.ref q, .int p0] : List Value).toArray below meth c H locs 0 0 (MQ below (va_Qi (fun r (_ : Unit) => r = R.1) (fun _ t => va_P D vwCl (MW cI cZ q R.2) t.heap) (fIv q 10)) ([.ref q, .int p0] : List Value).toArray s 0 0 (fIv q 10)) (F0 m 37 ls []) := by
    intro n
    induction n with
    | zero => intro S x1 x2 x3 x4 x5 H locs ls h hP hS hl; exact no_some h
    | succ n ih =>
      intro S x1 x2 x3 x4 x5 H locs ls h hP hS hl
      rw [fX5_groups_L37] at h
      refine lv_iload hx hb dX5_groups_37 (lv_at hl 5 rfl) ?_
      refine lv_aload_n hx hb dX5_groups_39 rfl (lv_at hl 0 rfl) ?_
      refine va_get (D := D) (ci := 5) (v := .ref (q + 3)) (C := RX5) (T := TX5) (N := 15) hx hb hts hinX5 hown hK hP 0 rfl rfl 7 (by decide) hf16 (fun _ h9 => h9) rfl dX5_groups_40 ?_
      refine lv_bipush (v := 96) hx hb dX5_groups_43 (by decide) ?_
      refine g_iald (f := ((mA S) 3)) (k := 96) hx hb hK hP 3 0 rfl rfl (vin_lit rfl) rfl dX5_groups_45 ?_
      refine lv_icmp_ge (tgt := 182) hx hb dX5_groups_46 (by decide) (fun c3 => ?_) (fun c3 => ?_)
      · replace h := (if_pos c3).symm.trans h
        refine lv_iload_n hx hb dX5_groups_182 rfl (lv_at hl 1 rfl) ?_
        refine lv_if_ne (tgt := 190) hx hb dX5_groups_183 (by decide) (fun c4 => ?_) (fun c4 => ?_)
        · replace h := (if_neg c4).symm.trans h
          refine lv_iload_n hx hb dX5_groups_190 rfl (lv_at hl 1 rfl) ?_
          refine lv_iconst (v := 1) hx hb dX5_groups_191 (by decide) ?_
          refine lv_icmp_ne (tgt := 199) hx hb dX5_groups_192 (by decide) (fun c5 => ?_) (fun c5 => ?_)
          · replace h := (if_neg c5).symm.trans h
            refine lv_iload hx hb dX5_groups_199 (lv_at hl 4 rfl) ?_
            have h := Option.some.inj h
            subst h
            exact W.iret (v := x4) hx hb hr (fun t ht hW => ⟨⟨_, (), rfl, rfl, gh ht hP⟩, hS.F ht⟩) hS.2.2 dX5_groups_201
          · replace h := (if_pos c5).symm.trans h
            refine lv_iload_n hx hb dX5_groups_195 rfl (lv_at hl 3 rfl) ?_
            refine lv_goto (tgt := 201) hx hb dX5_groups_196 (by decide) ?_
            have h := Option.some.inj h
            subst h
            exact W.iret (v := x3) hx hb hr (fun t ht hW => ⟨⟨_, (), rfl, rfl, gh ht hP⟩, hS.F ht⟩) hS.2.2 dX5_groups_201
        · replace h := (if_pos c4).symm.trans h
          refine lv_iload_n hx hb dX5_groups_186 rfl (lv_at hl 2 rfl) ?_
          refine lv_goto (tgt := 201) hx hb dX5_groups_187 (by decide) ?_
          have h := Option.some.inj h
          subst h
          exact W.iret (v := x2) hx hb hr (fun t ht hW => ⟨⟨_, (), rfl, rfl, gh ht hP⟩, hS.F ht⟩) hS.2.2 dX5_groups_201
      · replace h := (if_neg c3).symm.trans h
        refine lv_iconst (v := 0) hx hb dX5_groups_49 (by decide) ?_
        refine lv_istore (lv' := [(6, .int 0), (0, .ref q), (1, .int x1), (2, .int x2), (3, .int x3), (4, .int x4), (5, .int x5)]) hx hb dX5_groups_50 hl (by decide) rfl (fun ls hl => ?_)
        refine lv_aload_n hx hb dX5_groups_52 rfl (lv_at hl 1 rfl) ?_
        refine va_get (D := D) (ci := 5) (v := .ref (q + 3)) (C := RX5) (T := TX5) (N := 15) hx hb hts hinX5 hown hK hP 0 rfl rfl 7 (by decide) hf16 (fun _ h9 => h9) rfl dX5_groups_53 ?_
        refine lv_bipush (v := 60) hx hb dX5_groups_56 (by decide) ?_
        refine lv_iload hx hb dX5_groups_58 (lv_at hl 6 rfl) ?_
        refine lv_iadd hx hb dX5_groups_60 ?_
        obtain ⟨hg6, h⟩ := gd_some h
        refine g_iald (f := ((mA S) 3)) (k := ((60 + x5)).toNatClampNeg) hx hb hK hP 3 0 rfl rfl hg6 rfl dX5_groups_61 ?_
        refine lv_iconst (v := 3) hx hb dX5_groups_62 (by decide) ?_
        refine lv_icmp_eq (tgt := 70) hx hb dX5_groups_63 (by decide) (fun c7 => ?_) (fun c7 => ?_)
        · replace h := (if_pos c7).symm.trans h
          refine lv_iconst (v := 0) hx hb dX5_groups_70 (by decide) ?_
          refine lv_istore (lv' := [(7, .int 0), (6, .int 0), (0, .ref q), (1, .int x1), (2, .int x2), (3, .int x3), (4, .int x4), (5, .int x5)]) hx hb dX5_groups_71 hl (by decide) rfl (fun ls hl => ?_)
          refine lv_iconst (v := 0) hx hb dX5_groups_73 (by decide) ?_
          refine lv_istore (lv' := [(8, .int 0), (7, .int 0), (6, .int 0), (0, .ref q), (1, .int x1), (2, .int x2), (3, .int x3), (4, .int x4), (5, .int x5)]) hx hb dX5_groups_74 hl (by decide) rfl (fun ls hl => ?_)
          refine LP76 _ KF S x1 x2 x3 x4 x5 0 0 0 H locs ls h (fun S y1 y2 y3 y4 y5 y6 y7 H locs ls h hP hS hl => ?_) hP hS (lv_sub hl [3, 4, 5, 6, 7, 8, 2, 1, 0] rfl)
          refine lv_iload_n hx hb dX5_groups_145 rfl (lv_at hl 2 rfl) ?_
          refine lv_iload hx hb dX5_groups_146 (lv_at hl 7 rfl) ?_
          refine lv_if_eq (tgt := 155) hx hb dX5_groups_148 (by decide) (fun c16 => ?_) (fun c16 => ?_)
          · replace h := (if_pos c16).symm.trans h
            refine lv_iconst (v := 0) hx hb dX5_groups_155 (by decide) ?_
            refine lv_iadd hx hb dX5_groups_156 ?_
            refine lv_istore_n (lv' := [(2, .int (y2 + 0)), (0, .ref q), (1, .int y1), (3, .int y3), (4, .int y4), (5, .int y5), (6, .int y6), (7, .int y7)]) hx hb dX5_groups_157 rfl hl (by decide) rfl (fun ls hl => ?_)
            refine lv_iload hx hb dX5_groups_158 (lv_at hl 7 rfl) ?_
            refine lv_if_eq (tgt := 176) hx hb dX5_groups_160 (by decide) (fun _ => ?_) (fun c => absurd c16 c)
            refine lv_iinc (v := (y5 + 1)) (lv' := [(5, .int (y5 + 1)), (2, .int (y2 + 0)), (0, .ref q), (1, .int y1), (3, .int y3), (4, .int y4), (6, .int y6), (7, .int y7)]) hx hb dX5_groups_176 hl (k := 5) rfl rfl (by decide) rfl (fun ls hl => ?_)
            refine lv_goto (tgt := 37) hx hb dX5_groups_179 (by decide) ?_
            exact ih S y1 (y2 + 0) y3 y4 (y5 + 1) H locs ls h hP hS (lv_sub hl [2, 3, 1, 4, 5, 0] rfl)
          · replace h := (if_neg c16).symm.trans h
            refine lv_iconst (v := 1) hx hb dX5_groups_151 (by decide) ?_
            refine lv_goto (tgt := 156) hx hb dX5_groups_152 (by decide) ?_
            refine lv_iadd hx hb dX5_groups_156 ?_
            refine lv_istore_n (lv' := [(2, .int (y2 + 1)), (0, .ref q), (1, .int y1), (3, .int y3), (4, .int y4), (5, .int y5), (6, .int y6), (7, .int y7)]) hx hb dX5_groups_157 rfl hl (by decide) rfl (fun ls hl => ?_)
            refine lv_iload hx hb dX5_groups_158 (lv_at hl 7 rfl) ?_
            refine lv_if_eq (tgt := 176) hx hb dX5_groups_160 (by decide) (fun c => absurd c c16) (fun _ => ?_)
            refine lv_iload hx hb dX5_groups_163 (lv_at hl 6 rfl) ?_
            refine lv_iload_n hx hb dX5_groups_165 rfl (lv_at hl 3 rfl) ?_
            refine lv_icmp_le (tgt := 176) hx hb dX5_groups_166 (by decide) (fun c17 => ?_) (fun c17 => ?_)
            · replace h := (if_pos c17).symm.trans h
              refine lv_iinc (v := (y5 + 1)) (lv' := [(5, .int (y5 + 1)), (2, .int (y2 + 1)), (0, .ref q), (1, .int y1), (3, .int y3), (4, .int y4), (6, .int y6), (7, .int y7)]) hx hb dX5_groups_176 hl (k := 5) rfl rfl (by decide) rfl (fun ls hl => ?_)
              refine lv_goto (tgt := 37) hx hb dX5_groups_179 (by decide) ?_
              exact ih S y1 (y2 + 1) y3 y4 (y5 + 1) H locs ls h hP hS (lv_sub hl [2, 3, 1, 4, 5, 0] rfl)
            · replace h := (if_neg c17).symm.trans h
              refine lv_iload hx hb dX5_groups_169 (lv_at hl 6 rfl) ?_
              refine lv_istore_n (lv' := [(3, .int y6), (2, .int (y2 + 1)), (0, .ref q), (1, .int y1), (4, .int y4), (5, .int y5), (6, .int y6), (7, .int y7)]) hx hb dX5_groups_171 rfl hl (by decide) rfl (fun ls hl => ?_)
              refine lv_iload hx hb dX5_groups_172 (lv_at hl 5 rfl) ?_
              refine lv_istore (lv' := [(4, .int y5), (3, .int y6), (2, .int (y2 + 1)), (0, .ref q), (1, .int y1), (5, .int y5), (6, .int y6), (7, .int y7)]) hx hb dX5_groups_174 hl (by decide) rfl (fun ls hl => ?_)
              refine lv_iinc (v := (y5 + 1)) (lv' := [(5, .int (y5 + 1)), (4, .int y5), (3, .int y6), (2, .int (y2 + 1)), (0, .ref q), (1, .int y1), (6, .int y6), (7, .int y7)]) hx hb dX5_groups_176 hl (k := 5) rfl rfl (by decide) rfl (fun ls hl => ?_)
              refine lv_goto (tgt := 37) hx hb dX5_groups_179 (by decide) ?_
              exact ih S y1 (y2 + 1) y6 y5 (y5 + 1) H locs ls h hP hS (lv_sub hl [4, 5, 3, 2, 1, 0] rfl)
        · replace h := (if_neg c7).symm.trans h
          refine lv_iconst (v := 1) hx hb dX5_groups_66 (by decide) ?_
          refine lv_goto (tgt := 71) hx hb dX5_groups_67 (by decide) ?_
          refine lv_istore (lv' := [(7, .int 1), (6, .int 0), (0, .ref q), (1, .int x1), (2, .int x2), (3, .int x3), (4, .int x4), (5, .int x5)]) hx hb dX5_groups_71 hl (by decide) rfl (fun ls hl => ?_)
          refine lv_iconst (v := 0) hx hb dX5_groups_73 (by decide) ?_
          refine lv_istore (lv' := [(8, .int 0), (7, .int 1), (6, .int 0), (0, .ref q), (1, .int x1), (2, .int x2), (3, .int x3), (4, .int x4), (5, .int x5)]) hx hb dX5_groups_74 hl (by decide) rfl (fun ls hl => ?_)
          refine LP76 _ KF S x1 x2 x3 x4 x5 0 1 0 H locs ls h (fun S y1 y2 y3 y4 y5 y6 y7 H locs ls h hP hS hl => ?_) hP hS (lv_sub hl [3, 4, 5, 6, 7, 8, 2, 1, 0] rfl)
          refine lv_iload_n hx hb dX5_groups_145 rfl (lv_at hl 2 rfl) ?_
          refine lv_iload hx hb dX5_groups_146 (lv_at hl 7 rfl) ?_
          refine lv_if_eq (tgt := 155) hx hb dX5_groups_148 (by decide) (fun c18 => ?_) (fun c18 => ?_)
          · replace h := (if_pos c18).symm.trans h
            refine lv_iconst (v := 0) hx hb dX5_groups_155 (by decide) ?_
            refine lv_iadd hx hb dX5_groups_156 ?_
            refine lv_istore_n (lv' := [(2, .int (y2 + 0)), (0, .ref q), (1, .int y1), (3, .int y3), (4, .int y4), (5, .int y5), (6, .int y6), (7, .int y7)]) hx hb dX5_groups_157 rfl hl (by decide) rfl (fun ls hl => ?_)
            refine lv_iload hx hb dX5_groups_158 (lv_at hl 7 rfl) ?_
            refine lv_if_eq (tgt := 176) hx hb dX5_groups_160 (by decide) (fun _ => ?_) (fun c => absurd c18 c)
            refine lv_iinc (v := (y5 + 1)) (lv' := [(5, .int (y5 + 1)), (2, .int (y2 + 0)), (0, .ref q), (1, .int y1), (3, .int y3), (4, .int y4), (6, .int y6), (7, .int y7)]) hx hb dX5_groups_176 hl (k := 5) rfl rfl (by decide) rfl (fun ls hl => ?_)
            refine lv_goto (tgt := 37) hx hb dX5_groups_179 (by decide) ?_
            exact ih S y1 (y2 + 0) y3 y4 (y5 + 1) H locs ls h hP hS (lv_sub hl [2, 3, 1, 4, 5, 0] rfl)
          · replace h := (if_neg c18).symm.trans h
            refine lv_iconst (v := 1) hx hb dX5_groups_151 (by decide) ?_
            refine lv_goto (tgt := 156) hx hb dX5_groups_152 (by decide) ?_
            refine lv_iadd hx hb dX5_groups_156 ?_
            refine lv_istore_n (lv' := [(2, .int (y2 + 1)), (0, .ref q), (1, .int y1), (3, .int y3), (4, .int y4), (5, .int y5), (6, .int y6), (7, .int y7)]) hx hb dX5_groups_157 rfl hl (by decide) rfl (fun ls hl => ?_)
            refine lv_iload hx hb dX5_groups_158 (lv_at hl 7 rfl) ?_
            refine lv_if_eq (tgt := 176) hx hb dX5_groups_160 (by decide) (fun c => absurd c c18) (fun _ => ?_)
            refine lv_iload hx hb dX5_groups_163 (lv_at hl 6 rfl) ?_
            refine lv_iload_n hx hb dX5_groups_165 rfl (lv_at hl 3 rfl) ?_
            refine lv_icmp_le (tgt := 176) hx hb dX5_groups_166 (by decide) (fun c19 => ?_) (fun c19 => ?_)
            · replace h := (if_pos c19).symm.trans h
              refine lv_iinc (v := (y5 + 1)) (lv' := [(5, .int (y5 + 1)), (2, .int (y2 + 1)), (0, .ref q), (1, .int y1), (3, .int y3), (4, .int y4), (6, .int y6), (7, .int y7)]) hx hb dX5_groups_176 hl (k := 5) rfl rfl (by decide) rfl (fun ls hl => ?_)
              refine lv_goto (tgt := 37) hx hb dX5_groups_179 (by decide) ?_
              exact ih S y1 (y2 + 1) y3 y4 (y5 + 1) H locs ls h hP hS (lv_sub hl [2, 3, 1, 4, 5, 0] rfl)
            · replace h := (if_neg c19).symm.trans h
              refine lv_iload hx hb dX5_groups_169 (lv_at hl 6 rfl) ?_
              refine lv_istore_n (lv' := [(3, .int y6), (2, .int (y2 + 1)), (0, .ref q), (1, .int y1), (4, .int y4), (5, .int y5), (6, .int y6), (7, .int y7)]) hx hb dX5_groups_171 rfl hl (by decide) rfl (fun ls hl => ?_)
              refine lv_iload hx hb dX5_groups_172 (lv_at hl 5 rfl) ?_
              refine lv_istore (lv' := [(4, .int y5), (3, .int y6), (2, .int (y2 + 1)), (0, .ref q), (1, .int y1), (5, .int y5), (6, .int y6), (7, .int y7)]) hx hb dX5_groups_174 hl (by decide) rfl (fun ls hl => ?_)
              refine lv_iinc (v := (y5 + 1)) (lv' := [(5, .int (y5 + 1)), (4, .int y5), (3, .int y6), (2, .int (y2 + 1)), (0, .ref q), (1, .int y1), (6, .int y6), (7, .int y7)]) hx hb dX5_groups_176 hl (k := 5) rfl rfl (by decide) rfl (fun ls hl => ?_)
              refine lv_goto (tgt := 37) hx hb dX5_groups_179 (by decide) ?_
              exact ih S y1 (y2 + 1) y6 y5 (y5 + 1) H locs ls h hP hS (lv_sub hl [4, 5, 3, 2, 1, 0] rfl)
  unfold fX5_groups at h
  obtain ⟨H, hH⟩ : ∃ H, H = s.heap := ⟨_, rfl⟩
  obtain ⟨locs, hlz⟩ : ∃ z : List Loc, z = [] := ⟨_, rfl⟩
  have hP : va_P D vwCl (MW cI cZ q M) H := by rw [hH]; exact hP
  have hS : va_S (fIv q 10) s.heap H locs := by rw [hH, hlz]; exact hS
  refine gc_at hH hlz ?_
  refine lv_aload_n hx hb dX5_groups_0 rfl (lv_at hl 0 rfl) ?_
  refine lv_iload_n hx hb dX5_groups_1 rfl (lv_at hl 1 rfl) ?_
  refine lv_i2l hx hb dX5_groups_2 rfl ?_
  refine lv_lconst (v := 0) hx hb dX5_groups_3 (by decide) ?_
  refine lv_ldc2 (v := 2) hx hb hown (hts (.constantLong RX5 181 (2)) (by decide +kernel)) dX5_groups_4 ?_
  obtain ⟨r7, hr7, h⟩ := bd_some h
  refine gc_si (As := [.long ((p0).toInt64), .long 0, .long 2]) (rest := [.ref q]) ⟨hx, hb, hml, hown, hts⟩ hK (kX5_in l D cI cC cZ cQ cJ ((p0).toInt64) 0 2 hr7) (va_cwS 3 hts gX5_groups_X5_in rfl rfl rfl (by decide +kernel) ⟨Nat.le_of_ble_eq_true rfl, Nat.le_of_ble_eq_true rfl⟩)  trivial rfl hl.1 rfl (Nat.le_of_ble_eq_true rfl) ⟨Nat.zero_le _, Nat.zero_le _⟩ dX5_groups_7 ?_
  refine lv_if_eq (tgt := 17) hx hb dX5_groups_10 (by decide) (fun c1 => ?_) (fun c1 => ?_)
  · replace h := (if_pos c1).symm.trans h
    refine lv_iconst (v := 1) hx hb dX5_groups_17 (by decide) ?_
    obtain ⟨r18, hr18, h⟩ := bd_some h
    refine gc_wi (As := [.int 1]) (rest := []) ⟨hx, hb, hml, hown, hts⟩ hK (kX5_refused l D cI cC cZ cQ cJ q M 1 hr18) (cwV 1 hts gX5_groups_X5_refused rfl rfl rfl (by decide +kernel) ⟨Nat.le_of_ble_eq_true rfl, Nat.le_of_ble_eq_true rfl⟩) (va_recv hK hP (ci := 5) (q0 := 0) rfl rfl) hP hS (fun _ h => h) rfl hl.1 rfl (Nat.le_of_ble_eq_true rfl) ⟨Nat.zero_le _, Nat.zero_le _⟩ dX5_groups_18 (fun H locs hP hS _ _ => ?_)
    refine lv_if_eq (tgt := 26) hx hb dX5_groups_21 (by decide) (fun c2 => ?_) (fun c2 => ?_)
    · replace h := (if_pos c2).symm.trans h
      refine lv_iconst (v := 0) hx hb dX5_groups_26 (by decide) ?_
      refine lv_istore_n (lv' := [(2, .int 0), (0, .ref q), (1, .int p0)]) hx hb dX5_groups_27 rfl hl (by decide) rfl (fun ls hl => ?_)
      refine lv_iconst (v := 0) hx hb dX5_groups_28 (by decide) ?_
      refine lv_istore_n (lv' := [(3, .int 0), (2, .int 0), (0, .ref q), (1, .int p0)]) hx hb dX5_groups_29 rfl hl (by decide) rfl (fun ls hl => ?_)
      refine lv_bipush (v := (-9)) hx hb dX5_groups_30 (by decide) ?_
      refine lv_istore (lv' := [(4, .int (-9)), (3, .int 0), (2, .int 0), (0, .ref q), (1, .int p0)]) hx hb dX5_groups_32 hl (by decide) rfl (fun ls hl => ?_)
      refine lv_iconst (v := 0) hx hb dX5_groups_34 (by decide) ?_
      refine lv_istore (lv' := [(5, .int 0), (4, .int (-9)), (3, .int 0), (2, .int 0), (0, .ref q), (1, .int p0)]) hx hb dX5_groups_35 hl (by decide) rfl (fun ls hl => ?_)
      exact LP37 KF r18.2 p0 0 0 (-9) 0 H locs ls h hP hS (lv_sub hl [4, 5, 3, 2, 1, 0] rfl)
    · replace h := (if_neg c2).symm.trans h
      refine lv_iconst (v := 0) hx hb dX5_groups_24 (by decide) ?_
      have h := Option.some.inj h
      subst h
      exact W.iret (v := 0) hx hb hr (fun t ht hW => ⟨⟨_, (), rfl, rfl, gh ht hP⟩, hS.F ht⟩) hS.2.2 dX5_groups_25
  · replace h := (if_neg c1).symm.trans h
    refine lv_iconst (v := 0) hx hb dX5_groups_13 (by decide) ?_
    refine lv_goto (tgt := 18) hx hb dX5_groups_14 (by decide) ?_
    obtain ⟨r18, hr18, h⟩ := bd_some h
    refine gc_wi (As := [.int 0]) (rest := []) ⟨hx, hb, hml, hown, hts⟩ hK (kX5_refused l D cI cC cZ cQ cJ q M 0 hr18) (cwV 1 hts gX5_groups_X5_refused rfl rfl rfl (by decide +kernel) ⟨Nat.le_of_ble_eq_true rfl, Nat.le_of_ble_eq_true rfl⟩) (va_recv hK hP (ci := 5) (q0 := 0) rfl rfl) hP hS (fun _ h => h) rfl hl.1 rfl (Nat.le_of_ble_eq_true rfl) ⟨Nat.zero_le _, Nat.zero_le _⟩ dX5_groups_18 (fun H locs hP hS _ _ => ?_)
    refine lv_if_eq (tgt := 26) hx hb dX5_groups_21 (by decide) (fun c20 => ?_) (fun c20 => ?_)
    · replace h := (if_pos c20).symm.trans h
      refine lv_iconst (v := 0) hx hb dX5_groups_26 (by decide) ?_
      refine lv_istore_n (lv' := [(2, .int 0), (0, .ref q), (1, .int p0)]) hx hb dX5_groups_27 rfl hl (by decide) rfl (fun ls hl => ?_)
      refine lv_iconst (v := 0) hx hb dX5_groups_28 (by decide) ?_
      refine lv_istore_n (lv' := [(3, .int 0), (2, .int 0), (0, .ref q), (1, .int p0)]) hx hb dX5_groups_29 rfl hl (by decide) rfl (fun ls hl => ?_)
      refine lv_bipush (v := (-9)) hx hb dX5_groups_30 (by decide) ?_
      refine lv_istore (lv' := [(4, .int (-9)), (3, .int 0), (2, .int 0), (0, .ref q), (1, .int p0)]) hx hb dX5_groups_32 hl (by decide) rfl (fun ls hl => ?_)
      refine lv_iconst (v := 0) hx hb dX5_groups_34 (by decide) ?_
      refine lv_istore (lv' := [(5, .int 0), (4, .int (-9)), (3, .int 0), (2, .int 0), (0, .ref q), (1, .int p0)]) hx hb dX5_groups_35 hl (by decide) rfl (fun ls hl => ?_)
      exact LP37 KF r18.2 p0 0 0 (-9) 0 H locs ls h hP hS (lv_sub hl [4, 5, 3, 2, 1, 0] rfl)
    · replace h := (if_neg c20).symm.trans h
      refine lv_iconst (v := 0) hx hb dX5_groups_24 (by decide) ?_
      have h := Option.some.inj h
      subst h
      exact W.iret (v := 0) hx hb hr (fun t ht hW => ⟨⟨_, (), rfl, rfl, gh ht hP⟩, hS.F ht⟩) hS.2.2 dX5_groups_25
set_option maxHeartbeats 4000000 in
set_option maxRecDepth 100000 in
theorem kX5_dueAfter (l : Launch) (D : va_G) (cI cC cZ cQ cJ : ClassId) (q : Nat) (M : MSt) (p0 : Int32) {R : Int32 × MSt} (h : fX5_dueAfter M p0 = some R) : Met l yX5_dueAfter wsX5_dueAfter ({ frames := 2, cells := 0, slots := 0, locals := 46 } : Room) (va_Pc [.ref q, .int p0] (gB D (gTy cI cC cZ cQ cJ) (va_P D vwCl (MW cI cZ q M)))) (va_Qi (fun r (_ : Unit) => r = R.1) (fun _ t => va_P D vwCl (MW cI cZ q R.2) t.heap) (fIv q 10)) 0 0 (fIv q 10) := by
  refine Met.ofW (cc := cX5_dueAfter) (maxL := 4) (ret := (some .int)) (by decide) rfl ?_
  intro p e s m args below meth c s₁ B hml hv
  obtain ⟨rfl, hP, hK⟩ := hv
  have hx := B.exec
  have hb := B.bytes
  have hr := B.returns
  have hts := atoms_spec (ws := wsX5_dueAfter) B.pre
  have hown : s.vm.findClass RX5 = some m.cls := findClass_of_methodNamed B.named
  have hlocks := B.notSynchronized
  have hinX5 : ∀ w ∈ wsX50, w ∈ wsX5_dueAfter := by decide +kernel
  have hf16 := hts (.fieldLink RX5 16 "GripInspectorModel" "now" "[I") (by decide +kernel)
  have hf38 := hts (.fieldLink RX5 38 "GripInspectorModel" "n" "I") (by decide +kernel)
  generalize hRM : (headSpec wsX5_dueAfter ({ frames := 2, cells := 0, slots := 0, locals := 46 } : Room)).room = RM
  replace hRM : ({ frames := 2, cells := 0, slots := 0, locals := 46 } : Room) = RM := hRM
  subst hRM
  have hl := lv_entry ([.ref q, .int p0]) (n := 4) (Nat.le_of_ble_eq_true rfl)
  rw [lg_entry_eq]
  generalize (lg_sl ([.ref q, .int p0]) ++ List.replicate (4 - (lg_sl ([.ref q, .int p0])).length) Slot.unset).toArray = ls at hl ⊢
  have hl : lv_has ls 4 [(0, .ref q), (1, .int p0)] := hl
  have hS : va_S (fIv q 10) s.heap s.heap [] := va_S.rf
  unfold fX5_dueAfter at h
  obtain ⟨H, hH⟩ : ∃ H, H = s.heap := ⟨_, rfl⟩
  obtain ⟨locs, hlz⟩ : ∃ z : List Loc, z = [] := ⟨_, rfl⟩
  have hP : va_P D vwCl (MW cI cZ q M) H := by rw [hH]; exact hP
  have hS : va_S (fIv q 10) s.heap H locs := by rw [hH, hlz]; exact hS
  refine gc_at hH hlz ?_
  refine lv_aload_n hx hb dX5_dueAfter_0 rfl (lv_at hl 0 rfl) ?_
  refine lv_aload_n hx hb dX5_dueAfter_1 rfl (lv_at hl 0 rfl) ?_
  refine lv_iload_n hx hb dX5_dueAfter_2 rfl (lv_at hl 1 rfl) ?_
  obtain ⟨r3, hr3, h⟩ := bd_some h
  refine gc_ri (As := [.int p0]) (rest := [.ref q]) ⟨hx, hb, hml, hown, hts⟩ hK (kX5_isGrip l D cI cC cZ cQ cJ q M p0 hr3) (cwV 1 hts gX5_dueAfter_X5_isGrip rfl rfl rfl (by decide +kernel) ⟨Nat.le_of_ble_eq_true rfl, Nat.le_of_ble_eq_true rfl⟩) (va_recv hK hP (ci := 5) (q0 := 0) rfl rfl) hP rfl hl.1 rfl (Nat.le_of_ble_eq_true rfl) ⟨Nat.zero_le _, Nat.zero_le _⟩ dX5_dueAfter_3 ?_
  refine lv_if_eq (tgt := 13) hx hb dX5_dueAfter_6 (by decide) (fun c1 => ?_) (fun c1 => ?_)
  · replace h := (if_pos c1).symm.trans h
    refine lv_iconst (v := 1) hx hb dX5_dueAfter_13 (by decide) ?_
    obtain ⟨r14, hr14, h⟩ := bd_some h
    refine gc_wi (As := [.int 1]) (rest := []) ⟨hx, hb, hml, hown, hts⟩ hK (kX5_refused l D cI cC cZ cQ cJ q M 1 hr14) (cwV 1 hts gX5_dueAfter_X5_refused rfl rfl rfl (by decide +kernel) ⟨Nat.le_of_ble_eq_true rfl, Nat.le_of_ble_eq_true rfl⟩) (va_recv hK hP (ci := 5) (q0 := 0) rfl rfl) hP hS (fun _ h => h) rfl hl.1 rfl (Nat.le_of_ble_eq_true rfl) ⟨Nat.zero_le _, Nat.zero_le _⟩ dX5_dueAfter_14 (fun H locs hP hS _ _ => ?_)
    refine lv_if_eq (tgt := 22) hx hb dX5_dueAfter_17 (by decide) (fun c2 => ?_) (fun c2 => ?_)
    · replace h := (if_pos c2).symm.trans h
      refine lv_aload_n hx hb dX5_dueAfter_22 rfl (lv_at hl 0 rfl) ?_
      refine va_get (D := D) (ci := 5) (v := .ref (q + 3)) (C := RX5) (T := TX5) (N := 15) hx hb hts hinX5 hown hK hP 0 rfl rfl 7 (by decide) hf16 (fun _ h9 => h9) rfl dX5_dueAfter_23 ?_
      refine lv_bipush (v := 60) hx hb dX5_dueAfter_26 (by decide) ?_
      refine lv_iload_n hx hb dX5_dueAfter_28 rfl (lv_at hl 1 rfl) ?_
      refine lv_iadd hx hb dX5_dueAfter_29 ?_
      obtain ⟨hg3, h⟩ := gd_some h
      refine g_iald (f := ((mA r14.2) 3)) (k := ((60 + p0)).toNatClampNeg) hx hb hK hP 3 0 rfl rfl hg3 rfl dX5_dueAfter_30 ?_
      refine lv_if_eq (tgt := 37) hx hb dX5_dueAfter_31 (by decide) (fun c4 => ?_) (fun c4 => ?_)
      · replace h := (if_pos c4).symm.trans h
        refine lv_aload_n hx hb dX5_dueAfter_37 rfl (lv_at hl 0 rfl) ?_
        refine va_get (D := D) (ci := 5) (v := .ref (q + 3)) (C := RX5) (T := TX5) (N := 15) hx hb hts hinX5 hown hK hP 0 rfl rfl 7 (by decide) hf16 (fun _ h9 => h9) rfl dX5_dueAfter_38 ?_
        refine lv_bipush (v := 72) hx hb dX5_dueAfter_41 (by decide) ?_
        refine lv_iload_n hx hb dX5_dueAfter_43 rfl (lv_at hl 1 rfl) ?_
        refine lv_iadd hx hb dX5_dueAfter_44 ?_
        obtain ⟨hg5, h⟩ := gd_some h
        refine g_iald (f := ((mA r14.2) 3)) (k := ((72 + p0)).toNatClampNeg) hx hb hK hP 3 0 rfl rfl hg5 rfl dX5_dueAfter_45 ?_
        refine lv_aload_n hx hb dX5_dueAfter_46 rfl (lv_at hl 0 rfl) ?_
        refine va_get (D := D) (ci := 5) (v := .ref (q + 3)) (C := RX5) (T := TX5) (N := 15) hx hb hts hinX5 hown hK hP 0 rfl rfl 7 (by decide) hf16 (fun _ h9 => h9) rfl dX5_dueAfter_47 ?_
        refine lv_bipush (v := 97) hx hb dX5_dueAfter_50 (by decide) ?_
        refine g_iald (f := ((mA r14.2) 3)) (k := 97) hx hb hK hP 3 0 rfl rfl (vin_lit rfl) rfl dX5_dueAfter_52 ?_
        refine lv_isub hx hb dX5_dueAfter_53 ?_
        refine lv_istore_n (lv' := [(2, .int ((((mA r14.2) 3) ((72 + p0)).toNatClampNeg) - (((mA r14.2) 3) 97))), (0, .ref q), (1, .int p0)]) hx hb dX5_dueAfter_54 rfl hl (by decide) rfl (fun ls hl => ?_)
        refine lv_iload_n hx hb dX5_dueAfter_55 rfl (lv_at hl 0 rfl) ?_
        refine lv_if_gt (tgt := 68) hx hb dX5_dueAfter_56 (by decide) (fun c6 => ?_) (fun c6 => ?_)
        · replace h := (if_pos c6).symm.trans h
          refine lv_iload_n hx hb dX5_dueAfter_68 rfl (lv_at hl 0 rfl) ?_
          refine lv_istore_n (lv' := [(2, .int ((((mA r14.2) 3) ((72 + p0)).toNatClampNeg) - (((mA r14.2) 3) 97))), (0, .ref q), (1, .int p0)]) hx hb dX5_dueAfter_69 rfl hl (by decide) rfl (fun ls hl => ?_)
          refine lv_aload_n hx hb dX5_dueAfter_70 rfl (lv_at hl 1 rfl) ?_
          refine va_get (D := D) (ci := 5) (v := .ref (q + 3)) (C := RX5) (T := TX5) (N := 15) hx hb hts hinX5 hown hK hP 0 rfl rfl 7 (by decide) hf16 (fun _ h9 => h9) rfl dX5_dueAfter_71 ?_
          refine lv_bipush (v := 99) hx hb dX5_dueAfter_74 (by decide) ?_
          refine g_iald (f := ((mA r14.2) 3)) (k := 99) hx hb hK hP 3 0 rfl rfl (vin_lit rfl) rfl dX5_dueAfter_76 ?_
          refine lv_aload_n hx hb dX5_dueAfter_77 rfl (lv_at hl 1 rfl) ?_
          refine va_get (D := D) (ci := 5) (v := .ref (q + 3)) (C := RX5) (T := TX5) (N := 15) hx hb hts hinX5 hown hK hP 0 rfl rfl 7 (by decide) hf16 (fun _ h9 => h9) rfl dX5_dueAfter_78 ?_
          refine lv_bipush (v := 12) hx hb dX5_dueAfter_81 (by decide) ?_
          refine lv_iload_n hx hb dX5_dueAfter_83 rfl (lv_at hl 2 rfl) ?_
          refine lv_iadd hx hb dX5_dueAfter_84 ?_
          obtain ⟨hg7, h⟩ := gd_some h
          refine g_iald (f := ((mA r14.2) 3)) (k := ((12 + p0)).toNatClampNeg) hx hb hK hP 3 0 rfl rfl hg7 rfl dX5_dueAfter_85 ?_
          refine lv_isub hx hb dX5_dueAfter_86 ?_
          refine lv_istore_n (lv' := [(3, .int ((((mA r14.2) 3) 99) - (((mA r14.2) 3) ((12 + p0)).toNatClampNeg))), (2, .int ((((mA r14.2) 3) ((72 + p0)).toNatClampNeg) - (((mA r14.2) 3) 97))), (0, .ref q), (1, .int p0)]) hx hb dX5_dueAfter_87 rfl hl (by decide) rfl (fun ls hl => ?_)
          refine lv_iload_n hx hb dX5_dueAfter_88 rfl (lv_at hl 1 rfl) ?_
          refine lv_aload_n hx hb dX5_dueAfter_89 rfl (lv_at hl 2 rfl) ?_
          refine va_get (D := D) (ci := 5) (v := .int (mN r14.2)) (C := RX5) (T := TX5) (N := 15) hx hb hts hinX5 hown hK hP 0 rfl rfl 6 (by decide) hf38 (fun _ h9 => h9) rfl dX5_dueAfter_90 ?_
          refine lv_iload_n hx hb dX5_dueAfter_93 rfl (lv_at hl 0 rfl) ?_
          refine lv_iconst (v := 1) hx hb dX5_dueAfter_94 (by decide) ?_
          refine lv_icmp_ge (tgt := 102) hx hb dX5_dueAfter_95 (by decide) (fun c8 => ?_) (fun c8 => ?_)
          · replace h := (if_pos c8).symm.trans h
            refine lv_iload_n hx hb dX5_dueAfter_102 rfl (lv_at hl 0 rfl) ?_
            refine lv_iconst (v := 1) hx hb dX5_dueAfter_103 (by decide) ?_
            refine lv_isub hx hb dX5_dueAfter_104 ?_
            refine lv_imul hx hb dX5_dueAfter_105 ?_
            refine lv_iadd hx hb dX5_dueAfter_106 ?_
            have h := Option.some.inj h
            subst h
            exact W.iret (v := (((((mA r14.2) 3) ((72 + p0)).toNatClampNeg) - (((mA r14.2) 3) 97)) + ((mN r14.2) * (((((mA r14.2) 3) 99) - (((mA r14.2) 3) ((12 + p0)).toNatClampNeg)) - 1)))) hx hb hr (fun t ht hW => ⟨⟨_, (), rfl, rfl, gh ht hP⟩, hS.F ht⟩) hS.2.2 dX5_dueAfter_107
          · replace h := (if_neg c8).symm.trans h
            refine lv_iconst (v := 0) hx hb dX5_dueAfter_98 (by decide) ?_
            refine lv_goto (tgt := 105) hx hb dX5_dueAfter_99 (by decide) ?_
            refine lv_imul hx hb dX5_dueAfter_105 ?_
            refine lv_iadd hx hb dX5_dueAfter_106 ?_
            have h := Option.some.inj h
            subst h
            exact W.iret (v := (((((mA r14.2) 3) ((72 + p0)).toNatClampNeg) - (((mA r14.2) 3) 97)) + ((mN r14.2) * 0))) hx hb hr (fun t ht hW => ⟨⟨_, (), rfl, rfl, gh ht hP⟩, hS.F ht⟩) hS.2.2 dX5_dueAfter_107
        · replace h := (if_neg c6).symm.trans h
          refine lv_iload_n hx hb dX5_dueAfter_59 rfl (lv_at hl 0 rfl) ?_
          refine lv_aload_n hx hb dX5_dueAfter_60 rfl (lv_at hl 1 rfl) ?_
          refine va_get (D := D) (ci := 5) (v := .int (mN r14.2)) (C := RX5) (T := TX5) (N := 15) hx hb hts hinX5 hown hK hP 0 rfl rfl 6 (by decide) hf38 (fun _ h9 => h9) rfl dX5_dueAfter_61 ?_
          refine lv_iadd hx hb dX5_dueAfter_64 ?_
          refine lv_goto (tgt := 69) hx hb dX5_dueAfter_65 (by decide) ?_
          refine lv_istore_n (lv' := [(2, .int (((((mA r14.2) 3) ((72 + p0)).toNatClampNeg) - (((mA r14.2) 3) 97)) + (mN r14.2))), (0, .ref q), (1, .int p0)]) hx hb dX5_dueAfter_69 rfl hl (by decide) rfl (fun ls hl => ?_)
          refine lv_aload_n hx hb dX5_dueAfter_70 rfl (lv_at hl 1 rfl) ?_
          refine va_get (D := D) (ci := 5) (v := .ref (q + 3)) (C := RX5) (T := TX5) (N := 15) hx hb hts hinX5 hown hK hP 0 rfl rfl 7 (by decide) hf16 (fun _ h9 => h9) rfl dX5_dueAfter_71 ?_
          refine lv_bipush (v := 99) hx hb dX5_dueAfter_74 (by decide) ?_
          refine g_iald (f := ((mA r14.2) 3)) (k := 99) hx hb hK hP 3 0 rfl rfl (vin_lit rfl) rfl dX5_dueAfter_76 ?_
          refine lv_aload_n hx hb dX5_dueAfter_77 rfl (lv_at hl 1 rfl) ?_
          refine va_get (D := D) (ci := 5) (v := .ref (q + 3)) (C := RX5) (T := TX5) (N := 15) hx hb hts hinX5 hown hK hP 0 rfl rfl 7 (by decide) hf16 (fun _ h9 => h9) rfl dX5_dueAfter_78 ?_
          refine lv_bipush (v := 12) hx hb dX5_dueAfter_81 (by decide) ?_
          refine lv_iload_n hx hb dX5_dueAfter_83 rfl (lv_at hl 2 rfl) ?_
          refine lv_iadd hx hb dX5_dueAfter_84 ?_
          obtain ⟨hg9, h⟩ := gd_some h
          refine g_iald (f := ((mA r14.2) 3)) (k := ((12 + p0)).toNatClampNeg) hx hb hK hP 3 0 rfl rfl hg9 rfl dX5_dueAfter_85 ?_
          refine lv_isub hx hb dX5_dueAfter_86 ?_
          refine lv_istore_n (lv' := [(3, .int ((((mA r14.2) 3) 99) - (((mA r14.2) 3) ((12 + p0)).toNatClampNeg))), (2, .int (((((mA r14.2) 3) ((72 + p0)).toNatClampNeg) - (((mA r14.2) 3) 97)) + (mN r14.2))), (0, .ref q), (1, .int p0)]) hx hb dX5_dueAfter_87 rfl hl (by decide) rfl (fun ls hl => ?_)
          refine lv_iload_n hx hb dX5_dueAfter_88 rfl (lv_at hl 1 rfl) ?_
          refine lv_aload_n hx hb dX5_dueAfter_89 rfl (lv_at hl 2 rfl) ?_
          refine va_get (D := D) (ci := 5) (v := .int (mN r14.2)) (C := RX5) (T := TX5) (N := 15) hx hb hts hinX5 hown hK hP 0 rfl rfl 6 (by decide) hf38 (fun _ h9 => h9) rfl dX5_dueAfter_90 ?_
          refine lv_iload_n hx hb dX5_dueAfter_93 rfl (lv_at hl 0 rfl) ?_
          refine lv_iconst (v := 1) hx hb dX5_dueAfter_94 (by decide) ?_
          refine lv_icmp_ge (tgt := 102) hx hb dX5_dueAfter_95 (by decide) (fun c10 => ?_) (fun c10 => ?_)
          · replace h := (if_pos c10).symm.trans h
            refine lv_iload_n hx hb dX5_dueAfter_102 rfl (lv_at hl 0 rfl) ?_
            refine lv_iconst (v := 1) hx hb dX5_dueAfter_103 (by decide) ?_
            refine lv_isub hx hb dX5_dueAfter_104 ?_
            refine lv_imul hx hb dX5_dueAfter_105 ?_
            refine lv_iadd hx hb dX5_dueAfter_106 ?_
            have h := Option.some.inj h
            subst h
            exact W.iret (v := ((((((mA r14.2) 3) ((72 + p0)).toNatClampNeg) - (((mA r14.2) 3) 97)) + (mN r14.2)) + ((mN r14.2) * (((((mA r14.2) 3) 99) - (((mA r14.2) 3) ((12 + p0)).toNatClampNeg)) - 1)))) hx hb hr (fun t ht hW => ⟨⟨_, (), rfl, rfl, gh ht hP⟩, hS.F ht⟩) hS.2.2 dX5_dueAfter_107
          · replace h := (if_neg c10).symm.trans h
            refine lv_iconst (v := 0) hx hb dX5_dueAfter_98 (by decide) ?_
            refine lv_goto (tgt := 105) hx hb dX5_dueAfter_99 (by decide) ?_
            refine lv_imul hx hb dX5_dueAfter_105 ?_
            refine lv_iadd hx hb dX5_dueAfter_106 ?_
            have h := Option.some.inj h
            subst h
            exact W.iret (v := ((((((mA r14.2) 3) ((72 + p0)).toNatClampNeg) - (((mA r14.2) 3) 97)) + (mN r14.2)) + ((mN r14.2) * 0))) hx hb hr (fun t ht hW => ⟨⟨_, (), rfl, rfl, gh ht hP⟩, hS.F ht⟩) hS.2.2 dX5_dueAfter_107
      · replace h := (if_neg c4).symm.trans h
        refine lv_bipush (v := (-9)) hx hb dX5_dueAfter_34 (by decide) ?_
        have h := Option.some.inj h
        subst h
        exact W.iret (v := (-9)) hx hb hr (fun t ht hW => ⟨⟨_, (), rfl, rfl, gh ht hP⟩, hS.F ht⟩) hS.2.2 dX5_dueAfter_36
    · replace h := (if_neg c2).symm.trans h
      refine lv_iconst (v := 0) hx hb dX5_dueAfter_20 (by decide) ?_
      have h := Option.some.inj h
      subst h
      exact W.iret (v := 0) hx hb hr (fun t ht hW => ⟨⟨_, (), rfl, rfl, gh ht hP⟩, hS.F ht⟩) hS.2.2 dX5_dueAfter_21
  · replace h := (if_neg c1).symm.trans h
    refine lv_iconst (v := 0) hx hb dX5_dueAfter_9 (by decide) ?_
    refine lv_goto (tgt := 14) hx hb dX5_dueAfter_10 (by decide) ?_
    obtain ⟨r14, hr14, h⟩ := bd_some h
    refine gc_wi (As := [.int 0]) (rest := []) ⟨hx, hb, hml, hown, hts⟩ hK (kX5_refused l D cI cC cZ cQ cJ q M 0 hr14) (cwV 1 hts gX5_dueAfter_X5_refused rfl rfl rfl (by decide +kernel) ⟨Nat.le_of_ble_eq_true rfl, Nat.le_of_ble_eq_true rfl⟩) (va_recv hK hP (ci := 5) (q0 := 0) rfl rfl) hP hS (fun _ h => h) rfl hl.1 rfl (Nat.le_of_ble_eq_true rfl) ⟨Nat.zero_le _, Nat.zero_le _⟩ dX5_dueAfter_14 (fun H locs hP hS _ _ => ?_)
    refine lv_if_eq (tgt := 22) hx hb dX5_dueAfter_17 (by decide) (fun c11 => ?_) (fun c11 => ?_)
    · replace h := (if_pos c11).symm.trans h
      refine lv_aload_n hx hb dX5_dueAfter_22 rfl (lv_at hl 0 rfl) ?_
      refine va_get (D := D) (ci := 5) (v := .ref (q + 3)) (C := RX5) (T := TX5) (N := 15) hx hb hts hinX5 hown hK hP 0 rfl rfl 7 (by decide) hf16 (fun _ h9 => h9) rfl dX5_dueAfter_23 ?_
      refine lv_bipush (v := 60) hx hb dX5_dueAfter_26 (by decide) ?_
      refine lv_iload_n hx hb dX5_dueAfter_28 rfl (lv_at hl 1 rfl) ?_
      refine lv_iadd hx hb dX5_dueAfter_29 ?_
      obtain ⟨hg12, h⟩ := gd_some h
      refine g_iald (f := ((mA r14.2) 3)) (k := ((60 + p0)).toNatClampNeg) hx hb hK hP 3 0 rfl rfl hg12 rfl dX5_dueAfter_30 ?_
      refine lv_if_eq (tgt := 37) hx hb dX5_dueAfter_31 (by decide) (fun c13 => ?_) (fun c13 => ?_)
      · replace h := (if_pos c13).symm.trans h
        refine lv_aload_n hx hb dX5_dueAfter_37 rfl (lv_at hl 0 rfl) ?_
        refine va_get (D := D) (ci := 5) (v := .ref (q + 3)) (C := RX5) (T := TX5) (N := 15) hx hb hts hinX5 hown hK hP 0 rfl rfl 7 (by decide) hf16 (fun _ h9 => h9) rfl dX5_dueAfter_38 ?_
        refine lv_bipush (v := 72) hx hb dX5_dueAfter_41 (by decide) ?_
        refine lv_iload_n hx hb dX5_dueAfter_43 rfl (lv_at hl 1 rfl) ?_
        refine lv_iadd hx hb dX5_dueAfter_44 ?_
        obtain ⟨hg14, h⟩ := gd_some h
        refine g_iald (f := ((mA r14.2) 3)) (k := ((72 + p0)).toNatClampNeg) hx hb hK hP 3 0 rfl rfl hg14 rfl dX5_dueAfter_45 ?_
        refine lv_aload_n hx hb dX5_dueAfter_46 rfl (lv_at hl 0 rfl) ?_
        refine va_get (D := D) (ci := 5) (v := .ref (q + 3)) (C := RX5) (T := TX5) (N := 15) hx hb hts hinX5 hown hK hP 0 rfl rfl 7 (by decide) hf16 (fun _ h9 => h9) rfl dX5_dueAfter_47 ?_
        refine lv_bipush (v := 97) hx hb dX5_dueAfter_50 (by decide) ?_
        refine g_iald (f := ((mA r14.2) 3)) (k := 97) hx hb hK hP 3 0 rfl rfl (vin_lit rfl) rfl dX5_dueAfter_52 ?_
        refine lv_isub hx hb dX5_dueAfter_53 ?_
        refine lv_istore_n (lv' := [(2, .int ((((mA r14.2) 3) ((72 + p0)).toNatClampNeg) - (((mA r14.2) 3) 97))), (0, .ref q), (1, .int p0)]) hx hb dX5_dueAfter_54 rfl hl (by decide) rfl (fun ls hl => ?_)
        refine lv_iload_n hx hb dX5_dueAfter_55 rfl (lv_at hl 0 rfl) ?_
        refine lv_if_gt (tgt := 68) hx hb dX5_dueAfter_56 (by decide) (fun c15 => ?_) (fun c15 => ?_)
        · replace h := (if_pos c15).symm.trans h
          refine lv_iload_n hx hb dX5_dueAfter_68 rfl (lv_at hl 0 rfl) ?_
          refine lv_istore_n (lv' := [(2, .int ((((mA r14.2) 3) ((72 + p0)).toNatClampNeg) - (((mA r14.2) 3) 97))), (0, .ref q), (1, .int p0)]) hx hb dX5_dueAfter_69 rfl hl (by decide) rfl (fun ls hl => ?_)
          refine lv_aload_n hx hb dX5_dueAfter_70 rfl (lv_at hl 1 rfl) ?_
          refine va_get (D := D) (ci := 5) (v := .ref (q + 3)) (C := RX5) (T := TX5) (N := 15) hx hb hts hinX5 hown hK hP 0 rfl rfl 7 (by decide) hf16 (fun _ h9 => h9) rfl dX5_dueAfter_71 ?_
          refine lv_bipush (v := 99) hx hb dX5_dueAfter_74 (by decide) ?_
          refine g_iald (f := ((mA r14.2) 3)) (k := 99) hx hb hK hP 3 0 rfl rfl (vin_lit rfl) rfl dX5_dueAfter_76 ?_
          refine lv_aload_n hx hb dX5_dueAfter_77 rfl (lv_at hl 1 rfl) ?_
          refine va_get (D := D) (ci := 5) (v := .ref (q + 3)) (C := RX5) (T := TX5) (N := 15) hx hb hts hinX5 hown hK hP 0 rfl rfl 7 (by decide) hf16 (fun _ h9 => h9) rfl dX5_dueAfter_78 ?_
          refine lv_bipush (v := 12) hx hb dX5_dueAfter_81 (by decide) ?_
          refine lv_iload_n hx hb dX5_dueAfter_83 rfl (lv_at hl 2 rfl) ?_
          refine lv_iadd hx hb dX5_dueAfter_84 ?_
          obtain ⟨hg16, h⟩ := gd_some h
          refine g_iald (f := ((mA r14.2) 3)) (k := ((12 + p0)).toNatClampNeg) hx hb hK hP 3 0 rfl rfl hg16 rfl dX5_dueAfter_85 ?_
          refine lv_isub hx hb dX5_dueAfter_86 ?_
          refine lv_istore_n (lv' := [(3, .int ((((mA r14.2) 3) 99) - (((mA r14.2) 3) ((12 + p0)).toNatClampNeg))), (2, .int ((((mA r14.2) 3) ((72 + p0)).toNatClampNeg) - (((mA r14.2) 3) 97))), (0, .ref q), (1, .int p0)]) hx hb dX5_dueAfter_87 rfl hl (by decide) rfl (fun ls hl => ?_)
          refine lv_iload_n hx hb dX5_dueAfter_88 rfl (lv_at hl 1 rfl) ?_
          refine lv_aload_n hx hb dX5_dueAfter_89 rfl (lv_at hl 2 rfl) ?_
          refine va_get (D := D) (ci := 5) (v := .int (mN r14.2)) (C := RX5) (T := TX5) (N := 15) hx hb hts hinX5 hown hK hP 0 rfl rfl 6 (by decide) hf38 (fun _ h9 => h9) rfl dX5_dueAfter_90 ?_
          refine lv_iload_n hx hb dX5_dueAfter_93 rfl (lv_at hl 0 rfl) ?_
          refine lv_iconst (v := 1) hx hb dX5_dueAfter_94 (by decide) ?_
          refine lv_icmp_ge (tgt := 102) hx hb dX5_dueAfter_95 (by decide) (fun c17 => ?_) (fun c17 => ?_)
          · replace h := (if_pos c17).symm.trans h
            refine lv_iload_n hx hb dX5_dueAfter_102 rfl (lv_at hl 0 rfl) ?_
            refine lv_iconst (v := 1) hx hb dX5_dueAfter_103 (by decide) ?_
            refine lv_isub hx hb dX5_dueAfter_104 ?_
            refine lv_imul hx hb dX5_dueAfter_105 ?_
            refine lv_iadd hx hb dX5_dueAfter_106 ?_
            have h := Option.some.inj h
            subst h
            exact W.iret (v := (((((mA r14.2) 3) ((72 + p0)).toNatClampNeg) - (((mA r14.2) 3) 97)) + ((mN r14.2) * (((((mA r14.2) 3) 99) - (((mA r14.2) 3) ((12 + p0)).toNatClampNeg)) - 1)))) hx hb hr (fun t ht hW => ⟨⟨_, (), rfl, rfl, gh ht hP⟩, hS.F ht⟩) hS.2.2 dX5_dueAfter_107
          · replace h := (if_neg c17).symm.trans h
            refine lv_iconst (v := 0) hx hb dX5_dueAfter_98 (by decide) ?_
            refine lv_goto (tgt := 105) hx hb dX5_dueAfter_99 (by decide) ?_
            refine lv_imul hx hb dX5_dueAfter_105 ?_
            refine lv_iadd hx hb dX5_dueAfter_106 ?_
            have h := Option.some.inj h
            subst h
            exact W.iret (v := (((((mA r14.2) 3) ((72 + p0)).toNatClampNeg) - (((mA r14.2) 3) 97)) + ((mN r14.2) * 0))) hx hb hr (fun t ht hW => ⟨⟨_, (), rfl, rfl, gh ht hP⟩, hS.F ht⟩) hS.2.2 dX5_dueAfter_107
        · replace h := (if_neg c15).symm.trans h
          refine lv_iload_n hx hb dX5_dueAfter_59 rfl (lv_at hl 0 rfl) ?_
          refine lv_aload_n hx hb dX5_dueAfter_60 rfl (lv_at hl 1 rfl) ?_
          refine va_get (D := D) (ci := 5) (v := .int (mN r14.2)) (C := RX5) (T := TX5) (N := 15) hx hb hts hinX5 hown hK hP 0 rfl rfl 6 (by decide) hf38 (fun _ h9 => h9) rfl dX5_dueAfter_61 ?_
          refine lv_iadd hx hb dX5_dueAfter_64 ?_
          refine lv_goto (tgt := 69) hx hb dX5_dueAfter_65 (by decide) ?_
          refine lv_istore_n (lv' := [(2, .int (((((mA r14.2) 3) ((72 + p0)).toNatClampNeg) - (((mA r14.2) 3) 97)) + (mN r14.2))), (0, .ref q), (1, .int p0)]) hx hb dX5_dueAfter_69 rfl hl (by decide) rfl (fun ls hl => ?_)
          refine lv_aload_n hx hb dX5_dueAfter_70 rfl (lv_at hl 1 rfl) ?_
          refine va_get (D := D) (ci := 5) (v := .ref (q + 3)) (C := RX5) (T := TX5) (N := 15) hx hb hts hinX5 hown hK hP 0 rfl rfl 7 (by decide) hf16 (fun _ h9 => h9) rfl dX5_dueAfter_71 ?_
          refine lv_bipush (v := 99) hx hb dX5_dueAfter_74 (by decide) ?_
          refine g_iald (f := ((mA r14.2) 3)) (k := 99) hx hb hK hP 3 0 rfl rfl (vin_lit rfl) rfl dX5_dueAfter_76 ?_
          refine lv_aload_n hx hb dX5_dueAfter_77 rfl (lv_at hl 1 rfl) ?_
          refine va_get (D := D) (ci := 5) (v := .ref (q + 3)) (C := RX5) (T := TX5) (N := 15) hx hb hts hinX5 hown hK hP 0 rfl rfl 7 (by decide) hf16 (fun _ h9 => h9) rfl dX5_dueAfter_78 ?_
          refine lv_bipush (v := 12) hx hb dX5_dueAfter_81 (by decide) ?_
          refine lv_iload_n hx hb dX5_dueAfter_83 rfl (lv_at hl 2 rfl) ?_
          refine lv_iadd hx hb dX5_dueAfter_84 ?_
          obtain ⟨hg18, h⟩ := gd_some h
          refine g_iald (f := ((mA r14.2) 3)) (k := ((12 + p0)).toNatClampNeg) hx hb hK hP 3 0 rfl rfl hg18 rfl dX5_dueAfter_85 ?_
          refine lv_isub hx hb dX5_dueAfter_86 ?_
          refine lv_istore_n (lv' := [(3, .int ((((mA r14.2) 3) 99) - (((mA r14.2) 3) ((12 + p0)).toNatClampNeg))), (2, .int (((((mA r14.2) 3) ((72 + p0)).toNatClampNeg) - (((mA r14.2) 3) 97)) + (mN r14.2))), (0, .ref q), (1, .int p0)]) hx hb dX5_dueAfter_87 rfl hl (by decide) rfl (fun ls hl => ?_)
          refine lv_iload_n hx hb dX5_dueAfter_88 rfl (lv_at hl 1 rfl) ?_
          refine lv_aload_n hx hb dX5_dueAfter_89 rfl (lv_at hl 2 rfl) ?_
          refine va_get (D := D) (ci := 5) (v := .int (mN r14.2)) (C := RX5) (T := TX5) (N := 15) hx hb hts hinX5 hown hK hP 0 rfl rfl 6 (by decide) hf38 (fun _ h9 => h9) rfl dX5_dueAfter_90 ?_
          refine lv_iload_n hx hb dX5_dueAfter_93 rfl (lv_at hl 0 rfl) ?_
          refine lv_iconst (v := 1) hx hb dX5_dueAfter_94 (by decide) ?_
          refine lv_icmp_ge (tgt := 102) hx hb dX5_dueAfter_95 (by decide) (fun c19 => ?_) (fun c19 => ?_)
          · replace h := (if_pos c19).symm.trans h
            refine lv_iload_n hx hb dX5_dueAfter_102 rfl (lv_at hl 0 rfl) ?_
            refine lv_iconst (v := 1) hx hb dX5_dueAfter_103 (by decide) ?_
            refine lv_isub hx hb dX5_dueAfter_104 ?_
            refine lv_imul hx hb dX5_dueAfter_105 ?_
            refine lv_iadd hx hb dX5_dueAfter_106 ?_
            have h := Option.some.inj h
            subst h
            exact W.iret (v := ((((((mA r14.2) 3) ((72 + p0)).toNatClampNeg) - (((mA r14.2) 3) 97)) + (mN r14.2)) + ((mN r14.2) * (((((mA r14.2) 3) 99) - (((mA r14.2) 3) ((12 + p0)).toNatClampNeg)) - 1)))) hx hb hr (fun t ht hW => ⟨⟨_, (), rfl, rfl, gh ht hP⟩, hS.F ht⟩) hS.2.2 dX5_dueAfter_107
          · replace h := (if_neg c19).symm.trans h
            refine lv_iconst (v := 0) hx hb dX5_dueAfter_98 (by decide) ?_
            refine lv_goto (tgt := 105) hx hb dX5_dueAfter_99 (by decide) ?_
            refine lv_imul hx hb dX5_dueAfter_105 ?_
            refine lv_iadd hx hb dX5_dueAfter_106 ?_
            have h := Option.some.inj h
            subst h
            exact W.iret (v := ((((((mA r14.2) 3) ((72 + p0)).toNatClampNeg) - (((mA r14.2) 3) 97)) + (mN r14.2)) + ((mN r14.2) * 0))) hx hb hr (fun t ht hW => ⟨⟨_, (), rfl, rfl, gh ht hP⟩, hS.F ht⟩) hS.2.2 dX5_dueAfter_107
      · replace h := (if_neg c13).symm.trans h
        refine lv_bipush (v := (-9)) hx hb dX5_dueAfter_34 (by decide) ?_
        have h := Option.some.inj h
        subst h
        exact W.iret (v := (-9)) hx hb hr (fun t ht hW => ⟨⟨_, (), rfl, rfl, gh ht hP⟩, hS.F ht⟩) hS.2.2 dX5_dueAfter_36
    · replace h := (if_neg c11).symm.trans h
      refine lv_iconst (v := 0) hx hb dX5_dueAfter_20 (by decide) ?_
      have h := Option.some.inj h
      subst h
      exact W.iret (v := 0) hx hb hr (fun t ht hW => ⟨⟨_, (), rfl, rfl, gh ht hP⟩, hS.F ht⟩) hS.2.2 dX5_dueAfter_21
set_option maxHeartbeats 4000000 in
set_option maxRecDepth 100000 in
theorem kX5_chance (l : Launch) (D : va_G) (cI cC cZ cQ cJ : ClassId) (q : Nat) (M : MSt) (p0 : Int32) (p1 : Int32) {R : Int32 × MSt} (h : fX5_chance M p0 p1 = some R) : Met l yX5_chance wsX5_chance ({ frames := 1, cells := 0, slots := 0, locals := 25 } : Room) (va_Pc [.ref q, .int p0, .int p1] (gB D (gTy cI cC cZ cQ cJ) (va_P D vwCl (MW cI cZ q M)))) (va_Qi (fun r (_ : Unit) => r = R.1) (fun _ t => va_P D vwCl (MW cI cZ q R.2) t.heap) (fIv q 10)) 0 0 (fIv q 10) := by
  refine Met.ofW (cc := cX5_chance) (maxL := 6) (ret := (some .int)) (by decide) rfl ?_
  intro p e s m args below meth c s₁ B hml hv
  obtain ⟨rfl, hP, hK⟩ := hv
  have hx := B.exec
  have hb := B.bytes
  have hr := B.returns
  have hts := atoms_spec (ws := wsX5_chance) B.pre
  have hown : s.vm.findClass RX5 = some m.cls := findClass_of_methodNamed B.named
  have hlocks := B.notSynchronized
  have hinX5 : ∀ w ∈ wsX50, w ∈ wsX5_chance := by decide +kernel
  have hf16 := hts (.fieldLink RX5 16 "GripInspectorModel" "now" "[I") (by decide +kernel)
  generalize hRM : (headSpec wsX5_chance ({ frames := 1, cells := 0, slots := 0, locals := 25 } : Room)).room = RM
  replace hRM : ({ frames := 1, cells := 0, slots := 0, locals := 25 } : Room) = RM := hRM
  subst hRM
  have hl := lv_entry ([.ref q, .int p0, .int p1]) (n := 6) (Nat.le_of_ble_eq_true rfl)
  rw [lg_entry_eq]
  generalize (lg_sl ([.ref q, .int p0, .int p1]) ++ List.replicate (6 - (lg_sl ([.ref q, .int p0, .int p1])).length) Slot.unset).toArray = ls at hl ⊢
  have hl : lv_has ls 6 [(0, .ref q), (1, .int p0), (2, .int p1)] := hl
  have hS : va_S (fIv q 10) s.heap s.heap [] := va_S.rf
  have LP40 : ∀ (n : Nat) (S : MSt) (x1 : Int32) (x2 : Int32) (x3 : Int32) (x4 : Int32) (x5 : Int32) (H : Heap) (locs : List Loc) (ls : Array Slot), fX5_chance_L40 n S x1 x2 x3 x4 x5 = some R → va_P D vwCl (MW cI cZ q S) H → va_S (fIv q 10) s.heap H locs → lv_has ls 6 [(1, .int x1), (2, .int x2), (3, .int x3), (4, .int x4), (5, .int x5)] → W p l e ({ frames := 1, cells := 0, slots := 0, locals := 25 } : Room) s m ([.ref q, .int p0, .int p1] : List Value).toArray below meth c H locs 0 0 (MQ below (va_Qi (fun r (_ : Unit) => r = R.1) (fun _ t => va_P D vwCl (MW cI cZ q R.2) t.heap) (fIv q 10)) ([.ref q, .int p0, .int p1] : List Value).toArray s 0 0 (fIv q 10)) (F0 m 40 ls []) := by
    intro n
    induction n with
    | zero => intro S x1 x2 x3 x4 x5 H locs ls h hP hS hl; exact no_some h
    | succ n ih =>
      intro S x1 x2 x3 x4 x5 H locs ls h hP hS hl
      rw [fX5_chance_L40] at h
      refine lv_iload hx hb dX5_chance_40 (lv_at hl 4 rfl) ?_
      refine lv_iload_n hx hb dX5_chance_42 rfl (lv_at hl 0 rfl) ?_
      refine lv_icmp_ge (tgt := 68) hx hb dX5_chance_43 (by decide) (fun c3 => ?_) (fun c3 => ?_)
      · replace h := (if_pos c3).symm.trans h
        refine lv_iload hx hb dX5_chance_68 (lv_at hl 3 rfl) ?_
        have h := Option.some.inj h
        subst h
        exact W.iret (v := x4) hx hb hr (fun t ht hW => ⟨⟨_, (), rfl, rfl, gh ht hP⟩, hS.F ht⟩) hS.2.2 dX5_chance_70
      · replace h := (if_neg c3).symm.trans h
        refine lv_iload hx hb dX5_chance_46 (lv_at hl 3 rfl) ?_
        refine lv_iload_n hx hb dX5_chance_48 rfl (lv_at hl 1 rfl) ?_
        refine lv_if_eq (tgt := 58) hx hb dX5_chance_49 (by decide) (fun c4 => ?_) (fun c4 => ?_)
        · replace h := (if_pos c4).symm.trans h
          refine lv_iload_n hx hb dX5_chance_58 rfl (lv_at hl 2 rfl) ?_
          refine lv_imul hx hb dX5_chance_59 ?_
          refine lv_istore (lv' := [(4, .int (x4 * x3)), (1, .int x1), (2, .int x2), (3, .int x3), (5, .int x5)]) hx hb dX5_chance_60 hl (by decide) rfl (fun ls hl => ?_)
          refine lv_iinc (v := (x5 + 1)) (lv' := [(5, .int (x5 + 1)), (4, .int (x4 * x3)), (1, .int x1), (2, .int x2), (3, .int x3)]) hx hb dX5_chance_62 hl (k := 4) rfl rfl (by decide) rfl (fun ls hl => ?_)
          refine lv_goto (tgt := 40) hx hb dX5_chance_65 (by decide) ?_
          exact ih S x1 x2 x3 (x4 * x3) (x5 + 1) H locs ls h hP hS (lv_sub hl [2, 3, 4, 1, 0] rfl)
        · replace h := (if_neg c4).symm.trans h
          refine lv_iload_n hx hb dX5_chance_52 rfl (lv_at hl 2 rfl) ?_
          refine lv_iconst (v := 1) hx hb dX5_chance_53 (by decide) ?_
          refine lv_isub hx hb dX5_chance_54 ?_
          refine lv_goto (tgt := 59) hx hb dX5_chance_55 (by decide) ?_
          refine lv_imul hx hb dX5_chance_59 ?_
          refine lv_istore (lv' := [(4, .int (x4 * (x3 - 1))), (1, .int x1), (2, .int x2), (3, .int x3), (5, .int x5)]) hx hb dX5_chance_60 hl (by decide) rfl (fun ls hl => ?_)
          refine lv_iinc (v := (x5 + 1)) (lv' := [(5, .int (x5 + 1)), (4, .int (x4 * (x3 - 1))), (1, .int x1), (2, .int x2), (3, .int x3)]) hx hb dX5_chance_62 hl (k := 4) rfl rfl (by decide) rfl (fun ls hl => ?_)
          refine lv_goto (tgt := 40) hx hb dX5_chance_65 (by decide) ?_
          exact ih S x1 x2 x3 (x4 * (x3 - 1)) (x5 + 1) H locs ls h hP hS (lv_sub hl [2, 3, 4, 1, 0] rfl)
  unfold fX5_chance at h
  obtain ⟨H, hH⟩ : ∃ H, H = s.heap := ⟨_, rfl⟩
  obtain ⟨locs, hlz⟩ : ∃ z : List Loc, z = [] := ⟨_, rfl⟩
  have hP : va_P D vwCl (MW cI cZ q M) H := by rw [hH]; exact hP
  have hS : va_S (fIv q 10) s.heap H locs := by rw [hH, hlz]; exact hS
  refine gc_at hH hlz ?_
  refine lv_aload_n hx hb dX5_chance_0 rfl (lv_at hl 0 rfl) ?_
  refine lv_iload_n hx hb dX5_chance_1 rfl (lv_at hl 1 rfl) ?_
  refine lv_i2l hx hb dX5_chance_2 rfl ?_
  refine lv_lconst (v := 1) hx hb dX5_chance_3 (by decide) ?_
  refine lv_ldc2 (v := 9) hx hb hown (hts (.constantLong RX5 110 (9)) (by decide +kernel)) dX5_chance_4 ?_
  obtain ⟨r7, hr7, h⟩ := bd_some h
  refine gc_si (As := [.long ((p0).toInt64), .long 1, .long 9]) (rest := [.ref q]) ⟨hx, hb, hml, hown, hts⟩ hK (kX5_in l D cI cC cZ cQ cJ ((p0).toInt64) 1 9 hr7) (va_cwS 3 hts gX5_chance_X5_in rfl rfl rfl (by decide +kernel) ⟨Nat.le_of_ble_eq_true rfl, Nat.le_of_ble_eq_true rfl⟩)  trivial rfl hl.1 rfl (Nat.le_of_ble_eq_true rfl) ⟨Nat.zero_le _, Nat.zero_le _⟩ dX5_chance_7 ?_
  refine lv_if_eq (tgt := 17) hx hb dX5_chance_10 (by decide) (fun c1 => ?_) (fun c1 => ?_)
  · replace h := (if_pos c1).symm.trans h
    refine lv_iconst (v := 1) hx hb dX5_chance_17 (by decide) ?_
    obtain ⟨r18, hr18, h⟩ := bd_some h
    refine gc_wi (As := [.int 1]) (rest := []) ⟨hx, hb, hml, hown, hts⟩ hK (kX5_refused l D cI cC cZ cQ cJ q M 1 hr18) (cwV 1 hts gX5_chance_X5_refused rfl rfl rfl (by decide +kernel) ⟨Nat.le_of_ble_eq_true rfl, Nat.le_of_ble_eq_true rfl⟩) (va_recv hK hP (ci := 5) (q0 := 0) rfl rfl) hP hS (fun _ h => h) rfl hl.1 rfl (Nat.le_of_ble_eq_true rfl) ⟨Nat.zero_le _, Nat.zero_le _⟩ dX5_chance_18 (fun H locs hP hS _ _ => ?_)
    refine lv_if_eq (tgt := 26) hx hb dX5_chance_21 (by decide) (fun c2 => ?_) (fun c2 => ?_)
    · replace h := (if_pos c2).symm.trans h
      refine lv_aload_n hx hb dX5_chance_26 rfl (lv_at hl 0 rfl) ?_
      refine va_get (D := D) (ci := 5) (v := .ref (q + 3)) (C := RX5) (T := TX5) (N := 15) hx hb hts hinX5 hown hK hP 0 rfl rfl 7 (by decide) hf16 (fun _ h9 => h9) rfl dX5_chance_27 ?_
      refine lv_bipush (v := 101) hx hb dX5_chance_30 (by decide) ?_
      refine g_iald (f := ((mA r18.2) 3)) (k := 101) hx hb hK hP 3 0 rfl rfl (vin_lit rfl) rfl dX5_chance_32 ?_
      refine lv_istore_n (lv' := [(3, .int (((mA r18.2) 3) 101)), (0, .ref q), (1, .int p0), (2, .int p1)]) hx hb dX5_chance_33 rfl hl (by decide) rfl (fun ls hl => ?_)
      refine lv_iconst (v := 1) hx hb dX5_chance_34 (by decide) ?_
      refine lv_istore (lv' := [(4, .int 1), (3, .int (((mA r18.2) 3) 101)), (0, .ref q), (1, .int p0), (2, .int p1)]) hx hb dX5_chance_35 hl (by decide) rfl (fun ls hl => ?_)
      refine lv_iconst (v := 0) hx hb dX5_chance_37 (by decide) ?_
      refine lv_istore (lv' := [(5, .int 0), (4, .int 1), (3, .int (((mA r18.2) 3) 101)), (0, .ref q), (1, .int p0), (2, .int p1)]) hx hb dX5_chance_38 hl (by decide) rfl (fun ls hl => ?_)
      exact LP40 KF r18.2 p0 p1 (((mA r18.2) 3) 101) 1 0 H locs ls h hP hS (lv_sub hl [4, 5, 2, 1, 0] rfl)
    · replace h := (if_neg c2).symm.trans h
      refine lv_iconst (v := 0) hx hb dX5_chance_24 (by decide) ?_
      have h := Option.some.inj h
      subst h
      exact W.iret (v := 0) hx hb hr (fun t ht hW => ⟨⟨_, (), rfl, rfl, gh ht hP⟩, hS.F ht⟩) hS.2.2 dX5_chance_25
  · replace h := (if_neg c1).symm.trans h
    refine lv_iconst (v := 0) hx hb dX5_chance_13 (by decide) ?_
    refine lv_goto (tgt := 18) hx hb dX5_chance_14 (by decide) ?_
    obtain ⟨r18, hr18, h⟩ := bd_some h
    refine gc_wi (As := [.int 0]) (rest := []) ⟨hx, hb, hml, hown, hts⟩ hK (kX5_refused l D cI cC cZ cQ cJ q M 0 hr18) (cwV 1 hts gX5_chance_X5_refused rfl rfl rfl (by decide +kernel) ⟨Nat.le_of_ble_eq_true rfl, Nat.le_of_ble_eq_true rfl⟩) (va_recv hK hP (ci := 5) (q0 := 0) rfl rfl) hP hS (fun _ h => h) rfl hl.1 rfl (Nat.le_of_ble_eq_true rfl) ⟨Nat.zero_le _, Nat.zero_le _⟩ dX5_chance_18 (fun H locs hP hS _ _ => ?_)
    refine lv_if_eq (tgt := 26) hx hb dX5_chance_21 (by decide) (fun c5 => ?_) (fun c5 => ?_)
    · replace h := (if_pos c5).symm.trans h
      refine lv_aload_n hx hb dX5_chance_26 rfl (lv_at hl 0 rfl) ?_
      refine va_get (D := D) (ci := 5) (v := .ref (q + 3)) (C := RX5) (T := TX5) (N := 15) hx hb hts hinX5 hown hK hP 0 rfl rfl 7 (by decide) hf16 (fun _ h9 => h9) rfl dX5_chance_27 ?_
      refine lv_bipush (v := 101) hx hb dX5_chance_30 (by decide) ?_
      refine g_iald (f := ((mA r18.2) 3)) (k := 101) hx hb hK hP 3 0 rfl rfl (vin_lit rfl) rfl dX5_chance_32 ?_
      refine lv_istore_n (lv' := [(3, .int (((mA r18.2) 3) 101)), (0, .ref q), (1, .int p0), (2, .int p1)]) hx hb dX5_chance_33 rfl hl (by decide) rfl (fun ls hl => ?_)
      refine lv_iconst (v := 1) hx hb dX5_chance_34 (by decide) ?_
      refine lv_istore (lv' := [(4, .int 1), (3, .int (((mA r18.2) 3) 101)), (0, .ref q), (1, .int p0), (2, .int p1)]) hx hb dX5_chance_35 hl (by decide) rfl (fun ls hl => ?_)
      refine lv_iconst (v := 0) hx hb dX5_chance_37 (by decide) ?_
      refine lv_istore (lv' := [(5, .int 0), (4, .int 1), (3, .int (((mA r18.2) 3) 101)), (0, .ref q), (1, .int p0), (2, .int p1)]) hx hb dX5_chance_38 hl (by decide) rfl (fun ls hl => ?_)
      exact LP40 KF r18.2 p0 p1 (((mA r18.2) 3) 101) 1 0 H locs ls h hP hS (lv_sub hl [4, 5, 2, 1, 0] rfl)
    · replace h := (if_neg c5).symm.trans h
      refine lv_iconst (v := 0) hx hb dX5_chance_24 (by decide) ?_
      have h := Option.some.inj h
      subst h
      exact W.iret (v := 0) hx hb hr (fun t ht hW => ⟨⟨_, (), rfl, rfl, gh ht hP⟩, hS.F ht⟩) hS.2.2 dX5_chance_25
set_option maxHeartbeats 4000000 in
set_option maxRecDepth 100000 in
theorem kX5_ahead (l : Launch) (D : va_G) (cI cC cZ cQ cJ : ClassId) (q : Nat) (M : MSt) (p0 : Int32) (p1 : Int32) (p2 : Int32) {R : Int32 × MSt} (h : fX5_ahead M p0 p1 p2 = some R) : Met l yX5_ahead wsX5_ahead ({ frames := 4, cells := 0, slots := 0, locals := 98 } : Room) (va_Pc [.ref q, .int p0, .int p1, .int p2] (gB D (gTy cI cC cZ cQ cJ) (va_P D vwCl (MW cI cZ q M)))) (va_Qi (fun r (_ : Unit) => r = R.1) (fun _ t => va_P D vwCl (MW cI cZ q R.2) t.heap) (fIv q 10)) 0 0 (fIv q 10) := by
  refine Met.ofW (cc := cX5_ahead) (maxL := 4) (ret := (some .int)) (by decide) rfl ?_
  intro p e s m args below meth c s₁ B hml hv
  obtain ⟨rfl, hP, hK⟩ := hv
  have hx := B.exec
  have hb := B.bytes
  have hr := B.returns
  have hts := atoms_spec (ws := wsX5_ahead) B.pre
  have hown : s.vm.findClass RX5 = some m.cls := findClass_of_methodNamed B.named
  have hlocks := B.notSynchronized
  have hinX5 : ∀ w ∈ wsX50, w ∈ wsX5_ahead := by decide +kernel
  have hf16 := hts (.fieldLink RX5 16 "GripInspectorModel" "now" "[I") (by decide +kernel)
  have hf19 := hts (.fieldLink RX5 19 "GripInspectorModel" "trial" "[I") (by decide +kernel)
  generalize hRM : (headSpec wsX5_ahead ({ frames := 4, cells := 0, slots := 0, locals := 98 } : Room)).room = RM
  replace hRM : ({ frames := 4, cells := 0, slots := 0, locals := 98 } : Room) = RM := hRM
  subst hRM
  have hl := lv_entry ([.ref q, .int p0, .int p1, .int p2]) (n := 4) (Nat.le_of_ble_eq_true rfl)
  rw [lg_entry_eq]
  generalize (lg_sl ([.ref q, .int p0, .int p1, .int p2]) ++ List.replicate (4 - (lg_sl ([.ref q, .int p0, .int p1, .int p2])).length) Slot.unset).toArray = ls at hl ⊢
  have hl : lv_has ls 4 [(0, .ref q), (1, .int p0), (2, .int p1), (3, .int p2)] := hl
  have hS : va_S (fIv q 10) s.heap s.heap [] := va_S.rf
  unfold fX5_ahead at h
  obtain ⟨H, hH⟩ : ∃ H, H = s.heap := ⟨_, rfl⟩
  obtain ⟨locs, hlz⟩ : ∃ z : List Loc, z = [] := ⟨_, rfl⟩
  have hP : va_P D vwCl (MW cI cZ q M) H := by rw [hH]; exact hP
  have hS : va_S (fIv q 10) s.heap H locs := by rw [hH, hlz]; exact hS
  refine gc_at hH hlz ?_
  refine lv_aload_n hx hb dX5_ahead_0 rfl (lv_at hl 0 rfl) ?_
  refine lv_aload_n hx hb dX5_ahead_1 rfl (lv_at hl 0 rfl) ?_
  refine lv_iload_n hx hb dX5_ahead_2 rfl (lv_at hl 1 rfl) ?_
  obtain ⟨r3, hr3, h⟩ := bd_some h
  refine gc_ri (As := [.int p0]) (rest := [.ref q]) ⟨hx, hb, hml, hown, hts⟩ hK (kX5_isGrip l D cI cC cZ cQ cJ q M p0 hr3) (cwV 1 hts gX5_ahead_X5_isGrip rfl rfl rfl (by decide +kernel) ⟨Nat.le_of_ble_eq_true rfl, Nat.le_of_ble_eq_true rfl⟩) (va_recv hK hP (ci := 5) (q0 := 0) rfl rfl) hP rfl hl.1 rfl (Nat.le_of_ble_eq_true rfl) ⟨Nat.zero_le _, Nat.zero_le _⟩ dX5_ahead_3 ?_
  refine lv_if_ne (tgt := 13) hx hb dX5_ahead_6 (by decide) (fun c1 => ?_) (fun c1 => ?_)
  · replace h := (if_neg c1).symm.trans h
    refine lv_iload_n hx hb dX5_ahead_13 rfl (lv_at hl 2 rfl) ?_
    refine lv_i2l hx hb dX5_ahead_14 rfl ?_
    refine lv_lconst (v := 0) hx hb dX5_ahead_15 (by decide) ?_
    refine lv_ldc2 (v := 99) hx hb hown (hts (.constantLong RX5 152 (99)) (by decide +kernel)) dX5_ahead_16 ?_
    obtain ⟨r19, hr19, h⟩ := bd_some h
    refine gc_si (As := [.long ((p1).toInt64), .long 0, .long 99]) (rest := [.ref q]) ⟨hx, hb, hml, hown, hts⟩ hK (kX5_in l D cI cC cZ cQ cJ ((p1).toInt64) 0 99 hr19) (va_cwS 3 hts gX5_ahead_X5_in rfl rfl rfl (by decide +kernel) ⟨Nat.le_of_ble_eq_true rfl, Nat.le_of_ble_eq_true rfl⟩)  trivial rfl hl.1 rfl (Nat.le_of_ble_eq_true rfl) ⟨Nat.zero_le _, Nat.zero_le _⟩ dX5_ahead_19 ?_
    refine lv_if_eq (tgt := 37) hx hb dX5_ahead_22 (by decide) (fun c2 => ?_) (fun c2 => ?_)
    · replace h := (if_pos c2).symm.trans h
      refine lv_iconst (v := 2) hx hb dX5_ahead_37 (by decide) ?_
      refine lv_goto (tgt := 42) hx hb dX5_ahead_38 (by decide) ?_
      obtain ⟨r42, hr42, h⟩ := bd_some h
      refine gc_wi (As := [.int 2]) (rest := []) ⟨hx, hb, hml, hown, hts⟩ hK (kX5_refused l D cI cC cZ cQ cJ q M 2 hr42) (cwV 1 hts gX5_ahead_X5_refused rfl rfl rfl (by decide +kernel) ⟨Nat.le_of_ble_eq_true rfl, Nat.le_of_ble_eq_true rfl⟩) (va_recv hK hP (ci := 5) (q0 := 0) rfl rfl) hP hS (fun _ h => h) rfl hl.1 rfl (Nat.le_of_ble_eq_true rfl) ⟨Nat.zero_le _, Nat.zero_le _⟩ dX5_ahead_42 (fun H locs hP hS _ _ => ?_)
      refine lv_if_eq (tgt := 50) hx hb dX5_ahead_45 (by decide) (fun c3 => ?_) (fun c3 => ?_)
      · replace h := (if_pos c3).symm.trans h
        refine lv_aload_n hx hb dX5_ahead_50 rfl (lv_at hl 0 rfl) ?_
        refine va_get (D := D) (ci := 5) (v := .ref (q + 3)) (C := RX5) (T := TX5) (N := 15) hx hb hts hinX5 hown hK hP 0 rfl rfl 7 (by decide) hf16 (fun _ h9 => h9) rfl dX5_ahead_51 ?_
        refine lv_iconst (v := 0) hx hb dX5_ahead_54 (by decide) ?_
        refine lv_aload_n hx hb dX5_ahead_55 rfl (lv_at hl 0 rfl) ?_
        refine va_get (D := D) (ci := 5) (v := .ref (q + 4)) (C := RX5) (T := TX5) (N := 15) hx hb hts hinX5 hown hK hP 0 rfl rfl 8 (by decide) hf19 (fun _ h9 => h9) rfl dX5_ahead_56 ?_
        refine lv_iconst (v := 0) hx hb dX5_ahead_59 (by decide) ?_
        refine lv_bipush (v := 106) hx hb dX5_ahead_60 (by decide) ?_
        obtain ⟨r62, hr62, h⟩ := bd_some h
        refine gc_swv (As := [.ref (q + 3), .int 0, .ref (q + 4), .int 0, .int 106]) (rest := []) ⟨hx, hb, hml, hown, hts⟩ hK (kX5_copy l D cI cC cZ cQ cJ q 3 4 r42.2 0 0 106 (Or.inr (Or.inl rfl)) (Or.inr (Or.inr (Or.inl rfl))) hr62) (va_cwS 5 hts gX5_ahead_X5_copy rfl rfl rfl (by decide +kernel) ⟨Nat.le_of_ble_eq_true rfl, Nat.le_of_ble_eq_true rfl⟩)  hP hS (fun _ h => h) rfl hl.1 rfl (Nat.le_of_ble_eq_true rfl) ⟨Nat.zero_le _, Nat.zero_le _⟩ dX5_ahead_62 (fun H locs hP hS _ _ => ?_)
        refine lv_aload_n hx hb dX5_ahead_65 rfl (lv_at hl 0 rfl) ?_
        refine lv_aload_n hx hb dX5_ahead_66 rfl (lv_at hl 0 rfl) ?_
        refine va_get (D := D) (ci := 5) (v := .ref (q + 4)) (C := RX5) (T := TX5) (N := 15) hx hb hts hinX5 hown hK hP 0 rfl rfl 8 (by decide) hf19 (fun _ h9 => h9) rfl dX5_ahead_67 ?_
        refine lv_iload_n hx hb dX5_ahead_70 rfl (lv_at hl 2 rfl) ?_
        obtain ⟨r71, hr71, h⟩ := bd_some h
        refine gc_wv (As := [.ref (q + 4), .int p1]) (rest := []) ⟨hx, hb, hml, hown, hts⟩ hK (kX5_stepsOn l D cI cC cZ cQ cJ q 4 r62 p1 (Or.inr (Or.inr rfl)) hr71) (cwV 2 hts gX5_ahead_X5_stepsOn rfl rfl rfl (by decide +kernel) ⟨Nat.le_of_ble_eq_true rfl, Nat.le_of_ble_eq_true rfl⟩) (va_recv hK hP (ci := 5) (q0 := 0) rfl rfl) hP hS (fun _ h => h) rfl hl.1 rfl (Nat.le_of_ble_eq_true rfl) ⟨Nat.zero_le _, Nat.zero_le _⟩ dX5_ahead_71 (fun H locs hP hS _ _ => ?_)
        refine lv_aload_n hx hb dX5_ahead_74 rfl (lv_at hl 0 rfl) ?_
        refine va_get (D := D) (ci := 5) (v := .ref (q + 4)) (C := RX5) (T := TX5) (N := 15) hx hb hts hinX5 hown hK hP 0 rfl rfl 8 (by decide) hf19 (fun _ h9 => h9) rfl dX5_ahead_75 ?_
        refine lv_iload_n hx hb dX5_ahead_78 rfl (lv_at hl 1 rfl) ?_
        refine lv_iload_n hx hb dX5_ahead_79 rfl (lv_at hl 3 rfl) ?_
        obtain ⟨r80, hr80, h⟩ := bd_some h
        refine gc_si (As := [.ref (q + 4), .int p0, .int p2]) (rest := []) ⟨hx, hb, hml, hown, hts⟩ hK (kX5_detail l D cI cC cZ cQ cJ q 4 r71 p0 p2 (Or.inr (Or.inr rfl)) hr80) (va_cwS 3 hts gX5_ahead_X5_detail rfl rfl rfl (by decide +kernel) ⟨Nat.le_of_ble_eq_true rfl, Nat.le_of_ble_eq_true rfl⟩)  hP rfl hl.1 rfl (Nat.le_of_ble_eq_true rfl) ⟨Nat.zero_le _, Nat.zero_le _⟩ dX5_ahead_80 ?_
        have h := Option.some.inj h
        subst h
        exact W.iret (v := r80) hx hb hr (fun t ht hW => ⟨⟨_, (), rfl, rfl, gh ht hP⟩, hS.F ht⟩) hS.2.2 dX5_ahead_83
      · replace h := (if_neg c3).symm.trans h
        refine lv_iconst (v := 0) hx hb dX5_ahead_48 (by decide) ?_
        have h := Option.some.inj h
        subst h
        exact W.iret (v := 0) hx hb hr (fun t ht hW => ⟨⟨_, (), rfl, rfl, gh ht hP⟩, hS.F ht⟩) hS.2.2 dX5_ahead_49
    · replace h := (if_neg c2).symm.trans h
      refine lv_iload_n hx hb dX5_ahead_25 rfl (lv_at hl 3 rfl) ?_
      refine lv_i2l hx hb dX5_ahead_26 rfl ?_
      refine lv_lconst (v := 0) hx hb dX5_ahead_27 (by decide) ?_
      refine lv_ldc2 (v := 7) hx hb hown (hts (.constantLong RX5 141 (7)) (by decide +kernel)) dX5_ahead_28 ?_
      obtain ⟨r31, hr31, h⟩ := bd_some h
      refine gc_si (As := [.long ((p2).toInt64), .long 0, .long 7]) (rest := [.ref q]) ⟨hx, hb, hml, hown, hts⟩ hK (kX5_in l D cI cC cZ cQ cJ ((p2).toInt64) 0 7 hr31) (va_cwS 3 hts gX5_ahead_X5_in rfl rfl rfl (by decide +kernel) ⟨Nat.le_of_ble_eq_true rfl, Nat.le_of_ble_eq_true rfl⟩)  trivial rfl hl.1 rfl (Nat.le_of_ble_eq_true rfl) ⟨Nat.zero_le _, Nat.zero_le _⟩ dX5_ahead_31 ?_
      refine lv_if_ne (tgt := 41) hx hb dX5_ahead_34 (by decide) (fun c4 => ?_) (fun c4 => ?_)
      · replace h := (if_neg c4).symm.trans h
        refine lv_iconst (v := 0) hx hb dX5_ahead_41 (by decide) ?_
        obtain ⟨r42, hr42, h⟩ := bd_some h
        refine gc_wi (As := [.int 0]) (rest := []) ⟨hx, hb, hml, hown, hts⟩ hK (kX5_refused l D cI cC cZ cQ cJ q M 0 hr42) (cwV 1 hts gX5_ahead_X5_refused rfl rfl rfl (by decide +kernel) ⟨Nat.le_of_ble_eq_true rfl, Nat.le_of_ble_eq_true rfl⟩) (va_recv hK hP (ci := 5) (q0 := 0) rfl rfl) hP hS (fun _ h => h) rfl hl.1 rfl (Nat.le_of_ble_eq_true rfl) ⟨Nat.zero_le _, Nat.zero_le _⟩ dX5_ahead_42 (fun H locs hP hS _ _ => ?_)
        refine lv_if_eq (tgt := 50) hx hb dX5_ahead_45 (by decide) (fun c5 => ?_) (fun c5 => ?_)
        · replace h := (if_pos c5).symm.trans h
          refine lv_aload_n hx hb dX5_ahead_50 rfl (lv_at hl 0 rfl) ?_
          refine va_get (D := D) (ci := 5) (v := .ref (q + 3)) (C := RX5) (T := TX5) (N := 15) hx hb hts hinX5 hown hK hP 0 rfl rfl 7 (by decide) hf16 (fun _ h9 => h9) rfl dX5_ahead_51 ?_
          refine lv_iconst (v := 0) hx hb dX5_ahead_54 (by decide) ?_
          refine lv_aload_n hx hb dX5_ahead_55 rfl (lv_at hl 0 rfl) ?_
          refine va_get (D := D) (ci := 5) (v := .ref (q + 4)) (C := RX5) (T := TX5) (N := 15) hx hb hts hinX5 hown hK hP 0 rfl rfl 8 (by decide) hf19 (fun _ h9 => h9) rfl dX5_ahead_56 ?_
          refine lv_iconst (v := 0) hx hb dX5_ahead_59 (by decide) ?_
          refine lv_bipush (v := 106) hx hb dX5_ahead_60 (by decide) ?_
          obtain ⟨r62, hr62, h⟩ := bd_some h
          refine gc_swv (As := [.ref (q + 3), .int 0, .ref (q + 4), .int 0, .int 106]) (rest := []) ⟨hx, hb, hml, hown, hts⟩ hK (kX5_copy l D cI cC cZ cQ cJ q 3 4 r42.2 0 0 106 (Or.inr (Or.inl rfl)) (Or.inr (Or.inr (Or.inl rfl))) hr62) (va_cwS 5 hts gX5_ahead_X5_copy rfl rfl rfl (by decide +kernel) ⟨Nat.le_of_ble_eq_true rfl, Nat.le_of_ble_eq_true rfl⟩)  hP hS (fun _ h => h) rfl hl.1 rfl (Nat.le_of_ble_eq_true rfl) ⟨Nat.zero_le _, Nat.zero_le _⟩ dX5_ahead_62 (fun H locs hP hS _ _ => ?_)
          refine lv_aload_n hx hb dX5_ahead_65 rfl (lv_at hl 0 rfl) ?_
          refine lv_aload_n hx hb dX5_ahead_66 rfl (lv_at hl 0 rfl) ?_
          refine va_get (D := D) (ci := 5) (v := .ref (q + 4)) (C := RX5) (T := TX5) (N := 15) hx hb hts hinX5 hown hK hP 0 rfl rfl 8 (by decide) hf19 (fun _ h9 => h9) rfl dX5_ahead_67 ?_
          refine lv_iload_n hx hb dX5_ahead_70 rfl (lv_at hl 2 rfl) ?_
          obtain ⟨r71, hr71, h⟩ := bd_some h
          refine gc_wv (As := [.ref (q + 4), .int p1]) (rest := []) ⟨hx, hb, hml, hown, hts⟩ hK (kX5_stepsOn l D cI cC cZ cQ cJ q 4 r62 p1 (Or.inr (Or.inr rfl)) hr71) (cwV 2 hts gX5_ahead_X5_stepsOn rfl rfl rfl (by decide +kernel) ⟨Nat.le_of_ble_eq_true rfl, Nat.le_of_ble_eq_true rfl⟩) (va_recv hK hP (ci := 5) (q0 := 0) rfl rfl) hP hS (fun _ h => h) rfl hl.1 rfl (Nat.le_of_ble_eq_true rfl) ⟨Nat.zero_le _, Nat.zero_le _⟩ dX5_ahead_71 (fun H locs hP hS _ _ => ?_)
          refine lv_aload_n hx hb dX5_ahead_74 rfl (lv_at hl 0 rfl) ?_
          refine va_get (D := D) (ci := 5) (v := .ref (q + 4)) (C := RX5) (T := TX5) (N := 15) hx hb hts hinX5 hown hK hP 0 rfl rfl 8 (by decide) hf19 (fun _ h9 => h9) rfl dX5_ahead_75 ?_
          refine lv_iload_n hx hb dX5_ahead_78 rfl (lv_at hl 1 rfl) ?_
          refine lv_iload_n hx hb dX5_ahead_79 rfl (lv_at hl 3 rfl) ?_
          obtain ⟨r80, hr80, h⟩ := bd_some h
          refine gc_si (As := [.ref (q + 4), .int p0, .int p2]) (rest := []) ⟨hx, hb, hml, hown, hts⟩ hK (kX5_detail l D cI cC cZ cQ cJ q 4 r71 p0 p2 (Or.inr (Or.inr rfl)) hr80) (va_cwS 3 hts gX5_ahead_X5_detail rfl rfl rfl (by decide +kernel) ⟨Nat.le_of_ble_eq_true rfl, Nat.le_of_ble_eq_true rfl⟩)  hP rfl hl.1 rfl (Nat.le_of_ble_eq_true rfl) ⟨Nat.zero_le _, Nat.zero_le _⟩ dX5_ahead_80 ?_
          have h := Option.some.inj h
          subst h
          exact W.iret (v := r80) hx hb hr (fun t ht hW => ⟨⟨_, (), rfl, rfl, gh ht hP⟩, hS.F ht⟩) hS.2.2 dX5_ahead_83
        · replace h := (if_neg c5).symm.trans h
          refine lv_iconst (v := 0) hx hb dX5_ahead_48 (by decide) ?_
          have h := Option.some.inj h
          subst h
          exact W.iret (v := 0) hx hb hr (fun t ht hW => ⟨⟨_, (), rfl, rfl, gh ht hP⟩, hS.F ht⟩) hS.2.2 dX5_ahead_49
      · replace h := (if_pos c4).symm.trans h
        refine lv_iconst (v := 2) hx hb dX5_ahead_37 (by decide) ?_
        refine lv_goto (tgt := 42) hx hb dX5_ahead_38 (by decide) ?_
        obtain ⟨r42, hr42, h⟩ := bd_some h
        refine gc_wi (As := [.int 2]) (rest := []) ⟨hx, hb, hml, hown, hts⟩ hK (kX5_refused l D cI cC cZ cQ cJ q M 2 hr42) (cwV 1 hts gX5_ahead_X5_refused rfl rfl rfl (by decide +kernel) ⟨Nat.le_of_ble_eq_true rfl, Nat.le_of_ble_eq_true rfl⟩) (va_recv hK hP (ci := 5) (q0 := 0) rfl rfl) hP hS (fun _ h => h) rfl hl.1 rfl (Nat.le_of_ble_eq_true rfl) ⟨Nat.zero_le _, Nat.zero_le _⟩ dX5_ahead_42 (fun H locs hP hS _ _ => ?_)
        refine lv_if_eq (tgt := 50) hx hb dX5_ahead_45 (by decide) (fun c6 => ?_) (fun c6 => ?_)
        · replace h := (if_pos c6).symm.trans h
          refine lv_aload_n hx hb dX5_ahead_50 rfl (lv_at hl 0 rfl) ?_
          refine va_get (D := D) (ci := 5) (v := .ref (q + 3)) (C := RX5) (T := TX5) (N := 15) hx hb hts hinX5 hown hK hP 0 rfl rfl 7 (by decide) hf16 (fun _ h9 => h9) rfl dX5_ahead_51 ?_
          refine lv_iconst (v := 0) hx hb dX5_ahead_54 (by decide) ?_
          refine lv_aload_n hx hb dX5_ahead_55 rfl (lv_at hl 0 rfl) ?_
          refine va_get (D := D) (ci := 5) (v := .ref (q + 4)) (C := RX5) (T := TX5) (N := 15) hx hb hts hinX5 hown hK hP 0 rfl rfl 8 (by decide) hf19 (fun _ h9 => h9) rfl dX5_ahead_56 ?_
          refine lv_iconst (v := 0) hx hb dX5_ahead_59 (by decide) ?_
          refine lv_bipush (v := 106) hx hb dX5_ahead_60 (by decide) ?_
          obtain ⟨r62, hr62, h⟩ := bd_some h
          refine gc_swv (As := [.ref (q + 3), .int 0, .ref (q + 4), .int 0, .int 106]) (rest := []) ⟨hx, hb, hml, hown, hts⟩ hK (kX5_copy l D cI cC cZ cQ cJ q 3 4 r42.2 0 0 106 (Or.inr (Or.inl rfl)) (Or.inr (Or.inr (Or.inl rfl))) hr62) (va_cwS 5 hts gX5_ahead_X5_copy rfl rfl rfl (by decide +kernel) ⟨Nat.le_of_ble_eq_true rfl, Nat.le_of_ble_eq_true rfl⟩)  hP hS (fun _ h => h) rfl hl.1 rfl (Nat.le_of_ble_eq_true rfl) ⟨Nat.zero_le _, Nat.zero_le _⟩ dX5_ahead_62 (fun H locs hP hS _ _ => ?_)
          refine lv_aload_n hx hb dX5_ahead_65 rfl (lv_at hl 0 rfl) ?_
          refine lv_aload_n hx hb dX5_ahead_66 rfl (lv_at hl 0 rfl) ?_
          refine va_get (D := D) (ci := 5) (v := .ref (q + 4)) (C := RX5) (T := TX5) (N := 15) hx hb hts hinX5 hown hK hP 0 rfl rfl 8 (by decide) hf19 (fun _ h9 => h9) rfl dX5_ahead_67 ?_
          refine lv_iload_n hx hb dX5_ahead_70 rfl (lv_at hl 2 rfl) ?_
          obtain ⟨r71, hr71, h⟩ := bd_some h
          refine gc_wv (As := [.ref (q + 4), .int p1]) (rest := []) ⟨hx, hb, hml, hown, hts⟩ hK (kX5_stepsOn l D cI cC cZ cQ cJ q 4 r62 p1 (Or.inr (Or.inr rfl)) hr71) (cwV 2 hts gX5_ahead_X5_stepsOn rfl rfl rfl (by decide +kernel) ⟨Nat.le_of_ble_eq_true rfl, Nat.le_of_ble_eq_true rfl⟩) (va_recv hK hP (ci := 5) (q0 := 0) rfl rfl) hP hS (fun _ h => h) rfl hl.1 rfl (Nat.le_of_ble_eq_true rfl) ⟨Nat.zero_le _, Nat.zero_le _⟩ dX5_ahead_71 (fun H locs hP hS _ _ => ?_)
          refine lv_aload_n hx hb dX5_ahead_74 rfl (lv_at hl 0 rfl) ?_
          refine va_get (D := D) (ci := 5) (v := .ref (q + 4)) (C := RX5) (T := TX5) (N := 15) hx hb hts hinX5 hown hK hP 0 rfl rfl 8 (by decide) hf19 (fun _ h9 => h9) rfl dX5_ahead_75 ?_
          refine lv_iload_n hx hb dX5_ahead_78 rfl (lv_at hl 1 rfl) ?_
          refine lv_iload_n hx hb dX5_ahead_79 rfl (lv_at hl 3 rfl) ?_
          obtain ⟨r80, hr80, h⟩ := bd_some h
          refine gc_si (As := [.ref (q + 4), .int p0, .int p2]) (rest := []) ⟨hx, hb, hml, hown, hts⟩ hK (kX5_detail l D cI cC cZ cQ cJ q 4 r71 p0 p2 (Or.inr (Or.inr rfl)) hr80) (va_cwS 3 hts gX5_ahead_X5_detail rfl rfl rfl (by decide +kernel) ⟨Nat.le_of_ble_eq_true rfl, Nat.le_of_ble_eq_true rfl⟩)  hP rfl hl.1 rfl (Nat.le_of_ble_eq_true rfl) ⟨Nat.zero_le _, Nat.zero_le _⟩ dX5_ahead_80 ?_
          have h := Option.some.inj h
          subst h
          exact W.iret (v := r80) hx hb hr (fun t ht hW => ⟨⟨_, (), rfl, rfl, gh ht hP⟩, hS.F ht⟩) hS.2.2 dX5_ahead_83
        · replace h := (if_neg c6).symm.trans h
          refine lv_iconst (v := 0) hx hb dX5_ahead_48 (by decide) ?_
          have h := Option.some.inj h
          subst h
          exact W.iret (v := 0) hx hb hr (fun t ht hW => ⟨⟨_, (), rfl, rfl, gh ht hP⟩, hS.F ht⟩) hS.2.2 dX5_ahead_49
  · replace h := (if_pos c1).symm.trans h
    refine lv_iconst (v := 1) hx hb dX5_ahead_9 (by decide) ?_
    refine lv_goto (tgt := 42) hx hb dX5_ahead_10 (by decide) ?_
    obtain ⟨r42, hr42, h⟩ := bd_some h
    refine gc_wi (As := [.int 1]) (rest := []) ⟨hx, hb, hml, hown, hts⟩ hK (kX5_refused l D cI cC cZ cQ cJ q M 1 hr42) (cwV 1 hts gX5_ahead_X5_refused rfl rfl rfl (by decide +kernel) ⟨Nat.le_of_ble_eq_true rfl, Nat.le_of_ble_eq_true rfl⟩) (va_recv hK hP (ci := 5) (q0 := 0) rfl rfl) hP hS (fun _ h => h) rfl hl.1 rfl (Nat.le_of_ble_eq_true rfl) ⟨Nat.zero_le _, Nat.zero_le _⟩ dX5_ahead_42 (fun H locs hP hS _ _ => ?_)
    refine lv_if_eq (tgt := 50) hx hb dX5_ahead_45 (by decide) (fun c7 => ?_) (fun c7 => ?_)
    · replace h := (if_pos c7).symm.trans h
      refine lv_aload_n hx hb dX5_ahead_50 rfl (lv_at hl 0 rfl) ?_
      refine va_get (D := D) (ci := 5) (v := .ref (q + 3)) (C := RX5) (T := TX5) (N := 15) hx hb hts hinX5 hown hK hP 0 rfl rfl 7 (by decide) hf16 (fun _ h9 => h9) rfl dX5_ahead_51 ?_
      refine lv_iconst (v := 0) hx hb dX5_ahead_54 (by decide) ?_
      refine lv_aload_n hx hb dX5_ahead_55 rfl (lv_at hl 0 rfl) ?_
      refine va_get (D := D) (ci := 5) (v := .ref (q + 4)) (C := RX5) (T := TX5) (N := 15) hx hb hts hinX5 hown hK hP 0 rfl rfl 8 (by decide) hf19 (fun _ h9 => h9) rfl dX5_ahead_56 ?_
      refine lv_iconst (v := 0) hx hb dX5_ahead_59 (by decide) ?_
      refine lv_bipush (v := 106) hx hb dX5_ahead_60 (by decide) ?_
      obtain ⟨r62, hr62, h⟩ := bd_some h
      refine gc_swv (As := [.ref (q + 3), .int 0, .ref (q + 4), .int 0, .int 106]) (rest := []) ⟨hx, hb, hml, hown, hts⟩ hK (kX5_copy l D cI cC cZ cQ cJ q 3 4 r42.2 0 0 106 (Or.inr (Or.inl rfl)) (Or.inr (Or.inr (Or.inl rfl))) hr62) (va_cwS 5 hts gX5_ahead_X5_copy rfl rfl rfl (by decide +kernel) ⟨Nat.le_of_ble_eq_true rfl, Nat.le_of_ble_eq_true rfl⟩)  hP hS (fun _ h => h) rfl hl.1 rfl (Nat.le_of_ble_eq_true rfl) ⟨Nat.zero_le _, Nat.zero_le _⟩ dX5_ahead_62 (fun H locs hP hS _ _ => ?_)
      refine lv_aload_n hx hb dX5_ahead_65 rfl (lv_at hl 0 rfl) ?_
      refine lv_aload_n hx hb dX5_ahead_66 rfl (lv_at hl 0 rfl) ?_
      refine va_get (D := D) (ci := 5) (v := .ref (q + 4)) (C := RX5) (T := TX5) (N := 15) hx hb hts hinX5 hown hK hP 0 rfl rfl 8 (by decide) hf19 (fun _ h9 => h9) rfl dX5_ahead_67 ?_
      refine lv_iload_n hx hb dX5_ahead_70 rfl (lv_at hl 2 rfl) ?_
      obtain ⟨r71, hr71, h⟩ := bd_some h
      refine gc_wv (As := [.ref (q + 4), .int p1]) (rest := []) ⟨hx, hb, hml, hown, hts⟩ hK (kX5_stepsOn l D cI cC cZ cQ cJ q 4 r62 p1 (Or.inr (Or.inr rfl)) hr71) (cwV 2 hts gX5_ahead_X5_stepsOn rfl rfl rfl (by decide +kernel) ⟨Nat.le_of_ble_eq_true rfl, Nat.le_of_ble_eq_true rfl⟩) (va_recv hK hP (ci := 5) (q0 := 0) rfl rfl) hP hS (fun _ h => h) rfl hl.1 rfl (Nat.le_of_ble_eq_true rfl) ⟨Nat.zero_le _, Nat.zero_le _⟩ dX5_ahead_71 (fun H locs hP hS _ _ => ?_)
      refine lv_aload_n hx hb dX5_ahead_74 rfl (lv_at hl 0 rfl) ?_
      refine va_get (D := D) (ci := 5) (v := .ref (q + 4)) (C := RX5) (T := TX5) (N := 15) hx hb hts hinX5 hown hK hP 0 rfl rfl 8 (by decide) hf19 (fun _ h9 => h9) rfl dX5_ahead_75 ?_
      refine lv_iload_n hx hb dX5_ahead_78 rfl (lv_at hl 1 rfl) ?_
      refine lv_iload_n hx hb dX5_ahead_79 rfl (lv_at hl 3 rfl) ?_
      obtain ⟨r80, hr80, h⟩ := bd_some h
      refine gc_si (As := [.ref (q + 4), .int p0, .int p2]) (rest := []) ⟨hx, hb, hml, hown, hts⟩ hK (kX5_detail l D cI cC cZ cQ cJ q 4 r71 p0 p2 (Or.inr (Or.inr rfl)) hr80) (va_cwS 3 hts gX5_ahead_X5_detail rfl rfl rfl (by decide +kernel) ⟨Nat.le_of_ble_eq_true rfl, Nat.le_of_ble_eq_true rfl⟩)  hP rfl hl.1 rfl (Nat.le_of_ble_eq_true rfl) ⟨Nat.zero_le _, Nat.zero_le _⟩ dX5_ahead_80 ?_
      have h := Option.some.inj h
      subst h
      exact W.iret (v := r80) hx hb hr (fun t ht hW => ⟨⟨_, (), rfl, rfl, gh ht hP⟩, hS.F ht⟩) hS.2.2 dX5_ahead_83
    · replace h := (if_neg c7).symm.trans h
      refine lv_iconst (v := 0) hx hb dX5_ahead_48 (by decide) ?_
      have h := Option.some.inj h
      subst h
      exact W.iret (v := 0) hx hb hr (fun t ht hW => ⟨⟨_, (), rfl, rfl, gh ht hP⟩, hS.F ht⟩) hS.2.2 dX5_ahead_49
set_option maxHeartbeats 4000000 in
set_option maxRecDepth 100000 in
theorem kX5_happens (l : Launch) (D : va_G) (cI cC cZ cQ cJ : ClassId) (q : Nat) (M : MSt) (p0 : Int32) (p1 : Int32) {R : Int32 × MSt} (h : fX5_happens M p0 p1 = some R) : Met l yX5_happens wsX5_happens ({ frames := 4, cells := 0, slots := 0, locals := 98 } : Room) (va_Pc [.ref q, .int p0, .int p1] (gB D (gTy cI cC cZ cQ cJ) (va_P D vwCl (MW cI cZ q M)))) (va_Qi (fun r (_ : Unit) => r = R.1) (fun _ t => va_P D vwCl (MW cI cZ q R.2) t.heap) (fIv q 10)) 0 0 (fIv q 10) := by
  refine Met.ofW (cc := cX5_happens) (maxL := 3) (ret := (some .int)) (by decide) rfl ?_
  intro p e s m args below meth c s₁ B hml hv
  obtain ⟨rfl, hP, hK⟩ := hv
  have hx := B.exec
  have hb := B.bytes
  have hr := B.returns
  have hts := atoms_spec (ws := wsX5_happens) B.pre
  have hown : s.vm.findClass RX5 = some m.cls := findClass_of_methodNamed B.named
  have hlocks := B.notSynchronized
  have hinX5 : ∀ w ∈ wsX50, w ∈ wsX5_happens := by decide +kernel
  have hf16 := hts (.fieldLink RX5 16 "GripInspectorModel" "now" "[I") (by decide +kernel)
  have hf19 := hts (.fieldLink RX5 19 "GripInspectorModel" "trial" "[I") (by decide +kernel)
  have hf32 := hts (.fieldLink RX5 32 "GripInspectorModel" "counts" "[I") (by decide +kernel)
  generalize hRM : (headSpec wsX5_happens ({ frames := 4, cells := 0, slots := 0, locals := 98 } : Room)).room = RM
  replace hRM : ({ frames := 4, cells := 0, slots := 0, locals := 98 } : Room) = RM := hRM
  subst hRM
  have hl := lv_entry ([.ref q, .int p0, .int p1]) (n := 3) (Nat.le_of_ble_eq_true rfl)
  rw [lg_entry_eq]
  generalize (lg_sl ([.ref q, .int p0, .int p1]) ++ List.replicate (3 - (lg_sl ([.ref q, .int p0, .int p1])).length) Slot.unset).toArray = ls at hl ⊢
  have hl : lv_has ls 3 [(0, .ref q), (1, .int p0), (2, .int p1)] := hl
  have hS : va_S (fIv q 10) s.heap s.heap [] := va_S.rf
  unfold fX5_happens at h
  obtain ⟨H, hH⟩ : ∃ H, H = s.heap := ⟨_, rfl⟩
  obtain ⟨locs, hlz⟩ : ∃ z : List Loc, z = [] := ⟨_, rfl⟩
  have hP : va_P D vwCl (MW cI cZ q M) H := by rw [hH]; exact hP
  have hS : va_S (fIv q 10) s.heap H locs := by rw [hH, hlz]; exact hS
  refine gc_at hH hlz ?_
  refine lv_aload_n hx hb dX5_happens_0 rfl (lv_at hl 0 rfl) ?_
  refine lv_iload_n hx hb dX5_happens_1 rfl (lv_at hl 1 rfl) ?_
  refine lv_i2l hx hb dX5_happens_2 rfl ?_
  refine lv_lconst (v := 1) hx hb dX5_happens_3 (by decide) ?_
  refine lv_ldc2 (v := 99) hx hb hown (hts (.constantLong RX5 152 (99)) (by decide +kernel)) dX5_happens_4 ?_
  obtain ⟨r7, hr7, h⟩ := bd_some h
  refine gc_si (As := [.long ((p0).toInt64), .long 1, .long 99]) (rest := [.ref q]) ⟨hx, hb, hml, hown, hts⟩ hK (kX5_in l D cI cC cZ cQ cJ ((p0).toInt64) 1 99 hr7) (va_cwS 3 hts gX5_happens_X5_in rfl rfl rfl (by decide +kernel) ⟨Nat.le_of_ble_eq_true rfl, Nat.le_of_ble_eq_true rfl⟩)  trivial rfl hl.1 rfl (Nat.le_of_ble_eq_true rfl) ⟨Nat.zero_le _, Nat.zero_le _⟩ dX5_happens_7 ?_
  refine lv_if_eq (tgt := 29) hx hb dX5_happens_10 (by decide) (fun c1 => ?_) (fun c1 => ?_)
  · replace h := (if_pos c1).symm.trans h
    refine lv_iconst (v := 1) hx hb dX5_happens_29 (by decide) ?_
    obtain ⟨r30, hr30, h⟩ := bd_some h
    refine gc_wi (As := [.int 1]) (rest := []) ⟨hx, hb, hml, hown, hts⟩ hK (kX5_refused l D cI cC cZ cQ cJ q M 1 hr30) (cwV 1 hts gX5_happens_X5_refused rfl rfl rfl (by decide +kernel) ⟨Nat.le_of_ble_eq_true rfl, Nat.le_of_ble_eq_true rfl⟩) (va_recv hK hP (ci := 5) (q0 := 0) rfl rfl) hP hS (fun _ h => h) rfl hl.1 rfl (Nat.le_of_ble_eq_true rfl) ⟨Nat.zero_le _, Nat.zero_le _⟩ dX5_happens_30 (fun H locs hP hS _ _ => ?_)
    refine lv_if_eq (tgt := 38) hx hb dX5_happens_33 (by decide) (fun c2 => ?_) (fun c2 => ?_)
    · replace h := (if_pos c2).symm.trans h
      refine lv_aload_n hx hb dX5_happens_38 rfl (lv_at hl 0 rfl) ?_
      refine va_get (D := D) (ci := 5) (v := .ref (q + 3)) (C := RX5) (T := TX5) (N := 15) hx hb hts hinX5 hown hK hP 0 rfl rfl 7 (by decide) hf16 (fun _ h9 => h9) rfl dX5_happens_39 ?_
      refine lv_iconst (v := 0) hx hb dX5_happens_42 (by decide) ?_
      refine lv_aload_n hx hb dX5_happens_43 rfl (lv_at hl 0 rfl) ?_
      refine va_get (D := D) (ci := 5) (v := .ref (q + 4)) (C := RX5) (T := TX5) (N := 15) hx hb hts hinX5 hown hK hP 0 rfl rfl 8 (by decide) hf19 (fun _ h9 => h9) rfl dX5_happens_44 ?_
      refine lv_iconst (v := 0) hx hb dX5_happens_47 (by decide) ?_
      refine lv_bipush (v := 106) hx hb dX5_happens_48 (by decide) ?_
      obtain ⟨r50, hr50, h⟩ := bd_some h
      refine gc_swv (As := [.ref (q + 3), .int 0, .ref (q + 4), .int 0, .int 106]) (rest := []) ⟨hx, hb, hml, hown, hts⟩ hK (kX5_copy l D cI cC cZ cQ cJ q 3 4 r30.2 0 0 106 (Or.inr (Or.inl rfl)) (Or.inr (Or.inr (Or.inl rfl))) hr50) (va_cwS 5 hts gX5_happens_X5_copy rfl rfl rfl (by decide +kernel) ⟨Nat.le_of_ble_eq_true rfl, Nat.le_of_ble_eq_true rfl⟩)  hP hS (fun _ h => h) rfl hl.1 rfl (Nat.le_of_ble_eq_true rfl) ⟨Nat.zero_le _, Nat.zero_le _⟩ dX5_happens_50 (fun H locs hP hS _ _ => ?_)
      refine lv_aload_n hx hb dX5_happens_53 rfl (lv_at hl 0 rfl) ?_
      refine lv_aload_n hx hb dX5_happens_54 rfl (lv_at hl 0 rfl) ?_
      refine va_get (D := D) (ci := 5) (v := .ref (q + 4)) (C := RX5) (T := TX5) (N := 15) hx hb hts hinX5 hown hK hP 0 rfl rfl 8 (by decide) hf19 (fun _ h9 => h9) rfl dX5_happens_55 ?_
      refine lv_iload_n hx hb dX5_happens_58 rfl (lv_at hl 1 rfl) ?_
      obtain ⟨r59, hr59, h⟩ := bd_some h
      refine gc_wv (As := [.ref (q + 4), .int p0]) (rest := []) ⟨hx, hb, hml, hown, hts⟩ hK (kX5_stepsOn l D cI cC cZ cQ cJ q 4 r50 p0 (Or.inr (Or.inr rfl)) hr59) (cwV 2 hts gX5_happens_X5_stepsOn rfl rfl rfl (by decide +kernel) ⟨Nat.le_of_ble_eq_true rfl, Nat.le_of_ble_eq_true rfl⟩) (va_recv hK hP (ci := 5) (q0 := 0) rfl rfl) hP hS (fun _ h => h) rfl hl.1 rfl (Nat.le_of_ble_eq_true rfl) ⟨Nat.zero_le _, Nat.zero_le _⟩ dX5_happens_59 (fun H locs hP hS _ _ => ?_)
      refine lv_aload_n hx hb dX5_happens_62 rfl (lv_at hl 0 rfl) ?_
      refine va_get (D := D) (ci := 5) (v := .ref (q + 8)) (C := RX5) (T := TX5) (N := 15) hx hb hts hinX5 hown hK hP 0 rfl rfl 13 (by decide) hf32 (fun _ h9 => h9) rfl dX5_happens_63 ?_
      refine lv_iload_n hx hb dX5_happens_66 rfl (lv_at hl 2 rfl) ?_
      obtain ⟨hg3, h⟩ := gd_some h
      refine g_iald (f := ((mA r59) 8)) (k := p1.toNatClampNeg) hx hb hK hP 8 0 rfl rfl hg3 rfl dX5_happens_67 ?_
      have h := Option.some.inj h
      subst h
      exact W.iret (v := (((mA r59) 8) p1.toNatClampNeg)) hx hb hr (fun t ht hW => ⟨⟨_, (), rfl, rfl, gh ht hP⟩, hS.F ht⟩) hS.2.2 dX5_happens_68
    · replace h := (if_neg c2).symm.trans h
      refine lv_iconst (v := 0) hx hb dX5_happens_36 (by decide) ?_
      have h := Option.some.inj h
      subst h
      exact W.iret (v := 0) hx hb hr (fun t ht hW => ⟨⟨_, (), rfl, rfl, gh ht hP⟩, hS.F ht⟩) hS.2.2 dX5_happens_37
  · replace h := (if_neg c1).symm.trans h
    refine lv_iload_n hx hb dX5_happens_13 rfl (lv_at hl 2 rfl) ?_
    refine lv_i2l hx hb dX5_happens_14 rfl ?_
    refine lv_lconst (v := 0) hx hb dX5_happens_15 (by decide) ?_
    refine lv_ldc2 (v := 3) hx hb hown (hts (.constantLong RX5 161 (3)) (by decide +kernel)) dX5_happens_16 ?_
    obtain ⟨r19, hr19, h⟩ := bd_some h
    refine gc_si (As := [.long ((p1).toInt64), .long 0, .long 3]) (rest := [.ref q]) ⟨hx, hb, hml, hown, hts⟩ hK (kX5_in l D cI cC cZ cQ cJ ((p1).toInt64) 0 3 hr19) (va_cwS 3 hts gX5_happens_X5_in rfl rfl rfl (by decide +kernel) ⟨Nat.le_of_ble_eq_true rfl, Nat.le_of_ble_eq_true rfl⟩)  trivial rfl hl.1 rfl (Nat.le_of_ble_eq_true rfl) ⟨Nat.zero_le _, Nat.zero_le _⟩ dX5_happens_19 ?_
    refine lv_if_eq (tgt := 29) hx hb dX5_happens_22 (by decide) (fun c4 => ?_) (fun c4 => ?_)
    · replace h := (if_pos c4).symm.trans h
      refine lv_iconst (v := 1) hx hb dX5_happens_29 (by decide) ?_
      obtain ⟨r30, hr30, h⟩ := bd_some h
      refine gc_wi (As := [.int 1]) (rest := []) ⟨hx, hb, hml, hown, hts⟩ hK (kX5_refused l D cI cC cZ cQ cJ q M 1 hr30) (cwV 1 hts gX5_happens_X5_refused rfl rfl rfl (by decide +kernel) ⟨Nat.le_of_ble_eq_true rfl, Nat.le_of_ble_eq_true rfl⟩) (va_recv hK hP (ci := 5) (q0 := 0) rfl rfl) hP hS (fun _ h => h) rfl hl.1 rfl (Nat.le_of_ble_eq_true rfl) ⟨Nat.zero_le _, Nat.zero_le _⟩ dX5_happens_30 (fun H locs hP hS _ _ => ?_)
      refine lv_if_eq (tgt := 38) hx hb dX5_happens_33 (by decide) (fun c5 => ?_) (fun c5 => ?_)
      · replace h := (if_pos c5).symm.trans h
        refine lv_aload_n hx hb dX5_happens_38 rfl (lv_at hl 0 rfl) ?_
        refine va_get (D := D) (ci := 5) (v := .ref (q + 3)) (C := RX5) (T := TX5) (N := 15) hx hb hts hinX5 hown hK hP 0 rfl rfl 7 (by decide) hf16 (fun _ h9 => h9) rfl dX5_happens_39 ?_
        refine lv_iconst (v := 0) hx hb dX5_happens_42 (by decide) ?_
        refine lv_aload_n hx hb dX5_happens_43 rfl (lv_at hl 0 rfl) ?_
        refine va_get (D := D) (ci := 5) (v := .ref (q + 4)) (C := RX5) (T := TX5) (N := 15) hx hb hts hinX5 hown hK hP 0 rfl rfl 8 (by decide) hf19 (fun _ h9 => h9) rfl dX5_happens_44 ?_
        refine lv_iconst (v := 0) hx hb dX5_happens_47 (by decide) ?_
        refine lv_bipush (v := 106) hx hb dX5_happens_48 (by decide) ?_
        obtain ⟨r50, hr50, h⟩ := bd_some h
        refine gc_swv (As := [.ref (q + 3), .int 0, .ref (q + 4), .int 0, .int 106]) (rest := []) ⟨hx, hb, hml, hown, hts⟩ hK (kX5_copy l D cI cC cZ cQ cJ q 3 4 r30.2 0 0 106 (Or.inr (Or.inl rfl)) (Or.inr (Or.inr (Or.inl rfl))) hr50) (va_cwS 5 hts gX5_happens_X5_copy rfl rfl rfl (by decide +kernel) ⟨Nat.le_of_ble_eq_true rfl, Nat.le_of_ble_eq_true rfl⟩)  hP hS (fun _ h => h) rfl hl.1 rfl (Nat.le_of_ble_eq_true rfl) ⟨Nat.zero_le _, Nat.zero_le _⟩ dX5_happens_50 (fun H locs hP hS _ _ => ?_)
        refine lv_aload_n hx hb dX5_happens_53 rfl (lv_at hl 0 rfl) ?_
        refine lv_aload_n hx hb dX5_happens_54 rfl (lv_at hl 0 rfl) ?_
        refine va_get (D := D) (ci := 5) (v := .ref (q + 4)) (C := RX5) (T := TX5) (N := 15) hx hb hts hinX5 hown hK hP 0 rfl rfl 8 (by decide) hf19 (fun _ h9 => h9) rfl dX5_happens_55 ?_
        refine lv_iload_n hx hb dX5_happens_58 rfl (lv_at hl 1 rfl) ?_
        obtain ⟨r59, hr59, h⟩ := bd_some h
        refine gc_wv (As := [.ref (q + 4), .int p0]) (rest := []) ⟨hx, hb, hml, hown, hts⟩ hK (kX5_stepsOn l D cI cC cZ cQ cJ q 4 r50 p0 (Or.inr (Or.inr rfl)) hr59) (cwV 2 hts gX5_happens_X5_stepsOn rfl rfl rfl (by decide +kernel) ⟨Nat.le_of_ble_eq_true rfl, Nat.le_of_ble_eq_true rfl⟩) (va_recv hK hP (ci := 5) (q0 := 0) rfl rfl) hP hS (fun _ h => h) rfl hl.1 rfl (Nat.le_of_ble_eq_true rfl) ⟨Nat.zero_le _, Nat.zero_le _⟩ dX5_happens_59 (fun H locs hP hS _ _ => ?_)
        refine lv_aload_n hx hb dX5_happens_62 rfl (lv_at hl 0 rfl) ?_
        refine va_get (D := D) (ci := 5) (v := .ref (q + 8)) (C := RX5) (T := TX5) (N := 15) hx hb hts hinX5 hown hK hP 0 rfl rfl 13 (by decide) hf32 (fun _ h9 => h9) rfl dX5_happens_63 ?_
        refine lv_iload_n hx hb dX5_happens_66 rfl (lv_at hl 2 rfl) ?_
        obtain ⟨hg6, h⟩ := gd_some h
        refine g_iald (f := ((mA r59) 8)) (k := p1.toNatClampNeg) hx hb hK hP 8 0 rfl rfl hg6 rfl dX5_happens_67 ?_
        have h := Option.some.inj h
        subst h
        exact W.iret (v := (((mA r59) 8) p1.toNatClampNeg)) hx hb hr (fun t ht hW => ⟨⟨_, (), rfl, rfl, gh ht hP⟩, hS.F ht⟩) hS.2.2 dX5_happens_68
      · replace h := (if_neg c5).symm.trans h
        refine lv_iconst (v := 0) hx hb dX5_happens_36 (by decide) ?_
        have h := Option.some.inj h
        subst h
        exact W.iret (v := 0) hx hb hr (fun t ht hW => ⟨⟨_, (), rfl, rfl, gh ht hP⟩, hS.F ht⟩) hS.2.2 dX5_happens_37
    · replace h := (if_neg c4).symm.trans h
      refine lv_iconst (v := 0) hx hb dX5_happens_25 (by decide) ?_
      refine lv_goto (tgt := 30) hx hb dX5_happens_26 (by decide) ?_
      obtain ⟨r30, hr30, h⟩ := bd_some h
      refine gc_wi (As := [.int 0]) (rest := []) ⟨hx, hb, hml, hown, hts⟩ hK (kX5_refused l D cI cC cZ cQ cJ q M 0 hr30) (cwV 1 hts gX5_happens_X5_refused rfl rfl rfl (by decide +kernel) ⟨Nat.le_of_ble_eq_true rfl, Nat.le_of_ble_eq_true rfl⟩) (va_recv hK hP (ci := 5) (q0 := 0) rfl rfl) hP hS (fun _ h => h) rfl hl.1 rfl (Nat.le_of_ble_eq_true rfl) ⟨Nat.zero_le _, Nat.zero_le _⟩ dX5_happens_30 (fun H locs hP hS _ _ => ?_)
      refine lv_if_eq (tgt := 38) hx hb dX5_happens_33 (by decide) (fun c7 => ?_) (fun c7 => ?_)
      · replace h := (if_pos c7).symm.trans h
        refine lv_aload_n hx hb dX5_happens_38 rfl (lv_at hl 0 rfl) ?_
        refine va_get (D := D) (ci := 5) (v := .ref (q + 3)) (C := RX5) (T := TX5) (N := 15) hx hb hts hinX5 hown hK hP 0 rfl rfl 7 (by decide) hf16 (fun _ h9 => h9) rfl dX5_happens_39 ?_
        refine lv_iconst (v := 0) hx hb dX5_happens_42 (by decide) ?_
        refine lv_aload_n hx hb dX5_happens_43 rfl (lv_at hl 0 rfl) ?_
        refine va_get (D := D) (ci := 5) (v := .ref (q + 4)) (C := RX5) (T := TX5) (N := 15) hx hb hts hinX5 hown hK hP 0 rfl rfl 8 (by decide) hf19 (fun _ h9 => h9) rfl dX5_happens_44 ?_
        refine lv_iconst (v := 0) hx hb dX5_happens_47 (by decide) ?_
        refine lv_bipush (v := 106) hx hb dX5_happens_48 (by decide) ?_
        obtain ⟨r50, hr50, h⟩ := bd_some h
        refine gc_swv (As := [.ref (q + 3), .int 0, .ref (q + 4), .int 0, .int 106]) (rest := []) ⟨hx, hb, hml, hown, hts⟩ hK (kX5_copy l D cI cC cZ cQ cJ q 3 4 r30.2 0 0 106 (Or.inr (Or.inl rfl)) (Or.inr (Or.inr (Or.inl rfl))) hr50) (va_cwS 5 hts gX5_happens_X5_copy rfl rfl rfl (by decide +kernel) ⟨Nat.le_of_ble_eq_true rfl, Nat.le_of_ble_eq_true rfl⟩)  hP hS (fun _ h => h) rfl hl.1 rfl (Nat.le_of_ble_eq_true rfl) ⟨Nat.zero_le _, Nat.zero_le _⟩ dX5_happens_50 (fun H locs hP hS _ _ => ?_)
        refine lv_aload_n hx hb dX5_happens_53 rfl (lv_at hl 0 rfl) ?_
        refine lv_aload_n hx hb dX5_happens_54 rfl (lv_at hl 0 rfl) ?_
        refine va_get (D := D) (ci := 5) (v := .ref (q + 4)) (C := RX5) (T := TX5) (N := 15) hx hb hts hinX5 hown hK hP 0 rfl rfl 8 (by decide) hf19 (fun _ h9 => h9) rfl dX5_happens_55 ?_
        refine lv_iload_n hx hb dX5_happens_58 rfl (lv_at hl 1 rfl) ?_
        obtain ⟨r59, hr59, h⟩ := bd_some h
        refine gc_wv (As := [.ref (q + 4), .int p0]) (rest := []) ⟨hx, hb, hml, hown, hts⟩ hK (kX5_stepsOn l D cI cC cZ cQ cJ q 4 r50 p0 (Or.inr (Or.inr rfl)) hr59) (cwV 2 hts gX5_happens_X5_stepsOn rfl rfl rfl (by decide +kernel) ⟨Nat.le_of_ble_eq_true rfl, Nat.le_of_ble_eq_true rfl⟩) (va_recv hK hP (ci := 5) (q0 := 0) rfl rfl) hP hS (fun _ h => h) rfl hl.1 rfl (Nat.le_of_ble_eq_true rfl) ⟨Nat.zero_le _, Nat.zero_le _⟩ dX5_happens_59 (fun H locs hP hS _ _ => ?_)
        refine lv_aload_n hx hb dX5_happens_62 rfl (lv_at hl 0 rfl) ?_
        refine va_get (D := D) (ci := 5) (v := .ref (q + 8)) (C := RX5) (T := TX5) (N := 15) hx hb hts hinX5 hown hK hP 0 rfl rfl 13 (by decide) hf32 (fun _ h9 => h9) rfl dX5_happens_63 ?_
        refine lv_iload_n hx hb dX5_happens_66 rfl (lv_at hl 2 rfl) ?_
        obtain ⟨hg8, h⟩ := gd_some h
        refine g_iald (f := ((mA r59) 8)) (k := p1.toNatClampNeg) hx hb hK hP 8 0 rfl rfl hg8 rfl dX5_happens_67 ?_
        have h := Option.some.inj h
        subst h
        exact W.iret (v := (((mA r59) 8) p1.toNatClampNeg)) hx hb hr (fun t ht hW => ⟨⟨_, (), rfl, rfl, gh ht hP⟩, hS.F ht⟩) hS.2.2 dX5_happens_68
      · replace h := (if_neg c7).symm.trans h
        refine lv_iconst (v := 0) hx hb dX5_happens_36 (by decide) ?_
        have h := Option.some.inj h
        subst h
        exact W.iret (v := 0) hx hb hr (fun t ht hW => ⟨⟨_, (), rfl, rfl, gh ht hP⟩, hS.F ht⟩) hS.2.2 dX5_happens_37
set_option maxHeartbeats 4000000 in
set_option maxRecDepth 100000 in
theorem kX5_bestLimit (l : Launch) (D : va_G) (cI cC cZ cQ cJ : ClassId) (q : Nat) (M : MSt) (p0 : Int32) {R : Int32 × MSt} (h : fX5_bestLimit M p0 = some R) : Met l yX5_bestLimit wsX5_bestLimit ({ frames := 4, cells := 0, slots := 0, locals := 98 } : Room) (va_Pc [.ref q, .int p0] (gB D (gTy cI cC cZ cQ cJ) (va_P D vwCl (MW cI cZ q M)))) (va_Qi (fun r (_ : Unit) => r = R.1) (fun _ t => va_P D vwCl (MW cI cZ q R.2) t.heap) (fIv q 10)) 0 0 (fIv q 10) := by
  refine Met.ofW (cc := cX5_bestLimit) (maxL := 3) (ret := (some .int)) (by decide) rfl ?_
  intro p e s m args below meth c s₁ B hml hv
  obtain ⟨rfl, hP, hK⟩ := hv
  have hx := B.exec
  have hb := B.bytes
  have hr := B.returns
  have hts := atoms_spec (ws := wsX5_bestLimit) B.pre
  have hown : s.vm.findClass RX5 = some m.cls := findClass_of_methodNamed B.named
  have hlocks := B.notSynchronized
  have hinX5 : ∀ w ∈ wsX50, w ∈ wsX5_bestLimit := by decide +kernel
  have hf16 := hts (.fieldLink RX5 16 "GripInspectorModel" "now" "[I") (by decide +kernel)
  have hf19 := hts (.fieldLink RX5 19 "GripInspectorModel" "trial" "[I") (by decide +kernel)
  have hf32 := hts (.fieldLink RX5 32 "GripInspectorModel" "counts" "[I") (by decide +kernel)
  generalize hRM : (headSpec wsX5_bestLimit ({ frames := 4, cells := 0, slots := 0, locals := 98 } : Room)).room = RM
  replace hRM : ({ frames := 4, cells := 0, slots := 0, locals := 98 } : Room) = RM := hRM
  subst hRM
  have hl := lv_entry ([.ref q, .int p0]) (n := 3) (Nat.le_of_ble_eq_true rfl)
  rw [lg_entry_eq]
  generalize (lg_sl ([.ref q, .int p0]) ++ List.replicate (3 - (lg_sl ([.ref q, .int p0])).length) Slot.unset).toArray = ls at hl ⊢
  have hl : lv_has ls 3 [(0, .ref q), (1, .int p0)] := hl
  have hS : va_S (fIv q 10) s.heap s.heap [] := va_S.rf
  have LP29 : ∀ (n : Nat) (S : MSt) (x1 : Int32) (x2 : Int32) (H : Heap) (locs : List Loc) (ls : Array Slot), fX5_bestLimit_L29 n S x1 x2 = some R → va_P D vwCl (MW cI cZ q S) H → va_S (fIv q 10) s.heap H locs → lv_has ls 3 [(0, .ref q), (1, .int x1), (2, .int x2)] → W p l e ({ frames := 4, cells := 0, slots := 0, locals := 98 } : Room) s m ([.ref q, .int p0] : List Value).toArray below meth c H locs 0 0 (MQ below (va_Qi (fun r (_ : Unit) => r = R.1) (fun _ t => va_P D vwCl (MW cI cZ q R.2) t.heap) (fIv q 10)) ([.ref q, .int p0] : List Value).toArray s 0 0 (fIv q 10)) (F0 m 29 ls []) := by
    intro n
    induction n with
    | zero => intro S x1 x2 H locs ls h hP hS hl; exact no_some h
    | succ n ih =>
      intro S x1 x2 H locs ls h hP hS hl
      rw [fX5_bestLimit_L29] at h
      refine lv_iload_n hx hb dX5_bestLimit_29 rfl (lv_at hl 2 rfl) ?_
      refine lv_if_le (tgt := 82) hx hb dX5_bestLimit_30 (by decide) (fun c3 => ?_) (fun c3 => ?_)
      · replace h := (if_pos c3).symm.trans h
        refine lv_bipush (v := (-9)) hx hb dX5_bestLimit_82 (by decide) ?_
        have h := Option.some.inj h
        subst h
        exact W.iret (v := (-9)) hx hb hr (fun t ht hW => ⟨⟨_, (), rfl, rfl, gh ht hP⟩, hS.F ht⟩) hS.2.2 dX5_bestLimit_84
      · replace h := (if_neg c3).symm.trans h
        refine lv_aload_n hx hb dX5_bestLimit_33 rfl (lv_at hl 0 rfl) ?_
        refine va_get (D := D) (ci := 5) (v := .ref (q + 3)) (C := RX5) (T := TX5) (N := 15) hx hb hts hinX5 hown hK hP 0 rfl rfl 7 (by decide) hf16 (fun _ h9 => h9) rfl dX5_bestLimit_34 ?_
        refine lv_iconst (v := 0) hx hb dX5_bestLimit_37 (by decide) ?_
        refine lv_aload_n hx hb dX5_bestLimit_38 rfl (lv_at hl 0 rfl) ?_
        refine va_get (D := D) (ci := 5) (v := .ref (q + 4)) (C := RX5) (T := TX5) (N := 15) hx hb hts hinX5 hown hK hP 0 rfl rfl 8 (by decide) hf19 (fun _ h9 => h9) rfl dX5_bestLimit_39 ?_
        refine lv_iconst (v := 0) hx hb dX5_bestLimit_42 (by decide) ?_
        refine lv_bipush (v := 106) hx hb dX5_bestLimit_43 (by decide) ?_
        obtain ⟨r45, hr45, h⟩ := bd_some h
        refine gc_swv (As := [.ref (q + 3), .int 0, .ref (q + 4), .int 0, .int 106]) (rest := []) ⟨hx, hb, hml, hown, hts⟩ hK (kX5_copy l D cI cC cZ cQ cJ q 3 4 S 0 0 106 (Or.inr (Or.inl rfl)) (Or.inr (Or.inr (Or.inl rfl))) hr45) (va_cwS 5 hts gX5_bestLimit_X5_copy rfl rfl rfl (by decide +kernel) ⟨Nat.le_of_ble_eq_true rfl, Nat.le_of_ble_eq_true rfl⟩)  hP hS (fun _ h => h) rfl hl.1 rfl (Nat.le_of_ble_eq_true rfl) ⟨Nat.zero_le _, Nat.zero_le _⟩ dX5_bestLimit_45 (fun H locs hP hS _ _ => ?_)
        refine lv_aload_n hx hb dX5_bestLimit_48 rfl (lv_at hl 0 rfl) ?_
        refine va_get (D := D) (ci := 5) (v := .ref (q + 4)) (C := RX5) (T := TX5) (N := 15) hx hb hts hinX5 hown hK hP 0 rfl rfl 8 (by decide) hf19 (fun _ h9 => h9) rfl dX5_bestLimit_49 ?_
        refine lv_bipush (v := 99) hx hb dX5_bestLimit_52 (by decide) ?_
        refine lv_iload_n hx hb dX5_bestLimit_54 rfl (lv_at hl 2 rfl) ?_
        refine g_iast (f := ((mA r45) 4)) (k := 99) hx hb hK hP MW_self hS 4 0 rfl rfl (vin_lit rfl) rfl dX5_bestLimit_55 (fun H locs hP hS => ?_)
        obtain ⟨a4, ha4, h⟩ := lt_some h
        have hP : va_P D vwCl (MW cI cZ q (a4, (mRef r45), (mSize r45), (mSpot r45), (mRN r45), (mN r45), (mActs r45))) H := by have h9 := hP; rw [MW_s4] at h9; rw [ha4]; exact h9
        refine lv_aload_n hx hb dX5_bestLimit_56 rfl (lv_at hl 0 rfl) ?_
        refine lv_aload_n hx hb dX5_bestLimit_57 rfl (lv_at hl 0 rfl) ?_
        refine va_get (D := D) (ci := 5) (v := .ref (q + 4)) (C := RX5) (T := TX5) (N := 15) hx hb hts hinX5 hown hK hP 0 rfl rfl 8 (by decide) hf19 (fun _ h9 => h9) rfl dX5_bestLimit_58 ?_
        refine lv_iload_n hx hb dX5_bestLimit_61 rfl (lv_at hl 1 rfl) ?_
        obtain ⟨r62, hr62, h⟩ := bd_some h
        refine gc_wv (As := [.ref (q + 4), .int x1]) (rest := []) ⟨hx, hb, hml, hown, hts⟩ hK (kX5_stepsOn l D cI cC cZ cQ cJ q 4 (a4, (mRef r45), (mSize r45), (mSpot r45), (mRN r45), (mN r45), (mActs r45)) x1 (Or.inr (Or.inr rfl)) hr62) (cwV 2 hts gX5_bestLimit_X5_stepsOn rfl rfl rfl (by decide +kernel) ⟨Nat.le_of_ble_eq_true rfl, Nat.le_of_ble_eq_true rfl⟩) (va_recv hK hP (ci := 5) (q0 := 0) rfl rfl) hP hS (fun _ h => h) rfl hl.1 rfl (Nat.le_of_ble_eq_true rfl) ⟨Nat.zero_le _, Nat.zero_le _⟩ dX5_bestLimit_62 (fun H locs hP hS _ _ => ?_)
        refine lv_aload_n hx hb dX5_bestLimit_65 rfl (lv_at hl 0 rfl) ?_
        refine va_get (D := D) (ci := 5) (v := .ref (q + 8)) (C := RX5) (T := TX5) (N := 15) hx hb hts hinX5 hown hK hP 0 rfl rfl 13 (by decide) hf32 (fun _ h9 => h9) rfl dX5_bestLimit_66 ?_
        refine lv_iconst (v := 2) hx hb dX5_bestLimit_69 (by decide) ?_
        refine g_iald (f := ((mA r62) 8)) (k := 2) hx hb hK hP 8 0 rfl rfl (vin_lit rfl) rfl dX5_bestLimit_70 ?_
        refine lv_if_ne (tgt := 76) hx hb dX5_bestLimit_71 (by decide) (fun c5 => ?_) (fun c5 => ?_)
        · replace h := (if_neg c5).symm.trans h
          refine lv_iinc (v := (x2 + (-1))) (lv' := [(2, .int (x2 + (-1))), (0, .ref q), (1, .int x1)]) hx hb dX5_bestLimit_76 hl (k := 2) rfl rfl (by decide) rfl (fun ls hl => ?_)
          refine lv_goto (tgt := 29) hx hb dX5_bestLimit_79 (by decide) ?_
          exact ih r62 x1 (x2 + (-1)) H locs ls h hP hS (lv_sub hl [1, 2, 0] rfl)
        · replace h := (if_pos c5).symm.trans h
          refine lv_iload_n hx hb dX5_bestLimit_74 rfl (lv_at hl 2 rfl) ?_
          have h := Option.some.inj h
          subst h
          exact W.iret (v := x2) hx hb hr (fun t ht hW => ⟨⟨_, (), rfl, rfl, gh ht hP⟩, hS.F ht⟩) hS.2.2 dX5_bestLimit_75
  unfold fX5_bestLimit at h
  obtain ⟨H, hH⟩ : ∃ H, H = s.heap := ⟨_, rfl⟩
  obtain ⟨locs, hlz⟩ : ∃ z : List Loc, z = [] := ⟨_, rfl⟩
  have hP : va_P D vwCl (MW cI cZ q M) H := by rw [hH]; exact hP
  have hS : va_S (fIv q 10) s.heap H locs := by rw [hH, hlz]; exact hS
  refine gc_at hH hlz ?_
  refine lv_aload_n hx hb dX5_bestLimit_0 rfl (lv_at hl 0 rfl) ?_
  refine lv_iload_n hx hb dX5_bestLimit_1 rfl (lv_at hl 1 rfl) ?_
  refine lv_i2l hx hb dX5_bestLimit_2 rfl ?_
  refine lv_lconst (v := 1) hx hb dX5_bestLimit_3 (by decide) ?_
  refine lv_ldc2 (v := 99) hx hb hown (hts (.constantLong RX5 152 (99)) (by decide +kernel)) dX5_bestLimit_4 ?_
  obtain ⟨r7, hr7, h⟩ := bd_some h
  refine gc_si (As := [.long ((p0).toInt64), .long 1, .long 99]) (rest := [.ref q]) ⟨hx, hb, hml, hown, hts⟩ hK (kX5_in l D cI cC cZ cQ cJ ((p0).toInt64) 1 99 hr7) (va_cwS 3 hts gX5_bestLimit_X5_in rfl rfl rfl (by decide +kernel) ⟨Nat.le_of_ble_eq_true rfl, Nat.le_of_ble_eq_true rfl⟩)  trivial rfl hl.1 rfl (Nat.le_of_ble_eq_true rfl) ⟨Nat.zero_le _, Nat.zero_le _⟩ dX5_bestLimit_7 ?_
  refine lv_if_eq (tgt := 17) hx hb dX5_bestLimit_10 (by decide) (fun c1 => ?_) (fun c1 => ?_)
  · replace h := (if_pos c1).symm.trans h
    refine lv_iconst (v := 1) hx hb dX5_bestLimit_17 (by decide) ?_
    obtain ⟨r18, hr18, h⟩ := bd_some h
    refine gc_wi (As := [.int 1]) (rest := []) ⟨hx, hb, hml, hown, hts⟩ hK (kX5_refused l D cI cC cZ cQ cJ q M 1 hr18) (cwV 1 hts gX5_bestLimit_X5_refused rfl rfl rfl (by decide +kernel) ⟨Nat.le_of_ble_eq_true rfl, Nat.le_of_ble_eq_true rfl⟩) (va_recv hK hP (ci := 5) (q0 := 0) rfl rfl) hP hS (fun _ h => h) rfl hl.1 rfl (Nat.le_of_ble_eq_true rfl) ⟨Nat.zero_le _, Nat.zero_le _⟩ dX5_bestLimit_18 (fun H locs hP hS _ _ => ?_)
    refine lv_if_eq (tgt := 26) hx hb dX5_bestLimit_21 (by decide) (fun c2 => ?_) (fun c2 => ?_)
    · replace h := (if_pos c2).symm.trans h
      refine lv_bipush (v := 99) hx hb dX5_bestLimit_26 (by decide) ?_
      refine lv_istore_n (lv' := [(2, .int 99), (0, .ref q), (1, .int p0)]) hx hb dX5_bestLimit_28 rfl hl (by decide) rfl (fun ls hl => ?_)
      exact LP29 KF r18.2 p0 99 H locs ls h hP hS (lv_sub hl [1, 2, 0] rfl)
    · replace h := (if_neg c2).symm.trans h
      refine lv_iconst (v := 0) hx hb dX5_bestLimit_24 (by decide) ?_
      have h := Option.some.inj h
      subst h
      exact W.iret (v := 0) hx hb hr (fun t ht hW => ⟨⟨_, (), rfl, rfl, gh ht hP⟩, hS.F ht⟩) hS.2.2 dX5_bestLimit_25
  · replace h := (if_neg c1).symm.trans h
    refine lv_iconst (v := 0) hx hb dX5_bestLimit_13 (by decide) ?_
    refine lv_goto (tgt := 18) hx hb dX5_bestLimit_14 (by decide) ?_
    obtain ⟨r18, hr18, h⟩ := bd_some h
    refine gc_wi (As := [.int 0]) (rest := []) ⟨hx, hb, hml, hown, hts⟩ hK (kX5_refused l D cI cC cZ cQ cJ q M 0 hr18) (cwV 1 hts gX5_bestLimit_X5_refused rfl rfl rfl (by decide +kernel) ⟨Nat.le_of_ble_eq_true rfl, Nat.le_of_ble_eq_true rfl⟩) (va_recv hK hP (ci := 5) (q0 := 0) rfl rfl) hP hS (fun _ h => h) rfl hl.1 rfl (Nat.le_of_ble_eq_true rfl) ⟨Nat.zero_le _, Nat.zero_le _⟩ dX5_bestLimit_18 (fun H locs hP hS _ _ => ?_)
    refine lv_if_eq (tgt := 26) hx hb dX5_bestLimit_21 (by decide) (fun c6 => ?_) (fun c6 => ?_)
    · replace h := (if_pos c6).symm.trans h
      refine lv_bipush (v := 99) hx hb dX5_bestLimit_26 (by decide) ?_
      refine lv_istore_n (lv' := [(2, .int 99), (0, .ref q), (1, .int p0)]) hx hb dX5_bestLimit_28 rfl hl (by decide) rfl (fun ls hl => ?_)
      exact LP29 KF r18.2 p0 99 H locs ls h hP hS (lv_sub hl [1, 2, 0] rfl)
    · replace h := (if_neg c6).symm.trans h
      refine lv_iconst (v := 0) hx hb dX5_bestLimit_24 (by decide) ?_
      have h := Option.some.inj h
      subst h
      exact W.iret (v := 0) hx hb hr (fun t ht hW => ⟨⟨_, (), rfl, rfl, gh ht hP⟩, hS.F ht⟩) hS.2.2 dX5_bestLimit_25
set_option maxHeartbeats 4000000 in
set_option maxRecDepth 100000 in
theorem kX5_emptyAfter (l : Launch) (D : va_G) (cI cC cZ cQ cJ : ClassId) (q : Nat) (M : MSt) {R : Int32 × MSt} (h : fX5_emptyAfter M = some R) : Met l yX5_emptyAfter wsX5_emptyAfter ({ frames := 3, cells := 0, slots := 0, locals := 75 } : Room) (va_Pc [.ref q] (gB D (gTy cI cC cZ cQ cJ) (va_P D vwCl (MW cI cZ q M)))) (va_Qi (fun r (_ : Unit) => r = R.1) (fun _ t => va_P D vwCl (MW cI cZ q R.2) t.heap) (fIv q 10)) 0 0 (fIv q 10) := by
  refine Met.ofW (cc := cX5_emptyAfter) (maxL := 2) (ret := (some .int)) (by decide) rfl ?_
  intro p e s m args below meth c s₁ B hml hv
  obtain ⟨rfl, hP, hK⟩ := hv
  have hx := B.exec
  have hb := B.bytes
  have hr := B.returns
  have hts := atoms_spec (ws := wsX5_emptyAfter) B.pre
  have hown : s.vm.findClass RX5 = some m.cls := findClass_of_methodNamed B.named
  have hlocks := B.notSynchronized
  have hinX5 : ∀ w ∈ wsX50, w ∈ wsX5_emptyAfter := by decide +kernel
  have hf42 := hts (.fieldLink RX5 42 "GripInspectorModel" "refusal" "I") (by decide +kernel)
  have hf16 := hts (.fieldLink RX5 16 "GripInspectorModel" "now" "[I") (by decide +kernel)
  have hf19 := hts (.fieldLink RX5 19 "GripInspectorModel" "trial" "[I") (by decide +kernel)
  generalize hRM : (headSpec wsX5_emptyAfter ({ frames := 3, cells := 0, slots := 0, locals := 75 } : Room)).room = RM
  replace hRM : ({ frames := 3, cells := 0, slots := 0, locals := 75 } : Room) = RM := hRM
  subst hRM
  have hl := lv_entry ([.ref q]) (n := 2) (Nat.le_of_ble_eq_true rfl)
  rw [lg_entry_eq]
  generalize (lg_sl ([.ref q]) ++ List.replicate (2 - (lg_sl ([.ref q])).length) Slot.unset).toArray = ls at hl ⊢
  have hl : lv_has ls 2 [(0, .ref q)] := hl
  have hS : va_S (fIv q 10) s.heap s.heap [] := va_S.rf
  have LP22 : ∀ (n : Nat) (S : MSt) (x1 : Int32) (H : Heap) (locs : List Loc) (ls : Array Slot), fX5_emptyAfter_L22 n S x1 = some R → va_P D vwCl (MW cI cZ q S) H → va_S (fIv q 10) s.heap H locs → lv_has ls 2 [(0, .ref q), (1, .int x1)] → W p l e ({ frames := 3, cells := 0, slots := 0, locals := 75 } : Room) s m ([.ref q] : List Value).toArray below meth c H locs 0 0 (MQ below (va_Qi (fun r (_ : Unit) => r = R.1) (fun _ t => va_P D vwCl (MW cI cZ q R.2) t.heap) (fIv q 10)) ([.ref q] : List Value).toArray s 0 0 (fIv q 10)) (F0 m 22 ls []) := by
    intro n
    induction n with
    | zero => intro S x1 H locs ls h hP hS hl; exact no_some h
    | succ n ih =>
      intro S x1 H locs ls h hP hS hl
      rw [fX5_emptyAfter_L22] at h
      refine lv_iload_n hx hb dX5_emptyAfter_22 rfl (lv_at hl 1 rfl) ?_
      refine lv_sipush (v := 150) hx hb dX5_emptyAfter_23 (by decide) ?_
      refine lv_icmp_gt (tgt := 56) hx hb dX5_emptyAfter_26 (by decide) (fun c1 => ?_) (fun c1 => ?_)
      · replace h := (if_pos c1).symm.trans h
        refine lv_bipush (v := (-9)) hx hb dX5_emptyAfter_56 (by decide) ?_
        have h := Option.some.inj h
        subst h
        exact W.iret (v := (-9)) hx hb hr (fun t ht hW => ⟨⟨_, (), rfl, rfl, gh ht hP⟩, hS.F ht⟩) hS.2.2 dX5_emptyAfter_58
      · replace h := (if_neg c1).symm.trans h
        refine lv_aload_n hx hb dX5_emptyAfter_29 rfl (lv_at hl 0 rfl) ?_
        refine va_get (D := D) (ci := 5) (v := .ref (q + 4)) (C := RX5) (T := TX5) (N := 15) hx hb hts hinX5 hown hK hP 0 rfl rfl 8 (by decide) hf19 (fun _ h9 => h9) rfl dX5_emptyAfter_30 ?_
        refine lv_iconst (v := 0) hx hb dX5_emptyAfter_33 (by decide) ?_
        obtain ⟨r34, hr34, h⟩ := bd_some h
        refine gc_si (As := [.ref (q + 4), .int 0]) (rest := []) ⟨hx, hb, hml, hown, hts⟩ hK (kX5_count l D cI cC cZ cQ cJ q 4 S 0 (Or.inr (Or.inr rfl)) hr34) (va_cwS 2 hts gX5_emptyAfter_X5_count rfl rfl rfl (by decide +kernel) ⟨Nat.le_of_ble_eq_true rfl, Nat.le_of_ble_eq_true rfl⟩)  hP rfl hl.1 rfl (Nat.le_of_ble_eq_true rfl) ⟨Nat.zero_le _, Nat.zero_le _⟩ dX5_emptyAfter_34 ?_
        refine lv_if_ne (tgt := 42) hx hb dX5_emptyAfter_37 (by decide) (fun c2 => ?_) (fun c2 => ?_)
        · replace h := (if_neg c2).symm.trans h
          refine lv_aload_n hx hb dX5_emptyAfter_42 rfl (lv_at hl 0 rfl) ?_
          refine lv_aload_n hx hb dX5_emptyAfter_43 rfl (lv_at hl 0 rfl) ?_
          refine va_get (D := D) (ci := 5) (v := .ref (q + 4)) (C := RX5) (T := TX5) (N := 15) hx hb hts hinX5 hown hK hP 0 rfl rfl 8 (by decide) hf19 (fun _ h9 => h9) rfl dX5_emptyAfter_44 ?_
          obtain ⟨r47, hr47, h⟩ := bd_some h
          refine gc_wv (As := [.ref (q + 4)]) (rest := []) ⟨hx, hb, hml, hown, hts⟩ hK (kX5_stepOn l D cI cC cZ cQ cJ q 4 S (Or.inr (Or.inr rfl)) hr47) (cwV 1 hts gX5_emptyAfter_X5_stepOn rfl rfl rfl (by decide +kernel) ⟨Nat.le_of_ble_eq_true rfl, Nat.le_of_ble_eq_true rfl⟩) (va_recv hK hP (ci := 5) (q0 := 0) rfl rfl) hP hS (fun _ h => h) rfl hl.1 rfl (Nat.le_of_ble_eq_true rfl) ⟨Nat.zero_le _, Nat.zero_le _⟩ dX5_emptyAfter_47 (fun H locs hP hS _ _ => ?_)
          refine lv_iinc (v := (x1 + 1)) (lv' := [(1, .int (x1 + 1)), (0, .ref q)]) hx hb dX5_emptyAfter_50 hl (k := 1) rfl rfl (by decide) rfl (fun ls hl => ?_)
          refine lv_goto (tgt := 22) hx hb dX5_emptyAfter_53 (by decide) ?_
          exact ih r47 (x1 + 1) H locs ls h hP hS (lv_sub hl [1, 0] rfl)
        · replace h := (if_pos c2).symm.trans h
          refine lv_iload_n hx hb dX5_emptyAfter_40 rfl (lv_at hl 1 rfl) ?_
          have h := Option.some.inj h
          subst h
          exact W.iret (v := x1) hx hb hr (fun t ht hW => ⟨⟨_, (), rfl, rfl, gh ht hP⟩, hS.F ht⟩) hS.2.2 dX5_emptyAfter_41
  unfold fX5_emptyAfter at h
  obtain ⟨H, hH⟩ : ∃ H, H = s.heap := ⟨_, rfl⟩
  obtain ⟨locs, hlz⟩ : ∃ z : List Loc, z = [] := ⟨_, rfl⟩
  have hP : va_P D vwCl (MW cI cZ q M) H := by rw [hH]; exact hP
  have hS : va_S (fIv q 10) s.heap H locs := by rw [hH, hlz]; exact hS
  refine gc_at hH hlz ?_
  refine lv_aload_n hx hb dX5_emptyAfter_0 rfl (lv_at hl 0 rfl) ?_
  refine lv_iconst (v := 0) hx hb dX5_emptyAfter_1 (by decide) ?_
  refine va_put (D := D) (ci := 5) (v := .int 0) (ty := .int) (C := RX5) (T := TX5) (N := 15) hx hb hts hinX5 tyX5 tyX5_ok nmX5 hown hK hP MW_self hS 0 rfl rfl 0 (by decide) hf42 (fun _ h9 => h9) rfl (by decide +kernel) rfl rfl (Nat.le_of_ble_eq_true rfl) dX5_emptyAfter_2 (fun H locs hP _ hS => ?_)
  have hP : va_P D vwCl (MW cI cZ q ((mA M), 0, (mSize M), (mSpot M), (mRN M), (mN M), (mActs M))) H := hP
  refine lv_aload_n hx hb dX5_emptyAfter_5 rfl (lv_at hl 0 rfl) ?_
  refine va_get (D := D) (ci := 5) (v := .ref (q + 3)) (C := RX5) (T := TX5) (N := 15) hx hb hts hinX5 hown hK hP 0 rfl rfl 7 (by decide) hf16 (fun _ h9 => h9) rfl dX5_emptyAfter_6 ?_
  refine lv_iconst (v := 0) hx hb dX5_emptyAfter_9 (by decide) ?_
  refine lv_aload_n hx hb dX5_emptyAfter_10 rfl (lv_at hl 0 rfl) ?_
  refine va_get (D := D) (ci := 5) (v := .ref (q + 4)) (C := RX5) (T := TX5) (N := 15) hx hb hts hinX5 hown hK hP 0 rfl rfl 8 (by decide) hf19 (fun _ h9 => h9) rfl dX5_emptyAfter_11 ?_
  refine lv_iconst (v := 0) hx hb dX5_emptyAfter_14 (by decide) ?_
  refine lv_bipush (v := 106) hx hb dX5_emptyAfter_15 (by decide) ?_
  obtain ⟨r17, hr17, h⟩ := bd_some h
  refine gc_swv (As := [.ref (q + 3), .int 0, .ref (q + 4), .int 0, .int 106]) (rest := []) ⟨hx, hb, hml, hown, hts⟩ hK (kX5_copy l D cI cC cZ cQ cJ q 3 4 ((mA M), 0, (mSize M), (mSpot M), (mRN M), (mN M), (mActs M)) 0 0 106 (Or.inr (Or.inl rfl)) (Or.inr (Or.inr (Or.inl rfl))) hr17) (va_cwS 5 hts gX5_emptyAfter_X5_copy rfl rfl rfl (by decide +kernel) ⟨Nat.le_of_ble_eq_true rfl, Nat.le_of_ble_eq_true rfl⟩)  hP hS (fun _ h => h) rfl hl.1 rfl (Nat.le_of_ble_eq_true rfl) ⟨Nat.zero_le _, Nat.zero_le _⟩ dX5_emptyAfter_17 (fun H locs hP hS _ _ => ?_)
  refine lv_iconst (v := 0) hx hb dX5_emptyAfter_20 (by decide) ?_
  refine lv_istore_n (lv' := [(1, .int 0), (0, .ref q)]) hx hb dX5_emptyAfter_21 rfl hl (by decide) rfl (fun ls hl => ?_)
  exact LP22 KF r17 0 H locs ls h hP hS (lv_sub hl [1, 0] rfl)
set_option maxHeartbeats 4000000 in
set_option maxRecDepth 100000 in
theorem kX5_command (l : Launch) (D : va_G) (cI cC cZ cQ cJ : ClassId) (q : Nat) (M : MSt) (p0 : Int32) {R : Int32 × MSt} (h : fX5_command M p0 = some R) : Met l yX5_command wsX5_command ({ frames := 4, cells := 0, slots := 0, locals := 98 } : Room) (va_Pc [.ref q, .int p0] (gB D (gTy cI cC cZ cQ cJ) (va_P D vwCl (MW cI cZ q M)))) (va_Qi (fun r (_ : Unit) => r = R.1) (fun _ t => va_P D vwCl (MW cI cZ q R.2) t.heap) (fIv q 10)) 0 0 (fIv q 10) := by
  refine Met.ofW (cc := cX5_command) (maxL := 7) (ret := (some .boolean)) (by decide) rfl ?_
  intro p e s m args below meth c s₁ B hml hv
  obtain ⟨rfl, hP, hK⟩ := hv
  have hx := B.exec
  have hb := B.bytes
  have hr := B.returns
  have hts := atoms_spec (ws := wsX5_command) B.pre
  have hown : s.vm.findClass RX5 = some m.cls := findClass_of_methodNamed B.named
  have hlocks := B.notSynchronized
  have hinX5 : ∀ w ∈ wsX50, w ∈ wsX5_command := by decide +kernel
  have hf19 := hts (.fieldLink RX5 19 "GripInspectorModel" "trial" "[I") (by decide +kernel)
  generalize hRM : (headSpec wsX5_command ({ frames := 4, cells := 0, slots := 0, locals := 98 } : Room)).room = RM
  replace hRM : ({ frames := 4, cells := 0, slots := 0, locals := 98 } : Room) = RM := hRM
  subst hRM
  have hl := lv_entry ([.ref q, .int p0]) (n := 7) (Nat.le_of_ble_eq_true rfl)
  rw [lg_entry_eq]
  generalize (lg_sl ([.ref q, .int p0]) ++ List.replicate (7 - (lg_sl ([.ref q, .int p0])).length) Slot.unset).toArray = ls at hl ⊢
  have hl : lv_has ls 7 [(0, .ref q), (1, .int p0)] := hl
  have hS : va_S (fIv q 10) s.heap s.heap [] := va_S.rf
  unfold fX5_command at h
  obtain ⟨H, hH⟩ : ∃ H, H = s.heap := ⟨_, rfl⟩
  obtain ⟨locs, hlz⟩ : ∃ z : List Loc, z = [] := ⟨_, rfl⟩
  have hP : va_P D vwCl (MW cI cZ q M) H := by rw [hH]; exact hP
  have hS : va_S (fIv q 10) s.heap H locs := by rw [hH, hlz]; exact hS
  refine gc_at hH hlz ?_
  refine lv_iload_n hx hb dX5_command_0 rfl (lv_at hl 1 rfl) ?_
  refine lv_sipush (v := 10000) hx hb dX5_command_1 (by decide) ?_
  refine lv_idiv hx hb dX5_command_4 (by decide) ?_
  refine lv_istore_n (lv' := [(2, .int (p0 / 10000)), (0, .ref q), (1, .int p0)]) hx hb dX5_command_5 rfl hl (by decide) rfl (fun ls hl => ?_)
  refine lv_iload_n hx hb dX5_command_6 rfl (lv_at hl 2 rfl) ?_
  refine lv_bipush (v := 100) hx hb dX5_command_7 (by decide) ?_
  refine lv_idiv hx hb dX5_command_9 (by decide) ?_
  refine lv_bipush (v := 100) hx hb dX5_command_10 (by decide) ?_
  refine lv_irem hx hb dX5_command_12 (by decide) ?_
  refine lv_istore_n (lv' := [(3, .int ((p0 / 100) - (p0 / 100) / 100 * 100)), (2, .int (p0 / 10000)), (0, .ref q), (1, .int p0)]) hx hb dX5_command_13 rfl hl (by decide) rfl (fun ls hl => ?_)
  refine lv_iload_n hx hb dX5_command_14 rfl (lv_at hl 3 rfl) ?_
  refine lv_bipush (v := 100) hx hb dX5_command_15 (by decide) ?_
  refine lv_irem hx hb dX5_command_17 (by decide) ?_
  refine lv_istore (lv' := [(4, .int (p0 - p0 / 100 * 100)), (3, .int ((p0 / 100) - (p0 / 100) / 100 * 100)), (2, .int (p0 / 10000)), (0, .ref q), (1, .int p0)]) hx hb dX5_command_18 hl (by decide) rfl (fun ls hl => ?_)
  refine lv_iload_n hx hb dX5_command_20 rfl (lv_at hl 1 rfl) ?_
  refine lv_bipush (v := 10) hx hb dX5_command_21 (by decide) ?_
  refine lv_idiv hx hb dX5_command_23 (by decide) ?_
  refine lv_istore (lv' := [(5, .int (((p0 / 100) - (p0 / 100) / 100 * 100) / 10)), (4, .int (p0 - p0 / 100 * 100)), (3, .int ((p0 / 100) - (p0 / 100) / 100 * 100)), (2, .int (p0 / 10000)), (0, .ref q), (1, .int p0)]) hx hb dX5_command_24 hl (by decide) rfl (fun ls hl => ?_)
  refine lv_iload_n hx hb dX5_command_26 rfl (lv_at hl 2 rfl) ?_
  refine lv_aload_n hx hb dX5_command_27 rfl (lv_at hl 4 rfl) ?_
  refine va_get (D := D) (ci := 5) (v := .ref (q + 4)) (C := RX5) (T := TX5) (N := 15) hx hb hts hinX5 hown hK hP 0 rfl rfl 8 (by decide) hf19 (fun _ h9 => h9) rfl dX5_command_28 ?_
  refine lv_bipush (v := 96) hx hb dX5_command_31 (by decide) ?_
  refine g_iald (f := ((mA M) 4)) (k := 96) hx hb hK hP 4 0 rfl rfl (vin_lit rfl) rfl dX5_command_33 ?_
  refine lv_icmp_ge (tgt := 41) hx hb dX5_command_34 (by decide) (fun c1 => ?_) (fun c1 => ?_)
  · replace h := (if_pos c1).symm.trans h
    refine lv_iconst (v := 0) hx hb dX5_command_41 (by decide) ?_
    refine lv_istore (lv' := [(6, .int 0), (5, .int (((p0 / 100) - (p0 / 100) / 100 * 100) / 10)), (4, .int (p0 - p0 / 100 * 100)), (3, .int ((p0 / 100) - (p0 / 100) / 100 * 100)), (2, .int (p0 / 10000)), (0, .ref q), (1, .int p0)]) hx hb dX5_command_42 hl (by decide) rfl (fun ls hl => ?_)
    refine lv_iload_n hx hb dX5_command_44 rfl (lv_at hl 4 rfl) ?_
    by_cases c2 : (p0 / 10000) = 1
    · replace h := (if_pos c2).symm.trans h
      refine lv_tableIn (off := 47) (tgt := 92) hx hb dX5_command_45 (by rw [c2]; decide) (by rw [c2]; decide) (by rw [c2]; rfl) (by decide) ?_
      refine lv_iload_n hx hb dX5_command_92 rfl (lv_at hl 3 rfl) ?_
      refine lv_if_ne (tgt := 101) hx hb dX5_command_93 (by decide) (fun c3 => ?_) (fun c3 => ?_)
      · replace h := (if_neg c3).symm.trans h
        refine lv_iconst (v := 0) hx hb dX5_command_101 (by decide) ?_
        have h := Option.some.inj h
        subst h
        exact W.zret (v := 0) hx hb hr rfl (fun t ht hW => ⟨⟨_, (), rfl, rfl, gh ht hP⟩, hS.F ht⟩) hS.2.2 dX5_command_102
      · replace h := (if_pos c3).symm.trans h
        refine lv_iload hx hb dX5_command_96 (lv_at hl 2 rfl) ?_
        refine lv_if_ne (tgt := 103) hx hb dX5_command_98 (by decide) (fun c4 => ?_) (fun c4 => ?_)
        · replace h := (if_neg c4).symm.trans h
          refine lv_aload_n hx hb dX5_command_103 rfl (lv_at hl 5 rfl) ?_
          refine lv_aload_n hx hb dX5_command_104 rfl (lv_at hl 5 rfl) ?_
          refine va_get (D := D) (ci := 5) (v := .ref (q + 4)) (C := RX5) (T := TX5) (N := 15) hx hb hts hinX5 hown hK hP 0 rfl rfl 8 (by decide) hf19 (fun _ h9 => h9) rfl dX5_command_105 ?_
          refine lv_iload hx hb dX5_command_108 (lv_at hl 2 rfl) ?_
          obtain ⟨r110, hr110, h⟩ := bd_some h
          refine gc_wv (As := [.ref (q + 4), .int (p0 - p0 / 100 * 100)]) (rest := []) ⟨hx, hb, hml, hown, hts⟩ hK (kX5_stepsOn l D cI cC cZ cQ cJ q 4 M (p0 - p0 / 100 * 100) (Or.inr (Or.inr rfl)) hr110) (cwV 2 hts gX5_command_X5_stepsOn rfl rfl rfl (by decide +kernel) ⟨Nat.le_of_ble_eq_true rfl, Nat.le_of_ble_eq_true rfl⟩) (va_recv hK hP (ci := 5) (q0 := 0) rfl rfl) hP hS (fun _ h => h) rfl hl.1 rfl (Nat.le_of_ble_eq_true rfl) ⟨Nat.zero_le _, Nat.zero_le _⟩ dX5_command_110 (fun H locs hP hS _ _ => ?_)
          refine lv_iconst (v := 1) hx hb dX5_command_113 (by decide) ?_
          have h := Option.some.inj h
          subst h
          exact W.zret (v := 1) hx hb hr rfl (fun t ht hW => ⟨⟨_, (), rfl, rfl, gh ht hP⟩, hS.F ht⟩) hS.2.2 dX5_command_114
        · replace h := (if_pos c4).symm.trans h
          refine lv_iconst (v := 0) hx hb dX5_command_101 (by decide) ?_
          have h := Option.some.inj h
          subst h
          exact W.zret (v := 0) hx hb hr rfl (fun t ht hW => ⟨⟨_, (), rfl, rfl, gh ht hP⟩, hS.F ht⟩) hS.2.2 dX5_command_102
    · replace h := (if_neg c2).symm.trans h
      by_cases c5 : (p0 / 10000) = 2
      · replace h := (if_pos c5).symm.trans h
        refine lv_tableIn (off := 70) (tgt := 115) hx hb dX5_command_45 (by rw [c5]; decide) (by rw [c5]; decide) (by rw [c5]; rfl) (by decide) ?_
        refine lv_iload hx hb dX5_command_115 (lv_at hl 0 rfl) ?_
        refine lv_if_eq (tgt := 143) hx hb dX5_command_117 (by decide) (fun _ => ?_) (fun c => absurd c (by decide))
        refine lv_iconst (v := 0) hx hb dX5_command_143 (by decide) ?_
        have h := Option.some.inj h
        subst h
        exact W.zret (v := 0) hx hb hr rfl (fun t ht hW => ⟨⟨_, (), rfl, rfl, gh ht hP⟩, hS.F ht⟩) hS.2.2 dX5_command_144
      · replace h := (if_neg c5).symm.trans h
        by_cases c6 : (p0 / 10000) = 3
        · replace h := (if_pos c6).symm.trans h
          refine lv_tableIn (off := 112) (tgt := 157) hx hb dX5_command_45 (by rw [c6]; decide) (by rw [c6]; decide) (by rw [c6]; rfl) (by decide) ?_
          refine lv_iload hx hb dX5_command_157 (lv_at hl 0 rfl) ?_
          refine lv_if_eq (tgt := 179) hx hb dX5_command_159 (by decide) (fun _ => ?_) (fun c => absurd c (by decide))
          refine lv_iconst (v := 0) hx hb dX5_command_179 (by decide) ?_
          have h := Option.some.inj h
          subst h
          exact W.zret (v := 0) hx hb hr rfl (fun t ht hW => ⟨⟨_, (), rfl, rfl, gh ht hP⟩, hS.F ht⟩) hS.2.2 dX5_command_180
        · replace h := (if_neg c6).symm.trans h
          by_cases c7 : (p0 / 10000) = 4
          · replace h := (if_pos c7).symm.trans h
            refine lv_tableIn (off := 148) (tgt := 193) hx hb dX5_command_45 (by rw [c7]; decide) (by rw [c7]; decide) (by rw [c7]; rfl) (by decide) ?_
            refine lv_iload_n hx hb dX5_command_193 rfl (lv_at hl 3 rfl) ?_
            refine lv_bipush (v := 10) hx hb dX5_command_194 (by decide) ?_
            refine lv_irem hx hb dX5_command_196 (by decide) ?_
            refine lv_if_ne (tgt := 210) hx hb dX5_command_197 (by decide) (fun c8 => ?_) (fun c8 => ?_)
            · replace h := (if_neg c8).symm.trans h
              refine lv_iconst (v := 0) hx hb dX5_command_210 (by decide) ?_
              have h := Option.some.inj h
              subst h
              exact W.zret (v := 0) hx hb hr rfl (fun t ht hW => ⟨⟨_, (), rfl, rfl, gh ht hP⟩, hS.F ht⟩) hS.2.2 dX5_command_211
            · replace h := (if_pos c8).symm.trans h
              refine lv_iload hx hb dX5_command_200 (lv_at hl 1 rfl) ?_
              refine lv_iload hx hb dX5_command_202 (lv_at hl 2 rfl) ?_
              obtain ⟨r204, hr204, h⟩ := bd_some h
              refine gc_si (As := [.int (((p0 / 100) - (p0 / 100) / 100 * 100) / 10), .int (p0 - p0 / 100 * 100)]) (rest := []) ⟨hx, hb, hml, hown, hts⟩ hK (kX5_isLimit l D cI cC cZ cQ cJ (((p0 / 100) - (p0 / 100) / 100 * 100) / 10) (p0 - p0 / 100 * 100) hr204) (va_cwS 2 hts gX5_command_X5_isLimit rfl rfl rfl (by decide +kernel) ⟨Nat.le_of_ble_eq_true rfl, Nat.le_of_ble_eq_true rfl⟩)  trivial rfl hl.1 rfl (Nat.le_of_ble_eq_true rfl) ⟨Nat.zero_le _, Nat.zero_le _⟩ dX5_command_204 ?_
              refine lv_if_ne (tgt := 212) hx hb dX5_command_207 (by decide) (fun c9 => ?_) (fun c9 => ?_)
              · replace h := (if_neg c9).symm.trans h
                refine lv_aload_n hx hb dX5_command_212 rfl (lv_at hl 5 rfl) ?_
                refine va_get (D := D) (ci := 5) (v := .ref (q + 4)) (C := RX5) (T := TX5) (N := 15) hx hb hts hinX5 hown hK hP 0 rfl rfl 8 (by decide) hf19 (fun _ h9 => h9) rfl dX5_command_213 ?_
                refine lv_bipush (v := 99) hx hb dX5_command_216 (by decide) ?_
                refine lv_iload hx hb dX5_command_218 (lv_at hl 1 rfl) ?_
                refine lv_iadd hx hb dX5_command_220 ?_
                refine lv_iload hx hb dX5_command_221 (lv_at hl 2 rfl) ?_
                obtain ⟨hg10, h⟩ := gd_some h
                refine g_iast (f := ((mA M) 4)) (k := ((99 + (((p0 / 100) - (p0 / 100) / 100 * 100) / 10))).toNatClampNeg) hx hb hK hP MW_self hS 4 0 rfl rfl hg10 rfl dX5_command_223 (fun H locs hP hS => ?_)
                obtain ⟨a11, ha11, h⟩ := lt_some h
                have hP : va_P D vwCl (MW cI cZ q (a11, (mRef M), (mSize M), (mSpot M), (mRN M), (mN M), (mActs M))) H := by have h9 := hP; rw [MW_s4] at h9; rw [ha11]; exact h9
                refine lv_iconst (v := 1) hx hb dX5_command_224 (by decide) ?_
                have h := Option.some.inj h
                subst h
                exact W.zret (v := 1) hx hb hr rfl (fun t ht hW => ⟨⟨_, (), rfl, rfl, gh ht hP⟩, hS.F ht⟩) hS.2.2 dX5_command_225
              · replace h := (if_pos c9).symm.trans h
                refine lv_iconst (v := 0) hx hb dX5_command_210 (by decide) ?_
                have h := Option.some.inj h
                subst h
                exact W.zret (v := 0) hx hb hr rfl (fun t ht hW => ⟨⟨_, (), rfl, rfl, gh ht hP⟩, hS.F ht⟩) hS.2.2 dX5_command_211
          · replace h := (if_neg c7).symm.trans h
            by_cases c12 : (p0 / 10000) = 5
            · replace h := (if_pos c12).symm.trans h
              refine lv_tableIn (off := 181) (tgt := 226) hx hb dX5_command_45 (by rw [c12]; decide) (by rw [c12]; decide) (by rw [c12]; rfl) (by decide) ?_
              refine lv_iload hx hb dX5_command_226 (lv_at hl 0 rfl) ?_
              refine lv_if_eq (tgt := 249) hx hb dX5_command_228 (by decide) (fun _ => ?_) (fun c => absurd c (by decide))
              refine lv_iconst (v := 0) hx hb dX5_command_249 (by decide) ?_
              have h := Option.some.inj h
              subst h
              exact W.zret (v := 0) hx hb hr rfl (fun t ht hW => ⟨⟨_, (), rfl, rfl, gh ht hP⟩, hS.F ht⟩) hS.2.2 dX5_command_250
            · replace h := (if_neg c12).symm.trans h
              by_cases c13 : (p0 / 10000) = 6
              · replace h := (if_pos c13).symm.trans h
                refine lv_tableIn (off := 206) (tgt := 251) hx hb dX5_command_45 (by rw [c13]; decide) (by rw [c13]; decide) (by rw [c13]; rfl) (by decide) ?_
                refine lv_iload hx hb dX5_command_251 (lv_at hl 0 rfl) ?_
                refine lv_if_eq (tgt := 280) hx hb dX5_command_253 (by decide) (fun _ => ?_) (fun c => absurd c (by decide))
                refine lv_iconst (v := 0) hx hb dX5_command_280 (by decide) ?_
                have h := Option.some.inj h
                subst h
                exact W.zret (v := 0) hx hb hr rfl (fun t ht hW => ⟨⟨_, (), rfl, rfl, gh ht hP⟩, hS.F ht⟩) hS.2.2 dX5_command_281
              · replace h := (if_neg c13).symm.trans h
                by_cases c14 : (p0 / 10000) = 7
                · replace h := (if_pos c14).symm.trans h
                  refine lv_tableIn (off := 237) (tgt := 282) hx hb dX5_command_45 (by rw [c14]; decide) (by rw [c14]; decide) (by rw [c14]; rfl) (by decide) ?_
                  refine lv_iload_n hx hb dX5_command_282 rfl (lv_at hl 3 rfl) ?_
                  refine lv_if_ne (tgt := 303) hx hb dX5_command_283 (by decide) (fun c15 => ?_) (fun c15 => ?_)
                  · replace h := (if_neg c15).symm.trans h
                    refine lv_iconst (v := 0) hx hb dX5_command_303 (by decide) ?_
                    have h := Option.some.inj h
                    subst h
                    exact W.zret (v := 0) hx hb hr rfl (fun t ht hW => ⟨⟨_, (), rfl, rfl, gh ht hP⟩, hS.F ht⟩) hS.2.2 dX5_command_304
                  · replace h := (if_pos c15).symm.trans h
                    refine lv_aload_n hx hb dX5_command_286 rfl (lv_at hl 5 rfl) ?_
                    refine va_get (D := D) (ci := 5) (v := .ref (q + 4)) (C := RX5) (T := TX5) (N := 15) hx hb hts hinX5 hown hK hP 0 rfl rfl 8 (by decide) hf19 (fun _ h9 => h9) rfl dX5_command_287 ?_
                    refine lv_iconst (v := 0) hx hb dX5_command_290 (by decide) ?_
                    obtain ⟨r291, hr291, h⟩ := bd_some h
                    refine gc_si (As := [.ref (q + 4), .int 0]) (rest := []) ⟨hx, hb, hml, hown, hts⟩ hK (kX5_count l D cI cC cZ cQ cJ q 4 M 0 (Or.inr (Or.inr rfl)) hr291) (va_cwS 2 hts gX5_command_X5_count rfl rfl rfl (by decide +kernel) ⟨Nat.le_of_ble_eq_true rfl, Nat.le_of_ble_eq_true rfl⟩)  hP rfl hl.1 rfl (Nat.le_of_ble_eq_true rfl) ⟨Nat.zero_le _, Nat.zero_le _⟩ dX5_command_291 ?_
                    refine lv_iload hx hb dX5_command_294 (lv_at hl 2 rfl) ?_
                    refine lv_icmp_ne (tgt := 303) hx hb dX5_command_296 (by decide) (fun c16 => ?_) (fun c16 => ?_)
                    · replace h := (if_neg c16).symm.trans h
                      refine lv_iconst (v := 0) hx hb dX5_command_303 (by decide) ?_
                      have h := Option.some.inj h
                      subst h
                      exact W.zret (v := 0) hx hb hr rfl (fun t ht hW => ⟨⟨_, (), rfl, rfl, gh ht hP⟩, hS.F ht⟩) hS.2.2 dX5_command_304
                    · replace h := (if_pos c16).symm.trans h
                      refine lv_iconst (v := 1) hx hb dX5_command_299 (by decide) ?_
                      refine lv_goto (tgt := 304) hx hb dX5_command_300 (by decide) ?_
                      have h := Option.some.inj h
                      subst h
                      exact W.zret (v := 1) hx hb hr rfl (fun t ht hW => ⟨⟨_, (), rfl, rfl, gh ht hP⟩, hS.F ht⟩) hS.2.2 dX5_command_304
                · replace h := (if_neg c14).symm.trans h
                  by_cases c17 : (p0 / 10000) = 8
                  · replace h := (if_pos c17).symm.trans h
                    refine lv_tableIn (off := 260) (tgt := 305) hx hb dX5_command_45 (by rw [c17]; decide) (by rw [c17]; decide) (by rw [c17]; rfl) (by decide) ?_
                    refine lv_aload_n hx hb dX5_command_305 rfl (lv_at hl 5 rfl) ?_
                    refine lv_iload_n hx hb dX5_command_306 rfl (lv_at hl 3 rfl) ?_
                    obtain ⟨r307, hr307, h⟩ := bd_some h
                    refine gc_ri (As := [.int ((p0 / 100) - (p0 / 100) / 100 * 100)]) (rest := []) ⟨hx, hb, hml, hown, hts⟩ hK (kX5_isSlot l D cI cC cZ cQ cJ q M ((p0 / 100) - (p0 / 100) / 100 * 100) hr307) (cwV 1 hts gX5_command_X5_isSlot rfl rfl rfl (by decide +kernel) ⟨Nat.le_of_ble_eq_true rfl, Nat.le_of_ble_eq_true rfl⟩) (va_recv hK hP (ci := 5) (q0 := 0) rfl rfl) hP rfl hl.1 rfl (Nat.le_of_ble_eq_true rfl) ⟨Nat.zero_le _, Nat.zero_le _⟩ dX5_command_307 ?_
                    refine lv_if_eq (tgt := 342) hx hb dX5_command_310 (by decide) (fun c18 => ?_) (fun c18 => ?_)
                    · replace h := (if_pos c18).symm.trans h
                      refine lv_iconst (v := 0) hx hb dX5_command_342 (by decide) ?_
                      have h := Option.some.inj h
                      subst h
                      exact W.zret (v := 0) hx hb hr rfl (fun t ht hW => ⟨⟨_, (), rfl, rfl, gh ht hP⟩, hS.F ht⟩) hS.2.2 dX5_command_343
                    · replace h := (if_neg c18).symm.trans h
                      refine lv_iload hx hb dX5_command_313 (lv_at hl 2 rfl) ?_
                      refine lv_aload_n hx hb dX5_command_315 rfl (lv_at hl 5 rfl) ?_
                      refine va_get (D := D) (ci := 5) (v := .ref (q + 4)) (C := RX5) (T := TX5) (N := 15) hx hb hts hinX5 hown hK hP 0 rfl rfl 8 (by decide) hf19 (fun _ h9 => h9) rfl dX5_command_316 ?_
                      refine lv_bipush (v := 96) hx hb dX5_command_319 (by decide) ?_
                      refine g_iald (f := ((mA M) 4)) (k := 96) hx hb hK hP 4 0 rfl rfl (vin_lit rfl) rfl dX5_command_321 ?_
                      refine lv_icmp_ge (tgt := 342) hx hb dX5_command_322 (by decide) (fun c19 => ?_) (fun c19 => ?_)
                      · replace h := (if_pos c19).symm.trans h
                        refine lv_iconst (v := 0) hx hb dX5_command_342 (by decide) ?_
                        have h := Option.some.inj h
                        subst h
                        exact W.zret (v := 0) hx hb hr rfl (fun t ht hW => ⟨⟨_, (), rfl, rfl, gh ht hP⟩, hS.F ht⟩) hS.2.2 dX5_command_343
                      · replace h := (if_neg c19).symm.trans h
                        refine lv_aload_n hx hb dX5_command_325 rfl (lv_at hl 5 rfl) ?_
                        refine va_get (D := D) (ci := 5) (v := .ref (q + 4)) (C := RX5) (T := TX5) (N := 15) hx hb hts hinX5 hown hK hP 0 rfl rfl 8 (by decide) hf19 (fun _ h9 => h9) rfl dX5_command_326 ?_
                        refine lv_iload_n hx hb dX5_command_329 rfl (lv_at hl 3 rfl) ?_
                        obtain ⟨r330, hr330, h⟩ := bd_some h
                        refine gc_si (As := [.ref (q + 4), .int ((p0 / 100) - (p0 / 100) / 100 * 100)]) (rest := []) ⟨hx, hb, hml, hown, hts⟩ hK (kX5_gripAt l D cI cC cZ cQ cJ q 4 M ((p0 / 100) - (p0 / 100) / 100 * 100) (Or.inr (Or.inr rfl)) hr330) (va_cwS 2 hts gX5_command_X5_gripAt rfl rfl rfl (by decide +kernel) ⟨Nat.le_of_ble_eq_true rfl, Nat.le_of_ble_eq_true rfl⟩)  hP rfl hl.1 rfl (Nat.le_of_ble_eq_true rfl) ⟨Nat.zero_le _, Nat.zero_le _⟩ dX5_command_330 ?_
                        refine lv_iload hx hb dX5_command_333 (lv_at hl 2 rfl) ?_
                        refine lv_icmp_ne (tgt := 342) hx hb dX5_command_335 (by decide) (fun c20 => ?_) (fun c20 => ?_)
                        · replace h := (if_neg c20).symm.trans h
                          refine lv_iconst (v := 0) hx hb dX5_command_342 (by decide) ?_
                          have h := Option.some.inj h
                          subst h
                          exact W.zret (v := 0) hx hb hr rfl (fun t ht hW => ⟨⟨_, (), rfl, rfl, gh ht hP⟩, hS.F ht⟩) hS.2.2 dX5_command_343
                        · replace h := (if_pos c20).symm.trans h
                          refine lv_iconst (v := 1) hx hb dX5_command_338 (by decide) ?_
                          refine lv_goto (tgt := 343) hx hb dX5_command_339 (by decide) ?_
                          have h := Option.some.inj h
                          subst h
                          exact W.zret (v := 1) hx hb hr rfl (fun t ht hW => ⟨⟨_, (), rfl, rfl, gh ht hP⟩, hS.F ht⟩) hS.2.2 dX5_command_343
                  · replace h := (if_neg c17).symm.trans h
                    refine lv_tableOut (tgt := 344) hx hb dX5_command_45 (gsw_out 1 8 (x := (p0 / 10000)) ?_) (by decide) ?_
                    · intro k h1 h2 hk
                      rcases (show k = 1 ∨ k = 2 ∨ k = 3 ∨ k = 4 ∨ k = 5 ∨ k = 6 ∨ k = 7 ∨ k = 8 by omega) with rfl | rfl | rfl | rfl | rfl | rfl | rfl | rfl
                      · exact lv_neT c2 (by decide) hk
                      · exact lv_neT c5 (by decide) hk
                      · exact lv_neT c6 (by decide) hk
                      · exact lv_neT c7 (by decide) hk
                      · exact lv_neT c12 (by decide) hk
                      · exact lv_neT c13 (by decide) hk
                      · exact lv_neT c14 (by decide) hk
                      · exact lv_neT c17 (by decide) hk
                    · refine lv_iconst (v := 0) hx hb dX5_command_344 (by decide) ?_
                      have h := Option.some.inj h
                      subst h
                      exact W.zret (v := 0) hx hb hr rfl (fun t ht hW => ⟨⟨_, (), rfl, rfl, gh ht hP⟩, hS.F ht⟩) hS.2.2 dX5_command_345
  · replace h := (if_neg c1).symm.trans h
    refine lv_iconst (v := 1) hx hb dX5_command_37 (by decide) ?_
    refine lv_goto (tgt := 42) hx hb dX5_command_38 (by decide) ?_
    refine lv_istore (lv' := [(6, .int 1), (5, .int (((p0 / 100) - (p0 / 100) / 100 * 100) / 10)), (4, .int (p0 - p0 / 100 * 100)), (3, .int ((p0 / 100) - (p0 / 100) / 100 * 100)), (2, .int (p0 / 10000)), (0, .ref q), (1, .int p0)]) hx hb dX5_command_42 hl (by decide) rfl (fun ls hl => ?_)
    refine lv_iload_n hx hb dX5_command_44 rfl (lv_at hl 4 rfl) ?_
    by_cases c21 : (p0 / 10000) = 1
    · replace h := (if_pos c21).symm.trans h
      refine lv_tableIn (off := 47) (tgt := 92) hx hb dX5_command_45 (by rw [c21]; decide) (by rw [c21]; decide) (by rw [c21]; rfl) (by decide) ?_
      refine lv_iload_n hx hb dX5_command_92 rfl (lv_at hl 3 rfl) ?_
      refine lv_if_ne (tgt := 101) hx hb dX5_command_93 (by decide) (fun c22 => ?_) (fun c22 => ?_)
      · replace h := (if_neg c22).symm.trans h
        refine lv_iconst (v := 0) hx hb dX5_command_101 (by decide) ?_
        have h := Option.some.inj h
        subst h
        exact W.zret (v := 0) hx hb hr rfl (fun t ht hW => ⟨⟨_, (), rfl, rfl, gh ht hP⟩, hS.F ht⟩) hS.2.2 dX5_command_102
      · replace h := (if_pos c22).symm.trans h
        refine lv_iload hx hb dX5_command_96 (lv_at hl 2 rfl) ?_
        refine lv_if_ne (tgt := 103) hx hb dX5_command_98 (by decide) (fun c23 => ?_) (fun c23 => ?_)
        · replace h := (if_neg c23).symm.trans h
          refine lv_aload_n hx hb dX5_command_103 rfl (lv_at hl 5 rfl) ?_
          refine lv_aload_n hx hb dX5_command_104 rfl (lv_at hl 5 rfl) ?_
          refine va_get (D := D) (ci := 5) (v := .ref (q + 4)) (C := RX5) (T := TX5) (N := 15) hx hb hts hinX5 hown hK hP 0 rfl rfl 8 (by decide) hf19 (fun _ h9 => h9) rfl dX5_command_105 ?_
          refine lv_iload hx hb dX5_command_108 (lv_at hl 2 rfl) ?_
          obtain ⟨r110, hr110, h⟩ := bd_some h
          refine gc_wv (As := [.ref (q + 4), .int (p0 - p0 / 100 * 100)]) (rest := []) ⟨hx, hb, hml, hown, hts⟩ hK (kX5_stepsOn l D cI cC cZ cQ cJ q 4 M (p0 - p0 / 100 * 100) (Or.inr (Or.inr rfl)) hr110) (cwV 2 hts gX5_command_X5_stepsOn rfl rfl rfl (by decide +kernel) ⟨Nat.le_of_ble_eq_true rfl, Nat.le_of_ble_eq_true rfl⟩) (va_recv hK hP (ci := 5) (q0 := 0) rfl rfl) hP hS (fun _ h => h) rfl hl.1 rfl (Nat.le_of_ble_eq_true rfl) ⟨Nat.zero_le _, Nat.zero_le _⟩ dX5_command_110 (fun H locs hP hS _ _ => ?_)
          refine lv_iconst (v := 1) hx hb dX5_command_113 (by decide) ?_
          have h := Option.some.inj h
          subst h
          exact W.zret (v := 1) hx hb hr rfl (fun t ht hW => ⟨⟨_, (), rfl, rfl, gh ht hP⟩, hS.F ht⟩) hS.2.2 dX5_command_114
        · replace h := (if_pos c23).symm.trans h
          refine lv_iconst (v := 0) hx hb dX5_command_101 (by decide) ?_
          have h := Option.some.inj h
          subst h
          exact W.zret (v := 0) hx hb hr rfl (fun t ht hW => ⟨⟨_, (), rfl, rfl, gh ht hP⟩, hS.F ht⟩) hS.2.2 dX5_command_102
    · replace h := (if_neg c21).symm.trans h
      by_cases c24 : (p0 / 10000) = 2
      · replace h := (if_pos c24).symm.trans h
        refine lv_tableIn (off := 70) (tgt := 115) hx hb dX5_command_45 (by rw [c24]; decide) (by rw [c24]; decide) (by rw [c24]; rfl) (by decide) ?_
        refine lv_iload hx hb dX5_command_115 (lv_at hl 0 rfl) ?_
        refine lv_if_eq (tgt := 143) hx hb dX5_command_117 (by decide) (fun c => absurd c (by decide)) (fun _ => ?_)
        refine lv_aload_n hx hb dX5_command_120 rfl (lv_at hl 5 rfl) ?_
        refine lv_iload hx hb dX5_command_121 (lv_at hl 2 rfl) ?_
        obtain ⟨r123, hr123, h⟩ := bd_some h
        refine gc_ri (As := [.int (p0 - p0 / 100 * 100)]) (rest := []) ⟨hx, hb, hml, hown, hts⟩ hK (kX5_isSlot l D cI cC cZ cQ cJ q M (p0 - p0 / 100 * 100) hr123) (cwV 1 hts gX5_command_X5_isSlot rfl rfl rfl (by decide +kernel) ⟨Nat.le_of_ble_eq_true rfl, Nat.le_of_ble_eq_true rfl⟩) (va_recv hK hP (ci := 5) (q0 := 0) rfl rfl) hP rfl hl.1 rfl (Nat.le_of_ble_eq_true rfl) ⟨Nat.zero_le _, Nat.zero_le _⟩ dX5_command_123 ?_
        refine lv_if_eq (tgt := 143) hx hb dX5_command_126 (by decide) (fun c25 => ?_) (fun c25 => ?_)
        · replace h := (if_pos c25).symm.trans h
          refine lv_iconst (v := 0) hx hb dX5_command_143 (by decide) ?_
          have h := Option.some.inj h
          subst h
          exact W.zret (v := 0) hx hb hr rfl (fun t ht hW => ⟨⟨_, (), rfl, rfl, gh ht hP⟩, hS.F ht⟩) hS.2.2 dX5_command_144
        · replace h := (if_neg c25).symm.trans h
          refine lv_aload_n hx hb dX5_command_129 rfl (lv_at hl 5 rfl) ?_
          refine lv_aload_n hx hb dX5_command_130 rfl (lv_at hl 5 rfl) ?_
          refine va_get (D := D) (ci := 5) (v := .ref (q + 4)) (C := RX5) (T := TX5) (N := 15) hx hb hts hinX5 hown hK hP 0 rfl rfl 8 (by decide) hf19 (fun _ h9 => h9) rfl dX5_command_131 ?_
          refine lv_iload_n hx hb dX5_command_134 rfl (lv_at hl 3 rfl) ?_
          refine lv_iload hx hb dX5_command_135 (lv_at hl 2 rfl) ?_
          obtain ⟨r137, hr137, h⟩ := bd_some h
          refine gc_ri (As := [.ref (q + 4), .int ((p0 / 100) - (p0 / 100) / 100 * 100), .int (p0 - p0 / 100 * 100)]) (rest := []) ⟨hx, hb, hml, hown, hts⟩ hK (kX5_canPut l D cI cC cZ cQ cJ q 4 M ((p0 / 100) - (p0 / 100) / 100 * 100) (p0 - p0 / 100 * 100) (Or.inr (Or.inr rfl)) hr137) (cwV 3 hts gX5_command_X5_canPut rfl rfl rfl (by decide +kernel) ⟨Nat.le_of_ble_eq_true rfl, Nat.le_of_ble_eq_true rfl⟩) (va_recv hK hP (ci := 5) (q0 := 0) rfl rfl) hP rfl hl.1 rfl (Nat.le_of_ble_eq_true rfl) ⟨Nat.zero_le _, Nat.zero_le _⟩ dX5_command_137 ?_
          refine lv_if_ne (tgt := 145) hx hb dX5_command_140 (by decide) (fun c26 => ?_) (fun c26 => ?_)
          · replace h := (if_neg c26).symm.trans h
            refine lv_aload_n hx hb dX5_command_145 rfl (lv_at hl 5 rfl) ?_
            refine va_get (D := D) (ci := 5) (v := .ref (q + 4)) (C := RX5) (T := TX5) (N := 15) hx hb hts hinX5 hown hK hP 0 rfl rfl 8 (by decide) hf19 (fun _ h9 => h9) rfl dX5_command_146 ?_
            refine lv_iload_n hx hb dX5_command_149 rfl (lv_at hl 3 rfl) ?_
            refine lv_iload hx hb dX5_command_150 (lv_at hl 2 rfl) ?_
            obtain ⟨r152, hr152, h⟩ := bd_some h
            refine gc_swv (As := [.ref (q + 4), .int ((p0 / 100) - (p0 / 100) / 100 * 100), .int (p0 - p0 / 100 * 100)]) (rest := []) ⟨hx, hb, hml, hown, hts⟩ hK (kX5_putAt l D cI cC cZ cQ cJ q 4 M ((p0 / 100) - (p0 / 100) / 100 * 100) (p0 - p0 / 100 * 100) (Or.inr (Or.inr rfl)) hr152) (va_cwS 3 hts gX5_command_X5_putAt rfl rfl rfl (by decide +kernel) ⟨Nat.le_of_ble_eq_true rfl, Nat.le_of_ble_eq_true rfl⟩)  hP hS (fun _ h => h) rfl hl.1 rfl (Nat.le_of_ble_eq_true rfl) ⟨Nat.zero_le _, Nat.zero_le _⟩ dX5_command_152 (fun H locs hP hS _ _ => ?_)
            refine lv_iconst (v := 1) hx hb dX5_command_155 (by decide) ?_
            have h := Option.some.inj h
            subst h
            exact W.zret (v := 1) hx hb hr rfl (fun t ht hW => ⟨⟨_, (), rfl, rfl, gh ht hP⟩, hS.F ht⟩) hS.2.2 dX5_command_156
          · replace h := (if_pos c26).symm.trans h
            refine lv_iconst (v := 0) hx hb dX5_command_143 (by decide) ?_
            have h := Option.some.inj h
            subst h
            exact W.zret (v := 0) hx hb hr rfl (fun t ht hW => ⟨⟨_, (), rfl, rfl, gh ht hP⟩, hS.F ht⟩) hS.2.2 dX5_command_144
      · replace h := (if_neg c24).symm.trans h
        by_cases c27 : (p0 / 10000) = 3
        · replace h := (if_pos c27).symm.trans h
          refine lv_tableIn (off := 112) (tgt := 157) hx hb dX5_command_45 (by rw [c27]; decide) (by rw [c27]; decide) (by rw [c27]; rfl) (by decide) ?_
          refine lv_iload hx hb dX5_command_157 (lv_at hl 0 rfl) ?_
          refine lv_if_eq (tgt := 179) hx hb dX5_command_159 (by decide) (fun c => absurd c (by decide)) (fun _ => ?_)
          refine lv_iload hx hb dX5_command_162 (lv_at hl 2 rfl) ?_
          refine lv_if_ne (tgt := 179) hx hb dX5_command_164 (by decide) (fun c28 => ?_) (fun c28 => ?_)
          · replace h := (if_neg c28).symm.trans h
            refine lv_iconst (v := 0) hx hb dX5_command_179 (by decide) ?_
            have h := Option.some.inj h
            subst h
            exact W.zret (v := 0) hx hb hr rfl (fun t ht hW => ⟨⟨_, (), rfl, rfl, gh ht hP⟩, hS.F ht⟩) hS.2.2 dX5_command_180
          · replace h := (if_pos c28).symm.trans h
            refine lv_aload_n hx hb dX5_command_167 rfl (lv_at hl 5 rfl) ?_
            refine va_get (D := D) (ci := 5) (v := .ref (q + 4)) (C := RX5) (T := TX5) (N := 15) hx hb hts hinX5 hown hK hP 0 rfl rfl 8 (by decide) hf19 (fun _ h9 => h9) rfl dX5_command_168 ?_
            refine lv_bipush (v := 60) hx hb dX5_command_171 (by decide) ?_
            refine lv_iload_n hx hb dX5_command_173 rfl (lv_at hl 3 rfl) ?_
            refine lv_iadd hx hb dX5_command_174 ?_
            obtain ⟨hg29, h⟩ := gd_some h
            refine g_iald (f := ((mA M) 4)) (k := ((60 + ((p0 / 100) - (p0 / 100) / 100 * 100))).toNatClampNeg) hx hb hK hP 4 0 rfl rfl hg29 rfl dX5_command_175 ?_
            refine lv_if_eq (tgt := 181) hx hb dX5_command_176 (by decide) (fun c30 => ?_) (fun c30 => ?_)
            · replace h := (if_pos c30).symm.trans h
              refine lv_aload_n hx hb dX5_command_181 rfl (lv_at hl 5 rfl) ?_
              refine va_get (D := D) (ci := 5) (v := .ref (q + 4)) (C := RX5) (T := TX5) (N := 15) hx hb hts hinX5 hown hK hP 0 rfl rfl 8 (by decide) hf19 (fun _ h9 => h9) rfl dX5_command_182 ?_
              refine lv_bipush (v := 60) hx hb dX5_command_185 (by decide) ?_
              refine lv_iload_n hx hb dX5_command_187 rfl (lv_at hl 3 rfl) ?_
              refine lv_iadd hx hb dX5_command_188 ?_
              refine lv_iconst (v := 1) hx hb dX5_command_189 (by decide) ?_
              refine g_iast (f := ((mA M) 4)) (k := ((60 + ((p0 / 100) - (p0 / 100) / 100 * 100))).toNatClampNeg) hx hb hK hP MW_self hS 4 0 rfl rfl hg29 rfl dX5_command_190 (fun H locs hP hS => ?_)
              obtain ⟨a31, ha31, h⟩ := lt_some h
              have hP : va_P D vwCl (MW cI cZ q (a31, (mRef M), (mSize M), (mSpot M), (mRN M), (mN M), (mActs M))) H := by have h9 := hP; rw [MW_s4] at h9; rw [ha31]; exact h9
              refine lv_iconst (v := 1) hx hb dX5_command_191 (by decide) ?_
              have h := Option.some.inj h
              subst h
              exact W.zret (v := 1) hx hb hr rfl (fun t ht hW => ⟨⟨_, (), rfl, rfl, gh ht hP⟩, hS.F ht⟩) hS.2.2 dX5_command_192
            · replace h := (if_neg c30).symm.trans h
              refine lv_iconst (v := 0) hx hb dX5_command_179 (by decide) ?_
              have h := Option.some.inj h
              subst h
              exact W.zret (v := 0) hx hb hr rfl (fun t ht hW => ⟨⟨_, (), rfl, rfl, gh ht hP⟩, hS.F ht⟩) hS.2.2 dX5_command_180
        · replace h := (if_neg c27).symm.trans h
          by_cases c32 : (p0 / 10000) = 4
          · replace h := (if_pos c32).symm.trans h
            refine lv_tableIn (off := 148) (tgt := 193) hx hb dX5_command_45 (by rw [c32]; decide) (by rw [c32]; decide) (by rw [c32]; rfl) (by decide) ?_
            refine lv_iload_n hx hb dX5_command_193 rfl (lv_at hl 3 rfl) ?_
            refine lv_bipush (v := 10) hx hb dX5_command_194 (by decide) ?_
            refine lv_irem hx hb dX5_command_196 (by decide) ?_
            refine lv_if_ne (tgt := 210) hx hb dX5_command_197 (by decide) (fun c33 => ?_) (fun c33 => ?_)
            · replace h := (if_neg c33).symm.trans h
              refine lv_iconst (v := 0) hx hb dX5_command_210 (by decide) ?_
              have h := Option.some.inj h
              subst h
              exact W.zret (v := 0) hx hb hr rfl (fun t ht hW => ⟨⟨_, (), rfl, rfl, gh ht hP⟩, hS.F ht⟩) hS.2.2 dX5_command_211
            · replace h := (if_pos c33).symm.trans h
              refine lv_iload hx hb dX5_command_200 (lv_at hl 1 rfl) ?_
              refine lv_iload hx hb dX5_command_202 (lv_at hl 2 rfl) ?_
              obtain ⟨r204, hr204, h⟩ := bd_some h
              refine gc_si (As := [.int (((p0 / 100) - (p0 / 100) / 100 * 100) / 10), .int (p0 - p0 / 100 * 100)]) (rest := []) ⟨hx, hb, hml, hown, hts⟩ hK (kX5_isLimit l D cI cC cZ cQ cJ (((p0 / 100) - (p0 / 100) / 100 * 100) / 10) (p0 - p0 / 100 * 100) hr204) (va_cwS 2 hts gX5_command_X5_isLimit rfl rfl rfl (by decide +kernel) ⟨Nat.le_of_ble_eq_true rfl, Nat.le_of_ble_eq_true rfl⟩)  trivial rfl hl.1 rfl (Nat.le_of_ble_eq_true rfl) ⟨Nat.zero_le _, Nat.zero_le _⟩ dX5_command_204 ?_
              refine lv_if_ne (tgt := 212) hx hb dX5_command_207 (by decide) (fun c34 => ?_) (fun c34 => ?_)
              · replace h := (if_neg c34).symm.trans h
                refine lv_aload_n hx hb dX5_command_212 rfl (lv_at hl 5 rfl) ?_
                refine va_get (D := D) (ci := 5) (v := .ref (q + 4)) (C := RX5) (T := TX5) (N := 15) hx hb hts hinX5 hown hK hP 0 rfl rfl 8 (by decide) hf19 (fun _ h9 => h9) rfl dX5_command_213 ?_
                refine lv_bipush (v := 99) hx hb dX5_command_216 (by decide) ?_
                refine lv_iload hx hb dX5_command_218 (lv_at hl 1 rfl) ?_
                refine lv_iadd hx hb dX5_command_220 ?_
                refine lv_iload hx hb dX5_command_221 (lv_at hl 2 rfl) ?_
                obtain ⟨hg35, h⟩ := gd_some h
                refine g_iast (f := ((mA M) 4)) (k := ((99 + (((p0 / 100) - (p0 / 100) / 100 * 100) / 10))).toNatClampNeg) hx hb hK hP MW_self hS 4 0 rfl rfl hg35 rfl dX5_command_223 (fun H locs hP hS => ?_)
                obtain ⟨a36, ha36, h⟩ := lt_some h
                have hP : va_P D vwCl (MW cI cZ q (a36, (mRef M), (mSize M), (mSpot M), (mRN M), (mN M), (mActs M))) H := by have h9 := hP; rw [MW_s4] at h9; rw [ha36]; exact h9
                refine lv_iconst (v := 1) hx hb dX5_command_224 (by decide) ?_
                have h := Option.some.inj h
                subst h
                exact W.zret (v := 1) hx hb hr rfl (fun t ht hW => ⟨⟨_, (), rfl, rfl, gh ht hP⟩, hS.F ht⟩) hS.2.2 dX5_command_225
              · replace h := (if_pos c34).symm.trans h
                refine lv_iconst (v := 0) hx hb dX5_command_210 (by decide) ?_
                have h := Option.some.inj h
                subst h
                exact W.zret (v := 0) hx hb hr rfl (fun t ht hW => ⟨⟨_, (), rfl, rfl, gh ht hP⟩, hS.F ht⟩) hS.2.2 dX5_command_211
          · replace h := (if_neg c32).symm.trans h
            by_cases c37 : (p0 / 10000) = 5
            · replace h := (if_pos c37).symm.trans h
              refine lv_tableIn (off := 181) (tgt := 226) hx hb dX5_command_45 (by rw [c37]; decide) (by rw [c37]; decide) (by rw [c37]; rfl) (by decide) ?_
              refine lv_iload hx hb dX5_command_226 (lv_at hl 0 rfl) ?_
              refine lv_if_eq (tgt := 249) hx hb dX5_command_228 (by decide) (fun c => absurd c (by decide)) (fun _ => ?_)
              refine lv_aload_n hx hb dX5_command_231 rfl (lv_at hl 5 rfl) ?_
              refine va_get (D := D) (ci := 5) (v := .ref (q + 4)) (C := RX5) (T := TX5) (N := 15) hx hb hts hinX5 hown hK hP 0 rfl rfl 8 (by decide) hf19 (fun _ h9 => h9) rfl dX5_command_232 ?_
              refine lv_bipush (v := 12) hx hb dX5_command_235 (by decide) ?_
              refine lv_iload_n hx hb dX5_command_237 rfl (lv_at hl 3 rfl) ?_
              refine lv_iadd hx hb dX5_command_238 ?_
              obtain ⟨hg38, h⟩ := gd_some h
              refine g_iald (f := ((mA M) 4)) (k := ((12 + ((p0 / 100) - (p0 / 100) / 100 * 100))).toNatClampNeg) hx hb hK hP 4 0 rfl rfl hg38 rfl dX5_command_239 ?_
              refine lv_iload hx hb dX5_command_240 (lv_at hl 2 rfl) ?_
              refine lv_icmp_ne (tgt := 249) hx hb dX5_command_242 (by decide) (fun c39 => ?_) (fun c39 => ?_)
              · replace h := (if_neg c39).symm.trans h
                refine lv_iconst (v := 0) hx hb dX5_command_249 (by decide) ?_
                have h := Option.some.inj h
                subst h
                exact W.zret (v := 0) hx hb hr rfl (fun t ht hW => ⟨⟨_, (), rfl, rfl, gh ht hP⟩, hS.F ht⟩) hS.2.2 dX5_command_250
              · replace h := (if_pos c39).symm.trans h
                refine lv_iconst (v := 1) hx hb dX5_command_245 (by decide) ?_
                refine lv_goto (tgt := 250) hx hb dX5_command_246 (by decide) ?_
                have h := Option.some.inj h
                subst h
                exact W.zret (v := 1) hx hb hr rfl (fun t ht hW => ⟨⟨_, (), rfl, rfl, gh ht hP⟩, hS.F ht⟩) hS.2.2 dX5_command_250
            · replace h := (if_neg c37).symm.trans h
              by_cases c40 : (p0 / 10000) = 6
              · replace h := (if_pos c40).symm.trans h
                refine lv_tableIn (off := 206) (tgt := 251) hx hb dX5_command_45 (by rw [c40]; decide) (by rw [c40]; decide) (by rw [c40]; rfl) (by decide) ?_
                refine lv_iload hx hb dX5_command_251 (lv_at hl 0 rfl) ?_
                refine lv_if_eq (tgt := 280) hx hb dX5_command_253 (by decide) (fun c => absurd c (by decide)) (fun _ => ?_)
                refine lv_iload hx hb dX5_command_256 (lv_at hl 2 rfl) ?_
                refine lv_iconst (v := 4) hx hb dX5_command_258 (by decide) ?_
                refine lv_icmp_ge (tgt := 280) hx hb dX5_command_259 (by decide) (fun c41 => ?_) (fun c41 => ?_)
                · replace h := (if_pos c41).symm.trans h
                  refine lv_iconst (v := 0) hx hb dX5_command_280 (by decide) ?_
                  have h := Option.some.inj h
                  subst h
                  exact W.zret (v := 0) hx hb hr rfl (fun t ht hW => ⟨⟨_, (), rfl, rfl, gh ht hP⟩, hS.F ht⟩) hS.2.2 dX5_command_281
                · replace h := (if_neg c41).symm.trans h
                  refine lv_aload_n hx hb dX5_command_262 rfl (lv_at hl 5 rfl) ?_
                  refine va_get (D := D) (ci := 5) (v := .ref (q + 4)) (C := RX5) (T := TX5) (N := 15) hx hb hts hinX5 hown hK hP 0 rfl rfl 8 (by decide) hf19 (fun _ h9 => h9) rfl dX5_command_263 ?_
                  refine lv_bipush (v := 60) hx hb dX5_command_266 (by decide) ?_
                  refine lv_iload_n hx hb dX5_command_268 rfl (lv_at hl 3 rfl) ?_
                  refine lv_iadd hx hb dX5_command_269 ?_
                  obtain ⟨hg42, h⟩ := gd_some h
                  refine g_iald (f := ((mA M) 4)) (k := ((60 + ((p0 / 100) - (p0 / 100) / 100 * 100))).toNatClampNeg) hx hb hK hP 4 0 rfl rfl hg42 rfl dX5_command_270 ?_
                  refine lv_iload hx hb dX5_command_271 (lv_at hl 2 rfl) ?_
                  refine lv_icmp_ne (tgt := 280) hx hb dX5_command_273 (by decide) (fun c43 => ?_) (fun c43 => ?_)
                  · replace h := (if_neg c43).symm.trans h
                    refine lv_iconst (v := 0) hx hb dX5_command_280 (by decide) ?_
                    have h := Option.some.inj h
                    subst h
                    exact W.zret (v := 0) hx hb hr rfl (fun t ht hW => ⟨⟨_, (), rfl, rfl, gh ht hP⟩, hS.F ht⟩) hS.2.2 dX5_command_281
                  · replace h := (if_pos c43).symm.trans h
                    refine lv_iconst (v := 1) hx hb dX5_command_276 (by decide) ?_
                    refine lv_goto (tgt := 281) hx hb dX5_command_277 (by decide) ?_
                    have h := Option.some.inj h
                    subst h
                    exact W.zret (v := 1) hx hb hr rfl (fun t ht hW => ⟨⟨_, (), rfl, rfl, gh ht hP⟩, hS.F ht⟩) hS.2.2 dX5_command_281
              · replace h := (if_neg c40).symm.trans h
                by_cases c44 : (p0 / 10000) = 7
                · replace h := (if_pos c44).symm.trans h
                  refine lv_tableIn (off := 237) (tgt := 282) hx hb dX5_command_45 (by rw [c44]; decide) (by rw [c44]; decide) (by rw [c44]; rfl) (by decide) ?_
                  refine lv_iload_n hx hb dX5_command_282 rfl (lv_at hl 3 rfl) ?_
                  refine lv_if_ne (tgt := 303) hx hb dX5_command_283 (by decide) (fun c45 => ?_) (fun c45 => ?_)
                  · replace h := (if_neg c45).symm.trans h
                    refine lv_iconst (v := 0) hx hb dX5_command_303 (by decide) ?_
                    have h := Option.some.inj h
                    subst h
                    exact W.zret (v := 0) hx hb hr rfl (fun t ht hW => ⟨⟨_, (), rfl, rfl, gh ht hP⟩, hS.F ht⟩) hS.2.2 dX5_command_304
                  · replace h := (if_pos c45).symm.trans h
                    refine lv_aload_n hx hb dX5_command_286 rfl (lv_at hl 5 rfl) ?_
                    refine va_get (D := D) (ci := 5) (v := .ref (q + 4)) (C := RX5) (T := TX5) (N := 15) hx hb hts hinX5 hown hK hP 0 rfl rfl 8 (by decide) hf19 (fun _ h9 => h9) rfl dX5_command_287 ?_
                    refine lv_iconst (v := 0) hx hb dX5_command_290 (by decide) ?_
                    obtain ⟨r291, hr291, h⟩ := bd_some h
                    refine gc_si (As := [.ref (q + 4), .int 0]) (rest := []) ⟨hx, hb, hml, hown, hts⟩ hK (kX5_count l D cI cC cZ cQ cJ q 4 M 0 (Or.inr (Or.inr rfl)) hr291) (va_cwS 2 hts gX5_command_X5_count rfl rfl rfl (by decide +kernel) ⟨Nat.le_of_ble_eq_true rfl, Nat.le_of_ble_eq_true rfl⟩)  hP rfl hl.1 rfl (Nat.le_of_ble_eq_true rfl) ⟨Nat.zero_le _, Nat.zero_le _⟩ dX5_command_291 ?_
                    refine lv_iload hx hb dX5_command_294 (lv_at hl 2 rfl) ?_
                    refine lv_icmp_ne (tgt := 303) hx hb dX5_command_296 (by decide) (fun c46 => ?_) (fun c46 => ?_)
                    · replace h := (if_neg c46).symm.trans h
                      refine lv_iconst (v := 0) hx hb dX5_command_303 (by decide) ?_
                      have h := Option.some.inj h
                      subst h
                      exact W.zret (v := 0) hx hb hr rfl (fun t ht hW => ⟨⟨_, (), rfl, rfl, gh ht hP⟩, hS.F ht⟩) hS.2.2 dX5_command_304
                    · replace h := (if_pos c46).symm.trans h
                      refine lv_iconst (v := 1) hx hb dX5_command_299 (by decide) ?_
                      refine lv_goto (tgt := 304) hx hb dX5_command_300 (by decide) ?_
                      have h := Option.some.inj h
                      subst h
                      exact W.zret (v := 1) hx hb hr rfl (fun t ht hW => ⟨⟨_, (), rfl, rfl, gh ht hP⟩, hS.F ht⟩) hS.2.2 dX5_command_304
                · replace h := (if_neg c44).symm.trans h
                  by_cases c47 : (p0 / 10000) = 8
                  · replace h := (if_pos c47).symm.trans h
                    refine lv_tableIn (off := 260) (tgt := 305) hx hb dX5_command_45 (by rw [c47]; decide) (by rw [c47]; decide) (by rw [c47]; rfl) (by decide) ?_
                    refine lv_aload_n hx hb dX5_command_305 rfl (lv_at hl 5 rfl) ?_
                    refine lv_iload_n hx hb dX5_command_306 rfl (lv_at hl 3 rfl) ?_
                    obtain ⟨r307, hr307, h⟩ := bd_some h
                    refine gc_ri (As := [.int ((p0 / 100) - (p0 / 100) / 100 * 100)]) (rest := []) ⟨hx, hb, hml, hown, hts⟩ hK (kX5_isSlot l D cI cC cZ cQ cJ q M ((p0 / 100) - (p0 / 100) / 100 * 100) hr307) (cwV 1 hts gX5_command_X5_isSlot rfl rfl rfl (by decide +kernel) ⟨Nat.le_of_ble_eq_true rfl, Nat.le_of_ble_eq_true rfl⟩) (va_recv hK hP (ci := 5) (q0 := 0) rfl rfl) hP rfl hl.1 rfl (Nat.le_of_ble_eq_true rfl) ⟨Nat.zero_le _, Nat.zero_le _⟩ dX5_command_307 ?_
                    refine lv_if_eq (tgt := 342) hx hb dX5_command_310 (by decide) (fun c48 => ?_) (fun c48 => ?_)
                    · replace h := (if_pos c48).symm.trans h
                      refine lv_iconst (v := 0) hx hb dX5_command_342 (by decide) ?_
                      have h := Option.some.inj h
                      subst h
                      exact W.zret (v := 0) hx hb hr rfl (fun t ht hW => ⟨⟨_, (), rfl, rfl, gh ht hP⟩, hS.F ht⟩) hS.2.2 dX5_command_343
                    · replace h := (if_neg c48).symm.trans h
                      refine lv_iload hx hb dX5_command_313 (lv_at hl 2 rfl) ?_
                      refine lv_aload_n hx hb dX5_command_315 rfl (lv_at hl 5 rfl) ?_
                      refine va_get (D := D) (ci := 5) (v := .ref (q + 4)) (C := RX5) (T := TX5) (N := 15) hx hb hts hinX5 hown hK hP 0 rfl rfl 8 (by decide) hf19 (fun _ h9 => h9) rfl dX5_command_316 ?_
                      refine lv_bipush (v := 96) hx hb dX5_command_319 (by decide) ?_
                      refine g_iald (f := ((mA M) 4)) (k := 96) hx hb hK hP 4 0 rfl rfl (vin_lit rfl) rfl dX5_command_321 ?_
                      refine lv_icmp_ge (tgt := 342) hx hb dX5_command_322 (by decide) (fun c49 => ?_) (fun c49 => ?_)
                      · replace h := (if_pos c49).symm.trans h
                        refine lv_iconst (v := 0) hx hb dX5_command_342 (by decide) ?_
                        have h := Option.some.inj h
                        subst h
                        exact W.zret (v := 0) hx hb hr rfl (fun t ht hW => ⟨⟨_, (), rfl, rfl, gh ht hP⟩, hS.F ht⟩) hS.2.2 dX5_command_343
                      · replace h := (if_neg c49).symm.trans h
                        refine lv_aload_n hx hb dX5_command_325 rfl (lv_at hl 5 rfl) ?_
                        refine va_get (D := D) (ci := 5) (v := .ref (q + 4)) (C := RX5) (T := TX5) (N := 15) hx hb hts hinX5 hown hK hP 0 rfl rfl 8 (by decide) hf19 (fun _ h9 => h9) rfl dX5_command_326 ?_
                        refine lv_iload_n hx hb dX5_command_329 rfl (lv_at hl 3 rfl) ?_
                        obtain ⟨r330, hr330, h⟩ := bd_some h
                        refine gc_si (As := [.ref (q + 4), .int ((p0 / 100) - (p0 / 100) / 100 * 100)]) (rest := []) ⟨hx, hb, hml, hown, hts⟩ hK (kX5_gripAt l D cI cC cZ cQ cJ q 4 M ((p0 / 100) - (p0 / 100) / 100 * 100) (Or.inr (Or.inr rfl)) hr330) (va_cwS 2 hts gX5_command_X5_gripAt rfl rfl rfl (by decide +kernel) ⟨Nat.le_of_ble_eq_true rfl, Nat.le_of_ble_eq_true rfl⟩)  hP rfl hl.1 rfl (Nat.le_of_ble_eq_true rfl) ⟨Nat.zero_le _, Nat.zero_le _⟩ dX5_command_330 ?_
                        refine lv_iload hx hb dX5_command_333 (lv_at hl 2 rfl) ?_
                        refine lv_icmp_ne (tgt := 342) hx hb dX5_command_335 (by decide) (fun c50 => ?_) (fun c50 => ?_)
                        · replace h := (if_neg c50).symm.trans h
                          refine lv_iconst (v := 0) hx hb dX5_command_342 (by decide) ?_
                          have h := Option.some.inj h
                          subst h
                          exact W.zret (v := 0) hx hb hr rfl (fun t ht hW => ⟨⟨_, (), rfl, rfl, gh ht hP⟩, hS.F ht⟩) hS.2.2 dX5_command_343
                        · replace h := (if_pos c50).symm.trans h
                          refine lv_iconst (v := 1) hx hb dX5_command_338 (by decide) ?_
                          refine lv_goto (tgt := 343) hx hb dX5_command_339 (by decide) ?_
                          have h := Option.some.inj h
                          subst h
                          exact W.zret (v := 1) hx hb hr rfl (fun t ht hW => ⟨⟨_, (), rfl, rfl, gh ht hP⟩, hS.F ht⟩) hS.2.2 dX5_command_343
                  · replace h := (if_neg c47).symm.trans h
                    refine lv_tableOut (tgt := 344) hx hb dX5_command_45 (gsw_out 1 8 (x := (p0 / 10000)) ?_) (by decide) ?_
                    · intro k h1 h2 hk
                      rcases (show k = 1 ∨ k = 2 ∨ k = 3 ∨ k = 4 ∨ k = 5 ∨ k = 6 ∨ k = 7 ∨ k = 8 by omega) with rfl | rfl | rfl | rfl | rfl | rfl | rfl | rfl
                      · exact lv_neT c21 (by decide) hk
                      · exact lv_neT c24 (by decide) hk
                      · exact lv_neT c27 (by decide) hk
                      · exact lv_neT c32 (by decide) hk
                      · exact lv_neT c37 (by decide) hk
                      · exact lv_neT c40 (by decide) hk
                      · exact lv_neT c44 (by decide) hk
                      · exact lv_neT c47 (by decide) hk
                    · refine lv_iconst (v := 0) hx hb dX5_command_344 (by decide) ?_
                      have h := Option.some.inj h
                      subst h
                      exact W.zret (v := 0) hx hb hr rfl (fun t ht hW => ⟨⟨_, (), rfl, rfl, gh ht hP⟩, hS.F ht⟩) hS.2.2 dX5_command_345
set_option maxHeartbeats 4000000 in
set_option maxRecDepth 100000 in
theorem kX5_runScript (l : Launch) (D : va_G) (cI cC cZ cQ cJ : ClassId) (q : Nat) (M : MSt) (p0 : Int32) (p1 : Int64) {R : Int32 × MSt} (h : fX5_runScript M p0 p1 = some R) : Met l yX5_runScript wsX5_runScript ({ frames := 5, cells := 0, slots := 0, locals := 124 } : Room) (va_Pc [.ref q, .int p0, .long p1] (gB D (gTy cI cC cZ cQ cJ) (va_P D vwCl (MW cI cZ q M)))) (va_Qi (fun r (_ : Unit) => r = R.1) (fun _ t => va_P D vwCl (MW cI cZ q R.2) t.heap) (fIv q 10)) 0 0 (fIv q 10) := by
  refine Met.ofW (cc := cX5_runScript) (maxL := 5) (ret := (some .int)) (by decide) rfl ?_
  intro p e s m args below meth c s₁ B hml hv
  obtain ⟨rfl, hP, hK⟩ := hv
  have hx := B.exec
  have hb := B.bytes
  have hr := B.returns
  have hts := atoms_spec (ws := wsX5_runScript) B.pre
  have hown : s.vm.findClass RX5 = some m.cls := findClass_of_methodNamed B.named
  have hlocks := B.notSynchronized
  have hinX5 : ∀ w ∈ wsX50, w ∈ wsX5_runScript := by decide +kernel
  have hf16 := hts (.fieldLink RX5 16 "GripInspectorModel" "now" "[I") (by decide +kernel)
  have hf19 := hts (.fieldLink RX5 19 "GripInspectorModel" "trial" "[I") (by decide +kernel)
  generalize hRM : (headSpec wsX5_runScript ({ frames := 5, cells := 0, slots := 0, locals := 124 } : Room)).room = RM
  replace hRM : ({ frames := 5, cells := 0, slots := 0, locals := 124 } : Room) = RM := hRM
  subst hRM
  have hl := lv_entry ([.ref q, .int p0, .long p1]) (n := 5) (Nat.le_of_ble_eq_true rfl)
  rw [lg_entry_eq]
  generalize (lg_sl ([.ref q, .int p0, .long p1]) ++ List.replicate (5 - (lg_sl ([.ref q, .int p0, .long p1])).length) Slot.unset).toArray = ls at hl ⊢
  have hl : lv_has ls 5 [(0, .ref q), (1, .int p0), (2, .long p1)] := hl
  have hS : va_S (fIv q 10) s.heap s.heap [] := va_S.rf
  have LP60 : ∀ (n : Nat) (S : MSt) (x1 : Int32) (x2 : Int64) (x4 : Int32) (H : Heap) (locs : List Loc) (ls : Array Slot), fX5_runScript_L60 n S x1 x2 x4 = some R → va_P D vwCl (MW cI cZ q S) H → va_S (fIv q 10) s.heap H locs → lv_has ls 5 [(0, .ref q), (1, .int x1), (2, .long x2), (4, .int x4)] → W p l e ({ frames := 5, cells := 0, slots := 0, locals := 124 } : Room) s m ([.ref q, .int p0, .long p1] : List Value).toArray below meth c H locs 0 0 (MQ below (va_Qi (fun r (_ : Unit) => r = R.1) (fun _ t => va_P D vwCl (MW cI cZ q R.2) t.heap) (fIv q 10)) ([.ref q, .int p0, .long p1] : List Value).toArray s 0 0 (fIv q 10)) (F0 m 60 ls []) := by
    intro n
    induction n with
    | zero => intro S x1 x2 x4 H locs ls h hP hS hl; exact no_some h
    | succ n ih =>
      intro S x1 x2 x4 H locs ls h hP hS hl
      rw [fX5_runScript_L60] at h
      refine lv_iload hx hb dX5_runScript_60 (lv_at hl 3 rfl) ?_
      refine lv_iload_n hx hb dX5_runScript_62 rfl (lv_at hl 1 rfl) ?_
      refine lv_icmp_ge (tgt := 100) hx hb dX5_runScript_63 (by decide) (fun c3 => ?_) (fun c3 => ?_)
      · replace h := (if_pos c3).symm.trans h
        refine lv_bipush (v := (-9)) hx hb dX5_runScript_100 (by decide) ?_
        have h := Option.some.inj h
        subst h
        exact W.iret (v := (-9)) hx hb hr (fun t ht hW => ⟨⟨_, (), rfl, rfl, gh ht hP⟩, hS.F ht⟩) hS.2.2 dX5_runScript_102
      · replace h := (if_neg c3).symm.trans h
        refine lv_aload_n hx hb dX5_runScript_66 rfl (lv_at hl 0 rfl) ?_
        refine lv_lload_n hx hb dX5_runScript_67 rfl (lv_at hl 2 rfl) ?_
        refine lv_iconst (v := 5) hx hb dX5_runScript_68 (by decide) ?_
        refine lv_iload_n hx hb dX5_runScript_69 rfl (lv_at hl 1 rfl) ?_
        refine lv_iconst (v := 1) hx hb dX5_runScript_70 (by decide) ?_
        refine lv_isub hx hb dX5_runScript_71 ?_
        refine lv_iload hx hb dX5_runScript_72 (lv_at hl 3 rfl) ?_
        refine lv_isub hx hb dX5_runScript_74 ?_
        refine lv_imul hx hb dX5_runScript_75 ?_
        obtain ⟨r76, hr76, h⟩ := bd_some h
        refine gc_sl (As := [.int (5 * ((x1 - 1) - x4))]) (rest := [.long x2, .ref q]) ⟨hx, hb, hml, hown, hts⟩ hK (kX5_tenTo l D cI cC cZ cQ cJ (5 * ((x1 - 1) - x4)) hr76) (va_cwS 1 hts gX5_runScript_X5_tenTo rfl rfl rfl (by decide +kernel) ⟨Nat.le_of_ble_eq_true rfl, Nat.le_of_ble_eq_true rfl⟩)  trivial rfl hl.1 rfl (Nat.le_of_ble_eq_true rfl) ⟨Nat.zero_le _, Nat.zero_le _⟩ dX5_runScript_76 ?_
        obtain ⟨hn4, h⟩ := nzl_some h
        refine lv_ldiv hx hb dX5_runScript_79 hn4 ?_
        refine lv_ldc2 (v := 100000) hx hb hown (hts (.constantLong RX5 190 (100000)) (by decide +kernel)) dX5_runScript_80 ?_
        refine lv_lrem hx hb dX5_runScript_83 (by decide) ?_
        refine lv_l2i hx hb dX5_runScript_84 rfl ?_
        obtain ⟨r85, hr85, h⟩ := bd_some h
        refine gc_wi (As := [.int ((((x2 / r76) - (x2 / r76) / 100000 * 100000)).toInt32)]) (rest := []) ⟨hx, hb, hml, hown, hts⟩ hK (kX5_command l D cI cC cZ cQ cJ q S ((((x2 / r76) - (x2 / r76) / 100000 * 100000)).toInt32) hr85) (cwV 1 hts gX5_runScript_X5_command rfl rfl rfl (by decide +kernel) ⟨Nat.le_of_ble_eq_true rfl, Nat.le_of_ble_eq_true rfl⟩) (va_recv hK hP (ci := 5) (q0 := 0) rfl rfl) hP hS (fun _ h => h) rfl hl.1 rfl (Nat.le_of_ble_eq_true rfl) ⟨Nat.zero_le _, Nat.zero_le _⟩ dX5_runScript_85 (fun H locs hP hS _ _ => ?_)
        refine lv_if_ne (tgt := 94) hx hb dX5_runScript_88 (by decide) (fun c5 => ?_) (fun c5 => ?_)
        · replace h := (if_neg c5).symm.trans h
          refine lv_iinc (v := (x4 + 1)) (lv' := [(4, .int (x4 + 1)), (0, .ref q), (1, .int x1), (2, .long x2)]) hx hb dX5_runScript_94 hl (k := 3) rfl rfl (by decide) rfl (fun ls hl => ?_)
          refine lv_goto (tgt := 60) hx hb dX5_runScript_97 (by decide) ?_
          exact ih r85.2 x1 x2 (x4 + 1) H locs ls h hP hS (lv_sub hl [1, 2, 3, 0] rfl)
        · replace h := (if_pos c5).symm.trans h
          refine lv_iload hx hb dX5_runScript_91 (lv_at hl 3 rfl) ?_
          have h := Option.some.inj h
          subst h
          exact W.iret (v := x4) hx hb hr (fun t ht hW => ⟨⟨_, (), rfl, rfl, gh ht hP⟩, hS.F ht⟩) hS.2.2 dX5_runScript_93
  unfold fX5_runScript at h
  obtain ⟨H, hH⟩ : ∃ H, H = s.heap := ⟨_, rfl⟩
  obtain ⟨locs, hlz⟩ : ∃ z : List Loc, z = [] := ⟨_, rfl⟩
  have hP : va_P D vwCl (MW cI cZ q M) H := by rw [hH]; exact hP
  have hS : va_S (fIv q 10) s.heap H locs := by rw [hH, hlz]; exact hS
  refine gc_at hH hlz ?_
  refine lv_aload_n hx hb dX5_runScript_0 rfl (lv_at hl 0 rfl) ?_
  refine lv_iload_n hx hb dX5_runScript_1 rfl (lv_at hl 1 rfl) ?_
  refine lv_i2l hx hb dX5_runScript_2 rfl ?_
  refine lv_lconst (v := 1) hx hb dX5_runScript_3 (by decide) ?_
  refine lv_ldc2 (v := 3) hx hb hown (hts (.constantLong RX5 161 (3)) (by decide +kernel)) dX5_runScript_4 ?_
  obtain ⟨r7, hr7, h⟩ := bd_some h
  refine gc_si (As := [.long ((p0).toInt64), .long 1, .long 3]) (rest := [.ref q]) ⟨hx, hb, hml, hown, hts⟩ hK (kX5_in l D cI cC cZ cQ cJ ((p0).toInt64) 1 3 hr7) (va_cwS 3 hts gX5_runScript_X5_in rfl rfl rfl (by decide +kernel) ⟨Nat.le_of_ble_eq_true rfl, Nat.le_of_ble_eq_true rfl⟩)  trivial rfl hl.1 rfl (Nat.le_of_ble_eq_true rfl) ⟨Nat.zero_le _, Nat.zero_le _⟩ dX5_runScript_7 ?_
  refine lv_if_eq (tgt := 33) hx hb dX5_runScript_10 (by decide) (fun c1 => ?_) (fun c1 => ?_)
  · replace h := (if_pos c1).symm.trans h
    refine lv_iconst (v := 1) hx hb dX5_runScript_33 (by decide) ?_
    obtain ⟨r34, hr34, h⟩ := bd_some h
    refine gc_wi (As := [.int 1]) (rest := []) ⟨hx, hb, hml, hown, hts⟩ hK (kX5_refused l D cI cC cZ cQ cJ q M 1 hr34) (cwV 1 hts gX5_runScript_X5_refused rfl rfl rfl (by decide +kernel) ⟨Nat.le_of_ble_eq_true rfl, Nat.le_of_ble_eq_true rfl⟩) (va_recv hK hP (ci := 5) (q0 := 0) rfl rfl) hP hS (fun _ h => h) rfl hl.1 rfl (Nat.le_of_ble_eq_true rfl) ⟨Nat.zero_le _, Nat.zero_le _⟩ dX5_runScript_34 (fun H locs hP hS _ _ => ?_)
    refine lv_if_eq (tgt := 42) hx hb dX5_runScript_37 (by decide) (fun c2 => ?_) (fun c2 => ?_)
    · replace h := (if_pos c2).symm.trans h
      refine lv_aload_n hx hb dX5_runScript_42 rfl (lv_at hl 0 rfl) ?_
      refine va_get (D := D) (ci := 5) (v := .ref (q + 3)) (C := RX5) (T := TX5) (N := 15) hx hb hts hinX5 hown hK hP 0 rfl rfl 7 (by decide) hf16 (fun _ h9 => h9) rfl dX5_runScript_43 ?_
      refine lv_iconst (v := 0) hx hb dX5_runScript_46 (by decide) ?_
      refine lv_aload_n hx hb dX5_runScript_47 rfl (lv_at hl 0 rfl) ?_
      refine va_get (D := D) (ci := 5) (v := .ref (q + 4)) (C := RX5) (T := TX5) (N := 15) hx hb hts hinX5 hown hK hP 0 rfl rfl 8 (by decide) hf19 (fun _ h9 => h9) rfl dX5_runScript_48 ?_
      refine lv_iconst (v := 0) hx hb dX5_runScript_51 (by decide) ?_
      refine lv_bipush (v := 106) hx hb dX5_runScript_52 (by decide) ?_
      obtain ⟨r54, hr54, h⟩ := bd_some h
      refine gc_swv (As := [.ref (q + 3), .int 0, .ref (q + 4), .int 0, .int 106]) (rest := []) ⟨hx, hb, hml, hown, hts⟩ hK (kX5_copy l D cI cC cZ cQ cJ q 3 4 r34.2 0 0 106 (Or.inr (Or.inl rfl)) (Or.inr (Or.inr (Or.inl rfl))) hr54) (va_cwS 5 hts gX5_runScript_X5_copy rfl rfl rfl (by decide +kernel) ⟨Nat.le_of_ble_eq_true rfl, Nat.le_of_ble_eq_true rfl⟩)  hP hS (fun _ h => h) rfl hl.1 rfl (Nat.le_of_ble_eq_true rfl) ⟨Nat.zero_le _, Nat.zero_le _⟩ dX5_runScript_54 (fun H locs hP hS _ _ => ?_)
      refine lv_iconst (v := 0) hx hb dX5_runScript_57 (by decide) ?_
      refine lv_istore (lv' := [(4, .int 0), (0, .ref q), (1, .int p0), (2, .long p1)]) hx hb dX5_runScript_58 hl (by decide) rfl (fun ls hl => ?_)
      exact LP60 KF r54 p0 p1 0 H locs ls h hP hS (lv_sub hl [1, 2, 3, 0] rfl)
    · replace h := (if_neg c2).symm.trans h
      refine lv_iconst (v := 0) hx hb dX5_runScript_40 (by decide) ?_
      have h := Option.some.inj h
      subst h
      exact W.iret (v := 0) hx hb hr (fun t ht hW => ⟨⟨_, (), rfl, rfl, gh ht hP⟩, hS.F ht⟩) hS.2.2 dX5_runScript_41
  · replace h := (if_neg c1).symm.trans h
    refine lv_lload_n hx hb dX5_runScript_13 rfl (lv_at hl 2 rfl) ?_
    refine lv_lconst (v := 0) hx hb dX5_runScript_14 (by decide) ?_
    refine lv_iconst (v := 5) hx hb dX5_runScript_15 (by decide) ?_
    refine lv_iload_n hx hb dX5_runScript_16 rfl (lv_at hl 1 rfl) ?_
    refine lv_imul hx hb dX5_runScript_17 ?_
    obtain ⟨r18, hr18, h⟩ := bd_some h
    refine gc_sl (As := [.int (5 * p0)]) (rest := [.long 0, .long p1, .ref q]) ⟨hx, hb, hml, hown, hts⟩ hK (kX5_tenTo l D cI cC cZ cQ cJ (5 * p0) hr18) (va_cwS 1 hts gX5_runScript_X5_tenTo rfl rfl rfl (by decide +kernel) ⟨Nat.le_of_ble_eq_true rfl, Nat.le_of_ble_eq_true rfl⟩)  trivial rfl hl.1 rfl (Nat.le_of_ble_eq_true rfl) ⟨Nat.zero_le _, Nat.zero_le _⟩ dX5_runScript_18 ?_
    refine lv_lconst (v := 1) hx hb dX5_runScript_21 (by decide) ?_
    refine lv_lsub hx hb dX5_runScript_22 ?_
    obtain ⟨r23, hr23, h⟩ := bd_some h
    refine gc_si (As := [.long p1, .long 0, .long (r18 - 1)]) (rest := [.ref q]) ⟨hx, hb, hml, hown, hts⟩ hK (kX5_in l D cI cC cZ cQ cJ p1 0 (r18 - 1) hr23) (va_cwS 3 hts gX5_runScript_X5_in rfl rfl rfl (by decide +kernel) ⟨Nat.le_of_ble_eq_true rfl, Nat.le_of_ble_eq_true rfl⟩)  trivial rfl hl.1 rfl (Nat.le_of_ble_eq_true rfl) ⟨Nat.zero_le _, Nat.zero_le _⟩ dX5_runScript_23 ?_
    refine lv_if_eq (tgt := 33) hx hb dX5_runScript_26 (by decide) (fun c6 => ?_) (fun c6 => ?_)
    · replace h := (if_pos c6).symm.trans h
      refine lv_iconst (v := 1) hx hb dX5_runScript_33 (by decide) ?_
      obtain ⟨r34, hr34, h⟩ := bd_some h
      refine gc_wi (As := [.int 1]) (rest := []) ⟨hx, hb, hml, hown, hts⟩ hK (kX5_refused l D cI cC cZ cQ cJ q M 1 hr34) (cwV 1 hts gX5_runScript_X5_refused rfl rfl rfl (by decide +kernel) ⟨Nat.le_of_ble_eq_true rfl, Nat.le_of_ble_eq_true rfl⟩) (va_recv hK hP (ci := 5) (q0 := 0) rfl rfl) hP hS (fun _ h => h) rfl hl.1 rfl (Nat.le_of_ble_eq_true rfl) ⟨Nat.zero_le _, Nat.zero_le _⟩ dX5_runScript_34 (fun H locs hP hS _ _ => ?_)
      refine lv_if_eq (tgt := 42) hx hb dX5_runScript_37 (by decide) (fun c7 => ?_) (fun c7 => ?_)
      · replace h := (if_pos c7).symm.trans h
        refine lv_aload_n hx hb dX5_runScript_42 rfl (lv_at hl 0 rfl) ?_
        refine va_get (D := D) (ci := 5) (v := .ref (q + 3)) (C := RX5) (T := TX5) (N := 15) hx hb hts hinX5 hown hK hP 0 rfl rfl 7 (by decide) hf16 (fun _ h9 => h9) rfl dX5_runScript_43 ?_
        refine lv_iconst (v := 0) hx hb dX5_runScript_46 (by decide) ?_
        refine lv_aload_n hx hb dX5_runScript_47 rfl (lv_at hl 0 rfl) ?_
        refine va_get (D := D) (ci := 5) (v := .ref (q + 4)) (C := RX5) (T := TX5) (N := 15) hx hb hts hinX5 hown hK hP 0 rfl rfl 8 (by decide) hf19 (fun _ h9 => h9) rfl dX5_runScript_48 ?_
        refine lv_iconst (v := 0) hx hb dX5_runScript_51 (by decide) ?_
        refine lv_bipush (v := 106) hx hb dX5_runScript_52 (by decide) ?_
        obtain ⟨r54, hr54, h⟩ := bd_some h
        refine gc_swv (As := [.ref (q + 3), .int 0, .ref (q + 4), .int 0, .int 106]) (rest := []) ⟨hx, hb, hml, hown, hts⟩ hK (kX5_copy l D cI cC cZ cQ cJ q 3 4 r34.2 0 0 106 (Or.inr (Or.inl rfl)) (Or.inr (Or.inr (Or.inl rfl))) hr54) (va_cwS 5 hts gX5_runScript_X5_copy rfl rfl rfl (by decide +kernel) ⟨Nat.le_of_ble_eq_true rfl, Nat.le_of_ble_eq_true rfl⟩)  hP hS (fun _ h => h) rfl hl.1 rfl (Nat.le_of_ble_eq_true rfl) ⟨Nat.zero_le _, Nat.zero_le _⟩ dX5_runScript_54 (fun H locs hP hS _ _ => ?_)
        refine lv_iconst (v := 0) hx hb dX5_runScript_57 (by decide) ?_
        refine lv_istore (lv' := [(4, .int 0), (0, .ref q), (1, .int p0), (2, .long p1)]) hx hb dX5_runScript_58 hl (by decide) rfl (fun ls hl => ?_)
        exact LP60 KF r54 p0 p1 0 H locs ls h hP hS (lv_sub hl [1, 2, 3, 0] rfl)
      · replace h := (if_neg c7).symm.trans h
        refine lv_iconst (v := 0) hx hb dX5_runScript_40 (by decide) ?_
        have h := Option.some.inj h
        subst h
        exact W.iret (v := 0) hx hb hr (fun t ht hW => ⟨⟨_, (), rfl, rfl, gh ht hP⟩, hS.F ht⟩) hS.2.2 dX5_runScript_41
    · replace h := (if_neg c6).symm.trans h
      refine lv_iconst (v := 0) hx hb dX5_runScript_29 (by decide) ?_
      refine lv_goto (tgt := 34) hx hb dX5_runScript_30 (by decide) ?_
      obtain ⟨r34, hr34, h⟩ := bd_some h
      refine gc_wi (As := [.int 0]) (rest := []) ⟨hx, hb, hml, hown, hts⟩ hK (kX5_refused l D cI cC cZ cQ cJ q M 0 hr34) (cwV 1 hts gX5_runScript_X5_refused rfl rfl rfl (by decide +kernel) ⟨Nat.le_of_ble_eq_true rfl, Nat.le_of_ble_eq_true rfl⟩) (va_recv hK hP (ci := 5) (q0 := 0) rfl rfl) hP hS (fun _ h => h) rfl hl.1 rfl (Nat.le_of_ble_eq_true rfl) ⟨Nat.zero_le _, Nat.zero_le _⟩ dX5_runScript_34 (fun H locs hP hS _ _ => ?_)
      refine lv_if_eq (tgt := 42) hx hb dX5_runScript_37 (by decide) (fun c8 => ?_) (fun c8 => ?_)
      · replace h := (if_pos c8).symm.trans h
        refine lv_aload_n hx hb dX5_runScript_42 rfl (lv_at hl 0 rfl) ?_
        refine va_get (D := D) (ci := 5) (v := .ref (q + 3)) (C := RX5) (T := TX5) (N := 15) hx hb hts hinX5 hown hK hP 0 rfl rfl 7 (by decide) hf16 (fun _ h9 => h9) rfl dX5_runScript_43 ?_
        refine lv_iconst (v := 0) hx hb dX5_runScript_46 (by decide) ?_
        refine lv_aload_n hx hb dX5_runScript_47 rfl (lv_at hl 0 rfl) ?_
        refine va_get (D := D) (ci := 5) (v := .ref (q + 4)) (C := RX5) (T := TX5) (N := 15) hx hb hts hinX5 hown hK hP 0 rfl rfl 8 (by decide) hf19 (fun _ h9 => h9) rfl dX5_runScript_48 ?_
        refine lv_iconst (v := 0) hx hb dX5_runScript_51 (by decide) ?_
        refine lv_bipush (v := 106) hx hb dX5_runScript_52 (by decide) ?_
        obtain ⟨r54, hr54, h⟩ := bd_some h
        refine gc_swv (As := [.ref (q + 3), .int 0, .ref (q + 4), .int 0, .int 106]) (rest := []) ⟨hx, hb, hml, hown, hts⟩ hK (kX5_copy l D cI cC cZ cQ cJ q 3 4 r34.2 0 0 106 (Or.inr (Or.inl rfl)) (Or.inr (Or.inr (Or.inl rfl))) hr54) (va_cwS 5 hts gX5_runScript_X5_copy rfl rfl rfl (by decide +kernel) ⟨Nat.le_of_ble_eq_true rfl, Nat.le_of_ble_eq_true rfl⟩)  hP hS (fun _ h => h) rfl hl.1 rfl (Nat.le_of_ble_eq_true rfl) ⟨Nat.zero_le _, Nat.zero_le _⟩ dX5_runScript_54 (fun H locs hP hS _ _ => ?_)
        refine lv_iconst (v := 0) hx hb dX5_runScript_57 (by decide) ?_
        refine lv_istore (lv' := [(4, .int 0), (0, .ref q), (1, .int p0), (2, .long p1)]) hx hb dX5_runScript_58 hl (by decide) rfl (fun ls hl => ?_)
        exact LP60 KF r54 p0 p1 0 H locs ls h hP hS (lv_sub hl [1, 2, 3, 0] rfl)
      · replace h := (if_neg c8).symm.trans h
        refine lv_iconst (v := 0) hx hb dX5_runScript_40 (by decide) ?_
        have h := Option.some.inj h
        subst h
        exact W.iret (v := 0) hx hb hr (fun t ht hW => ⟨⟨_, (), rfl, rfl, gh ht hP⟩, hS.F ht⟩) hS.2.2 dX5_runScript_41
set_option maxHeartbeats 4000000 in
set_option maxRecDepth 100000 in
theorem kX5_simulate (l : Launch) (D : va_G) (cI cC cZ cQ cJ : ClassId) (q : Nat) (M : MSt) (p0 : Int64) (p1 : Int32) {R : Int32 × MSt} (h : fX5_simulate M p0 p1 = some R) : Met l yX5_simulate wsX5_simulate ({ frames := 4, cells := 0, slots := 0, locals := 98 } : Room) (va_Pc [.ref q, .long p0, .int p1] (gB D (gTy cI cC cZ cQ cJ) (va_P D vwCl (MW cI cZ q M)))) (va_Qi (fun r (_ : Unit) => r = R.1) (fun _ t => va_P D vwCl (MW cI cZ q R.2) t.heap) (fIv q 10)) 0 0 (fIv q 10) := by
  refine Met.ofW (cc := cX5_simulate) (maxL := 6) (ret := (some .int)) (by decide) rfl ?_
  intro p e s m args below meth c s₁ B hml hv
  obtain ⟨rfl, hP, hK⟩ := hv
  have hx := B.exec
  have hb := B.bytes
  have hr := B.returns
  have hts := atoms_spec (ws := wsX5_simulate) B.pre
  have hown : s.vm.findClass RX5 = some m.cls := findClass_of_methodNamed B.named
  have hlocks := B.notSynchronized
  have hinX5 : ∀ w ∈ wsX50, w ∈ wsX5_simulate := by decide +kernel
  have hf16 := hts (.fieldLink RX5 16 "GripInspectorModel" "now" "[I") (by decide +kernel)
  have hf19 := hts (.fieldLink RX5 19 "GripInspectorModel" "trial" "[I") (by decide +kernel)
  generalize hRM : (headSpec wsX5_simulate ({ frames := 4, cells := 0, slots := 0, locals := 98 } : Room)).room = RM
  replace hRM : ({ frames := 4, cells := 0, slots := 0, locals := 98 } : Room) = RM := hRM
  subst hRM
  have hl := lv_entry ([.ref q, .long p0, .int p1]) (n := 6) (Nat.le_of_ble_eq_true rfl)
  rw [lg_entry_eq]
  generalize (lg_sl ([.ref q, .long p0, .int p1]) ++ List.replicate (6 - (lg_sl ([.ref q, .long p0, .int p1])).length) Slot.unset).toArray = ls at hl ⊢
  have hl : lv_has ls 6 [(0, .ref q), (1, .long p0), (3, .int p1)] := hl
  have hS : va_S (fIv q 10) s.heap s.heap [] := va_S.rf
  have LP64 : ∀ (n : Nat) (S : MSt) (x4 : Int32) (x5 : Int32) (H : Heap) (locs : List Loc) (ls : Array Slot), fX5_simulate_L64 n S x4 x5 = some R → va_P D vwCl (MW cI cZ q S) H → va_S (fIv q 10) s.heap H locs → lv_has ls 6 [(0, .ref q), (4, .int x4), (5, .int x5)] → W p l e ({ frames := 4, cells := 0, slots := 0, locals := 98 } : Room) s m ([.ref q, .long p0, .int p1] : List Value).toArray below meth c H locs 0 0 (MQ below (va_Qi (fun r (_ : Unit) => r = R.1) (fun _ t => va_P D vwCl (MW cI cZ q R.2) t.heap) (fIv q 10)) ([.ref q, .long p0, .int p1] : List Value).toArray s 0 0 (fIv q 10)) (F0 m 64 ls []) := by
    intro n
    induction n with
    | zero => intro S x4 x5 H locs ls h hP hS hl; exact no_some h
    | succ n ih =>
      intro S x4 x5 H locs ls h hP hS hl
      rw [fX5_simulate_L64] at h
      refine lv_iload hx hb dX5_simulate_64 (lv_at hl 2 rfl) ?_
      refine lv_aload_n hx hb dX5_simulate_66 rfl (lv_at hl 0 rfl) ?_
      refine va_get (D := D) (ci := 5) (v := .ref (q + 4)) (C := RX5) (T := TX5) (N := 15) hx hb hts hinX5 hown hK hP 0 rfl rfl 8 (by decide) hf19 (fun _ h9 => h9) rfl dX5_simulate_67 ?_
      refine lv_bipush (v := 96) hx hb dX5_simulate_70 (by decide) ?_
      refine g_iald (f := ((mA S) 4)) (k := 96) hx hb hK hP 4 0 rfl rfl (vin_lit rfl) rfl dX5_simulate_72 ?_
      refine lv_icmp_ge (tgt := 97) hx hb dX5_simulate_73 (by decide) (fun c3 => ?_) (fun c3 => ?_)
      · replace h := (if_pos c3).symm.trans h
        refine lv_bipush (v := 100) hx hb dX5_simulate_97 (by decide) ?_
        refine lv_iload hx hb dX5_simulate_99 (lv_at hl 1 rfl) ?_
        refine lv_imul hx hb dX5_simulate_101 ?_
        refine lv_aload_n hx hb dX5_simulate_102 rfl (lv_at hl 0 rfl) ?_
        refine va_get (D := D) (ci := 5) (v := .ref (q + 4)) (C := RX5) (T := TX5) (N := 15) hx hb hts hinX5 hown hK hP 0 rfl rfl 8 (by decide) hf19 (fun _ h9 => h9) rfl dX5_simulate_103 ?_
        refine lv_iconst (v := 0) hx hb dX5_simulate_106 (by decide) ?_
        obtain ⟨r107, hr107, h⟩ := bd_some h
        refine gc_si (As := [.ref (q + 4), .int 0]) (rest := [.int (100 * x4)]) ⟨hx, hb, hml, hown, hts⟩ hK (kX5_count l D cI cC cZ cQ cJ q 4 S 0 (Or.inr (Or.inr rfl)) hr107) (va_cwS 2 hts gX5_simulate_X5_count rfl rfl rfl (by decide +kernel) ⟨Nat.le_of_ble_eq_true rfl, Nat.le_of_ble_eq_true rfl⟩)  hP rfl hl.1 rfl (Nat.le_of_ble_eq_true rfl) ⟨Nat.zero_le _, Nat.zero_le _⟩ dX5_simulate_107 ?_
        refine lv_iadd hx hb dX5_simulate_110 ?_
        have h := Option.some.inj h
        subst h
        exact W.iret (v := ((100 * x4) + r107)) hx hb hr (fun t ht hW => ⟨⟨_, (), rfl, rfl, gh ht hP⟩, hS.F ht⟩) hS.2.2 dX5_simulate_111
      · replace h := (if_neg c3).symm.trans h
        refine lv_iload hx hb dX5_simulate_76 (lv_at hl 1 rfl) ?_
        refine lv_aload_n hx hb dX5_simulate_78 rfl (lv_at hl 0 rfl) ?_
        refine va_get (D := D) (ci := 5) (v := .ref (q + 4)) (C := RX5) (T := TX5) (N := 15) hx hb hts hinX5 hown hK hP 0 rfl rfl 8 (by decide) hf19 (fun _ h9 => h9) rfl dX5_simulate_79 ?_
        refine lv_bipush (v := 36) hx hb dX5_simulate_82 (by decide) ?_
        refine lv_iload hx hb dX5_simulate_84 (lv_at hl 2 rfl) ?_
        refine lv_iadd hx hb dX5_simulate_86 ?_
        obtain ⟨hg4, h⟩ := gd_some h
        refine g_iald (f := ((mA S) 4)) (k := ((36 + x5)).toNatClampNeg) hx hb hK hP 4 0 rfl rfl hg4 rfl dX5_simulate_87 ?_
        refine lv_iadd hx hb dX5_simulate_88 ?_
        refine lv_istore (lv' := [(4, .int (x4 + (((mA S) 4) ((36 + x5)).toNatClampNeg))), (0, .ref q), (5, .int x5)]) hx hb dX5_simulate_89 hl (by decide) rfl (fun ls hl => ?_)
        refine lv_iinc (v := (x5 + 1)) (lv' := [(5, .int (x5 + 1)), (4, .int (x4 + (((mA S) 4) ((36 + x5)).toNatClampNeg))), (0, .ref q)]) hx hb dX5_simulate_91 hl (k := 2) rfl rfl (by decide) rfl (fun ls hl => ?_)
        refine lv_goto (tgt := 64) hx hb dX5_simulate_94 (by decide) ?_
        exact ih S (x4 + (((mA S) 4) ((36 + x5)).toNatClampNeg)) (x5 + 1) H locs ls h hP hS (lv_sub hl [2, 1, 0] rfl)
  unfold fX5_simulate at h
  obtain ⟨H, hH⟩ : ∃ H, H = s.heap := ⟨_, rfl⟩
  obtain ⟨locs, hlz⟩ : ∃ z : List Loc, z = [] := ⟨_, rfl⟩
  have hP : va_P D vwCl (MW cI cZ q M) H := by rw [hH]; exact hP
  have hS : va_S (fIv q 10) s.heap H locs := by rw [hH, hlz]; exact hS
  refine gc_at hH hlz ?_
  refine lv_aload_n hx hb dX5_simulate_0 rfl (lv_at hl 0 rfl) ?_
  refine lv_iload_n hx hb dX5_simulate_1 rfl (lv_at hl 2 rfl) ?_
  refine lv_i2l hx hb dX5_simulate_2 rfl ?_
  refine lv_lconst (v := 1) hx hb dX5_simulate_3 (by decide) ?_
  refine lv_ldc2 (v := 99) hx hb hown (hts (.constantLong RX5 152 (99)) (by decide +kernel)) dX5_simulate_4 ?_
  obtain ⟨r7, hr7, h⟩ := bd_some h
  refine gc_si (As := [.long ((p1).toInt64), .long 1, .long 99]) (rest := [.ref q]) ⟨hx, hb, hml, hown, hts⟩ hK (kX5_in l D cI cC cZ cQ cJ ((p1).toInt64) 1 99 hr7) (va_cwS 3 hts gX5_simulate_X5_in rfl rfl rfl (by decide +kernel) ⟨Nat.le_of_ble_eq_true rfl, Nat.le_of_ble_eq_true rfl⟩)  trivial rfl hl.1 rfl (Nat.le_of_ble_eq_true rfl) ⟨Nat.zero_le _, Nat.zero_le _⟩ dX5_simulate_7 ?_
  refine lv_if_eq (tgt := 17) hx hb dX5_simulate_10 (by decide) (fun c1 => ?_) (fun c1 => ?_)
  · replace h := (if_pos c1).symm.trans h
    refine lv_iconst (v := 1) hx hb dX5_simulate_17 (by decide) ?_
    obtain ⟨r18, hr18, h⟩ := bd_some h
    refine gc_wi (As := [.int 1]) (rest := []) ⟨hx, hb, hml, hown, hts⟩ hK (kX5_refused l D cI cC cZ cQ cJ q M 1 hr18) (cwV 1 hts gX5_simulate_X5_refused rfl rfl rfl (by decide +kernel) ⟨Nat.le_of_ble_eq_true rfl, Nat.le_of_ble_eq_true rfl⟩) (va_recv hK hP (ci := 5) (q0 := 0) rfl rfl) hP hS (fun _ h => h) rfl hl.1 rfl (Nat.le_of_ble_eq_true rfl) ⟨Nat.zero_le _, Nat.zero_le _⟩ dX5_simulate_18 (fun H locs hP hS _ _ => ?_)
    refine lv_if_eq (tgt := 26) hx hb dX5_simulate_21 (by decide) (fun c2 => ?_) (fun c2 => ?_)
    · replace h := (if_pos c2).symm.trans h
      refine lv_aload_n hx hb dX5_simulate_26 rfl (lv_at hl 0 rfl) ?_
      refine va_get (D := D) (ci := 5) (v := .ref (q + 3)) (C := RX5) (T := TX5) (N := 15) hx hb hts hinX5 hown hK hP 0 rfl rfl 7 (by decide) hf16 (fun _ h9 => h9) rfl dX5_simulate_27 ?_
      refine lv_iconst (v := 0) hx hb dX5_simulate_30 (by decide) ?_
      refine lv_aload_n hx hb dX5_simulate_31 rfl (lv_at hl 0 rfl) ?_
      refine va_get (D := D) (ci := 5) (v := .ref (q + 4)) (C := RX5) (T := TX5) (N := 15) hx hb hts hinX5 hown hK hP 0 rfl rfl 8 (by decide) hf19 (fun _ h9 => h9) rfl dX5_simulate_32 ?_
      refine lv_iconst (v := 0) hx hb dX5_simulate_35 (by decide) ?_
      refine lv_bipush (v := 106) hx hb dX5_simulate_36 (by decide) ?_
      obtain ⟨r38, hr38, h⟩ := bd_some h
      refine gc_swv (As := [.ref (q + 3), .int 0, .ref (q + 4), .int 0, .int 106]) (rest := []) ⟨hx, hb, hml, hown, hts⟩ hK (kX5_copy l D cI cC cZ cQ cJ q 3 4 r18.2 0 0 106 (Or.inr (Or.inl rfl)) (Or.inr (Or.inr (Or.inl rfl))) hr38) (va_cwS 5 hts gX5_simulate_X5_copy rfl rfl rfl (by decide +kernel) ⟨Nat.le_of_ble_eq_true rfl, Nat.le_of_ble_eq_true rfl⟩)  hP hS (fun _ h => h) rfl hl.1 rfl (Nat.le_of_ble_eq_true rfl) ⟨Nat.zero_le _, Nat.zero_le _⟩ dX5_simulate_38 (fun H locs hP hS _ _ => ?_)
      refine lv_aload_n hx hb dX5_simulate_41 rfl (lv_at hl 0 rfl) ?_
      refine va_get (D := D) (ci := 5) (v := .ref (q + 4)) (C := RX5) (T := TX5) (N := 15) hx hb hts hinX5 hown hK hP 0 rfl rfl 8 (by decide) hf19 (fun _ h9 => h9) rfl dX5_simulate_42 ?_
      refine lv_lload_n hx hb dX5_simulate_45 rfl (lv_at hl 1 rfl) ?_
      obtain ⟨r46, hr46, h⟩ := bd_some h
      refine gc_swv (As := [.ref (q + 4), .long p0]) (rest := []) ⟨hx, hb, hml, hown, hts⟩ hK (kX5_setRandomOn l D cI cC cZ cQ cJ q 4 r38 p0 (Or.inr (Or.inr rfl)) hr46) (va_cwS 2 hts gX5_simulate_X5_setRandomOn rfl rfl rfl (by decide +kernel) ⟨Nat.le_of_ble_eq_true rfl, Nat.le_of_ble_eq_true rfl⟩)  hP hS (fun _ h => h) rfl hl.1 rfl (Nat.le_of_ble_eq_true rfl) ⟨Nat.zero_le _, Nat.zero_le _⟩ dX5_simulate_46 (fun H locs hP hS _ _ => ?_)
      refine lv_aload_n hx hb dX5_simulate_49 rfl (lv_at hl 0 rfl) ?_
      refine lv_aload_n hx hb dX5_simulate_50 rfl (lv_at hl 0 rfl) ?_
      refine va_get (D := D) (ci := 5) (v := .ref (q + 4)) (C := RX5) (T := TX5) (N := 15) hx hb hts hinX5 hown hK hP 0 rfl rfl 8 (by decide) hf19 (fun _ h9 => h9) rfl dX5_simulate_51 ?_
      refine lv_iload_n hx hb dX5_simulate_54 rfl (lv_at hl 2 rfl) ?_
      obtain ⟨r55, hr55, h⟩ := bd_some h
      refine gc_wv (As := [.ref (q + 4), .int p1]) (rest := []) ⟨hx, hb, hml, hown, hts⟩ hK (kX5_stepsOn l D cI cC cZ cQ cJ q 4 r46 p1 (Or.inr (Or.inr rfl)) hr55) (cwV 2 hts gX5_simulate_X5_stepsOn rfl rfl rfl (by decide +kernel) ⟨Nat.le_of_ble_eq_true rfl, Nat.le_of_ble_eq_true rfl⟩) (va_recv hK hP (ci := 5) (q0 := 0) rfl rfl) hP hS (fun _ h => h) rfl hl.1 rfl (Nat.le_of_ble_eq_true rfl) ⟨Nat.zero_le _, Nat.zero_le _⟩ dX5_simulate_55 (fun H locs hP hS _ _ => ?_)
      refine lv_iconst (v := 0) hx hb dX5_simulate_58 (by decide) ?_
      refine lv_istore (lv' := [(4, .int 0), (0, .ref q), (1, .long p0), (3, .int p1)]) hx hb dX5_simulate_59 hl (by decide) rfl (fun ls hl => ?_)
      refine lv_iconst (v := 0) hx hb dX5_simulate_61 (by decide) ?_
      refine lv_istore (lv' := [(5, .int 0), (4, .int 0), (0, .ref q), (1, .long p0), (3, .int p1)]) hx hb dX5_simulate_62 hl (by decide) rfl (fun ls hl => ?_)
      exact LP64 KF r55 0 0 H locs ls h hP hS (lv_sub hl [2, 1, 0] rfl)
    · replace h := (if_neg c2).symm.trans h
      refine lv_iconst (v := 0) hx hb dX5_simulate_24 (by decide) ?_
      have h := Option.some.inj h
      subst h
      exact W.iret (v := 0) hx hb hr (fun t ht hW => ⟨⟨_, (), rfl, rfl, gh ht hP⟩, hS.F ht⟩) hS.2.2 dX5_simulate_25
  · replace h := (if_neg c1).symm.trans h
    refine lv_iconst (v := 0) hx hb dX5_simulate_13 (by decide) ?_
    refine lv_goto (tgt := 18) hx hb dX5_simulate_14 (by decide) ?_
    obtain ⟨r18, hr18, h⟩ := bd_some h
    refine gc_wi (As := [.int 0]) (rest := []) ⟨hx, hb, hml, hown, hts⟩ hK (kX5_refused l D cI cC cZ cQ cJ q M 0 hr18) (cwV 1 hts gX5_simulate_X5_refused rfl rfl rfl (by decide +kernel) ⟨Nat.le_of_ble_eq_true rfl, Nat.le_of_ble_eq_true rfl⟩) (va_recv hK hP (ci := 5) (q0 := 0) rfl rfl) hP hS (fun _ h => h) rfl hl.1 rfl (Nat.le_of_ble_eq_true rfl) ⟨Nat.zero_le _, Nat.zero_le _⟩ dX5_simulate_18 (fun H locs hP hS _ _ => ?_)
    refine lv_if_eq (tgt := 26) hx hb dX5_simulate_21 (by decide) (fun c5 => ?_) (fun c5 => ?_)
    · replace h := (if_pos c5).symm.trans h
      refine lv_aload_n hx hb dX5_simulate_26 rfl (lv_at hl 0 rfl) ?_
      refine va_get (D := D) (ci := 5) (v := .ref (q + 3)) (C := RX5) (T := TX5) (N := 15) hx hb hts hinX5 hown hK hP 0 rfl rfl 7 (by decide) hf16 (fun _ h9 => h9) rfl dX5_simulate_27 ?_
      refine lv_iconst (v := 0) hx hb dX5_simulate_30 (by decide) ?_
      refine lv_aload_n hx hb dX5_simulate_31 rfl (lv_at hl 0 rfl) ?_
      refine va_get (D := D) (ci := 5) (v := .ref (q + 4)) (C := RX5) (T := TX5) (N := 15) hx hb hts hinX5 hown hK hP 0 rfl rfl 8 (by decide) hf19 (fun _ h9 => h9) rfl dX5_simulate_32 ?_
      refine lv_iconst (v := 0) hx hb dX5_simulate_35 (by decide) ?_
      refine lv_bipush (v := 106) hx hb dX5_simulate_36 (by decide) ?_
      obtain ⟨r38, hr38, h⟩ := bd_some h
      refine gc_swv (As := [.ref (q + 3), .int 0, .ref (q + 4), .int 0, .int 106]) (rest := []) ⟨hx, hb, hml, hown, hts⟩ hK (kX5_copy l D cI cC cZ cQ cJ q 3 4 r18.2 0 0 106 (Or.inr (Or.inl rfl)) (Or.inr (Or.inr (Or.inl rfl))) hr38) (va_cwS 5 hts gX5_simulate_X5_copy rfl rfl rfl (by decide +kernel) ⟨Nat.le_of_ble_eq_true rfl, Nat.le_of_ble_eq_true rfl⟩)  hP hS (fun _ h => h) rfl hl.1 rfl (Nat.le_of_ble_eq_true rfl) ⟨Nat.zero_le _, Nat.zero_le _⟩ dX5_simulate_38 (fun H locs hP hS _ _ => ?_)
      refine lv_aload_n hx hb dX5_simulate_41 rfl (lv_at hl 0 rfl) ?_
      refine va_get (D := D) (ci := 5) (v := .ref (q + 4)) (C := RX5) (T := TX5) (N := 15) hx hb hts hinX5 hown hK hP 0 rfl rfl 8 (by decide) hf19 (fun _ h9 => h9) rfl dX5_simulate_42 ?_
      refine lv_lload_n hx hb dX5_simulate_45 rfl (lv_at hl 1 rfl) ?_
      obtain ⟨r46, hr46, h⟩ := bd_some h
      refine gc_swv (As := [.ref (q + 4), .long p0]) (rest := []) ⟨hx, hb, hml, hown, hts⟩ hK (kX5_setRandomOn l D cI cC cZ cQ cJ q 4 r38 p0 (Or.inr (Or.inr rfl)) hr46) (va_cwS 2 hts gX5_simulate_X5_setRandomOn rfl rfl rfl (by decide +kernel) ⟨Nat.le_of_ble_eq_true rfl, Nat.le_of_ble_eq_true rfl⟩)  hP hS (fun _ h => h) rfl hl.1 rfl (Nat.le_of_ble_eq_true rfl) ⟨Nat.zero_le _, Nat.zero_le _⟩ dX5_simulate_46 (fun H locs hP hS _ _ => ?_)
      refine lv_aload_n hx hb dX5_simulate_49 rfl (lv_at hl 0 rfl) ?_
      refine lv_aload_n hx hb dX5_simulate_50 rfl (lv_at hl 0 rfl) ?_
      refine va_get (D := D) (ci := 5) (v := .ref (q + 4)) (C := RX5) (T := TX5) (N := 15) hx hb hts hinX5 hown hK hP 0 rfl rfl 8 (by decide) hf19 (fun _ h9 => h9) rfl dX5_simulate_51 ?_
      refine lv_iload_n hx hb dX5_simulate_54 rfl (lv_at hl 2 rfl) ?_
      obtain ⟨r55, hr55, h⟩ := bd_some h
      refine gc_wv (As := [.ref (q + 4), .int p1]) (rest := []) ⟨hx, hb, hml, hown, hts⟩ hK (kX5_stepsOn l D cI cC cZ cQ cJ q 4 r46 p1 (Or.inr (Or.inr rfl)) hr55) (cwV 2 hts gX5_simulate_X5_stepsOn rfl rfl rfl (by decide +kernel) ⟨Nat.le_of_ble_eq_true rfl, Nat.le_of_ble_eq_true rfl⟩) (va_recv hK hP (ci := 5) (q0 := 0) rfl rfl) hP hS (fun _ h => h) rfl hl.1 rfl (Nat.le_of_ble_eq_true rfl) ⟨Nat.zero_le _, Nat.zero_le _⟩ dX5_simulate_55 (fun H locs hP hS _ _ => ?_)
      refine lv_iconst (v := 0) hx hb dX5_simulate_58 (by decide) ?_
      refine lv_istore (lv' := [(4, .int 0), (0, .ref q), (1, .long p0), (3, .int p1)]) hx hb dX5_simulate_59 hl (by decide) rfl (fun ls hl => ?_)
      refine lv_iconst (v := 0) hx hb dX5_simulate_61 (by decide) ?_
      refine lv_istore (lv' := [(5, .int 0), (4, .int 0), (0, .ref q), (1, .long p0), (3, .int p1)]) hx hb dX5_simulate_62 hl (by decide) rfl (fun ls hl => ?_)
      exact LP64 KF r55 0 0 H locs ls h hP hS (lv_sub hl [2, 1, 0] rfl)
    · replace h := (if_neg c5).symm.trans h
      refine lv_iconst (v := 0) hx hb dX5_simulate_24 (by decide) ?_
      have h := Option.some.inj h
      subst h
      exact W.iret (v := 0) hx hb hr (fun t ht hW => ⟨⟨_, (), rfl, rfl, gh ht hP⟩, hS.F ht⟩) hS.2.2 dX5_simulate_25
set_option maxHeartbeats 4000000 in
set_option maxRecDepth 100000 in
theorem kX5_save (l : Launch) (D : va_G) (cI cC cZ cQ cJ : ClassId) (q : Nat) (M : MSt) (p0 : Int32) {R : Int32 × MSt} (h : fX5_save M p0 = some R) : Met l yX5_save wsX5_save ({ frames := 1, cells := 0, slots := 0, locals := 25 } : Room) (va_Pc [.ref q, .int p0] (gB D (gTy cI cC cZ cQ cJ) (va_P D vwCl (MW cI cZ q M)))) (va_Qi (fun r (_ : Unit) => r = R.1) (fun _ t => va_P D vwCl (MW cI cZ q R.2) t.heap) (fIv q 10)) 0 0 (fIv q 10) := by
  refine Met.ofW (cc := cX5_save) (maxL := 2) (ret := (some .int)) (by decide) rfl ?_
  intro p e s m args below meth c s₁ B hml hv
  obtain ⟨rfl, hP, hK⟩ := hv
  have hx := B.exec
  have hb := B.bytes
  have hr := B.returns
  have hts := atoms_spec (ws := wsX5_save) B.pre
  have hown : s.vm.findClass RX5 = some m.cls := findClass_of_methodNamed B.named
  have hlocks := B.notSynchronized
  have hinX5 : ∀ w ∈ wsX50, w ∈ wsX5_save := by decide +kernel
  have hf28 := hts (.fieldLink RX5 28 "GripInspectorModel" "isKept" "[Z") (by decide +kernel)
  have hf16 := hts (.fieldLink RX5 16 "GripInspectorModel" "now" "[I") (by decide +kernel)
  have hf25 := hts (.fieldLink RX5 25 "GripInspectorModel" "kept" "[I") (by decide +kernel)
  generalize hRM : (headSpec wsX5_save ({ frames := 1, cells := 0, slots := 0, locals := 25 } : Room)).room = RM
  replace hRM : ({ frames := 1, cells := 0, slots := 0, locals := 25 } : Room) = RM := hRM
  subst hRM
  have hl := lv_entry ([.ref q, .int p0]) (n := 2) (Nat.le_of_ble_eq_true rfl)
  rw [lg_entry_eq]
  generalize (lg_sl ([.ref q, .int p0]) ++ List.replicate (2 - (lg_sl ([.ref q, .int p0])).length) Slot.unset).toArray = ls at hl ⊢
  have hl : lv_has ls 2 [(0, .ref q), (1, .int p0)] := hl
  have hS : va_S (fIv q 10) s.heap s.heap [] := va_S.rf
  unfold fX5_save at h
  obtain ⟨H, hH⟩ : ∃ H, H = s.heap := ⟨_, rfl⟩
  obtain ⟨locs, hlz⟩ : ∃ z : List Loc, z = [] := ⟨_, rfl⟩
  have hP : va_P D vwCl (MW cI cZ q M) H := by rw [hH]; exact hP
  have hS : va_S (fIv q 10) s.heap H locs := by rw [hH, hlz]; exact hS
  refine gc_at hH hlz ?_
  refine lv_aload_n hx hb dX5_save_0 rfl (lv_at hl 0 rfl) ?_
  refine lv_iload_n hx hb dX5_save_1 rfl (lv_at hl 1 rfl) ?_
  refine lv_i2l hx hb dX5_save_2 rfl ?_
  refine lv_lconst (v := 0) hx hb dX5_save_3 (by decide) ?_
  refine lv_lconst (v := 1) hx hb dX5_save_4 (by decide) ?_
  obtain ⟨r5, hr5, h⟩ := bd_some h
  refine gc_si (As := [.long ((p0).toInt64), .long 0, .long 1]) (rest := [.ref q]) ⟨hx, hb, hml, hown, hts⟩ hK (kX5_in l D cI cC cZ cQ cJ ((p0).toInt64) 0 1 hr5) (va_cwS 3 hts gX5_save_X5_in rfl rfl rfl (by decide +kernel) ⟨Nat.le_of_ble_eq_true rfl, Nat.le_of_ble_eq_true rfl⟩)  trivial rfl hl.1 rfl (Nat.le_of_ble_eq_true rfl) ⟨Nat.zero_le _, Nat.zero_le _⟩ dX5_save_5 ?_
  refine lv_if_eq (tgt := 15) hx hb dX5_save_8 (by decide) (fun c1 => ?_) (fun c1 => ?_)
  · replace h := (if_pos c1).symm.trans h
    refine lv_iconst (v := 1) hx hb dX5_save_15 (by decide) ?_
    obtain ⟨r16, hr16, h⟩ := bd_some h
    refine gc_wi (As := [.int 1]) (rest := []) ⟨hx, hb, hml, hown, hts⟩ hK (kX5_refused l D cI cC cZ cQ cJ q M 1 hr16) (cwV 1 hts gX5_save_X5_refused rfl rfl rfl (by decide +kernel) ⟨Nat.le_of_ble_eq_true rfl, Nat.le_of_ble_eq_true rfl⟩) (va_recv hK hP (ci := 5) (q0 := 0) rfl rfl) hP hS (fun _ h => h) rfl hl.1 rfl (Nat.le_of_ble_eq_true rfl) ⟨Nat.zero_le _, Nat.zero_le _⟩ dX5_save_16 (fun H locs hP hS _ _ => ?_)
    refine lv_if_eq (tgt := 24) hx hb dX5_save_19 (by decide) (fun c2 => ?_) (fun c2 => ?_)
    · replace h := (if_pos c2).symm.trans h
      refine lv_aload_n hx hb dX5_save_24 rfl (lv_at hl 0 rfl) ?_
      refine va_get (D := D) (ci := 5) (v := .ref (q + 7)) (C := RX5) (T := TX5) (N := 15) hx hb hts hinX5 hown hK hP 0 rfl rfl 12 (by decide) hf28 (fun _ h9 => h9) rfl dX5_save_25 ?_
      refine lv_iload_n hx hb dX5_save_28 rfl (lv_at hl 1 rfl) ?_
      refine lv_iconst (v := 1) hx hb dX5_save_29 (by decide) ?_
      obtain ⟨hg3, h⟩ := gd_some h
      refine g_zast (f := ((mA r16.2) 7)) (k := p0.toNatClampNeg) hx hb hK hP MW_self hS 7 2 rfl rfl hg3 rfl dX5_save_30 (fun H locs hP hS => ?_)
      obtain ⟨a4, ha4, h⟩ := lt_some h
      have hP : va_P D vwCl (MW cI cZ q (a4, (mRef r16.2), (mSize r16.2), (mSpot r16.2), (mRN r16.2), (mN r16.2), (mActs r16.2))) H := by have h9 := hP; rw [MW_s7] at h9; rw [ha4]; exact h9
      refine lv_aload_n hx hb dX5_save_31 rfl (lv_at hl 0 rfl) ?_
      refine va_get (D := D) (ci := 5) (v := .ref (q + 3)) (C := RX5) (T := TX5) (N := 15) hx hb hts hinX5 hown hK hP 0 rfl rfl 7 (by decide) hf16 (fun _ h9 => h9) rfl dX5_save_32 ?_
      refine lv_iconst (v := 0) hx hb dX5_save_35 (by decide) ?_
      refine lv_aload_n hx hb dX5_save_36 rfl (lv_at hl 0 rfl) ?_
      refine va_get (D := D) (ci := 5) (v := .ref (q + 6)) (C := RX5) (T := TX5) (N := 15) hx hb hts hinX5 hown hK hP 0 rfl rfl 11 (by decide) hf25 (fun _ h9 => h9) rfl dX5_save_37 ?_
      refine lv_bipush (v := 106) hx hb dX5_save_40 (by decide) ?_
      refine lv_iload_n hx hb dX5_save_42 rfl (lv_at hl 1 rfl) ?_
      refine lv_imul hx hb dX5_save_43 ?_
      refine lv_bipush (v := 106) hx hb dX5_save_44 (by decide) ?_
      obtain ⟨r46, hr46, h⟩ := bd_some h
      refine gc_swv (As := [.ref (q + 3), .int 0, .ref (q + 6), .int (106 * p0), .int 106]) (rest := []) ⟨hx, hb, hml, hown, hts⟩ hK (kX5_copy l D cI cC cZ cQ cJ q 3 6 (a4, (mRef r16.2), (mSize r16.2), (mSpot r16.2), (mRN r16.2), (mN r16.2), (mActs r16.2)) 0 (106 * p0) 106 (Or.inr (Or.inl rfl)) (Or.inr (Or.inr (Or.inr (Or.inr rfl)))) hr46) (va_cwS 5 hts gX5_save_X5_copy rfl rfl rfl (by decide +kernel) ⟨Nat.le_of_ble_eq_true rfl, Nat.le_of_ble_eq_true rfl⟩)  hP hS (fun _ h => h) rfl hl.1 rfl (Nat.le_of_ble_eq_true rfl) ⟨Nat.zero_le _, Nat.zero_le _⟩ dX5_save_46 (fun H locs hP hS _ _ => ?_)
      refine lv_aload_n hx hb dX5_save_49 rfl (lv_at hl 0 rfl) ?_
      refine va_get (D := D) (ci := 5) (v := .ref (q + 3)) (C := RX5) (T := TX5) (N := 15) hx hb hts hinX5 hown hK hP 0 rfl rfl 7 (by decide) hf16 (fun _ h9 => h9) rfl dX5_save_50 ?_
      refine lv_bipush (v := 98) hx hb dX5_save_53 (by decide) ?_
      refine g_iald (f := ((mA r46) 3)) (k := 98) hx hb hK hP 3 0 rfl rfl (vin_lit rfl) rfl dX5_save_55 ?_
      have h := Option.some.inj h
      subst h
      exact W.iret (v := (((mA r46) 3) 98)) hx hb hr (fun t ht hW => ⟨⟨_, (), rfl, rfl, gh ht hP⟩, hS.F ht⟩) hS.2.2 dX5_save_56
    · replace h := (if_neg c2).symm.trans h
      refine lv_iconst (v := 0) hx hb dX5_save_22 (by decide) ?_
      have h := Option.some.inj h
      subst h
      exact W.iret (v := 0) hx hb hr (fun t ht hW => ⟨⟨_, (), rfl, rfl, gh ht hP⟩, hS.F ht⟩) hS.2.2 dX5_save_23
  · replace h := (if_neg c1).symm.trans h
    refine lv_iconst (v := 0) hx hb dX5_save_11 (by decide) ?_
    refine lv_goto (tgt := 16) hx hb dX5_save_12 (by decide) ?_
    obtain ⟨r16, hr16, h⟩ := bd_some h
    refine gc_wi (As := [.int 0]) (rest := []) ⟨hx, hb, hml, hown, hts⟩ hK (kX5_refused l D cI cC cZ cQ cJ q M 0 hr16) (cwV 1 hts gX5_save_X5_refused rfl rfl rfl (by decide +kernel) ⟨Nat.le_of_ble_eq_true rfl, Nat.le_of_ble_eq_true rfl⟩) (va_recv hK hP (ci := 5) (q0 := 0) rfl rfl) hP hS (fun _ h => h) rfl hl.1 rfl (Nat.le_of_ble_eq_true rfl) ⟨Nat.zero_le _, Nat.zero_le _⟩ dX5_save_16 (fun H locs hP hS _ _ => ?_)
    refine lv_if_eq (tgt := 24) hx hb dX5_save_19 (by decide) (fun c5 => ?_) (fun c5 => ?_)
    · replace h := (if_pos c5).symm.trans h
      refine lv_aload_n hx hb dX5_save_24 rfl (lv_at hl 0 rfl) ?_
      refine va_get (D := D) (ci := 5) (v := .ref (q + 7)) (C := RX5) (T := TX5) (N := 15) hx hb hts hinX5 hown hK hP 0 rfl rfl 12 (by decide) hf28 (fun _ h9 => h9) rfl dX5_save_25 ?_
      refine lv_iload_n hx hb dX5_save_28 rfl (lv_at hl 1 rfl) ?_
      refine lv_iconst (v := 1) hx hb dX5_save_29 (by decide) ?_
      obtain ⟨hg6, h⟩ := gd_some h
      refine g_zast (f := ((mA r16.2) 7)) (k := p0.toNatClampNeg) hx hb hK hP MW_self hS 7 2 rfl rfl hg6 rfl dX5_save_30 (fun H locs hP hS => ?_)
      obtain ⟨a7, ha7, h⟩ := lt_some h
      have hP : va_P D vwCl (MW cI cZ q (a7, (mRef r16.2), (mSize r16.2), (mSpot r16.2), (mRN r16.2), (mN r16.2), (mActs r16.2))) H := by have h9 := hP; rw [MW_s7] at h9; rw [ha7]; exact h9
      refine lv_aload_n hx hb dX5_save_31 rfl (lv_at hl 0 rfl) ?_
      refine va_get (D := D) (ci := 5) (v := .ref (q + 3)) (C := RX5) (T := TX5) (N := 15) hx hb hts hinX5 hown hK hP 0 rfl rfl 7 (by decide) hf16 (fun _ h9 => h9) rfl dX5_save_32 ?_
      refine lv_iconst (v := 0) hx hb dX5_save_35 (by decide) ?_
      refine lv_aload_n hx hb dX5_save_36 rfl (lv_at hl 0 rfl) ?_
      refine va_get (D := D) (ci := 5) (v := .ref (q + 6)) (C := RX5) (T := TX5) (N := 15) hx hb hts hinX5 hown hK hP 0 rfl rfl 11 (by decide) hf25 (fun _ h9 => h9) rfl dX5_save_37 ?_
      refine lv_bipush (v := 106) hx hb dX5_save_40 (by decide) ?_
      refine lv_iload_n hx hb dX5_save_42 rfl (lv_at hl 1 rfl) ?_
      refine lv_imul hx hb dX5_save_43 ?_
      refine lv_bipush (v := 106) hx hb dX5_save_44 (by decide) ?_
      obtain ⟨r46, hr46, h⟩ := bd_some h
      refine gc_swv (As := [.ref (q + 3), .int 0, .ref (q + 6), .int (106 * p0), .int 106]) (rest := []) ⟨hx, hb, hml, hown, hts⟩ hK (kX5_copy l D cI cC cZ cQ cJ q 3 6 (a7, (mRef r16.2), (mSize r16.2), (mSpot r16.2), (mRN r16.2), (mN r16.2), (mActs r16.2)) 0 (106 * p0) 106 (Or.inr (Or.inl rfl)) (Or.inr (Or.inr (Or.inr (Or.inr rfl)))) hr46) (va_cwS 5 hts gX5_save_X5_copy rfl rfl rfl (by decide +kernel) ⟨Nat.le_of_ble_eq_true rfl, Nat.le_of_ble_eq_true rfl⟩)  hP hS (fun _ h => h) rfl hl.1 rfl (Nat.le_of_ble_eq_true rfl) ⟨Nat.zero_le _, Nat.zero_le _⟩ dX5_save_46 (fun H locs hP hS _ _ => ?_)
      refine lv_aload_n hx hb dX5_save_49 rfl (lv_at hl 0 rfl) ?_
      refine va_get (D := D) (ci := 5) (v := .ref (q + 3)) (C := RX5) (T := TX5) (N := 15) hx hb hts hinX5 hown hK hP 0 rfl rfl 7 (by decide) hf16 (fun _ h9 => h9) rfl dX5_save_50 ?_
      refine lv_bipush (v := 98) hx hb dX5_save_53 (by decide) ?_
      refine g_iald (f := ((mA r46) 3)) (k := 98) hx hb hK hP 3 0 rfl rfl (vin_lit rfl) rfl dX5_save_55 ?_
      have h := Option.some.inj h
      subst h
      exact W.iret (v := (((mA r46) 3) 98)) hx hb hr (fun t ht hW => ⟨⟨_, (), rfl, rfl, gh ht hP⟩, hS.F ht⟩) hS.2.2 dX5_save_56
    · replace h := (if_neg c5).symm.trans h
      refine lv_iconst (v := 0) hx hb dX5_save_22 (by decide) ?_
      have h := Option.some.inj h
      subst h
      exact W.iret (v := 0) hx hb hr (fun t ht hW => ⟨⟨_, (), rfl, rfl, gh ht hP⟩, hS.F ht⟩) hS.2.2 dX5_save_23
set_option maxHeartbeats 4000000 in
set_option maxRecDepth 100000 in
theorem kX5_restore (l : Launch) (D : va_G) (cI cC cZ cQ cJ : ClassId) (q : Nat) (M : MSt) (p0 : Int32) {R : Int32 × MSt} (h : fX5_restore M p0 = some R) : Met l yX5_restore wsX5_restore ({ frames := 1, cells := 0, slots := 0, locals := 25 } : Room) (va_Pc [.ref q, .int p0] (gB D (gTy cI cC cZ cQ cJ) (va_P D vwCl (MW cI cZ q M)))) (va_Qi (fun r (_ : Unit) => r = R.1) (fun _ t => va_P D vwCl (MW cI cZ q R.2) t.heap) (fIv q 10)) 0 0 (fIv q 10) := by
  refine Met.ofW (cc := cX5_restore) (maxL := 2) (ret := (some .int)) (by decide) rfl ?_
  intro p e s m args below meth c s₁ B hml hv
  obtain ⟨rfl, hP, hK⟩ := hv
  have hx := B.exec
  have hb := B.bytes
  have hr := B.returns
  have hts := atoms_spec (ws := wsX5_restore) B.pre
  have hown : s.vm.findClass RX5 = some m.cls := findClass_of_methodNamed B.named
  have hlocks := B.notSynchronized
  have hinX5 : ∀ w ∈ wsX50, w ∈ wsX5_restore := by decide +kernel
  have hf28 := hts (.fieldLink RX5 28 "GripInspectorModel" "isKept" "[Z") (by decide +kernel)
  have hf25 := hts (.fieldLink RX5 25 "GripInspectorModel" "kept" "[I") (by decide +kernel)
  have hf16 := hts (.fieldLink RX5 16 "GripInspectorModel" "now" "[I") (by decide +kernel)
  have hf47 := hts (.fieldLink RX5 47 "GripInspectorModel" "acts" "I") (by decide +kernel)
  generalize hRM : (headSpec wsX5_restore ({ frames := 1, cells := 0, slots := 0, locals := 25 } : Room)).room = RM
  replace hRM : ({ frames := 1, cells := 0, slots := 0, locals := 25 } : Room) = RM := hRM
  subst hRM
  have hl := lv_entry ([.ref q, .int p0]) (n := 2) (Nat.le_of_ble_eq_true rfl)
  rw [lg_entry_eq]
  generalize (lg_sl ([.ref q, .int p0]) ++ List.replicate (2 - (lg_sl ([.ref q, .int p0])).length) Slot.unset).toArray = ls at hl ⊢
  have hl : lv_has ls 2 [(0, .ref q), (1, .int p0)] := hl
  have hS : va_S (fIv q 10) s.heap s.heap [] := va_S.rf
  unfold fX5_restore at h
  obtain ⟨H, hH⟩ : ∃ H, H = s.heap := ⟨_, rfl⟩
  obtain ⟨locs, hlz⟩ : ∃ z : List Loc, z = [] := ⟨_, rfl⟩
  have hP : va_P D vwCl (MW cI cZ q M) H := by rw [hH]; exact hP
  have hS : va_S (fIv q 10) s.heap H locs := by rw [hH, hlz]; exact hS
  refine gc_at hH hlz ?_
  refine lv_aload_n hx hb dX5_restore_0 rfl (lv_at hl 0 rfl) ?_
  refine lv_iload_n hx hb dX5_restore_1 rfl (lv_at hl 1 rfl) ?_
  refine lv_i2l hx hb dX5_restore_2 rfl ?_
  refine lv_lconst (v := 0) hx hb dX5_restore_3 (by decide) ?_
  refine lv_lconst (v := 1) hx hb dX5_restore_4 (by decide) ?_
  obtain ⟨r5, hr5, h⟩ := bd_some h
  refine gc_si (As := [.long ((p0).toInt64), .long 0, .long 1]) (rest := [.ref q]) ⟨hx, hb, hml, hown, hts⟩ hK (kX5_in l D cI cC cZ cQ cJ ((p0).toInt64) 0 1 hr5) (va_cwS 3 hts gX5_restore_X5_in rfl rfl rfl (by decide +kernel) ⟨Nat.le_of_ble_eq_true rfl, Nat.le_of_ble_eq_true rfl⟩)  trivial rfl hl.1 rfl (Nat.le_of_ble_eq_true rfl) ⟨Nat.zero_le _, Nat.zero_le _⟩ dX5_restore_5 ?_
  refine lv_if_ne (tgt := 15) hx hb dX5_restore_8 (by decide) (fun c1 => ?_) (fun c1 => ?_)
  · replace h := (if_neg c1).symm.trans h
    refine lv_aload_n hx hb dX5_restore_15 rfl (lv_at hl 0 rfl) ?_
    refine va_get (D := D) (ci := 5) (v := .ref (q + 7)) (C := RX5) (T := TX5) (N := 15) hx hb hts hinX5 hown hK hP 0 rfl rfl 12 (by decide) hf28 (fun _ h9 => h9) rfl dX5_restore_16 ?_
    refine lv_iload_n hx hb dX5_restore_19 rfl (lv_at hl 1 rfl) ?_
    obtain ⟨hg2, h⟩ := gd_some h
    refine g_zald (f := ((mA M) 7)) (k := p0.toNatClampNeg) hx hb hK hP 7 2 rfl rfl hg2 rfl dX5_restore_20 ?_
    refine lv_if_ne (tgt := 28) hx hb dX5_restore_21 (by decide) (fun c3 => ?_) (fun c3 => ?_)
    · replace h := (if_neg c3).symm.trans h
      refine lv_iconst (v := 0) hx hb dX5_restore_28 (by decide) ?_
      obtain ⟨r29, hr29, h⟩ := bd_some h
      refine gc_wi (As := [.int 0]) (rest := []) ⟨hx, hb, hml, hown, hts⟩ hK (kX5_refused l D cI cC cZ cQ cJ q M 0 hr29) (cwV 1 hts gX5_restore_X5_refused rfl rfl rfl (by decide +kernel) ⟨Nat.le_of_ble_eq_true rfl, Nat.le_of_ble_eq_true rfl⟩) (va_recv hK hP (ci := 5) (q0 := 0) rfl rfl) hP hS (fun _ h => h) rfl hl.1 rfl (Nat.le_of_ble_eq_true rfl) ⟨Nat.zero_le _, Nat.zero_le _⟩ dX5_restore_29 (fun H locs hP hS _ _ => ?_)
      refine lv_if_eq (tgt := 37) hx hb dX5_restore_32 (by decide) (fun c4 => ?_) (fun c4 => ?_)
      · replace h := (if_pos c4).symm.trans h
        refine lv_aload_n hx hb dX5_restore_37 rfl (lv_at hl 0 rfl) ?_
        refine va_get (D := D) (ci := 5) (v := .ref (q + 6)) (C := RX5) (T := TX5) (N := 15) hx hb hts hinX5 hown hK hP 0 rfl rfl 11 (by decide) hf25 (fun _ h9 => h9) rfl dX5_restore_38 ?_
        refine lv_bipush (v := 106) hx hb dX5_restore_41 (by decide) ?_
        refine lv_iload_n hx hb dX5_restore_43 rfl (lv_at hl 1 rfl) ?_
        refine lv_imul hx hb dX5_restore_44 ?_
        refine lv_aload_n hx hb dX5_restore_45 rfl (lv_at hl 0 rfl) ?_
        refine va_get (D := D) (ci := 5) (v := .ref (q + 3)) (C := RX5) (T := TX5) (N := 15) hx hb hts hinX5 hown hK hP 0 rfl rfl 7 (by decide) hf16 (fun _ h9 => h9) rfl dX5_restore_46 ?_
        refine lv_iconst (v := 0) hx hb dX5_restore_49 (by decide) ?_
        refine lv_bipush (v := 106) hx hb dX5_restore_50 (by decide) ?_
        obtain ⟨r52, hr52, h⟩ := bd_some h
        refine gc_swv (As := [.ref (q + 6), .int (106 * p0), .ref (q + 3), .int 0, .int 106]) (rest := []) ⟨hx, hb, hml, hown, hts⟩ hK (kX5_copy l D cI cC cZ cQ cJ q 6 3 r29.2 (106 * p0) 0 106 (Or.inr (Or.inr (Or.inr (Or.inr rfl)))) (Or.inr (Or.inl rfl)) hr52) (va_cwS 5 hts gX5_restore_X5_copy rfl rfl rfl (by decide +kernel) ⟨Nat.le_of_ble_eq_true rfl, Nat.le_of_ble_eq_true rfl⟩)  hP hS (fun _ h => h) rfl hl.1 rfl (Nat.le_of_ble_eq_true rfl) ⟨Nat.zero_le _, Nat.zero_le _⟩ dX5_restore_52 (fun H locs hP hS _ _ => ?_)
        refine lv_aload_n hx hb dX5_restore_55 rfl (lv_at hl 0 rfl) ?_
        refine lv_iconst (v := 0) hx hb dX5_restore_56 (by decide) ?_
        refine va_put (D := D) (ci := 5) (v := .int 0) (ty := .int) (C := RX5) (T := TX5) (N := 15) hx hb hts hinX5 tyX5 tyX5_ok nmX5 hown hK hP MW_self hS 0 rfl rfl 10 (by decide) hf47 (fun _ h9 => h9) rfl (by decide +kernel) rfl rfl (Nat.le_of_ble_eq_true rfl) dX5_restore_57 (fun H locs hP _ hS => ?_)
        have hP : va_P D vwCl (MW cI cZ q ((mA r52), (mRef r52), (mSize r52), (mSpot r52), (mRN r52), (mN r52), 0)) H := hP
        refine lv_aload_n hx hb dX5_restore_60 rfl (lv_at hl 0 rfl) ?_
        refine va_get (D := D) (ci := 5) (v := .ref (q + 3)) (C := RX5) (T := TX5) (N := 15) hx hb hts hinX5 hown hK hP 0 rfl rfl 7 (by decide) hf16 (fun _ h9 => h9) rfl dX5_restore_61 ?_
        refine lv_bipush (v := 98) hx hb dX5_restore_64 (by decide) ?_
        refine g_iald (f := ((mA r52) 3)) (k := 98) hx hb hK hP 3 0 rfl rfl (vin_lit rfl) rfl dX5_restore_66 ?_
        have h := Option.some.inj h
        subst h
        exact W.iret (v := (((mA r52) 3) 98)) hx hb hr (fun t ht hW => ⟨⟨_, (), rfl, rfl, gh ht hP⟩, hS.F ht⟩) hS.2.2 dX5_restore_67
      · replace h := (if_neg c4).symm.trans h
        refine lv_iconst (v := 0) hx hb dX5_restore_35 (by decide) ?_
        have h := Option.some.inj h
        subst h
        exact W.iret (v := 0) hx hb hr (fun t ht hW => ⟨⟨_, (), rfl, rfl, gh ht hP⟩, hS.F ht⟩) hS.2.2 dX5_restore_36
    · replace h := (if_pos c3).symm.trans h
      refine lv_iconst (v := 2) hx hb dX5_restore_24 (by decide) ?_
      refine lv_goto (tgt := 29) hx hb dX5_restore_25 (by decide) ?_
      obtain ⟨r29, hr29, h⟩ := bd_some h
      refine gc_wi (As := [.int 2]) (rest := []) ⟨hx, hb, hml, hown, hts⟩ hK (kX5_refused l D cI cC cZ cQ cJ q M 2 hr29) (cwV 1 hts gX5_restore_X5_refused rfl rfl rfl (by decide +kernel) ⟨Nat.le_of_ble_eq_true rfl, Nat.le_of_ble_eq_true rfl⟩) (va_recv hK hP (ci := 5) (q0 := 0) rfl rfl) hP hS (fun _ h => h) rfl hl.1 rfl (Nat.le_of_ble_eq_true rfl) ⟨Nat.zero_le _, Nat.zero_le _⟩ dX5_restore_29 (fun H locs hP hS _ _ => ?_)
      refine lv_if_eq (tgt := 37) hx hb dX5_restore_32 (by decide) (fun c5 => ?_) (fun c5 => ?_)
      · replace h := (if_pos c5).symm.trans h
        refine lv_aload_n hx hb dX5_restore_37 rfl (lv_at hl 0 rfl) ?_
        refine va_get (D := D) (ci := 5) (v := .ref (q + 6)) (C := RX5) (T := TX5) (N := 15) hx hb hts hinX5 hown hK hP 0 rfl rfl 11 (by decide) hf25 (fun _ h9 => h9) rfl dX5_restore_38 ?_
        refine lv_bipush (v := 106) hx hb dX5_restore_41 (by decide) ?_
        refine lv_iload_n hx hb dX5_restore_43 rfl (lv_at hl 1 rfl) ?_
        refine lv_imul hx hb dX5_restore_44 ?_
        refine lv_aload_n hx hb dX5_restore_45 rfl (lv_at hl 0 rfl) ?_
        refine va_get (D := D) (ci := 5) (v := .ref (q + 3)) (C := RX5) (T := TX5) (N := 15) hx hb hts hinX5 hown hK hP 0 rfl rfl 7 (by decide) hf16 (fun _ h9 => h9) rfl dX5_restore_46 ?_
        refine lv_iconst (v := 0) hx hb dX5_restore_49 (by decide) ?_
        refine lv_bipush (v := 106) hx hb dX5_restore_50 (by decide) ?_
        obtain ⟨r52, hr52, h⟩ := bd_some h
        refine gc_swv (As := [.ref (q + 6), .int (106 * p0), .ref (q + 3), .int 0, .int 106]) (rest := []) ⟨hx, hb, hml, hown, hts⟩ hK (kX5_copy l D cI cC cZ cQ cJ q 6 3 r29.2 (106 * p0) 0 106 (Or.inr (Or.inr (Or.inr (Or.inr rfl)))) (Or.inr (Or.inl rfl)) hr52) (va_cwS 5 hts gX5_restore_X5_copy rfl rfl rfl (by decide +kernel) ⟨Nat.le_of_ble_eq_true rfl, Nat.le_of_ble_eq_true rfl⟩)  hP hS (fun _ h => h) rfl hl.1 rfl (Nat.le_of_ble_eq_true rfl) ⟨Nat.zero_le _, Nat.zero_le _⟩ dX5_restore_52 (fun H locs hP hS _ _ => ?_)
        refine lv_aload_n hx hb dX5_restore_55 rfl (lv_at hl 0 rfl) ?_
        refine lv_iconst (v := 0) hx hb dX5_restore_56 (by decide) ?_
        refine va_put (D := D) (ci := 5) (v := .int 0) (ty := .int) (C := RX5) (T := TX5) (N := 15) hx hb hts hinX5 tyX5 tyX5_ok nmX5 hown hK hP MW_self hS 0 rfl rfl 10 (by decide) hf47 (fun _ h9 => h9) rfl (by decide +kernel) rfl rfl (Nat.le_of_ble_eq_true rfl) dX5_restore_57 (fun H locs hP _ hS => ?_)
        have hP : va_P D vwCl (MW cI cZ q ((mA r52), (mRef r52), (mSize r52), (mSpot r52), (mRN r52), (mN r52), 0)) H := hP
        refine lv_aload_n hx hb dX5_restore_60 rfl (lv_at hl 0 rfl) ?_
        refine va_get (D := D) (ci := 5) (v := .ref (q + 3)) (C := RX5) (T := TX5) (N := 15) hx hb hts hinX5 hown hK hP 0 rfl rfl 7 (by decide) hf16 (fun _ h9 => h9) rfl dX5_restore_61 ?_
        refine lv_bipush (v := 98) hx hb dX5_restore_64 (by decide) ?_
        refine g_iald (f := ((mA r52) 3)) (k := 98) hx hb hK hP 3 0 rfl rfl (vin_lit rfl) rfl dX5_restore_66 ?_
        have h := Option.some.inj h
        subst h
        exact W.iret (v := (((mA r52) 3) 98)) hx hb hr (fun t ht hW => ⟨⟨_, (), rfl, rfl, gh ht hP⟩, hS.F ht⟩) hS.2.2 dX5_restore_67
      · replace h := (if_neg c5).symm.trans h
        refine lv_iconst (v := 0) hx hb dX5_restore_35 (by decide) ?_
        have h := Option.some.inj h
        subst h
        exact W.iret (v := 0) hx hb hr (fun t ht hW => ⟨⟨_, (), rfl, rfl, gh ht hP⟩, hS.F ht⟩) hS.2.2 dX5_restore_36
  · replace h := (if_pos c1).symm.trans h
    refine lv_iconst (v := 1) hx hb dX5_restore_11 (by decide) ?_
    refine lv_goto (tgt := 29) hx hb dX5_restore_12 (by decide) ?_
    obtain ⟨r29, hr29, h⟩ := bd_some h
    refine gc_wi (As := [.int 1]) (rest := []) ⟨hx, hb, hml, hown, hts⟩ hK (kX5_refused l D cI cC cZ cQ cJ q M 1 hr29) (cwV 1 hts gX5_restore_X5_refused rfl rfl rfl (by decide +kernel) ⟨Nat.le_of_ble_eq_true rfl, Nat.le_of_ble_eq_true rfl⟩) (va_recv hK hP (ci := 5) (q0 := 0) rfl rfl) hP hS (fun _ h => h) rfl hl.1 rfl (Nat.le_of_ble_eq_true rfl) ⟨Nat.zero_le _, Nat.zero_le _⟩ dX5_restore_29 (fun H locs hP hS _ _ => ?_)
    refine lv_if_eq (tgt := 37) hx hb dX5_restore_32 (by decide) (fun c6 => ?_) (fun c6 => ?_)
    · replace h := (if_pos c6).symm.trans h
      refine lv_aload_n hx hb dX5_restore_37 rfl (lv_at hl 0 rfl) ?_
      refine va_get (D := D) (ci := 5) (v := .ref (q + 6)) (C := RX5) (T := TX5) (N := 15) hx hb hts hinX5 hown hK hP 0 rfl rfl 11 (by decide) hf25 (fun _ h9 => h9) rfl dX5_restore_38 ?_
      refine lv_bipush (v := 106) hx hb dX5_restore_41 (by decide) ?_
      refine lv_iload_n hx hb dX5_restore_43 rfl (lv_at hl 1 rfl) ?_
      refine lv_imul hx hb dX5_restore_44 ?_
      refine lv_aload_n hx hb dX5_restore_45 rfl (lv_at hl 0 rfl) ?_
      refine va_get (D := D) (ci := 5) (v := .ref (q + 3)) (C := RX5) (T := TX5) (N := 15) hx hb hts hinX5 hown hK hP 0 rfl rfl 7 (by decide) hf16 (fun _ h9 => h9) rfl dX5_restore_46 ?_
      refine lv_iconst (v := 0) hx hb dX5_restore_49 (by decide) ?_
      refine lv_bipush (v := 106) hx hb dX5_restore_50 (by decide) ?_
      obtain ⟨r52, hr52, h⟩ := bd_some h
      refine gc_swv (As := [.ref (q + 6), .int (106 * p0), .ref (q + 3), .int 0, .int 106]) (rest := []) ⟨hx, hb, hml, hown, hts⟩ hK (kX5_copy l D cI cC cZ cQ cJ q 6 3 r29.2 (106 * p0) 0 106 (Or.inr (Or.inr (Or.inr (Or.inr rfl)))) (Or.inr (Or.inl rfl)) hr52) (va_cwS 5 hts gX5_restore_X5_copy rfl rfl rfl (by decide +kernel) ⟨Nat.le_of_ble_eq_true rfl, Nat.le_of_ble_eq_true rfl⟩)  hP hS (fun _ h => h) rfl hl.1 rfl (Nat.le_of_ble_eq_true rfl) ⟨Nat.zero_le _, Nat.zero_le _⟩ dX5_restore_52 (fun H locs hP hS _ _ => ?_)
      refine lv_aload_n hx hb dX5_restore_55 rfl (lv_at hl 0 rfl) ?_
      refine lv_iconst (v := 0) hx hb dX5_restore_56 (by decide) ?_
      refine va_put (D := D) (ci := 5) (v := .int 0) (ty := .int) (C := RX5) (T := TX5) (N := 15) hx hb hts hinX5 tyX5 tyX5_ok nmX5 hown hK hP MW_self hS 0 rfl rfl 10 (by decide) hf47 (fun _ h9 => h9) rfl (by decide +kernel) rfl rfl (Nat.le_of_ble_eq_true rfl) dX5_restore_57 (fun H locs hP _ hS => ?_)
      have hP : va_P D vwCl (MW cI cZ q ((mA r52), (mRef r52), (mSize r52), (mSpot r52), (mRN r52), (mN r52), 0)) H := hP
      refine lv_aload_n hx hb dX5_restore_60 rfl (lv_at hl 0 rfl) ?_
      refine va_get (D := D) (ci := 5) (v := .ref (q + 3)) (C := RX5) (T := TX5) (N := 15) hx hb hts hinX5 hown hK hP 0 rfl rfl 7 (by decide) hf16 (fun _ h9 => h9) rfl dX5_restore_61 ?_
      refine lv_bipush (v := 98) hx hb dX5_restore_64 (by decide) ?_
      refine g_iald (f := ((mA r52) 3)) (k := 98) hx hb hK hP 3 0 rfl rfl (vin_lit rfl) rfl dX5_restore_66 ?_
      have h := Option.some.inj h
      subst h
      exact W.iret (v := (((mA r52) 3) 98)) hx hb hr (fun t ht hW => ⟨⟨_, (), rfl, rfl, gh ht hP⟩, hS.F ht⟩) hS.2.2 dX5_restore_67
    · replace h := (if_neg c6).symm.trans h
      refine lv_iconst (v := 0) hx hb dX5_restore_35 (by decide) ?_
      have h := Option.some.inj h
      subst h
      exact W.iret (v := 0) hx hb hr (fun t ht hW => ⟨⟨_, (), rfl, rfl, gh ht hP⟩, hS.F ht⟩) hS.2.2 dX5_restore_36

set_option maxHeartbeats 4000000 in
set_option maxRecDepth 100000 in
theorem kX0_clear (l : Launch) (D : va_G) (cI cC cZ cQ cJ : ClassId) (q : Nat) (L : LSt) {R : LSt} (h : fX0_clear L = some R) : Met l yX0_clear wsX0_clear ({ frames := 0, cells := 0, slots := 0, locals := 0 } : Room) (va_Pc [.ref q] (gB D (gTy cI cC cZ cQ cJ) (va_P D vwCl (LW cI q L)))) (va_Qv (fun _ : Unit => True) (fun _ t => va_P D vwCl (LW cI q R) t.heap) (fIv q 10)) 0 0 (fIv q 10) := by
  refine Met.ofW (cc := cX0_clear) (maxL := 2) (ret := none) (by decide) rfl ?_
  intro p e s m args below meth c s₁ B hml hv
  obtain ⟨rfl, hP, hK⟩ := hv
  have hx := B.exec
  have hb := B.bytes
  have hr := B.returns
  have hts := atoms_spec (ws := wsX0_clear) B.pre
  have hown : s.vm.findClass RX0 = some m.cls := findClass_of_methodNamed B.named
  have hlocks := B.notSynchronized
  have hinX0 : ∀ w ∈ wsX00, w ∈ wsX0_clear := by decide +kernel
  have hf46 := hts (.fieldLink RX0 46 "GripInspector$Lift" "station" "I") (by decide +kernel)
  have hf49 := hts (.fieldLink RX0 49 "GripInspector$Lift" "clock" "I") (by decide +kernel)
  have hf52 := hts (.fieldLink RX0 52 "GripInspector$Lift" "randomState" "J") (by decide +kernel)
  have hf27 := hts (.fieldLink RX0 27 "GripInspector$Lift" "place" "[I") (by decide +kernel)
  generalize hRM : (headSpec wsX0_clear ({ frames := 0, cells := 0, slots := 0, locals := 0 } : Room)).room = RM
  replace hRM : ({ frames := 0, cells := 0, slots := 0, locals := 0 } : Room) = RM := hRM
  subst hRM
  have hl := lv_entry ([.ref q]) (n := 2) (Nat.le_of_ble_eq_true rfl)
  rw [lg_entry_eq]
  generalize (lg_sl ([.ref q]) ++ List.replicate (2 - (lg_sl ([.ref q])).length) Slot.unset).toArray = ls at hl ⊢
  have hl : lv_has ls 2 [(0, .ref q)] := hl
  have hS : va_S (fIv q 10) s.heap s.heap [] := va_S.rf
  have LP2 : ∀ (n : Nat) (S : LSt) (x1 : Int32) (H : Heap) (locs : List Loc) (ls : Array Slot), fX0_clear_L2 n S x1 = some R → va_P D vwCl (LW cI q S) H → va_S (fIv q 10) s.heap H locs → lv_has ls 2 [(0, .ref q), (1, .int x1)] → W p l e ({ frames := 0, cells := 0, slots := 0, locals := 0 } : Room) s m ([.ref q] : List Value).toArray below meth c H locs 0 0 (MQ below (va_Qv (fun _ : Unit => True) (fun _ t => va_P D vwCl (LW cI q R) t.heap) (fIv q 10)) ([.ref q] : List Value).toArray s 0 0 (fIv q 10)) (F0 m 2 ls []) := by
    intro n
    induction n with
    | zero => intro S x1 H locs ls h hP hS hl; exact no_some h
    | succ n ih =>
      intro S x1 H locs ls h hP hS hl
      rw [fX0_clear_L2] at h
      refine lv_iload_n hx hb dX0_clear_2 rfl (lv_at hl 1 rfl) ?_
      refine lv_bipush (v := 12) hx hb dX0_clear_3 (by decide) ?_
      refine lv_icmp_ge (tgt := 21) hx hb dX0_clear_5 (by decide) (fun c1 => ?_) (fun c1 => ?_)
      · replace h := (if_pos c1).symm.trans h
        refine lv_aload_n hx hb dX0_clear_21 rfl (lv_at hl 0 rfl) ?_
        refine lv_iconst (v := 0) hx hb dX0_clear_22 (by decide) ?_
        refine va_put (D := D) (ci := 0) (v := .int 0) (ty := .int) (C := RX0) (T := TX0) (N := 13) hx hb hts hinX0 tyX0 tyX0_ok nmX0 hown hK hP LW_self hS 0 rfl rfl 10 (by decide) hf46 (fun _ h9 => h9) rfl (by decide +kernel) rfl rfl (Nat.le_of_ble_eq_true rfl) dX0_clear_23 (fun H locs hP _ hS => ?_)
        have hP : va_P D vwCl (LW cI q ((lWe S), (lCy S), (lWr S), (lPu S), (lSl S), (lPl S), (lSp S), (lSt S), (lLi S), (lN_ S), 0, (lClk S), (lRnd S))) H := hP
        refine lv_aload_n hx hb dX0_clear_26 rfl (lv_at hl 0 rfl) ?_
        refine lv_iconst (v := 0) hx hb dX0_clear_27 (by decide) ?_
        refine va_put (D := D) (ci := 0) (v := .int 0) (ty := .int) (C := RX0) (T := TX0) (N := 13) hx hb hts hinX0 tyX0 tyX0_ok nmX0 hown hK hP LW_self hS 0 rfl rfl 11 (by decide) hf49 (fun _ h9 => h9) rfl (by decide +kernel) rfl rfl (Nat.le_of_ble_eq_true rfl) dX0_clear_28 (fun H locs hP _ hS => ?_)
        have hP : va_P D vwCl (LW cI q ((lWe S), (lCy S), (lWr S), (lPu S), (lSl S), (lPl S), (lSp S), (lSt S), (lLi S), (lN_ S), 0, 0, (lRnd S))) H := hP
        refine lv_aload_n hx hb dX0_clear_31 rfl (lv_at hl 0 rfl) ?_
        refine lv_lconst (v := 0) hx hb dX0_clear_32 (by decide) ?_
        refine va_put (D := D) (ci := 0) (v := .long 0) (ty := .long) (C := RX0) (T := TX0) (N := 13) hx hb hts hinX0 tyX0 tyX0_ok nmX0 hown hK hP LW_self hS 0 rfl rfl 12 (by decide) hf52 (fun _ h9 => h9) rfl (by decide +kernel) rfl rfl (Nat.le_of_ble_eq_true rfl) dX0_clear_33 (fun H locs hP _ hS => ?_)
        have hP : va_P D vwCl (LW cI q ((lWe S), (lCy S), (lWr S), (lPu S), (lSl S), (lPl S), (lSp S), (lSt S), (lLi S), (lN_ S), 0, 0, 0)) H := hP
        have h := Option.some.inj h
        subst h
        exact W.vret hx hb hr (fun t ht hW => ⟨⟨(), rfl, trivial, gh ht hP⟩, hS.F ht⟩) hS.2.2 dX0_clear_36
      · replace h := (if_neg c1).symm.trans h
        refine lv_aload_n hx hb dX0_clear_8 rfl (lv_at hl 0 rfl) ?_
        refine va_get (D := D) (ci := 0) (v := .ref (q + 6)) (C := RX0) (T := TX0) (N := 13) hx hb hts hinX0 hown hK hP 0 rfl rfl 5 (by decide) hf27 (fun _ h9 => h9) rfl dX0_clear_9 ?_
        refine lv_iload_n hx hb dX0_clear_12 rfl (lv_at hl 1 rfl) ?_
        refine lv_iconst (v := (-1)) hx hb dX0_clear_13 (by decide) ?_
        obtain ⟨hg2, h⟩ := gd_some h
        refine g_iast (f := (lPl S)) (k := x1.toNatClampNeg) hx hb hK hP LW_self hS 6 0 rfl rfl hg2 rfl dX0_clear_14 (fun H locs hP hS => ?_)
        have hP : va_P D vwCl (LW cI q ((lWe S), (lCy S), (lWr S), (lPu S), (lSl S), (upd (lPl S) x1.toNatClampNeg (-1)), (lSp S), (lSt S), (lLi S), (lN_ S), (lStn S), (lClk S), (lRnd S))) H := hP
        refine lv_iinc (v := (x1 + 1)) (lv' := [(1, .int (x1 + 1)), (0, .ref q)]) hx hb dX0_clear_15 hl (k := 1) rfl rfl (by decide) rfl (fun ls hl => ?_)
        refine lv_goto (tgt := 2) hx hb dX0_clear_18 (by decide) ?_
        exact ih ((lWe S), (lCy S), (lWr S), (lPu S), (lSl S), (upd (lPl S) x1.toNatClampNeg (-1)), (lSp S), (lSt S), (lLi S), (lN_ S), (lStn S), (lClk S), (lRnd S)) (x1 + 1) H locs ls h hP hS (lv_sub hl [1, 0] rfl)
  unfold fX0_clear at h
  obtain ⟨H, hH⟩ : ∃ H, H = s.heap := ⟨_, rfl⟩
  obtain ⟨locs, hlz⟩ : ∃ z : List Loc, z = [] := ⟨_, rfl⟩
  have hP : va_P D vwCl (LW cI q L) H := by rw [hH]; exact hP
  have hS : va_S (fIv q 10) s.heap H locs := by rw [hH, hlz]; exact hS
  refine gc_at hH hlz ?_
  refine lv_iconst (v := 0) hx hb dX0_clear_0 (by decide) ?_
  refine lv_istore_n (lv' := [(1, .int 0), (0, .ref q)]) hx hb dX0_clear_1 rfl hl (by decide) rfl (fun ls hl => ?_)
  exact LP2 KF L 0 H locs ls h hP hS (lv_sub hl [1, 0] rfl)
set_option maxHeartbeats 4000000 in
set_option maxRecDepth 100000 in
theorem kX0_has (l : Launch) (D : va_G) (cI cC cZ cQ cJ : ClassId) (q : Nat) (L : LSt) (p0 : Int32) {R : Int32} (h : fX0_has L p0 = some R) : Met l yX0_has wsX0_has ({ frames := 0, cells := 0, slots := 0, locals := 0 } : Room) (va_Pc [.ref q, .int p0] (gB D (gTy cI cC cZ cQ cJ) (va_P D vwCl (LW cI q L)))) (vp_Si (fun r => r = R)) 0 0 (fun _ => False) := by
  refine Met.ofW (cc := cX0_has) (maxL := 2) (ret := (some .boolean)) (by decide) rfl ?_
  intro p e s m args below meth c s₁ B hml hv
  obtain ⟨rfl, hP, hK⟩ := hv
  have hx := B.exec
  have hb := B.bytes
  have hr := B.returns
  have hts := atoms_spec (ws := wsX0_has) B.pre
  have hown : s.vm.findClass RX0 = some m.cls := findClass_of_methodNamed B.named
  have hlocks := B.notSynchronized
  have hinX0 : ∀ w ∈ wsX00, w ∈ wsX0_has := by decide +kernel
  have hf27 := hts (.fieldLink RX0 27 "GripInspector$Lift" "place" "[I") (by decide +kernel)
  generalize hRM : (headSpec wsX0_has ({ frames := 0, cells := 0, slots := 0, locals := 0 } : Room)).room = RM
  replace hRM : ({ frames := 0, cells := 0, slots := 0, locals := 0 } : Room) = RM := hRM
  subst hRM
  have hl := lv_entry ([.ref q, .int p0]) (n := 2) (Nat.le_of_ble_eq_true rfl)
  rw [lg_entry_eq]
  generalize (lg_sl ([.ref q, .int p0]) ++ List.replicate (2 - (lg_sl ([.ref q, .int p0])).length) Slot.unset).toArray = ls at hl ⊢
  have hl : lv_has ls 2 [(0, .ref q), (1, .int p0)] := hl
  unfold fX0_has at h
  refine lv_iload_n hx hb dX0_has_0 rfl (lv_at hl 1 rfl) ?_
  refine lv_if_lt (tgt := 24) hx hb dX0_has_1 (by decide) (fun c1 => ?_) (fun c1 => ?_)
  · replace h := (if_pos c1).symm.trans h
    refine lv_iconst (v := 0) hx hb dX0_has_24 (by decide) ?_
    have h := Option.some.inj h
    exact W.zret (v := 0) hx hb hr rfl (fun t ht hW => ⟨_, rfl, h, ht⟩) t_nil dX0_has_25
  · replace h := (if_neg c1).symm.trans h
    refine lv_iload_n hx hb dX0_has_4 rfl (lv_at hl 1 rfl) ?_
    refine lv_bipush (v := 12) hx hb dX0_has_5 (by decide) ?_
    refine lv_icmp_ge (tgt := 24) hx hb dX0_has_7 (by decide) (fun c2 => ?_) (fun c2 => ?_)
    · replace h := (if_pos c2).symm.trans h
      refine lv_iconst (v := 0) hx hb dX0_has_24 (by decide) ?_
      have h := Option.some.inj h
      exact W.zret (v := 0) hx hb hr rfl (fun t ht hW => ⟨_, rfl, h, ht⟩) t_nil dX0_has_25
    · replace h := (if_neg c2).symm.trans h
      refine lv_aload_n hx hb dX0_has_10 rfl (lv_at hl 0 rfl) ?_
      refine va_get (D := D) (ci := 0) (v := .ref (q + 6)) (C := RX0) (T := TX0) (N := 13) hx hb hts hinX0 hown hK hP 0 rfl rfl 5 (by decide) hf27 (fun _ h9 => h9) rfl dX0_has_11 ?_
      refine lv_iload_n hx hb dX0_has_14 rfl (lv_at hl 1 rfl) ?_
      obtain ⟨hg3, h⟩ := gd_some h
      refine g_iald (f := (lPl L)) (k := p0.toNatClampNeg) hx hb hK hP 6 0 rfl rfl hg3 rfl dX0_has_15 ?_
      refine lv_iconst (v := (-1)) hx hb dX0_has_16 (by decide) ?_
      refine lv_icmp_eq (tgt := 24) hx hb dX0_has_17 (by decide) (fun c4 => ?_) (fun c4 => ?_)
      · replace h := (if_pos c4).symm.trans h
        refine lv_iconst (v := 0) hx hb dX0_has_24 (by decide) ?_
        have h := Option.some.inj h
        exact W.zret (v := 0) hx hb hr rfl (fun t ht hW => ⟨_, rfl, h, ht⟩) t_nil dX0_has_25
      · replace h := (if_neg c4).symm.trans h
        refine lv_iconst (v := 1) hx hb dX0_has_20 (by decide) ?_
        refine lv_goto (tgt := 25) hx hb dX0_has_21 (by decide) ?_
        have h := Option.some.inj h
        exact W.zret (v := 1) hx hb hr rfl (fun t ht hW => ⟨_, rfl, h, ht⟩) t_nil dX0_has_25
set_option maxHeartbeats 4000000 in
set_option maxRecDepth 100000 in
theorem kX0_hasSlot (l : Launch) (D : va_G) (cI cC cZ cQ cJ : ClassId) (q : Nat) (L : LSt) (p0 : Int32) {R : Int32} (h : fX0_hasSlot L p0 = some R) : Met l yX0_hasSlot wsX0_hasSlot ({ frames := 0, cells := 0, slots := 0, locals := 0 } : Room) (va_Pc [.ref q, .int p0] (gB D (gTy cI cC cZ cQ cJ) (va_P D vwCl (LW cI q L)))) (vp_Si (fun r => r = R)) 0 0 (fun _ => False) := by
  refine Met.ofW (cc := cX0_hasSlot) (maxL := 2) (ret := (some .boolean)) (by decide) rfl ?_
  intro p e s m args below meth c s₁ B hml hv
  obtain ⟨rfl, hP, hK⟩ := hv
  have hx := B.exec
  have hb := B.bytes
  have hr := B.returns
  have hts := atoms_spec (ws := wsX0_hasSlot) B.pre
  have hown : s.vm.findClass RX0 = some m.cls := findClass_of_methodNamed B.named
  have hlocks := B.notSynchronized
  have hinX0 : ∀ w ∈ wsX00, w ∈ wsX0_hasSlot := by decide +kernel
  have hf42 := hts (.fieldLink RX0 42 "GripInspector$Lift" "n" "I") (by decide +kernel)
  generalize hRM : (headSpec wsX0_hasSlot ({ frames := 0, cells := 0, slots := 0, locals := 0 } : Room)).room = RM
  replace hRM : ({ frames := 0, cells := 0, slots := 0, locals := 0 } : Room) = RM := hRM
  subst hRM
  have hl := lv_entry ([.ref q, .int p0]) (n := 2) (Nat.le_of_ble_eq_true rfl)
  rw [lg_entry_eq]
  generalize (lg_sl ([.ref q, .int p0]) ++ List.replicate (2 - (lg_sl ([.ref q, .int p0])).length) Slot.unset).toArray = ls at hl ⊢
  have hl : lv_has ls 2 [(0, .ref q), (1, .int p0)] := hl
  unfold fX0_hasSlot at h
  refine lv_iload_n hx hb dX0_hasSlot_0 rfl (lv_at hl 1 rfl) ?_
  refine lv_if_lt (tgt := 16) hx hb dX0_hasSlot_1 (by decide) (fun c1 => ?_) (fun c1 => ?_)
  · replace h := (if_pos c1).symm.trans h
    refine lv_iconst (v := 0) hx hb dX0_hasSlot_16 (by decide) ?_
    have h := Option.some.inj h
    exact W.zret (v := 0) hx hb hr rfl (fun t ht hW => ⟨_, rfl, h, ht⟩) t_nil dX0_hasSlot_17
  · replace h := (if_neg c1).symm.trans h
    refine lv_iload_n hx hb dX0_hasSlot_4 rfl (lv_at hl 1 rfl) ?_
    refine lv_aload_n hx hb dX0_hasSlot_5 rfl (lv_at hl 0 rfl) ?_
    refine va_get (D := D) (ci := 0) (v := .int (lN_ L)) (C := RX0) (T := TX0) (N := 13) hx hb hts hinX0 hown hK hP 0 rfl rfl 9 (by decide) hf42 (fun _ h9 => h9) rfl dX0_hasSlot_6 ?_
    refine lv_icmp_ge (tgt := 16) hx hb dX0_hasSlot_9 (by decide) (fun c2 => ?_) (fun c2 => ?_)
    · replace h := (if_pos c2).symm.trans h
      refine lv_iconst (v := 0) hx hb dX0_hasSlot_16 (by decide) ?_
      have h := Option.some.inj h
      exact W.zret (v := 0) hx hb hr rfl (fun t ht hW => ⟨_, rfl, h, ht⟩) t_nil dX0_hasSlot_17
    · replace h := (if_neg c2).symm.trans h
      refine lv_iconst (v := 1) hx hb dX0_hasSlot_12 (by decide) ?_
      refine lv_goto (tgt := 17) hx hb dX0_hasSlot_13 (by decide) ?_
      have h := Option.some.inj h
      exact W.zret (v := 1) hx hb hr rfl (fun t ht hW => ⟨_, rfl, h, ht⟩) t_nil dX0_hasSlot_17
set_option maxHeartbeats 4000000 in
set_option maxRecDepth 100000 in
theorem kX0_isIn (l : Launch) (D : va_G) (cI cC cZ cQ cJ : ClassId) (q : Nat) (L : LSt) (p0 : Int32) (p1 : Int32) {R : Int32} (h : fX0_isIn L p0 p1 = some R) : Met l yX0_isIn wsX0_isIn ({ frames := 0, cells := 0, slots := 0, locals := 0 } : Room) (va_Pc [.ref q, .int p0, .int p1] (gB D (gTy cI cC cZ cQ cJ) (va_P D vwCl (LW cI q L)))) (vp_Si (fun r => r = R)) 0 0 (fun _ => False) := by
  refine Met.ofW (cc := cX0_isIn) (maxL := 3) (ret := (some .boolean)) (by decide) rfl ?_
  intro p e s m args below meth c s₁ B hml hv
  obtain ⟨rfl, hP, hK⟩ := hv
  have hx := B.exec
  have hb := B.bytes
  have hr := B.returns
  have hts := atoms_spec (ws := wsX0_isIn) B.pre
  have hown : s.vm.findClass RX0 = some m.cls := findClass_of_methodNamed B.named
  have hlocks := B.notSynchronized
  have hinX0 : ∀ w ∈ wsX00, w ∈ wsX0_isIn := by decide +kernel
  have hf27 := hts (.fieldLink RX0 27 "GripInspector$Lift" "place" "[I") (by decide +kernel)
  generalize hRM : (headSpec wsX0_isIn ({ frames := 0, cells := 0, slots := 0, locals := 0 } : Room)).room = RM
  replace hRM : ({ frames := 0, cells := 0, slots := 0, locals := 0 } : Room) = RM := hRM
  subst hRM
  have hl := lv_entry ([.ref q, .int p0, .int p1]) (n := 3) (Nat.le_of_ble_eq_true rfl)
  rw [lg_entry_eq]
  generalize (lg_sl ([.ref q, .int p0, .int p1]) ++ List.replicate (3 - (lg_sl ([.ref q, .int p0, .int p1])).length) Slot.unset).toArray = ls at hl ⊢
  have hl : lv_has ls 3 [(0, .ref q), (1, .int p0), (2, .int p1)] := hl
  unfold fX0_isIn at h
  refine lv_aload_n hx hb dX0_isIn_0 rfl (lv_at hl 0 rfl) ?_
  refine va_get (D := D) (ci := 0) (v := .ref (q + 6)) (C := RX0) (T := TX0) (N := 13) hx hb hts hinX0 hown hK hP 0 rfl rfl 5 (by decide) hf27 (fun _ h9 => h9) rfl dX0_isIn_1 ?_
  refine lv_iload_n hx hb dX0_isIn_4 rfl (lv_at hl 1 rfl) ?_
  obtain ⟨hg1, h⟩ := gd_some h
  refine g_iald (f := (lPl L)) (k := p0.toNatClampNeg) hx hb hK hP 6 0 rfl rfl hg1 rfl dX0_isIn_5 ?_
  refine lv_iload_n hx hb dX0_isIn_6 rfl (lv_at hl 2 rfl) ?_
  refine lv_icmp_ne (tgt := 14) hx hb dX0_isIn_7 (by decide) (fun c2 => ?_) (fun c2 => ?_)
  · replace h := (if_neg c2).symm.trans h
    refine lv_iconst (v := 0) hx hb dX0_isIn_14 (by decide) ?_
    have h := Option.some.inj h
    exact W.zret (v := 0) hx hb hr rfl (fun t ht hW => ⟨_, rfl, h, ht⟩) t_nil dX0_isIn_15
  · replace h := (if_pos c2).symm.trans h
    refine lv_iconst (v := 1) hx hb dX0_isIn_10 (by decide) ?_
    refine lv_goto (tgt := 15) hx hb dX0_isIn_11 (by decide) ?_
    have h := Option.some.inj h
    exact W.zret (v := 1) hx hb hr rfl (fun t ht hW => ⟨_, rfl, h, ht⟩) t_nil dX0_isIn_15
set_option maxHeartbeats 4000000 in
set_option maxRecDepth 100000 in
theorem kX0_count (l : Launch) (D : va_G) (cI cC cZ cQ cJ : ClassId) (q : Nat) (L : LSt) (p0 : Int32) {R : Int32} (h : fX0_count L p0 = some R) : Met l yX0_count wsX0_count ({ frames := 0, cells := 0, slots := 0, locals := 0 } : Room) (va_Pc [.ref q, .int p0] (gB D (gTy cI cC cZ cQ cJ) (va_P D vwCl (LW cI q L)))) (vp_Si (fun r => r = R)) 0 0 (fun _ => False) := by
  refine Met.ofW (cc := cX0_count) (maxL := 4) (ret := (some .int)) (by decide) rfl ?_
  intro p e s m args below meth c s₁ B hml hv
  obtain ⟨rfl, hP, hK⟩ := hv
  have hx := B.exec
  have hb := B.bytes
  have hr := B.returns
  have hts := atoms_spec (ws := wsX0_count) B.pre
  have hown : s.vm.findClass RX0 = some m.cls := findClass_of_methodNamed B.named
  have hlocks := B.notSynchronized
  have hinX0 : ∀ w ∈ wsX00, w ∈ wsX0_count := by decide +kernel
  have hf27 := hts (.fieldLink RX0 27 "GripInspector$Lift" "place" "[I") (by decide +kernel)
  generalize hRM : (headSpec wsX0_count ({ frames := 0, cells := 0, slots := 0, locals := 0 } : Room)).room = RM
  replace hRM : ({ frames := 0, cells := 0, slots := 0, locals := 0 } : Room) = RM := hRM
  subst hRM
  have hl := lv_entry ([.ref q, .int p0]) (n := 4) (Nat.le_of_ble_eq_true rfl)
  rw [lg_entry_eq]
  generalize (lg_sl ([.ref q, .int p0]) ++ List.replicate (4 - (lg_sl ([.ref q, .int p0])).length) Slot.unset).toArray = ls at hl ⊢
  have hl : lv_has ls 4 [(0, .ref q), (1, .int p0)] := hl
  have LP4 : ∀ (n : Nat) (x1 : Int32) (x2 : Int32) (x3 : Int32) (ls : Array Slot), fX0_count_L4 L n x1 x2 x3 = some R → lv_has ls 4 [(0, .ref q), (1, .int x1), (2, .int x2), (3, .int x3)] → W p l e ({ frames := 0, cells := 0, slots := 0, locals := 0 } : Room) s m ([.ref q, .int p0] : List Value).toArray below meth c s.heap [] 0 0 (MQ below (vp_Si (fun r => r = R)) ([.ref q, .int p0] : List Value).toArray s 0 0 (fun _ => False)) (F0 m 4 ls []) := by
    intro n
    induction n with
    | zero => intro x1 x2 x3 ls h hl; exact no_some h
    | succ n ih =>
      intro x1 x2 x3 ls h hl
      rw [fX0_count_L4] at h
      refine lv_iload_n hx hb dX0_count_4 rfl (lv_at hl 3 rfl) ?_
      refine lv_bipush (v := 12) hx hb dX0_count_5 (by decide) ?_
      refine lv_icmp_ge (tgt := 29) hx hb dX0_count_7 (by decide) (fun c1 => ?_) (fun c1 => ?_)
      · replace h := (if_pos c1).symm.trans h
        refine lv_iload_n hx hb dX0_count_29 rfl (lv_at hl 2 rfl) ?_
        have h := Option.some.inj h
        exact W.iret (v := x2) hx hb hr (fun t ht hW => ⟨_, rfl, h, ht⟩) t_nil dX0_count_30
      · replace h := (if_neg c1).symm.trans h
        refine lv_aload_n hx hb dX0_count_10 rfl (lv_at hl 0 rfl) ?_
        refine va_get (D := D) (ci := 0) (v := .ref (q + 6)) (C := RX0) (T := TX0) (N := 13) hx hb hts hinX0 hown hK hP 0 rfl rfl 5 (by decide) hf27 (fun _ h9 => h9) rfl dX0_count_11 ?_
        refine lv_iload_n hx hb dX0_count_14 rfl (lv_at hl 3 rfl) ?_
        obtain ⟨hg2, h⟩ := gd_some h
        refine g_iald (f := (lPl L)) (k := x3.toNatClampNeg) hx hb hK hP 6 0 rfl rfl hg2 rfl dX0_count_15 ?_
        refine lv_iload_n hx hb dX0_count_16 rfl (lv_at hl 1 rfl) ?_
        refine lv_icmp_ne (tgt := 23) hx hb dX0_count_17 (by decide) (fun c3 => ?_) (fun c3 => ?_)
        · replace h := (if_neg c3).symm.trans h
          refine lv_iinc (v := (x3 + 1)) (lv' := [(3, .int (x3 + 1)), (0, .ref q), (1, .int x1), (2, .int x2)]) hx hb dX0_count_23 hl (k := 3) rfl rfl (by decide) rfl (fun ls hl => ?_)
          refine lv_goto (tgt := 4) hx hb dX0_count_26 (by decide) ?_
          exact ih x1 x2 (x3 + 1) ls h (lv_sub hl [1, 2, 3, 0] rfl)
        · replace h := (if_pos c3).symm.trans h
          refine lv_iinc (v := (x2 + 1)) (lv' := [(2, .int (x2 + 1)), (0, .ref q), (1, .int x1), (3, .int x3)]) hx hb dX0_count_20 hl (k := 2) rfl rfl (by decide) rfl (fun ls hl => ?_)
          refine lv_iinc (v := (x3 + 1)) (lv' := [(3, .int (x3 + 1)), (2, .int (x2 + 1)), (0, .ref q), (1, .int x1)]) hx hb dX0_count_23 hl (k := 3) rfl rfl (by decide) rfl (fun ls hl => ?_)
          refine lv_goto (tgt := 4) hx hb dX0_count_26 (by decide) ?_
          exact ih x1 (x2 + 1) (x3 + 1) ls h (lv_sub hl [2, 3, 1, 0] rfl)
  unfold fX0_count at h
  refine lv_iconst (v := 0) hx hb dX0_count_0 (by decide) ?_
  refine lv_istore_n (lv' := [(2, .int 0), (0, .ref q), (1, .int p0)]) hx hb dX0_count_1 rfl hl (by decide) rfl (fun ls hl => ?_)
  refine lv_iconst (v := 0) hx hb dX0_count_2 (by decide) ?_
  refine lv_istore_n (lv' := [(3, .int 0), (2, .int 0), (0, .ref q), (1, .int p0)]) hx hb dX0_count_3 rfl hl (by decide) rfl (fun ls hl => ?_)
  exact LP4 KF p0 0 0 ls h (lv_sub hl [2, 3, 1, 0] rfl)
set_option maxHeartbeats 4000000 in
set_option maxRecDepth 100000 in
theorem kX0_grips (l : Launch) (D : va_G) (cI cC cZ cQ cJ : ClassId) (q : Nat) (L : LSt) {R : Int32} (h : fX0_grips L = some R) : Met l yX0_grips wsX0_grips ({ frames := 1, cells := 0, slots := 0, locals := 23 } : Room) (va_Pc [.ref q] (gB D (gTy cI cC cZ cQ cJ) (va_P D vwCl (LW cI q L)))) (vp_Si (fun r => r = R)) 0 0 (fun _ => False) := by
  refine Met.ofW (cc := cX0_grips) (maxL := 1) (ret := (some .int)) (by decide) rfl ?_
  intro p e s m args below meth c s₁ B hml hv
  obtain ⟨rfl, hP, hK⟩ := hv
  have hx := B.exec
  have hb := B.bytes
  have hr := B.returns
  have hts := atoms_spec (ws := wsX0_grips) B.pre
  have hown : s.vm.findClass RX0 = some m.cls := findClass_of_methodNamed B.named
  have hlocks := B.notSynchronized
  generalize hRM : (headSpec wsX0_grips ({ frames := 1, cells := 0, slots := 0, locals := 23 } : Room)).room = RM
  replace hRM : ({ frames := 1, cells := 0, slots := 0, locals := 23 } : Room) = RM := hRM
  subst hRM
  have hl := lv_entry ([.ref q]) (n := 1) (Nat.le_of_ble_eq_true rfl)
  rw [lg_entry_eq]
  generalize (lg_sl ([.ref q]) ++ List.replicate (1 - (lg_sl ([.ref q])).length) Slot.unset).toArray = ls at hl ⊢
  have hl : lv_has ls 1 [(0, .ref q)] := hl
  unfold fX0_grips at h
  refine lv_bipush (v := 12) hx hb dX0_grips_0 (by decide) ?_
  refine lv_aload_n hx hb dX0_grips_2 rfl (lv_at hl 0 rfl) ?_
  refine lv_iconst (v := (-1)) hx hb dX0_grips_3 (by decide) ?_
  obtain ⟨r4, hr4, h⟩ := bd_some h
  refine gc_ri (As := [.int (-1)]) (rest := [.int 12]) ⟨hx, hb, hml, hown, hts⟩ hK (kX0_count l D cI cC cZ cQ cJ q L (-1) hr4) (cwV 1 hts gX0_grips_X0_count rfl rfl rfl (by decide +kernel) ⟨Nat.le_of_ble_eq_true rfl, Nat.le_of_ble_eq_true rfl⟩) (va_recv hK hP (ci := 0) (q0 := 0) rfl rfl) hP rfl hl.1 rfl (Nat.le_of_ble_eq_true rfl) ⟨Nat.zero_le _, Nat.zero_le _⟩ dX0_grips_4 ?_
  refine lv_isub hx hb dX0_grips_7 ?_
  have h := Option.some.inj h
  exact W.iret (v := (12 - r4)) hx hb hr (fun t ht hW => ⟨_, rfl, h, ht⟩) t_nil dX0_grips_8
set_option maxHeartbeats 4000000 in
set_option maxRecDepth 100000 in
theorem kX0_isFull (l : Launch) (D : va_G) (cI cC cZ cQ cJ : ClassId) (q : Nat) (L : LSt) {R : Int32} (h : fX0_isFull L = some R) : Met l yX0_isFull wsX0_isFull ({ frames := 1, cells := 0, slots := 0, locals := 23 } : Room) (va_Pc [.ref q] (gB D (gTy cI cC cZ cQ cJ) (va_P D vwCl (LW cI q L)))) (vp_Si (fun r => r = R)) 0 0 (fun _ => False) := by
  refine Met.ofW (cc := cX0_isFull) (maxL := 1) (ret := (some .boolean)) (by decide) rfl ?_
  intro p e s m args below meth c s₁ B hml hv
  obtain ⟨rfl, hP, hK⟩ := hv
  have hx := B.exec
  have hb := B.bytes
  have hr := B.returns
  have hts := atoms_spec (ws := wsX0_isFull) B.pre
  have hown : s.vm.findClass RX0 = some m.cls := findClass_of_methodNamed B.named
  have hlocks := B.notSynchronized
  generalize hRM : (headSpec wsX0_isFull ({ frames := 1, cells := 0, slots := 0, locals := 23 } : Room)).room = RM
  replace hRM : ({ frames := 1, cells := 0, slots := 0, locals := 23 } : Room) = RM := hRM
  subst hRM
  have hl := lv_entry ([.ref q]) (n := 1) (Nat.le_of_ble_eq_true rfl)
  rw [lg_entry_eq]
  generalize (lg_sl ([.ref q]) ++ List.replicate (1 - (lg_sl ([.ref q])).length) Slot.unset).toArray = ls at hl ⊢
  have hl : lv_has ls 1 [(0, .ref q)] := hl
  unfold fX0_isFull at h
  refine lv_aload_n hx hb dX0_isFull_0 rfl (lv_at hl 0 rfl) ?_
  refine lv_iconst (v := (-1)) hx hb dX0_isFull_1 (by decide) ?_
  obtain ⟨r2, hr2, h⟩ := bd_some h
  refine gc_ri (As := [.int (-1)]) (rest := []) ⟨hx, hb, hml, hown, hts⟩ hK (kX0_count l D cI cC cZ cQ cJ q L (-1) hr2) (cwV 1 hts gX0_isFull_X0_count rfl rfl rfl (by decide +kernel) ⟨Nat.le_of_ble_eq_true rfl, Nat.le_of_ble_eq_true rfl⟩) (va_recv hK hP (ci := 0) (q0 := 0) rfl rfl) hP rfl hl.1 rfl (Nat.le_of_ble_eq_true rfl) ⟨Nat.zero_le _, Nat.zero_le _⟩ dX0_isFull_2 ?_
  refine lv_if_ne (tgt := 12) hx hb dX0_isFull_5 (by decide) (fun c1 => ?_) (fun c1 => ?_)
  · replace h := (if_neg c1).symm.trans h
    refine lv_iconst (v := 0) hx hb dX0_isFull_12 (by decide) ?_
    have h := Option.some.inj h
    exact W.zret (v := 0) hx hb hr rfl (fun t ht hW => ⟨_, rfl, h, ht⟩) t_nil dX0_isFull_13
  · replace h := (if_pos c1).symm.trans h
    refine lv_iconst (v := 1) hx hb dX0_isFull_8 (by decide) ?_
    refine lv_goto (tgt := 13) hx hb dX0_isFull_9 (by decide) ?_
    have h := Option.some.inj h
    exact W.zret (v := 1) hx hb hr rfl (fun t ht hW => ⟨_, rfl, h, ht⟩) t_nil dX0_isFull_13
set_option maxHeartbeats 4000000 in
set_option maxRecDepth 100000 in
theorem kX0_gripAt (l : Launch) (D : va_G) (cI cC cZ cQ cJ : ClassId) (q : Nat) (L : LSt) (p0 : Int32) {R : Int32} (h : fX0_gripAt L p0 = some R) : Met l yX0_gripAt wsX0_gripAt ({ frames := 0, cells := 0, slots := 0, locals := 0 } : Room) (va_Pc [.ref q, .int p0] (gB D (gTy cI cC cZ cQ cJ) (va_P D vwCl (LW cI q L)))) (vp_Si (fun r => r = R)) 0 0 (fun _ => False) := by
  refine Met.ofW (cc := cX0_gripAt) (maxL := 3) (ret := (some .int)) (by decide) rfl ?_
  intro p e s m args below meth c s₁ B hml hv
  obtain ⟨rfl, hP, hK⟩ := hv
  have hx := B.exec
  have hb := B.bytes
  have hr := B.returns
  have hts := atoms_spec (ws := wsX0_gripAt) B.pre
  have hown : s.vm.findClass RX0 = some m.cls := findClass_of_methodNamed B.named
  have hlocks := B.notSynchronized
  have hinX0 : ∀ w ∈ wsX00, w ∈ wsX0_gripAt := by decide +kernel
  have hf27 := hts (.fieldLink RX0 27 "GripInspector$Lift" "place" "[I") (by decide +kernel)
  have hf30 := hts (.fieldLink RX0 30 "GripInspector$Lift" "spot" "[I") (by decide +kernel)
  generalize hRM : (headSpec wsX0_gripAt ({ frames := 0, cells := 0, slots := 0, locals := 0 } : Room)).room = RM
  replace hRM : ({ frames := 0, cells := 0, slots := 0, locals := 0 } : Room) = RM := hRM
  subst hRM
  have hl := lv_entry ([.ref q, .int p0]) (n := 3) (Nat.le_of_ble_eq_true rfl)
  rw [lg_entry_eq]
  generalize (lg_sl ([.ref q, .int p0]) ++ List.replicate (3 - (lg_sl ([.ref q, .int p0])).length) Slot.unset).toArray = ls at hl ⊢
  have hl : lv_has ls 3 [(0, .ref q), (1, .int p0)] := hl
  have LP2 : ∀ (n : Nat) (x1 : Int32) (x2 : Int32) (ls : Array Slot), fX0_gripAt_L2 L n x1 x2 = some R → lv_has ls 3 [(0, .ref q), (1, .int x1), (2, .int x2)] → W p l e ({ frames := 0, cells := 0, slots := 0, locals := 0 } : Room) s m ([.ref q, .int p0] : List Value).toArray below meth c s.heap [] 0 0 (MQ below (vp_Si (fun r => r = R)) ([.ref q, .int p0] : List Value).toArray s 0 0 (fun _ => False)) (F0 m 2 ls []) := by
    intro n
    induction n with
    | zero => intro x1 x2 ls h hl; exact no_some h
    | succ n ih =>
      intro x1 x2 ls h hl
      rw [fX0_gripAt_L2] at h
      refine lv_iload_n hx hb dX0_gripAt_2 rfl (lv_at hl 2 rfl) ?_
      refine lv_bipush (v := 12) hx hb dX0_gripAt_3 (by decide) ?_
      refine lv_icmp_ge (tgt := 35) hx hb dX0_gripAt_5 (by decide) (fun c1 => ?_) (fun c1 => ?_)
      · replace h := (if_pos c1).symm.trans h
        refine lv_bipush (v := (-9)) hx hb dX0_gripAt_35 (by decide) ?_
        have h := Option.some.inj h
        exact W.iret (v := (-9)) hx hb hr (fun t ht hW => ⟨_, rfl, h, ht⟩) t_nil dX0_gripAt_37
      · replace h := (if_neg c1).symm.trans h
        refine lv_aload_n hx hb dX0_gripAt_8 rfl (lv_at hl 0 rfl) ?_
        refine va_get (D := D) (ci := 0) (v := .ref (q + 6)) (C := RX0) (T := TX0) (N := 13) hx hb hts hinX0 hown hK hP 0 rfl rfl 5 (by decide) hf27 (fun _ h9 => h9) rfl dX0_gripAt_9 ?_
        refine lv_iload_n hx hb dX0_gripAt_12 rfl (lv_at hl 2 rfl) ?_
        obtain ⟨hg2, h⟩ := gd_some h
        refine g_iald (f := (lPl L)) (k := x2.toNatClampNeg) hx hb hK hP 6 0 rfl rfl hg2 rfl dX0_gripAt_13 ?_
        refine lv_if_ne (tgt := 29) hx hb dX0_gripAt_14 (by decide) (fun c3 => ?_) (fun c3 => ?_)
        · replace h := (if_neg c3).symm.trans h
          refine lv_iinc (v := (x2 + 1)) (lv' := [(2, .int (x2 + 1)), (0, .ref q), (1, .int x1)]) hx hb dX0_gripAt_29 hl (k := 2) rfl rfl (by decide) rfl (fun ls hl => ?_)
          refine lv_goto (tgt := 2) hx hb dX0_gripAt_32 (by decide) ?_
          exact ih x1 (x2 + 1) ls h (lv_sub hl [1, 2, 0] rfl)
        · replace h := (if_pos c3).symm.trans h
          refine lv_aload_n hx hb dX0_gripAt_17 rfl (lv_at hl 0 rfl) ?_
          refine va_get (D := D) (ci := 0) (v := .ref (q + 7)) (C := RX0) (T := TX0) (N := 13) hx hb hts hinX0 hown hK hP 0 rfl rfl 6 (by decide) hf30 (fun _ h9 => h9) rfl dX0_gripAt_18 ?_
          refine lv_iload_n hx hb dX0_gripAt_21 rfl (lv_at hl 2 rfl) ?_
          refine g_iald (f := (lSp L)) (k := x2.toNatClampNeg) hx hb hK hP 7 0 rfl rfl hg2 rfl dX0_gripAt_22 ?_
          refine lv_iload_n hx hb dX0_gripAt_23 rfl (lv_at hl 1 rfl) ?_
          refine lv_icmp_ne (tgt := 29) hx hb dX0_gripAt_24 (by decide) (fun c4 => ?_) (fun c4 => ?_)
          · replace h := (if_neg c4).symm.trans h
            refine lv_iinc (v := (x2 + 1)) (lv' := [(2, .int (x2 + 1)), (0, .ref q), (1, .int x1)]) hx hb dX0_gripAt_29 hl (k := 2) rfl rfl (by decide) rfl (fun ls hl => ?_)
            refine lv_goto (tgt := 2) hx hb dX0_gripAt_32 (by decide) ?_
            exact ih x1 (x2 + 1) ls h (lv_sub hl [1, 2, 0] rfl)
          · replace h := (if_pos c4).symm.trans h
            refine lv_iload_n hx hb dX0_gripAt_27 rfl (lv_at hl 2 rfl) ?_
            have h := Option.some.inj h
            exact W.iret (v := x2) hx hb hr (fun t ht hW => ⟨_, rfl, h, ht⟩) t_nil dX0_gripAt_28
  unfold fX0_gripAt at h
  refine lv_iconst (v := 0) hx hb dX0_gripAt_0 (by decide) ?_
  refine lv_istore_n (lv' := [(2, .int 0), (0, .ref q), (1, .int p0)]) hx hb dX0_gripAt_1 rfl hl (by decide) rfl (fun ls hl => ?_)
  exact LP2 KF p0 0 ls h (lv_sub hl [1, 2, 0] rfl)
set_option maxHeartbeats 4000000 in
set_option maxRecDepth 100000 in
theorem kX0_number (l : Launch) (D : va_G) (cI cC cZ cQ cJ : ClassId) (q : Nat) (L : LSt) (p0 : Int32) (p1 : Int32) {R : Int32} (h : fX0_number L p0 p1 = some R) : Met l yX0_number wsX0_number ({ frames := 0, cells := 0, slots := 0, locals := 0 } : Room) (va_Pc [.ref q, .int p0, .int p1] (gB D (gTy cI cC cZ cQ cJ) (va_P D vwCl (LW cI q L)))) (vp_Si (fun r => r = R)) 0 0 (fun _ => False) := by
  refine Met.ofW (cc := cX0_number) (maxL := 3) (ret := (some .int)) (by decide) rfl ?_
  intro p e s m args below meth c s₁ B hml hv
  obtain ⟨rfl, hP, hK⟩ := hv
  have hx := B.exec
  have hb := B.bytes
  have hr := B.returns
  have hts := atoms_spec (ws := wsX0_number) B.pre
  have hown : s.vm.findClass RX0 = some m.cls := findClass_of_methodNamed B.named
  have hlocks := B.notSynchronized
  have hinX0 : ∀ w ∈ wsX00, w ∈ wsX0_number := by decide +kernel
  have hf9 := hts (.fieldLink RX0 9 "GripInspector$Lift" "weight" "[I") (by decide +kernel)
  have hf15 := hts (.fieldLink RX0 15 "GripInspector$Lift" "cycles" "[I") (by decide +kernel)
  have hf18 := hts (.fieldLink RX0 18 "GripInspector$Lift" "wear" "[I") (by decide +kernel)
  have hf21 := hts (.fieldLink RX0 21 "GripInspector$Lift" "pulls" "[I") (by decide +kernel)
  have hf24 := hts (.fieldLink RX0 24 "GripInspector$Lift" "lastSlip" "[I") (by decide +kernel)
  have hf27 := hts (.fieldLink RX0 27 "GripInspector$Lift" "place" "[I") (by decide +kernel)
  have hf30 := hts (.fieldLink RX0 30 "GripInspector$Lift" "spot" "[I") (by decide +kernel)
  have hf33 := hts (.fieldLink RX0 33 "GripInspector$Lift" "stepsLeft" "[I") (by decide +kernel)
  generalize hRM : (headSpec wsX0_number ({ frames := 0, cells := 0, slots := 0, locals := 0 } : Room)).room = RM
  replace hRM : ({ frames := 0, cells := 0, slots := 0, locals := 0 } : Room) = RM := hRM
  subst hRM
  have hl := lv_entry ([.ref q, .int p0, .int p1]) (n := 3) (Nat.le_of_ble_eq_true rfl)
  rw [lg_entry_eq]
  generalize (lg_sl ([.ref q, .int p0, .int p1]) ++ List.replicate (3 - (lg_sl ([.ref q, .int p0, .int p1])).length) Slot.unset).toArray = ls at hl ⊢
  have hl : lv_has ls 3 [(0, .ref q), (1, .int p0), (2, .int p1)] := hl
  unfold fX0_number at h
  refine lv_iload_n hx hb dX0_number_0 rfl (lv_at hl 2 rfl) ?_
  by_cases c1 : p1 = 0
  · replace h := (if_pos c1).symm.trans h
    refine lv_tableIn (off := 43) (tgt := 44) hx hb dX0_number_1 (by rw [c1]; decide) (by rw [c1]; decide) (by rw [c1]; rfl) (by decide) ?_
    refine lv_aload_n hx hb dX0_number_44 rfl (lv_at hl 0 rfl) ?_
    refine va_get (D := D) (ci := 0) (v := .ref (q + 1)) (C := RX0) (T := TX0) (N := 13) hx hb hts hinX0 hown hK hP 0 rfl rfl 0 (by decide) hf9 (fun _ h9 => h9) rfl dX0_number_45 ?_
    refine lv_iload_n hx hb dX0_number_48 rfl (lv_at hl 1 rfl) ?_
    obtain ⟨hg2, h⟩ := gd_some h
    refine g_iald (f := (lWe L)) (k := p0.toNatClampNeg) hx hb hK hP 1 0 rfl rfl hg2 rfl dX0_number_49 ?_
    have h := Option.some.inj h
    exact W.iret (v := ((lWe L) p0.toNatClampNeg)) hx hb hr (fun t ht hW => ⟨_, rfl, h, ht⟩) t_nil dX0_number_50
  · replace h := (if_neg c1).symm.trans h
    by_cases c3 : p1 = 1
    · replace h := (if_pos c3).symm.trans h
      refine lv_tableIn (off := 50) (tgt := 51) hx hb dX0_number_1 (by rw [c3]; decide) (by rw [c3]; decide) (by rw [c3]; rfl) (by decide) ?_
      refine lv_aload_n hx hb dX0_number_51 rfl (lv_at hl 0 rfl) ?_
      refine va_get (D := D) (ci := 0) (v := .ref (q + 2)) (C := RX0) (T := TX0) (N := 13) hx hb hts hinX0 hown hK hP 0 rfl rfl 1 (by decide) hf15 (fun _ h9 => h9) rfl dX0_number_52 ?_
      refine lv_iload_n hx hb dX0_number_55 rfl (lv_at hl 1 rfl) ?_
      obtain ⟨hg4, h⟩ := gd_some h
      refine g_iald (f := (lCy L)) (k := p0.toNatClampNeg) hx hb hK hP 2 0 rfl rfl hg4 rfl dX0_number_56 ?_
      have h := Option.some.inj h
      exact W.iret (v := ((lCy L) p0.toNatClampNeg)) hx hb hr (fun t ht hW => ⟨_, rfl, h, ht⟩) t_nil dX0_number_57
    · replace h := (if_neg c3).symm.trans h
      by_cases c5 : p1 = 2
      · replace h := (if_pos c5).symm.trans h
        refine lv_tableIn (off := 57) (tgt := 58) hx hb dX0_number_1 (by rw [c5]; decide) (by rw [c5]; decide) (by rw [c5]; rfl) (by decide) ?_
        refine lv_aload_n hx hb dX0_number_58 rfl (lv_at hl 0 rfl) ?_
        refine va_get (D := D) (ci := 0) (v := .ref (q + 3)) (C := RX0) (T := TX0) (N := 13) hx hb hts hinX0 hown hK hP 0 rfl rfl 2 (by decide) hf18 (fun _ h9 => h9) rfl dX0_number_59 ?_
        refine lv_iload_n hx hb dX0_number_62 rfl (lv_at hl 1 rfl) ?_
        obtain ⟨hg6, h⟩ := gd_some h
        refine g_iald (f := (lWr L)) (k := p0.toNatClampNeg) hx hb hK hP 3 0 rfl rfl hg6 rfl dX0_number_63 ?_
        have h := Option.some.inj h
        exact W.iret (v := ((lWr L) p0.toNatClampNeg)) hx hb hr (fun t ht hW => ⟨_, rfl, h, ht⟩) t_nil dX0_number_64
      · replace h := (if_neg c5).symm.trans h
        by_cases c7 : p1 = 3
        · replace h := (if_pos c7).symm.trans h
          refine lv_tableIn (off := 64) (tgt := 65) hx hb dX0_number_1 (by rw [c7]; decide) (by rw [c7]; decide) (by rw [c7]; rfl) (by decide) ?_
          refine lv_aload_n hx hb dX0_number_65 rfl (lv_at hl 0 rfl) ?_
          refine va_get (D := D) (ci := 0) (v := .ref (q + 4)) (C := RX0) (T := TX0) (N := 13) hx hb hts hinX0 hown hK hP 0 rfl rfl 3 (by decide) hf21 (fun _ h9 => h9) rfl dX0_number_66 ?_
          refine lv_iload_n hx hb dX0_number_69 rfl (lv_at hl 1 rfl) ?_
          obtain ⟨hg8, h⟩ := gd_some h
          refine g_iald (f := (lPu L)) (k := p0.toNatClampNeg) hx hb hK hP 4 0 rfl rfl hg8 rfl dX0_number_70 ?_
          have h := Option.some.inj h
          exact W.iret (v := ((lPu L) p0.toNatClampNeg)) hx hb hr (fun t ht hW => ⟨_, rfl, h, ht⟩) t_nil dX0_number_71
        · replace h := (if_neg c7).symm.trans h
          by_cases c9 : p1 = 4
          · replace h := (if_pos c9).symm.trans h
            refine lv_tableIn (off := 71) (tgt := 72) hx hb dX0_number_1 (by rw [c9]; decide) (by rw [c9]; decide) (by rw [c9]; rfl) (by decide) ?_
            refine lv_aload_n hx hb dX0_number_72 rfl (lv_at hl 0 rfl) ?_
            refine va_get (D := D) (ci := 0) (v := .ref (q + 5)) (C := RX0) (T := TX0) (N := 13) hx hb hts hinX0 hown hK hP 0 rfl rfl 4 (by decide) hf24 (fun _ h9 => h9) rfl dX0_number_73 ?_
            refine lv_iload_n hx hb dX0_number_76 rfl (lv_at hl 1 rfl) ?_
            obtain ⟨hg10, h⟩ := gd_some h
            refine g_iald (f := (lSl L)) (k := p0.toNatClampNeg) hx hb hK hP 5 0 rfl rfl hg10 rfl dX0_number_77 ?_
            have h := Option.some.inj h
            exact W.iret (v := ((lSl L) p0.toNatClampNeg)) hx hb hr (fun t ht hW => ⟨_, rfl, h, ht⟩) t_nil dX0_number_78
          · replace h := (if_neg c9).symm.trans h
            by_cases c11 : p1 = 5
            · replace h := (if_pos c11).symm.trans h
              refine lv_tableIn (off := 78) (tgt := 79) hx hb dX0_number_1 (by rw [c11]; decide) (by rw [c11]; decide) (by rw [c11]; rfl) (by decide) ?_
              refine lv_aload_n hx hb dX0_number_79 rfl (lv_at hl 0 rfl) ?_
              refine va_get (D := D) (ci := 0) (v := .ref (q + 6)) (C := RX0) (T := TX0) (N := 13) hx hb hts hinX0 hown hK hP 0 rfl rfl 5 (by decide) hf27 (fun _ h9 => h9) rfl dX0_number_80 ?_
              refine lv_iload_n hx hb dX0_number_83 rfl (lv_at hl 1 rfl) ?_
              obtain ⟨hg12, h⟩ := gd_some h
              refine g_iald (f := (lPl L)) (k := p0.toNatClampNeg) hx hb hK hP 6 0 rfl rfl hg12 rfl dX0_number_84 ?_
              have h := Option.some.inj h
              exact W.iret (v := ((lPl L) p0.toNatClampNeg)) hx hb hr (fun t ht hW => ⟨_, rfl, h, ht⟩) t_nil dX0_number_85
            · replace h := (if_neg c11).symm.trans h
              by_cases c13 : p1 = 6
              · replace h := (if_pos c13).symm.trans h
                refine lv_tableIn (off := 85) (tgt := 86) hx hb dX0_number_1 (by rw [c13]; decide) (by rw [c13]; decide) (by rw [c13]; rfl) (by decide) ?_
                refine lv_aload_n hx hb dX0_number_86 rfl (lv_at hl 0 rfl) ?_
                refine va_get (D := D) (ci := 0) (v := .ref (q + 6)) (C := RX0) (T := TX0) (N := 13) hx hb hts hinX0 hown hK hP 0 rfl rfl 5 (by decide) hf27 (fun _ h9 => h9) rfl dX0_number_87 ?_
                refine lv_iload_n hx hb dX0_number_90 rfl (lv_at hl 1 rfl) ?_
                obtain ⟨hg14, h⟩ := gd_some h
                refine g_iald (f := (lPl L)) (k := p0.toNatClampNeg) hx hb hK hP 6 0 rfl rfl hg14 rfl dX0_number_91 ?_
                refine lv_if_ne (tgt := 104) hx hb dX0_number_92 (by decide) (fun c15 => ?_) (fun c15 => ?_)
                · replace h := (if_neg c15).symm.trans h
                  refine lv_bipush (v := (-9)) hx hb dX0_number_104 (by decide) ?_
                  have h := Option.some.inj h
                  exact W.iret (v := (-9)) hx hb hr (fun t ht hW => ⟨_, rfl, h, ht⟩) t_nil dX0_number_106
                · replace h := (if_pos c15).symm.trans h
                  refine lv_aload_n hx hb dX0_number_95 rfl (lv_at hl 0 rfl) ?_
                  refine va_get (D := D) (ci := 0) (v := .ref (q + 7)) (C := RX0) (T := TX0) (N := 13) hx hb hts hinX0 hown hK hP 0 rfl rfl 6 (by decide) hf30 (fun _ h9 => h9) rfl dX0_number_96 ?_
                  refine lv_iload_n hx hb dX0_number_99 rfl (lv_at hl 1 rfl) ?_
                  refine g_iald (f := (lSp L)) (k := p0.toNatClampNeg) hx hb hK hP 7 0 rfl rfl hg14 rfl dX0_number_100 ?_
                  refine lv_goto (tgt := 106) hx hb dX0_number_101 (by decide) ?_
                  have h := Option.some.inj h
                  exact W.iret (v := ((lSp L) p0.toNatClampNeg)) hx hb hr (fun t ht hW => ⟨_, rfl, h, ht⟩) t_nil dX0_number_106
              · replace h := (if_neg c13).symm.trans h
                refine lv_tableOut (tgt := 107) hx hb dX0_number_1 (gsw_out 0 6 (x := p1) ?_) (by decide) ?_
                · intro k h1 h2 hk
                  rcases (show k = 0 ∨ k = 1 ∨ k = 2 ∨ k = 3 ∨ k = 4 ∨ k = 5 ∨ k = 6 by omega) with rfl | rfl | rfl | rfl | rfl | rfl | rfl
                  · exact lv_neT c1 (by decide) hk
                  · exact lv_neT c3 (by decide) hk
                  · exact lv_neT c5 (by decide) hk
                  · exact lv_neT c7 (by decide) hk
                  · exact lv_neT c9 (by decide) hk
                  · exact lv_neT c11 (by decide) hk
                  · exact lv_neT c13 (by decide) hk
                · refine lv_aload_n hx hb dX0_number_107 rfl (lv_at hl 0 rfl) ?_
                  refine va_get (D := D) (ci := 0) (v := .ref (q + 6)) (C := RX0) (T := TX0) (N := 13) hx hb hts hinX0 hown hK hP 0 rfl rfl 5 (by decide) hf27 (fun _ h9 => h9) rfl dX0_number_108 ?_
                  refine lv_iload_n hx hb dX0_number_111 rfl (lv_at hl 1 rfl) ?_
                  obtain ⟨hg16, h⟩ := gd_some h
                  refine g_iald (f := (lPl L)) (k := p0.toNatClampNeg) hx hb hK hP 6 0 rfl rfl hg16 rfl dX0_number_112 ?_
                  refine lv_iconst (v := 2) hx hb dX0_number_113 (by decide) ?_
                  refine lv_icmp_ne (tgt := 126) hx hb dX0_number_114 (by decide) (fun c17 => ?_) (fun c17 => ?_)
                  · replace h := (if_neg c17).symm.trans h
                    refine lv_bipush (v := (-9)) hx hb dX0_number_126 (by decide) ?_
                    have h := Option.some.inj h
                    exact W.iret (v := (-9)) hx hb hr (fun t ht hW => ⟨_, rfl, h, ht⟩) t_nil dX0_number_128
                  · replace h := (if_pos c17).symm.trans h
                    refine lv_aload_n hx hb dX0_number_117 rfl (lv_at hl 0 rfl) ?_
                    refine va_get (D := D) (ci := 0) (v := .ref (q + 8)) (C := RX0) (T := TX0) (N := 13) hx hb hts hinX0 hown hK hP 0 rfl rfl 7 (by decide) hf33 (fun _ h9 => h9) rfl dX0_number_118 ?_
                    refine lv_iload_n hx hb dX0_number_121 rfl (lv_at hl 1 rfl) ?_
                    refine g_iald (f := (lSt L)) (k := p0.toNatClampNeg) hx hb hK hP 8 0 rfl rfl hg16 rfl dX0_number_122 ?_
                    refine lv_goto (tgt := 128) hx hb dX0_number_123 (by decide) ?_
                    have h := Option.some.inj h
                    exact W.iret (v := ((lSt L) p0.toNatClampNeg)) hx hb hr (fun t ht hW => ⟨_, rfl, h, ht⟩) t_nil dX0_number_128
set_option maxHeartbeats 4000000 in
set_option maxRecDepth 100000 in
theorem kX0_allPulls (l : Launch) (D : va_G) (cI cC cZ cQ cJ : ClassId) (q : Nat) (L : LSt) {R : Int32} (h : fX0_allPulls L = some R) : Met l yX0_allPulls wsX0_allPulls ({ frames := 0, cells := 0, slots := 0, locals := 0 } : Room) (va_Pc [.ref q] (gB D (gTy cI cC cZ cQ cJ) (va_P D vwCl (LW cI q L)))) (vp_Si (fun r => r = R)) 0 0 (fun _ => False) := by
  refine Met.ofW (cc := cX0_allPulls) (maxL := 3) (ret := (some .int)) (by decide) rfl ?_
  intro p e s m args below meth c s₁ B hml hv
  obtain ⟨rfl, hP, hK⟩ := hv
  have hx := B.exec
  have hb := B.bytes
  have hr := B.returns
  have hts := atoms_spec (ws := wsX0_allPulls) B.pre
  have hown : s.vm.findClass RX0 = some m.cls := findClass_of_methodNamed B.named
  have hlocks := B.notSynchronized
  have hinX0 : ∀ w ∈ wsX00, w ∈ wsX0_allPulls := by decide +kernel
  have hf27 := hts (.fieldLink RX0 27 "GripInspector$Lift" "place" "[I") (by decide +kernel)
  have hf21 := hts (.fieldLink RX0 21 "GripInspector$Lift" "pulls" "[I") (by decide +kernel)
  generalize hRM : (headSpec wsX0_allPulls ({ frames := 0, cells := 0, slots := 0, locals := 0 } : Room)).room = RM
  replace hRM : ({ frames := 0, cells := 0, slots := 0, locals := 0 } : Room) = RM := hRM
  subst hRM
  have hl := lv_entry ([.ref q]) (n := 3) (Nat.le_of_ble_eq_true rfl)
  rw [lg_entry_eq]
  generalize (lg_sl ([.ref q]) ++ List.replicate (3 - (lg_sl ([.ref q])).length) Slot.unset).toArray = ls at hl ⊢
  have hl : lv_has ls 3 [(0, .ref q)] := hl
  have LP4 : ∀ (n : Nat) (x1 : Int32) (x2 : Int32) (ls : Array Slot), fX0_allPulls_L4 L n x1 x2 = some R → lv_has ls 3 [(0, .ref q), (1, .int x1), (2, .int x2)] → W p l e ({ frames := 0, cells := 0, slots := 0, locals := 0 } : Room) s m ([.ref q] : List Value).toArray below meth c s.heap [] 0 0 (MQ below (vp_Si (fun r => r = R)) ([.ref q] : List Value).toArray s 0 0 (fun _ => False)) (F0 m 4 ls []) := by
    intro n
    induction n with
    | zero => intro x1 x2 ls h hl; exact no_some h
    | succ n ih =>
      intro x1 x2 ls h hl
      rw [fX0_allPulls_L4] at h
      refine lv_iload_n hx hb dX0_allPulls_4 rfl (lv_at hl 2 rfl) ?_
      refine lv_bipush (v := 12) hx hb dX0_allPulls_5 (by decide) ?_
      refine lv_icmp_ge (tgt := 35) hx hb dX0_allPulls_7 (by decide) (fun c1 => ?_) (fun c1 => ?_)
      · replace h := (if_pos c1).symm.trans h
        refine lv_iload_n hx hb dX0_allPulls_35 rfl (lv_at hl 1 rfl) ?_
        have h := Option.some.inj h
        exact W.iret (v := x1) hx hb hr (fun t ht hW => ⟨_, rfl, h, ht⟩) t_nil dX0_allPulls_36
      · replace h := (if_neg c1).symm.trans h
        refine lv_aload_n hx hb dX0_allPulls_10 rfl (lv_at hl 0 rfl) ?_
        refine va_get (D := D) (ci := 0) (v := .ref (q + 6)) (C := RX0) (T := TX0) (N := 13) hx hb hts hinX0 hown hK hP 0 rfl rfl 5 (by decide) hf27 (fun _ h9 => h9) rfl dX0_allPulls_11 ?_
        refine lv_iload_n hx hb dX0_allPulls_14 rfl (lv_at hl 2 rfl) ?_
        obtain ⟨hg2, h⟩ := gd_some h
        refine g_iald (f := (lPl L)) (k := x2.toNatClampNeg) hx hb hK hP 6 0 rfl rfl hg2 rfl dX0_allPulls_15 ?_
        refine lv_iconst (v := (-1)) hx hb dX0_allPulls_16 (by decide) ?_
        refine lv_icmp_eq (tgt := 29) hx hb dX0_allPulls_17 (by decide) (fun c3 => ?_) (fun c3 => ?_)
        · replace h := (if_pos c3).symm.trans h
          refine lv_iinc (v := (x2 + 1)) (lv' := [(2, .int (x2 + 1)), (0, .ref q), (1, .int x1)]) hx hb dX0_allPulls_29 hl (k := 2) rfl rfl (by decide) rfl (fun ls hl => ?_)
          refine lv_goto (tgt := 4) hx hb dX0_allPulls_32 (by decide) ?_
          exact ih x1 (x2 + 1) ls h (lv_sub hl [1, 2, 0] rfl)
        · replace h := (if_neg c3).symm.trans h
          refine lv_iload_n hx hb dX0_allPulls_20 rfl (lv_at hl 1 rfl) ?_
          refine lv_aload_n hx hb dX0_allPulls_21 rfl (lv_at hl 0 rfl) ?_
          refine va_get (D := D) (ci := 0) (v := .ref (q + 4)) (C := RX0) (T := TX0) (N := 13) hx hb hts hinX0 hown hK hP 0 rfl rfl 3 (by decide) hf21 (fun _ h9 => h9) rfl dX0_allPulls_22 ?_
          refine lv_iload_n hx hb dX0_allPulls_25 rfl (lv_at hl 2 rfl) ?_
          refine g_iald (f := (lPu L)) (k := x2.toNatClampNeg) hx hb hK hP 4 0 rfl rfl hg2 rfl dX0_allPulls_26 ?_
          refine lv_iadd hx hb dX0_allPulls_27 ?_
          refine lv_istore_n (lv' := [(1, .int (x1 + ((lPu L) x2.toNatClampNeg))), (0, .ref q), (2, .int x2)]) hx hb dX0_allPulls_28 rfl hl (by decide) rfl (fun ls hl => ?_)
          refine lv_iinc (v := (x2 + 1)) (lv' := [(2, .int (x2 + 1)), (1, .int (x1 + ((lPu L) x2.toNatClampNeg))), (0, .ref q)]) hx hb dX0_allPulls_29 hl (k := 2) rfl rfl (by decide) rfl (fun ls hl => ?_)
          refine lv_goto (tgt := 4) hx hb dX0_allPulls_32 (by decide) ?_
          exact ih (x1 + ((lPu L) x2.toNatClampNeg)) (x2 + 1) ls h (lv_sub hl [2, 1, 0] rfl)
  unfold fX0_allPulls at h
  refine lv_iconst (v := 0) hx hb dX0_allPulls_0 (by decide) ?_
  refine lv_istore_n (lv' := [(1, .int 0), (0, .ref q)]) hx hb dX0_allPulls_1 rfl hl (by decide) rfl (fun ls hl => ?_)
  refine lv_iconst (v := 0) hx hb dX0_allPulls_2 (by decide) ?_
  refine lv_istore_n (lv' := [(2, .int 0), (1, .int 0), (0, .ref q)]) hx hb dX0_allPulls_3 rfl hl (by decide) rfl (fun ls hl => ?_)
  exact LP4 KF 0 0 ls h (lv_sub hl [2, 1, 0] rfl)
set_option maxHeartbeats 4000000 in
set_option maxRecDepth 100000 in
theorem kX0_add (l : Launch) (D : va_G) (cI cC cZ cQ cJ : ClassId) (q : Nat) (L : LSt) (p0 : Int32) {R : LSt} (h : fX0_add L p0 = some R) : Met l yX0_add wsX0_add ({ frames := 2, cells := 0, slots := 0, locals := 43 } : Room) (va_Pc [.ref q, .int p0] (gB D (gTy cI cC cZ cQ cJ) (va_P D vwCl (LW cI q L)))) (va_Qv (fun _ : Unit => True) (fun _ t => va_P D vwCl (LW cI q R) t.heap) (fIv q 10)) 0 0 (fIv q 10) := by
  refine Met.ofW (cc := cX0_add) (maxL := 3) (ret := none) (by decide) rfl ?_
  intro p e s m args below meth c s₁ B hml hv
  obtain ⟨rfl, hP, hK⟩ := hv
  have hx := B.exec
  have hb := B.bytes
  have hr := B.returns
  have hts := atoms_spec (ws := wsX0_add) B.pre
  have hown : s.vm.findClass RX0 = some m.cls := findClass_of_methodNamed B.named
  have hlocks := B.notSynchronized
  have hinX0 : ∀ w ∈ wsX00, w ∈ wsX0_add := by decide +kernel
  have hf9 := hts (.fieldLink RX0 9 "GripInspector$Lift" "weight" "[I") (by decide +kernel)
  have hf15 := hts (.fieldLink RX0 15 "GripInspector$Lift" "cycles" "[I") (by decide +kernel)
  have hf18 := hts (.fieldLink RX0 18 "GripInspector$Lift" "wear" "[I") (by decide +kernel)
  have hf21 := hts (.fieldLink RX0 21 "GripInspector$Lift" "pulls" "[I") (by decide +kernel)
  have hf24 := hts (.fieldLink RX0 24 "GripInspector$Lift" "lastSlip" "[I") (by decide +kernel)
  have hf27 := hts (.fieldLink RX0 27 "GripInspector$Lift" "place" "[I") (by decide +kernel)
  generalize hRM : (headSpec wsX0_add ({ frames := 2, cells := 0, slots := 0, locals := 43 } : Room)).room = RM
  replace hRM : ({ frames := 2, cells := 0, slots := 0, locals := 43 } : Room) = RM := hRM
  subst hRM
  have hl := lv_entry ([.ref q, .int p0]) (n := 3) (Nat.le_of_ble_eq_true rfl)
  rw [lg_entry_eq]
  generalize (lg_sl ([.ref q, .int p0]) ++ List.replicate (3 - (lg_sl ([.ref q, .int p0])).length) Slot.unset).toArray = ls at hl ⊢
  have hl : lv_has ls 3 [(0, .ref q), (1, .int p0)] := hl
  have hS : va_S (fIv q 10) s.heap s.heap [] := va_S.rf
  unfold fX0_add at h
  obtain ⟨H, hH⟩ : ∃ H, H = s.heap := ⟨_, rfl⟩
  obtain ⟨locs, hlz⟩ : ∃ z : List Loc, z = [] := ⟨_, rfl⟩
  have hP : va_P D vwCl (LW cI q L) H := by rw [hH]; exact hP
  have hS : va_S (fIv q 10) s.heap H locs := by rw [hH, hlz]; exact hS
  refine gc_at hH hlz ?_
  refine lv_aload_n hx hb dX0_add_0 rfl (lv_at hl 0 rfl) ?_
  obtain ⟨r1, hr1, h⟩ := bd_some h
  refine gc_ri (As := []) (rest := []) ⟨hx, hb, hml, hown, hts⟩ hK (kX0_grips l D cI cC cZ cQ cJ q L hr1) (cwV 0 hts gX0_add_X0_grips rfl rfl rfl (by decide +kernel) ⟨Nat.le_of_ble_eq_true rfl, Nat.le_of_ble_eq_true rfl⟩) (va_recv hK hP (ci := 0) (q0 := 0) rfl rfl) hP rfl hl.1 rfl (Nat.le_of_ble_eq_true rfl) ⟨Nat.zero_le _, Nat.zero_le _⟩ dX0_add_1 ?_
  refine lv_istore_n (lv' := [(2, .int r1), (0, .ref q), (1, .int p0)]) hx hb dX0_add_4 rfl hl (by decide) rfl (fun ls hl => ?_)
  refine lv_iload_n hx hb dX0_add_5 rfl (lv_at hl 0 rfl) ?_
  refine lv_bipush (v := 12) hx hb dX0_add_6 (by decide) ?_
  refine lv_icmp_lt (tgt := 12) hx hb dX0_add_8 (by decide) (fun c1 => ?_) (fun c1 => ?_)
  · replace h := (if_pos c1).symm.trans h
    refine lv_aload_n hx hb dX0_add_12 rfl (lv_at hl 1 rfl) ?_
    refine va_get (D := D) (ci := 0) (v := .ref (q + 1)) (C := RX0) (T := TX0) (N := 13) hx hb hts hinX0 hown hK hP 0 rfl rfl 0 (by decide) hf9 (fun _ h9 => h9) rfl dX0_add_13 ?_
    refine lv_iload_n hx hb dX0_add_16 rfl (lv_at hl 0 rfl) ?_
    refine lv_iload_n hx hb dX0_add_17 rfl (lv_at hl 2 rfl) ?_
    obtain ⟨hg2, h⟩ := gd_some h
    refine g_iast (f := (lWe L)) (k := r1.toNatClampNeg) hx hb hK hP LW_self hS 1 0 rfl rfl hg2 rfl dX0_add_18 (fun H locs hP hS => ?_)
    have hP : va_P D vwCl (LW cI q ((upd (lWe L) r1.toNatClampNeg p0), (lCy L), (lWr L), (lPu L), (lSl L), (lPl L), (lSp L), (lSt L), (lLi L), (lN_ L), (lStn L), (lClk L), (lRnd L))) H := hP
    refine lv_aload_n hx hb dX0_add_19 rfl (lv_at hl 1 rfl) ?_
    refine va_get (D := D) (ci := 0) (v := .ref (q + 2)) (C := RX0) (T := TX0) (N := 13) hx hb hts hinX0 hown hK hP 0 rfl rfl 1 (by decide) hf15 (fun _ h9 => h9) rfl dX0_add_20 ?_
    refine lv_iload_n hx hb dX0_add_23 rfl (lv_at hl 0 rfl) ?_
    refine lv_iconst (v := 0) hx hb dX0_add_24 (by decide) ?_
    refine g_iast (f := (lCy L)) (k := r1.toNatClampNeg) hx hb hK hP LW_self hS 2 0 rfl rfl hg2 rfl dX0_add_25 (fun H locs hP hS => ?_)
    have hP : va_P D vwCl (LW cI q ((upd (lWe L) r1.toNatClampNeg p0), (upd (lCy L) r1.toNatClampNeg 0), (lWr L), (lPu L), (lSl L), (lPl L), (lSp L), (lSt L), (lLi L), (lN_ L), (lStn L), (lClk L), (lRnd L))) H := hP
    refine lv_aload_n hx hb dX0_add_26 rfl (lv_at hl 1 rfl) ?_
    refine va_get (D := D) (ci := 0) (v := .ref (q + 3)) (C := RX0) (T := TX0) (N := 13) hx hb hts hinX0 hown hK hP 0 rfl rfl 2 (by decide) hf18 (fun _ h9 => h9) rfl dX0_add_27 ?_
    refine lv_iload_n hx hb dX0_add_30 rfl (lv_at hl 0 rfl) ?_
    refine lv_iconst (v := 0) hx hb dX0_add_31 (by decide) ?_
    refine g_iast (f := (lWr L)) (k := r1.toNatClampNeg) hx hb hK hP LW_self hS 3 0 rfl rfl hg2 rfl dX0_add_32 (fun H locs hP hS => ?_)
    have hP : va_P D vwCl (LW cI q ((upd (lWe L) r1.toNatClampNeg p0), (upd (lCy L) r1.toNatClampNeg 0), (upd (lWr L) r1.toNatClampNeg 0), (lPu L), (lSl L), (lPl L), (lSp L), (lSt L), (lLi L), (lN_ L), (lStn L), (lClk L), (lRnd L))) H := hP
    refine lv_aload_n hx hb dX0_add_33 rfl (lv_at hl 1 rfl) ?_
    refine va_get (D := D) (ci := 0) (v := .ref (q + 4)) (C := RX0) (T := TX0) (N := 13) hx hb hts hinX0 hown hK hP 0 rfl rfl 3 (by decide) hf21 (fun _ h9 => h9) rfl dX0_add_34 ?_
    refine lv_iload_n hx hb dX0_add_37 rfl (lv_at hl 0 rfl) ?_
    refine lv_iconst (v := 0) hx hb dX0_add_38 (by decide) ?_
    refine g_iast (f := (lPu L)) (k := r1.toNatClampNeg) hx hb hK hP LW_self hS 4 0 rfl rfl hg2 rfl dX0_add_39 (fun H locs hP hS => ?_)
    have hP : va_P D vwCl (LW cI q ((upd (lWe L) r1.toNatClampNeg p0), (upd (lCy L) r1.toNatClampNeg 0), (upd (lWr L) r1.toNatClampNeg 0), (upd (lPu L) r1.toNatClampNeg 0), (lSl L), (lPl L), (lSp L), (lSt L), (lLi L), (lN_ L), (lStn L), (lClk L), (lRnd L))) H := hP
    refine lv_aload_n hx hb dX0_add_40 rfl (lv_at hl 1 rfl) ?_
    refine va_get (D := D) (ci := 0) (v := .ref (q + 5)) (C := RX0) (T := TX0) (N := 13) hx hb hts hinX0 hown hK hP 0 rfl rfl 4 (by decide) hf24 (fun _ h9 => h9) rfl dX0_add_41 ?_
    refine lv_iload_n hx hb dX0_add_44 rfl (lv_at hl 0 rfl) ?_
    refine lv_bipush (v := (-9)) hx hb dX0_add_45 (by decide) ?_
    refine g_iast (f := (lSl L)) (k := r1.toNatClampNeg) hx hb hK hP LW_self hS 5 0 rfl rfl hg2 rfl dX0_add_47 (fun H locs hP hS => ?_)
    have hP : va_P D vwCl (LW cI q ((upd (lWe L) r1.toNatClampNeg p0), (upd (lCy L) r1.toNatClampNeg 0), (upd (lWr L) r1.toNatClampNeg 0), (upd (lPu L) r1.toNatClampNeg 0), (upd (lSl L) r1.toNatClampNeg (-9)), (lPl L), (lSp L), (lSt L), (lLi L), (lN_ L), (lStn L), (lClk L), (lRnd L))) H := hP
    refine lv_aload_n hx hb dX0_add_48 rfl (lv_at hl 1 rfl) ?_
    refine va_get (D := D) (ci := 0) (v := .ref (q + 6)) (C := RX0) (T := TX0) (N := 13) hx hb hts hinX0 hown hK hP 0 rfl rfl 5 (by decide) hf27 (fun _ h9 => h9) rfl dX0_add_49 ?_
    refine lv_iload_n hx hb dX0_add_52 rfl (lv_at hl 0 rfl) ?_
    refine lv_iconst (v := 1) hx hb dX0_add_53 (by decide) ?_
    refine g_iast (f := (lPl L)) (k := r1.toNatClampNeg) hx hb hK hP LW_self hS 6 0 rfl rfl hg2 rfl dX0_add_54 (fun H locs hP hS => ?_)
    have hP : va_P D vwCl (LW cI q ((upd (lWe L) r1.toNatClampNeg p0), (upd (lCy L) r1.toNatClampNeg 0), (upd (lWr L) r1.toNatClampNeg 0), (upd (lPu L) r1.toNatClampNeg 0), (upd (lSl L) r1.toNatClampNeg (-9)), (upd (lPl L) r1.toNatClampNeg 1), (lSp L), (lSt L), (lLi L), (lN_ L), (lStn L), (lClk L), (lRnd L))) H := hP
    have h := Option.some.inj h
    subst h
    exact W.vret hx hb hr (fun t ht hW => ⟨⟨(), rfl, trivial, gh ht hP⟩, hS.F ht⟩) hS.2.2 dX0_add_55
  · replace h := (if_neg c1).symm.trans h
    have h := Option.some.inj h
    subst h
    exact W.vret hx hb hr (fun t ht hW => ⟨⟨(), rfl, trivial, gh ht hP⟩, hS.F ht⟩) hS.2.2 dX0_add_11
set_option maxHeartbeats 4000000 in
set_option maxRecDepth 100000 in
theorem kX0_hang (l : Launch) (D : va_G) (cI cC cZ cQ cJ : ClassId) (q : Nat) (L : LSt) (p0 : Int32) (p1 : Int32) {R : LSt} (h : fX0_hang L p0 p1 = some R) : Met l yX0_hang wsX0_hang ({ frames := 0, cells := 0, slots := 0, locals := 0 } : Room) (va_Pc [.ref q, .int p0, .int p1] (gB D (gTy cI cC cZ cQ cJ) (va_P D vwCl (LW cI q L)))) (va_Qv (fun _ : Unit => True) (fun _ t => va_P D vwCl (LW cI q R) t.heap) (fIv q 10)) 0 0 (fIv q 10) := by
  refine Met.ofW (cc := cX0_hang) (maxL := 3) (ret := none) (by decide) rfl ?_
  intro p e s m args below meth c s₁ B hml hv
  obtain ⟨rfl, hP, hK⟩ := hv
  have hx := B.exec
  have hb := B.bytes
  have hr := B.returns
  have hts := atoms_spec (ws := wsX0_hang) B.pre
  have hown : s.vm.findClass RX0 = some m.cls := findClass_of_methodNamed B.named
  have hlocks := B.notSynchronized
  have hinX0 : ∀ w ∈ wsX00, w ∈ wsX0_hang := by decide +kernel
  have hf27 := hts (.fieldLink RX0 27 "GripInspector$Lift" "place" "[I") (by decide +kernel)
  have hf30 := hts (.fieldLink RX0 30 "GripInspector$Lift" "spot" "[I") (by decide +kernel)
  generalize hRM : (headSpec wsX0_hang ({ frames := 0, cells := 0, slots := 0, locals := 0 } : Room)).room = RM
  replace hRM : ({ frames := 0, cells := 0, slots := 0, locals := 0 } : Room) = RM := hRM
  subst hRM
  have hl := lv_entry ([.ref q, .int p0, .int p1]) (n := 3) (Nat.le_of_ble_eq_true rfl)
  rw [lg_entry_eq]
  generalize (lg_sl ([.ref q, .int p0, .int p1]) ++ List.replicate (3 - (lg_sl ([.ref q, .int p0, .int p1])).length) Slot.unset).toArray = ls at hl ⊢
  have hl : lv_has ls 3 [(0, .ref q), (1, .int p0), (2, .int p1)] := hl
  have hS : va_S (fIv q 10) s.heap s.heap [] := va_S.rf
  unfold fX0_hang at h
  obtain ⟨H, hH⟩ : ∃ H, H = s.heap := ⟨_, rfl⟩
  obtain ⟨locs, hlz⟩ : ∃ z : List Loc, z = [] := ⟨_, rfl⟩
  have hP : va_P D vwCl (LW cI q L) H := by rw [hH]; exact hP
  have hS : va_S (fIv q 10) s.heap H locs := by rw [hH, hlz]; exact hS
  refine gc_at hH hlz ?_
  refine lv_aload_n hx hb dX0_hang_0 rfl (lv_at hl 0 rfl) ?_
  refine va_get (D := D) (ci := 0) (v := .ref (q + 6)) (C := RX0) (T := TX0) (N := 13) hx hb hts hinX0 hown hK hP 0 rfl rfl 5 (by decide) hf27 (fun _ h9 => h9) rfl dX0_hang_1 ?_
  refine lv_iload_n hx hb dX0_hang_4 rfl (lv_at hl 1 rfl) ?_
  refine lv_iconst (v := 0) hx hb dX0_hang_5 (by decide) ?_
  obtain ⟨hg1, h⟩ := gd_some h
  refine g_iast (f := (lPl L)) (k := p0.toNatClampNeg) hx hb hK hP LW_self hS 6 0 rfl rfl hg1 rfl dX0_hang_6 (fun H locs hP hS => ?_)
  have hP : va_P D vwCl (LW cI q ((lWe L), (lCy L), (lWr L), (lPu L), (lSl L), (upd (lPl L) p0.toNatClampNeg 0), (lSp L), (lSt L), (lLi L), (lN_ L), (lStn L), (lClk L), (lRnd L))) H := hP
  refine lv_aload_n hx hb dX0_hang_7 rfl (lv_at hl 0 rfl) ?_
  refine va_get (D := D) (ci := 0) (v := .ref (q + 7)) (C := RX0) (T := TX0) (N := 13) hx hb hts hinX0 hown hK hP 0 rfl rfl 6 (by decide) hf30 (fun _ h9 => h9) rfl dX0_hang_8 ?_
  refine lv_iload_n hx hb dX0_hang_11 rfl (lv_at hl 1 rfl) ?_
  refine lv_iload_n hx hb dX0_hang_12 rfl (lv_at hl 2 rfl) ?_
  refine g_iast (f := (lSp L)) (k := p0.toNatClampNeg) hx hb hK hP LW_self hS 7 0 rfl rfl hg1 rfl dX0_hang_13 (fun H locs hP hS => ?_)
  have hP : va_P D vwCl (LW cI q ((lWe L), (lCy L), (lWr L), (lPu L), (lSl L), (upd (lPl L) p0.toNatClampNeg 0), (upd (lSp L) p0.toNatClampNeg p1), (lSt L), (lLi L), (lN_ L), (lStn L), (lClk L), (lRnd L))) H := hP
  have h := Option.some.inj h
  subst h
  exact W.vret hx hb hr (fun t ht hW => ⟨⟨(), rfl, trivial, gh ht hP⟩, hS.F ht⟩) hS.2.2 dX0_hang_14
set_option maxHeartbeats 4000000 in
set_option maxRecDepth 100000 in
theorem kX0_move (l : Launch) (D : va_G) (cI cC cZ cQ cJ : ClassId) (q : Nat) (L : LSt) (p0 : Int32) (p1 : Int32) {R : LSt} (h : fX0_move L p0 p1 = some R) : Met l yX0_move wsX0_move ({ frames := 0, cells := 0, slots := 0, locals := 0 } : Room) (va_Pc [.ref q, .int p0, .int p1] (gB D (gTy cI cC cZ cQ cJ) (va_P D vwCl (LW cI q L)))) (va_Qv (fun _ : Unit => True) (fun _ t => va_P D vwCl (LW cI q R) t.heap) (fIv q 10)) 0 0 (fIv q 10) := by
  refine Met.ofW (cc := cX0_move) (maxL := 3) (ret := none) (by decide) rfl ?_
  intro p e s m args below meth c s₁ B hml hv
  obtain ⟨rfl, hP, hK⟩ := hv
  have hx := B.exec
  have hb := B.bytes
  have hr := B.returns
  have hts := atoms_spec (ws := wsX0_move) B.pre
  have hown : s.vm.findClass RX0 = some m.cls := findClass_of_methodNamed B.named
  have hlocks := B.notSynchronized
  have hinX0 : ∀ w ∈ wsX00, w ∈ wsX0_move := by decide +kernel
  have hf27 := hts (.fieldLink RX0 27 "GripInspector$Lift" "place" "[I") (by decide +kernel)
  generalize hRM : (headSpec wsX0_move ({ frames := 0, cells := 0, slots := 0, locals := 0 } : Room)).room = RM
  replace hRM : ({ frames := 0, cells := 0, slots := 0, locals := 0 } : Room) = RM := hRM
  subst hRM
  have hl := lv_entry ([.ref q, .int p0, .int p1]) (n := 3) (Nat.le_of_ble_eq_true rfl)
  rw [lg_entry_eq]
  generalize (lg_sl ([.ref q, .int p0, .int p1]) ++ List.replicate (3 - (lg_sl ([.ref q, .int p0, .int p1])).length) Slot.unset).toArray = ls at hl ⊢
  have hl : lv_has ls 3 [(0, .ref q), (1, .int p0), (2, .int p1)] := hl
  have hS : va_S (fIv q 10) s.heap s.heap [] := va_S.rf
  unfold fX0_move at h
  obtain ⟨H, hH⟩ : ∃ H, H = s.heap := ⟨_, rfl⟩
  obtain ⟨locs, hlz⟩ : ∃ z : List Loc, z = [] := ⟨_, rfl⟩
  have hP : va_P D vwCl (LW cI q L) H := by rw [hH]; exact hP
  have hS : va_S (fIv q 10) s.heap H locs := by rw [hH, hlz]; exact hS
  refine gc_at hH hlz ?_
  refine lv_aload_n hx hb dX0_move_0 rfl (lv_at hl 0 rfl) ?_
  refine va_get (D := D) (ci := 0) (v := .ref (q + 6)) (C := RX0) (T := TX0) (N := 13) hx hb hts hinX0 hown hK hP 0 rfl rfl 5 (by decide) hf27 (fun _ h9 => h9) rfl dX0_move_1 ?_
  refine lv_iload_n hx hb dX0_move_4 rfl (lv_at hl 1 rfl) ?_
  refine lv_iload_n hx hb dX0_move_5 rfl (lv_at hl 2 rfl) ?_
  obtain ⟨hg1, h⟩ := gd_some h
  refine g_iast (f := (lPl L)) (k := p0.toNatClampNeg) hx hb hK hP LW_self hS 6 0 rfl rfl hg1 rfl dX0_move_6 (fun H locs hP hS => ?_)
  have hP : va_P D vwCl (LW cI q ((lWe L), (lCy L), (lWr L), (lPu L), (lSl L), (upd (lPl L) p0.toNatClampNeg p1), (lSp L), (lSt L), (lLi L), (lN_ L), (lStn L), (lClk L), (lRnd L))) H := hP
  have h := Option.some.inj h
  subst h
  exact W.vret hx hb hr (fun t ht hW => ⟨⟨(), rfl, trivial, gh ht hP⟩, hS.F ht⟩) hS.2.2 dX0_move_7
set_option maxHeartbeats 4000000 in
set_option maxRecDepth 100000 in
theorem kX0_distance (l : Launch) (D : va_G) (cI cC cZ cQ cJ : ClassId) (q : Nat) (L : LSt) (p0 : Int32) (p1 : Int32) {R : Int32} (h : fX0_distance L p0 p1 = some R) : Met l yX0_distance wsX0_distance ({ frames := 0, cells := 0, slots := 0, locals := 0 } : Room) (va_Pc [.ref q, .int p0, .int p1] (gB D (gTy cI cC cZ cQ cJ) (va_P D vwCl (LW cI q L)))) (vp_Si (fun r => r = R)) 0 0 (fun _ => False) := by
  refine Met.ofW (cc := cX0_distance) (maxL := 4) (ret := (some .int)) (by decide) rfl ?_
  intro p e s m args below meth c s₁ B hml hv
  obtain ⟨rfl, hP, hK⟩ := hv
  have hx := B.exec
  have hb := B.bytes
  have hr := B.returns
  have hts := atoms_spec (ws := wsX0_distance) B.pre
  have hown : s.vm.findClass RX0 = some m.cls := findClass_of_methodNamed B.named
  have hlocks := B.notSynchronized
  have hinX0 : ∀ w ∈ wsX00, w ∈ wsX0_distance := by decide +kernel
  have hf42 := hts (.fieldLink RX0 42 "GripInspector$Lift" "n" "I") (by decide +kernel)
  generalize hRM : (headSpec wsX0_distance ({ frames := 0, cells := 0, slots := 0, locals := 0 } : Room)).room = RM
  replace hRM : ({ frames := 0, cells := 0, slots := 0, locals := 0 } : Room) = RM := hRM
  subst hRM
  have hl := lv_entry ([.ref q, .int p0, .int p1]) (n := 4) (Nat.le_of_ble_eq_true rfl)
  rw [lg_entry_eq]
  generalize (lg_sl ([.ref q, .int p0, .int p1]) ++ List.replicate (4 - (lg_sl ([.ref q, .int p0, .int p1])).length) Slot.unset).toArray = ls at hl ⊢
  have hl : lv_has ls 4 [(0, .ref q), (1, .int p0), (2, .int p1)] := hl
  unfold fX0_distance at h
  refine lv_iload_n hx hb dX0_distance_0 rfl (lv_at hl 1 rfl) ?_
  refine lv_iload_n hx hb dX0_distance_1 rfl (lv_at hl 2 rfl) ?_
  refine lv_icmp_le (tgt := 11) hx hb dX0_distance_2 (by decide) (fun c1 => ?_) (fun c1 => ?_)
  · replace h := (if_pos c1).symm.trans h
    refine lv_iload_n hx hb dX0_distance_11 rfl (lv_at hl 2 rfl) ?_
    refine lv_iload_n hx hb dX0_distance_12 rfl (lv_at hl 1 rfl) ?_
    refine lv_isub hx hb dX0_distance_13 ?_
    refine lv_istore_n (lv' := [(3, .int (p1 - p0)), (0, .ref q), (1, .int p0), (2, .int p1)]) hx hb dX0_distance_14 rfl hl (by decide) rfl (fun ls hl => ?_)
    refine lv_iload_n hx hb dX0_distance_15 rfl (lv_at hl 0 rfl) ?_
    refine lv_aload_n hx hb dX0_distance_16 rfl (lv_at hl 1 rfl) ?_
    refine va_get (D := D) (ci := 0) (v := .int (lN_ L)) (C := RX0) (T := TX0) (N := 13) hx hb hts hinX0 hown hK hP 0 rfl rfl 9 (by decide) hf42 (fun _ h9 => h9) rfl dX0_distance_17 ?_
    refine lv_iload_n hx hb dX0_distance_20 rfl (lv_at hl 0 rfl) ?_
    refine lv_isub hx hb dX0_distance_21 ?_
    refine lv_icmp_ge (tgt := 29) hx hb dX0_distance_22 (by decide) (fun c2 => ?_) (fun c2 => ?_)
    · replace h := (if_pos c2).symm.trans h
      refine lv_aload_n hx hb dX0_distance_29 rfl (lv_at hl 1 rfl) ?_
      refine va_get (D := D) (ci := 0) (v := .int (lN_ L)) (C := RX0) (T := TX0) (N := 13) hx hb hts hinX0 hown hK hP 0 rfl rfl 9 (by decide) hf42 (fun _ h9 => h9) rfl dX0_distance_30 ?_
      refine lv_iload_n hx hb dX0_distance_33 rfl (lv_at hl 0 rfl) ?_
      refine lv_isub hx hb dX0_distance_34 ?_
      have h := Option.some.inj h
      exact W.iret (v := ((lN_ L) - (p1 - p0))) hx hb hr (fun t ht hW => ⟨_, rfl, h, ht⟩) t_nil dX0_distance_35
    · replace h := (if_neg c2).symm.trans h
      refine lv_iload_n hx hb dX0_distance_25 rfl (lv_at hl 0 rfl) ?_
      refine lv_goto (tgt := 35) hx hb dX0_distance_26 (by decide) ?_
      have h := Option.some.inj h
      exact W.iret (v := (p1 - p0)) hx hb hr (fun t ht hW => ⟨_, rfl, h, ht⟩) t_nil dX0_distance_35
  · replace h := (if_neg c1).symm.trans h
    refine lv_iload_n hx hb dX0_distance_5 rfl (lv_at hl 1 rfl) ?_
    refine lv_iload_n hx hb dX0_distance_6 rfl (lv_at hl 2 rfl) ?_
    refine lv_isub hx hb dX0_distance_7 ?_
    refine lv_goto (tgt := 14) hx hb dX0_distance_8 (by decide) ?_
    refine lv_istore_n (lv' := [(3, .int (p0 - p1)), (0, .ref q), (1, .int p0), (2, .int p1)]) hx hb dX0_distance_14 rfl hl (by decide) rfl (fun ls hl => ?_)
    refine lv_iload_n hx hb dX0_distance_15 rfl (lv_at hl 0 rfl) ?_
    refine lv_aload_n hx hb dX0_distance_16 rfl (lv_at hl 1 rfl) ?_
    refine va_get (D := D) (ci := 0) (v := .int (lN_ L)) (C := RX0) (T := TX0) (N := 13) hx hb hts hinX0 hown hK hP 0 rfl rfl 9 (by decide) hf42 (fun _ h9 => h9) rfl dX0_distance_17 ?_
    refine lv_iload_n hx hb dX0_distance_20 rfl (lv_at hl 0 rfl) ?_
    refine lv_isub hx hb dX0_distance_21 ?_
    refine lv_icmp_ge (tgt := 29) hx hb dX0_distance_22 (by decide) (fun c3 => ?_) (fun c3 => ?_)
    · replace h := (if_pos c3).symm.trans h
      refine lv_aload_n hx hb dX0_distance_29 rfl (lv_at hl 1 rfl) ?_
      refine va_get (D := D) (ci := 0) (v := .int (lN_ L)) (C := RX0) (T := TX0) (N := 13) hx hb hts hinX0 hown hK hP 0 rfl rfl 9 (by decide) hf42 (fun _ h9 => h9) rfl dX0_distance_30 ?_
      refine lv_iload_n hx hb dX0_distance_33 rfl (lv_at hl 0 rfl) ?_
      refine lv_isub hx hb dX0_distance_34 ?_
      have h := Option.some.inj h
      exact W.iret (v := ((lN_ L) - (p0 - p1))) hx hb hr (fun t ht hW => ⟨_, rfl, h, ht⟩) t_nil dX0_distance_35
    · replace h := (if_neg c3).symm.trans h
      refine lv_iload_n hx hb dX0_distance_25 rfl (lv_at hl 0 rfl) ?_
      refine lv_goto (tgt := 35) hx hb dX0_distance_26 (by decide) ?_
      have h := Option.some.inj h
      exact W.iret (v := (p0 - p1)) hx hb hr (fun t ht hW => ⟨_, rfl, h, ht⟩) t_nil dX0_distance_35
set_option maxHeartbeats 4000000 in
set_option maxRecDepth 100000 in
theorem kX0_isRoomAt (l : Launch) (D : va_G) (cI cC cZ cQ cJ : ClassId) (q : Nat) (L : LSt) (p0 : Int32) {R : Int32} (h : fX0_isRoomAt L p0 = some R) : Met l yX0_isRoomAt wsX0_isRoomAt ({ frames := 1, cells := 0, slots := 0, locals := 23 } : Room) (va_Pc [.ref q, .int p0] (gB D (gTy cI cC cZ cQ cJ) (va_P D vwCl (LW cI q L)))) (vp_Si (fun r => r = R)) 0 0 (fun _ => False) := by
  refine Met.ofW (cc := cX0_isRoomAt) (maxL := 3) (ret := (some .boolean)) (by decide) rfl ?_
  intro p e s m args below meth c s₁ B hml hv
  obtain ⟨rfl, hP, hK⟩ := hv
  have hx := B.exec
  have hb := B.bytes
  have hr := B.returns
  have hts := atoms_spec (ws := wsX0_isRoomAt) B.pre
  have hown : s.vm.findClass RX0 = some m.cls := findClass_of_methodNamed B.named
  have hlocks := B.notSynchronized
  have hinX0 : ∀ w ∈ wsX00, w ∈ wsX0_isRoomAt := by decide +kernel
  have hf27 := hts (.fieldLink RX0 27 "GripInspector$Lift" "place" "[I") (by decide +kernel)
  have hf30 := hts (.fieldLink RX0 30 "GripInspector$Lift" "spot" "[I") (by decide +kernel)
  have hf36 := hts (.fieldLink RX0 36 "GripInspector$Lift" "limits" "[I") (by decide +kernel)
  generalize hRM : (headSpec wsX0_isRoomAt ({ frames := 1, cells := 0, slots := 0, locals := 23 } : Room)).room = RM
  replace hRM : ({ frames := 1, cells := 0, slots := 0, locals := 23 } : Room) = RM := hRM
  subst hRM
  have hl := lv_entry ([.ref q, .int p0]) (n := 3) (Nat.le_of_ble_eq_true rfl)
  rw [lg_entry_eq]
  generalize (lg_sl ([.ref q, .int p0]) ++ List.replicate (3 - (lg_sl ([.ref q, .int p0])).length) Slot.unset).toArray = ls at hl ⊢
  have hl : lv_has ls 3 [(0, .ref q), (1, .int p0)] := hl
  have LP2 : ∀ (n : Nat) (x1 : Int32) (x2 : Int32) (ls : Array Slot), fX0_isRoomAt_L2 L n x1 x2 = some R → lv_has ls 3 [(0, .ref q), (1, .int x1), (2, .int x2)] → W p l e ({ frames := 1, cells := 0, slots := 0, locals := 23 } : Room) s m ([.ref q, .int p0] : List Value).toArray below meth c s.heap [] 0 0 (MQ below (vp_Si (fun r => r = R)) ([.ref q, .int p0] : List Value).toArray s 0 0 (fun _ => False)) (F0 m 2 ls []) := by
    intro n
    induction n with
    | zero => intro x1 x2 ls h hl; exact no_some h
    | succ n ih =>
      intro x1 x2 ls h hl
      rw [fX0_isRoomAt_L2] at h
      refine lv_iload_n hx hb dX0_isRoomAt_2 rfl (lv_at hl 2 rfl) ?_
      refine lv_bipush (v := 12) hx hb dX0_isRoomAt_3 (by decide) ?_
      refine lv_icmp_ge (tgt := 45) hx hb dX0_isRoomAt_5 (by decide) (fun c1 => ?_) (fun c1 => ?_)
      · replace h := (if_pos c1).symm.trans h
        refine lv_iconst (v := 1) hx hb dX0_isRoomAt_45 (by decide) ?_
        have h := Option.some.inj h
        exact W.zret (v := 1) hx hb hr rfl (fun t ht hW => ⟨_, rfl, h, ht⟩) t_nil dX0_isRoomAt_46
      · replace h := (if_neg c1).symm.trans h
        refine lv_aload_n hx hb dX0_isRoomAt_8 rfl (lv_at hl 0 rfl) ?_
        refine va_get (D := D) (ci := 0) (v := .ref (q + 6)) (C := RX0) (T := TX0) (N := 13) hx hb hts hinX0 hown hK hP 0 rfl rfl 5 (by decide) hf27 (fun _ h9 => h9) rfl dX0_isRoomAt_9 ?_
        refine lv_iload_n hx hb dX0_isRoomAt_12 rfl (lv_at hl 2 rfl) ?_
        obtain ⟨hg2, h⟩ := gd_some h
        refine g_iald (f := (lPl L)) (k := x2.toNatClampNeg) hx hb hK hP 6 0 rfl rfl hg2 rfl dX0_isRoomAt_13 ?_
        refine lv_if_ne (tgt := 39) hx hb dX0_isRoomAt_14 (by decide) (fun c3 => ?_) (fun c3 => ?_)
        · replace h := (if_neg c3).symm.trans h
          refine lv_iinc (v := (x2 + 1)) (lv' := [(2, .int (x2 + 1)), (0, .ref q), (1, .int x1)]) hx hb dX0_isRoomAt_39 hl (k := 2) rfl rfl (by decide) rfl (fun ls hl => ?_)
          refine lv_goto (tgt := 2) hx hb dX0_isRoomAt_42 (by decide) ?_
          exact ih x1 (x2 + 1) ls h (lv_sub hl [1, 2, 0] rfl)
        · replace h := (if_pos c3).symm.trans h
          refine lv_aload_n hx hb dX0_isRoomAt_17 rfl (lv_at hl 0 rfl) ?_
          refine lv_aload_n hx hb dX0_isRoomAt_18 rfl (lv_at hl 0 rfl) ?_
          refine va_get (D := D) (ci := 0) (v := .ref (q + 7)) (C := RX0) (T := TX0) (N := 13) hx hb hts hinX0 hown hK hP 0 rfl rfl 6 (by decide) hf30 (fun _ h9 => h9) rfl dX0_isRoomAt_19 ?_
          refine lv_iload_n hx hb dX0_isRoomAt_22 rfl (lv_at hl 2 rfl) ?_
          refine g_iald (f := (lSp L)) (k := x2.toNatClampNeg) hx hb hK hP 7 0 rfl rfl hg2 rfl dX0_isRoomAt_23 ?_
          refine lv_iload_n hx hb dX0_isRoomAt_24 rfl (lv_at hl 1 rfl) ?_
          obtain ⟨r25, hr25, h⟩ := bd_some h
          refine gc_ri (As := [.int ((lSp L) x2.toNatClampNeg), .int x1]) (rest := []) ⟨hx, hb, hml, hown, hts⟩ hK (kX0_distance l D cI cC cZ cQ cJ q L ((lSp L) x2.toNatClampNeg) x1 hr25) (cwV 2 hts gX0_isRoomAt_X0_distance rfl rfl rfl (by decide +kernel) ⟨Nat.le_of_ble_eq_true rfl, Nat.le_of_ble_eq_true rfl⟩) (va_recv hK hP (ci := 0) (q0 := 0) rfl rfl) hP rfl hl.1 rfl (Nat.le_of_ble_eq_true rfl) ⟨Nat.zero_le _, Nat.zero_le _⟩ dX0_isRoomAt_25 ?_
          refine lv_aload_n hx hb dX0_isRoomAt_28 rfl (lv_at hl 0 rfl) ?_
          refine va_get (D := D) (ci := 0) (v := .ref (q + 9)) (C := RX0) (T := TX0) (N := 13) hx hb hts hinX0 hown hK hP 0 rfl rfl 8 (by decide) hf36 (fun _ h9 => h9) rfl dX0_isRoomAt_29 ?_
          refine lv_iconst (v := 3) hx hb dX0_isRoomAt_32 (by decide) ?_
          refine g_iald (f := (lLi L)) (k := 3) hx hb hK hP 9 0 rfl rfl (vin_lit rfl) rfl dX0_isRoomAt_33 ?_
          refine lv_icmp_ge (tgt := 39) hx hb dX0_isRoomAt_34 (by decide) (fun c4 => ?_) (fun c4 => ?_)
          · replace h := (if_pos c4).symm.trans h
            refine lv_iinc (v := (x2 + 1)) (lv' := [(2, .int (x2 + 1)), (0, .ref q), (1, .int x1)]) hx hb dX0_isRoomAt_39 hl (k := 2) rfl rfl (by decide) rfl (fun ls hl => ?_)
            refine lv_goto (tgt := 2) hx hb dX0_isRoomAt_42 (by decide) ?_
            exact ih x1 (x2 + 1) ls h (lv_sub hl [1, 2, 0] rfl)
          · replace h := (if_neg c4).symm.trans h
            refine lv_iconst (v := 0) hx hb dX0_isRoomAt_37 (by decide) ?_
            have h := Option.some.inj h
            exact W.zret (v := 0) hx hb hr rfl (fun t ht hW => ⟨_, rfl, h, ht⟩) t_nil dX0_isRoomAt_38
  unfold fX0_isRoomAt at h
  refine lv_iconst (v := 0) hx hb dX0_isRoomAt_0 (by decide) ?_
  refine lv_istore_n (lv' := [(2, .int 0), (0, .ref q), (1, .int p0)]) hx hb dX0_isRoomAt_1 rfl hl (by decide) rfl (fun ls hl => ?_)
  exact LP2 KF p0 0 ls h (lv_sub hl [1, 2, 0] rfl)
set_option maxHeartbeats 4000000 in
set_option maxRecDepth 100000 in
theorem kX0_pass (l : Launch) (D : va_G) (cI cC cZ cQ cJ : ClassId) (q : Nat) (L : LSt) (p0 : Int32) (p1 : Int32) {R : Int32 × LSt} (h : fX0_pass L p0 p1 = some R) : Met l yX0_pass wsX0_pass ({ frames := 0, cells := 0, slots := 0, locals := 0 } : Room) (va_Pc [.ref q, .int p0, .int p1] (gB D (gTy cI cC cZ cQ cJ) (va_P D vwCl (LW cI q L)))) (va_Qi (fun r (_ : Unit) => r = R.1) (fun _ t => va_P D vwCl (LW cI q R.2) t.heap) (fIv q 10)) 0 0 (fIv q 10) := by
  refine Met.ofW (cc := cX0_pass) (maxL := 6) (ret := (some .int)) (by decide) rfl ?_
  intro p e s m args below meth c s₁ B hml hv
  obtain ⟨rfl, hP, hK⟩ := hv
  have hx := B.exec
  have hb := B.bytes
  have hr := B.returns
  have hts := atoms_spec (ws := wsX0_pass) B.pre
  have hown : s.vm.findClass RX0 = some m.cls := findClass_of_methodNamed B.named
  have hlocks := B.notSynchronized
  have hinX0 : ∀ w ∈ wsX00, w ∈ wsX0_pass := by decide +kernel
  have hf15 := hts (.fieldLink RX0 15 "GripInspector$Lift" "cycles" "[I") (by decide +kernel)
  have hf18 := hts (.fieldLink RX0 18 "GripInspector$Lift" "wear" "[I") (by decide +kernel)
  have hf9 := hts (.fieldLink RX0 9 "GripInspector$Lift" "weight" "[I") (by decide +kernel)
  have hf36 := hts (.fieldLink RX0 36 "GripInspector$Lift" "limits" "[I") (by decide +kernel)
  have hf21 := hts (.fieldLink RX0 21 "GripInspector$Lift" "pulls" "[I") (by decide +kernel)
  have hf24 := hts (.fieldLink RX0 24 "GripInspector$Lift" "lastSlip" "[I") (by decide +kernel)
  have hf27 := hts (.fieldLink RX0 27 "GripInspector$Lift" "place" "[I") (by decide +kernel)
  have hf33 := hts (.fieldLink RX0 33 "GripInspector$Lift" "stepsLeft" "[I") (by decide +kernel)
  generalize hRM : (headSpec wsX0_pass ({ frames := 0, cells := 0, slots := 0, locals := 0 } : Room)).room = RM
  replace hRM : ({ frames := 0, cells := 0, slots := 0, locals := 0 } : Room) = RM := hRM
  subst hRM
  have hl := lv_entry ([.ref q, .int p0, .int p1]) (n := 6) (Nat.le_of_ble_eq_true rfl)
  rw [lg_entry_eq]
  generalize (lg_sl ([.ref q, .int p0, .int p1]) ++ List.replicate (6 - (lg_sl ([.ref q, .int p0, .int p1])).length) Slot.unset).toArray = ls at hl ⊢
  have hl : lv_has ls 6 [(0, .ref q), (1, .int p0), (2, .int p1)] := hl
  have hS : va_S (fIv q 10) s.heap s.heap [] := va_S.rf
  unfold fX0_pass at h
  obtain ⟨H, hH⟩ : ∃ H, H = s.heap := ⟨_, rfl⟩
  obtain ⟨locs, hlz⟩ : ∃ z : List Loc, z = [] := ⟨_, rfl⟩
  have hP : va_P D vwCl (LW cI q L) H := by rw [hH]; exact hP
  have hS : va_S (fIv q 10) s.heap H locs := by rw [hH, hlz]; exact hS
  refine gc_at hH hlz ?_
  refine lv_aload_n hx hb dX0_pass_0 rfl (lv_at hl 0 rfl) ?_
  refine va_get (D := D) (ci := 0) (v := .ref (q + 2)) (C := RX0) (T := TX0) (N := 13) hx hb hts hinX0 hown hK hP 0 rfl rfl 1 (by decide) hf15 (fun _ h9 => h9) rfl dX0_pass_1 ?_
  refine lv_iload_n hx hb dX0_pass_4 rfl (lv_at hl 1 rfl) ?_
  refine lv_dup2_11 hx hb dX0_pass_5 rfl rfl ?_
  obtain ⟨hg1, h⟩ := gd_some h
  refine g_iald (f := (lCy L)) (k := p0.toNatClampNeg) hx hb hK hP 2 0 rfl rfl hg1 rfl dX0_pass_6 ?_
  refine lv_iconst (v := 1) hx hb dX0_pass_7 (by decide) ?_
  refine lv_iadd hx hb dX0_pass_8 ?_
  refine g_iast (f := (lCy L)) (k := p0.toNatClampNeg) hx hb hK hP LW_self hS 2 0 rfl rfl hg1 rfl dX0_pass_9 (fun H locs hP hS => ?_)
  have hP : va_P D vwCl (LW cI q ((lWe L), (upd (lCy L) p0.toNatClampNeg (((lCy L) p0.toNatClampNeg) + 1)), (lWr L), (lPu L), (lSl L), (lPl L), (lSp L), (lSt L), (lLi L), (lN_ L), (lStn L), (lClk L), (lRnd L))) H := hP
  refine lv_aload_n hx hb dX0_pass_10 rfl (lv_at hl 0 rfl) ?_
  refine va_get (D := D) (ci := 0) (v := .ref (q + 3)) (C := RX0) (T := TX0) (N := 13) hx hb hts hinX0 hown hK hP 0 rfl rfl 2 (by decide) hf18 (fun _ h9 => h9) rfl dX0_pass_11 ?_
  refine lv_iload_n hx hb dX0_pass_14 rfl (lv_at hl 1 rfl) ?_
  refine lv_dup2_11 hx hb dX0_pass_15 rfl rfl ?_
  refine g_iald (f := (lWr L)) (k := p0.toNatClampNeg) hx hb hK hP 3 0 rfl rfl hg1 rfl dX0_pass_16 ?_
  refine lv_iconst (v := 1) hx hb dX0_pass_17 (by decide) ?_
  refine lv_aload_n hx hb dX0_pass_18 rfl (lv_at hl 0 rfl) ?_
  refine va_get (D := D) (ci := 0) (v := .ref (q + 1)) (C := RX0) (T := TX0) (N := 13) hx hb hts hinX0 hown hK hP 0 rfl rfl 0 (by decide) hf9 (fun _ h9 => h9) rfl dX0_pass_19 ?_
  refine lv_iload_n hx hb dX0_pass_22 rfl (lv_at hl 1 rfl) ?_
  refine g_iald (f := (lWe L)) (k := p0.toNatClampNeg) hx hb hK hP 1 0 rfl rfl hg1 rfl dX0_pass_23 ?_
  refine lv_iadd hx hb dX0_pass_24 ?_
  refine lv_iadd hx hb dX0_pass_25 ?_
  refine g_iast (f := (lWr L)) (k := p0.toNatClampNeg) hx hb hK hP LW_self hS 3 0 rfl rfl hg1 rfl dX0_pass_26 (fun H locs hP hS => ?_)
  have hP : va_P D vwCl (LW cI q ((lWe L), (upd (lCy L) p0.toNatClampNeg (((lCy L) p0.toNatClampNeg) + 1)), (upd (lWr L) p0.toNatClampNeg (((lWr L) p0.toNatClampNeg) + (1 + ((lWe L) p0.toNatClampNeg)))), (lPu L), (lSl L), (lPl L), (lSp L), (lSt L), (lLi L), (lN_ L), (lStn L), (lClk L), (lRnd L))) H := hP
  refine lv_aload_n hx hb dX0_pass_27 rfl (lv_at hl 0 rfl) ?_
  refine va_get (D := D) (ci := 0) (v := .ref (q + 9)) (C := RX0) (T := TX0) (N := 13) hx hb hts hinX0 hown hK hP 0 rfl rfl 8 (by decide) hf36 (fun _ h9 => h9) rfl dX0_pass_28 ?_
  refine lv_iconst (v := 2) hx hb dX0_pass_31 (by decide) ?_
  refine g_iald (f := (lLi L)) (k := 2) hx hb hK hP 9 0 rfl rfl (vin_lit rfl) rfl dX0_pass_32 ?_
  refine lv_istore_n (lv' := [(3, .int ((lLi L) 2)), (0, .ref q), (1, .int p0), (2, .int p1)]) hx hb dX0_pass_33 rfl hl (by decide) rfl (fun ls hl => ?_)
  refine lv_aload_n hx hb dX0_pass_34 rfl (lv_at hl 1 rfl) ?_
  refine va_get (D := D) (ci := 0) (v := .ref (q + 2)) (C := RX0) (T := TX0) (N := 13) hx hb hts hinX0 hown hK hP 0 rfl rfl 1 (by decide) hf15 (fun _ h9 => h9) rfl dX0_pass_35 ?_
  refine lv_iload_n hx hb dX0_pass_38 rfl (lv_at hl 2 rfl) ?_
  refine g_iald (f := (upd (lCy L) p0.toNatClampNeg (((lCy L) p0.toNatClampNeg) + 1))) (k := p0.toNatClampNeg) hx hb hK hP 2 0 rfl rfl hg1 rfl dX0_pass_39 ?_
  refine lv_aload_n hx hb dX0_pass_40 rfl (lv_at hl 1 rfl) ?_
  refine va_get (D := D) (ci := 0) (v := .ref (q + 9)) (C := RX0) (T := TX0) (N := 13) hx hb hts hinX0 hown hK hP 0 rfl rfl 8 (by decide) hf36 (fun _ h9 => h9) rfl dX0_pass_41 ?_
  refine lv_iconst (v := 0) hx hb dX0_pass_44 (by decide) ?_
  refine g_iald (f := (lLi L)) (k := 0) hx hb hK hP 9 0 rfl rfl (vin_lit rfl) rfl dX0_pass_45 ?_
  refine lv_icmp_lt (tgt := 53) hx hb dX0_pass_46 (by decide) (fun c2 => ?_) (fun c2 => ?_)
  · replace h := (if_pos c2).symm.trans h
    refine lv_iconst (v := 0) hx hb dX0_pass_53 (by decide) ?_
    refine lv_istore (lv' := [(4, .int 0), (3, .int ((lLi L) 2)), (0, .ref q), (1, .int p0), (2, .int p1)]) hx hb dX0_pass_54 hl (by decide) rfl (fun ls hl => ?_)
    refine lv_iload_n hx hb dX0_pass_56 rfl (lv_at hl 1 rfl) ?_
    refine lv_if_le (tgt := 70) hx hb dX0_pass_57 (by decide) (fun c3 => ?_) (fun c3 => ?_)
    · replace h := (if_pos c3).symm.trans h
      refine lv_iconst (v := 0) hx hb dX0_pass_70 (by decide) ?_
      refine lv_istore (lv' := [(5, .int 0), (4, .int 0), (3, .int ((lLi L) 2)), (0, .ref q), (1, .int p0), (2, .int p1)]) hx hb dX0_pass_71 hl (by decide) rfl (fun ls hl => ?_)
      refine lv_iload hx hb dX0_pass_73 (lv_at hl 1 rfl) ?_
      refine lv_if_ne (tgt := 85) hx hb dX0_pass_75 (by decide) (fun c => absurd c (by decide)) (fun _ => ?_)
      refine lv_iload hx hb dX0_pass_78 (lv_at hl 0 rfl) ?_
      refine lv_if_ne (tgt := 85) hx hb dX0_pass_80 (by decide) (fun c => absurd c (by decide)) (fun _ => ?_)
      refine lv_iconst (v := 0) hx hb dX0_pass_83 (by decide) ?_
      have h := Option.some.inj h
      subst h
      exact W.iret (v := 0) hx hb hr (fun t ht hW => ⟨⟨_, (), rfl, rfl, gh ht hP⟩, hS.F ht⟩) hS.2.2 dX0_pass_84
    · replace h := (if_neg c3).symm.trans h
      refine lv_iload_n hx hb dX0_pass_60 rfl (lv_at hl 4 rfl) ?_
      refine lv_iload_n hx hb dX0_pass_61 rfl (lv_at hl 1 rfl) ?_
      obtain ⟨hn4, h⟩ := nz_some h
      refine lv_irem hx hb dX0_pass_62 hn4 ?_
      refine lv_if_ne (tgt := 70) hx hb dX0_pass_63 (by decide) (fun c5 => ?_) (fun c5 => ?_)
      · replace h := (if_neg c5).symm.trans h
        refine lv_iconst (v := 0) hx hb dX0_pass_70 (by decide) ?_
        refine lv_istore (lv' := [(5, .int 0), (4, .int 0), (3, .int ((lLi L) 2)), (0, .ref q), (1, .int p0), (2, .int p1)]) hx hb dX0_pass_71 hl (by decide) rfl (fun ls hl => ?_)
        refine lv_iload hx hb dX0_pass_73 (lv_at hl 1 rfl) ?_
        refine lv_if_ne (tgt := 85) hx hb dX0_pass_75 (by decide) (fun c => absurd c (by decide)) (fun _ => ?_)
        refine lv_iload hx hb dX0_pass_78 (lv_at hl 0 rfl) ?_
        refine lv_if_ne (tgt := 85) hx hb dX0_pass_80 (by decide) (fun c => absurd c (by decide)) (fun _ => ?_)
        refine lv_iconst (v := 0) hx hb dX0_pass_83 (by decide) ?_
        have h := Option.some.inj h
        subst h
        exact W.iret (v := 0) hx hb hr (fun t ht hW => ⟨⟨_, (), rfl, rfl, gh ht hP⟩, hS.F ht⟩) hS.2.2 dX0_pass_84
      · replace h := (if_pos c5).symm.trans h
        refine lv_iconst (v := 1) hx hb dX0_pass_66 (by decide) ?_
        refine lv_goto (tgt := 71) hx hb dX0_pass_67 (by decide) ?_
        refine lv_istore (lv' := [(5, .int 1), (4, .int 0), (3, .int ((lLi L) 2)), (0, .ref q), (1, .int p0), (2, .int p1)]) hx hb dX0_pass_71 hl (by decide) rfl (fun ls hl => ?_)
        refine lv_iload hx hb dX0_pass_73 (lv_at hl 1 rfl) ?_
        refine lv_if_ne (tgt := 85) hx hb dX0_pass_75 (by decide) (fun c => absurd c (by decide)) (fun _ => ?_)
        refine lv_iload hx hb dX0_pass_78 (lv_at hl 0 rfl) ?_
        refine lv_if_ne (tgt := 85) hx hb dX0_pass_80 (by decide) (fun _ => ?_) (fun c => absurd c (by decide))
        refine lv_aload_n hx hb dX0_pass_85 rfl (lv_at hl 3 rfl) ?_
        refine va_get (D := D) (ci := 0) (v := .ref (q + 4)) (C := RX0) (T := TX0) (N := 13) hx hb hts hinX0 hown hK hP 0 rfl rfl 3 (by decide) hf21 (fun _ h9 => h9) rfl dX0_pass_86 ?_
        refine lv_iload_n hx hb dX0_pass_89 rfl (lv_at hl 4 rfl) ?_
        refine lv_dup2_11 hx hb dX0_pass_90 rfl rfl ?_
        refine g_iald (f := (lPu L)) (k := p0.toNatClampNeg) hx hb hK hP 4 0 rfl rfl hg1 rfl dX0_pass_91 ?_
        refine lv_iconst (v := 1) hx hb dX0_pass_92 (by decide) ?_
        refine lv_iadd hx hb dX0_pass_93 ?_
        refine g_iast (f := (lPu L)) (k := p0.toNatClampNeg) hx hb hK hP LW_self hS 4 0 rfl rfl hg1 rfl dX0_pass_94 (fun H locs hP hS => ?_)
        have hP : va_P D vwCl (LW cI q ((lWe L), (upd (lCy L) p0.toNatClampNeg (((lCy L) p0.toNatClampNeg) + 1)), (upd (lWr L) p0.toNatClampNeg (((lWr L) p0.toNatClampNeg) + (1 + ((lWe L) p0.toNatClampNeg)))), (upd (lPu L) p0.toNatClampNeg (((lPu L) p0.toNatClampNeg) + 1)), (lSl L), (lPl L), (lSp L), (lSt L), (lLi L), (lN_ L), (lStn L), (lClk L), (lRnd L))) H := hP
        refine lv_aload_n hx hb dX0_pass_95 rfl (lv_at hl 3 rfl) ?_
        refine va_get (D := D) (ci := 0) (v := .ref (q + 5)) (C := RX0) (T := TX0) (N := 13) hx hb hts hinX0 hown hK hP 0 rfl rfl 4 (by decide) hf24 (fun _ h9 => h9) rfl dX0_pass_96 ?_
        refine lv_iload_n hx hb dX0_pass_99 rfl (lv_at hl 4 rfl) ?_
        refine lv_aload_n hx hb dX0_pass_100 rfl (lv_at hl 3 rfl) ?_
        refine va_get (D := D) (ci := 0) (v := .ref (q + 3)) (C := RX0) (T := TX0) (N := 13) hx hb hts hinX0 hown hK hP 0 rfl rfl 2 (by decide) hf18 (fun _ h9 => h9) rfl dX0_pass_101 ?_
        refine lv_iload_n hx hb dX0_pass_104 rfl (lv_at hl 4 rfl) ?_
        refine g_iald (f := (upd (lWr L) p0.toNatClampNeg (((lWr L) p0.toNatClampNeg) + (1 + ((lWe L) p0.toNatClampNeg))))) (k := p0.toNatClampNeg) hx hb hK hP 3 0 rfl rfl hg1 rfl dX0_pass_105 ?_
        refine lv_iconst (v := 4) hx hb dX0_pass_106 (by decide) ?_
        refine lv_idiv hx hb dX0_pass_107 (by decide) ?_
        refine lv_iload_n hx hb dX0_pass_108 rfl (lv_at hl 5 rfl) ?_
        refine lv_bipush (v := 16) hx hb dX0_pass_109 (by decide) ?_
        refine lv_idiv hx hb dX0_pass_111 (by decide) ?_
        refine lv_iconst (v := 5) hx hb dX0_pass_112 (by decide) ?_
        refine lv_irem hx hb dX0_pass_113 (by decide) ?_
        refine lv_iadd hx hb dX0_pass_114 ?_
        refine g_iast (f := (lSl L)) (k := p0.toNatClampNeg) hx hb hK hP LW_self hS 5 0 rfl rfl hg1 rfl dX0_pass_115 (fun H locs hP hS => ?_)
        have hP : va_P D vwCl (LW cI q ((lWe L), (upd (lCy L) p0.toNatClampNeg (((lCy L) p0.toNatClampNeg) + 1)), (upd (lWr L) p0.toNatClampNeg (((lWr L) p0.toNatClampNeg) + (1 + ((lWe L) p0.toNatClampNeg)))), (upd (lPu L) p0.toNatClampNeg (((lPu L) p0.toNatClampNeg) + 1)), (upd (lSl L) p0.toNatClampNeg ((((upd (lWr L) p0.toNatClampNeg (((lWr L) p0.toNatClampNeg) + (1 + ((lWe L) p0.toNatClampNeg)))) p0.toNatClampNeg) / 4) + ((p1 / 16) - (p1 / 16) / 5 * 5))), (lPl L), (lSp L), (lSt L), (lLi L), (lN_ L), (lStn L), (lClk L), (lRnd L))) H := hP
        refine lv_iload hx hb dX0_pass_116 (lv_at hl 1 rfl) ?_
        refine lv_if_ne (tgt := 138) hx hb dX0_pass_118 (by decide) (fun c => absurd c (by decide)) (fun _ => ?_)
        refine lv_aload_n hx hb dX0_pass_121 rfl (lv_at hl 3 rfl) ?_
        refine va_get (D := D) (ci := 0) (v := .ref (q + 5)) (C := RX0) (T := TX0) (N := 13) hx hb hts hinX0 hown hK hP 0 rfl rfl 4 (by decide) hf24 (fun _ h9 => h9) rfl dX0_pass_122 ?_
        refine lv_iload_n hx hb dX0_pass_125 rfl (lv_at hl 4 rfl) ?_
        refine g_iald (f := (upd (lSl L) p0.toNatClampNeg ((((upd (lWr L) p0.toNatClampNeg (((lWr L) p0.toNatClampNeg) + (1 + ((lWe L) p0.toNatClampNeg)))) p0.toNatClampNeg) / 4) + ((p1 / 16) - (p1 / 16) / 5 * 5)))) (k := p0.toNatClampNeg) hx hb hK hP 5 0 rfl rfl hg1 rfl dX0_pass_126 ?_
        refine lv_aload_n hx hb dX0_pass_127 rfl (lv_at hl 3 rfl) ?_
        refine va_get (D := D) (ci := 0) (v := .ref (q + 9)) (C := RX0) (T := TX0) (N := 13) hx hb hts hinX0 hown hK hP 0 rfl rfl 8 (by decide) hf36 (fun _ h9 => h9) rfl dX0_pass_128 ?_
        refine lv_iconst (v := 1) hx hb dX0_pass_131 (by decide) ?_
        refine g_iald (f := (lLi L)) (k := 1) hx hb hK hP 9 0 rfl rfl (vin_lit rfl) rfl dX0_pass_132 ?_
        refine lv_icmp_gt (tgt := 138) hx hb dX0_pass_133 (by decide) (fun c6 => ?_) (fun c6 => ?_)
        · replace h := (if_pos c6).symm.trans h
          refine lv_aload_n hx hb dX0_pass_138 rfl (lv_at hl 3 rfl) ?_
          refine va_get (D := D) (ci := 0) (v := .ref (q + 6)) (C := RX0) (T := TX0) (N := 13) hx hb hts hinX0 hown hK hP 0 rfl rfl 5 (by decide) hf27 (fun _ h9 => h9) rfl dX0_pass_139 ?_
          refine lv_iload_n hx hb dX0_pass_142 rfl (lv_at hl 4 rfl) ?_
          refine lv_iconst (v := 2) hx hb dX0_pass_143 (by decide) ?_
          refine g_iast (f := (lPl L)) (k := p0.toNatClampNeg) hx hb hK hP LW_self hS 6 0 rfl rfl hg1 rfl dX0_pass_144 (fun H locs hP hS => ?_)
          have hP : va_P D vwCl (LW cI q ((lWe L), (upd (lCy L) p0.toNatClampNeg (((lCy L) p0.toNatClampNeg) + 1)), (upd (lWr L) p0.toNatClampNeg (((lWr L) p0.toNatClampNeg) + (1 + ((lWe L) p0.toNatClampNeg)))), (upd (lPu L) p0.toNatClampNeg (((lPu L) p0.toNatClampNeg) + 1)), (upd (lSl L) p0.toNatClampNeg ((((upd (lWr L) p0.toNatClampNeg (((lWr L) p0.toNatClampNeg) + (1 + ((lWe L) p0.toNatClampNeg)))) p0.toNatClampNeg) / 4) + ((p1 / 16) - (p1 / 16) / 5 * 5))), (upd (lPl L) p0.toNatClampNeg 2), (lSp L), (lSt L), (lLi L), (lN_ L), (lStn L), (lClk L), (lRnd L))) H := hP
          refine lv_aload_n hx hb dX0_pass_145 rfl (lv_at hl 3 rfl) ?_
          refine va_get (D := D) (ci := 0) (v := .ref (q + 8)) (C := RX0) (T := TX0) (N := 13) hx hb hts hinX0 hown hK hP 0 rfl rfl 7 (by decide) hf33 (fun _ h9 => h9) rfl dX0_pass_146 ?_
          refine lv_iload_n hx hb dX0_pass_149 rfl (lv_at hl 4 rfl) ?_
          refine lv_aload_n hx hb dX0_pass_150 rfl (lv_at hl 3 rfl) ?_
          refine va_get (D := D) (ci := 0) (v := .ref (q + 9)) (C := RX0) (T := TX0) (N := 13) hx hb hts hinX0 hown hK hP 0 rfl rfl 8 (by decide) hf36 (fun _ h9 => h9) rfl dX0_pass_151 ?_
          refine lv_iconst (v := 4) hx hb dX0_pass_154 (by decide) ?_
          refine g_iald (f := (lLi L)) (k := 4) hx hb hK hP 9 0 rfl rfl (vin_lit rfl) rfl dX0_pass_155 ?_
          refine g_iast (f := (lSt L)) (k := p0.toNatClampNeg) hx hb hK hP LW_self hS 8 0 rfl rfl hg1 rfl dX0_pass_156 (fun H locs hP hS => ?_)
          have hP : va_P D vwCl (LW cI q ((lWe L), (upd (lCy L) p0.toNatClampNeg (((lCy L) p0.toNatClampNeg) + 1)), (upd (lWr L) p0.toNatClampNeg (((lWr L) p0.toNatClampNeg) + (1 + ((lWe L) p0.toNatClampNeg)))), (upd (lPu L) p0.toNatClampNeg (((lPu L) p0.toNatClampNeg) + 1)), (upd (lSl L) p0.toNatClampNeg ((((upd (lWr L) p0.toNatClampNeg (((lWr L) p0.toNatClampNeg) + (1 + ((lWe L) p0.toNatClampNeg)))) p0.toNatClampNeg) / 4) + ((p1 / 16) - (p1 / 16) / 5 * 5))), (upd (lPl L) p0.toNatClampNeg 2), (lSp L), (upd (lSt L) p0.toNatClampNeg ((lLi L) 4)), (lLi L), (lN_ L), (lStn L), (lClk L), (lRnd L))) H := hP
          refine lv_iconst (v := 1) hx hb dX0_pass_157 (by decide) ?_
          refine lv_iload hx hb dX0_pass_158 (lv_at hl 1 rfl) ?_
          refine lv_if_eq (tgt := 167) hx hb dX0_pass_160 (by decide) (fun _ => ?_) (fun c => absurd c (by decide))
          refine lv_iconst (v := 4) hx hb dX0_pass_167 (by decide) ?_
          refine lv_ior hx hb dX0_pass_168 ?_
          have h := Option.some.inj h
          subst h
          exact W.iret (v := (1 ||| 4)) hx hb hr (fun t ht hW => ⟨⟨_, (), rfl, rfl, gh ht hP⟩, hS.F ht⟩) hS.2.2 dX0_pass_169
        · replace h := (if_neg c6).symm.trans h
          refine lv_iconst (v := 1) hx hb dX0_pass_136 (by decide) ?_
          have h := Option.some.inj h
          subst h
          exact W.iret (v := 1) hx hb hr (fun t ht hW => ⟨⟨_, (), rfl, rfl, gh ht hP⟩, hS.F ht⟩) hS.2.2 dX0_pass_137
  · replace h := (if_neg c2).symm.trans h
    refine lv_iconst (v := 1) hx hb dX0_pass_49 (by decide) ?_
    refine lv_goto (tgt := 54) hx hb dX0_pass_50 (by decide) ?_
    refine lv_istore (lv' := [(4, .int 1), (3, .int ((lLi L) 2)), (0, .ref q), (1, .int p0), (2, .int p1)]) hx hb dX0_pass_54 hl (by decide) rfl (fun ls hl => ?_)
    refine lv_iload_n hx hb dX0_pass_56 rfl (lv_at hl 1 rfl) ?_
    refine lv_if_le (tgt := 70) hx hb dX0_pass_57 (by decide) (fun c7 => ?_) (fun c7 => ?_)
    · replace h := (if_pos c7).symm.trans h
      refine lv_iconst (v := 0) hx hb dX0_pass_70 (by decide) ?_
      refine lv_istore (lv' := [(5, .int 0), (4, .int 1), (3, .int ((lLi L) 2)), (0, .ref q), (1, .int p0), (2, .int p1)]) hx hb dX0_pass_71 hl (by decide) rfl (fun ls hl => ?_)
      refine lv_iload hx hb dX0_pass_73 (lv_at hl 1 rfl) ?_
      refine lv_if_ne (tgt := 85) hx hb dX0_pass_75 (by decide) (fun _ => ?_) (fun c => absurd c (by decide))
      refine lv_aload_n hx hb dX0_pass_85 rfl (lv_at hl 3 rfl) ?_
      refine va_get (D := D) (ci := 0) (v := .ref (q + 4)) (C := RX0) (T := TX0) (N := 13) hx hb hts hinX0 hown hK hP 0 rfl rfl 3 (by decide) hf21 (fun _ h9 => h9) rfl dX0_pass_86 ?_
      refine lv_iload_n hx hb dX0_pass_89 rfl (lv_at hl 4 rfl) ?_
      refine lv_dup2_11 hx hb dX0_pass_90 rfl rfl ?_
      refine g_iald (f := (lPu L)) (k := p0.toNatClampNeg) hx hb hK hP 4 0 rfl rfl hg1 rfl dX0_pass_91 ?_
      refine lv_iconst (v := 1) hx hb dX0_pass_92 (by decide) ?_
      refine lv_iadd hx hb dX0_pass_93 ?_
      refine g_iast (f := (lPu L)) (k := p0.toNatClampNeg) hx hb hK hP LW_self hS 4 0 rfl rfl hg1 rfl dX0_pass_94 (fun H locs hP hS => ?_)
      have hP : va_P D vwCl (LW cI q ((lWe L), (upd (lCy L) p0.toNatClampNeg (((lCy L) p0.toNatClampNeg) + 1)), (upd (lWr L) p0.toNatClampNeg (((lWr L) p0.toNatClampNeg) + (1 + ((lWe L) p0.toNatClampNeg)))), (upd (lPu L) p0.toNatClampNeg (((lPu L) p0.toNatClampNeg) + 1)), (lSl L), (lPl L), (lSp L), (lSt L), (lLi L), (lN_ L), (lStn L), (lClk L), (lRnd L))) H := hP
      refine lv_aload_n hx hb dX0_pass_95 rfl (lv_at hl 3 rfl) ?_
      refine va_get (D := D) (ci := 0) (v := .ref (q + 5)) (C := RX0) (T := TX0) (N := 13) hx hb hts hinX0 hown hK hP 0 rfl rfl 4 (by decide) hf24 (fun _ h9 => h9) rfl dX0_pass_96 ?_
      refine lv_iload_n hx hb dX0_pass_99 rfl (lv_at hl 4 rfl) ?_
      refine lv_aload_n hx hb dX0_pass_100 rfl (lv_at hl 3 rfl) ?_
      refine va_get (D := D) (ci := 0) (v := .ref (q + 3)) (C := RX0) (T := TX0) (N := 13) hx hb hts hinX0 hown hK hP 0 rfl rfl 2 (by decide) hf18 (fun _ h9 => h9) rfl dX0_pass_101 ?_
      refine lv_iload_n hx hb dX0_pass_104 rfl (lv_at hl 4 rfl) ?_
      refine g_iald (f := (upd (lWr L) p0.toNatClampNeg (((lWr L) p0.toNatClampNeg) + (1 + ((lWe L) p0.toNatClampNeg))))) (k := p0.toNatClampNeg) hx hb hK hP 3 0 rfl rfl hg1 rfl dX0_pass_105 ?_
      refine lv_iconst (v := 4) hx hb dX0_pass_106 (by decide) ?_
      refine lv_idiv hx hb dX0_pass_107 (by decide) ?_
      refine lv_iload_n hx hb dX0_pass_108 rfl (lv_at hl 5 rfl) ?_
      refine lv_bipush (v := 16) hx hb dX0_pass_109 (by decide) ?_
      refine lv_idiv hx hb dX0_pass_111 (by decide) ?_
      refine lv_iconst (v := 5) hx hb dX0_pass_112 (by decide) ?_
      refine lv_irem hx hb dX0_pass_113 (by decide) ?_
      refine lv_iadd hx hb dX0_pass_114 ?_
      refine g_iast (f := (lSl L)) (k := p0.toNatClampNeg) hx hb hK hP LW_self hS 5 0 rfl rfl hg1 rfl dX0_pass_115 (fun H locs hP hS => ?_)
      have hP : va_P D vwCl (LW cI q ((lWe L), (upd (lCy L) p0.toNatClampNeg (((lCy L) p0.toNatClampNeg) + 1)), (upd (lWr L) p0.toNatClampNeg (((lWr L) p0.toNatClampNeg) + (1 + ((lWe L) p0.toNatClampNeg)))), (upd (lPu L) p0.toNatClampNeg (((lPu L) p0.toNatClampNeg) + 1)), (upd (lSl L) p0.toNatClampNeg ((((upd (lWr L) p0.toNatClampNeg (((lWr L) p0.toNatClampNeg) + (1 + ((lWe L) p0.toNatClampNeg)))) p0.toNatClampNeg) / 4) + ((p1 / 16) - (p1 / 16) / 5 * 5))), (lPl L), (lSp L), (lSt L), (lLi L), (lN_ L), (lStn L), (lClk L), (lRnd L))) H := hP
      refine lv_iload hx hb dX0_pass_116 (lv_at hl 1 rfl) ?_
      refine lv_if_ne (tgt := 138) hx hb dX0_pass_118 (by decide) (fun _ => ?_) (fun c => absurd c (by decide))
      refine lv_aload_n hx hb dX0_pass_138 rfl (lv_at hl 3 rfl) ?_
      refine va_get (D := D) (ci := 0) (v := .ref (q + 6)) (C := RX0) (T := TX0) (N := 13) hx hb hts hinX0 hown hK hP 0 rfl rfl 5 (by decide) hf27 (fun _ h9 => h9) rfl dX0_pass_139 ?_
      refine lv_iload_n hx hb dX0_pass_142 rfl (lv_at hl 4 rfl) ?_
      refine lv_iconst (v := 2) hx hb dX0_pass_143 (by decide) ?_
      refine g_iast (f := (lPl L)) (k := p0.toNatClampNeg) hx hb hK hP LW_self hS 6 0 rfl rfl hg1 rfl dX0_pass_144 (fun H locs hP hS => ?_)
      have hP : va_P D vwCl (LW cI q ((lWe L), (upd (lCy L) p0.toNatClampNeg (((lCy L) p0.toNatClampNeg) + 1)), (upd (lWr L) p0.toNatClampNeg (((lWr L) p0.toNatClampNeg) + (1 + ((lWe L) p0.toNatClampNeg)))), (upd (lPu L) p0.toNatClampNeg (((lPu L) p0.toNatClampNeg) + 1)), (upd (lSl L) p0.toNatClampNeg ((((upd (lWr L) p0.toNatClampNeg (((lWr L) p0.toNatClampNeg) + (1 + ((lWe L) p0.toNatClampNeg)))) p0.toNatClampNeg) / 4) + ((p1 / 16) - (p1 / 16) / 5 * 5))), (upd (lPl L) p0.toNatClampNeg 2), (lSp L), (lSt L), (lLi L), (lN_ L), (lStn L), (lClk L), (lRnd L))) H := hP
      refine lv_aload_n hx hb dX0_pass_145 rfl (lv_at hl 3 rfl) ?_
      refine va_get (D := D) (ci := 0) (v := .ref (q + 8)) (C := RX0) (T := TX0) (N := 13) hx hb hts hinX0 hown hK hP 0 rfl rfl 7 (by decide) hf33 (fun _ h9 => h9) rfl dX0_pass_146 ?_
      refine lv_iload_n hx hb dX0_pass_149 rfl (lv_at hl 4 rfl) ?_
      refine lv_aload_n hx hb dX0_pass_150 rfl (lv_at hl 3 rfl) ?_
      refine va_get (D := D) (ci := 0) (v := .ref (q + 9)) (C := RX0) (T := TX0) (N := 13) hx hb hts hinX0 hown hK hP 0 rfl rfl 8 (by decide) hf36 (fun _ h9 => h9) rfl dX0_pass_151 ?_
      refine lv_iconst (v := 4) hx hb dX0_pass_154 (by decide) ?_
      refine g_iald (f := (lLi L)) (k := 4) hx hb hK hP 9 0 rfl rfl (vin_lit rfl) rfl dX0_pass_155 ?_
      refine g_iast (f := (lSt L)) (k := p0.toNatClampNeg) hx hb hK hP LW_self hS 8 0 rfl rfl hg1 rfl dX0_pass_156 (fun H locs hP hS => ?_)
      have hP : va_P D vwCl (LW cI q ((lWe L), (upd (lCy L) p0.toNatClampNeg (((lCy L) p0.toNatClampNeg) + 1)), (upd (lWr L) p0.toNatClampNeg (((lWr L) p0.toNatClampNeg) + (1 + ((lWe L) p0.toNatClampNeg)))), (upd (lPu L) p0.toNatClampNeg (((lPu L) p0.toNatClampNeg) + 1)), (upd (lSl L) p0.toNatClampNeg ((((upd (lWr L) p0.toNatClampNeg (((lWr L) p0.toNatClampNeg) + (1 + ((lWe L) p0.toNatClampNeg)))) p0.toNatClampNeg) / 4) + ((p1 / 16) - (p1 / 16) / 5 * 5))), (upd (lPl L) p0.toNatClampNeg 2), (lSp L), (upd (lSt L) p0.toNatClampNeg ((lLi L) 4)), (lLi L), (lN_ L), (lStn L), (lClk L), (lRnd L))) H := hP
      refine lv_iconst (v := 1) hx hb dX0_pass_157 (by decide) ?_
      refine lv_iload hx hb dX0_pass_158 (lv_at hl 1 rfl) ?_
      refine lv_if_eq (tgt := 167) hx hb dX0_pass_160 (by decide) (fun c => absurd c (by decide)) (fun _ => ?_)
      refine lv_iconst (v := 2) hx hb dX0_pass_163 (by decide) ?_
      refine lv_goto (tgt := 168) hx hb dX0_pass_164 (by decide) ?_
      refine lv_ior hx hb dX0_pass_168 ?_
      have h := Option.some.inj h
      subst h
      exact W.iret (v := (1 ||| 2)) hx hb hr (fun t ht hW => ⟨⟨_, (), rfl, rfl, gh ht hP⟩, hS.F ht⟩) hS.2.2 dX0_pass_169
    · replace h := (if_neg c7).symm.trans h
      refine lv_iload_n hx hb dX0_pass_60 rfl (lv_at hl 4 rfl) ?_
      refine lv_iload_n hx hb dX0_pass_61 rfl (lv_at hl 1 rfl) ?_
      obtain ⟨hn8, h⟩ := nz_some h
      refine lv_irem hx hb dX0_pass_62 hn8 ?_
      refine lv_if_ne (tgt := 70) hx hb dX0_pass_63 (by decide) (fun c9 => ?_) (fun c9 => ?_)
      · replace h := (if_neg c9).symm.trans h
        refine lv_iconst (v := 0) hx hb dX0_pass_70 (by decide) ?_
        refine lv_istore (lv' := [(5, .int 0), (4, .int 1), (3, .int ((lLi L) 2)), (0, .ref q), (1, .int p0), (2, .int p1)]) hx hb dX0_pass_71 hl (by decide) rfl (fun ls hl => ?_)
        refine lv_iload hx hb dX0_pass_73 (lv_at hl 1 rfl) ?_
        refine lv_if_ne (tgt := 85) hx hb dX0_pass_75 (by decide) (fun _ => ?_) (fun c => absurd c (by decide))
        refine lv_aload_n hx hb dX0_pass_85 rfl (lv_at hl 3 rfl) ?_
        refine va_get (D := D) (ci := 0) (v := .ref (q + 4)) (C := RX0) (T := TX0) (N := 13) hx hb hts hinX0 hown hK hP 0 rfl rfl 3 (by decide) hf21 (fun _ h9 => h9) rfl dX0_pass_86 ?_
        refine lv_iload_n hx hb dX0_pass_89 rfl (lv_at hl 4 rfl) ?_
        refine lv_dup2_11 hx hb dX0_pass_90 rfl rfl ?_
        refine g_iald (f := (lPu L)) (k := p0.toNatClampNeg) hx hb hK hP 4 0 rfl rfl hg1 rfl dX0_pass_91 ?_
        refine lv_iconst (v := 1) hx hb dX0_pass_92 (by decide) ?_
        refine lv_iadd hx hb dX0_pass_93 ?_
        refine g_iast (f := (lPu L)) (k := p0.toNatClampNeg) hx hb hK hP LW_self hS 4 0 rfl rfl hg1 rfl dX0_pass_94 (fun H locs hP hS => ?_)
        have hP : va_P D vwCl (LW cI q ((lWe L), (upd (lCy L) p0.toNatClampNeg (((lCy L) p0.toNatClampNeg) + 1)), (upd (lWr L) p0.toNatClampNeg (((lWr L) p0.toNatClampNeg) + (1 + ((lWe L) p0.toNatClampNeg)))), (upd (lPu L) p0.toNatClampNeg (((lPu L) p0.toNatClampNeg) + 1)), (lSl L), (lPl L), (lSp L), (lSt L), (lLi L), (lN_ L), (lStn L), (lClk L), (lRnd L))) H := hP
        refine lv_aload_n hx hb dX0_pass_95 rfl (lv_at hl 3 rfl) ?_
        refine va_get (D := D) (ci := 0) (v := .ref (q + 5)) (C := RX0) (T := TX0) (N := 13) hx hb hts hinX0 hown hK hP 0 rfl rfl 4 (by decide) hf24 (fun _ h9 => h9) rfl dX0_pass_96 ?_
        refine lv_iload_n hx hb dX0_pass_99 rfl (lv_at hl 4 rfl) ?_
        refine lv_aload_n hx hb dX0_pass_100 rfl (lv_at hl 3 rfl) ?_
        refine va_get (D := D) (ci := 0) (v := .ref (q + 3)) (C := RX0) (T := TX0) (N := 13) hx hb hts hinX0 hown hK hP 0 rfl rfl 2 (by decide) hf18 (fun _ h9 => h9) rfl dX0_pass_101 ?_
        refine lv_iload_n hx hb dX0_pass_104 rfl (lv_at hl 4 rfl) ?_
        refine g_iald (f := (upd (lWr L) p0.toNatClampNeg (((lWr L) p0.toNatClampNeg) + (1 + ((lWe L) p0.toNatClampNeg))))) (k := p0.toNatClampNeg) hx hb hK hP 3 0 rfl rfl hg1 rfl dX0_pass_105 ?_
        refine lv_iconst (v := 4) hx hb dX0_pass_106 (by decide) ?_
        refine lv_idiv hx hb dX0_pass_107 (by decide) ?_
        refine lv_iload_n hx hb dX0_pass_108 rfl (lv_at hl 5 rfl) ?_
        refine lv_bipush (v := 16) hx hb dX0_pass_109 (by decide) ?_
        refine lv_idiv hx hb dX0_pass_111 (by decide) ?_
        refine lv_iconst (v := 5) hx hb dX0_pass_112 (by decide) ?_
        refine lv_irem hx hb dX0_pass_113 (by decide) ?_
        refine lv_iadd hx hb dX0_pass_114 ?_
        refine g_iast (f := (lSl L)) (k := p0.toNatClampNeg) hx hb hK hP LW_self hS 5 0 rfl rfl hg1 rfl dX0_pass_115 (fun H locs hP hS => ?_)
        have hP : va_P D vwCl (LW cI q ((lWe L), (upd (lCy L) p0.toNatClampNeg (((lCy L) p0.toNatClampNeg) + 1)), (upd (lWr L) p0.toNatClampNeg (((lWr L) p0.toNatClampNeg) + (1 + ((lWe L) p0.toNatClampNeg)))), (upd (lPu L) p0.toNatClampNeg (((lPu L) p0.toNatClampNeg) + 1)), (upd (lSl L) p0.toNatClampNeg ((((upd (lWr L) p0.toNatClampNeg (((lWr L) p0.toNatClampNeg) + (1 + ((lWe L) p0.toNatClampNeg)))) p0.toNatClampNeg) / 4) + ((p1 / 16) - (p1 / 16) / 5 * 5))), (lPl L), (lSp L), (lSt L), (lLi L), (lN_ L), (lStn L), (lClk L), (lRnd L))) H := hP
        refine lv_iload hx hb dX0_pass_116 (lv_at hl 1 rfl) ?_
        refine lv_if_ne (tgt := 138) hx hb dX0_pass_118 (by decide) (fun _ => ?_) (fun c => absurd c (by decide))
        refine lv_aload_n hx hb dX0_pass_138 rfl (lv_at hl 3 rfl) ?_
        refine va_get (D := D) (ci := 0) (v := .ref (q + 6)) (C := RX0) (T := TX0) (N := 13) hx hb hts hinX0 hown hK hP 0 rfl rfl 5 (by decide) hf27 (fun _ h9 => h9) rfl dX0_pass_139 ?_
        refine lv_iload_n hx hb dX0_pass_142 rfl (lv_at hl 4 rfl) ?_
        refine lv_iconst (v := 2) hx hb dX0_pass_143 (by decide) ?_
        refine g_iast (f := (lPl L)) (k := p0.toNatClampNeg) hx hb hK hP LW_self hS 6 0 rfl rfl hg1 rfl dX0_pass_144 (fun H locs hP hS => ?_)
        have hP : va_P D vwCl (LW cI q ((lWe L), (upd (lCy L) p0.toNatClampNeg (((lCy L) p0.toNatClampNeg) + 1)), (upd (lWr L) p0.toNatClampNeg (((lWr L) p0.toNatClampNeg) + (1 + ((lWe L) p0.toNatClampNeg)))), (upd (lPu L) p0.toNatClampNeg (((lPu L) p0.toNatClampNeg) + 1)), (upd (lSl L) p0.toNatClampNeg ((((upd (lWr L) p0.toNatClampNeg (((lWr L) p0.toNatClampNeg) + (1 + ((lWe L) p0.toNatClampNeg)))) p0.toNatClampNeg) / 4) + ((p1 / 16) - (p1 / 16) / 5 * 5))), (upd (lPl L) p0.toNatClampNeg 2), (lSp L), (lSt L), (lLi L), (lN_ L), (lStn L), (lClk L), (lRnd L))) H := hP
        refine lv_aload_n hx hb dX0_pass_145 rfl (lv_at hl 3 rfl) ?_
        refine va_get (D := D) (ci := 0) (v := .ref (q + 8)) (C := RX0) (T := TX0) (N := 13) hx hb hts hinX0 hown hK hP 0 rfl rfl 7 (by decide) hf33 (fun _ h9 => h9) rfl dX0_pass_146 ?_
        refine lv_iload_n hx hb dX0_pass_149 rfl (lv_at hl 4 rfl) ?_
        refine lv_aload_n hx hb dX0_pass_150 rfl (lv_at hl 3 rfl) ?_
        refine va_get (D := D) (ci := 0) (v := .ref (q + 9)) (C := RX0) (T := TX0) (N := 13) hx hb hts hinX0 hown hK hP 0 rfl rfl 8 (by decide) hf36 (fun _ h9 => h9) rfl dX0_pass_151 ?_
        refine lv_iconst (v := 4) hx hb dX0_pass_154 (by decide) ?_
        refine g_iald (f := (lLi L)) (k := 4) hx hb hK hP 9 0 rfl rfl (vin_lit rfl) rfl dX0_pass_155 ?_
        refine g_iast (f := (lSt L)) (k := p0.toNatClampNeg) hx hb hK hP LW_self hS 8 0 rfl rfl hg1 rfl dX0_pass_156 (fun H locs hP hS => ?_)
        have hP : va_P D vwCl (LW cI q ((lWe L), (upd (lCy L) p0.toNatClampNeg (((lCy L) p0.toNatClampNeg) + 1)), (upd (lWr L) p0.toNatClampNeg (((lWr L) p0.toNatClampNeg) + (1 + ((lWe L) p0.toNatClampNeg)))), (upd (lPu L) p0.toNatClampNeg (((lPu L) p0.toNatClampNeg) + 1)), (upd (lSl L) p0.toNatClampNeg ((((upd (lWr L) p0.toNatClampNeg (((lWr L) p0.toNatClampNeg) + (1 + ((lWe L) p0.toNatClampNeg)))) p0.toNatClampNeg) / 4) + ((p1 / 16) - (p1 / 16) / 5 * 5))), (upd (lPl L) p0.toNatClampNeg 2), (lSp L), (upd (lSt L) p0.toNatClampNeg ((lLi L) 4)), (lLi L), (lN_ L), (lStn L), (lClk L), (lRnd L))) H := hP
        refine lv_iconst (v := 1) hx hb dX0_pass_157 (by decide) ?_
        refine lv_iload hx hb dX0_pass_158 (lv_at hl 1 rfl) ?_
        refine lv_if_eq (tgt := 167) hx hb dX0_pass_160 (by decide) (fun c => absurd c (by decide)) (fun _ => ?_)
        refine lv_iconst (v := 2) hx hb dX0_pass_163 (by decide) ?_
        refine lv_goto (tgt := 168) hx hb dX0_pass_164 (by decide) ?_
        refine lv_ior hx hb dX0_pass_168 ?_
        have h := Option.some.inj h
        subst h
        exact W.iret (v := (1 ||| 2)) hx hb hr (fun t ht hW => ⟨⟨_, (), rfl, rfl, gh ht hP⟩, hS.F ht⟩) hS.2.2 dX0_pass_169
      · replace h := (if_pos c9).symm.trans h
        refine lv_iconst (v := 1) hx hb dX0_pass_66 (by decide) ?_
        refine lv_goto (tgt := 71) hx hb dX0_pass_67 (by decide) ?_
        refine lv_istore (lv' := [(5, .int 1), (4, .int 1), (3, .int ((lLi L) 2)), (0, .ref q), (1, .int p0), (2, .int p1)]) hx hb dX0_pass_71 hl (by decide) rfl (fun ls hl => ?_)
        refine lv_iload hx hb dX0_pass_73 (lv_at hl 1 rfl) ?_
        refine lv_if_ne (tgt := 85) hx hb dX0_pass_75 (by decide) (fun _ => ?_) (fun c => absurd c (by decide))
        refine lv_aload_n hx hb dX0_pass_85 rfl (lv_at hl 3 rfl) ?_
        refine va_get (D := D) (ci := 0) (v := .ref (q + 4)) (C := RX0) (T := TX0) (N := 13) hx hb hts hinX0 hown hK hP 0 rfl rfl 3 (by decide) hf21 (fun _ h9 => h9) rfl dX0_pass_86 ?_
        refine lv_iload_n hx hb dX0_pass_89 rfl (lv_at hl 4 rfl) ?_
        refine lv_dup2_11 hx hb dX0_pass_90 rfl rfl ?_
        refine g_iald (f := (lPu L)) (k := p0.toNatClampNeg) hx hb hK hP 4 0 rfl rfl hg1 rfl dX0_pass_91 ?_
        refine lv_iconst (v := 1) hx hb dX0_pass_92 (by decide) ?_
        refine lv_iadd hx hb dX0_pass_93 ?_
        refine g_iast (f := (lPu L)) (k := p0.toNatClampNeg) hx hb hK hP LW_self hS 4 0 rfl rfl hg1 rfl dX0_pass_94 (fun H locs hP hS => ?_)
        have hP : va_P D vwCl (LW cI q ((lWe L), (upd (lCy L) p0.toNatClampNeg (((lCy L) p0.toNatClampNeg) + 1)), (upd (lWr L) p0.toNatClampNeg (((lWr L) p0.toNatClampNeg) + (1 + ((lWe L) p0.toNatClampNeg)))), (upd (lPu L) p0.toNatClampNeg (((lPu L) p0.toNatClampNeg) + 1)), (lSl L), (lPl L), (lSp L), (lSt L), (lLi L), (lN_ L), (lStn L), (lClk L), (lRnd L))) H := hP
        refine lv_aload_n hx hb dX0_pass_95 rfl (lv_at hl 3 rfl) ?_
        refine va_get (D := D) (ci := 0) (v := .ref (q + 5)) (C := RX0) (T := TX0) (N := 13) hx hb hts hinX0 hown hK hP 0 rfl rfl 4 (by decide) hf24 (fun _ h9 => h9) rfl dX0_pass_96 ?_
        refine lv_iload_n hx hb dX0_pass_99 rfl (lv_at hl 4 rfl) ?_
        refine lv_aload_n hx hb dX0_pass_100 rfl (lv_at hl 3 rfl) ?_
        refine va_get (D := D) (ci := 0) (v := .ref (q + 3)) (C := RX0) (T := TX0) (N := 13) hx hb hts hinX0 hown hK hP 0 rfl rfl 2 (by decide) hf18 (fun _ h9 => h9) rfl dX0_pass_101 ?_
        refine lv_iload_n hx hb dX0_pass_104 rfl (lv_at hl 4 rfl) ?_
        refine g_iald (f := (upd (lWr L) p0.toNatClampNeg (((lWr L) p0.toNatClampNeg) + (1 + ((lWe L) p0.toNatClampNeg))))) (k := p0.toNatClampNeg) hx hb hK hP 3 0 rfl rfl hg1 rfl dX0_pass_105 ?_
        refine lv_iconst (v := 4) hx hb dX0_pass_106 (by decide) ?_
        refine lv_idiv hx hb dX0_pass_107 (by decide) ?_
        refine lv_iload_n hx hb dX0_pass_108 rfl (lv_at hl 5 rfl) ?_
        refine lv_bipush (v := 16) hx hb dX0_pass_109 (by decide) ?_
        refine lv_idiv hx hb dX0_pass_111 (by decide) ?_
        refine lv_iconst (v := 5) hx hb dX0_pass_112 (by decide) ?_
        refine lv_irem hx hb dX0_pass_113 (by decide) ?_
        refine lv_iadd hx hb dX0_pass_114 ?_
        refine g_iast (f := (lSl L)) (k := p0.toNatClampNeg) hx hb hK hP LW_self hS 5 0 rfl rfl hg1 rfl dX0_pass_115 (fun H locs hP hS => ?_)
        have hP : va_P D vwCl (LW cI q ((lWe L), (upd (lCy L) p0.toNatClampNeg (((lCy L) p0.toNatClampNeg) + 1)), (upd (lWr L) p0.toNatClampNeg (((lWr L) p0.toNatClampNeg) + (1 + ((lWe L) p0.toNatClampNeg)))), (upd (lPu L) p0.toNatClampNeg (((lPu L) p0.toNatClampNeg) + 1)), (upd (lSl L) p0.toNatClampNeg ((((upd (lWr L) p0.toNatClampNeg (((lWr L) p0.toNatClampNeg) + (1 + ((lWe L) p0.toNatClampNeg)))) p0.toNatClampNeg) / 4) + ((p1 / 16) - (p1 / 16) / 5 * 5))), (lPl L), (lSp L), (lSt L), (lLi L), (lN_ L), (lStn L), (lClk L), (lRnd L))) H := hP
        refine lv_iload hx hb dX0_pass_116 (lv_at hl 1 rfl) ?_
        refine lv_if_ne (tgt := 138) hx hb dX0_pass_118 (by decide) (fun _ => ?_) (fun c => absurd c (by decide))
        refine lv_aload_n hx hb dX0_pass_138 rfl (lv_at hl 3 rfl) ?_
        refine va_get (D := D) (ci := 0) (v := .ref (q + 6)) (C := RX0) (T := TX0) (N := 13) hx hb hts hinX0 hown hK hP 0 rfl rfl 5 (by decide) hf27 (fun _ h9 => h9) rfl dX0_pass_139 ?_
        refine lv_iload_n hx hb dX0_pass_142 rfl (lv_at hl 4 rfl) ?_
        refine lv_iconst (v := 2) hx hb dX0_pass_143 (by decide) ?_
        refine g_iast (f := (lPl L)) (k := p0.toNatClampNeg) hx hb hK hP LW_self hS 6 0 rfl rfl hg1 rfl dX0_pass_144 (fun H locs hP hS => ?_)
        have hP : va_P D vwCl (LW cI q ((lWe L), (upd (lCy L) p0.toNatClampNeg (((lCy L) p0.toNatClampNeg) + 1)), (upd (lWr L) p0.toNatClampNeg (((lWr L) p0.toNatClampNeg) + (1 + ((lWe L) p0.toNatClampNeg)))), (upd (lPu L) p0.toNatClampNeg (((lPu L) p0.toNatClampNeg) + 1)), (upd (lSl L) p0.toNatClampNeg ((((upd (lWr L) p0.toNatClampNeg (((lWr L) p0.toNatClampNeg) + (1 + ((lWe L) p0.toNatClampNeg)))) p0.toNatClampNeg) / 4) + ((p1 / 16) - (p1 / 16) / 5 * 5))), (upd (lPl L) p0.toNatClampNeg 2), (lSp L), (lSt L), (lLi L), (lN_ L), (lStn L), (lClk L), (lRnd L))) H := hP
        refine lv_aload_n hx hb dX0_pass_145 rfl (lv_at hl 3 rfl) ?_
        refine va_get (D := D) (ci := 0) (v := .ref (q + 8)) (C := RX0) (T := TX0) (N := 13) hx hb hts hinX0 hown hK hP 0 rfl rfl 7 (by decide) hf33 (fun _ h9 => h9) rfl dX0_pass_146 ?_
        refine lv_iload_n hx hb dX0_pass_149 rfl (lv_at hl 4 rfl) ?_
        refine lv_aload_n hx hb dX0_pass_150 rfl (lv_at hl 3 rfl) ?_
        refine va_get (D := D) (ci := 0) (v := .ref (q + 9)) (C := RX0) (T := TX0) (N := 13) hx hb hts hinX0 hown hK hP 0 rfl rfl 8 (by decide) hf36 (fun _ h9 => h9) rfl dX0_pass_151 ?_
        refine lv_iconst (v := 4) hx hb dX0_pass_154 (by decide) ?_
        refine g_iald (f := (lLi L)) (k := 4) hx hb hK hP 9 0 rfl rfl (vin_lit rfl) rfl dX0_pass_155 ?_
        refine g_iast (f := (lSt L)) (k := p0.toNatClampNeg) hx hb hK hP LW_self hS 8 0 rfl rfl hg1 rfl dX0_pass_156 (fun H locs hP hS => ?_)
        have hP : va_P D vwCl (LW cI q ((lWe L), (upd (lCy L) p0.toNatClampNeg (((lCy L) p0.toNatClampNeg) + 1)), (upd (lWr L) p0.toNatClampNeg (((lWr L) p0.toNatClampNeg) + (1 + ((lWe L) p0.toNatClampNeg)))), (upd (lPu L) p0.toNatClampNeg (((lPu L) p0.toNatClampNeg) + 1)), (upd (lSl L) p0.toNatClampNeg ((((upd (lWr L) p0.toNatClampNeg (((lWr L) p0.toNatClampNeg) + (1 + ((lWe L) p0.toNatClampNeg)))) p0.toNatClampNeg) / 4) + ((p1 / 16) - (p1 / 16) / 5 * 5))), (upd (lPl L) p0.toNatClampNeg 2), (lSp L), (upd (lSt L) p0.toNatClampNeg ((lLi L) 4)), (lLi L), (lN_ L), (lStn L), (lClk L), (lRnd L))) H := hP
        refine lv_iconst (v := 1) hx hb dX0_pass_157 (by decide) ?_
        refine lv_iload hx hb dX0_pass_158 (lv_at hl 1 rfl) ?_
        refine lv_if_eq (tgt := 167) hx hb dX0_pass_160 (by decide) (fun c => absurd c (by decide)) (fun _ => ?_)
        refine lv_iconst (v := 2) hx hb dX0_pass_163 (by decide) ?_
        refine lv_goto (tgt := 168) hx hb dX0_pass_164 (by decide) ?_
        refine lv_ior hx hb dX0_pass_168 ?_
        have h := Option.some.inj h
        subst h
        exact W.iret (v := (1 ||| 2)) hx hb hr (fun t ht hW => ⟨⟨_, (), rfl, rfl, gh ht hP⟩, hS.F ht⟩) hS.2.2 dX0_pass_169

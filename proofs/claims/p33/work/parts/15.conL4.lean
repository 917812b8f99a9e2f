set_option maxHeartbeats 4000000 in
set_option maxRecDepth 100000 in
theorem kX0_advanceBy (l : Launch) (D : va_G) (cI cC cZ cQ cJ : ClassId) (q : Nat) (L : LSt) (p0 : Int32) {R : LSt} (h : fX0_advanceBy L p0 = some R) : Met l yX0_advanceBy wsX0_advanceBy ({ frames := 4, cells := 0, slots := 0, locals := 89 } : Room) (va_Pc [.ref q, .int p0] (gB D (gTy cI cC cZ cQ cJ) (va_P D vwCl (LW cI q L)))) (va_Qv (fun _ : Unit => True) (fun _ t => va_P D vwCl (LW cI q R) t.heap) (fIv q 10)) 0 0 (fIv q 10) := by
  refine Met.ofW (cc := cX0_advanceBy) (maxL := 3) (ret := none) (by decide) rfl ?_
  intro p e s m args below meth c s₁ B hml hv
  obtain ⟨rfl, hP, hK⟩ := hv
  have hx := B.exec
  have hb := B.bytes
  have hr := B.returns
  have hts := atoms_spec (ws := wsX0_advanceBy) B.pre
  have hown : s.vm.findClass RX0 = some m.cls := findClass_of_methodNamed B.named
  have hlocks := B.notSynchronized
  generalize hRM : (headSpec wsX0_advanceBy ({ frames := 4, cells := 0, slots := 0, locals := 89 } : Room)).room = RM
  replace hRM : ({ frames := 4, cells := 0, slots := 0, locals := 89 } : Room) = RM := hRM
  subst hRM
  have hl := lv_entry ([.ref q, .int p0]) (n := 3) (Nat.le_of_ble_eq_true rfl)
  rw [lg_entry_eq]
  generalize (lg_sl ([.ref q, .int p0]) ++ List.replicate (3 - (lg_sl ([.ref q, .int p0])).length) Slot.unset).toArray = ls at hl ⊢
  have hl : lv_has ls 3 [(0, .ref q), (1, .int p0)] := hl
  have hS : va_S (fIv q 10) s.heap s.heap [] := va_S.rf
  have LP2 : ∀ (n : Nat) (S : LSt) (x1 : Int32) (x2 : Int32) (H : Heap) (locs : List Loc) (ls : Array Slot), fX0_advanceBy_L2 n S x1 x2 = some R → va_P D vwCl (LW cI q S) H → va_S (fIv q 10) s.heap H locs → lv_has ls 3 [(0, .ref q), (1, .int x1), (2, .int x2)] → W p l e ({ frames := 4, cells := 0, slots := 0, locals := 89 } : Room) s m ([.ref q, .int p0] : List Value).toArray below meth c H locs 0 0 (MQ below (va_Qv (fun _ : Unit => True) (fun _ t => va_P D vwCl (LW cI q R) t.heap) (fIv q 10)) ([.ref q, .int p0] : List Value).toArray s 0 0 (fIv q 10)) (F0 m 2 ls []) := by
    intro n
    induction n with
    | zero => intro S x1 x2 H locs ls h hP hS hl; exact no_some h
    | succ n ih =>
      intro S x1 x2 H locs ls h hP hS hl
      rw [fX0_advanceBy_L2] at h
      refine lv_iload_n hx hb dX0_advanceBy_2 rfl (lv_at hl 2 rfl) ?_
      refine lv_iload_n hx hb dX0_advanceBy_3 rfl (lv_at hl 1 rfl) ?_
      refine lv_icmp_ge (tgt := 18) hx hb dX0_advanceBy_4 (by decide) (fun c1 => ?_) (fun c1 => ?_)
      · replace h := (if_pos c1).symm.trans h
        have h := Option.some.inj h
        subst h
        exact W.vret hx hb hr (fun t ht hW => ⟨⟨(), rfl, trivial, gh ht hP⟩, hS.F ht⟩) hS.2.2 dX0_advanceBy_18
      · replace h := (if_neg c1).symm.trans h
        refine lv_aload_n hx hb dX0_advanceBy_7 rfl (lv_at hl 0 rfl) ?_
        obtain ⟨r8, hr8, h⟩ := bd_some h
        refine gc_wi (As := []) (rest := []) ⟨hx, hb, hml, hown, hts⟩ hK (kX0_advance l D cI cC cZ cQ cJ q S hr8) (cwV 0 hts gX0_advanceBy_X0_advance rfl rfl rfl (by decide +kernel) ⟨Nat.le_of_ble_eq_true rfl, Nat.le_of_ble_eq_true rfl⟩) (va_recv hK hP (ci := 0) (q0 := 0) rfl rfl) hP hS (fun _ h => h) rfl hl.1 rfl (Nat.le_of_ble_eq_true rfl) ⟨Nat.zero_le _, Nat.zero_le _⟩ dX0_advanceBy_8 (fun H locs hP hS _ _ => ?_)
        refine lv_pop hx hb dX0_advanceBy_11 rfl ?_
        refine lv_iinc (v := (x2 + 1)) (lv' := [(2, .int (x2 + 1)), (0, .ref q), (1, .int x1)]) hx hb dX0_advanceBy_12 hl (k := 2) rfl rfl (by decide) rfl (fun ls hl => ?_)
        refine lv_goto (tgt := 2) hx hb dX0_advanceBy_15 (by decide) ?_
        exact ih r8.2 x1 (x2 + 1) H locs ls h hP hS (lv_sub hl [1, 2, 0] rfl)
  unfold fX0_advanceBy at h
  obtain ⟨H, hH⟩ : ∃ H, H = s.heap := ⟨_, rfl⟩
  obtain ⟨locs, hlz⟩ : ∃ z : List Loc, z = [] := ⟨_, rfl⟩
  have hP : va_P D vwCl (LW cI q L) H := by rw [hH]; exact hP
  have hS : va_S (fIv q 10) s.heap H locs := by rw [hH, hlz]; exact hS
  refine gc_at hH hlz ?_
  refine lv_iconst (v := 0) hx hb dX0_advanceBy_0 (by decide) ?_
  refine lv_istore_n (lv' := [(2, .int 0), (0, .ref q), (1, .int p0)]) hx hb dX0_advanceBy_1 rfl hl (by decide) rfl (fun ls hl => ?_)
  exact LP2 KF L p0 0 H locs ls h hP hS (lv_sub hl [1, 2, 0] rfl)
set_option maxHeartbeats 4000000 in
set_option maxRecDepth 100000 in
theorem kX0_roomySlots (l : Launch) (D : va_G) (cI cC cZ cQ cJ : ClassId) (q : Nat) (L : LSt) {R : Int32} (h : fX0_roomySlots L = some R) : Met l yX0_roomySlots wsX0_roomySlots ({ frames := 2, cells := 0, slots := 0, locals := 45 } : Room) (va_Pc [.ref q] (gB D (gTy cI cC cZ cQ cJ) (va_P D vwCl (LW cI q L)))) (vp_Si (fun r => r = R)) 0 0 (fun _ => False) := by
  refine Met.ofW (cc := cX0_roomySlots) (maxL := 3) (ret := (some .int)) (by decide) rfl ?_
  intro p e s m args below meth c s₁ B hml hv
  obtain ⟨rfl, hP, hK⟩ := hv
  have hx := B.exec
  have hb := B.bytes
  have hr := B.returns
  have hts := atoms_spec (ws := wsX0_roomySlots) B.pre
  have hown : s.vm.findClass RX0 = some m.cls := findClass_of_methodNamed B.named
  have hlocks := B.notSynchronized
  have hinX0 : ∀ w ∈ wsX00, w ∈ wsX0_roomySlots := by decide +kernel
  have hf42 := hts (.fieldLink RX0 42 "GripInspector$Lift" "n" "I") (by decide +kernel)
  generalize hRM : (headSpec wsX0_roomySlots ({ frames := 2, cells := 0, slots := 0, locals := 45 } : Room)).room = RM
  replace hRM : ({ frames := 2, cells := 0, slots := 0, locals := 45 } : Room) = RM := hRM
  subst hRM
  have hl := lv_entry ([.ref q]) (n := 3) (Nat.le_of_ble_eq_true rfl)
  rw [lg_entry_eq]
  generalize (lg_sl ([.ref q]) ++ List.replicate (3 - (lg_sl ([.ref q])).length) Slot.unset).toArray = ls at hl ⊢
  have hl : lv_has ls 3 [(0, .ref q)] := hl
  have LP4 : ∀ (n : Nat) (x1 : Int32) (x2 : Int32) (ls : Array Slot), fX0_roomySlots_L4 L n x1 x2 = some R → lv_has ls 3 [(0, .ref q), (1, .int x1), (2, .int x2)] → W p l e ({ frames := 2, cells := 0, slots := 0, locals := 45 } : Room) s m ([.ref q] : List Value).toArray below meth c s.heap [] 0 0 (MQ below (vp_Si (fun r => r = R)) ([.ref q] : List Value).toArray s 0 0 (fun _ => False)) (F0 m 4 ls []) := by
    intro n
    induction n with
    | zero => intro x1 x2 ls h hl; exact no_some h
    | succ n ih =>
      intro x1 x2 ls h hl
      rw [fX0_roomySlots_L4] at h
      refine lv_iload_n hx hb dX0_roomySlots_4 rfl (lv_at hl 2 rfl) ?_
      refine lv_aload_n hx hb dX0_roomySlots_5 rfl (lv_at hl 0 rfl) ?_
      refine va_get (D := D) (ci := 0) (v := .int (lN_ L)) (C := RX0) (T := TX0) (N := 13) hx hb hts hinX0 hown hK hP 0 rfl rfl 9 (by decide) hf42 (fun _ h9 => h9) rfl dX0_roomySlots_6 ?_
      refine lv_icmp_ge (tgt := 29) hx hb dX0_roomySlots_9 (by decide) (fun c1 => ?_) (fun c1 => ?_)
      · replace h := (if_pos c1).symm.trans h
        refine lv_iload_n hx hb dX0_roomySlots_29 rfl (lv_at hl 1 rfl) ?_
        have h := Option.some.inj h
        exact W.iret (v := x1) hx hb hr (fun t ht hW => ⟨_, rfl, h, ht⟩) t_nil dX0_roomySlots_30
      · replace h := (if_neg c1).symm.trans h
        refine lv_aload_n hx hb dX0_roomySlots_12 rfl (lv_at hl 0 rfl) ?_
        refine lv_iload_n hx hb dX0_roomySlots_13 rfl (lv_at hl 2 rfl) ?_
        obtain ⟨r14, hr14, h⟩ := bd_some h
        refine gc_ri (As := [.int x2]) (rest := []) ⟨hx, hb, hml, hown, hts⟩ hK (kX0_isRoomAt l D cI cC cZ cQ cJ q L x2 hr14) (cwV 1 hts gX0_roomySlots_X0_isRoomAt rfl rfl rfl (by decide +kernel) ⟨Nat.le_of_ble_eq_true rfl, Nat.le_of_ble_eq_true rfl⟩) (va_recv hK hP (ci := 0) (q0 := 0) rfl rfl) hP rfl hl.1 rfl (Nat.le_of_ble_eq_true rfl) ⟨Nat.zero_le _, Nat.zero_le _⟩ dX0_roomySlots_14 ?_
        refine lv_if_eq (tgt := 23) hx hb dX0_roomySlots_17 (by decide) (fun c2 => ?_) (fun c2 => ?_)
        · replace h := (if_pos c2).symm.trans h
          refine lv_iinc (v := (x2 + 1)) (lv' := [(2, .int (x2 + 1)), (0, .ref q), (1, .int x1)]) hx hb dX0_roomySlots_23 hl (k := 2) rfl rfl (by decide) rfl (fun ls hl => ?_)
          refine lv_goto (tgt := 4) hx hb dX0_roomySlots_26 (by decide) ?_
          exact ih x1 (x2 + 1) ls h (lv_sub hl [1, 2, 0] rfl)
        · replace h := (if_neg c2).symm.trans h
          refine lv_iinc (v := (x1 + 1)) (lv' := [(1, .int (x1 + 1)), (0, .ref q), (2, .int x2)]) hx hb dX0_roomySlots_20 hl (k := 1) rfl rfl (by decide) rfl (fun ls hl => ?_)
          refine lv_iinc (v := (x2 + 1)) (lv' := [(2, .int (x2 + 1)), (1, .int (x1 + 1)), (0, .ref q)]) hx hb dX0_roomySlots_23 hl (k := 2) rfl rfl (by decide) rfl (fun ls hl => ?_)
          refine lv_goto (tgt := 4) hx hb dX0_roomySlots_26 (by decide) ?_
          exact ih (x1 + 1) (x2 + 1) ls h (lv_sub hl [2, 1, 0] rfl)
  unfold fX0_roomySlots at h
  refine lv_iconst (v := 0) hx hb dX0_roomySlots_0 (by decide) ?_
  refine lv_istore_n (lv' := [(1, .int 0), (0, .ref q)]) hx hb dX0_roomySlots_1 rfl hl (by decide) rfl (fun ls hl => ?_)
  refine lv_iconst (v := 0) hx hb dX0_roomySlots_2 (by decide) ?_
  refine lv_istore_n (lv' := [(2, .int 0), (1, .int 0), (0, .ref q)]) hx hb dX0_roomySlots_3 rfl hl (by decide) rfl (fun ls hl => ?_)
  exact LP4 KF 0 0 ls h (lv_sub hl [2, 1, 0] rfl)
set_option maxHeartbeats 4000000 in
set_option maxRecDepth 100000 in
theorem kX0_slotsOn (l : Launch) (D : va_G) (cI cC cZ cQ cJ : ClassId) (q : Nat) (L : LSt) (p0 : Int32) (p1 : Int32) {R : Int32} (h : fX0_slotsOn L p0 p1 = some R) : Met l yX0_slotsOn wsX0_slotsOn ({ frames := 0, cells := 0, slots := 0, locals := 0 } : Room) (va_Pc [.ref q, .int p0, .int p1] (gB D (gTy cI cC cZ cQ cJ) (va_P D vwCl (LW cI q L)))) (vp_Si (fun r => r = R)) 0 0 (fun _ => False) := by
  refine Met.ofW (cc := cX0_slotsOn) (maxL := 3) (ret := (some .int)) (by decide) rfl ?_
  intro p e s m args below meth c s₁ B hml hv
  obtain ⟨rfl, hP, hK⟩ := hv
  have hx := B.exec
  have hb := B.bytes
  have hr := B.returns
  have hts := atoms_spec (ws := wsX0_slotsOn) B.pre
  have hown : s.vm.findClass RX0 = some m.cls := findClass_of_methodNamed B.named
  have hlocks := B.notSynchronized
  have hinX0 : ∀ w ∈ wsX00, w ∈ wsX0_slotsOn := by decide +kernel
  have hf42 := hts (.fieldLink RX0 42 "GripInspector$Lift" "n" "I") (by decide +kernel)
  generalize hRM : (headSpec wsX0_slotsOn ({ frames := 0, cells := 0, slots := 0, locals := 0 } : Room)).room = RM
  replace hRM : ({ frames := 0, cells := 0, slots := 0, locals := 0 } : Room) = RM := hRM
  subst hRM
  have hl := lv_entry ([.ref q, .int p0, .int p1]) (n := 3) (Nat.le_of_ble_eq_true rfl)
  rw [lg_entry_eq]
  generalize (lg_sl ([.ref q, .int p0, .int p1]) ++ List.replicate (3 - (lg_sl ([.ref q, .int p0, .int p1])).length) Slot.unset).toArray = ls at hl ⊢
  have hl : lv_has ls 3 [(0, .ref q), (1, .int p0), (2, .int p1)] := hl
  unfold fX0_slotsOn at h
  refine lv_iload_n hx hb dX0_slotsOn_0 rfl (lv_at hl 2 rfl) ?_
  refine lv_iload_n hx hb dX0_slotsOn_1 rfl (lv_at hl 1 rfl) ?_
  refine lv_icmp_le (tgt := 11) hx hb dX0_slotsOn_2 (by decide) (fun c1 => ?_) (fun c1 => ?_)
  · replace h := (if_pos c1).symm.trans h
    refine lv_iload_n hx hb dX0_slotsOn_11 rfl (lv_at hl 2 rfl) ?_
    refine lv_iload_n hx hb dX0_slotsOn_12 rfl (lv_at hl 1 rfl) ?_
    refine lv_isub hx hb dX0_slotsOn_13 ?_
    refine lv_aload_n hx hb dX0_slotsOn_14 rfl (lv_at hl 0 rfl) ?_
    refine va_get (D := D) (ci := 0) (v := .int (lN_ L)) (C := RX0) (T := TX0) (N := 13) hx hb hts hinX0 hown hK hP 0 rfl rfl 9 (by decide) hf42 (fun _ h9 => h9) rfl dX0_slotsOn_15 ?_
    refine lv_iadd hx hb dX0_slotsOn_18 ?_
    have h := Option.some.inj h
    exact W.iret (v := ((p1 - p0) + (lN_ L))) hx hb hr (fun t ht hW => ⟨_, rfl, h, ht⟩) t_nil dX0_slotsOn_19
  · replace h := (if_neg c1).symm.trans h
    refine lv_iload_n hx hb dX0_slotsOn_5 rfl (lv_at hl 2 rfl) ?_
    refine lv_iload_n hx hb dX0_slotsOn_6 rfl (lv_at hl 1 rfl) ?_
    refine lv_isub hx hb dX0_slotsOn_7 ?_
    refine lv_goto (tgt := 19) hx hb dX0_slotsOn_8 (by decide) ?_
    have h := Option.some.inj h
    exact W.iret (v := (p1 - p0)) hx hb hr (fun t ht hW => ⟨_, rfl, h, ht⟩) t_nil dX0_slotsOn_19
set_option maxHeartbeats 4000000 in
set_option maxRecDepth 100000 in
theorem kX0_gapBehind (l : Launch) (D : va_G) (cI cC cZ cQ cJ : ClassId) (q : Nat) (L : LSt) (p0 : Int32) {R : Int32} (h : fX0_gapBehind L p0 = some R) : Met l yX0_gapBehind wsX0_gapBehind ({ frames := 1, cells := 0, slots := 0, locals := 22 } : Room) (va_Pc [.ref q, .int p0] (gB D (gTy cI cC cZ cQ cJ) (va_P D vwCl (LW cI q L)))) (vp_Si (fun r => r = R)) 0 0 (fun _ => False) := by
  refine Met.ofW (cc := cX0_gapBehind) (maxL := 4) (ret := (some .int)) (by decide) rfl ?_
  intro p e s m args below meth c s₁ B hml hv
  obtain ⟨rfl, hP, hK⟩ := hv
  have hx := B.exec
  have hb := B.bytes
  have hr := B.returns
  have hts := atoms_spec (ws := wsX0_gapBehind) B.pre
  have hown : s.vm.findClass RX0 = some m.cls := findClass_of_methodNamed B.named
  have hlocks := B.notSynchronized
  have hinX0 : ∀ w ∈ wsX00, w ∈ wsX0_gapBehind := by decide +kernel
  have hf42 := hts (.fieldLink RX0 42 "GripInspector$Lift" "n" "I") (by decide +kernel)
  have hf27 := hts (.fieldLink RX0 27 "GripInspector$Lift" "place" "[I") (by decide +kernel)
  have hf30 := hts (.fieldLink RX0 30 "GripInspector$Lift" "spot" "[I") (by decide +kernel)
  generalize hRM : (headSpec wsX0_gapBehind ({ frames := 1, cells := 0, slots := 0, locals := 22 } : Room)).room = RM
  replace hRM : ({ frames := 1, cells := 0, slots := 0, locals := 22 } : Room) = RM := hRM
  subst hRM
  have hl := lv_entry ([.ref q, .int p0]) (n := 4) (Nat.le_of_ble_eq_true rfl)
  rw [lg_entry_eq]
  generalize (lg_sl ([.ref q, .int p0]) ++ List.replicate (4 - (lg_sl ([.ref q, .int p0])).length) Slot.unset).toArray = ls at hl ⊢
  have hl : lv_has ls 4 [(0, .ref q), (1, .int p0)] := hl
  have LP7 : ∀ (n : Nat) (x1 : Int32) (x2 : Int32) (x3 : Int32) (ls : Array Slot), fX0_gapBehind_L7 L n x1 x2 x3 = some R → lv_has ls 4 [(0, .ref q), (1, .int x1), (2, .int x2), (3, .int x3)] → W p l e ({ frames := 1, cells := 0, slots := 0, locals := 22 } : Room) s m ([.ref q, .int p0] : List Value).toArray below meth c s.heap [] 0 0 (MQ below (vp_Si (fun r => r = R)) ([.ref q, .int p0] : List Value).toArray s 0 0 (fun _ => False)) (F0 m 7 ls []) := by
    intro n
    induction n with
    | zero => intro x1 x2 x3 ls h hl; exact no_some h
    | succ n ih =>
      intro x1 x2 x3 ls h hl
      rw [fX0_gapBehind_L7] at h
      refine lv_iload_n hx hb dX0_gapBehind_7 rfl (lv_at hl 3 rfl) ?_
      refine lv_bipush (v := 12) hx hb dX0_gapBehind_8 (by decide) ?_
      refine lv_icmp_ge (tgt := 49) hx hb dX0_gapBehind_10 (by decide) (fun c1 => ?_) (fun c1 => ?_)
      · replace h := (if_pos c1).symm.trans h
        refine lv_iload_n hx hb dX0_gapBehind_49 rfl (lv_at hl 2 rfl) ?_
        have h := Option.some.inj h
        exact W.iret (v := x2) hx hb hr (fun t ht hW => ⟨_, rfl, h, ht⟩) t_nil dX0_gapBehind_50
      · replace h := (if_neg c1).symm.trans h
        refine lv_aload_n hx hb dX0_gapBehind_13 rfl (lv_at hl 0 rfl) ?_
        refine va_get (D := D) (ci := 0) (v := .ref (q + 6)) (C := RX0) (T := TX0) (N := 13) hx hb hts hinX0 hown hK hP 0 rfl rfl 5 (by decide) hf27 (fun _ h9 => h9) rfl dX0_gapBehind_14 ?_
        refine lv_iload_n hx hb dX0_gapBehind_17 rfl (lv_at hl 3 rfl) ?_
        obtain ⟨hg2, h⟩ := gd_some h
        refine g_iald (f := (lPl L)) (k := x3.toNatClampNeg) hx hb hK hP 6 0 rfl rfl hg2 rfl dX0_gapBehind_18 ?_
        refine lv_if_ne (tgt := 43) hx hb dX0_gapBehind_19 (by decide) (fun c3 => ?_) (fun c3 => ?_)
        · replace h := (if_neg c3).symm.trans h
          refine lv_iinc (v := (x3 + 1)) (lv' := [(3, .int (x3 + 1)), (0, .ref q), (1, .int x1), (2, .int x2)]) hx hb dX0_gapBehind_43 hl (k := 3) rfl rfl (by decide) rfl (fun ls hl => ?_)
          refine lv_goto (tgt := 7) hx hb dX0_gapBehind_46 (by decide) ?_
          exact ih x1 x2 (x3 + 1) ls h (lv_sub hl [1, 2, 3, 0] rfl)
        · replace h := (if_pos c3).symm.trans h
          refine lv_iload_n hx hb dX0_gapBehind_22 rfl (lv_at hl 2 rfl) ?_
          refine lv_aload_n hx hb dX0_gapBehind_23 rfl (lv_at hl 0 rfl) ?_
          refine lv_aload_n hx hb dX0_gapBehind_24 rfl (lv_at hl 0 rfl) ?_
          refine va_get (D := D) (ci := 0) (v := .ref (q + 7)) (C := RX0) (T := TX0) (N := 13) hx hb hts hinX0 hown hK hP 0 rfl rfl 6 (by decide) hf30 (fun _ h9 => h9) rfl dX0_gapBehind_25 ?_
          refine lv_iload_n hx hb dX0_gapBehind_28 rfl (lv_at hl 1 rfl) ?_
          obtain ⟨hg4, h⟩ := gd_some h
          refine g_iald (f := (lSp L)) (k := x1.toNatClampNeg) hx hb hK hP 7 0 rfl rfl hg4 rfl dX0_gapBehind_29 ?_
          refine lv_aload_n hx hb dX0_gapBehind_30 rfl (lv_at hl 0 rfl) ?_
          refine va_get (D := D) (ci := 0) (v := .ref (q + 7)) (C := RX0) (T := TX0) (N := 13) hx hb hts hinX0 hown hK hP 0 rfl rfl 6 (by decide) hf30 (fun _ h9 => h9) rfl dX0_gapBehind_31 ?_
          refine lv_iload_n hx hb dX0_gapBehind_34 rfl (lv_at hl 3 rfl) ?_
          refine g_iald (f := (lSp L)) (k := x3.toNatClampNeg) hx hb hK hP 7 0 rfl rfl hg2 rfl dX0_gapBehind_35 ?_
          obtain ⟨r36, hr36, h⟩ := bd_some h
          refine gc_ri (As := [.int ((lSp L) x1.toNatClampNeg), .int ((lSp L) x3.toNatClampNeg)]) (rest := [.int x2]) ⟨hx, hb, hml, hown, hts⟩ hK (kX0_slotsOn l D cI cC cZ cQ cJ q L ((lSp L) x1.toNatClampNeg) ((lSp L) x3.toNatClampNeg) hr36) (cwV 2 hts gX0_gapBehind_X0_slotsOn rfl rfl rfl (by decide +kernel) ⟨Nat.le_of_ble_eq_true rfl, Nat.le_of_ble_eq_true rfl⟩) (va_recv hK hP (ci := 0) (q0 := 0) rfl rfl) hP rfl hl.1 rfl (Nat.le_of_ble_eq_true rfl) ⟨Nat.zero_le _, Nat.zero_le _⟩ dX0_gapBehind_36 ?_
          refine va_mmin hx hb (hml.trans hl.1.symm) hown (hts (.methodLink RX0 105 Lib.Math.min.name) (by decide +kernel)) (hts (.static Lib.Math.min.name) (by decide +kernel)) (hts (.initialized "java/lang/Math") (by decide +kernel)) (hts (.code Lib.Math.min.name Lib.Math.min.code 2 (some .int)) (by decide +kernel)) (Nat.le_of_ble_eq_true rfl) (Nat.le_of_ble_eq_true rfl) (Nat.zero_le _) (Nat.zero_le _) dX0_gapBehind_39 ?_
          refine lv_istore_n (lv' := [(2, .int (if r36 < x2 then r36 else x2)), (0, .ref q), (1, .int x1), (3, .int x3)]) hx hb dX0_gapBehind_42 rfl hl (by decide) rfl (fun ls hl => ?_)
          refine lv_iinc (v := (x3 + 1)) (lv' := [(3, .int (x3 + 1)), (2, .int (if r36 < x2 then r36 else x2)), (0, .ref q), (1, .int x1)]) hx hb dX0_gapBehind_43 hl (k := 3) rfl rfl (by decide) rfl (fun ls hl => ?_)
          refine lv_goto (tgt := 7) hx hb dX0_gapBehind_46 (by decide) ?_
          exact ih x1 (if r36 < x2 then r36 else x2) (x3 + 1) ls h (lv_sub hl [2, 3, 1, 0] rfl)
  unfold fX0_gapBehind at h
  refine lv_aload_n hx hb dX0_gapBehind_0 rfl (lv_at hl 0 rfl) ?_
  refine va_get (D := D) (ci := 0) (v := .int (lN_ L)) (C := RX0) (T := TX0) (N := 13) hx hb hts hinX0 hown hK hP 0 rfl rfl 9 (by decide) hf42 (fun _ h9 => h9) rfl dX0_gapBehind_1 ?_
  refine lv_istore_n (lv' := [(2, .int (lN_ L)), (0, .ref q), (1, .int p0)]) hx hb dX0_gapBehind_4 rfl hl (by decide) rfl (fun ls hl => ?_)
  refine lv_iconst (v := 0) hx hb dX0_gapBehind_5 (by decide) ?_
  refine lv_istore_n (lv' := [(3, .int 0), (2, .int (lN_ L)), (0, .ref q), (1, .int p0)]) hx hb dX0_gapBehind_6 rfl hl (by decide) rfl (fun ls hl => ?_)
  exact LP7 KF p0 (lN_ L) 0 ls h (lv_sub hl [2, 3, 1, 0] rfl)
set_option maxHeartbeats 4000000 in
set_option maxRecDepth 100000 in
theorem kX0_smallestGap (l : Launch) (D : va_G) (cI cC cZ cQ cJ : ClassId) (q : Nat) (L : LSt) {R : Int32} (h : fX0_smallestGap L = some R) : Met l yX0_smallestGap wsX0_smallestGap ({ frames := 2, cells := 0, slots := 0, locals := 45 } : Room) (va_Pc [.ref q] (gB D (gTy cI cC cZ cQ cJ) (va_P D vwCl (LW cI q L)))) (vp_Si (fun r => r = R)) 0 0 (fun _ => False) := by
  refine Met.ofW (cc := cX0_smallestGap) (maxL := 4) (ret := (some .int)) (by decide) rfl ?_
  intro p e s m args below meth c s₁ B hml hv
  obtain ⟨rfl, hP, hK⟩ := hv
  have hx := B.exec
  have hb := B.bytes
  have hr := B.returns
  have hts := atoms_spec (ws := wsX0_smallestGap) B.pre
  have hown : s.vm.findClass RX0 = some m.cls := findClass_of_methodNamed B.named
  have hlocks := B.notSynchronized
  have hinX0 : ∀ w ∈ wsX00, w ∈ wsX0_smallestGap := by decide +kernel
  have hf27 := hts (.fieldLink RX0 27 "GripInspector$Lift" "place" "[I") (by decide +kernel)
  generalize hRM : (headSpec wsX0_smallestGap ({ frames := 2, cells := 0, slots := 0, locals := 45 } : Room)).room = RM
  replace hRM : ({ frames := 2, cells := 0, slots := 0, locals := 45 } : Room) = RM := hRM
  subst hRM
  have hl := lv_entry ([.ref q]) (n := 4) (Nat.le_of_ble_eq_true rfl)
  rw [lg_entry_eq]
  generalize (lg_sl ([.ref q]) ++ List.replicate (4 - (lg_sl ([.ref q])).length) Slot.unset).toArray = ls at hl ⊢
  have hl : lv_has ls 4 [(0, .ref q)] := hl
  have LP5 : ∀ (n : Nat) (x1 : Int32) (x2 : Int32) (ls : Array Slot), fX0_smallestGap_L5 L n x1 x2 = some R → lv_has ls 4 [(0, .ref q), (1, .int x1), (2, .int x2)] → W p l e ({ frames := 2, cells := 0, slots := 0, locals := 45 } : Room) s m ([.ref q] : List Value).toArray below meth c s.heap [] 0 0 (MQ below (vp_Si (fun r => r = R)) ([.ref q] : List Value).toArray s 0 0 (fun _ => False)) (F0 m 5 ls []) := by
    intro n
    induction n with
    | zero => intro x1 x2 ls h hl; exact no_some h
    | succ n ih =>
      intro x1 x2 ls h hl
      rw [fX0_smallestGap_L5] at h
      refine lv_iload_n hx hb dX0_smallestGap_5 rfl (lv_at hl 2 rfl) ?_
      refine lv_bipush (v := 12) hx hb dX0_smallestGap_6 (by decide) ?_
      refine lv_icmp_ge (tgt := 48) hx hb dX0_smallestGap_8 (by decide) (fun c1 => ?_) (fun c1 => ?_)
      · replace h := (if_pos c1).symm.trans h
        refine lv_iload_n hx hb dX0_smallestGap_48 rfl (lv_at hl 1 rfl) ?_
        have h := Option.some.inj h
        exact W.iret (v := x1) hx hb hr (fun t ht hW => ⟨_, rfl, h, ht⟩) t_nil dX0_smallestGap_49
      · replace h := (if_neg c1).symm.trans h
        refine lv_aload_n hx hb dX0_smallestGap_11 rfl (lv_at hl 0 rfl) ?_
        refine va_get (D := D) (ci := 0) (v := .ref (q + 6)) (C := RX0) (T := TX0) (N := 13) hx hb hts hinX0 hown hK hP 0 rfl rfl 5 (by decide) hf27 (fun _ h9 => h9) rfl dX0_smallestGap_12 ?_
        refine lv_iload_n hx hb dX0_smallestGap_15 rfl (lv_at hl 2 rfl) ?_
        obtain ⟨hg2, h⟩ := gd_some h
        refine g_iald (f := (lPl L)) (k := x2.toNatClampNeg) hx hb hK hP 6 0 rfl rfl hg2 rfl dX0_smallestGap_16 ?_
        refine lv_if_eq (tgt := 23) hx hb dX0_smallestGap_17 (by decide) (fun c3 => ?_) (fun c3 => ?_)
        · replace h := (if_pos c3).symm.trans h
          refine lv_aload_n hx hb dX0_smallestGap_23 rfl (lv_at hl 0 rfl) ?_
          refine lv_iload_n hx hb dX0_smallestGap_24 rfl (lv_at hl 2 rfl) ?_
          obtain ⟨r25, hr25, h⟩ := bd_some h
          refine gc_ri (As := [.int x2]) (rest := []) ⟨hx, hb, hml, hown, hts⟩ hK (kX0_gapBehind l D cI cC cZ cQ cJ q L x2 hr25) (cwV 1 hts gX0_smallestGap_X0_gapBehind rfl rfl rfl (by decide +kernel) ⟨Nat.le_of_ble_eq_true rfl, Nat.le_of_ble_eq_true rfl⟩) (va_recv hK hP (ci := 0) (q0 := 0) rfl rfl) hP rfl hl.1 rfl (Nat.le_of_ble_eq_true rfl) ⟨Nat.zero_le _, Nat.zero_le _⟩ dX0_smallestGap_25 ?_
          refine lv_istore_n (lv' := [(3, .int r25), (0, .ref q), (1, .int x1), (2, .int x2)]) hx hb dX0_smallestGap_28 rfl hl (by decide) rfl (fun ls hl => ?_)
          refine lv_iload_n hx hb dX0_smallestGap_29 rfl (lv_at hl 2 rfl) ?_
          refine lv_bipush (v := (-9)) hx hb dX0_smallestGap_30 (by decide) ?_
          refine lv_icmp_eq (tgt := 40) hx hb dX0_smallestGap_32 (by decide) (fun c4 => ?_) (fun c4 => ?_)
          · replace h := (if_pos c4).symm.trans h
            refine lv_iload_n hx hb dX0_smallestGap_40 rfl (lv_at hl 0 rfl) ?_
            refine lv_istore_n (lv' := [(1, .int r25), (3, .int r25), (0, .ref q), (2, .int x2)]) hx hb dX0_smallestGap_41 rfl hl (by decide) rfl (fun ls hl => ?_)
            refine lv_iinc (v := (x2 + 1)) (lv' := [(2, .int (x2 + 1)), (1, .int r25), (3, .int r25), (0, .ref q)]) hx hb dX0_smallestGap_42 hl (k := 3) rfl rfl (by decide) rfl (fun ls hl => ?_)
            refine lv_goto (tgt := 5) hx hb dX0_smallestGap_45 (by decide) ?_
            exact ih r25 (x2 + 1) ls h (lv_sub hl [3, 1, 0] rfl)
          · replace h := (if_neg c4).symm.trans h
            refine lv_iload_n hx hb dX0_smallestGap_35 rfl (lv_at hl 0 rfl) ?_
            refine lv_iload_n hx hb dX0_smallestGap_36 rfl (lv_at hl 2 rfl) ?_
            refine lv_icmp_ge (tgt := 42) hx hb dX0_smallestGap_37 (by decide) (fun c5 => ?_) (fun c5 => ?_)
            · replace h := (if_pos c5).symm.trans h
              refine lv_iinc (v := (x2 + 1)) (lv' := [(2, .int (x2 + 1)), (3, .int r25), (0, .ref q), (1, .int x1)]) hx hb dX0_smallestGap_42 hl (k := 3) rfl rfl (by decide) rfl (fun ls hl => ?_)
              refine lv_goto (tgt := 5) hx hb dX0_smallestGap_45 (by decide) ?_
              exact ih x1 (x2 + 1) ls h (lv_sub hl [2, 3, 0] rfl)
            · replace h := (if_neg c5).symm.trans h
              refine lv_iload_n hx hb dX0_smallestGap_40 rfl (lv_at hl 0 rfl) ?_
              refine lv_istore_n (lv' := [(1, .int r25), (3, .int r25), (0, .ref q), (2, .int x2)]) hx hb dX0_smallestGap_41 rfl hl (by decide) rfl (fun ls hl => ?_)
              refine lv_iinc (v := (x2 + 1)) (lv' := [(2, .int (x2 + 1)), (1, .int r25), (3, .int r25), (0, .ref q)]) hx hb dX0_smallestGap_42 hl (k := 3) rfl rfl (by decide) rfl (fun ls hl => ?_)
              refine lv_goto (tgt := 5) hx hb dX0_smallestGap_45 (by decide) ?_
              exact ih r25 (x2 + 1) ls h (lv_sub hl [3, 1, 0] rfl)
        · replace h := (if_neg c3).symm.trans h
          refine lv_goto (tgt := 42) hx hb dX0_smallestGap_20 (by decide) ?_
          refine lv_iinc (v := (x2 + 1)) (lv' := [(2, .int (x2 + 1)), (0, .ref q), (1, .int x1)]) hx hb dX0_smallestGap_42 hl (k := 2) rfl rfl (by decide) rfl (fun ls hl => ?_)
          refine lv_goto (tgt := 5) hx hb dX0_smallestGap_45 (by decide) ?_
          exact ih x1 (x2 + 1) ls h (lv_sub hl [1, 2, 0] rfl)
  unfold fX0_smallestGap at h
  refine lv_bipush (v := (-9)) hx hb dX0_smallestGap_0 (by decide) ?_
  refine lv_istore_n (lv' := [(1, .int (-9)), (0, .ref q)]) hx hb dX0_smallestGap_2 rfl hl (by decide) rfl (fun ls hl => ?_)
  refine lv_iconst (v := 0) hx hb dX0_smallestGap_3 (by decide) ?_
  refine lv_istore_n (lv' := [(2, .int 0), (1, .int (-9)), (0, .ref q)]) hx hb dX0_smallestGap_4 rfl hl (by decide) rfl (fun ls hl => ?_)
  exact LP5 KF (-9) 0 ls h (lv_sub hl [2, 1, 0] rfl)
set_option maxHeartbeats 4000000 in
set_option maxRecDepth 100000 in
theorem kX0_capacity (l : Launch) (D : va_G) (cI cC cZ cQ cJ : ClassId) (q : Nat) (L : LSt) {R : Int32} (h : fX0_capacity L = some R) : Met l yX0_capacity wsX0_capacity ({ frames := 0, cells := 0, slots := 0, locals := 0 } : Room) (va_Pc [.ref q] (gB D (gTy cI cC cZ cQ cJ) (va_P D vwCl (LW cI q L)))) (vp_Si (fun r => r = R)) 0 0 (fun _ => False) := by
  refine Met.ofW (cc := cX0_capacity) (maxL := 2) (ret := (some .int)) (by decide) rfl ?_
  intro p e s m args below meth c s₁ B hml hv
  obtain ⟨rfl, hP, hK⟩ := hv
  have hx := B.exec
  have hb := B.bytes
  have hr := B.returns
  have hts := atoms_spec (ws := wsX0_capacity) B.pre
  have hown : s.vm.findClass RX0 = some m.cls := findClass_of_methodNamed B.named
  have hlocks := B.notSynchronized
  have hinX0 : ∀ w ∈ wsX00, w ∈ wsX0_capacity := by decide +kernel
  have hf36 := hts (.fieldLink RX0 36 "GripInspector$Lift" "limits" "[I") (by decide +kernel)
  have hf42 := hts (.fieldLink RX0 42 "GripInspector$Lift" "n" "I") (by decide +kernel)
  generalize hRM : (headSpec wsX0_capacity ({ frames := 0, cells := 0, slots := 0, locals := 0 } : Room)).room = RM
  replace hRM : ({ frames := 0, cells := 0, slots := 0, locals := 0 } : Room) = RM := hRM
  subst hRM
  have hl := lv_entry ([.ref q]) (n := 2) (Nat.le_of_ble_eq_true rfl)
  rw [lg_entry_eq]
  generalize (lg_sl ([.ref q]) ++ List.replicate (2 - (lg_sl ([.ref q])).length) Slot.unset).toArray = ls at hl ⊢
  have hl : lv_has ls 2 [(0, .ref q)] := hl
  unfold fX0_capacity at h
  refine lv_aload_n hx hb dX0_capacity_0 rfl (lv_at hl 0 rfl) ?_
  refine va_get (D := D) (ci := 0) (v := .ref (q + 9)) (C := RX0) (T := TX0) (N := 13) hx hb hts hinX0 hown hK hP 0 rfl rfl 8 (by decide) hf36 (fun _ h9 => h9) rfl dX0_capacity_1 ?_
  refine lv_iconst (v := 3) hx hb dX0_capacity_4 (by decide) ?_
  refine g_iald (f := (lLi L)) (k := 3) hx hb hK hP 9 0 rfl rfl (vin_lit rfl) rfl dX0_capacity_5 ?_
  refine lv_istore_n (lv' := [(1, .int ((lLi L) 3)), (0, .ref q)]) hx hb dX0_capacity_6 rfl hl (by decide) rfl (fun ls hl => ?_)
  refine lv_iload_n hx hb dX0_capacity_7 rfl (lv_at hl 0 rfl) ?_
  refine lv_if_le (tgt := 20) hx hb dX0_capacity_8 (by decide) (fun c1 => ?_) (fun c1 => ?_)
  · replace h := (if_pos c1).symm.trans h
    refine lv_iconst (v := 0) hx hb dX0_capacity_20 (by decide) ?_
    have h := Option.some.inj h
    exact W.iret (v := 0) hx hb hr (fun t ht hW => ⟨_, rfl, h, ht⟩) t_nil dX0_capacity_21
  · replace h := (if_neg c1).symm.trans h
    refine lv_aload_n hx hb dX0_capacity_11 rfl (lv_at hl 1 rfl) ?_
    refine va_get (D := D) (ci := 0) (v := .int (lN_ L)) (C := RX0) (T := TX0) (N := 13) hx hb hts hinX0 hown hK hP 0 rfl rfl 9 (by decide) hf42 (fun _ h9 => h9) rfl dX0_capacity_12 ?_
    refine lv_iload_n hx hb dX0_capacity_15 rfl (lv_at hl 0 rfl) ?_
    obtain ⟨hn2, h⟩ := nz_some h
    refine lv_idiv hx hb dX0_capacity_16 hn2 ?_
    refine lv_goto (tgt := 21) hx hb dX0_capacity_17 (by decide) ?_
    have h := Option.some.inj h
    exact W.iret (v := ((lN_ L) / ((lLi L) 3))) hx hb hr (fun t ht hW => ⟨_, rfl, h, ht⟩) t_nil dX0_capacity_21
set_option maxHeartbeats 4000000 in
set_option maxRecDepth 100000 in
theorem kX0_stepsUntilDue (l : Launch) (D : va_G) (cI cC cZ cQ cJ : ClassId) (q : Nat) (L : LSt) (p0 : Int32) {R : Int32} (h : fX0_stepsUntilDue L p0 = some R) : Met l yX0_stepsUntilDue wsX0_stepsUntilDue ({ frames := 1, cells := 0, slots := 0, locals := 22 } : Room) (va_Pc [.ref q, .int p0] (gB D (gTy cI cC cZ cQ cJ) (va_P D vwCl (LW cI q L)))) (vp_Si (fun r => r = R)) 0 0 (fun _ => False) := by
  refine Met.ofW (cc := cX0_stepsUntilDue) (maxL := 3) (ret := (some .int)) (by decide) rfl ?_
  intro p e s m args below meth c s₁ B hml hv
  obtain ⟨rfl, hP, hK⟩ := hv
  have hx := B.exec
  have hb := B.bytes
  have hr := B.returns
  have hts := atoms_spec (ws := wsX0_stepsUntilDue) B.pre
  have hown : s.vm.findClass RX0 = some m.cls := findClass_of_methodNamed B.named
  have hlocks := B.notSynchronized
  have hinX0 : ∀ w ∈ wsX00, w ∈ wsX0_stepsUntilDue := by decide +kernel
  have hf36 := hts (.fieldLink RX0 36 "GripInspector$Lift" "limits" "[I") (by decide +kernel)
  have hf15 := hts (.fieldLink RX0 15 "GripInspector$Lift" "cycles" "[I") (by decide +kernel)
  have hf46 := hts (.fieldLink RX0 46 "GripInspector$Lift" "station" "I") (by decide +kernel)
  have hf30 := hts (.fieldLink RX0 30 "GripInspector$Lift" "spot" "[I") (by decide +kernel)
  have hf42 := hts (.fieldLink RX0 42 "GripInspector$Lift" "n" "I") (by decide +kernel)
  generalize hRM : (headSpec wsX0_stepsUntilDue ({ frames := 1, cells := 0, slots := 0, locals := 22 } : Room)).room = RM
  replace hRM : ({ frames := 1, cells := 0, slots := 0, locals := 22 } : Room) = RM := hRM
  subst hRM
  have hl := lv_entry ([.ref q, .int p0]) (n := 3) (Nat.le_of_ble_eq_true rfl)
  rw [lg_entry_eq]
  generalize (lg_sl ([.ref q, .int p0]) ++ List.replicate (3 - (lg_sl ([.ref q, .int p0])).length) Slot.unset).toArray = ls at hl ⊢
  have hl : lv_has ls 3 [(0, .ref q), (1, .int p0)] := hl
  unfold fX0_stepsUntilDue at h
  refine lv_iconst (v := 1) hx hb dX0_stepsUntilDue_0 (by decide) ?_
  refine lv_aload_n hx hb dX0_stepsUntilDue_1 rfl (lv_at hl 0 rfl) ?_
  refine va_get (D := D) (ci := 0) (v := .ref (q + 9)) (C := RX0) (T := TX0) (N := 13) hx hb hts hinX0 hown hK hP 0 rfl rfl 8 (by decide) hf36 (fun _ h9 => h9) rfl dX0_stepsUntilDue_2 ?_
  refine lv_iconst (v := 0) hx hb dX0_stepsUntilDue_5 (by decide) ?_
  refine g_iald (f := (lLi L)) (k := 0) hx hb hK hP 9 0 rfl rfl (vin_lit rfl) rfl dX0_stepsUntilDue_6 ?_
  refine lv_aload_n hx hb dX0_stepsUntilDue_7 rfl (lv_at hl 0 rfl) ?_
  refine va_get (D := D) (ci := 0) (v := .ref (q + 2)) (C := RX0) (T := TX0) (N := 13) hx hb hts hinX0 hown hK hP 0 rfl rfl 1 (by decide) hf15 (fun _ h9 => h9) rfl dX0_stepsUntilDue_8 ?_
  refine lv_iload_n hx hb dX0_stepsUntilDue_11 rfl (lv_at hl 1 rfl) ?_
  obtain ⟨hg1, h⟩ := gd_some h
  refine g_iald (f := (lCy L)) (k := p0.toNatClampNeg) hx hb hK hP 2 0 rfl rfl hg1 rfl dX0_stepsUntilDue_12 ?_
  refine lv_isub hx hb dX0_stepsUntilDue_13 ?_
  refine va_mmax hx hb (hml.trans hl.1.symm) hown (hts (.methodLink RX0 113 Lib.Math.max.name) (by decide +kernel)) (hts (.static Lib.Math.max.name) (by decide +kernel)) (hts (.initialized "java/lang/Math") (by decide +kernel)) (hts (.code Lib.Math.max.name Lib.Math.max.code 2 (some .int)) (by decide +kernel)) (Nat.le_of_ble_eq_true rfl) (Nat.le_of_ble_eq_true rfl) (Nat.zero_le _) (Nat.zero_le _) dX0_stepsUntilDue_14 ?_
  refine lv_istore_n (lv' := [(2, .int (if 1 < (((lLi L) 0) - ((lCy L) p0.toNatClampNeg)) then (((lLi L) 0) - ((lCy L) p0.toNatClampNeg)) else 1)), (0, .ref q), (1, .int p0)]) hx hb dX0_stepsUntilDue_17 rfl hl (by decide) rfl (fun ls hl => ?_)
  refine lv_aload_n hx hb dX0_stepsUntilDue_18 rfl (lv_at hl 1 rfl) ?_
  refine lv_aload_n hx hb dX0_stepsUntilDue_19 rfl (lv_at hl 1 rfl) ?_
  refine va_get (D := D) (ci := 0) (v := .int (lStn L)) (C := RX0) (T := TX0) (N := 13) hx hb hts hinX0 hown hK hP 0 rfl rfl 10 (by decide) hf46 (fun _ h9 => h9) rfl dX0_stepsUntilDue_20 ?_
  refine lv_aload_n hx hb dX0_stepsUntilDue_23 rfl (lv_at hl 1 rfl) ?_
  refine va_get (D := D) (ci := 0) (v := .ref (q + 7)) (C := RX0) (T := TX0) (N := 13) hx hb hts hinX0 hown hK hP 0 rfl rfl 6 (by decide) hf30 (fun _ h9 => h9) rfl dX0_stepsUntilDue_24 ?_
  refine lv_iload_n hx hb dX0_stepsUntilDue_27 rfl (lv_at hl 2 rfl) ?_
  refine g_iald (f := (lSp L)) (k := p0.toNatClampNeg) hx hb hK hP 7 0 rfl rfl hg1 rfl dX0_stepsUntilDue_28 ?_
  obtain ⟨r29, hr29, h⟩ := bd_some h
  refine gc_ri (As := [.int (lStn L), .int ((lSp L) p0.toNatClampNeg)]) (rest := []) ⟨hx, hb, hml, hown, hts⟩ hK (kX0_slotsOn l D cI cC cZ cQ cJ q L (lStn L) ((lSp L) p0.toNatClampNeg) hr29) (cwV 2 hts gX0_stepsUntilDue_X0_slotsOn rfl rfl rfl (by decide +kernel) ⟨Nat.le_of_ble_eq_true rfl, Nat.le_of_ble_eq_true rfl⟩) (va_recv hK hP (ci := 0) (q0 := 0) rfl rfl) hP rfl hl.1 rfl (Nat.le_of_ble_eq_true rfl) ⟨Nat.zero_le _, Nat.zero_le _⟩ dX0_stepsUntilDue_29 ?_
  refine lv_iload_n hx hb dX0_stepsUntilDue_32 rfl (lv_at hl 0 rfl) ?_
  refine lv_iconst (v := 1) hx hb dX0_stepsUntilDue_33 (by decide) ?_
  refine lv_isub hx hb dX0_stepsUntilDue_34 ?_
  refine lv_aload_n hx hb dX0_stepsUntilDue_35 rfl (lv_at hl 1 rfl) ?_
  refine va_get (D := D) (ci := 0) (v := .int (lN_ L)) (C := RX0) (T := TX0) (N := 13) hx hb hts hinX0 hown hK hP 0 rfl rfl 9 (by decide) hf42 (fun _ h9 => h9) rfl dX0_stepsUntilDue_36 ?_
  refine lv_imul hx hb dX0_stepsUntilDue_39 ?_
  refine lv_iadd hx hb dX0_stepsUntilDue_40 ?_
  have h := Option.some.inj h
  exact W.iret (v := (r29 + (((if 1 < (((lLi L) 0) - ((lCy L) p0.toNatClampNeg)) then (((lLi L) 0) - ((lCy L) p0.toNatClampNeg)) else 1) - 1) * (lN_ L)))) hx hb hr (fun t ht hW => ⟨_, rfl, h, ht⟩) t_nil dX0_stepsUntilDue_41
set_option maxHeartbeats 4000000 in
set_option maxRecDepth 100000 in
theorem kX0_isGrouped (l : Launch) (D : va_G) (cI cC cZ cQ cJ : ClassId) (q : Nat) (L : LSt) (p0 : Int32) {R : Int32} (h : fX0_isGrouped L p0 = some R) : Met l yX0_isGrouped wsX0_isGrouped ({ frames := 0, cells := 0, slots := 0, locals := 0 } : Room) (va_Pc [.ref q, .int p0] (gB D (gTy cI cC cZ cQ cJ) (va_P D vwCl (LW cI q L)))) (vp_Si (fun r => r = R)) 0 0 (fun _ => False) := by
  refine Met.ofW (cc := cX0_isGrouped) (maxL := 2) (ret := (some .boolean)) (by decide) rfl ?_
  intro p e s m args below meth c s₁ B hml hv
  obtain ⟨rfl, hP, hK⟩ := hv
  have hx := B.exec
  have hb := B.bytes
  have hr := B.returns
  have hts := atoms_spec (ws := wsX0_isGrouped) B.pre
  have hown : s.vm.findClass RX0 = some m.cls := findClass_of_methodNamed B.named
  have hlocks := B.notSynchronized
  have hinX0 : ∀ w ∈ wsX00, w ∈ wsX0_isGrouped := by decide +kernel
  have hf27 := hts (.fieldLink RX0 27 "GripInspector$Lift" "place" "[I") (by decide +kernel)
  generalize hRM : (headSpec wsX0_isGrouped ({ frames := 0, cells := 0, slots := 0, locals := 0 } : Room)).room = RM
  replace hRM : ({ frames := 0, cells := 0, slots := 0, locals := 0 } : Room) = RM := hRM
  subst hRM
  have hl := lv_entry ([.ref q, .int p0]) (n := 2) (Nat.le_of_ble_eq_true rfl)
  rw [lg_entry_eq]
  generalize (lg_sl ([.ref q, .int p0]) ++ List.replicate (2 - (lg_sl ([.ref q, .int p0])).length) Slot.unset).toArray = ls at hl ⊢
  have hl : lv_has ls 2 [(0, .ref q), (1, .int p0)] := hl
  unfold fX0_isGrouped at h
  refine lv_aload_n hx hb dX0_isGrouped_0 rfl (lv_at hl 0 rfl) ?_
  refine va_get (D := D) (ci := 0) (v := .ref (q + 6)) (C := RX0) (T := TX0) (N := 13) hx hb hts hinX0 hown hK hP 0 rfl rfl 5 (by decide) hf27 (fun _ h9 => h9) rfl dX0_isGrouped_1 ?_
  refine lv_iload_n hx hb dX0_isGrouped_4 rfl (lv_at hl 1 rfl) ?_
  obtain ⟨hg1, h⟩ := gd_some h
  refine g_iald (f := (lPl L)) (k := p0.toNatClampNeg) hx hb hK hP 6 0 rfl rfl hg1 rfl dX0_isGrouped_5 ?_
  refine lv_iconst (v := (-1)) hx hb dX0_isGrouped_6 (by decide) ?_
  refine lv_icmp_eq (tgt := 24) hx hb dX0_isGrouped_7 (by decide) (fun c2 => ?_) (fun c2 => ?_)
  · replace h := (if_pos c2).symm.trans h
    refine lv_iconst (v := 0) hx hb dX0_isGrouped_24 (by decide) ?_
    have h := Option.some.inj h
    exact W.zret (v := 0) hx hb hr rfl (fun t ht hW => ⟨_, rfl, h, ht⟩) t_nil dX0_isGrouped_25
  · replace h := (if_neg c2).symm.trans h
    refine lv_aload_n hx hb dX0_isGrouped_10 rfl (lv_at hl 0 rfl) ?_
    refine va_get (D := D) (ci := 0) (v := .ref (q + 6)) (C := RX0) (T := TX0) (N := 13) hx hb hts hinX0 hown hK hP 0 rfl rfl 5 (by decide) hf27 (fun _ h9 => h9) rfl dX0_isGrouped_11 ?_
    refine lv_iload_n hx hb dX0_isGrouped_14 rfl (lv_at hl 1 rfl) ?_
    refine g_iald (f := (lPl L)) (k := p0.toNatClampNeg) hx hb hK hP 6 0 rfl rfl hg1 rfl dX0_isGrouped_15 ?_
    refine lv_iconst (v := 3) hx hb dX0_isGrouped_16 (by decide) ?_
    refine lv_icmp_eq (tgt := 24) hx hb dX0_isGrouped_17 (by decide) (fun c3 => ?_) (fun c3 => ?_)
    · replace h := (if_pos c3).symm.trans h
      refine lv_iconst (v := 0) hx hb dX0_isGrouped_24 (by decide) ?_
      have h := Option.some.inj h
      exact W.zret (v := 0) hx hb hr rfl (fun t ht hW => ⟨_, rfl, h, ht⟩) t_nil dX0_isGrouped_25
    · replace h := (if_neg c3).symm.trans h
      refine lv_iconst (v := 1) hx hb dX0_isGrouped_20 (by decide) ?_
      refine lv_goto (tgt := 25) hx hb dX0_isGrouped_21 (by decide) ?_
      have h := Option.some.inj h
      exact W.zret (v := 1) hx hb hr rfl (fun t ht hW => ⟨_, rfl, h, ht⟩) t_nil dX0_isGrouped_25
set_option maxHeartbeats 4000000 in
set_option maxRecDepth 100000 in
theorem kX0_areTogether (l : Launch) (D : va_G) (cI cC cZ cQ cJ : ClassId) (q : Nat) (L : LSt) (p0 : Int32) (p1 : Int32) {R : Int32} (h : fX0_areTogether L p0 p1 = some R) : Met l yX0_areTogether wsX0_areTogether ({ frames := 1, cells := 0, slots := 0, locals := 21 } : Room) (va_Pc [.ref q, .int p0, .int p1] (gB D (gTy cI cC cZ cQ cJ) (va_P D vwCl (LW cI q L)))) (vp_Si (fun r => r = R)) 0 0 (fun _ => False) := by
  refine Met.ofW (cc := cX0_areTogether) (maxL := 4) (ret := (some .boolean)) (by decide) rfl ?_
  intro p e s m args below meth c s₁ B hml hv
  obtain ⟨rfl, hP, hK⟩ := hv
  have hx := B.exec
  have hb := B.bytes
  have hr := B.returns
  have hts := atoms_spec (ws := wsX0_areTogether) B.pre
  have hown : s.vm.findClass RX0 = some m.cls := findClass_of_methodNamed B.named
  have hlocks := B.notSynchronized
  have hinX0 : ∀ w ∈ wsX00, w ∈ wsX0_areTogether := by decide +kernel
  have hf9 := hts (.fieldLink RX0 9 "GripInspector$Lift" "weight" "[I") (by decide +kernel)
  have hf15 := hts (.fieldLink RX0 15 "GripInspector$Lift" "cycles" "[I") (by decide +kernel)
  generalize hRM : (headSpec wsX0_areTogether ({ frames := 1, cells := 0, slots := 0, locals := 21 } : Room)).room = RM
  replace hRM : ({ frames := 1, cells := 0, slots := 0, locals := 21 } : Room) = RM := hRM
  subst hRM
  have hl := lv_entry ([.ref q, .int p0, .int p1]) (n := 4) (Nat.le_of_ble_eq_true rfl)
  rw [lg_entry_eq]
  generalize (lg_sl ([.ref q, .int p0, .int p1]) ++ List.replicate (4 - (lg_sl ([.ref q, .int p0, .int p1])).length) Slot.unset).toArray = ls at hl ⊢
  have hl : lv_has ls 4 [(0, .ref q), (1, .int p0), (2, .int p1)] := hl
  unfold fX0_areTogether at h
  refine lv_aload_n hx hb dX0_areTogether_0 rfl (lv_at hl 0 rfl) ?_
  refine va_get (D := D) (ci := 0) (v := .ref (q + 1)) (C := RX0) (T := TX0) (N := 13) hx hb hts hinX0 hown hK hP 0 rfl rfl 0 (by decide) hf9 (fun _ h9 => h9) rfl dX0_areTogether_1 ?_
  refine lv_iload_n hx hb dX0_areTogether_4 rfl (lv_at hl 1 rfl) ?_
  obtain ⟨hg1, h⟩ := gd_some h
  refine g_iald (f := (lWe L)) (k := p0.toNatClampNeg) hx hb hK hP 1 0 rfl rfl hg1 rfl dX0_areTogether_5 ?_
  refine lv_aload_n hx hb dX0_areTogether_6 rfl (lv_at hl 0 rfl) ?_
  refine va_get (D := D) (ci := 0) (v := .ref (q + 1)) (C := RX0) (T := TX0) (N := 13) hx hb hts hinX0 hown hK hP 0 rfl rfl 0 (by decide) hf9 (fun _ h9 => h9) rfl dX0_areTogether_7 ?_
  refine lv_iload_n hx hb dX0_areTogether_10 rfl (lv_at hl 2 rfl) ?_
  obtain ⟨hg2, h⟩ := gd_some h
  refine g_iald (f := (lWe L)) (k := p1.toNatClampNeg) hx hb hK hP 1 0 rfl rfl hg2 rfl dX0_areTogether_11 ?_
  refine lv_icmp_ne (tgt := 40) hx hb dX0_areTogether_12 (by decide) (fun c3 => ?_) (fun c3 => ?_)
  · replace h := (if_neg c3).symm.trans h
    refine lv_iconst (v := 0) hx hb dX0_areTogether_40 (by decide) ?_
    refine lv_istore_n (lv' := [(3, .int 0), (0, .ref q), (1, .int p0), (2, .int p1)]) hx hb dX0_areTogether_41 rfl hl (by decide) rfl (fun ls hl => ?_)
    refine lv_iload_n hx hb dX0_areTogether_42 rfl (lv_at hl 0 rfl) ?_
    refine lv_if_eq (tgt := 66) hx hb dX0_areTogether_43 (by decide) (fun _ => ?_) (fun c => absurd c (by decide))
    refine lv_iconst (v := 0) hx hb dX0_areTogether_66 (by decide) ?_
    have h := Option.some.inj h
    exact W.zret (v := 0) hx hb hr rfl (fun t ht hW => ⟨_, rfl, h, ht⟩) t_nil dX0_areTogether_67
  · replace h := (if_pos c3).symm.trans h
    refine lv_aload_n hx hb dX0_areTogether_15 rfl (lv_at hl 0 rfl) ?_
    refine va_get (D := D) (ci := 0) (v := .ref (q + 2)) (C := RX0) (T := TX0) (N := 13) hx hb hts hinX0 hown hK hP 0 rfl rfl 1 (by decide) hf15 (fun _ h9 => h9) rfl dX0_areTogether_16 ?_
    refine lv_iload_n hx hb dX0_areTogether_19 rfl (lv_at hl 1 rfl) ?_
    refine g_iald (f := (lCy L)) (k := p0.toNatClampNeg) hx hb hK hP 2 0 rfl rfl hg1 rfl dX0_areTogether_20 ?_
    refine lv_bipush (v := 10) hx hb dX0_areTogether_21 (by decide) ?_
    refine lv_idiv hx hb dX0_areTogether_23 (by decide) ?_
    refine lv_aload_n hx hb dX0_areTogether_24 rfl (lv_at hl 0 rfl) ?_
    refine va_get (D := D) (ci := 0) (v := .ref (q + 2)) (C := RX0) (T := TX0) (N := 13) hx hb hts hinX0 hown hK hP 0 rfl rfl 1 (by decide) hf15 (fun _ h9 => h9) rfl dX0_areTogether_25 ?_
    refine lv_iload_n hx hb dX0_areTogether_28 rfl (lv_at hl 2 rfl) ?_
    refine g_iald (f := (lCy L)) (k := p1.toNatClampNeg) hx hb hK hP 2 0 rfl rfl hg2 rfl dX0_areTogether_29 ?_
    refine lv_bipush (v := 10) hx hb dX0_areTogether_30 (by decide) ?_
    refine lv_idiv hx hb dX0_areTogether_32 (by decide) ?_
    refine lv_icmp_ne (tgt := 40) hx hb dX0_areTogether_33 (by decide) (fun c4 => ?_) (fun c4 => ?_)
    · replace h := (if_neg c4).symm.trans h
      refine lv_iconst (v := 0) hx hb dX0_areTogether_40 (by decide) ?_
      refine lv_istore_n (lv' := [(3, .int 0), (0, .ref q), (1, .int p0), (2, .int p1)]) hx hb dX0_areTogether_41 rfl hl (by decide) rfl (fun ls hl => ?_)
      refine lv_iload_n hx hb dX0_areTogether_42 rfl (lv_at hl 0 rfl) ?_
      refine lv_if_eq (tgt := 66) hx hb dX0_areTogether_43 (by decide) (fun _ => ?_) (fun c => absurd c (by decide))
      refine lv_iconst (v := 0) hx hb dX0_areTogether_66 (by decide) ?_
      have h := Option.some.inj h
      exact W.zret (v := 0) hx hb hr rfl (fun t ht hW => ⟨_, rfl, h, ht⟩) t_nil dX0_areTogether_67
    · replace h := (if_pos c4).symm.trans h
      refine lv_iconst (v := 1) hx hb dX0_areTogether_36 (by decide) ?_
      refine lv_goto (tgt := 41) hx hb dX0_areTogether_37 (by decide) ?_
      refine lv_istore_n (lv' := [(3, .int 1), (0, .ref q), (1, .int p0), (2, .int p1)]) hx hb dX0_areTogether_41 rfl hl (by decide) rfl (fun ls hl => ?_)
      refine lv_iload_n hx hb dX0_areTogether_42 rfl (lv_at hl 0 rfl) ?_
      refine lv_if_eq (tgt := 66) hx hb dX0_areTogether_43 (by decide) (fun c => absurd c (by decide)) (fun _ => ?_)
      refine lv_aload_n hx hb dX0_areTogether_46 rfl (lv_at hl 1 rfl) ?_
      refine lv_iload_n hx hb dX0_areTogether_47 rfl (lv_at hl 2 rfl) ?_
      obtain ⟨r48, hr48, h⟩ := bd_some h
      refine gc_ri (As := [.int p0]) (rest := []) ⟨hx, hb, hml, hown, hts⟩ hK (kX0_isGrouped l D cI cC cZ cQ cJ q L p0 hr48) (cwV 1 hts gX0_areTogether_X0_isGrouped rfl rfl rfl (by decide +kernel) ⟨Nat.le_of_ble_eq_true rfl, Nat.le_of_ble_eq_true rfl⟩) (va_recv hK hP (ci := 0) (q0 := 0) rfl rfl) hP rfl hl.1 rfl (Nat.le_of_ble_eq_true rfl) ⟨Nat.zero_le _, Nat.zero_le _⟩ dX0_areTogether_48 ?_
      refine lv_if_eq (tgt := 66) hx hb dX0_areTogether_51 (by decide) (fun c5 => ?_) (fun c5 => ?_)
      · replace h := (if_pos c5).symm.trans h
        refine lv_iconst (v := 0) hx hb dX0_areTogether_66 (by decide) ?_
        have h := Option.some.inj h
        exact W.zret (v := 0) hx hb hr rfl (fun t ht hW => ⟨_, rfl, h, ht⟩) t_nil dX0_areTogether_67
      · replace h := (if_neg c5).symm.trans h
        refine lv_aload_n hx hb dX0_areTogether_54 rfl (lv_at hl 1 rfl) ?_
        refine lv_iload_n hx hb dX0_areTogether_55 rfl (lv_at hl 3 rfl) ?_
        obtain ⟨r56, hr56, h⟩ := bd_some h
        refine gc_ri (As := [.int p1]) (rest := []) ⟨hx, hb, hml, hown, hts⟩ hK (kX0_isGrouped l D cI cC cZ cQ cJ q L p1 hr56) (cwV 1 hts gX0_areTogether_X0_isGrouped rfl rfl rfl (by decide +kernel) ⟨Nat.le_of_ble_eq_true rfl, Nat.le_of_ble_eq_true rfl⟩) (va_recv hK hP (ci := 0) (q0 := 0) rfl rfl) hP rfl hl.1 rfl (Nat.le_of_ble_eq_true rfl) ⟨Nat.zero_le _, Nat.zero_le _⟩ dX0_areTogether_56 ?_
        refine lv_if_eq (tgt := 66) hx hb dX0_areTogether_59 (by decide) (fun c6 => ?_) (fun c6 => ?_)
        · replace h := (if_pos c6).symm.trans h
          refine lv_iconst (v := 0) hx hb dX0_areTogether_66 (by decide) ?_
          have h := Option.some.inj h
          exact W.zret (v := 0) hx hb hr rfl (fun t ht hW => ⟨_, rfl, h, ht⟩) t_nil dX0_areTogether_67
        · replace h := (if_neg c6).symm.trans h
          refine lv_iconst (v := 1) hx hb dX0_areTogether_62 (by decide) ?_
          refine lv_goto (tgt := 67) hx hb dX0_areTogether_63 (by decide) ?_
          have h := Option.some.inj h
          exact W.zret (v := 1) hx hb hr rfl (fun t ht hW => ⟨_, rfl, h, ht⟩) t_nil dX0_areTogether_67
set_option maxHeartbeats 4000000 in
set_option maxRecDepth 100000 in
theorem kX0_opensGroup (l : Launch) (D : va_G) (cI cC cZ cQ cJ : ClassId) (q : Nat) (L : LSt) (p0 : Int32) {R : Int32} (h : fX0_opensGroup L p0 = some R) : Met l yX0_opensGroup wsX0_opensGroup ({ frames := 2, cells := 0, slots := 0, locals := 44 } : Room) (va_Pc [.ref q, .int p0] (gB D (gTy cI cC cZ cQ cJ) (va_P D vwCl (LW cI q L)))) (vp_Si (fun r => r = R)) 0 0 (fun _ => False) := by
  refine Met.ofW (cc := cX0_opensGroup) (maxL := 3) (ret := (some .boolean)) (by decide) rfl ?_
  intro p e s m args below meth c s₁ B hml hv
  obtain ⟨rfl, hP, hK⟩ := hv
  have hx := B.exec
  have hb := B.bytes
  have hr := B.returns
  have hts := atoms_spec (ws := wsX0_opensGroup) B.pre
  have hown : s.vm.findClass RX0 = some m.cls := findClass_of_methodNamed B.named
  have hlocks := B.notSynchronized
  generalize hRM : (headSpec wsX0_opensGroup ({ frames := 2, cells := 0, slots := 0, locals := 44 } : Room)).room = RM
  replace hRM : ({ frames := 2, cells := 0, slots := 0, locals := 44 } : Room) = RM := hRM
  subst hRM
  have hl := lv_entry ([.ref q, .int p0]) (n := 3) (Nat.le_of_ble_eq_true rfl)
  rw [lg_entry_eq]
  generalize (lg_sl ([.ref q, .int p0]) ++ List.replicate (3 - (lg_sl ([.ref q, .int p0])).length) Slot.unset).toArray = ls at hl ⊢
  have hl : lv_has ls 3 [(0, .ref q), (1, .int p0)] := hl
  have LP2 : ∀ (n : Nat) (x1 : Int32) (x2 : Int32) (ls : Array Slot), fX0_opensGroup_L2 L n x1 x2 = some R → lv_has ls 3 [(0, .ref q), (1, .int x1), (2, .int x2)] → W p l e ({ frames := 2, cells := 0, slots := 0, locals := 44 } : Room) s m ([.ref q, .int p0] : List Value).toArray below meth c s.heap [] 0 0 (MQ below (vp_Si (fun r => r = R)) ([.ref q, .int p0] : List Value).toArray s 0 0 (fun _ => False)) (F0 m 2 ls []) := by
    intro n
    induction n with
    | zero => intro x1 x2 ls h hl; exact no_some h
    | succ n ih =>
      intro x1 x2 ls h hl
      rw [fX0_opensGroup_L2] at h
      refine lv_iload_n hx hb dX0_opensGroup_2 rfl (lv_at hl 2 rfl) ?_
      refine lv_iload_n hx hb dX0_opensGroup_3 rfl (lv_at hl 1 rfl) ?_
      refine lv_icmp_ge (tgt := 24) hx hb dX0_opensGroup_4 (by decide) (fun c1 => ?_) (fun c1 => ?_)
      · replace h := (if_pos c1).symm.trans h
        refine lv_aload_n hx hb dX0_opensGroup_24 rfl (lv_at hl 0 rfl) ?_
        refine lv_iload_n hx hb dX0_opensGroup_25 rfl (lv_at hl 1 rfl) ?_
        obtain ⟨r26, hr26, h⟩ := bd_some h
        refine gc_ri (As := [.int x1]) (rest := []) ⟨hx, hb, hml, hown, hts⟩ hK (kX0_isGrouped l D cI cC cZ cQ cJ q L x1 hr26) (cwV 1 hts gX0_opensGroup_X0_isGrouped rfl rfl rfl (by decide +kernel) ⟨Nat.le_of_ble_eq_true rfl, Nat.le_of_ble_eq_true rfl⟩) (va_recv hK hP (ci := 0) (q0 := 0) rfl rfl) hP rfl hl.1 rfl (Nat.le_of_ble_eq_true rfl) ⟨Nat.zero_le _, Nat.zero_le _⟩ dX0_opensGroup_26 ?_
        obtain ⟨hz2, h⟩ := gz_some h
        have h := Option.some.inj h
        exact W.zret (v := r26) hx hb hr hz2 (fun t ht hW => ⟨_, rfl, h, ht⟩) t_nil dX0_opensGroup_29
      · replace h := (if_neg c1).symm.trans h
        refine lv_aload_n hx hb dX0_opensGroup_7 rfl (lv_at hl 0 rfl) ?_
        refine lv_iload_n hx hb dX0_opensGroup_8 rfl (lv_at hl 1 rfl) ?_
        refine lv_iload_n hx hb dX0_opensGroup_9 rfl (lv_at hl 2 rfl) ?_
        obtain ⟨r10, hr10, h⟩ := bd_some h
        refine gc_ri (As := [.int x1, .int x2]) (rest := []) ⟨hx, hb, hml, hown, hts⟩ hK (kX0_areTogether l D cI cC cZ cQ cJ q L x1 x2 hr10) (cwV 2 hts gX0_opensGroup_X0_areTogether rfl rfl rfl (by decide +kernel) ⟨Nat.le_of_ble_eq_true rfl, Nat.le_of_ble_eq_true rfl⟩) (va_recv hK hP (ci := 0) (q0 := 0) rfl rfl) hP rfl hl.1 rfl (Nat.le_of_ble_eq_true rfl) ⟨Nat.zero_le _, Nat.zero_le _⟩ dX0_opensGroup_10 ?_
        refine lv_if_eq (tgt := 18) hx hb dX0_opensGroup_13 (by decide) (fun c3 => ?_) (fun c3 => ?_)
        · replace h := (if_pos c3).symm.trans h
          refine lv_iinc (v := (x2 + 1)) (lv' := [(2, .int (x2 + 1)), (0, .ref q), (1, .int x1)]) hx hb dX0_opensGroup_18 hl (k := 2) rfl rfl (by decide) rfl (fun ls hl => ?_)
          refine lv_goto (tgt := 2) hx hb dX0_opensGroup_21 (by decide) ?_
          exact ih x1 (x2 + 1) ls h (lv_sub hl [1, 2, 0] rfl)
        · replace h := (if_neg c3).symm.trans h
          refine lv_iconst (v := 0) hx hb dX0_opensGroup_16 (by decide) ?_
          have h := Option.some.inj h
          exact W.zret (v := 0) hx hb hr rfl (fun t ht hW => ⟨_, rfl, h, ht⟩) t_nil dX0_opensGroup_17
  unfold fX0_opensGroup at h
  refine lv_iconst (v := 0) hx hb dX0_opensGroup_0 (by decide) ?_
  refine lv_istore_n (lv' := [(2, .int 0), (0, .ref q), (1, .int p0)]) hx hb dX0_opensGroup_1 rfl hl (by decide) rfl (fun ls hl => ?_)
  exact LP2 KF p0 0 ls h (lv_sub hl [1, 2, 0] rfl)
set_option maxHeartbeats 4000000 in
set_option maxRecDepth 100000 in
theorem kX0_groupSize (l : Launch) (D : va_G) (cI cC cZ cQ cJ : ClassId) (q : Nat) (L : LSt) (p0 : Int32) {R : Int32} (h : fX0_groupSize L p0 = some R) : Met l yX0_groupSize wsX0_groupSize ({ frames := 2, cells := 0, slots := 0, locals := 44 } : Room) (va_Pc [.ref q, .int p0] (gB D (gTy cI cC cZ cQ cJ) (va_P D vwCl (LW cI q L)))) (vp_Si (fun r => r = R)) 0 0 (fun _ => False) := by
  refine Met.ofW (cc := cX0_groupSize) (maxL := 4) (ret := (some .int)) (by decide) rfl ?_
  intro p e s m args below meth c s₁ B hml hv
  obtain ⟨rfl, hP, hK⟩ := hv
  have hx := B.exec
  have hb := B.bytes
  have hr := B.returns
  have hts := atoms_spec (ws := wsX0_groupSize) B.pre
  have hown : s.vm.findClass RX0 = some m.cls := findClass_of_methodNamed B.named
  have hlocks := B.notSynchronized
  generalize hRM : (headSpec wsX0_groupSize ({ frames := 2, cells := 0, slots := 0, locals := 44 } : Room)).room = RM
  replace hRM : ({ frames := 2, cells := 0, slots := 0, locals := 44 } : Room) = RM := hRM
  subst hRM
  have hl := lv_entry ([.ref q, .int p0]) (n := 4) (Nat.le_of_ble_eq_true rfl)
  rw [lg_entry_eq]
  generalize (lg_sl ([.ref q, .int p0]) ++ List.replicate (4 - (lg_sl ([.ref q, .int p0])).length) Slot.unset).toArray = ls at hl ⊢
  have hl : lv_has ls 4 [(0, .ref q), (1, .int p0)] := hl
  have LP4 : ∀ (n : Nat) (x1 : Int32) (x2 : Int32) (x3 : Int32) (ls : Array Slot), fX0_groupSize_L4 L n x1 x2 x3 = some R → lv_has ls 4 [(0, .ref q), (1, .int x1), (2, .int x2), (3, .int x3)] → W p l e ({ frames := 2, cells := 0, slots := 0, locals := 44 } : Room) s m ([.ref q, .int p0] : List Value).toArray below meth c s.heap [] 0 0 (MQ below (vp_Si (fun r => r = R)) ([.ref q, .int p0] : List Value).toArray s 0 0 (fun _ => False)) (F0 m 4 ls []) := by
    intro n
    induction n with
    | zero => intro x1 x2 x3 ls h hl; exact no_some h
    | succ n ih =>
      intro x1 x2 x3 ls h hl
      rw [fX0_groupSize_L4] at h
      refine lv_iload_n hx hb dX0_groupSize_4 rfl (lv_at hl 3 rfl) ?_
      refine lv_bipush (v := 12) hx hb dX0_groupSize_5 (by decide) ?_
      refine lv_icmp_ge (tgt := 28) hx hb dX0_groupSize_7 (by decide) (fun c1 => ?_) (fun c1 => ?_)
      · replace h := (if_pos c1).symm.trans h
        refine lv_iload_n hx hb dX0_groupSize_28 rfl (lv_at hl 2 rfl) ?_
        have h := Option.some.inj h
        exact W.iret (v := x2) hx hb hr (fun t ht hW => ⟨_, rfl, h, ht⟩) t_nil dX0_groupSize_29
      · replace h := (if_neg c1).symm.trans h
        refine lv_aload_n hx hb dX0_groupSize_10 rfl (lv_at hl 0 rfl) ?_
        refine lv_iload_n hx hb dX0_groupSize_11 rfl (lv_at hl 1 rfl) ?_
        refine lv_iload_n hx hb dX0_groupSize_12 rfl (lv_at hl 3 rfl) ?_
        obtain ⟨r13, hr13, h⟩ := bd_some h
        refine gc_ri (As := [.int x1, .int x3]) (rest := []) ⟨hx, hb, hml, hown, hts⟩ hK (kX0_areTogether l D cI cC cZ cQ cJ q L x1 x3 hr13) (cwV 2 hts gX0_groupSize_X0_areTogether rfl rfl rfl (by decide +kernel) ⟨Nat.le_of_ble_eq_true rfl, Nat.le_of_ble_eq_true rfl⟩) (va_recv hK hP (ci := 0) (q0 := 0) rfl rfl) hP rfl hl.1 rfl (Nat.le_of_ble_eq_true rfl) ⟨Nat.zero_le _, Nat.zero_le _⟩ dX0_groupSize_13 ?_
        refine lv_if_eq (tgt := 22) hx hb dX0_groupSize_16 (by decide) (fun c2 => ?_) (fun c2 => ?_)
        · replace h := (if_pos c2).symm.trans h
          refine lv_iinc (v := (x3 + 1)) (lv' := [(3, .int (x3 + 1)), (0, .ref q), (1, .int x1), (2, .int x2)]) hx hb dX0_groupSize_22 hl (k := 3) rfl rfl (by decide) rfl (fun ls hl => ?_)
          refine lv_goto (tgt := 4) hx hb dX0_groupSize_25 (by decide) ?_
          exact ih x1 x2 (x3 + 1) ls h (lv_sub hl [1, 2, 3, 0] rfl)
        · replace h := (if_neg c2).symm.trans h
          refine lv_iinc (v := (x2 + 1)) (lv' := [(2, .int (x2 + 1)), (0, .ref q), (1, .int x1), (3, .int x3)]) hx hb dX0_groupSize_19 hl (k := 2) rfl rfl (by decide) rfl (fun ls hl => ?_)
          refine lv_iinc (v := (x3 + 1)) (lv' := [(3, .int (x3 + 1)), (2, .int (x2 + 1)), (0, .ref q), (1, .int x1)]) hx hb dX0_groupSize_22 hl (k := 3) rfl rfl (by decide) rfl (fun ls hl => ?_)
          refine lv_goto (tgt := 4) hx hb dX0_groupSize_25 (by decide) ?_
          exact ih x1 (x2 + 1) (x3 + 1) ls h (lv_sub hl [2, 3, 1, 0] rfl)
  unfold fX0_groupSize at h
  refine lv_iconst (v := 0) hx hb dX0_groupSize_0 (by decide) ?_
  refine lv_istore_n (lv' := [(2, .int 0), (0, .ref q), (1, .int p0)]) hx hb dX0_groupSize_1 rfl hl (by decide) rfl (fun ls hl => ?_)
  refine lv_iconst (v := 0) hx hb dX0_groupSize_2 (by decide) ?_
  refine lv_istore_n (lv' := [(3, .int 0), (2, .int 0), (0, .ref q), (1, .int p0)]) hx hb dX0_groupSize_3 rfl hl (by decide) rfl (fun ls hl => ?_)
  exact LP4 KF p0 0 0 ls h (lv_sub hl [2, 3, 1, 0] rfl)
set_option maxHeartbeats 4000000 in
set_option maxRecDepth 100000 in
theorem kX0_become (l : Launch) (D : va_G) (cI cC cZ cQ cJ : ClassId) (q : Nat) (z : Nat) (X : LSt × LSt) (hd : q + 10 ≤ z ∨ z + 10 ≤ q) {R : (LSt × LSt)} (h : fX0_become X = some R) : Met l yX0_become wsX0_become ({ frames := 1, cells := 0, slots := 0, locals := 40 } : Room) (va_Pc [.ref q, .ref z] (gB D (gTy cI cC cZ cQ cJ) (va_P D vwCl (LLW cI q z X)))) (va_Qv (fun _ : Unit => True) (fun _ t => va_P D vwCl (LLW cI q z R) t.heap) (gOr (fIv q 10) (fIv z 10))) 0 0 (gOr (fIv q 10) (fIv z 10)) := by
  refine Met.ofW (cc := cX0_become) (maxL := 2) (ret := none) (by decide) rfl ?_
  intro p e s m args below meth c s₁ B hml hv
  obtain ⟨rfl, hP, hK⟩ := hv
  have hx := B.exec
  have hb := B.bytes
  have hr := B.returns
  have hts := atoms_spec (ws := wsX0_become) B.pre
  have hown : s.vm.findClass RX0 = some m.cls := findClass_of_methodNamed B.named
  have hlocks := B.notSynchronized
  have hinX0 : ∀ w ∈ wsX00, w ∈ wsX0_become := by decide +kernel
  have hf9 := hts (.fieldLink RX0 9 "GripInspector$Lift" "weight" "[I") (by decide +kernel)
  have hf15 := hts (.fieldLink RX0 15 "GripInspector$Lift" "cycles" "[I") (by decide +kernel)
  have hf18 := hts (.fieldLink RX0 18 "GripInspector$Lift" "wear" "[I") (by decide +kernel)
  have hf21 := hts (.fieldLink RX0 21 "GripInspector$Lift" "pulls" "[I") (by decide +kernel)
  have hf24 := hts (.fieldLink RX0 24 "GripInspector$Lift" "lastSlip" "[I") (by decide +kernel)
  have hf27 := hts (.fieldLink RX0 27 "GripInspector$Lift" "place" "[I") (by decide +kernel)
  have hf30 := hts (.fieldLink RX0 30 "GripInspector$Lift" "spot" "[I") (by decide +kernel)
  have hf33 := hts (.fieldLink RX0 33 "GripInspector$Lift" "stepsLeft" "[I") (by decide +kernel)
  have hf36 := hts (.fieldLink RX0 36 "GripInspector$Lift" "limits" "[I") (by decide +kernel)
  have hf42 := hts (.fieldLink RX0 42 "GripInspector$Lift" "n" "I") (by decide +kernel)
  have hf46 := hts (.fieldLink RX0 46 "GripInspector$Lift" "station" "I") (by decide +kernel)
  have hf49 := hts (.fieldLink RX0 49 "GripInspector$Lift" "clock" "I") (by decide +kernel)
  have hf52 := hts (.fieldLink RX0 52 "GripInspector$Lift" "randomState" "J") (by decide +kernel)
  generalize hRM : (headSpec wsX0_become ({ frames := 1, cells := 0, slots := 0, locals := 40 } : Room)).room = RM
  replace hRM : ({ frames := 1, cells := 0, slots := 0, locals := 40 } : Room) = RM := hRM
  subst hRM
  have hl := lv_entry ([.ref q, .ref z]) (n := 2) (Nat.le_of_ble_eq_true rfl)
  rw [lg_entry_eq]
  generalize (lg_sl ([.ref q, .ref z]) ++ List.replicate (2 - (lg_sl ([.ref q, .ref z])).length) Slot.unset).toArray = ls at hl ⊢
  have hl : lv_has ls 2 [(0, .ref q), (1, .ref z)] := hl
  have hS : va_S (gOr (fIv q 10) (fIv z 10)) s.heap s.heap [] := va_S.rf
  unfold fX0_become at h
  obtain ⟨H, hH⟩ : ∃ H, H = s.heap := ⟨_, rfl⟩
  obtain ⟨locs, hlz⟩ : ∃ z : List Loc, z = [] := ⟨_, rfl⟩
  have hP : va_P D vwCl (LLW cI q z X) H := by rw [hH]; exact hP
  have hS : va_S (gOr (fIv q 10) (fIv z 10)) s.heap H locs := by rw [hH, hlz]; exact hS
  refine gc_at hH hlz ?_
  refine lv_aload_n hx hb dX0_become_0 rfl (lv_at hl 1 rfl) ?_
  refine va_get (D := D) (ci := 0) (v := .ref (z + 1)) (C := RX0) (T := TX0) (N := 13) hx hb hts hinX0 hown hK hP 10 rfl rfl 0 (by decide) hf9 (fun _ h9 => h9) rfl dX0_become_1 ?_
  refine lv_iconst (v := 0) hx hb dX0_become_4 (by decide) ?_
  refine lv_aload_n hx hb dX0_become_5 rfl (lv_at hl 0 rfl) ?_
  refine va_get (D := D) (ci := 0) (v := .ref (q + 1)) (C := RX0) (T := TX0) (N := 13) hx hb hts hinX0 hown hK hP 0 rfl rfl 0 (by decide) hf9 (fun _ h9 => h9) rfl dX0_become_6 ?_
  refine lv_iconst (v := 0) hx hb dX0_become_9 (by decide) ?_
  refine lv_bipush (v := 12) hx hb dX0_become_10 (by decide) ?_
  refine va_copyi hx hb (hml.trans hl.1.symm) hown (hts (.methodLink RX0 56 arraycopyName) (by decide +kernel)) (hts (.native arraycopyName) (by decide +kernel)) (hts (.static arraycopyName) (by decide +kernel)) (hts (.initialized "java/lang/System") (by decide +kernel)) hK hP (LLW_self hd) hS 11 1 0 0 (f := (lWe (pS X))) (g := (lWe (pF X))) (ty := .int) rfl rfl rfl rfl rfl (by decide) (by decide) (by decide) (by decide) (by decide) (fun _ _ => rfl) (Nat.le_of_ble_eq_true rfl) (Nat.le_of_ble_eq_true rfl) dX0_become_12 (fun H locs hP _ hS => ?_)
  have hP : va_P D vwCl (LLW cI q z (((va_cpy (lWe (pS X)) (lWe (pF X)) 0 0 12), (lCy (pF X)), (lWr (pF X)), (lPu (pF X)), (lSl (pF X)), (lPl (pF X)), (lSp (pF X)), (lSt (pF X)), (lLi (pF X)), (lN_ (pF X)), (lStn (pF X)), (lClk (pF X)), (lRnd (pF X))), (pS X))) H := hP
  refine lv_aload_n hx hb dX0_become_15 rfl (lv_at hl 1 rfl) ?_
  refine va_get (D := D) (ci := 0) (v := .ref (z + 2)) (C := RX0) (T := TX0) (N := 13) hx hb hts hinX0 hown hK hP 10 rfl rfl 1 (by decide) hf15 (fun _ h9 => h9) rfl dX0_become_16 ?_
  refine lv_iconst (v := 0) hx hb dX0_become_19 (by decide) ?_
  refine lv_aload_n hx hb dX0_become_20 rfl (lv_at hl 0 rfl) ?_
  refine va_get (D := D) (ci := 0) (v := .ref (q + 2)) (C := RX0) (T := TX0) (N := 13) hx hb hts hinX0 hown hK hP 0 rfl rfl 1 (by decide) hf15 (fun _ h9 => h9) rfl dX0_become_21 ?_
  refine lv_iconst (v := 0) hx hb dX0_become_24 (by decide) ?_
  refine lv_bipush (v := 12) hx hb dX0_become_25 (by decide) ?_
  refine va_copyi hx hb (hml.trans hl.1.symm) hown (hts (.methodLink RX0 56 arraycopyName) (by decide +kernel)) (hts (.native arraycopyName) (by decide +kernel)) (hts (.static arraycopyName) (by decide +kernel)) (hts (.initialized "java/lang/System") (by decide +kernel)) hK hP (LLW_self hd) hS 12 2 0 0 (f := (lCy (pS X))) (g := (lCy (pF X))) (ty := .int) rfl rfl rfl rfl rfl (by decide) (by decide) (by decide) (by decide) (by decide) (fun _ _ => rfl) (Nat.le_of_ble_eq_true rfl) (Nat.le_of_ble_eq_true rfl) dX0_become_27 (fun H locs hP _ hS => ?_)
  have hP : va_P D vwCl (LLW cI q z (((va_cpy (lWe (pS X)) (lWe (pF X)) 0 0 12), (va_cpy (lCy (pS X)) (lCy (pF X)) 0 0 12), (lWr (pF X)), (lPu (pF X)), (lSl (pF X)), (lPl (pF X)), (lSp (pF X)), (lSt (pF X)), (lLi (pF X)), (lN_ (pF X)), (lStn (pF X)), (lClk (pF X)), (lRnd (pF X))), (pS X))) H := hP
  refine lv_aload_n hx hb dX0_become_30 rfl (lv_at hl 1 rfl) ?_
  refine va_get (D := D) (ci := 0) (v := .ref (z + 3)) (C := RX0) (T := TX0) (N := 13) hx hb hts hinX0 hown hK hP 10 rfl rfl 2 (by decide) hf18 (fun _ h9 => h9) rfl dX0_become_31 ?_
  refine lv_iconst (v := 0) hx hb dX0_become_34 (by decide) ?_
  refine lv_aload_n hx hb dX0_become_35 rfl (lv_at hl 0 rfl) ?_
  refine va_get (D := D) (ci := 0) (v := .ref (q + 3)) (C := RX0) (T := TX0) (N := 13) hx hb hts hinX0 hown hK hP 0 rfl rfl 2 (by decide) hf18 (fun _ h9 => h9) rfl dX0_become_36 ?_
  refine lv_iconst (v := 0) hx hb dX0_become_39 (by decide) ?_
  refine lv_bipush (v := 12) hx hb dX0_become_40 (by decide) ?_
  refine va_copyi hx hb (hml.trans hl.1.symm) hown (hts (.methodLink RX0 56 arraycopyName) (by decide +kernel)) (hts (.native arraycopyName) (by decide +kernel)) (hts (.static arraycopyName) (by decide +kernel)) (hts (.initialized "java/lang/System") (by decide +kernel)) hK hP (LLW_self hd) hS 13 3 0 0 (f := (lWr (pS X))) (g := (lWr (pF X))) (ty := .int) rfl rfl rfl rfl rfl (by decide) (by decide) (by decide) (by decide) (by decide) (fun _ _ => rfl) (Nat.le_of_ble_eq_true rfl) (Nat.le_of_ble_eq_true rfl) dX0_become_42 (fun H locs hP _ hS => ?_)
  have hP : va_P D vwCl (LLW cI q z (((va_cpy (lWe (pS X)) (lWe (pF X)) 0 0 12), (va_cpy (lCy (pS X)) (lCy (pF X)) 0 0 12), (va_cpy (lWr (pS X)) (lWr (pF X)) 0 0 12), (lPu (pF X)), (lSl (pF X)), (lPl (pF X)), (lSp (pF X)), (lSt (pF X)), (lLi (pF X)), (lN_ (pF X)), (lStn (pF X)), (lClk (pF X)), (lRnd (pF X))), (pS X))) H := hP
  refine lv_aload_n hx hb dX0_become_45 rfl (lv_at hl 1 rfl) ?_
  refine va_get (D := D) (ci := 0) (v := .ref (z + 4)) (C := RX0) (T := TX0) (N := 13) hx hb hts hinX0 hown hK hP 10 rfl rfl 3 (by decide) hf21 (fun _ h9 => h9) rfl dX0_become_46 ?_
  refine lv_iconst (v := 0) hx hb dX0_become_49 (by decide) ?_
  refine lv_aload_n hx hb dX0_become_50 rfl (lv_at hl 0 rfl) ?_
  refine va_get (D := D) (ci := 0) (v := .ref (q + 4)) (C := RX0) (T := TX0) (N := 13) hx hb hts hinX0 hown hK hP 0 rfl rfl 3 (by decide) hf21 (fun _ h9 => h9) rfl dX0_become_51 ?_
  refine lv_iconst (v := 0) hx hb dX0_become_54 (by decide) ?_
  refine lv_bipush (v := 12) hx hb dX0_become_55 (by decide) ?_
  refine va_copyi hx hb (hml.trans hl.1.symm) hown (hts (.methodLink RX0 56 arraycopyName) (by decide +kernel)) (hts (.native arraycopyName) (by decide +kernel)) (hts (.static arraycopyName) (by decide +kernel)) (hts (.initialized "java/lang/System") (by decide +kernel)) hK hP (LLW_self hd) hS 14 4 0 0 (f := (lPu (pS X))) (g := (lPu (pF X))) (ty := .int) rfl rfl rfl rfl rfl (by decide) (by decide) (by decide) (by decide) (by decide) (fun _ _ => rfl) (Nat.le_of_ble_eq_true rfl) (Nat.le_of_ble_eq_true rfl) dX0_become_57 (fun H locs hP _ hS => ?_)
  have hP : va_P D vwCl (LLW cI q z (((va_cpy (lWe (pS X)) (lWe (pF X)) 0 0 12), (va_cpy (lCy (pS X)) (lCy (pF X)) 0 0 12), (va_cpy (lWr (pS X)) (lWr (pF X)) 0 0 12), (va_cpy (lPu (pS X)) (lPu (pF X)) 0 0 12), (lSl (pF X)), (lPl (pF X)), (lSp (pF X)), (lSt (pF X)), (lLi (pF X)), (lN_ (pF X)), (lStn (pF X)), (lClk (pF X)), (lRnd (pF X))), (pS X))) H := hP
  refine lv_aload_n hx hb dX0_become_60 rfl (lv_at hl 1 rfl) ?_
  refine va_get (D := D) (ci := 0) (v := .ref (z + 5)) (C := RX0) (T := TX0) (N := 13) hx hb hts hinX0 hown hK hP 10 rfl rfl 4 (by decide) hf24 (fun _ h9 => h9) rfl dX0_become_61 ?_
  refine lv_iconst (v := 0) hx hb dX0_become_64 (by decide) ?_
  refine lv_aload_n hx hb dX0_become_65 rfl (lv_at hl 0 rfl) ?_
  refine va_get (D := D) (ci := 0) (v := .ref (q + 5)) (C := RX0) (T := TX0) (N := 13) hx hb hts hinX0 hown hK hP 0 rfl rfl 4 (by decide) hf24 (fun _ h9 => h9) rfl dX0_become_66 ?_
  refine lv_iconst (v := 0) hx hb dX0_become_69 (by decide) ?_
  refine lv_bipush (v := 12) hx hb dX0_become_70 (by decide) ?_
  refine va_copyi hx hb (hml.trans hl.1.symm) hown (hts (.methodLink RX0 56 arraycopyName) (by decide +kernel)) (hts (.native arraycopyName) (by decide +kernel)) (hts (.static arraycopyName) (by decide +kernel)) (hts (.initialized "java/lang/System") (by decide +kernel)) hK hP (LLW_self hd) hS 15 5 0 0 (f := (lSl (pS X))) (g := (lSl (pF X))) (ty := .int) rfl rfl rfl rfl rfl (by decide) (by decide) (by decide) (by decide) (by decide) (fun _ _ => rfl) (Nat.le_of_ble_eq_true rfl) (Nat.le_of_ble_eq_true rfl) dX0_become_72 (fun H locs hP _ hS => ?_)
  have hP : va_P D vwCl (LLW cI q z (((va_cpy (lWe (pS X)) (lWe (pF X)) 0 0 12), (va_cpy (lCy (pS X)) (lCy (pF X)) 0 0 12), (va_cpy (lWr (pS X)) (lWr (pF X)) 0 0 12), (va_cpy (lPu (pS X)) (lPu (pF X)) 0 0 12), (va_cpy (lSl (pS X)) (lSl (pF X)) 0 0 12), (lPl (pF X)), (lSp (pF X)), (lSt (pF X)), (lLi (pF X)), (lN_ (pF X)), (lStn (pF X)), (lClk (pF X)), (lRnd (pF X))), (pS X))) H := hP
  refine lv_aload_n hx hb dX0_become_75 rfl (lv_at hl 1 rfl) ?_
  refine va_get (D := D) (ci := 0) (v := .ref (z + 6)) (C := RX0) (T := TX0) (N := 13) hx hb hts hinX0 hown hK hP 10 rfl rfl 5 (by decide) hf27 (fun _ h9 => h9) rfl dX0_become_76 ?_
  refine lv_iconst (v := 0) hx hb dX0_become_79 (by decide) ?_
  refine lv_aload_n hx hb dX0_become_80 rfl (lv_at hl 0 rfl) ?_
  refine va_get (D := D) (ci := 0) (v := .ref (q + 6)) (C := RX0) (T := TX0) (N := 13) hx hb hts hinX0 hown hK hP 0 rfl rfl 5 (by decide) hf27 (fun _ h9 => h9) rfl dX0_become_81 ?_
  refine lv_iconst (v := 0) hx hb dX0_become_84 (by decide) ?_
  refine lv_bipush (v := 12) hx hb dX0_become_85 (by decide) ?_
  refine va_copyi hx hb (hml.trans hl.1.symm) hown (hts (.methodLink RX0 56 arraycopyName) (by decide +kernel)) (hts (.native arraycopyName) (by decide +kernel)) (hts (.static arraycopyName) (by decide +kernel)) (hts (.initialized "java/lang/System") (by decide +kernel)) hK hP (LLW_self hd) hS 16 6 0 0 (f := (lPl (pS X))) (g := (lPl (pF X))) (ty := .int) rfl rfl rfl rfl rfl (by decide) (by decide) (by decide) (by decide) (by decide) (fun _ _ => rfl) (Nat.le_of_ble_eq_true rfl) (Nat.le_of_ble_eq_true rfl) dX0_become_87 (fun H locs hP _ hS => ?_)
  have hP : va_P D vwCl (LLW cI q z (((va_cpy (lWe (pS X)) (lWe (pF X)) 0 0 12), (va_cpy (lCy (pS X)) (lCy (pF X)) 0 0 12), (va_cpy (lWr (pS X)) (lWr (pF X)) 0 0 12), (va_cpy (lPu (pS X)) (lPu (pF X)) 0 0 12), (va_cpy (lSl (pS X)) (lSl (pF X)) 0 0 12), (va_cpy (lPl (pS X)) (lPl (pF X)) 0 0 12), (lSp (pF X)), (lSt (pF X)), (lLi (pF X)), (lN_ (pF X)), (lStn (pF X)), (lClk (pF X)), (lRnd (pF X))), (pS X))) H := hP
  refine lv_aload_n hx hb dX0_become_90 rfl (lv_at hl 1 rfl) ?_
  refine va_get (D := D) (ci := 0) (v := .ref (z + 7)) (C := RX0) (T := TX0) (N := 13) hx hb hts hinX0 hown hK hP 10 rfl rfl 6 (by decide) hf30 (fun _ h9 => h9) rfl dX0_become_91 ?_
  refine lv_iconst (v := 0) hx hb dX0_become_94 (by decide) ?_
  refine lv_aload_n hx hb dX0_become_95 rfl (lv_at hl 0 rfl) ?_
  refine va_get (D := D) (ci := 0) (v := .ref (q + 7)) (C := RX0) (T := TX0) (N := 13) hx hb hts hinX0 hown hK hP 0 rfl rfl 6 (by decide) hf30 (fun _ h9 => h9) rfl dX0_become_96 ?_
  refine lv_iconst (v := 0) hx hb dX0_become_99 (by decide) ?_
  refine lv_bipush (v := 12) hx hb dX0_become_100 (by decide) ?_
  refine va_copyi hx hb (hml.trans hl.1.symm) hown (hts (.methodLink RX0 56 arraycopyName) (by decide +kernel)) (hts (.native arraycopyName) (by decide +kernel)) (hts (.static arraycopyName) (by decide +kernel)) (hts (.initialized "java/lang/System") (by decide +kernel)) hK hP (LLW_self hd) hS 17 7 0 0 (f := (lSp (pS X))) (g := (lSp (pF X))) (ty := .int) rfl rfl rfl rfl rfl (by decide) (by decide) (by decide) (by decide) (by decide) (fun _ _ => rfl) (Nat.le_of_ble_eq_true rfl) (Nat.le_of_ble_eq_true rfl) dX0_become_102 (fun H locs hP _ hS => ?_)
  have hP : va_P D vwCl (LLW cI q z (((va_cpy (lWe (pS X)) (lWe (pF X)) 0 0 12), (va_cpy (lCy (pS X)) (lCy (pF X)) 0 0 12), (va_cpy (lWr (pS X)) (lWr (pF X)) 0 0 12), (va_cpy (lPu (pS X)) (lPu (pF X)) 0 0 12), (va_cpy (lSl (pS X)) (lSl (pF X)) 0 0 12), (va_cpy (lPl (pS X)) (lPl (pF X)) 0 0 12), (va_cpy (lSp (pS X)) (lSp (pF X)) 0 0 12), (lSt (pF X)), (lLi (pF X)), (lN_ (pF X)), (lStn (pF X)), (lClk (pF X)), (lRnd (pF X))), (pS X))) H := hP
  refine lv_aload_n hx hb dX0_become_105 rfl (lv_at hl 1 rfl) ?_
  refine va_get (D := D) (ci := 0) (v := .ref (z + 8)) (C := RX0) (T := TX0) (N := 13) hx hb hts hinX0 hown hK hP 10 rfl rfl 7 (by decide) hf33 (fun _ h9 => h9) rfl dX0_become_106 ?_
  refine lv_iconst (v := 0) hx hb dX0_become_109 (by decide) ?_
  refine lv_aload_n hx hb dX0_become_110 rfl (lv_at hl 0 rfl) ?_
  refine va_get (D := D) (ci := 0) (v := .ref (q + 8)) (C := RX0) (T := TX0) (N := 13) hx hb hts hinX0 hown hK hP 0 rfl rfl 7 (by decide) hf33 (fun _ h9 => h9) rfl dX0_become_111 ?_
  refine lv_iconst (v := 0) hx hb dX0_become_114 (by decide) ?_
  refine lv_bipush (v := 12) hx hb dX0_become_115 (by decide) ?_
  refine va_copyi hx hb (hml.trans hl.1.symm) hown (hts (.methodLink RX0 56 arraycopyName) (by decide +kernel)) (hts (.native arraycopyName) (by decide +kernel)) (hts (.static arraycopyName) (by decide +kernel)) (hts (.initialized "java/lang/System") (by decide +kernel)) hK hP (LLW_self hd) hS 18 8 0 0 (f := (lSt (pS X))) (g := (lSt (pF X))) (ty := .int) rfl rfl rfl rfl rfl (by decide) (by decide) (by decide) (by decide) (by decide) (fun _ _ => rfl) (Nat.le_of_ble_eq_true rfl) (Nat.le_of_ble_eq_true rfl) dX0_become_117 (fun H locs hP _ hS => ?_)
  have hP : va_P D vwCl (LLW cI q z (((va_cpy (lWe (pS X)) (lWe (pF X)) 0 0 12), (va_cpy (lCy (pS X)) (lCy (pF X)) 0 0 12), (va_cpy (lWr (pS X)) (lWr (pF X)) 0 0 12), (va_cpy (lPu (pS X)) (lPu (pF X)) 0 0 12), (va_cpy (lSl (pS X)) (lSl (pF X)) 0 0 12), (va_cpy (lPl (pS X)) (lPl (pF X)) 0 0 12), (va_cpy (lSp (pS X)) (lSp (pF X)) 0 0 12), (va_cpy (lSt (pS X)) (lSt (pF X)) 0 0 12), (lLi (pF X)), (lN_ (pF X)), (lStn (pF X)), (lClk (pF X)), (lRnd (pF X))), (pS X))) H := hP
  refine lv_aload_n hx hb dX0_become_120 rfl (lv_at hl 1 rfl) ?_
  refine va_get (D := D) (ci := 0) (v := .ref (z + 9)) (C := RX0) (T := TX0) (N := 13) hx hb hts hinX0 hown hK hP 10 rfl rfl 8 (by decide) hf36 (fun _ h9 => h9) rfl dX0_become_121 ?_
  refine lv_iconst (v := 0) hx hb dX0_become_124 (by decide) ?_
  refine lv_aload_n hx hb dX0_become_125 rfl (lv_at hl 0 rfl) ?_
  refine va_get (D := D) (ci := 0) (v := .ref (q + 9)) (C := RX0) (T := TX0) (N := 13) hx hb hts hinX0 hown hK hP 0 rfl rfl 8 (by decide) hf36 (fun _ h9 => h9) rfl dX0_become_126 ?_
  refine lv_iconst (v := 0) hx hb dX0_become_129 (by decide) ?_
  refine lv_iconst (v := 5) hx hb dX0_become_130 (by decide) ?_
  refine va_copyi hx hb (hml.trans hl.1.symm) hown (hts (.methodLink RX0 56 arraycopyName) (by decide +kernel)) (hts (.native arraycopyName) (by decide +kernel)) (hts (.static arraycopyName) (by decide +kernel)) (hts (.initialized "java/lang/System") (by decide +kernel)) hK hP (LLW_self hd) hS 19 9 0 0 (f := (lLi (pS X))) (g := (lLi (pF X))) (ty := .int) rfl rfl rfl rfl rfl (by decide) (by decide) (by decide) (by decide) (by decide) (fun _ _ => rfl) (Nat.le_of_ble_eq_true rfl) (Nat.le_of_ble_eq_true rfl) dX0_become_131 (fun H locs hP _ hS => ?_)
  have hP : va_P D vwCl (LLW cI q z (((va_cpy (lWe (pS X)) (lWe (pF X)) 0 0 12), (va_cpy (lCy (pS X)) (lCy (pF X)) 0 0 12), (va_cpy (lWr (pS X)) (lWr (pF X)) 0 0 12), (va_cpy (lPu (pS X)) (lPu (pF X)) 0 0 12), (va_cpy (lSl (pS X)) (lSl (pF X)) 0 0 12), (va_cpy (lPl (pS X)) (lPl (pF X)) 0 0 12), (va_cpy (lSp (pS X)) (lSp (pF X)) 0 0 12), (va_cpy (lSt (pS X)) (lSt (pF X)) 0 0 12), (va_cpy (lLi (pS X)) (lLi (pF X)) 0 0 5), (lN_ (pF X)), (lStn (pF X)), (lClk (pF X)), (lRnd (pF X))), (pS X))) H := hP
  refine lv_aload_n hx hb dX0_become_134 rfl (lv_at hl 0 rfl) ?_
  refine lv_aload_n hx hb dX0_become_135 rfl (lv_at hl 1 rfl) ?_
  refine va_get (D := D) (ci := 0) (v := .int (lN_ (pS X))) (C := RX0) (T := TX0) (N := 13) hx hb hts hinX0 hown hK hP 10 rfl rfl 9 (by decide) hf42 (fun _ h9 => h9) rfl dX0_become_136 ?_
  refine va_put (D := D) (ci := 0) (v := .int (lN_ (pS X))) (ty := .int) (C := RX0) (T := TX0) (N := 13) hx hb hts hinX0 tyX0 tyX0_ok nmX0 hown hK hP (LLW_self hd) hS 0 rfl rfl 9 (by decide) hf42 (fun _ h9 => h9) rfl (by decide +kernel) rfl rfl (Nat.le_of_ble_eq_true rfl) dX0_become_139 (fun H locs hP _ hS => ?_)
  have hP : va_P D vwCl (LLW cI q z (((va_cpy (lWe (pS X)) (lWe (pF X)) 0 0 12), (va_cpy (lCy (pS X)) (lCy (pF X)) 0 0 12), (va_cpy (lWr (pS X)) (lWr (pF X)) 0 0 12), (va_cpy (lPu (pS X)) (lPu (pF X)) 0 0 12), (va_cpy (lSl (pS X)) (lSl (pF X)) 0 0 12), (va_cpy (lPl (pS X)) (lPl (pF X)) 0 0 12), (va_cpy (lSp (pS X)) (lSp (pF X)) 0 0 12), (va_cpy (lSt (pS X)) (lSt (pF X)) 0 0 12), (va_cpy (lLi (pS X)) (lLi (pF X)) 0 0 5), (lN_ (pS X)), (lStn (pF X)), (lClk (pF X)), (lRnd (pF X))), (pS X))) H := hP
  refine lv_aload_n hx hb dX0_become_142 rfl (lv_at hl 0 rfl) ?_
  refine lv_aload_n hx hb dX0_become_143 rfl (lv_at hl 1 rfl) ?_
  refine va_get (D := D) (ci := 0) (v := .int (lStn (pS X))) (C := RX0) (T := TX0) (N := 13) hx hb hts hinX0 hown hK hP 10 rfl rfl 10 (by decide) hf46 (fun _ h9 => h9) rfl dX0_become_144 ?_
  refine va_put (D := D) (ci := 0) (v := .int (lStn (pS X))) (ty := .int) (C := RX0) (T := TX0) (N := 13) hx hb hts hinX0 tyX0 tyX0_ok nmX0 hown hK hP (LLW_self hd) hS 0 rfl rfl 10 (by decide) hf46 (fun _ h9 => h9) rfl (by decide +kernel) rfl rfl (Nat.le_of_ble_eq_true rfl) dX0_become_147 (fun H locs hP _ hS => ?_)
  have hP : va_P D vwCl (LLW cI q z (((va_cpy (lWe (pS X)) (lWe (pF X)) 0 0 12), (va_cpy (lCy (pS X)) (lCy (pF X)) 0 0 12), (va_cpy (lWr (pS X)) (lWr (pF X)) 0 0 12), (va_cpy (lPu (pS X)) (lPu (pF X)) 0 0 12), (va_cpy (lSl (pS X)) (lSl (pF X)) 0 0 12), (va_cpy (lPl (pS X)) (lPl (pF X)) 0 0 12), (va_cpy (lSp (pS X)) (lSp (pF X)) 0 0 12), (va_cpy (lSt (pS X)) (lSt (pF X)) 0 0 12), (va_cpy (lLi (pS X)) (lLi (pF X)) 0 0 5), (lN_ (pS X)), (lStn (pS X)), (lClk (pF X)), (lRnd (pF X))), (pS X))) H := hP
  refine lv_aload_n hx hb dX0_become_150 rfl (lv_at hl 0 rfl) ?_
  refine lv_aload_n hx hb dX0_become_151 rfl (lv_at hl 1 rfl) ?_
  refine va_get (D := D) (ci := 0) (v := .int (lClk (pS X))) (C := RX0) (T := TX0) (N := 13) hx hb hts hinX0 hown hK hP 10 rfl rfl 11 (by decide) hf49 (fun _ h9 => h9) rfl dX0_become_152 ?_
  refine va_put (D := D) (ci := 0) (v := .int (lClk (pS X))) (ty := .int) (C := RX0) (T := TX0) (N := 13) hx hb hts hinX0 tyX0 tyX0_ok nmX0 hown hK hP (LLW_self hd) hS 0 rfl rfl 11 (by decide) hf49 (fun _ h9 => h9) rfl (by decide +kernel) rfl rfl (Nat.le_of_ble_eq_true rfl) dX0_become_155 (fun H locs hP _ hS => ?_)
  have hP : va_P D vwCl (LLW cI q z (((va_cpy (lWe (pS X)) (lWe (pF X)) 0 0 12), (va_cpy (lCy (pS X)) (lCy (pF X)) 0 0 12), (va_cpy (lWr (pS X)) (lWr (pF X)) 0 0 12), (va_cpy (lPu (pS X)) (lPu (pF X)) 0 0 12), (va_cpy (lSl (pS X)) (lSl (pF X)) 0 0 12), (va_cpy (lPl (pS X)) (lPl (pF X)) 0 0 12), (va_cpy (lSp (pS X)) (lSp (pF X)) 0 0 12), (va_cpy (lSt (pS X)) (lSt (pF X)) 0 0 12), (va_cpy (lLi (pS X)) (lLi (pF X)) 0 0 5), (lN_ (pS X)), (lStn (pS X)), (lClk (pS X)), (lRnd (pF X))), (pS X))) H := hP
  refine lv_aload_n hx hb dX0_become_158 rfl (lv_at hl 0 rfl) ?_
  refine lv_aload_n hx hb dX0_become_159 rfl (lv_at hl 1 rfl) ?_
  refine va_get (D := D) (ci := 0) (v := .long (lRnd (pS X))) (C := RX0) (T := TX0) (N := 13) hx hb hts hinX0 hown hK hP 10 rfl rfl 12 (by decide) hf52 (fun _ h9 => h9) rfl dX0_become_160 ?_
  refine va_put (D := D) (ci := 0) (v := .long (lRnd (pS X))) (ty := .long) (C := RX0) (T := TX0) (N := 13) hx hb hts hinX0 tyX0 tyX0_ok nmX0 hown hK hP (LLW_self hd) hS 0 rfl rfl 12 (by decide) hf52 (fun _ h9 => h9) rfl (by decide +kernel) rfl rfl (Nat.le_of_ble_eq_true rfl) dX0_become_163 (fun H locs hP _ hS => ?_)
  have hP : va_P D vwCl (LLW cI q z (((va_cpy (lWe (pS X)) (lWe (pF X)) 0 0 12), (va_cpy (lCy (pS X)) (lCy (pF X)) 0 0 12), (va_cpy (lWr (pS X)) (lWr (pF X)) 0 0 12), (va_cpy (lPu (pS X)) (lPu (pF X)) 0 0 12), (va_cpy (lSl (pS X)) (lSl (pF X)) 0 0 12), (va_cpy (lPl (pS X)) (lPl (pF X)) 0 0 12), (va_cpy (lSp (pS X)) (lSp (pF X)) 0 0 12), (va_cpy (lSt (pS X)) (lSt (pF X)) 0 0 12), (va_cpy (lLi (pS X)) (lLi (pF X)) 0 0 5), (lN_ (pS X)), (lStn (pS X)), (lClk (pS X)), (lRnd (pS X))), (pS X))) H := hP
  have h := Option.some.inj h
  subst h
  exact W.vret hx hb hr (fun t ht hW => ⟨⟨(), rfl, trivial, gh ht hP⟩, hS.F ht⟩) hS.2.2 dX0_become_166

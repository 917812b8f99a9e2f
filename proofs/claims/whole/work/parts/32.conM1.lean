set_option maxHeartbeats 4000000 in
set_option maxRecDepth 100000 in
theorem kX5_thrown (l : Launch) (D : va_G) (cI cC cZ cQ cJ : ClassId) (q : Nat) (M : MSt) {R : Int32} (h : fX5_thrown M = some R) : Met l yX5_thrown wsX5_thrown ({ frames := 0, cells := 0, slots := 0, locals := 0 } : Room) (va_Pc [.ref q] (gB D (gTy cI cC cZ cQ cJ) (va_P D vwCl (MW cI cZ q M)))) (vp_Si (fun r => r = R)) 0 0 (fun _ => False) := by
  refine Met.ofW (cc := cX5_thrown) (maxL := 1) (ret := (some .int)) (by decide) rfl ?_
  intro p e s m args below meth c s₁ B hml hv
  obtain ⟨rfl, hP, hK⟩ := hv
  have hx := B.exec
  have hb := B.bytes
  have hr := B.returns
  have hts := atoms_spec (ws := wsX5_thrown) B.pre
  have hown : s.vm.findClass RX5 = some m.cls := findClass_of_methodNamed B.named
  have hlocks := B.notSynchronized
  have hinX5 : ∀ w ∈ wsX50, w ∈ wsX5_thrown := by decide +kernel
  have hf42 := hts (.fieldLink RX5 42 "GripInspectorModel" "refusal" "I") (by decide +kernel)
  generalize hRM : (headSpec wsX5_thrown ({ frames := 0, cells := 0, slots := 0, locals := 0 } : Room)).room = RM
  replace hRM : ({ frames := 0, cells := 0, slots := 0, locals := 0 } : Room) = RM := hRM
  subst hRM
  have hl := lv_entry ([.ref q]) (n := 1) (Nat.le_of_ble_eq_true rfl)
  rw [lg_entry_eq]
  generalize (lg_sl ([.ref q]) ++ List.replicate (1 - (lg_sl ([.ref q])).length) Slot.unset).toArray = ls at hl ⊢
  have hl : lv_has ls 1 [(0, .ref q)] := hl
  unfold fX5_thrown at h
  refine lv_aload_n hx hb dX5_thrown_0 rfl (lv_at hl 0 rfl) ?_
  refine va_get (D := D) (ci := 5) (v := .int (mRef M)) (C := RX5) (T := TX5) (N := 15) hx hb hts hinX5 hown hK hP 0 rfl rfl 0 (by decide) hf42 (fun _ h9 => h9) rfl dX5_thrown_1 ?_
  have h := Option.some.inj h
  exact W.iret (v := (mRef M)) hx hb hr (fun t ht hW => ⟨_, rfl, h, ht⟩) t_nil dX5_thrown_4
set_option maxHeartbeats 4000000 in
set_option maxRecDepth 100000 in
theorem kX5_refused (l : Launch) (D : va_G) (cI cC cZ cQ cJ : ClassId) (q : Nat) (M : MSt) (p0 : Int32) {R : Int32 × MSt} (h : fX5_refused M p0 = some R) : Met l yX5_refused wsX5_refused ({ frames := 0, cells := 0, slots := 0, locals := 0 } : Room) (va_Pc [.ref q, .int p0] (gB D (gTy cI cC cZ cQ cJ) (va_P D vwCl (MW cI cZ q M)))) (va_Qi (fun r (_ : Unit) => r = R.1) (fun _ t => va_P D vwCl (MW cI cZ q R.2) t.heap) (fIv q 10)) 0 0 (fIv q 10) := by
  refine Met.ofW (cc := cX5_refused) (maxL := 2) (ret := (some .boolean)) (by decide) rfl ?_
  intro p e s m args below meth c s₁ B hml hv
  obtain ⟨rfl, hP, hK⟩ := hv
  have hx := B.exec
  have hb := B.bytes
  have hr := B.returns
  have hts := atoms_spec (ws := wsX5_refused) B.pre
  have hown : s.vm.findClass RX5 = some m.cls := findClass_of_methodNamed B.named
  have hlocks := B.notSynchronized
  have hinX5 : ∀ w ∈ wsX50, w ∈ wsX5_refused := by decide +kernel
  have hf42 := hts (.fieldLink RX5 42 "GripInspectorModel" "refusal" "I") (by decide +kernel)
  generalize hRM : (headSpec wsX5_refused ({ frames := 0, cells := 0, slots := 0, locals := 0 } : Room)).room = RM
  replace hRM : ({ frames := 0, cells := 0, slots := 0, locals := 0 } : Room) = RM := hRM
  subst hRM
  have hl := lv_entry ([.ref q, .int p0]) (n := 2) (Nat.le_of_ble_eq_true rfl)
  rw [lg_entry_eq]
  generalize (lg_sl ([.ref q, .int p0]) ++ List.replicate (2 - (lg_sl ([.ref q, .int p0])).length) Slot.unset).toArray = ls at hl ⊢
  have hl : lv_has ls 2 [(0, .ref q), (1, .int p0)] := hl
  have hS : va_S (fIv q 10) s.heap s.heap [] := va_S.rf
  unfold fX5_refused at h
  obtain ⟨H, hH⟩ : ∃ H, H = s.heap := ⟨_, rfl⟩
  obtain ⟨locs, hlz⟩ : ∃ z : List Loc, z = [] := ⟨_, rfl⟩
  have hP : va_P D vwCl (MW cI cZ q M) H := by rw [hH]; exact hP
  have hS : va_S (fIv q 10) s.heap H locs := by rw [hH, hlz]; exact hS
  refine gc_at hH hlz ?_
  refine lv_aload_n hx hb dX5_refused_0 rfl (lv_at hl 0 rfl) ?_
  refine lv_iload_n hx hb dX5_refused_1 rfl (lv_at hl 1 rfl) ?_
  refine va_put (D := D) (ci := 5) (v := .int p0) (ty := .int) (C := RX5) (T := TX5) (N := 15) hx hb hts hinX5 tyX5 tyX5_ok nmX5 hown hK hP MW_self hS 0 rfl rfl 0 (by decide) hf42 (fun _ h9 => h9) rfl (by decide +kernel) rfl rfl (Nat.le_of_ble_eq_true rfl) dX5_refused_2 (fun H locs hP _ hS => ?_)
  have hP : va_P D vwCl (MW cI cZ q ((mA M), p0, (mSize M), (mSpot M), (mRN M), (mN M), (mActs M))) H := hP
  refine lv_iload_n hx hb dX5_refused_5 rfl (lv_at hl 1 rfl) ?_
  refine lv_if_le (tgt := 13) hx hb dX5_refused_6 (by decide) (fun c1 => ?_) (fun c1 => ?_)
  · replace h := (if_pos c1).symm.trans h
    refine lv_iconst (v := 0) hx hb dX5_refused_13 (by decide) ?_
    have h := Option.some.inj h
    subst h
    exact W.zret (v := 0) hx hb hr rfl (fun t ht hW => ⟨⟨_, (), rfl, rfl, gh ht hP⟩, hS.F ht⟩) hS.2.2 dX5_refused_14
  · replace h := (if_neg c1).symm.trans h
    refine lv_iconst (v := 1) hx hb dX5_refused_9 (by decide) ?_
    refine lv_goto (tgt := 14) hx hb dX5_refused_10 (by decide) ?_
    have h := Option.some.inj h
    subst h
    exact W.zret (v := 1) hx hb hr rfl (fun t ht hW => ⟨⟨_, (), rfl, rfl, gh ht hP⟩, hS.F ht⟩) hS.2.2 dX5_refused_14
set_option maxHeartbeats 4000000 in
set_option maxRecDepth 100000 in
theorem kX5_in (l : Launch) (D : va_G) (cI cC cZ cQ cJ : ClassId) (p0 : Int64) (p1 : Int64) (p2 : Int64) {R : Int32} (h : fX5_in p0 p1 p2 = some R) : Met l yX5_in wsX5_in ({ frames := 0, cells := 0, slots := 0, locals := 0 } : Room) (va_Pc [.long p0, .long p1, .long p2] (gB D (gTy cI cC cZ cQ cJ) (fun _ => True))) (vp_Si (fun r => r = R)) 0 0 (fun _ => False) := by
  refine Met.ofW (cc := cX5_in) (maxL := 6) (ret := (some .boolean)) (by decide) rfl ?_
  intro p e s m args below meth c s₁ B hml hv
  obtain ⟨rfl, hP, hK⟩ := hv
  have hx := B.exec
  have hb := B.bytes
  have hr := B.returns
  have hts := atoms_spec (ws := wsX5_in) B.pre
  have hown : s.vm.findClass RX5 = some m.cls := findClass_of_methodNamed B.named
  have hlocks := B.notSynchronized
  generalize hRM : (headSpec wsX5_in ({ frames := 0, cells := 0, slots := 0, locals := 0 } : Room)).room = RM
  replace hRM : ({ frames := 0, cells := 0, slots := 0, locals := 0 } : Room) = RM := hRM
  subst hRM
  have hl := lv_entry ([.long p0, .long p1, .long p2]) (n := 6) (Nat.le_of_ble_eq_true rfl)
  rw [lg_entry_eq]
  generalize (lg_sl ([.long p0, .long p1, .long p2]) ++ List.replicate (6 - (lg_sl ([.long p0, .long p1, .long p2])).length) Slot.unset).toArray = ls at hl ⊢
  have hl : lv_has ls 6 [(0, .long p0), (2, .long p1), (4, .long p2)] := hl
  unfold fX5_in at h
  refine lv_lload_n hx hb dX5_in_0 rfl (lv_at hl 0 rfl) ?_
  refine lv_lload_n hx hb dX5_in_1 rfl (lv_at hl 1 rfl) ?_
  refine W.lcmp hx hb dX5_in_2 ?_
  refine lv_if_lt (tgt := 17) hx hb dX5_in_3 (by decide) (fun c1 => ?_) (fun c1 => ?_)
  · replace h := (if_pos c1).symm.trans h
    refine lv_iconst (v := 0) hx hb dX5_in_17 (by decide) ?_
    have h := Option.some.inj h
    exact W.zret (v := 0) hx hb hr rfl (fun t ht hW => ⟨_, rfl, h, ht⟩) t_nil dX5_in_18
  · replace h := (if_neg c1).symm.trans h
    refine lv_lload_n hx hb dX5_in_6 rfl (lv_at hl 0 rfl) ?_
    refine lv_lload hx hb dX5_in_7 (lv_at hl 2 rfl) ?_
    refine W.lcmp hx hb dX5_in_9 ?_
    refine lv_if_gt (tgt := 17) hx hb dX5_in_10 (by decide) (fun c2 => ?_) (fun c2 => ?_)
    · replace h := (if_pos c2).symm.trans h
      refine lv_iconst (v := 0) hx hb dX5_in_17 (by decide) ?_
      have h := Option.some.inj h
      exact W.zret (v := 0) hx hb hr rfl (fun t ht hW => ⟨_, rfl, h, ht⟩) t_nil dX5_in_18
    · replace h := (if_neg c2).symm.trans h
      refine lv_iconst (v := 1) hx hb dX5_in_13 (by decide) ?_
      refine lv_goto (tgt := 18) hx hb dX5_in_14 (by decide) ?_
      have h := Option.some.inj h
      exact W.zret (v := 1) hx hb hr rfl (fun t ht hW => ⟨_, rfl, h, ht⟩) t_nil dX5_in_18
set_option maxHeartbeats 4000000 in
set_option maxRecDepth 100000 in
theorem kX5_copy (l : Launch) (D : va_G) (cI cC cZ cQ cJ : ClassId) (q : Nat) (ja : Nat) (jb : Nat) (M : MSt) (p0 : Int32) (p1 : Int32) (p2 : Int32) (hja : gArr ja) (hjb : gArr jb) {R : MSt} (h : fX5_copy ja jb M p0 p1 p2 = some R) : Met l yX5_copy wsX5_copy ({ frames := 0, cells := 0, slots := 0, locals := 0 } : Room) (va_Pc [.ref (q + ja), .int p0, .ref (q + jb), .int p1, .int p2] (gB D (gTy cI cC cZ cQ cJ) (va_P D vwCl (MW cI cZ q M)))) (va_Qv (fun _ : Unit => True) (fun _ t => va_P D vwCl (MW cI cZ q R) t.heap) (fIv q 10)) 0 0 (fIv q 10) := by
  refine Met.ofW (cc := cX5_copy) (maxL := 6) (ret := none) (by decide) rfl ?_
  intro p e s m args below meth c s₁ B hml hv
  obtain ⟨rfl, hP, hK⟩ := hv
  have hx := B.exec
  have hb := B.bytes
  have hr := B.returns
  have hts := atoms_spec (ws := wsX5_copy) B.pre
  have hown : s.vm.findClass RX5 = some m.cls := findClass_of_methodNamed B.named
  have hlocks := B.notSynchronized
  generalize hRM : (headSpec wsX5_copy ({ frames := 0, cells := 0, slots := 0, locals := 0 } : Room)).room = RM
  replace hRM : ({ frames := 0, cells := 0, slots := 0, locals := 0 } : Room) = RM := hRM
  subst hRM
  have hl := lv_entry ([.ref (q + ja), .int p0, .ref (q + jb), .int p1, .int p2]) (n := 6) (Nat.le_of_ble_eq_true rfl)
  rw [lg_entry_eq]
  generalize (lg_sl ([.ref (q + ja), .int p0, .ref (q + jb), .int p1, .int p2]) ++ List.replicate (6 - (lg_sl ([.ref (q + ja), .int p0, .ref (q + jb), .int p1, .int p2])).length) Slot.unset).toArray = ls at hl ⊢
  have hl : lv_has ls 6 [(0, .ref (q + ja)), (1, .int p0), (2, .ref (q + jb)), (3, .int p1), (4, .int p2)] := hl
  have hS : va_S (fIv q 10) s.heap s.heap [] := va_S.rf
  have LP3 : ∀ (n : Nat) (S : MSt) (x1 : Int32) (x3 : Int32) (x4 : Int32) (x5 : Int32) (H : Heap) (locs : List Loc) (ls : Array Slot), fX5_copy_L3 ja jb n S x1 x3 x4 x5 = some R → va_P D vwCl (MW cI cZ q S) H → va_S (fIv q 10) s.heap H locs → lv_has ls 6 [(0, .ref (q + ja)), (1, .int x1), (2, .ref (q + jb)), (3, .int x3), (4, .int x4), (5, .int x5)] → W p l e ({ frames := 0, cells := 0, slots := 0, locals := 0 } : Room) s m ([.ref (q + ja), .int p0, .ref (q + jb), .int p1, .int p2] : List Value).toArray below meth c H locs 0 0 (MQ below (va_Qv (fun _ : Unit => True) (fun _ t => va_P D vwCl (MW cI cZ q R) t.heap) (fIv q 10)) ([.ref (q + ja), .int p0, .ref (q + jb), .int p1, .int p2] : List Value).toArray s 0 0 (fIv q 10)) (F0 m 3 ls []) := by
    intro n
    induction n with
    | zero => intro S x1 x3 x4 x5 H locs ls h hP hS hl; exact no_some h
    | succ n ih =>
      intro S x1 x3 x4 x5 H locs ls h hP hS hl
      rw [fX5_copy_L3] at h
      refine lv_iload hx hb dX5_copy_3 (lv_at hl 5 rfl) ?_
      refine lv_iload hx hb dX5_copy_5 (lv_at hl 4 rfl) ?_
      refine lv_icmp_ge (tgt := 28) hx hb dX5_copy_7 (by decide) (fun c1 => ?_) (fun c1 => ?_)
      · replace h := (if_pos c1).symm.trans h
        have h := Option.some.inj h
        subst h
        exact W.vret hx hb hr (fun t ht hW => ⟨⟨(), rfl, trivial, gh ht hP⟩, hS.F ht⟩) hS.2.2 dX5_copy_28
      · replace h := (if_neg c1).symm.trans h
        refine lv_aload_n hx hb dX5_copy_10 rfl (lv_at hl 2 rfl) ?_
        refine lv_iload_n hx hb dX5_copy_11 rfl (lv_at hl 3 rfl) ?_
        refine lv_iload hx hb dX5_copy_12 (lv_at hl 5 rfl) ?_
        refine lv_iadd hx hb dX5_copy_14 ?_
        refine lv_aload_n hx hb dX5_copy_15 rfl (lv_at hl 0 rfl) ?_
        refine lv_iload_n hx hb dX5_copy_16 rfl (lv_at hl 1 rfl) ?_
        refine lv_iload hx hb dX5_copy_17 (lv_at hl 5 rfl) ?_
        refine lv_iadd hx hb dX5_copy_19 ?_
        obtain ⟨hg2, h⟩ := gd_some h
        refine g_iald (f := ((mA S) ja)) (k := ((x1 + x5)).toNatClampNeg) hx hb hK hP ja 0 (MW_atC hja) rfl hg2 rfl dX5_copy_20 ?_
        obtain ⟨hg3, h⟩ := gd_some h
        refine g_iast (f := ((mA S) jb)) (k := ((x3 + x5)).toNatClampNeg) hx hb hK hP MW_self hS jb 0 (MW_atC hjb) rfl hg3 rfl dX5_copy_21 (fun H locs hP hS => ?_)
        obtain ⟨a4, ha4, h⟩ := lt_some h
        have hP : va_P D vwCl (MW cI cZ q (a4, (mRef S), (mSize S), (mSpot S), (mRN S), (mN S), (mActs S))) H := by have h9 := hP; rw [MW_setC hjb] at h9; rw [ha4]; exact h9
        refine lv_iinc (v := (x5 + 1)) (lv' := [(5, .int (x5 + 1)), (0, .ref (q + ja)), (1, .int x1), (2, .ref (q + jb)), (3, .int x3), (4, .int x4)]) hx hb dX5_copy_22 hl (k := 5) rfl rfl (by decide) rfl (fun ls hl => ?_)
        refine lv_goto (tgt := 3) hx hb dX5_copy_25 (by decide) ?_
        exact ih (a4, (mRef S), (mSize S), (mSpot S), (mRN S), (mN S), (mActs S)) x1 x3 x4 (x5 + 1) H locs ls h hP hS (lv_sub hl [1, 2, 3, 4, 5, 0] rfl)
  unfold fX5_copy at h
  obtain ⟨H, hH⟩ : ∃ H, H = s.heap := ⟨_, rfl⟩
  obtain ⟨locs, hlz⟩ : ∃ z : List Loc, z = [] := ⟨_, rfl⟩
  have hP : va_P D vwCl (MW cI cZ q M) H := by rw [hH]; exact hP
  have hS : va_S (fIv q 10) s.heap H locs := by rw [hH, hlz]; exact hS
  refine gc_at hH hlz ?_
  refine lv_iconst (v := 0) hx hb dX5_copy_0 (by decide) ?_
  refine lv_istore (lv' := [(5, .int 0), (0, .ref (q + ja)), (1, .int p0), (2, .ref (q + jb)), (3, .int p1), (4, .int p2)]) hx hb dX5_copy_1 hl (by decide) rfl (fun ls hl => ?_)
  exact LP3 KF M p0 p1 p2 0 H locs ls h hP hS (lv_sub hl [1, 2, 3, 4, 5, 0] rfl)
set_option maxHeartbeats 4000000 in
set_option maxRecDepth 100000 in
theorem kX5_tenTo (l : Launch) (D : va_G) (cI cC cZ cQ cJ : ClassId) (p0 : Int32) {R : Int64} (h : fX5_tenTo p0 = some R) : Met l yX5_tenTo wsX5_tenTo ({ frames := 0, cells := 0, slots := 0, locals := 0 } : Room) (va_Pc [.int p0] (gB D (gTy cI cC cZ cQ cJ) (fun _ => True))) (vp_Sl (fun r => r = R)) 0 0 (fun _ => False) := by
  refine Met.ofW (cc := cX5_tenTo) (maxL := 4) (ret := (some .long)) (by decide) rfl ?_
  intro p e s m args below meth c s₁ B hml hv
  obtain ⟨rfl, hP, hK⟩ := hv
  have hx := B.exec
  have hb := B.bytes
  have hr := B.returns
  have hts := atoms_spec (ws := wsX5_tenTo) B.pre
  have hown : s.vm.findClass RX5 = some m.cls := findClass_of_methodNamed B.named
  have hlocks := B.notSynchronized
  generalize hRM : (headSpec wsX5_tenTo ({ frames := 0, cells := 0, slots := 0, locals := 0 } : Room)).room = RM
  replace hRM : ({ frames := 0, cells := 0, slots := 0, locals := 0 } : Room) = RM := hRM
  subst hRM
  have hl := lv_entry ([.int p0]) (n := 4) (Nat.le_of_ble_eq_true rfl)
  rw [lg_entry_eq]
  generalize (lg_sl ([.int p0]) ++ List.replicate (4 - (lg_sl ([.int p0])).length) Slot.unset).toArray = ls at hl ⊢
  have hl : lv_has ls 4 [(0, .int p0)] := hl
  have LP4 : ∀ (n : Nat) (x0 : Int32) (x1 : Int64) (x3 : Int32) (ls : Array Slot), fX5_tenTo_L4 n x0 x1 x3 = some R → lv_has ls 4 [(0, .int x0), (1, .long x1), (3, .int x3)] → W p l e ({ frames := 0, cells := 0, slots := 0, locals := 0 } : Room) s m ([.int p0] : List Value).toArray below meth c s.heap [] 0 0 (MQ below (vp_Sl (fun r => r = R)) ([.int p0] : List Value).toArray s 0 0 (fun _ => False)) (F0 m 4 ls []) := by
    intro n
    induction n with
    | zero => intro x0 x1 x3 ls h hl; exact no_some h
    | succ n ih =>
      intro x0 x1 x3 ls h hl
      rw [fX5_tenTo_L4] at h
      refine lv_iload_n hx hb dX5_tenTo_4 rfl (lv_at hl 2 rfl) ?_
      refine lv_iload_n hx hb dX5_tenTo_5 rfl (lv_at hl 0 rfl) ?_
      refine lv_icmp_ge (tgt := 21) hx hb dX5_tenTo_6 (by decide) (fun c1 => ?_) (fun c1 => ?_)
      · replace h := (if_pos c1).symm.trans h
        refine lv_lload_n hx hb dX5_tenTo_21 rfl (lv_at hl 1 rfl) ?_
        have h := Option.some.inj h
        exact W.lret (v := x1) hx hb hr (fun t ht hW => ⟨_, rfl, h, ht⟩) t_nil dX5_tenTo_22
      · replace h := (if_neg c1).symm.trans h
        refine lv_lload_n hx hb dX5_tenTo_9 rfl (lv_at hl 1 rfl) ?_
        refine lv_ldc2 (v := 10) hx hb hown (hts (.constantLong RX5 45 (10)) (by decide +kernel)) dX5_tenTo_10 ?_
        refine lv_lmul hx hb dX5_tenTo_13 ?_
        refine lv_lstore_n (lv' := [(1, .long (x1 * 10)), (0, .int x0), (3, .int x3)]) hx hb dX5_tenTo_14 rfl hl (by decide) rfl (fun ls hl => ?_)
        refine lv_iinc (v := (x3 + 1)) (lv' := [(3, .int (x3 + 1)), (1, .long (x1 * 10)), (0, .int x0)]) hx hb dX5_tenTo_15 hl (k := 2) rfl rfl (by decide) rfl (fun ls hl => ?_)
        refine lv_goto (tgt := 4) hx hb dX5_tenTo_18 (by decide) ?_
        exact ih x0 (x1 * 10) (x3 + 1) ls h (lv_sub hl [2, 1, 0] rfl)
  unfold fX5_tenTo at h
  refine lv_lconst (v := 1) hx hb dX5_tenTo_0 (by decide) ?_
  refine lv_lstore_n (lv' := [(1, .long 1), (0, .int p0)]) hx hb dX5_tenTo_1 rfl hl (by decide) rfl (fun ls hl => ?_)
  refine lv_iconst (v := 0) hx hb dX5_tenTo_2 (by decide) ?_
  refine lv_istore_n (lv' := [(3, .int 0), (1, .long 1), (0, .int p0)]) hx hb dX5_tenTo_3 rfl hl (by decide) rfl (fun ls hl => ?_)
  exact LP4 KF p0 1 0 ls h (lv_sub hl [2, 1, 0] rfl)
set_option maxHeartbeats 4000000 in
set_option maxRecDepth 100000 in
theorem kX5_note (l : Launch) (D : va_G) (cI cC cZ cQ cJ : ClassId) (q : Nat) (M : MSt) {R : MSt} (h : fX5_note M = some R) : Met l yX5_note wsX5_note ({ frames := 1, cells := 0, slots := 0, locals := 25 } : Room) (va_Pc [.ref q] (gB D (gTy cI cC cZ cQ cJ) (va_P D vwCl (MW cI cZ q M)))) (va_Qv (fun _ : Unit => True) (fun _ t => va_P D vwCl (MW cI cZ q R) t.heap) (fIv q 10)) 0 0 (fIv q 10) := by
  refine Met.ofW (cc := cX5_note) (maxL := 1) (ret := none) (by decide) rfl ?_
  intro p e s m args below meth c s₁ B hml hv
  obtain ⟨rfl, hP, hK⟩ := hv
  have hx := B.exec
  have hb := B.bytes
  have hr := B.returns
  have hts := atoms_spec (ws := wsX5_note) B.pre
  have hown : s.vm.findClass RX5 = some m.cls := findClass_of_methodNamed B.named
  have hlocks := B.notSynchronized
  have hinX5 : ∀ w ∈ wsX50, w ∈ wsX5_note := by decide +kernel
  have hf47 := hts (.fieldLink RX5 47 "GripInspectorModel" "acts" "I") (by decide +kernel)
  have hf16 := hts (.fieldLink RX5 16 "GripInspectorModel" "now" "[I") (by decide +kernel)
  have hf22 := hts (.fieldLink RX5 22 "GripInspectorModel" "diary" "[I") (by decide +kernel)
  generalize hRM : (headSpec wsX5_note ({ frames := 1, cells := 0, slots := 0, locals := 25 } : Room)).room = RM
  replace hRM : ({ frames := 1, cells := 0, slots := 0, locals := 25 } : Room) = RM := hRM
  subst hRM
  have hl := lv_entry ([.ref q]) (n := 1) (Nat.le_of_ble_eq_true rfl)
  rw [lg_entry_eq]
  generalize (lg_sl ([.ref q]) ++ List.replicate (1 - (lg_sl ([.ref q])).length) Slot.unset).toArray = ls at hl ⊢
  have hl : lv_has ls 1 [(0, .ref q)] := hl
  have hS : va_S (fIv q 10) s.heap s.heap [] := va_S.rf
  unfold fX5_note at h
  obtain ⟨H, hH⟩ : ∃ H, H = s.heap := ⟨_, rfl⟩
  obtain ⟨locs, hlz⟩ : ∃ z : List Loc, z = [] := ⟨_, rfl⟩
  have hP : va_P D vwCl (MW cI cZ q M) H := by rw [hH]; exact hP
  have hS : va_S (fIv q 10) s.heap H locs := by rw [hH, hlz]; exact hS
  refine gc_at hH hlz ?_
  refine lv_aload_n hx hb dX5_note_0 rfl (lv_at hl 0 rfl) ?_
  refine va_get (D := D) (ci := 5) (v := .int (mActs M)) (C := RX5) (T := TX5) (N := 15) hx hb hts hinX5 hown hK hP 0 rfl rfl 10 (by decide) hf47 (fun _ h9 => h9) rfl dX5_note_1 ?_
  refine lv_bipush (v := 14) hx hb dX5_note_4 (by decide) ?_
  refine lv_icmp_ne (tgt := 36) hx hb dX5_note_6 (by decide) (fun c1 => ?_) (fun c1 => ?_)
  · replace h := (if_neg c1).symm.trans h
    refine lv_aload_n hx hb dX5_note_36 rfl (lv_at hl 0 rfl) ?_
    refine va_get (D := D) (ci := 5) (v := .ref (q + 3)) (C := RX5) (T := TX5) (N := 15) hx hb hts hinX5 hown hK hP 0 rfl rfl 7 (by decide) hf16 (fun _ h9 => h9) rfl dX5_note_37 ?_
    refine lv_iconst (v := 0) hx hb dX5_note_40 (by decide) ?_
    refine lv_aload_n hx hb dX5_note_41 rfl (lv_at hl 0 rfl) ?_
    refine va_get (D := D) (ci := 5) (v := .ref (q + 5)) (C := RX5) (T := TX5) (N := 15) hx hb hts hinX5 hown hK hP 0 rfl rfl 9 (by decide) hf22 (fun _ h9 => h9) rfl dX5_note_42 ?_
    refine lv_bipush (v := 106) hx hb dX5_note_45 (by decide) ?_
    refine lv_aload_n hx hb dX5_note_47 rfl (lv_at hl 0 rfl) ?_
    refine va_get (D := D) (ci := 5) (v := .int (mActs M)) (C := RX5) (T := TX5) (N := 15) hx hb hts hinX5 hown hK hP 0 rfl rfl 10 (by decide) hf47 (fun _ h9 => h9) rfl dX5_note_48 ?_
    refine lv_imul hx hb dX5_note_51 ?_
    refine lv_bipush (v := 106) hx hb dX5_note_52 (by decide) ?_
    obtain ⟨r54, hr54, h⟩ := bd_some h
    refine gc_swv (As := [.ref (q + 3), .int 0, .ref (q + 5), .int (106 * (mActs M)), .int 106]) (rest := []) ⟨hx, hb, hml, hown, hts⟩ hK (kX5_copy l D cI cC cZ cQ cJ q 3 5 M 0 (106 * (mActs M)) 106 (Or.inr (Or.inl rfl)) (Or.inr (Or.inr (Or.inr (Or.inl rfl)))) hr54) (va_cwS 5 hts gX5_note_X5_copy rfl rfl rfl (by decide +kernel) ⟨Nat.le_of_ble_eq_true rfl, Nat.le_of_ble_eq_true rfl⟩)  hP hS (fun _ h => h) rfl hl.1 rfl (Nat.le_of_ble_eq_true rfl) ⟨Nat.zero_le _, Nat.zero_le _⟩ dX5_note_54 (fun H locs hP hS _ _ => ?_)
    refine lv_aload_n hx hb dX5_note_57 rfl (lv_at hl 0 rfl) ?_
    refine lv_dup hx hb dX5_note_58 rfl ?_
    refine va_get (D := D) (ci := 5) (v := .int (mActs r54)) (C := RX5) (T := TX5) (N := 15) hx hb hts hinX5 hown hK hP 0 rfl rfl 10 (by decide) hf47 (fun _ h9 => h9) rfl dX5_note_59 ?_
    refine lv_iconst (v := 1) hx hb dX5_note_62 (by decide) ?_
    refine lv_iadd hx hb dX5_note_63 ?_
    refine va_put (D := D) (ci := 5) (v := .int ((mActs r54) + 1)) (ty := .int) (C := RX5) (T := TX5) (N := 15) hx hb hts hinX5 tyX5 tyX5_ok nmX5 hown hK hP MW_self hS 0 rfl rfl 10 (by decide) hf47 (fun _ h9 => h9) rfl (by decide +kernel) rfl rfl (Nat.le_of_ble_eq_true rfl) dX5_note_64 (fun H locs hP _ hS => ?_)
    have hP : va_P D vwCl (MW cI cZ q ((mA r54), (mRef r54), (mSize r54), (mSpot r54), (mRN r54), (mN r54), ((mActs r54) + 1))) H := hP
    have h := Option.some.inj h
    subst h
    exact W.vret hx hb hr (fun t ht hW => ⟨⟨(), rfl, trivial, gh ht hP⟩, hS.F ht⟩) hS.2.2 dX5_note_67
  · replace h := (if_pos c1).symm.trans h
    refine lv_aload_n hx hb dX5_note_9 rfl (lv_at hl 0 rfl) ?_
    refine va_get (D := D) (ci := 5) (v := .ref (q + 5)) (C := RX5) (T := TX5) (N := 15) hx hb hts hinX5 hown hK hP 0 rfl rfl 9 (by decide) hf22 (fun _ h9 => h9) rfl dX5_note_10 ?_
    refine lv_bipush (v := 106) hx hb dX5_note_13 (by decide) ?_
    refine lv_aload_n hx hb dX5_note_15 rfl (lv_at hl 0 rfl) ?_
    refine va_get (D := D) (ci := 5) (v := .ref (q + 5)) (C := RX5) (T := TX5) (N := 15) hx hb hts hinX5 hown hK hP 0 rfl rfl 9 (by decide) hf22 (fun _ h9 => h9) rfl dX5_note_16 ?_
    refine lv_iconst (v := 0) hx hb dX5_note_19 (by decide) ?_
    refine lv_sipush (v := 1378) hx hb dX5_note_20 (by decide) ?_
    obtain ⟨r23, hr23, h⟩ := bd_some h
    refine gc_swv (As := [.ref (q + 5), .int 106, .ref (q + 5), .int 0, .int 1378]) (rest := []) ⟨hx, hb, hml, hown, hts⟩ hK (kX5_copy l D cI cC cZ cQ cJ q 5 5 M 106 0 1378 (Or.inr (Or.inr (Or.inr (Or.inl rfl)))) (Or.inr (Or.inr (Or.inr (Or.inl rfl)))) hr23) (va_cwS 5 hts gX5_note_X5_copy rfl rfl rfl (by decide +kernel) ⟨Nat.le_of_ble_eq_true rfl, Nat.le_of_ble_eq_true rfl⟩)  hP hS (fun _ h => h) rfl hl.1 rfl (Nat.le_of_ble_eq_true rfl) ⟨Nat.zero_le _, Nat.zero_le _⟩ dX5_note_23 (fun H locs hP hS _ _ => ?_)
    refine lv_aload_n hx hb dX5_note_26 rfl (lv_at hl 0 rfl) ?_
    refine lv_dup hx hb dX5_note_27 rfl ?_
    refine va_get (D := D) (ci := 5) (v := .int (mActs r23)) (C := RX5) (T := TX5) (N := 15) hx hb hts hinX5 hown hK hP 0 rfl rfl 10 (by decide) hf47 (fun _ h9 => h9) rfl dX5_note_28 ?_
    refine lv_iconst (v := 1) hx hb dX5_note_31 (by decide) ?_
    refine lv_isub hx hb dX5_note_32 ?_
    refine va_put (D := D) (ci := 5) (v := .int ((mActs r23) - 1)) (ty := .int) (C := RX5) (T := TX5) (N := 15) hx hb hts hinX5 tyX5 tyX5_ok nmX5 hown hK hP MW_self hS 0 rfl rfl 10 (by decide) hf47 (fun _ h9 => h9) rfl (by decide +kernel) rfl rfl (Nat.le_of_ble_eq_true rfl) dX5_note_33 (fun H locs hP _ hS => ?_)
    have hP : va_P D vwCl (MW cI cZ q ((mA r23), (mRef r23), (mSize r23), (mSpot r23), (mRN r23), (mN r23), ((mActs r23) - 1))) H := hP
    refine lv_aload_n hx hb dX5_note_36 rfl (lv_at hl 0 rfl) ?_
    refine va_get (D := D) (ci := 5) (v := .ref (q + 3)) (C := RX5) (T := TX5) (N := 15) hx hb hts hinX5 hown hK hP 0 rfl rfl 7 (by decide) hf16 (fun _ h9 => h9) rfl dX5_note_37 ?_
    refine lv_iconst (v := 0) hx hb dX5_note_40 (by decide) ?_
    refine lv_aload_n hx hb dX5_note_41 rfl (lv_at hl 0 rfl) ?_
    refine va_get (D := D) (ci := 5) (v := .ref (q + 5)) (C := RX5) (T := TX5) (N := 15) hx hb hts hinX5 hown hK hP 0 rfl rfl 9 (by decide) hf22 (fun _ h9 => h9) rfl dX5_note_42 ?_
    refine lv_bipush (v := 106) hx hb dX5_note_45 (by decide) ?_
    refine lv_aload_n hx hb dX5_note_47 rfl (lv_at hl 0 rfl) ?_
    refine va_get (D := D) (ci := 5) (v := .int ((mActs r23) - 1)) (C := RX5) (T := TX5) (N := 15) hx hb hts hinX5 hown hK hP 0 rfl rfl 10 (by decide) hf47 (fun _ h9 => h9) rfl dX5_note_48 ?_
    refine lv_imul hx hb dX5_note_51 ?_
    refine lv_bipush (v := 106) hx hb dX5_note_52 (by decide) ?_
    obtain ⟨r54, hr54, h⟩ := bd_some h
    refine gc_swv (As := [.ref (q + 3), .int 0, .ref (q + 5), .int (106 * ((mActs r23) - 1)), .int 106]) (rest := []) ⟨hx, hb, hml, hown, hts⟩ hK (kX5_copy l D cI cC cZ cQ cJ q 3 5 ((mA r23), (mRef r23), (mSize r23), (mSpot r23), (mRN r23), (mN r23), ((mActs r23) - 1)) 0 (106 * ((mActs r23) - 1)) 106 (Or.inr (Or.inl rfl)) (Or.inr (Or.inr (Or.inr (Or.inl rfl)))) hr54) (va_cwS 5 hts gX5_note_X5_copy rfl rfl rfl (by decide +kernel) ⟨Nat.le_of_ble_eq_true rfl, Nat.le_of_ble_eq_true rfl⟩)  hP hS (fun _ h => h) rfl hl.1 rfl (Nat.le_of_ble_eq_true rfl) ⟨Nat.zero_le _, Nat.zero_le _⟩ dX5_note_54 (fun H locs hP hS _ _ => ?_)
    refine lv_aload_n hx hb dX5_note_57 rfl (lv_at hl 0 rfl) ?_
    refine lv_dup hx hb dX5_note_58 rfl ?_
    refine va_get (D := D) (ci := 5) (v := .int (mActs r54)) (C := RX5) (T := TX5) (N := 15) hx hb hts hinX5 hown hK hP 0 rfl rfl 10 (by decide) hf47 (fun _ h9 => h9) rfl dX5_note_59 ?_
    refine lv_iconst (v := 1) hx hb dX5_note_62 (by decide) ?_
    refine lv_iadd hx hb dX5_note_63 ?_
    refine va_put (D := D) (ci := 5) (v := .int ((mActs r54) + 1)) (ty := .int) (C := RX5) (T := TX5) (N := 15) hx hb hts hinX5 tyX5 tyX5_ok nmX5 hown hK hP MW_self hS 0 rfl rfl 10 (by decide) hf47 (fun _ h9 => h9) rfl (by decide +kernel) rfl rfl (Nat.le_of_ble_eq_true rfl) dX5_note_64 (fun H locs hP _ hS => ?_)
    have hP : va_P D vwCl (MW cI cZ q ((mA r54), (mRef r54), (mSize r54), (mSpot r54), (mRN r54), (mN r54), ((mActs r54) + 1))) H := hP
    have h := Option.some.inj h
    subst h
    exact W.vret hx hb hr (fun t ht hW => ⟨⟨(), rfl, trivial, gh ht hP⟩, hS.F ht⟩) hS.2.2 dX5_note_67
set_option maxHeartbeats 4000000 in
set_option maxRecDepth 100000 in
theorem kX5_isGrip (l : Launch) (D : va_G) (cI cC cZ cQ cJ : ClassId) (q : Nat) (M : MSt) (p0 : Int32) {R : Int32} (h : fX5_isGrip M p0 = some R) : Met l yX5_isGrip wsX5_isGrip ({ frames := 1, cells := 0, slots := 0, locals := 25 } : Room) (va_Pc [.ref q, .int p0] (gB D (gTy cI cC cZ cQ cJ) (va_P D vwCl (MW cI cZ q M)))) (vp_Si (fun r => r = R)) 0 0 (fun _ => False) := by
  refine Met.ofW (cc := cX5_isGrip) (maxL := 2) (ret := (some .boolean)) (by decide) rfl ?_
  intro p e s m args below meth c s₁ B hml hv
  obtain ⟨rfl, hP, hK⟩ := hv
  have hx := B.exec
  have hb := B.bytes
  have hr := B.returns
  have hts := atoms_spec (ws := wsX5_isGrip) B.pre
  have hown : s.vm.findClass RX5 = some m.cls := findClass_of_methodNamed B.named
  have hlocks := B.notSynchronized
  have hinX5 : ∀ w ∈ wsX50, w ∈ wsX5_isGrip := by decide +kernel
  have hf16 := hts (.fieldLink RX5 16 "GripInspectorModel" "now" "[I") (by decide +kernel)
  generalize hRM : (headSpec wsX5_isGrip ({ frames := 1, cells := 0, slots := 0, locals := 25 } : Room)).room = RM
  replace hRM : ({ frames := 1, cells := 0, slots := 0, locals := 25 } : Room) = RM := hRM
  subst hRM
  have hl := lv_entry ([.ref q, .int p0]) (n := 2) (Nat.le_of_ble_eq_true rfl)
  rw [lg_entry_eq]
  generalize (lg_sl ([.ref q, .int p0]) ++ List.replicate (2 - (lg_sl ([.ref q, .int p0])).length) Slot.unset).toArray = ls at hl ⊢
  have hl : lv_has ls 2 [(0, .ref q), (1, .int p0)] := hl
  unfold fX5_isGrip at h
  refine lv_iload_n hx hb dX5_isGrip_0 rfl (lv_at hl 1 rfl) ?_
  refine lv_i2l hx hb dX5_isGrip_1 rfl ?_
  refine lv_lconst (v := 0) hx hb dX5_isGrip_2 (by decide) ?_
  refine lv_aload_n hx hb dX5_isGrip_3 rfl (lv_at hl 0 rfl) ?_
  refine va_get (D := D) (ci := 5) (v := .ref (q + 3)) (C := RX5) (T := TX5) (N := 15) hx hb hts hinX5 hown hK hP 0 rfl rfl 7 (by decide) hf16 (fun _ h9 => h9) rfl dX5_isGrip_4 ?_
  refine lv_bipush (v := 96) hx hb dX5_isGrip_7 (by decide) ?_
  refine g_iald (f := ((mA M) 3)) (k := 96) hx hb hK hP 3 0 rfl rfl (vin_lit rfl) rfl dX5_isGrip_9 ?_
  refine lv_iconst (v := 1) hx hb dX5_isGrip_10 (by decide) ?_
  refine lv_isub hx hb dX5_isGrip_11 ?_
  refine lv_i2l hx hb dX5_isGrip_12 rfl ?_
  obtain ⟨r13, hr13, h⟩ := bd_some h
  refine gc_si (As := [.long ((p0).toInt64), .long 0, .long ((((((mA M) 3) 96) - 1)).toInt64)]) (rest := []) ⟨hx, hb, hml, hown, hts⟩ hK (kX5_in l D cI cC cZ cQ cJ ((p0).toInt64) 0 ((((((mA M) 3) 96) - 1)).toInt64) hr13) (va_cwS 3 hts gX5_isGrip_X5_in rfl rfl rfl (by decide +kernel) ⟨Nat.le_of_ble_eq_true rfl, Nat.le_of_ble_eq_true rfl⟩)  trivial rfl hl.1 rfl (Nat.le_of_ble_eq_true rfl) ⟨Nat.zero_le _, Nat.zero_le _⟩ dX5_isGrip_13 ?_
  obtain ⟨hz1, h⟩ := gz_some h
  have h := Option.some.inj h
  exact W.zret (v := r13) hx hb hr hz1 (fun t ht hW => ⟨_, rfl, h, ht⟩) t_nil dX5_isGrip_16
set_option maxHeartbeats 4000000 in
set_option maxRecDepth 100000 in
theorem kX5_isSlot (l : Launch) (D : va_G) (cI cC cZ cQ cJ : ClassId) (q : Nat) (M : MSt) (p0 : Int32) {R : Int32} (h : fX5_isSlot M p0 = some R) : Met l yX5_isSlot wsX5_isSlot ({ frames := 1, cells := 0, slots := 0, locals := 25 } : Room) (va_Pc [.ref q, .int p0] (gB D (gTy cI cC cZ cQ cJ) (va_P D vwCl (MW cI cZ q M)))) (vp_Si (fun r => r = R)) 0 0 (fun _ => False) := by
  refine Met.ofW (cc := cX5_isSlot) (maxL := 2) (ret := (some .boolean)) (by decide) rfl ?_
  intro p e s m args below meth c s₁ B hml hv
  obtain ⟨rfl, hP, hK⟩ := hv
  have hx := B.exec
  have hb := B.bytes
  have hr := B.returns
  have hts := atoms_spec (ws := wsX5_isSlot) B.pre
  have hown : s.vm.findClass RX5 = some m.cls := findClass_of_methodNamed B.named
  have hlocks := B.notSynchronized
  have hinX5 : ∀ w ∈ wsX50, w ∈ wsX5_isSlot := by decide +kernel
  have hf38 := hts (.fieldLink RX5 38 "GripInspectorModel" "n" "I") (by decide +kernel)
  generalize hRM : (headSpec wsX5_isSlot ({ frames := 1, cells := 0, slots := 0, locals := 25 } : Room)).room = RM
  replace hRM : ({ frames := 1, cells := 0, slots := 0, locals := 25 } : Room) = RM := hRM
  subst hRM
  have hl := lv_entry ([.ref q, .int p0]) (n := 2) (Nat.le_of_ble_eq_true rfl)
  rw [lg_entry_eq]
  generalize (lg_sl ([.ref q, .int p0]) ++ List.replicate (2 - (lg_sl ([.ref q, .int p0])).length) Slot.unset).toArray = ls at hl ⊢
  have hl : lv_has ls 2 [(0, .ref q), (1, .int p0)] := hl
  unfold fX5_isSlot at h
  refine lv_iload_n hx hb dX5_isSlot_0 rfl (lv_at hl 1 rfl) ?_
  refine lv_i2l hx hb dX5_isSlot_1 rfl ?_
  refine lv_lconst (v := 0) hx hb dX5_isSlot_2 (by decide) ?_
  refine lv_aload_n hx hb dX5_isSlot_3 rfl (lv_at hl 0 rfl) ?_
  refine va_get (D := D) (ci := 5) (v := .int (mN M)) (C := RX5) (T := TX5) (N := 15) hx hb hts hinX5 hown hK hP 0 rfl rfl 6 (by decide) hf38 (fun _ h9 => h9) rfl dX5_isSlot_4 ?_
  refine lv_iconst (v := 1) hx hb dX5_isSlot_7 (by decide) ?_
  refine lv_isub hx hb dX5_isSlot_8 ?_
  refine lv_i2l hx hb dX5_isSlot_9 rfl ?_
  obtain ⟨r10, hr10, h⟩ := bd_some h
  refine gc_si (As := [.long ((p0).toInt64), .long 0, .long ((((mN M) - 1)).toInt64)]) (rest := []) ⟨hx, hb, hml, hown, hts⟩ hK (kX5_in l D cI cC cZ cQ cJ ((p0).toInt64) 0 ((((mN M) - 1)).toInt64) hr10) (va_cwS 3 hts gX5_isSlot_X5_in rfl rfl rfl (by decide +kernel) ⟨Nat.le_of_ble_eq_true rfl, Nat.le_of_ble_eq_true rfl⟩)  trivial rfl hl.1 rfl (Nat.le_of_ble_eq_true rfl) ⟨Nat.zero_le _, Nat.zero_le _⟩ dX5_isSlot_10 ?_
  obtain ⟨hz1, h⟩ := gz_some h
  have h := Option.some.inj h
  exact W.zret (v := r10) hx hb hr hz1 (fun t ht hW => ⟨_, rfl, h, ht⟩) t_nil dX5_isSlot_13
set_option maxHeartbeats 4000000 in
set_option maxRecDepth 100000 in
theorem kX5_randomOf (l : Launch) (D : va_G) (cI cC cZ cQ cJ : ClassId) (q : Nat) (j : Nat) (M : MSt) (hj : gRow j) {R : Int64} (h : fX5_randomOf j M = some R) : Met l yX5_randomOf wsX5_randomOf ({ frames := 0, cells := 0, slots := 0, locals := 0 } : Room) (va_Pc [.ref (q + j)] (gB D (gTy cI cC cZ cQ cJ) (va_P D vwCl (MW cI cZ q M)))) (vp_Sl (fun r => r = R)) 0 0 (fun _ => False) := by
  refine Met.ofW (cc := cX5_randomOf) (maxL := 1) (ret := (some .long)) (by decide) rfl ?_
  intro p e s m args below meth c s₁ B hml hv
  obtain ⟨rfl, hP, hK⟩ := hv
  have hx := B.exec
  have hb := B.bytes
  have hr := B.returns
  have hts := atoms_spec (ws := wsX5_randomOf) B.pre
  have hown : s.vm.findClass RX5 = some m.cls := findClass_of_methodNamed B.named
  have hlocks := B.notSynchronized
  generalize hRM : (headSpec wsX5_randomOf ({ frames := 0, cells := 0, slots := 0, locals := 0 } : Room)).room = RM
  replace hRM : ({ frames := 0, cells := 0, slots := 0, locals := 0 } : Room) = RM := hRM
  subst hRM
  have hl := lv_entry ([.ref (q + j)]) (n := 1) (Nat.le_of_ble_eq_true rfl)
  rw [lg_entry_eq]
  generalize (lg_sl ([.ref (q + j)]) ++ List.replicate (1 - (lg_sl ([.ref (q + j)])).length) Slot.unset).toArray = ls at hl ⊢
  have hl : lv_has ls 1 [(0, .ref (q + j))] := hl
  unfold fX5_randomOf at h
  refine lv_aload_n hx hb dX5_randomOf_0 rfl (lv_at hl 0 rfl) ?_
  refine lv_bipush (v := 104) hx hb dX5_randomOf_1 (by decide) ?_
  refine g_iald (f := ((mA M) j)) (k := 104) hx hb hK hP j 0 (MW_at hj) rfl (vin_lit rfl) rfl dX5_randomOf_3 ?_
  refine lv_i2l hx hb dX5_randomOf_4 rfl ?_
  refine lv_bipush (v := 32) hx hb dX5_randomOf_5 (by decide) ?_
  refine lv_lshl hx hb dX5_randomOf_7 rfl ?_
  refine lv_aload_n hx hb dX5_randomOf_8 rfl (lv_at hl 0 rfl) ?_
  refine lv_bipush (v := 105) hx hb dX5_randomOf_9 (by decide) ?_
  refine g_iald (f := ((mA M) j)) (k := 105) hx hb hK hP j 0 (MW_at hj) rfl (vin_lit rfl) rfl dX5_randomOf_11 ?_
  refine lv_i2l hx hb dX5_randomOf_12 rfl ?_
  refine lv_ldc2 (v := 4294967295) hx hb hown (hts (.constantLong RX5 58 (4294967295)) (by decide +kernel)) dX5_randomOf_13 ?_
  refine lv_land hx hb dX5_randomOf_16 ?_
  refine lv_lor hx hb dX5_randomOf_17 ?_
  have h := Option.some.inj h
  exact W.lret (v := (((((((mA M) j) 104)).toInt64) <<< (((32 : Int32)).toInt64 &&& 63)) ||| ((((((mA M) j) 105)).toInt64) &&& 4294967295))) hx hb hr (fun t ht hW => ⟨_, rfl, h, ht⟩) t_nil dX5_randomOf_18
set_option maxHeartbeats 4000000 in
set_option maxRecDepth 100000 in
theorem kX5_setRandomOn (l : Launch) (D : va_G) (cI cC cZ cQ cJ : ClassId) (q : Nat) (j : Nat) (M : MSt) (p0 : Int64) (hj : gRow j) {R : MSt} (h : fX5_setRandomOn j M p0 = some R) : Met l yX5_setRandomOn wsX5_setRandomOn ({ frames := 0, cells := 0, slots := 0, locals := 0 } : Room) (va_Pc [.ref (q + j), .long p0] (gB D (gTy cI cC cZ cQ cJ) (va_P D vwCl (MW cI cZ q M)))) (va_Qv (fun _ : Unit => True) (fun _ t => va_P D vwCl (MW cI cZ q R) t.heap) (fIv q 10)) 0 0 (fIv q 10) := by
  refine Met.ofW (cc := cX5_setRandomOn) (maxL := 3) (ret := none) (by decide) rfl ?_
  intro p e s m args below meth c s₁ B hml hv
  obtain ⟨rfl, hP, hK⟩ := hv
  have hx := B.exec
  have hb := B.bytes
  have hr := B.returns
  have hts := atoms_spec (ws := wsX5_setRandomOn) B.pre
  have hown : s.vm.findClass RX5 = some m.cls := findClass_of_methodNamed B.named
  have hlocks := B.notSynchronized
  generalize hRM : (headSpec wsX5_setRandomOn ({ frames := 0, cells := 0, slots := 0, locals := 0 } : Room)).room = RM
  replace hRM : ({ frames := 0, cells := 0, slots := 0, locals := 0 } : Room) = RM := hRM
  subst hRM
  have hl := lv_entry ([.ref (q + j), .long p0]) (n := 3) (Nat.le_of_ble_eq_true rfl)
  rw [lg_entry_eq]
  generalize (lg_sl ([.ref (q + j), .long p0]) ++ List.replicate (3 - (lg_sl ([.ref (q + j), .long p0])).length) Slot.unset).toArray = ls at hl ⊢
  have hl : lv_has ls 3 [(0, .ref (q + j)), (1, .long p0)] := hl
  have hS : va_S (fIv q 10) s.heap s.heap [] := va_S.rf
  unfold fX5_setRandomOn at h
  obtain ⟨H, hH⟩ : ∃ H, H = s.heap := ⟨_, rfl⟩
  obtain ⟨locs, hlz⟩ : ∃ z : List Loc, z = [] := ⟨_, rfl⟩
  have hP : va_P D vwCl (MW cI cZ q M) H := by rw [hH]; exact hP
  have hS : va_S (fIv q 10) s.heap H locs := by rw [hH, hlz]; exact hS
  refine gc_at hH hlz ?_
  refine lv_aload_n hx hb dX5_setRandomOn_0 rfl (lv_at hl 0 rfl) ?_
  refine lv_bipush (v := 104) hx hb dX5_setRandomOn_1 (by decide) ?_
  refine lv_lload_n hx hb dX5_setRandomOn_3 rfl (lv_at hl 1 rfl) ?_
  refine lv_bipush (v := 32) hx hb dX5_setRandomOn_4 (by decide) ?_
  refine lv_lshr hx hb dX5_setRandomOn_6 rfl ?_
  refine lv_l2i hx hb dX5_setRandomOn_7 rfl ?_
  refine g_iast (f := ((mA M) j)) (k := 104) hx hb hK hP MW_self hS j 0 (MW_at hj) rfl (vin_lit rfl) rfl dX5_setRandomOn_8 (fun H locs hP hS => ?_)
  obtain ⟨a1, ha1, h⟩ := lt_some h
  have hP : va_P D vwCl (MW cI cZ q (a1, (mRef M), (mSize M), (mSpot M), (mRN M), (mN M), (mActs M))) H := by have h9 := hP; rw [MW_set hj] at h9; rw [ha1]; exact h9
  refine lv_aload_n hx hb dX5_setRandomOn_9 rfl (lv_at hl 0 rfl) ?_
  refine lv_bipush (v := 105) hx hb dX5_setRandomOn_10 (by decide) ?_
  refine lv_lload_n hx hb dX5_setRandomOn_12 rfl (lv_at hl 1 rfl) ?_
  refine lv_l2i hx hb dX5_setRandomOn_13 rfl ?_
  refine g_iast (f := (a1 j)) (k := 105) hx hb hK hP MW_self hS j 0 (MW_at hj) rfl (vin_lit rfl) rfl dX5_setRandomOn_14 (fun H locs hP hS => ?_)
  obtain ⟨a2, ha2, h⟩ := lt_some h
  have hP : va_P D vwCl (MW cI cZ q (a2, (mRef M), (mSize M), (mSpot M), (mRN M), (mN M), (mActs M))) H := by have h9 := hP; rw [MW_set hj] at h9; rw [ha2]; exact h9
  have h := Option.some.inj h
  subst h
  exact W.vret hx hb hr (fun t ht hW => ⟨⟨(), rfl, trivial, gh ht hP⟩, hS.F ht⟩) hS.2.2 dX5_setRandomOn_15
set_option maxHeartbeats 4000000 in
set_option maxRecDepth 100000 in
theorem kX5_gripAt (l : Launch) (D : va_G) (cI cC cZ cQ cJ : ClassId) (q : Nat) (j : Nat) (M : MSt) (p0 : Int32) (hj : gRow j) {R : Int32} (h : fX5_gripAt j M p0 = some R) : Met l yX5_gripAt wsX5_gripAt ({ frames := 0, cells := 0, slots := 0, locals := 0 } : Room) (va_Pc [.ref (q + j), .int p0] (gB D (gTy cI cC cZ cQ cJ) (va_P D vwCl (MW cI cZ q M)))) (vp_Si (fun r => r = R)) 0 0 (fun _ => False) := by
  refine Met.ofW (cc := cX5_gripAt) (maxL := 3) (ret := (some .int)) (by decide) rfl ?_
  intro p e s m args below meth c s₁ B hml hv
  obtain ⟨rfl, hP, hK⟩ := hv
  have hx := B.exec
  have hb := B.bytes
  have hr := B.returns
  have hts := atoms_spec (ws := wsX5_gripAt) B.pre
  have hown : s.vm.findClass RX5 = some m.cls := findClass_of_methodNamed B.named
  have hlocks := B.notSynchronized
  generalize hRM : (headSpec wsX5_gripAt ({ frames := 0, cells := 0, slots := 0, locals := 0 } : Room)).room = RM
  replace hRM : ({ frames := 0, cells := 0, slots := 0, locals := 0 } : Room) = RM := hRM
  subst hRM
  have hl := lv_entry ([.ref (q + j), .int p0]) (n := 3) (Nat.le_of_ble_eq_true rfl)
  rw [lg_entry_eq]
  generalize (lg_sl ([.ref (q + j), .int p0]) ++ List.replicate (3 - (lg_sl ([.ref (q + j), .int p0])).length) Slot.unset).toArray = ls at hl ⊢
  have hl : lv_has ls 3 [(0, .ref (q + j)), (1, .int p0)] := hl
  have LP2 : ∀ (n : Nat) (x1 : Int32) (x2 : Int32) (ls : Array Slot), fX5_gripAt_L2 j M n x1 x2 = some R → lv_has ls 3 [(0, .ref (q + j)), (1, .int x1), (2, .int x2)] → W p l e ({ frames := 0, cells := 0, slots := 0, locals := 0 } : Room) s m ([.ref (q + j), .int p0] : List Value).toArray below meth c s.heap [] 0 0 (MQ below (vp_Si (fun r => r = R)) ([.ref (q + j), .int p0] : List Value).toArray s 0 0 (fun _ => False)) (F0 m 2 ls []) := by
    intro n
    induction n with
    | zero => intro x1 x2 ls h hl; exact no_some h
    | succ n ih =>
      intro x1 x2 ls h hl
      rw [fX5_gripAt_L2] at h
      refine lv_iload_n hx hb dX5_gripAt_2 rfl (lv_at hl 2 rfl) ?_
      refine lv_aload_n hx hb dX5_gripAt_3 rfl (lv_at hl 0 rfl) ?_
      refine lv_bipush (v := 96) hx hb dX5_gripAt_4 (by decide) ?_
      refine g_iald (f := ((mA M) j)) (k := 96) hx hb hK hP j 0 (MW_at hj) rfl (vin_lit rfl) rfl dX5_gripAt_6 ?_
      refine lv_icmp_ge (tgt := 37) hx hb dX5_gripAt_7 (by decide) (fun c1 => ?_) (fun c1 => ?_)
      · replace h := (if_pos c1).symm.trans h
        refine lv_bipush (v := (-9)) hx hb dX5_gripAt_37 (by decide) ?_
        have h := Option.some.inj h
        exact W.iret (v := (-9)) hx hb hr (fun t ht hW => ⟨_, rfl, h, ht⟩) t_nil dX5_gripAt_39
      · replace h := (if_neg c1).symm.trans h
        refine lv_aload_n hx hb dX5_gripAt_10 rfl (lv_at hl 0 rfl) ?_
        refine lv_bipush (v := 60) hx hb dX5_gripAt_11 (by decide) ?_
        refine lv_iload_n hx hb dX5_gripAt_13 rfl (lv_at hl 2 rfl) ?_
        refine lv_iadd hx hb dX5_gripAt_14 ?_
        obtain ⟨hg2, h⟩ := gd_some h
        refine g_iald (f := ((mA M) j)) (k := ((60 + x2)).toNatClampNeg) hx hb hK hP j 0 (MW_at hj) rfl hg2 rfl dX5_gripAt_15 ?_
        refine lv_if_ne (tgt := 31) hx hb dX5_gripAt_16 (by decide) (fun c3 => ?_) (fun c3 => ?_)
        · replace h := (if_neg c3).symm.trans h
          refine lv_iinc (v := (x2 + 1)) (lv' := [(2, .int (x2 + 1)), (0, .ref (q + j)), (1, .int x1)]) hx hb dX5_gripAt_31 hl (k := 2) rfl rfl (by decide) rfl (fun ls hl => ?_)
          refine lv_goto (tgt := 2) hx hb dX5_gripAt_34 (by decide) ?_
          exact ih x1 (x2 + 1) ls h (lv_sub hl [1, 2, 0] rfl)
        · replace h := (if_pos c3).symm.trans h
          refine lv_aload_n hx hb dX5_gripAt_19 rfl (lv_at hl 0 rfl) ?_
          refine lv_bipush (v := 72) hx hb dX5_gripAt_20 (by decide) ?_
          refine lv_iload_n hx hb dX5_gripAt_22 rfl (lv_at hl 2 rfl) ?_
          refine lv_iadd hx hb dX5_gripAt_23 ?_
          obtain ⟨hg4, h⟩ := gd_some h
          refine g_iald (f := ((mA M) j)) (k := ((72 + x2)).toNatClampNeg) hx hb hK hP j 0 (MW_at hj) rfl hg4 rfl dX5_gripAt_24 ?_
          refine lv_iload_n hx hb dX5_gripAt_25 rfl (lv_at hl 1 rfl) ?_
          refine lv_icmp_ne (tgt := 31) hx hb dX5_gripAt_26 (by decide) (fun c5 => ?_) (fun c5 => ?_)
          · replace h := (if_neg c5).symm.trans h
            refine lv_iinc (v := (x2 + 1)) (lv' := [(2, .int (x2 + 1)), (0, .ref (q + j)), (1, .int x1)]) hx hb dX5_gripAt_31 hl (k := 2) rfl rfl (by decide) rfl (fun ls hl => ?_)
            refine lv_goto (tgt := 2) hx hb dX5_gripAt_34 (by decide) ?_
            exact ih x1 (x2 + 1) ls h (lv_sub hl [1, 2, 0] rfl)
          · replace h := (if_pos c5).symm.trans h
            refine lv_iload_n hx hb dX5_gripAt_29 rfl (lv_at hl 2 rfl) ?_
            have h := Option.some.inj h
            exact W.iret (v := x2) hx hb hr (fun t ht hW => ⟨_, rfl, h, ht⟩) t_nil dX5_gripAt_30
  unfold fX5_gripAt at h
  refine lv_iconst (v := 0) hx hb dX5_gripAt_0 (by decide) ?_
  refine lv_istore_n (lv' := [(2, .int 0), (0, .ref (q + j)), (1, .int p0)]) hx hb dX5_gripAt_1 rfl hl (by decide) rfl (fun ls hl => ?_)
  exact LP2 KF p0 0 ls h (lv_sub hl [1, 2, 0] rfl)
set_option maxHeartbeats 4000000 in
set_option maxRecDepth 100000 in
theorem kX5_apart (l : Launch) (D : va_G) (cI cC cZ cQ cJ : ClassId) (q : Nat) (M : MSt) (p0 : Int32) (p1 : Int32) {R : Int32} (h : fX5_apart M p0 p1 = some R) : Met l yX5_apart wsX5_apart ({ frames := 0, cells := 0, slots := 0, locals := 0 } : Room) (va_Pc [.ref q, .int p0, .int p1] (gB D (gTy cI cC cZ cQ cJ) (va_P D vwCl (MW cI cZ q M)))) (vp_Si (fun r => r = R)) 0 0 (fun _ => False) := by
  refine Met.ofW (cc := cX5_apart) (maxL := 4) (ret := (some .int)) (by decide) rfl ?_
  intro p e s m args below meth c s₁ B hml hv
  obtain ⟨rfl, hP, hK⟩ := hv
  have hx := B.exec
  have hb := B.bytes
  have hr := B.returns
  have hts := atoms_spec (ws := wsX5_apart) B.pre
  have hown : s.vm.findClass RX5 = some m.cls := findClass_of_methodNamed B.named
  have hlocks := B.notSynchronized
  have hinX5 : ∀ w ∈ wsX50, w ∈ wsX5_apart := by decide +kernel
  have hf38 := hts (.fieldLink RX5 38 "GripInspectorModel" "n" "I") (by decide +kernel)
  generalize hRM : (headSpec wsX5_apart ({ frames := 0, cells := 0, slots := 0, locals := 0 } : Room)).room = RM
  replace hRM : ({ frames := 0, cells := 0, slots := 0, locals := 0 } : Room) = RM := hRM
  subst hRM
  have hl := lv_entry ([.ref q, .int p0, .int p1]) (n := 4) (Nat.le_of_ble_eq_true rfl)
  rw [lg_entry_eq]
  generalize (lg_sl ([.ref q, .int p0, .int p1]) ++ List.replicate (4 - (lg_sl ([.ref q, .int p0, .int p1])).length) Slot.unset).toArray = ls at hl ⊢
  have hl : lv_has ls 4 [(0, .ref q), (1, .int p0), (2, .int p1)] := hl
  unfold fX5_apart at h
  refine lv_iload_n hx hb dX5_apart_0 rfl (lv_at hl 1 rfl) ?_
  refine lv_iload_n hx hb dX5_apart_1 rfl (lv_at hl 2 rfl) ?_
  refine lv_icmp_ge (tgt := 11) hx hb dX5_apart_2 (by decide) (fun c1 => ?_) (fun c1 => ?_)
  · replace h := (if_pos c1).symm.trans h
    refine lv_iload_n hx hb dX5_apart_11 rfl (lv_at hl 1 rfl) ?_
    refine lv_iload_n hx hb dX5_apart_12 rfl (lv_at hl 2 rfl) ?_
    refine lv_isub hx hb dX5_apart_13 ?_
    refine lv_istore_n (lv' := [(3, .int (p0 - p1)), (0, .ref q), (1, .int p0), (2, .int p1)]) hx hb dX5_apart_14 rfl hl (by decide) rfl (fun ls hl => ?_)
    refine lv_iload_n hx hb dX5_apart_15 rfl (lv_at hl 0 rfl) ?_
    refine lv_aload_n hx hb dX5_apart_16 rfl (lv_at hl 1 rfl) ?_
    refine va_get (D := D) (ci := 5) (v := .int (mN M)) (C := RX5) (T := TX5) (N := 15) hx hb hts hinX5 hown hK hP 0 rfl rfl 6 (by decide) hf38 (fun _ h9 => h9) rfl dX5_apart_17 ?_
    refine lv_iload_n hx hb dX5_apart_20 rfl (lv_at hl 0 rfl) ?_
    refine lv_isub hx hb dX5_apart_21 ?_
    refine lv_icmp_ge (tgt := 29) hx hb dX5_apart_22 (by decide) (fun c2 => ?_) (fun c2 => ?_)
    · replace h := (if_pos c2).symm.trans h
      refine lv_aload_n hx hb dX5_apart_29 rfl (lv_at hl 1 rfl) ?_
      refine va_get (D := D) (ci := 5) (v := .int (mN M)) (C := RX5) (T := TX5) (N := 15) hx hb hts hinX5 hown hK hP 0 rfl rfl 6 (by decide) hf38 (fun _ h9 => h9) rfl dX5_apart_30 ?_
      refine lv_iload_n hx hb dX5_apart_33 rfl (lv_at hl 0 rfl) ?_
      refine lv_isub hx hb dX5_apart_34 ?_
      have h := Option.some.inj h
      exact W.iret (v := ((mN M) - (p0 - p1))) hx hb hr (fun t ht hW => ⟨_, rfl, h, ht⟩) t_nil dX5_apart_35
    · replace h := (if_neg c2).symm.trans h
      refine lv_iload_n hx hb dX5_apart_25 rfl (lv_at hl 0 rfl) ?_
      refine lv_goto (tgt := 35) hx hb dX5_apart_26 (by decide) ?_
      have h := Option.some.inj h
      exact W.iret (v := (p0 - p1)) hx hb hr (fun t ht hW => ⟨_, rfl, h, ht⟩) t_nil dX5_apart_35
  · replace h := (if_neg c1).symm.trans h
    refine lv_iload_n hx hb dX5_apart_5 rfl (lv_at hl 2 rfl) ?_
    refine lv_iload_n hx hb dX5_apart_6 rfl (lv_at hl 1 rfl) ?_
    refine lv_isub hx hb dX5_apart_7 ?_
    refine lv_goto (tgt := 14) hx hb dX5_apart_8 (by decide) ?_
    refine lv_istore_n (lv' := [(3, .int (p1 - p0)), (0, .ref q), (1, .int p0), (2, .int p1)]) hx hb dX5_apart_14 rfl hl (by decide) rfl (fun ls hl => ?_)
    refine lv_iload_n hx hb dX5_apart_15 rfl (lv_at hl 0 rfl) ?_
    refine lv_aload_n hx hb dX5_apart_16 rfl (lv_at hl 1 rfl) ?_
    refine va_get (D := D) (ci := 5) (v := .int (mN M)) (C := RX5) (T := TX5) (N := 15) hx hb hts hinX5 hown hK hP 0 rfl rfl 6 (by decide) hf38 (fun _ h9 => h9) rfl dX5_apart_17 ?_
    refine lv_iload_n hx hb dX5_apart_20 rfl (lv_at hl 0 rfl) ?_
    refine lv_isub hx hb dX5_apart_21 ?_
    refine lv_icmp_ge (tgt := 29) hx hb dX5_apart_22 (by decide) (fun c3 => ?_) (fun c3 => ?_)
    · replace h := (if_pos c3).symm.trans h
      refine lv_aload_n hx hb dX5_apart_29 rfl (lv_at hl 1 rfl) ?_
      refine va_get (D := D) (ci := 5) (v := .int (mN M)) (C := RX5) (T := TX5) (N := 15) hx hb hts hinX5 hown hK hP 0 rfl rfl 6 (by decide) hf38 (fun _ h9 => h9) rfl dX5_apart_30 ?_
      refine lv_iload_n hx hb dX5_apart_33 rfl (lv_at hl 0 rfl) ?_
      refine lv_isub hx hb dX5_apart_34 ?_
      have h := Option.some.inj h
      exact W.iret (v := ((mN M) - (p1 - p0))) hx hb hr (fun t ht hW => ⟨_, rfl, h, ht⟩) t_nil dX5_apart_35
    · replace h := (if_neg c3).symm.trans h
      refine lv_iload_n hx hb dX5_apart_25 rfl (lv_at hl 0 rfl) ?_
      refine lv_goto (tgt := 35) hx hb dX5_apart_26 (by decide) ?_
      have h := Option.some.inj h
      exact W.iret (v := (p1 - p0)) hx hb hr (fun t ht hW => ⟨_, rfl, h, ht⟩) t_nil dX5_apart_35
set_option maxHeartbeats 4000000 in
set_option maxRecDepth 100000 in
theorem kX5_isFree (l : Launch) (D : va_G) (cI cC cZ cQ cJ : ClassId) (q : Nat) (j : Nat) (M : MSt) (p0 : Int32) (hj : gRow j) {R : Int32} (h : fX5_isFree j M p0 = some R) : Met l yX5_isFree wsX5_isFree ({ frames := 1, cells := 0, slots := 0, locals := 23 } : Room) (va_Pc [.ref q, .ref (q + j), .int p0] (gB D (gTy cI cC cZ cQ cJ) (va_P D vwCl (MW cI cZ q M)))) (vp_Si (fun r => r = R)) 0 0 (fun _ => False) := by
  refine Met.ofW (cc := cX5_isFree) (maxL := 5) (ret := (some .boolean)) (by decide) rfl ?_
  intro p e s m args below meth c s₁ B hml hv
  obtain ⟨rfl, hP, hK⟩ := hv
  have hx := B.exec
  have hb := B.bytes
  have hr := B.returns
  have hts := atoms_spec (ws := wsX5_isFree) B.pre
  have hown : s.vm.findClass RX5 = some m.cls := findClass_of_methodNamed B.named
  have hlocks := B.notSynchronized
  generalize hRM : (headSpec wsX5_isFree ({ frames := 1, cells := 0, slots := 0, locals := 23 } : Room)).room = RM
  replace hRM : ({ frames := 1, cells := 0, slots := 0, locals := 23 } : Room) = RM := hRM
  subst hRM
  have hl := lv_entry ([.ref q, .ref (q + j), .int p0]) (n := 5) (Nat.le_of_ble_eq_true rfl)
  rw [lg_entry_eq]
  generalize (lg_sl ([.ref q, .ref (q + j), .int p0]) ++ List.replicate (5 - (lg_sl ([.ref q, .ref (q + j), .int p0])).length) Slot.unset).toArray = ls at hl ⊢
  have hl : lv_has ls 5 [(0, .ref q), (1, .ref (q + j)), (2, .int p0)] := hl
  have LP19 : ∀ (n : Nat) (x2 : Int32) (x3 : Int32) (x4 : Int32) (ls : Array Slot), fX5_isFree_L19 j M n x2 x3 x4 = some R → lv_has ls 5 [(0, .ref q), (1, .ref (q + j)), (2, .int x2), (3, .int x3), (4, .int x4)] → W p l e ({ frames := 1, cells := 0, slots := 0, locals := 23 } : Room) s m ([.ref q, .ref (q + j), .int p0] : List Value).toArray below meth c s.heap [] 0 0 (MQ below (vp_Si (fun r => r = R)) ([.ref q, .ref (q + j), .int p0] : List Value).toArray s 0 0 (fun _ => False)) (F0 m 19 ls []) := by
    intro n
    induction n with
    | zero => intro x2 x3 x4 ls h hl; exact no_some h
    | succ n ih =>
      intro x2 x3 x4 ls h hl
      rw [fX5_isFree_L19] at h
      refine lv_iload hx hb dX5_isFree_19 (lv_at hl 4 rfl) ?_
      refine lv_aload_n hx hb dX5_isFree_21 rfl (lv_at hl 1 rfl) ?_
      refine lv_bipush (v := 96) hx hb dX5_isFree_22 (by decide) ?_
      refine g_iald (f := ((mA M) j)) (k := 96) hx hb hK hP j 0 (MW_at hj) rfl (vin_lit rfl) rfl dX5_isFree_24 ?_
      refine lv_icmp_ge (tgt := 73) hx hb dX5_isFree_25 (by decide) (fun c2 => ?_) (fun c2 => ?_)
      · replace h := (if_pos c2).symm.trans h
        refine lv_iload_n hx hb dX5_isFree_73 rfl (lv_at hl 3 rfl) ?_
        obtain ⟨hz3, h⟩ := gz_some h
        have h := Option.some.inj h
        exact W.zret (v := x3) hx hb hr hz3 (fun t ht hW => ⟨_, rfl, h, ht⟩) t_nil dX5_isFree_74
      · replace h := (if_neg c2).symm.trans h
        refine lv_iload_n hx hb dX5_isFree_28 rfl (lv_at hl 3 rfl) ?_
        refine lv_if_eq (tgt := 65) hx hb dX5_isFree_29 (by decide) (fun c4 => ?_) (fun c4 => ?_)
        · replace h := (if_pos c4).symm.trans h
          refine lv_iconst (v := 0) hx hb dX5_isFree_65 (by decide) ?_
          refine lv_istore_n (lv' := [(3, .int 0), (0, .ref q), (1, .ref (q + j)), (2, .int x2), (4, .int x4)]) hx hb dX5_isFree_66 rfl hl (by decide) rfl (fun ls hl => ?_)
          refine lv_iinc (v := (x4 + 1)) (lv' := [(4, .int (x4 + 1)), (3, .int 0), (0, .ref q), (1, .ref (q + j)), (2, .int x2)]) hx hb dX5_isFree_67 hl (k := 4) rfl rfl (by decide) rfl (fun ls hl => ?_)
          refine lv_goto (tgt := 19) hx hb dX5_isFree_70 (by decide) ?_
          exact ih x2 0 (x4 + 1) ls h (lv_sub hl [2, 3, 4, 1, 0] rfl)
        · replace h := (if_neg c4).symm.trans h
          refine lv_aload_n hx hb dX5_isFree_32 rfl (lv_at hl 1 rfl) ?_
          refine lv_bipush (v := 60) hx hb dX5_isFree_33 (by decide) ?_
          refine lv_iload hx hb dX5_isFree_35 (lv_at hl 4 rfl) ?_
          refine lv_iadd hx hb dX5_isFree_37 ?_
          obtain ⟨hg5, h⟩ := gd_some h
          refine g_iald (f := ((mA M) j)) (k := ((60 + x4)).toNatClampNeg) hx hb hK hP j 0 (MW_at hj) rfl hg5 rfl dX5_isFree_38 ?_
          refine lv_if_ne (tgt := 61) hx hb dX5_isFree_39 (by decide) (fun c6 => ?_) (fun c6 => ?_)
          · replace h := (if_neg c6).symm.trans h
            refine lv_iconst (v := 1) hx hb dX5_isFree_61 (by decide) ?_
            refine lv_goto (tgt := 66) hx hb dX5_isFree_62 (by decide) ?_
            refine lv_istore_n (lv' := [(3, .int 1), (0, .ref q), (1, .ref (q + j)), (2, .int x2), (4, .int x4)]) hx hb dX5_isFree_66 rfl hl (by decide) rfl (fun ls hl => ?_)
            refine lv_iinc (v := (x4 + 1)) (lv' := [(4, .int (x4 + 1)), (3, .int 1), (0, .ref q), (1, .ref (q + j)), (2, .int x2)]) hx hb dX5_isFree_67 hl (k := 4) rfl rfl (by decide) rfl (fun ls hl => ?_)
            refine lv_goto (tgt := 19) hx hb dX5_isFree_70 (by decide) ?_
            exact ih x2 1 (x4 + 1) ls h (lv_sub hl [2, 3, 4, 1, 0] rfl)
          · replace h := (if_pos c6).symm.trans h
            refine lv_aload_n hx hb dX5_isFree_42 rfl (lv_at hl 0 rfl) ?_
            refine lv_iload_n hx hb dX5_isFree_43 rfl (lv_at hl 2 rfl) ?_
            refine lv_aload_n hx hb dX5_isFree_44 rfl (lv_at hl 1 rfl) ?_
            refine lv_bipush (v := 72) hx hb dX5_isFree_45 (by decide) ?_
            refine lv_iload hx hb dX5_isFree_47 (lv_at hl 4 rfl) ?_
            refine lv_iadd hx hb dX5_isFree_49 ?_
            obtain ⟨hg7, h⟩ := gd_some h
            refine g_iald (f := ((mA M) j)) (k := ((72 + x4)).toNatClampNeg) hx hb hK hP j 0 (MW_at hj) rfl hg7 rfl dX5_isFree_50 ?_
            obtain ⟨r51, hr51, h⟩ := bd_some h
            refine gc_ri (As := [.int x2, .int (((mA M) j) ((72 + x4)).toNatClampNeg)]) (rest := []) ⟨hx, hb, hml, hown, hts⟩ hK (kX5_apart l D cI cC cZ cQ cJ q M x2 (((mA M) j) ((72 + x4)).toNatClampNeg) hr51) (cwV 2 hts gX5_isFree_X5_apart rfl rfl rfl (by decide +kernel) ⟨Nat.le_of_ble_eq_true rfl, Nat.le_of_ble_eq_true rfl⟩) (va_recv hK hP (ci := 5) (q0 := 0) rfl rfl) hP rfl hl.1 rfl (Nat.le_of_ble_eq_true rfl) ⟨Nat.zero_le _, Nat.zero_le _⟩ dX5_isFree_51 ?_
            refine lv_aload_n hx hb dX5_isFree_54 rfl (lv_at hl 1 rfl) ?_
            refine lv_bipush (v := 102) hx hb dX5_isFree_55 (by decide) ?_
            refine g_iald (f := ((mA M) j)) (k := 102) hx hb hK hP j 0 (MW_at hj) rfl (vin_lit rfl) rfl dX5_isFree_57 ?_
            refine lv_icmp_lt (tgt := 65) hx hb dX5_isFree_58 (by decide) (fun c8 => ?_) (fun c8 => ?_)
            · replace h := (if_pos c8).symm.trans h
              refine lv_iconst (v := 0) hx hb dX5_isFree_65 (by decide) ?_
              refine lv_istore_n (lv' := [(3, .int 0), (0, .ref q), (1, .ref (q + j)), (2, .int x2), (4, .int x4)]) hx hb dX5_isFree_66 rfl hl (by decide) rfl (fun ls hl => ?_)
              refine lv_iinc (v := (x4 + 1)) (lv' := [(4, .int (x4 + 1)), (3, .int 0), (0, .ref q), (1, .ref (q + j)), (2, .int x2)]) hx hb dX5_isFree_67 hl (k := 4) rfl rfl (by decide) rfl (fun ls hl => ?_)
              refine lv_goto (tgt := 19) hx hb dX5_isFree_70 (by decide) ?_
              exact ih x2 0 (x4 + 1) ls h (lv_sub hl [2, 3, 4, 1, 0] rfl)
            · replace h := (if_neg c8).symm.trans h
              refine lv_iconst (v := 1) hx hb dX5_isFree_61 (by decide) ?_
              refine lv_goto (tgt := 66) hx hb dX5_isFree_62 (by decide) ?_
              refine lv_istore_n (lv' := [(3, .int 1), (0, .ref q), (1, .ref (q + j)), (2, .int x2), (4, .int x4)]) hx hb dX5_isFree_66 rfl hl (by decide) rfl (fun ls hl => ?_)
              refine lv_iinc (v := (x4 + 1)) (lv' := [(4, .int (x4 + 1)), (3, .int 1), (0, .ref q), (1, .ref (q + j)), (2, .int x2)]) hx hb dX5_isFree_67 hl (k := 4) rfl rfl (by decide) rfl (fun ls hl => ?_)
              refine lv_goto (tgt := 19) hx hb dX5_isFree_70 (by decide) ?_
              exact ih x2 1 (x4 + 1) ls h (lv_sub hl [2, 3, 4, 1, 0] rfl)
  unfold fX5_isFree at h
  refine lv_aload_n hx hb dX5_isFree_0 rfl (lv_at hl 1 rfl) ?_
  refine lv_iload_n hx hb dX5_isFree_1 rfl (lv_at hl 2 rfl) ?_
  obtain ⟨r2, hr2, h⟩ := bd_some h
  refine gc_si (As := [.ref (q + j), .int p0]) (rest := []) ⟨hx, hb, hml, hown, hts⟩ hK (kX5_gripAt l D cI cC cZ cQ cJ q j M p0 hj hr2) (va_cwS 2 hts gX5_isFree_X5_gripAt rfl rfl rfl (by decide +kernel) ⟨Nat.le_of_ble_eq_true rfl, Nat.le_of_ble_eq_true rfl⟩)  hP rfl hl.1 rfl (Nat.le_of_ble_eq_true rfl) ⟨Nat.zero_le _, Nat.zero_le _⟩ dX5_isFree_2 ?_
  refine lv_bipush (v := (-9)) hx hb dX5_isFree_5 (by decide) ?_
  refine lv_icmp_ne (tgt := 14) hx hb dX5_isFree_7 (by decide) (fun c1 => ?_) (fun c1 => ?_)
  · replace h := (if_neg c1).symm.trans h
    refine lv_iconst (v := 0) hx hb dX5_isFree_14 (by decide) ?_
    refine lv_istore_n (lv' := [(3, .int 0), (0, .ref q), (1, .ref (q + j)), (2, .int p0)]) hx hb dX5_isFree_15 rfl hl (by decide) rfl (fun ls hl => ?_)
    refine lv_iconst (v := 0) hx hb dX5_isFree_16 (by decide) ?_
    refine lv_istore (lv' := [(4, .int 0), (3, .int 0), (0, .ref q), (1, .ref (q + j)), (2, .int p0)]) hx hb dX5_isFree_17 hl (by decide) rfl (fun ls hl => ?_)
    exact LP19 KF p0 0 0 ls h (lv_sub hl [2, 3, 4, 1, 0] rfl)
  · replace h := (if_pos c1).symm.trans h
    refine lv_iconst (v := 1) hx hb dX5_isFree_10 (by decide) ?_
    refine lv_goto (tgt := 15) hx hb dX5_isFree_11 (by decide) ?_
    refine lv_istore_n (lv' := [(3, .int 1), (0, .ref q), (1, .ref (q + j)), (2, .int p0)]) hx hb dX5_isFree_15 rfl hl (by decide) rfl (fun ls hl => ?_)
    refine lv_iconst (v := 0) hx hb dX5_isFree_16 (by decide) ?_
    refine lv_istore (lv' := [(4, .int 0), (3, .int 1), (0, .ref q), (1, .ref (q + j)), (2, .int p0)]) hx hb dX5_isFree_17 hl (by decide) rfl (fun ls hl => ?_)
    exact LP19 KF p0 1 0 ls h (lv_sub hl [2, 3, 4, 1, 0] rfl)
set_option maxHeartbeats 4000000 in
set_option maxRecDepth 100000 in
theorem kX5_count (l : Launch) (D : va_G) (cI cC cZ cQ cJ : ClassId) (q : Nat) (j : Nat) (M : MSt) (p0 : Int32) (hj : gRow j) {R : Int32} (h : fX5_count j M p0 = some R) : Met l yX5_count wsX5_count ({ frames := 0, cells := 0, slots := 0, locals := 0 } : Room) (va_Pc [.ref (q + j), .int p0] (gB D (gTy cI cC cZ cQ cJ) (va_P D vwCl (MW cI cZ q M)))) (vp_Si (fun r => r = R)) 0 0 (fun _ => False) := by
  refine Met.ofW (cc := cX5_count) (maxL := 4) (ret := (some .int)) (by decide) rfl ?_
  intro p e s m args below meth c s₁ B hml hv
  obtain ⟨rfl, hP, hK⟩ := hv
  have hx := B.exec
  have hb := B.bytes
  have hr := B.returns
  have hts := atoms_spec (ws := wsX5_count) B.pre
  have hown : s.vm.findClass RX5 = some m.cls := findClass_of_methodNamed B.named
  have hlocks := B.notSynchronized
  generalize hRM : (headSpec wsX5_count ({ frames := 0, cells := 0, slots := 0, locals := 0 } : Room)).room = RM
  replace hRM : ({ frames := 0, cells := 0, slots := 0, locals := 0 } : Room) = RM := hRM
  subst hRM
  have hl := lv_entry ([.ref (q + j), .int p0]) (n := 4) (Nat.le_of_ble_eq_true rfl)
  rw [lg_entry_eq]
  generalize (lg_sl ([.ref (q + j), .int p0]) ++ List.replicate (4 - (lg_sl ([.ref (q + j), .int p0])).length) Slot.unset).toArray = ls at hl ⊢
  have hl : lv_has ls 4 [(0, .ref (q + j)), (1, .int p0)] := hl
  have LP4 : ∀ (n : Nat) (x1 : Int32) (x2 : Int32) (x3 : Int32) (ls : Array Slot), fX5_count_L4 j M n x1 x2 x3 = some R → lv_has ls 4 [(0, .ref (q + j)), (1, .int x1), (2, .int x2), (3, .int x3)] → W p l e ({ frames := 0, cells := 0, slots := 0, locals := 0 } : Room) s m ([.ref (q + j), .int p0] : List Value).toArray below meth c s.heap [] 0 0 (MQ below (vp_Si (fun r => r = R)) ([.ref (q + j), .int p0] : List Value).toArray s 0 0 (fun _ => False)) (F0 m 4 ls []) := by
    intro n
    induction n with
    | zero => intro x1 x2 x3 ls h hl; exact no_some h
    | succ n ih =>
      intro x1 x2 x3 ls h hl
      rw [fX5_count_L4] at h
      refine lv_iload_n hx hb dX5_count_4 rfl (lv_at hl 3 rfl) ?_
      refine lv_aload_n hx hb dX5_count_5 rfl (lv_at hl 0 rfl) ?_
      refine lv_bipush (v := 96) hx hb dX5_count_6 (by decide) ?_
      refine g_iald (f := ((mA M) j)) (k := 96) hx hb hK hP j 0 (MW_at hj) rfl (vin_lit rfl) rfl dX5_count_8 ?_
      refine lv_icmp_ge (tgt := 36) hx hb dX5_count_9 (by decide) (fun c1 => ?_) (fun c1 => ?_)
      · replace h := (if_pos c1).symm.trans h
        refine lv_iload_n hx hb dX5_count_36 rfl (lv_at hl 2 rfl) ?_
        have h := Option.some.inj h
        exact W.iret (v := x2) hx hb hr (fun t ht hW => ⟨_, rfl, h, ht⟩) t_nil dX5_count_37
      · replace h := (if_neg c1).symm.trans h
        refine lv_iload_n hx hb dX5_count_12 rfl (lv_at hl 2 rfl) ?_
        refine lv_aload_n hx hb dX5_count_13 rfl (lv_at hl 0 rfl) ?_
        refine lv_bipush (v := 60) hx hb dX5_count_14 (by decide) ?_
        refine lv_iload_n hx hb dX5_count_16 rfl (lv_at hl 3 rfl) ?_
        refine lv_iadd hx hb dX5_count_17 ?_
        obtain ⟨hg2, h⟩ := gd_some h
        refine g_iald (f := ((mA M) j)) (k := ((60 + x3)).toNatClampNeg) hx hb hK hP j 0 (MW_at hj) rfl hg2 rfl dX5_count_18 ?_
        refine lv_iload_n hx hb dX5_count_19 rfl (lv_at hl 1 rfl) ?_
        refine lv_icmp_ne (tgt := 27) hx hb dX5_count_20 (by decide) (fun c3 => ?_) (fun c3 => ?_)
        · replace h := (if_neg c3).symm.trans h
          refine lv_iconst (v := 0) hx hb dX5_count_27 (by decide) ?_
          refine lv_iadd hx hb dX5_count_28 ?_
          refine lv_istore_n (lv' := [(2, .int (x2 + 0)), (0, .ref (q + j)), (1, .int x1), (3, .int x3)]) hx hb dX5_count_29 rfl hl (by decide) rfl (fun ls hl => ?_)
          refine lv_iinc (v := (x3 + 1)) (lv' := [(3, .int (x3 + 1)), (2, .int (x2 + 0)), (0, .ref (q + j)), (1, .int x1)]) hx hb dX5_count_30 hl (k := 3) rfl rfl (by decide) rfl (fun ls hl => ?_)
          refine lv_goto (tgt := 4) hx hb dX5_count_33 (by decide) ?_
          exact ih x1 (x2 + 0) (x3 + 1) ls h (lv_sub hl [2, 3, 1, 0] rfl)
        · replace h := (if_pos c3).symm.trans h
          refine lv_iconst (v := 1) hx hb dX5_count_23 (by decide) ?_
          refine lv_goto (tgt := 28) hx hb dX5_count_24 (by decide) ?_
          refine lv_iadd hx hb dX5_count_28 ?_
          refine lv_istore_n (lv' := [(2, .int (x2 + 1)), (0, .ref (q + j)), (1, .int x1), (3, .int x3)]) hx hb dX5_count_29 rfl hl (by decide) rfl (fun ls hl => ?_)
          refine lv_iinc (v := (x3 + 1)) (lv' := [(3, .int (x3 + 1)), (2, .int (x2 + 1)), (0, .ref (q + j)), (1, .int x1)]) hx hb dX5_count_30 hl (k := 3) rfl rfl (by decide) rfl (fun ls hl => ?_)
          refine lv_goto (tgt := 4) hx hb dX5_count_33 (by decide) ?_
          exact ih x1 (x2 + 1) (x3 + 1) ls h (lv_sub hl [2, 3, 1, 0] rfl)
  unfold fX5_count at h
  refine lv_iconst (v := 0) hx hb dX5_count_0 (by decide) ?_
  refine lv_istore_n (lv' := [(2, .int 0), (0, .ref (q + j)), (1, .int p0)]) hx hb dX5_count_1 rfl hl (by decide) rfl (fun ls hl => ?_)
  refine lv_iconst (v := 0) hx hb dX5_count_2 (by decide) ?_
  refine lv_istore_n (lv' := [(3, .int 0), (2, .int 0), (0, .ref (q + j)), (1, .int p0)]) hx hb dX5_count_3 rfl hl (by decide) rfl (fun ls hl => ?_)
  exact LP4 KF p0 0 0 ls h (lv_sub hl [2, 3, 1, 0] rfl)
set_option maxHeartbeats 4000000 in
set_option maxRecDepth 100000 in
theorem kX5_pass (l : Launch) (D : va_G) (cI cC cZ cQ cJ : ClassId) (q : Nat) (j : Nat) (M : MSt) (p0 : Int32) (p1 : Int32) (hj : gRow j) {R : Int32 × MSt} (h : fX5_pass j M p0 p1 = some R) : Met l yX5_pass wsX5_pass ({ frames := 0, cells := 0, slots := 0, locals := 0 } : Room) (va_Pc [.ref q, .ref (q + j), .int p0, .int p1] (gB D (gTy cI cC cZ cQ cJ) (va_P D vwCl (MW cI cZ q M)))) (va_Qi (fun r (_ : Unit) => r = R.1) (fun _ t => va_P D vwCl (MW cI cZ q R.2) t.heap) (fIv q 10)) 0 0 (fIv q 10) := by
  refine Met.ofW (cc := cX5_pass) (maxL := 5) (ret := (some .int)) (by decide) rfl ?_
  intro p e s m args below meth c s₁ B hml hv
  obtain ⟨rfl, hP, hK⟩ := hv
  have hx := B.exec
  have hb := B.bytes
  have hr := B.returns
  have hts := atoms_spec (ws := wsX5_pass) B.pre
  have hown : s.vm.findClass RX5 = some m.cls := findClass_of_methodNamed B.named
  have hlocks := B.notSynchronized
  have hinX5 : ∀ w ∈ wsX50, w ∈ wsX5_pass := by decide +kernel
  have hf32 := hts (.fieldLink RX5 32 "GripInspectorModel" "counts" "[I") (by decide +kernel)
  generalize hRM : (headSpec wsX5_pass ({ frames := 0, cells := 0, slots := 0, locals := 0 } : Room)).room = RM
  replace hRM : ({ frames := 0, cells := 0, slots := 0, locals := 0 } : Room) = RM := hRM
  subst hRM
  have hl := lv_entry ([.ref q, .ref (q + j), .int p0, .int p1]) (n := 5) (Nat.le_of_ble_eq_true rfl)
  rw [lg_entry_eq]
  generalize (lg_sl ([.ref q, .ref (q + j), .int p0, .int p1]) ++ List.replicate (5 - (lg_sl ([.ref q, .ref (q + j), .int p0, .int p1])).length) Slot.unset).toArray = ls at hl ⊢
  have hl : lv_has ls 5 [(0, .ref q), (1, .ref (q + j)), (2, .int p0), (3, .int p1)] := hl
  have hS : va_S (fIv q 10) s.heap s.heap [] := va_S.rf
  unfold fX5_pass at h
  obtain ⟨H, hH⟩ : ∃ H, H = s.heap := ⟨_, rfl⟩
  obtain ⟨locs, hlz⟩ : ∃ z : List Loc, z = [] := ⟨_, rfl⟩
  have hP : va_P D vwCl (MW cI cZ q M) H := by rw [hH]; exact hP
  have hS : va_S (fIv q 10) s.heap H locs := by rw [hH, hlz]; exact hS
  refine gc_at hH hlz ?_
  refine lv_aload_n hx hb dX5_pass_0 rfl (lv_at hl 1 rfl) ?_
  refine lv_bipush (v := 12) hx hb dX5_pass_1 (by decide) ?_
  refine lv_iload_n hx hb dX5_pass_3 rfl (lv_at hl 2 rfl) ?_
  refine lv_iadd hx hb dX5_pass_4 ?_
  refine lv_dup2_11 hx hb dX5_pass_5 rfl rfl ?_
  obtain ⟨hg1, h⟩ := gd_some h
  refine g_iald (f := ((mA M) j)) (k := ((12 + p0)).toNatClampNeg) hx hb hK hP j 0 (MW_at hj) rfl hg1 rfl dX5_pass_6 ?_
  refine lv_iconst (v := 1) hx hb dX5_pass_7 (by decide) ?_
  refine lv_iadd hx hb dX5_pass_8 ?_
  refine g_iast (f := ((mA M) j)) (k := ((12 + p0)).toNatClampNeg) hx hb hK hP MW_self hS j 0 (MW_at hj) rfl hg1 rfl dX5_pass_9 (fun H locs hP hS => ?_)
  obtain ⟨a2, ha2, h⟩ := lt_some h
  have hP : va_P D vwCl (MW cI cZ q (a2, (mRef M), (mSize M), (mSpot M), (mRN M), (mN M), (mActs M))) H := by have h9 := hP; rw [MW_set hj] at h9; rw [ha2]; exact h9
  refine lv_aload_n hx hb dX5_pass_10 rfl (lv_at hl 1 rfl) ?_
  refine lv_bipush (v := 24) hx hb dX5_pass_11 (by decide) ?_
  refine lv_iload_n hx hb dX5_pass_13 rfl (lv_at hl 2 rfl) ?_
  refine lv_iadd hx hb dX5_pass_14 ?_
  refine lv_dup2_11 hx hb dX5_pass_15 rfl rfl ?_
  obtain ⟨hg3, h⟩ := gd_some h
  refine g_iald (f := (a2 j)) (k := ((24 + p0)).toNatClampNeg) hx hb hK hP j 0 (MW_at hj) rfl hg3 rfl dX5_pass_16 ?_
  refine lv_iconst (v := 1) hx hb dX5_pass_17 (by decide) ?_
  refine lv_aload_n hx hb dX5_pass_18 rfl (lv_at hl 1 rfl) ?_
  refine lv_iconst (v := 0) hx hb dX5_pass_19 (by decide) ?_
  refine lv_iload_n hx hb dX5_pass_20 rfl (lv_at hl 2 rfl) ?_
  refine lv_iadd hx hb dX5_pass_21 ?_
  obtain ⟨hg4, h⟩ := gd_some h
  refine g_iald (f := (a2 j)) (k := ((0 + p0)).toNatClampNeg) hx hb hK hP j 0 (MW_at hj) rfl hg4 rfl dX5_pass_22 ?_
  refine lv_iadd hx hb dX5_pass_23 ?_
  refine lv_iadd hx hb dX5_pass_24 ?_
  refine g_iast (f := (a2 j)) (k := ((24 + p0)).toNatClampNeg) hx hb hK hP MW_self hS j 0 (MW_at hj) rfl hg3 rfl dX5_pass_25 (fun H locs hP hS => ?_)
  obtain ⟨a5, ha5, h⟩ := lt_some h
  have hP : va_P D vwCl (MW cI cZ q (a5, (mRef M), (mSize M), (mSpot M), (mRN M), (mN M), (mActs M))) H := by have h9 := hP; rw [MW_set hj] at h9; rw [ha5]; exact h9
  refine lv_aload_n hx hb dX5_pass_26 rfl (lv_at hl 1 rfl) ?_
  refine lv_bipush (v := 12) hx hb dX5_pass_27 (by decide) ?_
  refine lv_iload_n hx hb dX5_pass_29 rfl (lv_at hl 2 rfl) ?_
  refine lv_iadd hx hb dX5_pass_30 ?_
  refine g_iald (f := (a5 j)) (k := ((12 + p0)).toNatClampNeg) hx hb hK hP j 0 (MW_at hj) rfl hg1 rfl dX5_pass_31 ?_
  refine lv_aload_n hx hb dX5_pass_32 rfl (lv_at hl 1 rfl) ?_
  refine lv_bipush (v := 99) hx hb dX5_pass_33 (by decide) ?_
  refine g_iald (f := (a5 j)) (k := 99) hx hb hK hP j 0 (MW_at hj) rfl (vin_lit rfl) rfl dX5_pass_35 ?_
  refine lv_icmp_lt (tgt := 43) hx hb dX5_pass_36 (by decide) (fun c6 => ?_) (fun c6 => ?_)
  · replace h := (if_pos c6).symm.trans h
    refine lv_iconst (v := 0) hx hb dX5_pass_43 (by decide) ?_
    refine lv_istore (lv' := [(4, .int 0), (0, .ref q), (1, .ref (q + j)), (2, .int p0), (3, .int p1)]) hx hb dX5_pass_44 hl (by decide) rfl (fun ls hl => ?_)
    refine lv_iload hx hb dX5_pass_46 (lv_at hl 0 rfl) ?_
    refine lv_if_ne (tgt := 63) hx hb dX5_pass_48 (by decide) (fun c => absurd c (by decide)) (fun _ => ?_)
    refine lv_iload_n hx hb dX5_pass_51 rfl (lv_at hl 4 rfl) ?_
    refine lv_aload_n hx hb dX5_pass_52 rfl (lv_at hl 2 rfl) ?_
    refine lv_bipush (v := 101) hx hb dX5_pass_53 (by decide) ?_
    refine g_iald (f := (a5 j)) (k := 101) hx hb hK hP j 0 (MW_at hj) rfl (vin_lit rfl) rfl dX5_pass_55 ?_
    obtain ⟨hn7, h⟩ := nz_some h
    refine lv_irem hx hb dX5_pass_56 hn7 ?_
    refine lv_if_eq (tgt := 63) hx hb dX5_pass_57 (by decide) (fun c8 => ?_) (fun c8 => ?_)
    · replace h := (if_pos c8).symm.trans h
      refine lv_aload_n hx hb dX5_pass_63 rfl (lv_at hl 2 rfl) ?_
      refine lv_bipush (v := 36) hx hb dX5_pass_64 (by decide) ?_
      refine lv_iload_n hx hb dX5_pass_66 rfl (lv_at hl 3 rfl) ?_
      refine lv_iadd hx hb dX5_pass_67 ?_
      refine lv_dup2_11 hx hb dX5_pass_68 rfl rfl ?_
      obtain ⟨hg9, h⟩ := gd_some h
      refine g_iald (f := (a5 j)) (k := ((36 + p0)).toNatClampNeg) hx hb hK hP j 0 (MW_at hj) rfl hg9 rfl dX5_pass_69 ?_
      refine lv_iconst (v := 1) hx hb dX5_pass_70 (by decide) ?_
      refine lv_iadd hx hb dX5_pass_71 ?_
      refine g_iast (f := (a5 j)) (k := ((36 + p0)).toNatClampNeg) hx hb hK hP MW_self hS j 0 (MW_at hj) rfl hg9 rfl dX5_pass_72 (fun H locs hP hS => ?_)
      obtain ⟨a10, ha10, h⟩ := lt_some h
      have hP : va_P D vwCl (MW cI cZ q (a10, (mRef M), (mSize M), (mSpot M), (mRN M), (mN M), (mActs M))) H := by have h9 := hP; rw [MW_set hj] at h9; rw [ha10]; exact h9
      refine lv_aload_n hx hb dX5_pass_73 rfl (lv_at hl 2 rfl) ?_
      refine lv_bipush (v := 48) hx hb dX5_pass_74 (by decide) ?_
      refine lv_iload_n hx hb dX5_pass_76 rfl (lv_at hl 3 rfl) ?_
      refine lv_iadd hx hb dX5_pass_77 ?_
      refine lv_aload_n hx hb dX5_pass_78 rfl (lv_at hl 2 rfl) ?_
      refine lv_bipush (v := 24) hx hb dX5_pass_79 (by decide) ?_
      refine lv_iload_n hx hb dX5_pass_81 rfl (lv_at hl 3 rfl) ?_
      refine lv_iadd hx hb dX5_pass_82 ?_
      refine g_iald (f := (a10 j)) (k := ((24 + p0)).toNatClampNeg) hx hb hK hP j 0 (MW_at hj) rfl hg3 rfl dX5_pass_83 ?_
      refine lv_iconst (v := 4) hx hb dX5_pass_84 (by decide) ?_
      refine lv_idiv hx hb dX5_pass_85 (by decide) ?_
      refine lv_iload_n hx hb dX5_pass_86 rfl (lv_at hl 4 rfl) ?_
      refine lv_bipush (v := 16) hx hb dX5_pass_87 (by decide) ?_
      refine lv_idiv hx hb dX5_pass_89 (by decide) ?_
      refine lv_iconst (v := 5) hx hb dX5_pass_90 (by decide) ?_
      refine lv_irem hx hb dX5_pass_91 (by decide) ?_
      refine lv_iadd hx hb dX5_pass_92 ?_
      obtain ⟨hg11, h⟩ := gd_some h
      refine g_iast (f := (a10 j)) (k := ((48 + p0)).toNatClampNeg) hx hb hK hP MW_self hS j 0 (MW_at hj) rfl hg11 rfl dX5_pass_93 (fun H locs hP hS => ?_)
      obtain ⟨a12, ha12, h⟩ := lt_some h
      have hP : va_P D vwCl (MW cI cZ q (a12, (mRef M), (mSize M), (mSpot M), (mRN M), (mN M), (mActs M))) H := by have h9 := hP; rw [MW_set hj] at h9; rw [ha12]; exact h9
      refine lv_aload_n hx hb dX5_pass_94 rfl (lv_at hl 1 rfl) ?_
      refine va_get (D := D) (ci := 5) (v := .ref (q + 8)) (C := RX5) (T := TX5) (N := 15) hx hb hts hinX5 hown hK hP 0 rfl rfl 13 (by decide) hf32 (fun _ h9 => h9) rfl dX5_pass_95 ?_
      refine lv_iconst (v := 0) hx hb dX5_pass_98 (by decide) ?_
      refine lv_dup2_11 hx hb dX5_pass_99 rfl rfl ?_
      refine g_iald (f := (a12 8)) (k := 0) hx hb hK hP 8 0 rfl rfl (vin_lit rfl) rfl dX5_pass_100 ?_
      refine lv_iconst (v := 1) hx hb dX5_pass_101 (by decide) ?_
      refine lv_iadd hx hb dX5_pass_102 ?_
      refine g_iast (f := (a12 8)) (k := 0) hx hb hK hP MW_self hS 8 0 rfl rfl (vin_lit rfl) rfl dX5_pass_103 (fun H locs hP hS => ?_)
      obtain ⟨a13, ha13, h⟩ := lt_some h
      have hP : va_P D vwCl (MW cI cZ q (a13, (mRef M), (mSize M), (mSpot M), (mRN M), (mN M), (mActs M))) H := by have h9 := hP; rw [MW_s8] at h9; rw [ha13]; exact h9
      refine lv_iload hx hb dX5_pass_104 (lv_at hl 0 rfl) ?_
      refine lv_if_ne (tgt := 125) hx hb dX5_pass_106 (by decide) (fun c => absurd c (by decide)) (fun _ => ?_)
      refine lv_aload_n hx hb dX5_pass_109 rfl (lv_at hl 2 rfl) ?_
      refine lv_bipush (v := 48) hx hb dX5_pass_110 (by decide) ?_
      refine lv_iload_n hx hb dX5_pass_112 rfl (lv_at hl 3 rfl) ?_
      refine lv_iadd hx hb dX5_pass_113 ?_
      refine g_iald (f := (a13 j)) (k := ((48 + p0)).toNatClampNeg) hx hb hK hP j 0 (MW_at hj) rfl hg11 rfl dX5_pass_114 ?_
      refine lv_aload_n hx hb dX5_pass_115 rfl (lv_at hl 2 rfl) ?_
      refine lv_bipush (v := 100) hx hb dX5_pass_116 (by decide) ?_
      refine g_iald (f := (a13 j)) (k := 100) hx hb hK hP j 0 (MW_at hj) rfl (vin_lit rfl) rfl dX5_pass_118 ?_
      refine lv_icmp_gt (tgt := 125) hx hb dX5_pass_119 (by decide) (fun c14 => ?_) (fun c14 => ?_)
      · replace h := (if_pos c14).symm.trans h
        refine lv_aload_n hx hb dX5_pass_125 rfl (lv_at hl 1 rfl) ?_
        refine va_get (D := D) (ci := 5) (v := .ref (q + 8)) (C := RX5) (T := TX5) (N := 15) hx hb hts hinX5 hown hK hP 0 rfl rfl 13 (by decide) hf32 (fun _ h9 => h9) rfl dX5_pass_126 ?_
        refine lv_iload hx hb dX5_pass_129 (lv_at hl 0 rfl) ?_
        refine lv_if_eq (tgt := 138) hx hb dX5_pass_131 (by decide) (fun _ => ?_) (fun c => absurd c (by decide))
        refine lv_iconst (v := 2) hx hb dX5_pass_138 (by decide) ?_
        refine lv_dup2_11 hx hb dX5_pass_139 rfl rfl ?_
        refine g_iald (f := (a13 8)) (k := 2) hx hb hK hP 8 0 rfl rfl (vin_lit rfl) rfl dX5_pass_140 ?_
        refine lv_iconst (v := 1) hx hb dX5_pass_141 (by decide) ?_
        refine lv_iadd hx hb dX5_pass_142 ?_
        refine g_iast (f := (a13 8)) (k := 2) hx hb hK hP MW_self hS 8 0 rfl rfl (vin_lit rfl) rfl dX5_pass_143 (fun H locs hP hS => ?_)
        obtain ⟨a15, ha15, h⟩ := lt_some h
        have hP : va_P D vwCl (MW cI cZ q (a15, (mRef M), (mSize M), (mSpot M), (mRN M), (mN M), (mActs M))) H := by have h9 := hP; rw [MW_s8] at h9; rw [ha15]; exact h9
        refine lv_aload_n hx hb dX5_pass_144 rfl (lv_at hl 2 rfl) ?_
        refine lv_bipush (v := 60) hx hb dX5_pass_145 (by decide) ?_
        refine lv_iload_n hx hb dX5_pass_147 rfl (lv_at hl 3 rfl) ?_
        refine lv_iadd hx hb dX5_pass_148 ?_
        refine lv_iconst (v := 2) hx hb dX5_pass_149 (by decide) ?_
        obtain ⟨hg16, h⟩ := gd_some h
        refine g_iast (f := (a15 j)) (k := ((60 + p0)).toNatClampNeg) hx hb hK hP MW_self hS j 0 (MW_at hj) rfl hg16 rfl dX5_pass_150 (fun H locs hP hS => ?_)
        obtain ⟨a17, ha17, h⟩ := lt_some h
        have hP : va_P D vwCl (MW cI cZ q (a17, (mRef M), (mSize M), (mSpot M), (mRN M), (mN M), (mActs M))) H := by have h9 := hP; rw [MW_set hj] at h9; rw [ha17]; exact h9
        refine lv_aload_n hx hb dX5_pass_151 rfl (lv_at hl 2 rfl) ?_
        refine lv_bipush (v := 84) hx hb dX5_pass_152 (by decide) ?_
        refine lv_iload_n hx hb dX5_pass_154 rfl (lv_at hl 3 rfl) ?_
        refine lv_iadd hx hb dX5_pass_155 ?_
        refine lv_aload_n hx hb dX5_pass_156 rfl (lv_at hl 2 rfl) ?_
        refine lv_bipush (v := 103) hx hb dX5_pass_157 (by decide) ?_
        refine g_iald (f := (a17 j)) (k := 103) hx hb hK hP j 0 (MW_at hj) rfl (vin_lit rfl) rfl dX5_pass_159 ?_
        obtain ⟨hg18, h⟩ := gd_some h
        refine g_iast (f := (a17 j)) (k := ((84 + p0)).toNatClampNeg) hx hb hK hP MW_self hS j 0 (MW_at hj) rfl hg18 rfl dX5_pass_160 (fun H locs hP hS => ?_)
        obtain ⟨a19, ha19, h⟩ := lt_some h
        have hP : va_P D vwCl (MW cI cZ q (a19, (mRef M), (mSize M), (mSpot M), (mRN M), (mN M), (mActs M))) H := by have h9 := hP; rw [MW_set hj] at h9; rw [ha19]; exact h9
        refine lv_iload_n hx hb dX5_pass_161 rfl (lv_at hl 3 rfl) ?_
        have h := Option.some.inj h
        subst h
        exact W.iret (v := p0) hx hb hr (fun t ht hW => ⟨⟨_, (), rfl, rfl, gh ht hP⟩, hS.F ht⟩) hS.2.2 dX5_pass_162
      · replace h := (if_neg c14).symm.trans h
        refine lv_bipush (v := (-9)) hx hb dX5_pass_122 (by decide) ?_
        have h := Option.some.inj h
        subst h
        exact W.iret (v := (-9)) hx hb hr (fun t ht hW => ⟨⟨_, (), rfl, rfl, gh ht hP⟩, hS.F ht⟩) hS.2.2 dX5_pass_124
    · replace h := (if_neg c8).symm.trans h
      refine lv_bipush (v := (-9)) hx hb dX5_pass_60 (by decide) ?_
      have h := Option.some.inj h
      subst h
      exact W.iret (v := (-9)) hx hb hr (fun t ht hW => ⟨⟨_, (), rfl, rfl, gh ht hP⟩, hS.F ht⟩) hS.2.2 dX5_pass_62
  · replace h := (if_neg c6).symm.trans h
    refine lv_iconst (v := 1) hx hb dX5_pass_39 (by decide) ?_
    refine lv_goto (tgt := 44) hx hb dX5_pass_40 (by decide) ?_
    refine lv_istore (lv' := [(4, .int 1), (0, .ref q), (1, .ref (q + j)), (2, .int p0), (3, .int p1)]) hx hb dX5_pass_44 hl (by decide) rfl (fun ls hl => ?_)
    refine lv_iload hx hb dX5_pass_46 (lv_at hl 0 rfl) ?_
    refine lv_if_ne (tgt := 63) hx hb dX5_pass_48 (by decide) (fun _ => ?_) (fun c => absurd c (by decide))
    refine lv_aload_n hx hb dX5_pass_63 rfl (lv_at hl 2 rfl) ?_
    refine lv_bipush (v := 36) hx hb dX5_pass_64 (by decide) ?_
    refine lv_iload_n hx hb dX5_pass_66 rfl (lv_at hl 3 rfl) ?_
    refine lv_iadd hx hb dX5_pass_67 ?_
    refine lv_dup2_11 hx hb dX5_pass_68 rfl rfl ?_
    obtain ⟨hg20, h⟩ := gd_some h
    refine g_iald (f := (a5 j)) (k := ((36 + p0)).toNatClampNeg) hx hb hK hP j 0 (MW_at hj) rfl hg20 rfl dX5_pass_69 ?_
    refine lv_iconst (v := 1) hx hb dX5_pass_70 (by decide) ?_
    refine lv_iadd hx hb dX5_pass_71 ?_
    refine g_iast (f := (a5 j)) (k := ((36 + p0)).toNatClampNeg) hx hb hK hP MW_self hS j 0 (MW_at hj) rfl hg20 rfl dX5_pass_72 (fun H locs hP hS => ?_)
    obtain ⟨a21, ha21, h⟩ := lt_some h
    have hP : va_P D vwCl (MW cI cZ q (a21, (mRef M), (mSize M), (mSpot M), (mRN M), (mN M), (mActs M))) H := by have h9 := hP; rw [MW_set hj] at h9; rw [ha21]; exact h9
    refine lv_aload_n hx hb dX5_pass_73 rfl (lv_at hl 2 rfl) ?_
    refine lv_bipush (v := 48) hx hb dX5_pass_74 (by decide) ?_
    refine lv_iload_n hx hb dX5_pass_76 rfl (lv_at hl 3 rfl) ?_
    refine lv_iadd hx hb dX5_pass_77 ?_
    refine lv_aload_n hx hb dX5_pass_78 rfl (lv_at hl 2 rfl) ?_
    refine lv_bipush (v := 24) hx hb dX5_pass_79 (by decide) ?_
    refine lv_iload_n hx hb dX5_pass_81 rfl (lv_at hl 3 rfl) ?_
    refine lv_iadd hx hb dX5_pass_82 ?_
    refine g_iald (f := (a21 j)) (k := ((24 + p0)).toNatClampNeg) hx hb hK hP j 0 (MW_at hj) rfl hg3 rfl dX5_pass_83 ?_
    refine lv_iconst (v := 4) hx hb dX5_pass_84 (by decide) ?_
    refine lv_idiv hx hb dX5_pass_85 (by decide) ?_
    refine lv_iload_n hx hb dX5_pass_86 rfl (lv_at hl 4 rfl) ?_
    refine lv_bipush (v := 16) hx hb dX5_pass_87 (by decide) ?_
    refine lv_idiv hx hb dX5_pass_89 (by decide) ?_
    refine lv_iconst (v := 5) hx hb dX5_pass_90 (by decide) ?_
    refine lv_irem hx hb dX5_pass_91 (by decide) ?_
    refine lv_iadd hx hb dX5_pass_92 ?_
    obtain ⟨hg22, h⟩ := gd_some h
    refine g_iast (f := (a21 j)) (k := ((48 + p0)).toNatClampNeg) hx hb hK hP MW_self hS j 0 (MW_at hj) rfl hg22 rfl dX5_pass_93 (fun H locs hP hS => ?_)
    obtain ⟨a23, ha23, h⟩ := lt_some h
    have hP : va_P D vwCl (MW cI cZ q (a23, (mRef M), (mSize M), (mSpot M), (mRN M), (mN M), (mActs M))) H := by have h9 := hP; rw [MW_set hj] at h9; rw [ha23]; exact h9
    refine lv_aload_n hx hb dX5_pass_94 rfl (lv_at hl 1 rfl) ?_
    refine va_get (D := D) (ci := 5) (v := .ref (q + 8)) (C := RX5) (T := TX5) (N := 15) hx hb hts hinX5 hown hK hP 0 rfl rfl 13 (by decide) hf32 (fun _ h9 => h9) rfl dX5_pass_95 ?_
    refine lv_iconst (v := 0) hx hb dX5_pass_98 (by decide) ?_
    refine lv_dup2_11 hx hb dX5_pass_99 rfl rfl ?_
    refine g_iald (f := (a23 8)) (k := 0) hx hb hK hP 8 0 rfl rfl (vin_lit rfl) rfl dX5_pass_100 ?_
    refine lv_iconst (v := 1) hx hb dX5_pass_101 (by decide) ?_
    refine lv_iadd hx hb dX5_pass_102 ?_
    refine g_iast (f := (a23 8)) (k := 0) hx hb hK hP MW_self hS 8 0 rfl rfl (vin_lit rfl) rfl dX5_pass_103 (fun H locs hP hS => ?_)
    obtain ⟨a24, ha24, h⟩ := lt_some h
    have hP : va_P D vwCl (MW cI cZ q (a24, (mRef M), (mSize M), (mSpot M), (mRN M), (mN M), (mActs M))) H := by have h9 := hP; rw [MW_s8] at h9; rw [ha24]; exact h9
    refine lv_iload hx hb dX5_pass_104 (lv_at hl 0 rfl) ?_
    refine lv_if_ne (tgt := 125) hx hb dX5_pass_106 (by decide) (fun _ => ?_) (fun c => absurd c (by decide))
    refine lv_aload_n hx hb dX5_pass_125 rfl (lv_at hl 1 rfl) ?_
    refine va_get (D := D) (ci := 5) (v := .ref (q + 8)) (C := RX5) (T := TX5) (N := 15) hx hb hts hinX5 hown hK hP 0 rfl rfl 13 (by decide) hf32 (fun _ h9 => h9) rfl dX5_pass_126 ?_
    refine lv_iload hx hb dX5_pass_129 (lv_at hl 0 rfl) ?_
    refine lv_if_eq (tgt := 138) hx hb dX5_pass_131 (by decide) (fun c => absurd c (by decide)) (fun _ => ?_)
    refine lv_iconst (v := 1) hx hb dX5_pass_134 (by decide) ?_
    refine lv_goto (tgt := 139) hx hb dX5_pass_135 (by decide) ?_
    refine lv_dup2_11 hx hb dX5_pass_139 rfl rfl ?_
    refine g_iald (f := (a24 8)) (k := 1) hx hb hK hP 8 0 rfl rfl (vin_lit rfl) rfl dX5_pass_140 ?_
    refine lv_iconst (v := 1) hx hb dX5_pass_141 (by decide) ?_
    refine lv_iadd hx hb dX5_pass_142 ?_
    refine g_iast (f := (a24 8)) (k := 1) hx hb hK hP MW_self hS 8 0 rfl rfl (vin_lit rfl) rfl dX5_pass_143 (fun H locs hP hS => ?_)
    obtain ⟨a25, ha25, h⟩ := lt_some h
    have hP : va_P D vwCl (MW cI cZ q (a25, (mRef M), (mSize M), (mSpot M), (mRN M), (mN M), (mActs M))) H := by have h9 := hP; rw [MW_s8] at h9; rw [ha25]; exact h9
    refine lv_aload_n hx hb dX5_pass_144 rfl (lv_at hl 2 rfl) ?_
    refine lv_bipush (v := 60) hx hb dX5_pass_145 (by decide) ?_
    refine lv_iload_n hx hb dX5_pass_147 rfl (lv_at hl 3 rfl) ?_
    refine lv_iadd hx hb dX5_pass_148 ?_
    refine lv_iconst (v := 2) hx hb dX5_pass_149 (by decide) ?_
    obtain ⟨hg26, h⟩ := gd_some h
    refine g_iast (f := (a25 j)) (k := ((60 + p0)).toNatClampNeg) hx hb hK hP MW_self hS j 0 (MW_at hj) rfl hg26 rfl dX5_pass_150 (fun H locs hP hS => ?_)
    obtain ⟨a27, ha27, h⟩ := lt_some h
    have hP : va_P D vwCl (MW cI cZ q (a27, (mRef M), (mSize M), (mSpot M), (mRN M), (mN M), (mActs M))) H := by have h9 := hP; rw [MW_set hj] at h9; rw [ha27]; exact h9
    refine lv_aload_n hx hb dX5_pass_151 rfl (lv_at hl 2 rfl) ?_
    refine lv_bipush (v := 84) hx hb dX5_pass_152 (by decide) ?_
    refine lv_iload_n hx hb dX5_pass_154 rfl (lv_at hl 3 rfl) ?_
    refine lv_iadd hx hb dX5_pass_155 ?_
    refine lv_aload_n hx hb dX5_pass_156 rfl (lv_at hl 2 rfl) ?_
    refine lv_bipush (v := 103) hx hb dX5_pass_157 (by decide) ?_
    refine g_iald (f := (a27 j)) (k := 103) hx hb hK hP j 0 (MW_at hj) rfl (vin_lit rfl) rfl dX5_pass_159 ?_
    obtain ⟨hg28, h⟩ := gd_some h
    refine g_iast (f := (a27 j)) (k := ((84 + p0)).toNatClampNeg) hx hb hK hP MW_self hS j 0 (MW_at hj) rfl hg28 rfl dX5_pass_160 (fun H locs hP hS => ?_)
    obtain ⟨a29, ha29, h⟩ := lt_some h
    have hP : va_P D vwCl (MW cI cZ q (a29, (mRef M), (mSize M), (mSpot M), (mRN M), (mN M), (mActs M))) H := by have h9 := hP; rw [MW_set hj] at h9; rw [ha29]; exact h9
    refine lv_iload_n hx hb dX5_pass_161 rfl (lv_at hl 3 rfl) ?_
    have h := Option.some.inj h
    subst h
    exact W.iret (v := p0) hx hb hr (fun t ht hW => ⟨⟨_, (), rfl, rfl, gh ht hP⟩, hS.F ht⟩) hS.2.2 dX5_pass_162
set_option maxHeartbeats 4000000 in
set_option maxRecDepth 100000 in
theorem kX5_stepOn (l : Launch) (D : va_G) (cI cC cZ cQ cJ : ClassId) (q : Nat) (j : Nat) (M : MSt) (hj : gRow j) {R : MSt} (h : fX5_stepOn j M = some R) : Met l yX5_stepOn wsX5_stepOn ({ frames := 2, cells := 0, slots := 0, locals := 47 } : Room) (va_Pc [.ref q, .ref (q + j)] (gB D (gTy cI cC cZ cQ cJ) (va_P D vwCl (MW cI cZ q M)))) (va_Qv (fun _ : Unit => True) (fun _ t => va_P D vwCl (MW cI cZ q R) t.heap) (fIv q 10)) 0 0 (fIv q 10) := by
  refine Met.ofW (cc := cX5_stepOn) (maxL := 9) (ret := none) (by decide) rfl ?_
  intro p e s m args below meth c s₁ B hml hv
  obtain ⟨rfl, hP, hK⟩ := hv
  have hx := B.exec
  have hb := B.bytes
  have hr := B.returns
  have hts := atoms_spec (ws := wsX5_stepOn) B.pre
  have hown : s.vm.findClass RX5 = some m.cls := findClass_of_methodNamed B.named
  have hlocks := B.notSynchronized
  have hinX5 : ∀ w ∈ wsX50, w ∈ wsX5_stepOn := by decide +kernel
  have hf38 := hts (.fieldLink RX5 38 "GripInspectorModel" "n" "I") (by decide +kernel)
  have hf32 := hts (.fieldLink RX5 32 "GripInspectorModel" "counts" "[I") (by decide +kernel)
  generalize hRM : (headSpec wsX5_stepOn ({ frames := 2, cells := 0, slots := 0, locals := 47 } : Room)).room = RM
  replace hRM : ({ frames := 2, cells := 0, slots := 0, locals := 47 } : Room) = RM := hRM
  subst hRM
  have hl := lv_entry ([.ref q, .ref (q + j)]) (n := 9) (Nat.le_of_ble_eq_true rfl)
  rw [lg_entry_eq]
  generalize (lg_sl ([.ref q, .ref (q + j)]) ++ List.replicate (9 - (lg_sl ([.ref q, .ref (q + j)])).length) Slot.unset).toArray = ls at hl ⊢
  have hl : lv_has ls 9 [(0, .ref q), (1, .ref (q + j))] := hl
  have hS : va_S (fIv q 10) s.heap s.heap [] := va_S.rf
  have LP185 : ∀ (n : Nat) (S : MSt) (x7 : Int32) (x8 : Int32) (H : Heap) (locs : List Loc) (ls : Array Slot), fX5_stepOn_L185 j n S x7 x8 = some R → va_P D vwCl (MW cI cZ q S) H → va_S (fIv q 10) s.heap H locs → lv_has ls 9 [(0, .ref q), (1, .ref (q + j)), (7, .int x7), (8, .int x8)] → W p l e ({ frames := 2, cells := 0, slots := 0, locals := 47 } : Room) s m ([.ref q, .ref (q + j)] : List Value).toArray below meth c H locs 0 0 (MQ below (va_Qv (fun _ : Unit => True) (fun _ t => va_P D vwCl (MW cI cZ q R) t.heap) (fIv q 10)) ([.ref q, .ref (q + j)] : List Value).toArray s 0 0 (fIv q 10)) (F0 m 185 ls []) := by
    intro n
    induction n with
    | zero => intro S x7 x8 H locs ls h hP hS hl; exact no_some h
    | succ n ih =>
      intro S x7 x8 H locs ls h hP hS hl
      rw [fX5_stepOn_L185] at h
      refine lv_iload hx hb dX5_stepOn_185 (lv_at hl 3 rfl) ?_
      refine lv_aload_n hx hb dX5_stepOn_187 rfl (lv_at hl 1 rfl) ?_
      refine lv_bipush (v := 96) hx hb dX5_stepOn_188 (by decide) ?_
      refine g_iald (f := ((mA S) j)) (k := 96) hx hb hK hP j 0 (MW_at hj) rfl (vin_lit rfl) rfl dX5_stepOn_190 ?_
      refine lv_icmp_ge (tgt := 244) hx hb dX5_stepOn_191 (by decide) (fun c8 => ?_) (fun c8 => ?_)
      · replace h := (if_pos c8).symm.trans h
        refine lv_iload hx hb dX5_stepOn_244 (lv_at hl 2 rfl) ?_
        refine lv_bipush (v := (-9)) hx hb dX5_stepOn_246 (by decide) ?_
        refine lv_icmp_eq (tgt := 280) hx hb dX5_stepOn_248 (by decide) (fun c9 => ?_) (fun c9 => ?_)
        · replace h := (if_pos c9).symm.trans h
          refine lv_aload_n hx hb dX5_stepOn_280 rfl (lv_at hl 1 rfl) ?_
          refine lv_bipush (v := 98) hx hb dX5_stepOn_281 (by decide) ?_
          refine lv_dup2_11 hx hb dX5_stepOn_283 rfl rfl ?_
          refine g_iald (f := ((mA S) j)) (k := 98) hx hb hK hP j 0 (MW_at hj) rfl (vin_lit rfl) rfl dX5_stepOn_284 ?_
          refine lv_iconst (v := 1) hx hb dX5_stepOn_285 (by decide) ?_
          refine lv_iadd hx hb dX5_stepOn_286 ?_
          refine g_iast (f := ((mA S) j)) (k := 98) hx hb hK hP MW_self hS j 0 (MW_at hj) rfl (vin_lit rfl) rfl dX5_stepOn_287 (fun H locs hP hS => ?_)
          obtain ⟨a10, ha10, h⟩ := lt_some h
          have hP : va_P D vwCl (MW cI cZ q (a10, (mRef S), (mSize S), (mSpot S), (mRN S), (mN S), (mActs S))) H := by have h9 := hP; rw [MW_set hj] at h9; rw [ha10]; exact h9
          have h := Option.some.inj h
          subst h
          exact W.vret hx hb hr (fun t ht hW => ⟨⟨(), rfl, trivial, gh ht hP⟩, hS.F ht⟩) hS.2.2 dX5_stepOn_288
        · replace h := (if_neg c9).symm.trans h
          refine lv_aload_n hx hb dX5_stepOn_251 rfl (lv_at hl 1 rfl) ?_
          refine lv_bipush (v := 60) hx hb dX5_stepOn_252 (by decide) ?_
          refine lv_iload hx hb dX5_stepOn_254 (lv_at hl 2 rfl) ?_
          refine lv_iadd hx hb dX5_stepOn_256 ?_
          refine lv_iconst (v := 0) hx hb dX5_stepOn_257 (by decide) ?_
          obtain ⟨hg11, h⟩ := gd_some h
          refine g_iast (f := ((mA S) j)) (k := ((60 + x7)).toNatClampNeg) hx hb hK hP MW_self hS j 0 (MW_at hj) rfl hg11 rfl dX5_stepOn_258 (fun H locs hP hS => ?_)
          obtain ⟨a12, ha12, h⟩ := lt_some h
          have hP : va_P D vwCl (MW cI cZ q (a12, (mRef S), (mSize S), (mSpot S), (mRN S), (mN S), (mActs S))) H := by have h9 := hP; rw [MW_set hj] at h9; rw [ha12]; exact h9
          refine lv_aload_n hx hb dX5_stepOn_259 rfl (lv_at hl 1 rfl) ?_
          refine lv_bipush (v := 72) hx hb dX5_stepOn_260 (by decide) ?_
          refine lv_iload hx hb dX5_stepOn_262 (lv_at hl 2 rfl) ?_
          refine lv_iadd hx hb dX5_stepOn_264 ?_
          refine lv_aload_n hx hb dX5_stepOn_265 rfl (lv_at hl 1 rfl) ?_
          refine lv_bipush (v := 97) hx hb dX5_stepOn_266 (by decide) ?_
          refine g_iald (f := (a12 j)) (k := 97) hx hb hK hP j 0 (MW_at hj) rfl (vin_lit rfl) rfl dX5_stepOn_268 ?_
          obtain ⟨hg13, h⟩ := gd_some h
          refine g_iast (f := (a12 j)) (k := ((72 + x7)).toNatClampNeg) hx hb hK hP MW_self hS j 0 (MW_at hj) rfl hg13 rfl dX5_stepOn_269 (fun H locs hP hS => ?_)
          obtain ⟨a14, ha14, h⟩ := lt_some h
          have hP : va_P D vwCl (MW cI cZ q (a14, (mRef S), (mSize S), (mSpot S), (mRN S), (mN S), (mActs S))) H := by have h9 := hP; rw [MW_set hj] at h9; rw [ha14]; exact h9
          refine lv_aload_n hx hb dX5_stepOn_270 rfl (lv_at hl 0 rfl) ?_
          refine va_get (D := D) (ci := 5) (v := .ref (q + 8)) (C := RX5) (T := TX5) (N := 15) hx hb hts hinX5 hown hK hP 0 rfl rfl 13 (by decide) hf32 (fun _ h9 => h9) rfl dX5_stepOn_271 ?_
          refine lv_iconst (v := 3) hx hb dX5_stepOn_274 (by decide) ?_
          refine lv_dup2_11 hx hb dX5_stepOn_275 rfl rfl ?_
          refine g_iald (f := (a14 8)) (k := 3) hx hb hK hP 8 0 rfl rfl (vin_lit rfl) rfl dX5_stepOn_276 ?_
          refine lv_iconst (v := 1) hx hb dX5_stepOn_277 (by decide) ?_
          refine lv_iadd hx hb dX5_stepOn_278 ?_
          refine g_iast (f := (a14 8)) (k := 3) hx hb hK hP MW_self hS 8 0 rfl rfl (vin_lit rfl) rfl dX5_stepOn_279 (fun H locs hP hS => ?_)
          obtain ⟨a15, ha15, h⟩ := lt_some h
          have hP : va_P D vwCl (MW cI cZ q (a15, (mRef S), (mSize S), (mSpot S), (mRN S), (mN S), (mActs S))) H := by have h9 := hP; rw [MW_s8] at h9; rw [ha15]; exact h9
          refine lv_aload_n hx hb dX5_stepOn_280 rfl (lv_at hl 1 rfl) ?_
          refine lv_bipush (v := 98) hx hb dX5_stepOn_281 (by decide) ?_
          refine lv_dup2_11 hx hb dX5_stepOn_283 rfl rfl ?_
          refine g_iald (f := (a15 j)) (k := 98) hx hb hK hP j 0 (MW_at hj) rfl (vin_lit rfl) rfl dX5_stepOn_284 ?_
          refine lv_iconst (v := 1) hx hb dX5_stepOn_285 (by decide) ?_
          refine lv_iadd hx hb dX5_stepOn_286 ?_
          refine g_iast (f := (a15 j)) (k := 98) hx hb hK hP MW_self hS j 0 (MW_at hj) rfl (vin_lit rfl) rfl dX5_stepOn_287 (fun H locs hP hS => ?_)
          obtain ⟨a16, ha16, h⟩ := lt_some h
          have hP : va_P D vwCl (MW cI cZ q (a16, (mRef S), (mSize S), (mSpot S), (mRN S), (mN S), (mActs S))) H := by have h9 := hP; rw [MW_set hj] at h9; rw [ha16]; exact h9
          have h := Option.some.inj h
          subst h
          exact W.vret hx hb hr (fun t ht hW => ⟨⟨(), rfl, trivial, gh ht hP⟩, hS.F ht⟩) hS.2.2 dX5_stepOn_288
      · replace h := (if_neg c8).symm.trans h
        refine lv_aload_n hx hb dX5_stepOn_194 rfl (lv_at hl 1 rfl) ?_
        refine lv_bipush (v := 60) hx hb dX5_stepOn_195 (by decide) ?_
        refine lv_iload hx hb dX5_stepOn_197 (lv_at hl 3 rfl) ?_
        refine lv_iadd hx hb dX5_stepOn_199 ?_
        obtain ⟨hg17, h⟩ := gd_some h
        refine g_iald (f := ((mA S) j)) (k := ((60 + x8)).toNatClampNeg) hx hb hK hP j 0 (MW_at hj) rfl hg17 rfl dX5_stepOn_200 ?_
        refine lv_iconst (v := 1) hx hb dX5_stepOn_201 (by decide) ?_
        refine lv_icmp_ne (tgt := 234) hx hb dX5_stepOn_202 (by decide) (fun c18 => ?_) (fun c18 => ?_)
        · replace h := (if_neg c18).symm.trans h
          refine lv_iload hx hb dX5_stepOn_234 (lv_at hl 2 rfl) ?_
          refine lv_istore (lv' := [(7, .int x7), (0, .ref q), (1, .ref (q + j)), (8, .int x8)]) hx hb dX5_stepOn_236 hl (by decide) rfl (fun ls hl => ?_)
          refine lv_iinc (v := (x8 + 1)) (lv' := [(8, .int (x8 + 1)), (7, .int x7), (0, .ref q), (1, .ref (q + j))]) hx hb dX5_stepOn_238 hl (k := 3) rfl rfl (by decide) rfl (fun ls hl => ?_)
          refine lv_goto (tgt := 185) hx hb dX5_stepOn_241 (by decide) ?_
          exact ih S x7 (x8 + 1) H locs ls h hP hS (lv_sub hl [2, 3, 1, 0] rfl)
        · replace h := (if_pos c18).symm.trans h
          refine lv_iload hx hb dX5_stepOn_205 (lv_at hl 2 rfl) ?_
          refine lv_bipush (v := (-9)) hx hb dX5_stepOn_207 (by decide) ?_
          refine lv_icmp_eq (tgt := 229) hx hb dX5_stepOn_209 (by decide) (fun c19 => ?_) (fun c19 => ?_)
          · replace h := (if_pos c19).symm.trans h
            refine lv_iload hx hb dX5_stepOn_229 (lv_at hl 3 rfl) ?_
            refine lv_goto (tgt := 236) hx hb dX5_stepOn_231 (by decide) ?_
            refine lv_istore (lv' := [(7, .int x8), (0, .ref q), (1, .ref (q + j)), (8, .int x8)]) hx hb dX5_stepOn_236 hl (by decide) rfl (fun ls hl => ?_)
            refine lv_iinc (v := (x8 + 1)) (lv' := [(8, .int (x8 + 1)), (7, .int x8), (0, .ref q), (1, .ref (q + j))]) hx hb dX5_stepOn_238 hl (k := 3) rfl rfl (by decide) rfl (fun ls hl => ?_)
            refine lv_goto (tgt := 185) hx hb dX5_stepOn_241 (by decide) ?_
            exact ih S x8 (x8 + 1) H locs ls h hP hS (lv_sub hl [2, 3, 1, 0] rfl)
          · replace h := (if_neg c19).symm.trans h
            refine lv_aload_n hx hb dX5_stepOn_212 rfl (lv_at hl 1 rfl) ?_
            refine lv_bipush (v := 12) hx hb dX5_stepOn_213 (by decide) ?_
            refine lv_iload hx hb dX5_stepOn_215 (lv_at hl 3 rfl) ?_
            refine lv_iadd hx hb dX5_stepOn_217 ?_
            obtain ⟨hg20, h⟩ := gd_some h
            refine g_iald (f := ((mA S) j)) (k := ((12 + x8)).toNatClampNeg) hx hb hK hP j 0 (MW_at hj) rfl hg20 rfl dX5_stepOn_218 ?_
            refine lv_aload_n hx hb dX5_stepOn_219 rfl (lv_at hl 1 rfl) ?_
            refine lv_bipush (v := 12) hx hb dX5_stepOn_220 (by decide) ?_
            refine lv_iload hx hb dX5_stepOn_222 (lv_at hl 2 rfl) ?_
            refine lv_iadd hx hb dX5_stepOn_224 ?_
            obtain ⟨hg21, h⟩ := gd_some h
            refine g_iald (f := ((mA S) j)) (k := ((12 + x7)).toNatClampNeg) hx hb hK hP j 0 (MW_at hj) rfl hg21 rfl dX5_stepOn_225 ?_
            refine lv_icmp_ge (tgt := 234) hx hb dX5_stepOn_226 (by decide) (fun c22 => ?_) (fun c22 => ?_)
            · replace h := (if_pos c22).symm.trans h
              refine lv_iload hx hb dX5_stepOn_234 (lv_at hl 2 rfl) ?_
              refine lv_istore (lv' := [(7, .int x7), (0, .ref q), (1, .ref (q + j)), (8, .int x8)]) hx hb dX5_stepOn_236 hl (by decide) rfl (fun ls hl => ?_)
              refine lv_iinc (v := (x8 + 1)) (lv' := [(8, .int (x8 + 1)), (7, .int x7), (0, .ref q), (1, .ref (q + j))]) hx hb dX5_stepOn_238 hl (k := 3) rfl rfl (by decide) rfl (fun ls hl => ?_)
              refine lv_goto (tgt := 185) hx hb dX5_stepOn_241 (by decide) ?_
              exact ih S x7 (x8 + 1) H locs ls h hP hS (lv_sub hl [2, 3, 1, 0] rfl)
            · replace h := (if_neg c22).symm.trans h
              refine lv_iload hx hb dX5_stepOn_229 (lv_at hl 3 rfl) ?_
              refine lv_goto (tgt := 236) hx hb dX5_stepOn_231 (by decide) ?_
              refine lv_istore (lv' := [(7, .int x8), (0, .ref q), (1, .ref (q + j)), (8, .int x8)]) hx hb dX5_stepOn_236 hl (by decide) rfl (fun ls hl => ?_)
              refine lv_iinc (v := (x8 + 1)) (lv' := [(8, .int (x8 + 1)), (7, .int x8), (0, .ref q), (1, .ref (q + j))]) hx hb dX5_stepOn_238 hl (k := 3) rfl rfl (by decide) rfl (fun ls hl => ?_)
              refine lv_goto (tgt := 185) hx hb dX5_stepOn_241 (by decide) ?_
              exact ih S x8 (x8 + 1) H locs ls h hP hS (lv_sub hl [2, 3, 1, 0] rfl)
  have LP88 : ∀ (n : Nat) (S : MSt) (x6 : Int32) (x7 : Int32) (H : Heap) (locs : List Loc) (ls : Array Slot), fX5_stepOn_L88 j n S x6 x7 = some R → va_P D vwCl (MW cI cZ q S) H → va_S (fIv q 10) s.heap H locs → lv_has ls 9 [(0, .ref q), (1, .ref (q + j)), (6, .int x6), (7, .int x7)] → W p l e ({ frames := 2, cells := 0, slots := 0, locals := 47 } : Room) s m ([.ref q, .ref (q + j)] : List Value).toArray below meth c H locs 0 0 (MQ below (va_Qv (fun _ : Unit => True) (fun _ t => va_P D vwCl (MW cI cZ q R) t.heap) (fIv q 10)) ([.ref q, .ref (q + j)] : List Value).toArray s 0 0 (fIv q 10)) (F0 m 88 ls []) := by
    intro n
    induction n with
    | zero => intro S x6 x7 H locs ls h hP hS hl; exact no_some h
    | succ n ih =>
      intro S x6 x7 H locs ls h hP hS hl
      rw [fX5_stepOn_L88] at h
      refine lv_iload hx hb dX5_stepOn_88 (lv_at hl 3 rfl) ?_
      refine lv_aload_n hx hb dX5_stepOn_90 rfl (lv_at hl 1 rfl) ?_
      refine lv_bipush (v := 96) hx hb dX5_stepOn_91 (by decide) ?_
      refine g_iald (f := ((mA S) j)) (k := 96) hx hb hK hP j 0 (MW_at hj) rfl (vin_lit rfl) rfl dX5_stepOn_93 ?_
      refine lv_icmp_ge (tgt := 166) hx hb dX5_stepOn_94 (by decide) (fun c5 => ?_) (fun c5 => ?_)
      · replace h := (if_pos c5).symm.trans h
        refine lv_aload_n hx hb dX5_stepOn_166 rfl (lv_at hl 0 rfl) ?_
        refine lv_aload_n hx hb dX5_stepOn_167 rfl (lv_at hl 1 rfl) ?_
        refine lv_aload_n hx hb dX5_stepOn_168 rfl (lv_at hl 1 rfl) ?_
        refine lv_bipush (v := 97) hx hb dX5_stepOn_169 (by decide) ?_
        refine g_iald (f := ((mA S) j)) (k := 97) hx hb hK hP j 0 (MW_at hj) rfl (vin_lit rfl) rfl dX5_stepOn_171 ?_
        obtain ⟨r172, hr172, h⟩ := bd_some h
        refine gc_ri (As := [.ref (q + j), .int (((mA S) j) 97)]) (rest := []) ⟨hx, hb, hml, hown, hts⟩ hK (kX5_isFree l D cI cC cZ cQ cJ q j S (((mA S) j) 97) hj hr172) (cwV 2 hts gX5_stepOn_X5_isFree rfl rfl rfl (by decide +kernel) ⟨Nat.le_of_ble_eq_true rfl, Nat.le_of_ble_eq_true rfl⟩) (va_recv hK hP (ci := 5) (q0 := 0) rfl rfl) hP rfl hl.1 rfl (Nat.le_of_ble_eq_true rfl) ⟨Nat.zero_le _, Nat.zero_le _⟩ dX5_stepOn_172 ?_
        refine lv_if_eq (tgt := 280) hx hb dX5_stepOn_175 (by decide) (fun c6 => ?_) (fun c6 => ?_)
        · replace h := (if_pos c6).symm.trans h
          refine lv_aload_n hx hb dX5_stepOn_280 rfl (lv_at hl 1 rfl) ?_
          refine lv_bipush (v := 98) hx hb dX5_stepOn_281 (by decide) ?_
          refine lv_dup2_11 hx hb dX5_stepOn_283 rfl rfl ?_
          refine g_iald (f := ((mA S) j)) (k := 98) hx hb hK hP j 0 (MW_at hj) rfl (vin_lit rfl) rfl dX5_stepOn_284 ?_
          refine lv_iconst (v := 1) hx hb dX5_stepOn_285 (by decide) ?_
          refine lv_iadd hx hb dX5_stepOn_286 ?_
          refine g_iast (f := ((mA S) j)) (k := 98) hx hb hK hP MW_self hS j 0 (MW_at hj) rfl (vin_lit rfl) rfl dX5_stepOn_287 (fun H locs hP hS => ?_)
          obtain ⟨a7, ha7, h⟩ := lt_some h
          have hP : va_P D vwCl (MW cI cZ q (a7, (mRef S), (mSize S), (mSpot S), (mRN S), (mN S), (mActs S))) H := by have h9 := hP; rw [MW_set hj] at h9; rw [ha7]; exact h9
          have h := Option.some.inj h
          subst h
          exact W.vret hx hb hr (fun t ht hW => ⟨⟨(), rfl, trivial, gh ht hP⟩, hS.F ht⟩) hS.2.2 dX5_stepOn_288
        · replace h := (if_neg c6).symm.trans h
          refine lv_bipush (v := (-9)) hx hb dX5_stepOn_178 (by decide) ?_
          refine lv_istore (lv' := [(7, .int (-9)), (0, .ref q), (1, .ref (q + j)), (6, .int x6)]) hx hb dX5_stepOn_180 hl (by decide) rfl (fun ls hl => ?_)
          refine lv_iconst (v := 0) hx hb dX5_stepOn_182 (by decide) ?_
          refine lv_istore (lv' := [(8, .int 0), (7, .int (-9)), (0, .ref q), (1, .ref (q + j)), (6, .int x6)]) hx hb dX5_stepOn_183 hl (by decide) rfl (fun ls hl => ?_)
          exact LP185 KF S (-9) 0 H locs ls h hP hS (lv_sub hl [2, 3, 1, 0] rfl)
      · replace h := (if_neg c5).symm.trans h
        refine lv_aload_n hx hb dX5_stepOn_97 rfl (lv_at hl 1 rfl) ?_
        refine lv_bipush (v := 60) hx hb dX5_stepOn_98 (by decide) ?_
        refine lv_iload hx hb dX5_stepOn_100 (lv_at hl 3 rfl) ?_
        refine lv_iadd hx hb dX5_stepOn_102 ?_
        obtain ⟨hg23, h⟩ := gd_some h
        refine g_iald (f := ((mA S) j)) (k := ((60 + x7)).toNatClampNeg) hx hb hK hP j 0 (MW_at hj) rfl hg23 rfl dX5_stepOn_103 ?_
        refine lv_iconst (v := 2) hx hb dX5_stepOn_104 (by decide) ?_
        refine lv_icmp_ne (tgt := 160) hx hb dX5_stepOn_105 (by decide) (fun c24 => ?_) (fun c24 => ?_)
        · replace h := (if_neg c24).symm.trans h
          refine lv_iinc (v := (x7 + 1)) (lv' := [(7, .int (x7 + 1)), (0, .ref q), (1, .ref (q + j)), (6, .int x6)]) hx hb dX5_stepOn_160 hl (k := 3) rfl rfl (by decide) rfl (fun ls hl => ?_)
          refine lv_goto (tgt := 88) hx hb dX5_stepOn_163 (by decide) ?_
          exact ih S x6 (x7 + 1) H locs ls h hP hS (lv_sub hl [1, 2, 3, 0] rfl)
        · replace h := (if_pos c24).symm.trans h
          refine lv_iload hx hb dX5_stepOn_108 (lv_at hl 3 rfl) ?_
          refine lv_iload hx hb dX5_stepOn_110 (lv_at hl 2 rfl) ?_
          refine lv_icmp_eq (tgt := 160) hx hb dX5_stepOn_112 (by decide) (fun c25 => ?_) (fun c25 => ?_)
          · replace h := (if_pos c25).symm.trans h
            refine lv_iinc (v := (x7 + 1)) (lv' := [(7, .int (x7 + 1)), (0, .ref q), (1, .ref (q + j)), (6, .int x6)]) hx hb dX5_stepOn_160 hl (k := 3) rfl rfl (by decide) rfl (fun ls hl => ?_)
            refine lv_goto (tgt := 88) hx hb dX5_stepOn_163 (by decide) ?_
            exact ih S x6 (x7 + 1) H locs ls h hP hS (lv_sub hl [1, 2, 3, 0] rfl)
          · replace h := (if_neg c25).symm.trans h
            refine lv_aload_n hx hb dX5_stepOn_115 rfl (lv_at hl 1 rfl) ?_
            refine lv_bipush (v := 84) hx hb dX5_stepOn_116 (by decide) ?_
            refine lv_iload hx hb dX5_stepOn_118 (lv_at hl 3 rfl) ?_
            refine lv_iadd hx hb dX5_stepOn_120 ?_
            refine lv_dup2_11 hx hb dX5_stepOn_121 rfl rfl ?_
            obtain ⟨hg26, h⟩ := gd_some h
            refine g_iald (f := ((mA S) j)) (k := ((84 + x7)).toNatClampNeg) hx hb hK hP j 0 (MW_at hj) rfl hg26 rfl dX5_stepOn_122 ?_
            refine lv_iconst (v := 1) hx hb dX5_stepOn_123 (by decide) ?_
            refine lv_isub hx hb dX5_stepOn_124 ?_
            refine g_iast (f := ((mA S) j)) (k := ((84 + x7)).toNatClampNeg) hx hb hK hP MW_self hS j 0 (MW_at hj) rfl hg26 rfl dX5_stepOn_125 (fun H locs hP hS => ?_)
            obtain ⟨a27, ha27, h⟩ := lt_some h
            have hP : va_P D vwCl (MW cI cZ q (a27, (mRef S), (mSize S), (mSpot S), (mRN S), (mN S), (mActs S))) H := by have h9 := hP; rw [MW_set hj] at h9; rw [ha27]; exact h9
            refine lv_aload_n hx hb dX5_stepOn_126 rfl (lv_at hl 1 rfl) ?_
            refine lv_bipush (v := 84) hx hb dX5_stepOn_127 (by decide) ?_
            refine lv_iload hx hb dX5_stepOn_129 (lv_at hl 3 rfl) ?_
            refine lv_iadd hx hb dX5_stepOn_131 ?_
            refine g_iald (f := (a27 j)) (k := ((84 + x7)).toNatClampNeg) hx hb hK hP j 0 (MW_at hj) rfl hg26 rfl dX5_stepOn_132 ?_
            refine lv_if_ne (tgt := 160) hx hb dX5_stepOn_133 (by decide) (fun c28 => ?_) (fun c28 => ?_)
            · replace h := (if_neg c28).symm.trans h
              refine lv_iinc (v := (x7 + 1)) (lv' := [(7, .int (x7 + 1)), (0, .ref q), (1, .ref (q + j)), (6, .int x6)]) hx hb dX5_stepOn_160 hl (k := 3) rfl rfl (by decide) rfl (fun ls hl => ?_)
              refine lv_goto (tgt := 88) hx hb dX5_stepOn_163 (by decide) ?_
              exact ih (a27, (mRef S), (mSize S), (mSpot S), (mRN S), (mN S), (mActs S)) x6 (x7 + 1) H locs ls h hP hS (lv_sub hl [1, 2, 3, 0] rfl)
            · replace h := (if_pos c28).symm.trans h
              refine lv_aload_n hx hb dX5_stepOn_136 rfl (lv_at hl 1 rfl) ?_
              refine lv_bipush (v := 12) hx hb dX5_stepOn_137 (by decide) ?_
              refine lv_iload hx hb dX5_stepOn_139 (lv_at hl 3 rfl) ?_
              refine lv_iadd hx hb dX5_stepOn_141 ?_
              refine lv_iconst (v := 0) hx hb dX5_stepOn_142 (by decide) ?_
              obtain ⟨hg29, h⟩ := gd_some h
              refine g_iast (f := (a27 j)) (k := ((12 + x7)).toNatClampNeg) hx hb hK hP MW_self hS j 0 (MW_at hj) rfl hg29 rfl dX5_stepOn_143 (fun H locs hP hS => ?_)
              obtain ⟨a30, ha30, h⟩ := lt_some h
              have hP : va_P D vwCl (MW cI cZ q (a30, (mRef S), (mSize S), (mSpot S), (mRN S), (mN S), (mActs S))) H := by have h9 := hP; rw [MW_set hj] at h9; rw [ha30]; exact h9
              refine lv_aload_n hx hb dX5_stepOn_144 rfl (lv_at hl 1 rfl) ?_
              refine lv_bipush (v := 24) hx hb dX5_stepOn_145 (by decide) ?_
              refine lv_iload hx hb dX5_stepOn_147 (lv_at hl 3 rfl) ?_
              refine lv_iadd hx hb dX5_stepOn_149 ?_
              refine lv_iconst (v := 0) hx hb dX5_stepOn_150 (by decide) ?_
              obtain ⟨hg31, h⟩ := gd_some h
              refine g_iast (f := (a30 j)) (k := ((24 + x7)).toNatClampNeg) hx hb hK hP MW_self hS j 0 (MW_at hj) rfl hg31 rfl dX5_stepOn_151 (fun H locs hP hS => ?_)
              obtain ⟨a32, ha32, h⟩ := lt_some h
              have hP : va_P D vwCl (MW cI cZ q (a32, (mRef S), (mSize S), (mSpot S), (mRN S), (mN S), (mActs S))) H := by have h9 := hP; rw [MW_set hj] at h9; rw [ha32]; exact h9
              refine lv_aload_n hx hb dX5_stepOn_152 rfl (lv_at hl 1 rfl) ?_
              refine lv_bipush (v := 60) hx hb dX5_stepOn_153 (by decide) ?_
              refine lv_iload hx hb dX5_stepOn_155 (lv_at hl 3 rfl) ?_
              refine lv_iadd hx hb dX5_stepOn_157 ?_
              refine lv_iconst (v := 1) hx hb dX5_stepOn_158 (by decide) ?_
              refine g_iast (f := (a32 j)) (k := ((60 + x7)).toNatClampNeg) hx hb hK hP MW_self hS j 0 (MW_at hj) rfl hg23 rfl dX5_stepOn_159 (fun H locs hP hS => ?_)
              obtain ⟨a33, ha33, h⟩ := lt_some h
              have hP : va_P D vwCl (MW cI cZ q (a33, (mRef S), (mSize S), (mSpot S), (mRN S), (mN S), (mActs S))) H := by have h9 := hP; rw [MW_set hj] at h9; rw [ha33]; exact h9
              refine lv_iinc (v := (x7 + 1)) (lv' := [(7, .int (x7 + 1)), (0, .ref q), (1, .ref (q + j)), (6, .int x6)]) hx hb dX5_stepOn_160 hl (k := 3) rfl rfl (by decide) rfl (fun ls hl => ?_)
              refine lv_goto (tgt := 88) hx hb dX5_stepOn_163 (by decide) ?_
              exact ih (a33, (mRef S), (mSize S), (mSpot S), (mRN S), (mN S), (mActs S)) x6 (x7 + 1) H locs ls h hP hS (lv_sub hl [1, 2, 3, 0] rfl)
  unfold fX5_stepOn at h
  obtain ⟨H, hH⟩ : ∃ H, H = s.heap := ⟨_, rfl⟩
  obtain ⟨locs, hlz⟩ : ∃ z : List Loc, z = [] := ⟨_, rfl⟩
  have hP : va_P D vwCl (MW cI cZ q M) H := by rw [hH]; exact hP
  have hS : va_S (fIv q 10) s.heap H locs := by rw [hH, hlz]; exact hS
  refine gc_at hH hlz ?_
  refine lv_aload_n hx hb dX5_stepOn_0 rfl (lv_at hl 1 rfl) ?_
  refine lv_bipush (v := 97) hx hb dX5_stepOn_1 (by decide) ?_
  refine lv_aload_n hx hb dX5_stepOn_3 rfl (lv_at hl 1 rfl) ?_
  refine lv_bipush (v := 97) hx hb dX5_stepOn_4 (by decide) ?_
  refine g_iald (f := ((mA M) j)) (k := 97) hx hb hK hP j 0 (MW_at hj) rfl (vin_lit rfl) rfl dX5_stepOn_6 ?_
  refine lv_iconst (v := 1) hx hb dX5_stepOn_7 (by decide) ?_
  refine lv_iadd hx hb dX5_stepOn_8 ?_
  refine lv_aload_n hx hb dX5_stepOn_9 rfl (lv_at hl 0 rfl) ?_
  refine va_get (D := D) (ci := 5) (v := .int (mN M)) (C := RX5) (T := TX5) (N := 15) hx hb hts hinX5 hown hK hP 0 rfl rfl 6 (by decide) hf38 (fun _ h9 => h9) rfl dX5_stepOn_10 ?_
  refine lv_icmp_ne (tgt := 20) hx hb dX5_stepOn_13 (by decide) (fun c1 => ?_) (fun c1 => ?_)
  · replace h := (if_neg c1).symm.trans h
    refine lv_aload_n hx hb dX5_stepOn_20 rfl (lv_at hl 1 rfl) ?_
    refine lv_bipush (v := 97) hx hb dX5_stepOn_21 (by decide) ?_
    refine g_iald (f := ((mA M) j)) (k := 97) hx hb hK hP j 0 (MW_at hj) rfl (vin_lit rfl) rfl dX5_stepOn_23 ?_
    refine lv_iconst (v := 1) hx hb dX5_stepOn_24 (by decide) ?_
    refine lv_iadd hx hb dX5_stepOn_25 ?_
    refine g_iast (f := ((mA M) j)) (k := 97) hx hb hK hP MW_self hS j 0 (MW_at hj) rfl (vin_lit rfl) rfl dX5_stepOn_26 (fun H locs hP hS => ?_)
    obtain ⟨a2, ha2, h⟩ := lt_some h
    have hP : va_P D vwCl (MW cI cZ q (a2, (mRef M), (mSize M), (mSpot M), (mRN M), (mN M), (mActs M))) H := by have h9 := hP; rw [MW_set hj] at h9; rw [ha2]; exact h9
    refine lv_aload_n hx hb dX5_stepOn_27 rfl (lv_at hl 1 rfl) ?_
    obtain ⟨r28, hr28, h⟩ := bd_some h
    refine gc_sl (As := [.ref (q + j)]) (rest := []) ⟨hx, hb, hml, hown, hts⟩ hK (kX5_randomOf l D cI cC cZ cQ cJ q j (a2, (mRef M), (mSize M), (mSpot M), (mRN M), (mN M), (mActs M)) hj hr28) (va_cwS 1 hts gX5_stepOn_X5_randomOf rfl rfl rfl (by decide +kernel) ⟨Nat.le_of_ble_eq_true rfl, Nat.le_of_ble_eq_true rfl⟩)  hP rfl hl.1 rfl (Nat.le_of_ble_eq_true rfl) ⟨Nat.zero_le _, Nat.zero_le _⟩ dX5_stepOn_28 ?_
    refine lv_ldc2 (v := 6364136223846793005) hx hb hown (hts (.constantLong RX5 72 (6364136223846793005)) (by decide +kernel)) dX5_stepOn_31 ?_
    refine lv_lmul hx hb dX5_stepOn_34 ?_
    refine lv_ldc2 (v := 1442695040888963407) hx hb hown (hts (.constantLong RX5 74 (1442695040888963407)) (by decide +kernel)) dX5_stepOn_35 ?_
    refine lv_ladd hx hb dX5_stepOn_38 ?_
    refine lv_topl (fun yv3 eyv3 => ?_)
    rw [← eyv3] at h
    refine lv_lstore_n (lv' := [(2, .long yv3), (0, .ref q), (1, .ref (q + j))]) hx hb dX5_stepOn_39 rfl hl (by decide) rfl (fun ls hl => ?_)
    refine lv_aload_n hx hb dX5_stepOn_40 rfl (lv_at hl 2 rfl) ?_
    refine lv_lload_n hx hb dX5_stepOn_41 rfl (lv_at hl 0 rfl) ?_
    obtain ⟨r42, hr42, h⟩ := bd_some h
    refine gc_swv (As := [.ref (q + j), .long yv3]) (rest := []) ⟨hx, hb, hml, hown, hts⟩ hK (kX5_setRandomOn l D cI cC cZ cQ cJ q j (a2, (mRef M), (mSize M), (mSpot M), (mRN M), (mN M), (mActs M)) yv3 hj hr42) (va_cwS 2 hts gX5_stepOn_X5_setRandomOn rfl rfl rfl (by decide +kernel) ⟨Nat.le_of_ble_eq_true rfl, Nat.le_of_ble_eq_true rfl⟩)  hP hS (fun _ h => h) rfl hl.1 rfl (Nat.le_of_ble_eq_true rfl) ⟨Nat.zero_le _, Nat.zero_le _⟩ dX5_stepOn_42 (fun H locs hP hS _ _ => ?_)
    refine lv_lload_n hx hb dX5_stepOn_45 rfl (lv_at hl 0 rfl) ?_
    refine lv_bipush (v := 33) hx hb dX5_stepOn_46 (by decide) ?_
    refine lv_lushr hx hb dX5_stepOn_48 rfl ?_
    refine lv_l2i hx hb dX5_stepOn_49 rfl ?_
    refine lv_istore (lv' := [(4, .int ((((yv3).toUInt64 >>> (((33 : Int32)).toInt64.toUInt64 &&& Int64.toUInt64 63)).toInt64).toInt32)), (2, .long yv3), (0, .ref q), (1, .ref (q + j))]) hx hb dX5_stepOn_50 hl (by decide) rfl (fun ls hl => ?_)
    refine lv_aload_n hx hb dX5_stepOn_52 rfl (lv_at hl 3 rfl) ?_
    refine lv_aload_n hx hb dX5_stepOn_53 rfl (lv_at hl 3 rfl) ?_
    refine lv_bipush (v := 97) hx hb dX5_stepOn_54 (by decide) ?_
    refine g_iald (f := ((mA r42) j)) (k := 97) hx hb hK hP j 0 (MW_at hj) rfl (vin_lit rfl) rfl dX5_stepOn_56 ?_
    obtain ⟨r57, hr57, h⟩ := bd_some h
    refine gc_si (As := [.ref (q + j), .int (((mA r42) j) 97)]) (rest := []) ⟨hx, hb, hml, hown, hts⟩ hK (kX5_gripAt l D cI cC cZ cQ cJ q j r42 (((mA r42) j) 97) hj hr57) (va_cwS 2 hts gX5_stepOn_X5_gripAt rfl rfl rfl (by decide +kernel) ⟨Nat.le_of_ble_eq_true rfl, Nat.le_of_ble_eq_true rfl⟩)  hP rfl hl.1 rfl (Nat.le_of_ble_eq_true rfl) ⟨Nat.zero_le _, Nat.zero_le _⟩ dX5_stepOn_57 ?_
    refine lv_istore (lv' := [(5, .int r57), (4, .int ((((yv3).toUInt64 >>> (((33 : Int32)).toInt64.toUInt64 &&& Int64.toUInt64 63)).toInt64).toInt32)), (2, .long yv3), (0, .ref q), (1, .ref (q + j))]) hx hb dX5_stepOn_60 hl (by decide) rfl (fun ls hl => ?_)
    refine lv_iload hx hb dX5_stepOn_62 (lv_at hl 0 rfl) ?_
    refine lv_bipush (v := (-9)) hx hb dX5_stepOn_64 (by decide) ?_
    refine lv_icmp_ne (tgt := 74) hx hb dX5_stepOn_66 (by decide) (fun c4 => ?_) (fun c4 => ?_)
    · replace h := (if_neg c4).symm.trans h
      refine lv_aload_n hx hb dX5_stepOn_74 rfl (lv_at hl 3 rfl) ?_
      refine lv_aload_n hx hb dX5_stepOn_75 rfl (lv_at hl 4 rfl) ?_
      refine lv_iload hx hb dX5_stepOn_76 (lv_at hl 0 rfl) ?_
      refine lv_iload hx hb dX5_stepOn_78 (lv_at hl 1 rfl) ?_
      obtain ⟨r80, hr80, h⟩ := bd_some h
      refine gc_wi (As := [.ref (q + j), .int r57, .int ((((yv3).toUInt64 >>> (((33 : Int32)).toInt64.toUInt64 &&& Int64.toUInt64 63)).toInt64).toInt32)]) (rest := []) ⟨hx, hb, hml, hown, hts⟩ hK (kX5_pass l D cI cC cZ cQ cJ q j r42 r57 ((((yv3).toUInt64 >>> (((33 : Int32)).toInt64.toUInt64 &&& Int64.toUInt64 63)).toInt64).toInt32) hj hr80) (cwV 3 hts gX5_stepOn_X5_pass rfl rfl rfl (by decide +kernel) ⟨Nat.le_of_ble_eq_true rfl, Nat.le_of_ble_eq_true rfl⟩) (va_recv hK hP (ci := 5) (q0 := 0) rfl rfl) hP hS (fun _ h => h) rfl hl.1 rfl (Nat.le_of_ble_eq_true rfl) ⟨Nat.zero_le _, Nat.zero_le _⟩ dX5_stepOn_80 (fun H locs hP hS _ _ => ?_)
      refine lv_istore (lv' := [(6, .int r80.1), (5, .int r57), (4, .int ((((yv3).toUInt64 >>> (((33 : Int32)).toInt64.toUInt64 &&& Int64.toUInt64 63)).toInt64).toInt32)), (2, .long yv3), (0, .ref q), (1, .ref (q + j))]) hx hb dX5_stepOn_83 hl (by decide) rfl (fun ls hl => ?_)
      refine lv_iconst (v := 0) hx hb dX5_stepOn_85 (by decide) ?_
      refine lv_istore (lv' := [(7, .int 0), (6, .int r80.1), (5, .int r57), (4, .int ((((yv3).toUInt64 >>> (((33 : Int32)).toInt64.toUInt64 &&& Int64.toUInt64 63)).toInt64).toInt32)), (2, .long yv3), (0, .ref q), (1, .ref (q + j))]) hx hb dX5_stepOn_86 hl (by decide) rfl (fun ls hl => ?_)
      exact LP88 KF r80.2 r80.1 0 H locs ls h hP hS (lv_sub hl [5, 6, 1, 0] rfl)
    · replace h := (if_pos c4).symm.trans h
      refine lv_bipush (v := (-9)) hx hb dX5_stepOn_69 (by decide) ?_
      refine lv_goto (tgt := 83) hx hb dX5_stepOn_71 (by decide) ?_
      refine lv_istore (lv' := [(6, .int (-9)), (5, .int r57), (4, .int ((((yv3).toUInt64 >>> (((33 : Int32)).toInt64.toUInt64 &&& Int64.toUInt64 63)).toInt64).toInt32)), (2, .long yv3), (0, .ref q), (1, .ref (q + j))]) hx hb dX5_stepOn_83 hl (by decide) rfl (fun ls hl => ?_)
      refine lv_iconst (v := 0) hx hb dX5_stepOn_85 (by decide) ?_
      refine lv_istore (lv' := [(7, .int 0), (6, .int (-9)), (5, .int r57), (4, .int ((((yv3).toUInt64 >>> (((33 : Int32)).toInt64.toUInt64 &&& Int64.toUInt64 63)).toInt64).toInt32)), (2, .long yv3), (0, .ref q), (1, .ref (q + j))]) hx hb dX5_stepOn_86 hl (by decide) rfl (fun ls hl => ?_)
      exact LP88 KF r42 (-9) 0 H locs ls h hP hS (lv_sub hl [5, 6, 1, 0] rfl)
  · replace h := (if_pos c1).symm.trans h
    refine lv_iconst (v := 0) hx hb dX5_stepOn_16 (by decide) ?_
    refine lv_goto (tgt := 26) hx hb dX5_stepOn_17 (by decide) ?_
    refine g_iast (f := ((mA M) j)) (k := 97) hx hb hK hP MW_self hS j 0 (MW_at hj) rfl (vin_lit rfl) rfl dX5_stepOn_26 (fun H locs hP hS => ?_)
    obtain ⟨a34, ha34, h⟩ := lt_some h
    have hP : va_P D vwCl (MW cI cZ q (a34, (mRef M), (mSize M), (mSpot M), (mRN M), (mN M), (mActs M))) H := by have h9 := hP; rw [MW_set hj] at h9; rw [ha34]; exact h9
    refine lv_aload_n hx hb dX5_stepOn_27 rfl (lv_at hl 1 rfl) ?_
    obtain ⟨r28, hr28, h⟩ := bd_some h
    refine gc_sl (As := [.ref (q + j)]) (rest := []) ⟨hx, hb, hml, hown, hts⟩ hK (kX5_randomOf l D cI cC cZ cQ cJ q j (a34, (mRef M), (mSize M), (mSpot M), (mRN M), (mN M), (mActs M)) hj hr28) (va_cwS 1 hts gX5_stepOn_X5_randomOf rfl rfl rfl (by decide +kernel) ⟨Nat.le_of_ble_eq_true rfl, Nat.le_of_ble_eq_true rfl⟩)  hP rfl hl.1 rfl (Nat.le_of_ble_eq_true rfl) ⟨Nat.zero_le _, Nat.zero_le _⟩ dX5_stepOn_28 ?_
    refine lv_ldc2 (v := 6364136223846793005) hx hb hown (hts (.constantLong RX5 72 (6364136223846793005)) (by decide +kernel)) dX5_stepOn_31 ?_
    refine lv_lmul hx hb dX5_stepOn_34 ?_
    refine lv_ldc2 (v := 1442695040888963407) hx hb hown (hts (.constantLong RX5 74 (1442695040888963407)) (by decide +kernel)) dX5_stepOn_35 ?_
    refine lv_ladd hx hb dX5_stepOn_38 ?_
    refine lv_topl (fun yv35 eyv35 => ?_)
    rw [← eyv35] at h
    refine lv_lstore_n (lv' := [(2, .long yv35), (0, .ref q), (1, .ref (q + j))]) hx hb dX5_stepOn_39 rfl hl (by decide) rfl (fun ls hl => ?_)
    refine lv_aload_n hx hb dX5_stepOn_40 rfl (lv_at hl 2 rfl) ?_
    refine lv_lload_n hx hb dX5_stepOn_41 rfl (lv_at hl 0 rfl) ?_
    obtain ⟨r42, hr42, h⟩ := bd_some h
    refine gc_swv (As := [.ref (q + j), .long yv35]) (rest := []) ⟨hx, hb, hml, hown, hts⟩ hK (kX5_setRandomOn l D cI cC cZ cQ cJ q j (a34, (mRef M), (mSize M), (mSpot M), (mRN M), (mN M), (mActs M)) yv35 hj hr42) (va_cwS 2 hts gX5_stepOn_X5_setRandomOn rfl rfl rfl (by decide +kernel) ⟨Nat.le_of_ble_eq_true rfl, Nat.le_of_ble_eq_true rfl⟩)  hP hS (fun _ h => h) rfl hl.1 rfl (Nat.le_of_ble_eq_true rfl) ⟨Nat.zero_le _, Nat.zero_le _⟩ dX5_stepOn_42 (fun H locs hP hS _ _ => ?_)
    refine lv_lload_n hx hb dX5_stepOn_45 rfl (lv_at hl 0 rfl) ?_
    refine lv_bipush (v := 33) hx hb dX5_stepOn_46 (by decide) ?_
    refine lv_lushr hx hb dX5_stepOn_48 rfl ?_
    refine lv_l2i hx hb dX5_stepOn_49 rfl ?_
    refine lv_istore (lv' := [(4, .int ((((yv35).toUInt64 >>> (((33 : Int32)).toInt64.toUInt64 &&& Int64.toUInt64 63)).toInt64).toInt32)), (2, .long yv35), (0, .ref q), (1, .ref (q + j))]) hx hb dX5_stepOn_50 hl (by decide) rfl (fun ls hl => ?_)
    refine lv_aload_n hx hb dX5_stepOn_52 rfl (lv_at hl 3 rfl) ?_
    refine lv_aload_n hx hb dX5_stepOn_53 rfl (lv_at hl 3 rfl) ?_
    refine lv_bipush (v := 97) hx hb dX5_stepOn_54 (by decide) ?_
    refine g_iald (f := ((mA r42) j)) (k := 97) hx hb hK hP j 0 (MW_at hj) rfl (vin_lit rfl) rfl dX5_stepOn_56 ?_
    obtain ⟨r57, hr57, h⟩ := bd_some h
    refine gc_si (As := [.ref (q + j), .int (((mA r42) j) 97)]) (rest := []) ⟨hx, hb, hml, hown, hts⟩ hK (kX5_gripAt l D cI cC cZ cQ cJ q j r42 (((mA r42) j) 97) hj hr57) (va_cwS 2 hts gX5_stepOn_X5_gripAt rfl rfl rfl (by decide +kernel) ⟨Nat.le_of_ble_eq_true rfl, Nat.le_of_ble_eq_true rfl⟩)  hP rfl hl.1 rfl (Nat.le_of_ble_eq_true rfl) ⟨Nat.zero_le _, Nat.zero_le _⟩ dX5_stepOn_57 ?_
    refine lv_istore (lv' := [(5, .int r57), (4, .int ((((yv35).toUInt64 >>> (((33 : Int32)).toInt64.toUInt64 &&& Int64.toUInt64 63)).toInt64).toInt32)), (2, .long yv35), (0, .ref q), (1, .ref (q + j))]) hx hb dX5_stepOn_60 hl (by decide) rfl (fun ls hl => ?_)
    refine lv_iload hx hb dX5_stepOn_62 (lv_at hl 0 rfl) ?_
    refine lv_bipush (v := (-9)) hx hb dX5_stepOn_64 (by decide) ?_
    refine lv_icmp_ne (tgt := 74) hx hb dX5_stepOn_66 (by decide) (fun c36 => ?_) (fun c36 => ?_)
    · replace h := (if_neg c36).symm.trans h
      refine lv_aload_n hx hb dX5_stepOn_74 rfl (lv_at hl 3 rfl) ?_
      refine lv_aload_n hx hb dX5_stepOn_75 rfl (lv_at hl 4 rfl) ?_
      refine lv_iload hx hb dX5_stepOn_76 (lv_at hl 0 rfl) ?_
      refine lv_iload hx hb dX5_stepOn_78 (lv_at hl 1 rfl) ?_
      obtain ⟨r80, hr80, h⟩ := bd_some h
      refine gc_wi (As := [.ref (q + j), .int r57, .int ((((yv35).toUInt64 >>> (((33 : Int32)).toInt64.toUInt64 &&& Int64.toUInt64 63)).toInt64).toInt32)]) (rest := []) ⟨hx, hb, hml, hown, hts⟩ hK (kX5_pass l D cI cC cZ cQ cJ q j r42 r57 ((((yv35).toUInt64 >>> (((33 : Int32)).toInt64.toUInt64 &&& Int64.toUInt64 63)).toInt64).toInt32) hj hr80) (cwV 3 hts gX5_stepOn_X5_pass rfl rfl rfl (by decide +kernel) ⟨Nat.le_of_ble_eq_true rfl, Nat.le_of_ble_eq_true rfl⟩) (va_recv hK hP (ci := 5) (q0 := 0) rfl rfl) hP hS (fun _ h => h) rfl hl.1 rfl (Nat.le_of_ble_eq_true rfl) ⟨Nat.zero_le _, Nat.zero_le _⟩ dX5_stepOn_80 (fun H locs hP hS _ _ => ?_)
      refine lv_istore (lv' := [(6, .int r80.1), (5, .int r57), (4, .int ((((yv35).toUInt64 >>> (((33 : Int32)).toInt64.toUInt64 &&& Int64.toUInt64 63)).toInt64).toInt32)), (2, .long yv35), (0, .ref q), (1, .ref (q + j))]) hx hb dX5_stepOn_83 hl (by decide) rfl (fun ls hl => ?_)
      refine lv_iconst (v := 0) hx hb dX5_stepOn_85 (by decide) ?_
      refine lv_istore (lv' := [(7, .int 0), (6, .int r80.1), (5, .int r57), (4, .int ((((yv35).toUInt64 >>> (((33 : Int32)).toInt64.toUInt64 &&& Int64.toUInt64 63)).toInt64).toInt32)), (2, .long yv35), (0, .ref q), (1, .ref (q + j))]) hx hb dX5_stepOn_86 hl (by decide) rfl (fun ls hl => ?_)
      exact LP88 KF r80.2 r80.1 0 H locs ls h hP hS (lv_sub hl [5, 6, 1, 0] rfl)
    · replace h := (if_pos c36).symm.trans h
      refine lv_bipush (v := (-9)) hx hb dX5_stepOn_69 (by decide) ?_
      refine lv_goto (tgt := 83) hx hb dX5_stepOn_71 (by decide) ?_
      refine lv_istore (lv' := [(6, .int (-9)), (5, .int r57), (4, .int ((((yv35).toUInt64 >>> (((33 : Int32)).toInt64.toUInt64 &&& Int64.toUInt64 63)).toInt64).toInt32)), (2, .long yv35), (0, .ref q), (1, .ref (q + j))]) hx hb dX5_stepOn_83 hl (by decide) rfl (fun ls hl => ?_)
      refine lv_iconst (v := 0) hx hb dX5_stepOn_85 (by decide) ?_
      refine lv_istore (lv' := [(7, .int 0), (6, .int (-9)), (5, .int r57), (4, .int ((((yv35).toUInt64 >>> (((33 : Int32)).toInt64.toUInt64 &&& Int64.toUInt64 63)).toInt64).toInt32)), (2, .long yv35), (0, .ref q), (1, .ref (q + j))]) hx hb dX5_stepOn_86 hl (by decide) rfl (fun ls hl => ?_)
      exact LP88 KF r42 (-9) 0 H locs ls h hP hS (lv_sub hl [5, 6, 1, 0] rfl)
set_option maxHeartbeats 4000000 in
set_option maxRecDepth 100000 in
theorem kX5_stepsOn (l : Launch) (D : va_G) (cI cC cZ cQ cJ : ClassId) (q : Nat) (j : Nat) (M : MSt) (p0 : Int32) (hj : gRow j) {R : MSt} (h : fX5_stepsOn j M p0 = some R) : Met l yX5_stepsOn wsX5_stepsOn ({ frames := 3, cells := 0, slots := 0, locals := 75 } : Room) (va_Pc [.ref q, .ref (q + j), .int p0] (gB D (gTy cI cC cZ cQ cJ) (va_P D vwCl (MW cI cZ q M)))) (va_Qv (fun _ : Unit => True) (fun _ t => va_P D vwCl (MW cI cZ q R) t.heap) (fIv q 10)) 0 0 (fIv q 10) := by
  refine Met.ofW (cc := cX5_stepsOn) (maxL := 4) (ret := none) (by decide) rfl ?_
  intro p e s m args below meth c s₁ B hml hv
  obtain ⟨rfl, hP, hK⟩ := hv
  have hx := B.exec
  have hb := B.bytes
  have hr := B.returns
  have hts := atoms_spec (ws := wsX5_stepsOn) B.pre
  have hown : s.vm.findClass RX5 = some m.cls := findClass_of_methodNamed B.named
  have hlocks := B.notSynchronized
  have hinX5 : ∀ w ∈ wsX50, w ∈ wsX5_stepsOn := by decide +kernel
  have hf32 := hts (.fieldLink RX5 32 "GripInspectorModel" "counts" "[I") (by decide +kernel)
  generalize hRM : (headSpec wsX5_stepsOn ({ frames := 3, cells := 0, slots := 0, locals := 75 } : Room)).room = RM
  replace hRM : ({ frames := 3, cells := 0, slots := 0, locals := 75 } : Room) = RM := hRM
  subst hRM
  have hl := lv_entry ([.ref q, .ref (q + j), .int p0]) (n := 4) (Nat.le_of_ble_eq_true rfl)
  rw [lg_entry_eq]
  generalize (lg_sl ([.ref q, .ref (q + j), .int p0]) ++ List.replicate (4 - (lg_sl ([.ref q, .ref (q + j), .int p0])).length) Slot.unset).toArray = ls at hl ⊢
  have hl : lv_has ls 4 [(0, .ref q), (1, .ref (q + j)), (2, .int p0)] := hl
  have hS : va_S (fIv q 10) s.heap s.heap [] := va_S.rf
  have LP22 : ∀ (n : Nat) (S : MSt) (x2 : Int32) (x3 : Int32) (H : Heap) (locs : List Loc) (ls : Array Slot), fX5_stepsOn_L22 j n S x2 x3 = some R → va_P D vwCl (MW cI cZ q S) H → va_S (fIv q 10) s.heap H locs → lv_has ls 4 [(0, .ref q), (1, .ref (q + j)), (2, .int x2), (3, .int x3)] → W p l e ({ frames := 3, cells := 0, slots := 0, locals := 75 } : Room) s m ([.ref q, .ref (q + j), .int p0] : List Value).toArray below meth c H locs 0 0 (MQ below (va_Qv (fun _ : Unit => True) (fun _ t => va_P D vwCl (MW cI cZ q R) t.heap) (fIv q 10)) ([.ref q, .ref (q + j), .int p0] : List Value).toArray s 0 0 (fIv q 10)) (F0 m 22 ls []) := by
    intro n
    induction n with
    | zero => intro S x2 x3 H locs ls h hP hS hl; exact no_some h
    | succ n ih =>
      intro S x2 x3 H locs ls h hP hS hl
      rw [fX5_stepsOn_L22] at h
      refine lv_iload_n hx hb dX5_stepsOn_22 rfl (lv_at hl 3 rfl) ?_
      refine lv_iload_n hx hb dX5_stepsOn_23 rfl (lv_at hl 2 rfl) ?_
      refine lv_icmp_ge (tgt := 38) hx hb dX5_stepsOn_24 (by decide) (fun c2 => ?_) (fun c2 => ?_)
      · replace h := (if_pos c2).symm.trans h
        have h := Option.some.inj h
        subst h
        exact W.vret hx hb hr (fun t ht hW => ⟨⟨(), rfl, trivial, gh ht hP⟩, hS.F ht⟩) hS.2.2 dX5_stepsOn_38
      · replace h := (if_neg c2).symm.trans h
        refine lv_aload_n hx hb dX5_stepsOn_27 rfl (lv_at hl 0 rfl) ?_
        refine lv_aload_n hx hb dX5_stepsOn_28 rfl (lv_at hl 1 rfl) ?_
        obtain ⟨r29, hr29, h⟩ := bd_some h
        refine gc_wv (As := [.ref (q + j)]) (rest := []) ⟨hx, hb, hml, hown, hts⟩ hK (kX5_stepOn l D cI cC cZ cQ cJ q j S hj hr29) (cwV 1 hts gX5_stepsOn_X5_stepOn rfl rfl rfl (by decide +kernel) ⟨Nat.le_of_ble_eq_true rfl, Nat.le_of_ble_eq_true rfl⟩) (va_recv hK hP (ci := 5) (q0 := 0) rfl rfl) hP hS (fun _ h => h) rfl hl.1 rfl (Nat.le_of_ble_eq_true rfl) ⟨Nat.zero_le _, Nat.zero_le _⟩ dX5_stepsOn_29 (fun H locs hP hS _ _ => ?_)
        refine lv_iinc (v := (x3 + 1)) (lv' := [(3, .int (x3 + 1)), (0, .ref q), (1, .ref (q + j)), (2, .int x2)]) hx hb dX5_stepsOn_32 hl (k := 3) rfl rfl (by decide) rfl (fun ls hl => ?_)
        refine lv_goto (tgt := 22) hx hb dX5_stepsOn_35 (by decide) ?_
        exact ih r29 x2 (x3 + 1) H locs ls h hP hS (lv_sub hl [1, 2, 3, 0] rfl)
  have LP2 : ∀ (n : Nat) (S : MSt) (x2 : Int32) (x3 : Int32) (H : Heap) (locs : List Loc) (ls : Array Slot), fX5_stepsOn_L2 j n S x2 x3 = some R → va_P D vwCl (MW cI cZ q S) H → va_S (fIv q 10) s.heap H locs → lv_has ls 4 [(0, .ref q), (1, .ref (q + j)), (2, .int x2), (3, .int x3)] → W p l e ({ frames := 3, cells := 0, slots := 0, locals := 75 } : Room) s m ([.ref q, .ref (q + j), .int p0] : List Value).toArray below meth c H locs 0 0 (MQ below (va_Qv (fun _ : Unit => True) (fun _ t => va_P D vwCl (MW cI cZ q R) t.heap) (fIv q 10)) ([.ref q, .ref (q + j), .int p0] : List Value).toArray s 0 0 (fIv q 10)) (F0 m 2 ls []) := by
    intro n
    induction n with
    | zero => intro S x2 x3 H locs ls h hP hS hl; exact no_some h
    | succ n ih =>
      intro S x2 x3 H locs ls h hP hS hl
      rw [fX5_stepsOn_L2] at h
      refine lv_iload_n hx hb dX5_stepsOn_2 rfl (lv_at hl 3 rfl) ?_
      refine lv_iconst (v := 4) hx hb dX5_stepsOn_3 (by decide) ?_
      refine lv_icmp_ge (tgt := 20) hx hb dX5_stepsOn_4 (by decide) (fun c1 => ?_) (fun c1 => ?_)
      · replace h := (if_pos c1).symm.trans h
        refine lv_iconst (v := 0) hx hb dX5_stepsOn_20 (by decide) ?_
        refine lv_istore_n (lv' := [(3, .int 0), (0, .ref q), (1, .ref (q + j)), (2, .int x2)]) hx hb dX5_stepsOn_21 rfl hl (by decide) rfl (fun ls hl => ?_)
        exact LP22 KF S x2 0 H locs ls h hP hS (lv_sub hl [1, 2, 3, 0] rfl)
      · replace h := (if_neg c1).symm.trans h
        refine lv_aload_n hx hb dX5_stepsOn_7 rfl (lv_at hl 0 rfl) ?_
        refine va_get (D := D) (ci := 5) (v := .ref (q + 8)) (C := RX5) (T := TX5) (N := 15) hx hb hts hinX5 hown hK hP 0 rfl rfl 13 (by decide) hf32 (fun _ h9 => h9) rfl dX5_stepsOn_8 ?_
        refine lv_iload_n hx hb dX5_stepsOn_11 rfl (lv_at hl 3 rfl) ?_
        refine lv_iconst (v := 0) hx hb dX5_stepsOn_12 (by decide) ?_
        obtain ⟨hg3, h⟩ := gd_some h
        refine g_iast (f := ((mA S) 8)) (k := x3.toNatClampNeg) hx hb hK hP MW_self hS 8 0 rfl rfl hg3 rfl dX5_stepsOn_13 (fun H locs hP hS => ?_)
        obtain ⟨a4, ha4, h⟩ := lt_some h
        have hP : va_P D vwCl (MW cI cZ q (a4, (mRef S), (mSize S), (mSpot S), (mRN S), (mN S), (mActs S))) H := by have h9 := hP; rw [MW_s8] at h9; rw [ha4]; exact h9
        refine lv_iinc (v := (x3 + 1)) (lv' := [(3, .int (x3 + 1)), (0, .ref q), (1, .ref (q + j)), (2, .int x2)]) hx hb dX5_stepsOn_14 hl (k := 3) rfl rfl (by decide) rfl (fun ls hl => ?_)
        refine lv_goto (tgt := 2) hx hb dX5_stepsOn_17 (by decide) ?_
        exact ih (a4, (mRef S), (mSize S), (mSpot S), (mRN S), (mN S), (mActs S)) x2 (x3 + 1) H locs ls h hP hS (lv_sub hl [1, 2, 3, 0] rfl)
  unfold fX5_stepsOn at h
  obtain ⟨H, hH⟩ : ∃ H, H = s.heap := ⟨_, rfl⟩
  obtain ⟨locs, hlz⟩ : ∃ z : List Loc, z = [] := ⟨_, rfl⟩
  have hP : va_P D vwCl (MW cI cZ q M) H := by rw [hH]; exact hP
  have hS : va_S (fIv q 10) s.heap H locs := by rw [hH, hlz]; exact hS
  refine gc_at hH hlz ?_
  refine lv_iconst (v := 0) hx hb dX5_stepsOn_0 (by decide) ?_
  refine lv_istore_n (lv' := [(3, .int 0), (0, .ref q), (1, .ref (q + j)), (2, .int p0)]) hx hb dX5_stepsOn_1 rfl hl (by decide) rfl (fun ls hl => ?_)
  exact LP2 KF M p0 0 H locs ls h hP hS (lv_sub hl [1, 2, 3, 0] rfl)
set_option maxHeartbeats 4000000 in
set_option maxRecDepth 100000 in
theorem kX5_addOn (l : Launch) (D : va_G) (cI cC cZ cQ cJ : ClassId) (q : Nat) (j : Nat) (M : MSt) (p0 : Int32) (p1 : Int32) (p2 : Int32) (hj : gRow j) {R : MSt} (h : fX5_addOn j M p0 p1 p2 = some R) : Met l yX5_addOn wsX5_addOn ({ frames := 0, cells := 0, slots := 0, locals := 0 } : Room) (va_Pc [.ref (q + j), .int p0, .int p1, .int p2] (gB D (gTy cI cC cZ cQ cJ) (va_P D vwCl (MW cI cZ q M)))) (va_Qv (fun _ : Unit => True) (fun _ t => va_P D vwCl (MW cI cZ q R) t.heap) (fIv q 10)) 0 0 (fIv q 10) := by
  refine Met.ofW (cc := cX5_addOn) (maxL := 5) (ret := none) (by decide) rfl ?_
  intro p e s m args below meth c s₁ B hml hv
  obtain ⟨rfl, hP, hK⟩ := hv
  have hx := B.exec
  have hb := B.bytes
  have hr := B.returns
  have hts := atoms_spec (ws := wsX5_addOn) B.pre
  have hown : s.vm.findClass RX5 = some m.cls := findClass_of_methodNamed B.named
  have hlocks := B.notSynchronized
  generalize hRM : (headSpec wsX5_addOn ({ frames := 0, cells := 0, slots := 0, locals := 0 } : Room)).room = RM
  replace hRM : ({ frames := 0, cells := 0, slots := 0, locals := 0 } : Room) = RM := hRM
  subst hRM
  have hl := lv_entry ([.ref (q + j), .int p0, .int p1, .int p2]) (n := 5) (Nat.le_of_ble_eq_true rfl)
  rw [lg_entry_eq]
  generalize (lg_sl ([.ref (q + j), .int p0, .int p1, .int p2]) ++ List.replicate (5 - (lg_sl ([.ref (q + j), .int p0, .int p1, .int p2])).length) Slot.unset).toArray = ls at hl ⊢
  have hl : lv_has ls 5 [(0, .ref (q + j)), (1, .int p0), (2, .int p1), (3, .int p2)] := hl
  have hS : va_S (fIv q 10) s.heap s.heap [] := va_S.rf
  unfold fX5_addOn at h
  obtain ⟨H, hH⟩ : ∃ H, H = s.heap := ⟨_, rfl⟩
  obtain ⟨locs, hlz⟩ : ∃ z : List Loc, z = [] := ⟨_, rfl⟩
  have hP : va_P D vwCl (MW cI cZ q M) H := by rw [hH]; exact hP
  have hS : va_S (fIv q 10) s.heap H locs := by rw [hH, hlz]; exact hS
  refine gc_at hH hlz ?_
  refine lv_aload_n hx hb dX5_addOn_0 rfl (lv_at hl 0 rfl) ?_
  refine lv_bipush (v := 96) hx hb dX5_addOn_1 (by decide) ?_
  refine g_iald (f := ((mA M) j)) (k := 96) hx hb hK hP j 0 (MW_at hj) rfl (vin_lit rfl) rfl dX5_addOn_3 ?_
  refine lv_istore (lv' := [(4, .int (((mA M) j) 96)), (0, .ref (q + j)), (1, .int p0), (2, .int p1), (3, .int p2)]) hx hb dX5_addOn_4 hl (by decide) rfl (fun ls hl => ?_)
  refine lv_aload_n hx hb dX5_addOn_6 rfl (lv_at hl 1 rfl) ?_
  refine lv_iconst (v := 0) hx hb dX5_addOn_7 (by decide) ?_
  refine lv_iload hx hb dX5_addOn_8 (lv_at hl 0 rfl) ?_
  refine lv_iadd hx hb dX5_addOn_10 ?_
  refine lv_iload_n hx hb dX5_addOn_11 rfl (lv_at hl 2 rfl) ?_
  obtain ⟨hg1, h⟩ := gd_some h
  refine g_iast (f := ((mA M) j)) (k := ((0 + (((mA M) j) 96))).toNatClampNeg) hx hb hK hP MW_self hS j 0 (MW_at hj) rfl hg1 rfl dX5_addOn_12 (fun H locs hP hS => ?_)
  obtain ⟨a2, ha2, h⟩ := lt_some h
  have hP : va_P D vwCl (MW cI cZ q (a2, (mRef M), (mSize M), (mSpot M), (mRN M), (mN M), (mActs M))) H := by have h9 := hP; rw [MW_set hj] at h9; rw [ha2]; exact h9
  refine lv_aload_n hx hb dX5_addOn_13 rfl (lv_at hl 1 rfl) ?_
  refine lv_bipush (v := 12) hx hb dX5_addOn_14 (by decide) ?_
  refine lv_iload hx hb dX5_addOn_16 (lv_at hl 0 rfl) ?_
  refine lv_iadd hx hb dX5_addOn_18 ?_
  refine lv_iconst (v := 0) hx hb dX5_addOn_19 (by decide) ?_
  obtain ⟨hg3, h⟩ := gd_some h
  refine g_iast (f := (a2 j)) (k := ((12 + (((mA M) j) 96))).toNatClampNeg) hx hb hK hP MW_self hS j 0 (MW_at hj) rfl hg3 rfl dX5_addOn_20 (fun H locs hP hS => ?_)
  obtain ⟨a4, ha4, h⟩ := lt_some h
  have hP : va_P D vwCl (MW cI cZ q (a4, (mRef M), (mSize M), (mSpot M), (mRN M), (mN M), (mActs M))) H := by have h9 := hP; rw [MW_set hj] at h9; rw [ha4]; exact h9
  refine lv_aload_n hx hb dX5_addOn_21 rfl (lv_at hl 1 rfl) ?_
  refine lv_bipush (v := 24) hx hb dX5_addOn_22 (by decide) ?_
  refine lv_iload hx hb dX5_addOn_24 (lv_at hl 0 rfl) ?_
  refine lv_iadd hx hb dX5_addOn_26 ?_
  refine lv_iconst (v := 0) hx hb dX5_addOn_27 (by decide) ?_
  obtain ⟨hg5, h⟩ := gd_some h
  refine g_iast (f := (a4 j)) (k := ((24 + (((mA M) j) 96))).toNatClampNeg) hx hb hK hP MW_self hS j 0 (MW_at hj) rfl hg5 rfl dX5_addOn_28 (fun H locs hP hS => ?_)
  obtain ⟨a6, ha6, h⟩ := lt_some h
  have hP : va_P D vwCl (MW cI cZ q (a6, (mRef M), (mSize M), (mSpot M), (mRN M), (mN M), (mActs M))) H := by have h9 := hP; rw [MW_set hj] at h9; rw [ha6]; exact h9
  refine lv_aload_n hx hb dX5_addOn_29 rfl (lv_at hl 1 rfl) ?_
  refine lv_bipush (v := 36) hx hb dX5_addOn_30 (by decide) ?_
  refine lv_iload hx hb dX5_addOn_32 (lv_at hl 0 rfl) ?_
  refine lv_iadd hx hb dX5_addOn_34 ?_
  refine lv_iconst (v := 0) hx hb dX5_addOn_35 (by decide) ?_
  obtain ⟨hg7, h⟩ := gd_some h
  refine g_iast (f := (a6 j)) (k := ((36 + (((mA M) j) 96))).toNatClampNeg) hx hb hK hP MW_self hS j 0 (MW_at hj) rfl hg7 rfl dX5_addOn_36 (fun H locs hP hS => ?_)
  obtain ⟨a8, ha8, h⟩ := lt_some h
  have hP : va_P D vwCl (MW cI cZ q (a8, (mRef M), (mSize M), (mSpot M), (mRN M), (mN M), (mActs M))) H := by have h9 := hP; rw [MW_set hj] at h9; rw [ha8]; exact h9
  refine lv_aload_n hx hb dX5_addOn_37 rfl (lv_at hl 1 rfl) ?_
  refine lv_bipush (v := 48) hx hb dX5_addOn_38 (by decide) ?_
  refine lv_iload hx hb dX5_addOn_40 (lv_at hl 0 rfl) ?_
  refine lv_iadd hx hb dX5_addOn_42 ?_
  refine lv_bipush (v := (-9)) hx hb dX5_addOn_43 (by decide) ?_
  obtain ⟨hg9, h⟩ := gd_some h
  refine g_iast (f := (a8 j)) (k := ((48 + (((mA M) j) 96))).toNatClampNeg) hx hb hK hP MW_self hS j 0 (MW_at hj) rfl hg9 rfl dX5_addOn_45 (fun H locs hP hS => ?_)
  obtain ⟨a10, ha10, h⟩ := lt_some h
  have hP : va_P D vwCl (MW cI cZ q (a10, (mRef M), (mSize M), (mSpot M), (mRN M), (mN M), (mActs M))) H := by have h9 := hP; rw [MW_set hj] at h9; rw [ha10]; exact h9
  refine lv_aload_n hx hb dX5_addOn_46 rfl (lv_at hl 1 rfl) ?_
  refine lv_bipush (v := 60) hx hb dX5_addOn_47 (by decide) ?_
  refine lv_iload hx hb dX5_addOn_49 (lv_at hl 0 rfl) ?_
  refine lv_iadd hx hb dX5_addOn_51 ?_
  refine lv_iload_n hx hb dX5_addOn_52 rfl (lv_at hl 3 rfl) ?_
  obtain ⟨hg11, h⟩ := gd_some h
  refine g_iast (f := (a10 j)) (k := ((60 + (((mA M) j) 96))).toNatClampNeg) hx hb hK hP MW_self hS j 0 (MW_at hj) rfl hg11 rfl dX5_addOn_53 (fun H locs hP hS => ?_)
  obtain ⟨a12, ha12, h⟩ := lt_some h
  have hP : va_P D vwCl (MW cI cZ q (a12, (mRef M), (mSize M), (mSpot M), (mRN M), (mN M), (mActs M))) H := by have h9 := hP; rw [MW_set hj] at h9; rw [ha12]; exact h9
  refine lv_aload_n hx hb dX5_addOn_54 rfl (lv_at hl 1 rfl) ?_
  refine lv_bipush (v := 72) hx hb dX5_addOn_55 (by decide) ?_
  refine lv_iload hx hb dX5_addOn_57 (lv_at hl 0 rfl) ?_
  refine lv_iadd hx hb dX5_addOn_59 ?_
  refine lv_iload_n hx hb dX5_addOn_60 rfl (lv_at hl 4 rfl) ?_
  obtain ⟨hg13, h⟩ := gd_some h
  refine g_iast (f := (a12 j)) (k := ((72 + (((mA M) j) 96))).toNatClampNeg) hx hb hK hP MW_self hS j 0 (MW_at hj) rfl hg13 rfl dX5_addOn_61 (fun H locs hP hS => ?_)
  obtain ⟨a14, ha14, h⟩ := lt_some h
  have hP : va_P D vwCl (MW cI cZ q (a14, (mRef M), (mSize M), (mSpot M), (mRN M), (mN M), (mActs M))) H := by have h9 := hP; rw [MW_set hj] at h9; rw [ha14]; exact h9
  refine lv_aload_n hx hb dX5_addOn_62 rfl (lv_at hl 1 rfl) ?_
  refine lv_bipush (v := 84) hx hb dX5_addOn_63 (by decide) ?_
  refine lv_iload hx hb dX5_addOn_65 (lv_at hl 0 rfl) ?_
  refine lv_iadd hx hb dX5_addOn_67 ?_
  refine lv_iconst (v := 0) hx hb dX5_addOn_68 (by decide) ?_
  obtain ⟨hg15, h⟩ := gd_some h
  refine g_iast (f := (a14 j)) (k := ((84 + (((mA M) j) 96))).toNatClampNeg) hx hb hK hP MW_self hS j 0 (MW_at hj) rfl hg15 rfl dX5_addOn_69 (fun H locs hP hS => ?_)
  obtain ⟨a16, ha16, h⟩ := lt_some h
  have hP : va_P D vwCl (MW cI cZ q (a16, (mRef M), (mSize M), (mSpot M), (mRN M), (mN M), (mActs M))) H := by have h9 := hP; rw [MW_set hj] at h9; rw [ha16]; exact h9
  refine lv_aload_n hx hb dX5_addOn_70 rfl (lv_at hl 1 rfl) ?_
  refine lv_bipush (v := 96) hx hb dX5_addOn_71 (by decide) ?_
  refine lv_dup2_11 hx hb dX5_addOn_73 rfl rfl ?_
  refine g_iald (f := (a16 j)) (k := 96) hx hb hK hP j 0 (MW_at hj) rfl (vin_lit rfl) rfl dX5_addOn_74 ?_
  refine lv_iconst (v := 1) hx hb dX5_addOn_75 (by decide) ?_
  refine lv_iadd hx hb dX5_addOn_76 ?_
  refine g_iast (f := (a16 j)) (k := 96) hx hb hK hP MW_self hS j 0 (MW_at hj) rfl (vin_lit rfl) rfl dX5_addOn_77 (fun H locs hP hS => ?_)
  obtain ⟨a17, ha17, h⟩ := lt_some h
  have hP : va_P D vwCl (MW cI cZ q (a17, (mRef M), (mSize M), (mSpot M), (mRN M), (mN M), (mActs M))) H := by have h9 := hP; rw [MW_set hj] at h9; rw [ha17]; exact h9
  have h := Option.some.inj h
  subst h
  exact W.vret hx hb hr (fun t ht hW => ⟨⟨(), rfl, trivial, gh ht hP⟩, hS.F ht⟩) hS.2.2 dX5_addOn_78

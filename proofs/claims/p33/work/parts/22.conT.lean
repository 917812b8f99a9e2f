set_option maxHeartbeats 4000000 in
set_option maxRecDepth 100000 in
theorem kX3_isFull (l : Launch) (D : va_G) (cI cC cZ cQ cJ : ClassId) (q : Nat) (Z : SSt) {R : Int32} (h : fX3_isFull Z = some R) : Met l yX3_isFull wsX3_isFull ({ frames := 0, cells := 0, slots := 0, locals := 0 } : Room) (va_Pc [.ref q] (gB D (gTy cI cC cZ cQ cJ) (va_P D vwCl (SW cC q Z)))) (vp_Si (fun r => r = R)) 0 0 (fun _ => False) := by
  refine Met.ofW (cc := cX3_isFull) (maxL := 1) (ret := (some .boolean)) (by decide) rfl ?_
  intro p e s m args below meth c s₁ B hml hv
  obtain ⟨rfl, hP, hK⟩ := hv
  have hx := B.exec
  have hb := B.bytes
  have hr := B.returns
  have hts := atoms_spec (ws := wsX3_isFull) B.pre
  have hown : s.vm.findClass RX3 = some m.cls := findClass_of_methodNamed B.named
  have hlocks := B.notSynchronized
  have hinX3 : ∀ w ∈ wsX30, w ∈ wsX3_isFull := by decide +kernel
  have hf15 := hts (.fieldLink RX3 15 "GripInspector$Signs" "length" "I") (by decide +kernel)
  generalize hRM : (headSpec wsX3_isFull ({ frames := 0, cells := 0, slots := 0, locals := 0 } : Room)).room = RM
  replace hRM : ({ frames := 0, cells := 0, slots := 0, locals := 0 } : Room) = RM := hRM
  subst hRM
  have hl := lv_entry ([.ref q]) (n := 1) (Nat.le_of_ble_eq_true rfl)
  rw [lg_entry_eq]
  generalize (lg_sl ([.ref q]) ++ List.replicate (1 - (lg_sl ([.ref q])).length) Slot.unset).toArray = ls at hl ⊢
  have hl : lv_has ls 1 [(0, .ref q)] := hl
  unfold fX3_isFull at h
  refine lv_aload_n hx hb dX3_isFull_0 rfl (lv_at hl 0 rfl) ?_
  refine va_get (D := D) (ci := 3) (v := .int (sLen Z)) (C := RX3) (T := TX3) (N := 2) hx hb hts hinX3 hown hK hP 0 rfl rfl 1 (by decide) hf15 (fun _ h9 => h9) rfl dX3_isFull_1 ?_
  refine lv_bipush (v := 60) hx hb dX3_isFull_4 (by decide) ?_
  refine lv_icmp_lt (tgt := 13) hx hb dX3_isFull_6 (by decide) (fun c1 => ?_) (fun c1 => ?_)
  · replace h := (if_pos c1).symm.trans h
    refine lv_iconst (v := 0) hx hb dX3_isFull_13 (by decide) ?_
    have h := Option.some.inj h
    exact W.zret (v := 0) hx hb hr rfl (fun t ht hW => ⟨_, rfl, h, ht⟩) t_nil dX3_isFull_14
  · replace h := (if_neg c1).symm.trans h
    refine lv_iconst (v := 1) hx hb dX3_isFull_9 (by decide) ?_
    refine lv_goto (tgt := 14) hx hb dX3_isFull_10 (by decide) ?_
    have h := Option.some.inj h
    exact W.zret (v := 1) hx hb hr rfl (fun t ht hW => ⟨_, rfl, h, ht⟩) t_nil dX3_isFull_14
set_option maxHeartbeats 4000000 in
set_option maxRecDepth 100000 in
theorem kX3_put (l : Launch) (D : va_G) (cI cC cZ cQ cJ : ClassId) (q : Nat) (Z : SSt) (p0 : Int32) {R : SSt} (h : fX3_put Z p0 = some R) : Met l yX3_put wsX3_put ({ frames := 0, cells := 0, slots := 0, locals := 0 } : Room) (va_Pc [.ref q, .int p0] (gB D (gTy cI cC cZ cQ cJ) (va_P D vwCl (SW cC q Z)))) (va_Qv (fun _ : Unit => True) (fun _ t => va_P D vwCl (SW cC q R) t.heap) (fIv q 2)) 0 0 (fIv q 2) := by
  refine Met.ofW (cc := cX3_put) (maxL := 2) (ret := none) (by decide) rfl ?_
  intro p e s m args below meth c s₁ B hml hv
  obtain ⟨rfl, hP, hK⟩ := hv
  have hx := B.exec
  have hb := B.bytes
  have hr := B.returns
  have hts := atoms_spec (ws := wsX3_put) B.pre
  have hown : s.vm.findClass RX3 = some m.cls := findClass_of_methodNamed B.named
  have hlocks := B.notSynchronized
  have hinX3 : ∀ w ∈ wsX30, w ∈ wsX3_put := by decide +kernel
  have hf15 := hts (.fieldLink RX3 15 "GripInspector$Signs" "length" "I") (by decide +kernel)
  have hf9 := hts (.fieldLink RX3 9 "GripInspector$Signs" "row" "[C") (by decide +kernel)
  generalize hRM : (headSpec wsX3_put ({ frames := 0, cells := 0, slots := 0, locals := 0 } : Room)).room = RM
  replace hRM : ({ frames := 0, cells := 0, slots := 0, locals := 0 } : Room) = RM := hRM
  subst hRM
  have hl := lv_entry ([.ref q, .int p0]) (n := 2) (Nat.le_of_ble_eq_true rfl)
  rw [lg_entry_eq]
  generalize (lg_sl ([.ref q, .int p0]) ++ List.replicate (2 - (lg_sl ([.ref q, .int p0])).length) Slot.unset).toArray = ls at hl ⊢
  have hl : lv_has ls 2 [(0, .ref q), (1, .int p0)] := hl
  have hS : va_S (fIv q 2) s.heap s.heap [] := va_S.rf
  unfold fX3_put at h
  obtain ⟨H, hH⟩ : ∃ H, H = s.heap := ⟨_, rfl⟩
  obtain ⟨locs, hlz⟩ : ∃ z : List Loc, z = [] := ⟨_, rfl⟩
  have hP : va_P D vwCl (SW cC q Z) H := by rw [hH]; exact hP
  have hS : va_S (fIv q 2) s.heap H locs := by rw [hH, hlz]; exact hS
  refine gc_at hH hlz ?_
  refine lv_aload_n hx hb dX3_put_0 rfl (lv_at hl 0 rfl) ?_
  refine va_get (D := D) (ci := 3) (v := .int (sLen Z)) (C := RX3) (T := TX3) (N := 2) hx hb hts hinX3 hown hK hP 0 rfl rfl 1 (by decide) hf15 (fun _ h9 => h9) rfl dX3_put_1 ?_
  refine lv_if_lt (tgt := 16) hx hb dX3_put_4 (by decide) (fun c1 => ?_) (fun c1 => ?_)
  · replace h := (if_pos c1).symm.trans h
    have h := Option.some.inj h
    subst h
    exact W.vret hx hb hr (fun t ht hW => ⟨⟨(), rfl, trivial, gh ht hP⟩, hS.F ht⟩) hS.2.2 dX3_put_16
  · replace h := (if_neg c1).symm.trans h
    refine lv_aload_n hx hb dX3_put_7 rfl (lv_at hl 0 rfl) ?_
    refine va_get (D := D) (ci := 3) (v := .int (sLen Z)) (C := RX3) (T := TX3) (N := 2) hx hb hts hinX3 hown hK hP 0 rfl rfl 1 (by decide) hf15 (fun _ h9 => h9) rfl dX3_put_8 ?_
    refine lv_bipush (v := 60) hx hb dX3_put_11 (by decide) ?_
    refine lv_icmp_lt (tgt := 17) hx hb dX3_put_13 (by decide) (fun c2 => ?_) (fun c2 => ?_)
    · replace h := (if_pos c2).symm.trans h
      refine lv_aload_n hx hb dX3_put_17 rfl (lv_at hl 0 rfl) ?_
      refine va_get (D := D) (ci := 3) (v := .ref (q + 1)) (C := RX3) (T := TX3) (N := 2) hx hb hts hinX3 hown hK hP 0 rfl rfl 0 (by decide) hf9 (fun _ h9 => h9) rfl dX3_put_18 ?_
      refine lv_aload_n hx hb dX3_put_21 rfl (lv_at hl 0 rfl) ?_
      refine va_get (D := D) (ci := 3) (v := .int (sLen Z)) (C := RX3) (T := TX3) (N := 2) hx hb hts hinX3 hown hK hP 0 rfl rfl 1 (by decide) hf15 (fun _ h9 => h9) rfl dX3_put_22 ?_
      refine lv_iload_n hx hb dX3_put_25 rfl (lv_at hl 1 rfl) ?_
      obtain ⟨hg3, h⟩ := gd_some h
      refine g_cast (f := (sRow Z)) (k := ((sLen Z)).toNatClampNeg) hx hb hK hP SW_self hS 1 1 rfl rfl hg3 rfl dX3_put_26 (fun H locs hP hS => ?_)
      have hP : va_P D vwCl (SW cC q ((upd (sRow Z) ((sLen Z)).toNatClampNeg (vp_nar .char p0)), (sLen Z))) H := hP
      refine lv_aload_n hx hb dX3_put_27 rfl (lv_at hl 0 rfl) ?_
      refine lv_dup hx hb dX3_put_28 rfl ?_
      refine va_get (D := D) (ci := 3) (v := .int (sLen Z)) (C := RX3) (T := TX3) (N := 2) hx hb hts hinX3 hown hK hP 0 rfl rfl 1 (by decide) hf15 (fun _ h9 => h9) rfl dX3_put_29 ?_
      refine lv_iconst (v := 1) hx hb dX3_put_32 (by decide) ?_
      refine lv_iadd hx hb dX3_put_33 ?_
      refine va_put (D := D) (ci := 3) (v := .int ((sLen Z) + 1)) (ty := .int) (C := RX3) (T := TX3) (N := 2) hx hb hts hinX3 tyX3 tyX3_ok nmX3 hown hK hP SW_self hS 0 rfl rfl 1 (by decide) hf15 (fun _ h9 => h9) rfl (by decide +kernel) rfl rfl (Nat.le_of_ble_eq_true rfl) dX3_put_34 (fun H locs hP _ hS => ?_)
      have hP : va_P D vwCl (SW cC q ((upd (sRow Z) ((sLen Z)).toNatClampNeg (vp_nar .char p0)), ((sLen Z) + 1))) H := hP
      have h := Option.some.inj h
      subst h
      exact W.vret hx hb hr (fun t ht hW => ⟨⟨(), rfl, trivial, gh ht hP⟩, hS.F ht⟩) hS.2.2 dX3_put_37
    · replace h := (if_neg c2).symm.trans h
      have h := Option.some.inj h
      subst h
      exact W.vret hx hb hr (fun t ht hW => ⟨⟨(), rfl, trivial, gh ht hP⟩, hS.F ht⟩) hS.2.2 dX3_put_16
set_option maxHeartbeats 4000000 in
set_option maxRecDepth 100000 in
theorem kX3_putNumber (l : Launch) (D : va_G) (cI cC cZ cQ cJ : ClassId) (q : Nat) (Z : SSt) (p0 : Int32) {R : SSt} (h : fX3_putNumber Z p0 = some R) : Met l yX3_putNumber wsX3_putNumber ({ frames := 1, cells := 0, slots := 0, locals := 21 } : Room) (va_Pc [.ref q, .int p0] (gB D (gTy cI cC cZ cQ cJ) (va_P D vwCl (SW cC q Z)))) (va_Qv (fun _ : Unit => True) (fun _ t => va_P D vwCl (SW cC q R) t.heap) (fIv q 2)) 0 0 (fIv q 2) := by
  refine Met.ofW (cc := cX3_putNumber) (maxL := 2) (ret := none) (by decide) rfl ?_
  intro p e s m args below meth c s₁ B hml hv
  obtain ⟨rfl, hP, hK⟩ := hv
  have hx := B.exec
  have hb := B.bytes
  have hr := B.returns
  have hts := atoms_spec (ws := wsX3_putNumber) B.pre
  have hown : s.vm.findClass RX3 = some m.cls := findClass_of_methodNamed B.named
  have hlocks := B.notSynchronized
  generalize hRM : (headSpec wsX3_putNumber ({ frames := 1, cells := 0, slots := 0, locals := 21 } : Room)).room = RM
  replace hRM : ({ frames := 1, cells := 0, slots := 0, locals := 21 } : Room) = RM := hRM
  subst hRM
  have hl := lv_entry ([.ref q, .int p0]) (n := 2) (Nat.le_of_ble_eq_true rfl)
  rw [lg_entry_eq]
  generalize (lg_sl ([.ref q, .int p0]) ++ List.replicate (2 - (lg_sl ([.ref q, .int p0])).length) Slot.unset).toArray = ls at hl ⊢
  have hl : lv_has ls 2 [(0, .ref q), (1, .int p0)] := hl
  have hS : va_S (fIv q 2) s.heap s.heap [] := va_S.rf
  unfold fX3_putNumber at h
  obtain ⟨H, hH⟩ : ∃ H, H = s.heap := ⟨_, rfl⟩
  obtain ⟨locs, hlz⟩ : ∃ z : List Loc, z = [] := ⟨_, rfl⟩
  have hP : va_P D vwCl (SW cC q Z) H := by rw [hH]; exact hP
  have hS : va_S (fIv q 2) s.heap H locs := by rw [hH, hlz]; exact hS
  refine gc_at hH hlz ?_
  refine lv_iload_n hx hb dX3_putNumber_0 rfl (lv_at hl 1 rfl) ?_
  refine lv_bipush (v := 9) hx hb dX3_putNumber_1 (by decide) ?_
  refine lv_icmp_le (tgt := 18) hx hb dX3_putNumber_3 (by decide) (fun c1 => ?_) (fun c1 => ?_)
  · replace h := (if_pos c1).symm.trans h
    refine lv_aload_n hx hb dX3_putNumber_18 rfl (lv_at hl 0 rfl) ?_
    refine lv_bipush (v := 48) hx hb dX3_putNumber_19 (by decide) ?_
    refine lv_iload_n hx hb dX3_putNumber_21 rfl (lv_at hl 1 rfl) ?_
    refine lv_bipush (v := 10) hx hb dX3_putNumber_22 (by decide) ?_
    refine lv_irem hx hb dX3_putNumber_24 (by decide) ?_
    refine lv_iadd hx hb dX3_putNumber_25 ?_
    refine lv_i2c hx hb dX3_putNumber_26 rfl ?_
    obtain ⟨r27, hr27, h⟩ := bd_some h
    refine gc_wv (As := [.int ((((48 + (p0 - p0 / 10 * 10))).toUInt32 % 65536).toInt32)]) (rest := []) ⟨hx, hb, hml, hown, hts⟩ hK (kX3_put l D cI cC cZ cQ cJ q Z ((((48 + (p0 - p0 / 10 * 10))).toUInt32 % 65536).toInt32) hr27) (cwV 1 hts gX3_putNumber_X3_put rfl rfl rfl (by decide +kernel) ⟨Nat.le_of_ble_eq_true rfl, Nat.le_of_ble_eq_true rfl⟩) (va_recv hK hP (ci := 3) (q0 := 0) rfl rfl) hP hS (fun _ h => h) rfl hl.1 rfl (Nat.le_of_ble_eq_true rfl) ⟨Nat.zero_le _, Nat.zero_le _⟩ dX3_putNumber_27 (fun H locs hP hS _ _ => ?_)
    have h := Option.some.inj h
    subst h
    exact W.vret hx hb hr (fun t ht hW => ⟨⟨(), rfl, trivial, gh ht hP⟩, hS.F ht⟩) hS.2.2 dX3_putNumber_30
  · replace h := (if_neg c1).symm.trans h
    refine lv_aload_n hx hb dX3_putNumber_6 rfl (lv_at hl 0 rfl) ?_
    refine lv_bipush (v := 48) hx hb dX3_putNumber_7 (by decide) ?_
    refine lv_iload_n hx hb dX3_putNumber_9 rfl (lv_at hl 1 rfl) ?_
    refine lv_bipush (v := 10) hx hb dX3_putNumber_10 (by decide) ?_
    refine lv_idiv hx hb dX3_putNumber_12 (by decide) ?_
    refine lv_iadd hx hb dX3_putNumber_13 ?_
    refine lv_i2c hx hb dX3_putNumber_14 rfl ?_
    obtain ⟨r15, hr15, h⟩ := bd_some h
    refine gc_wv (As := [.int ((((48 + (p0 / 10))).toUInt32 % 65536).toInt32)]) (rest := []) ⟨hx, hb, hml, hown, hts⟩ hK (kX3_put l D cI cC cZ cQ cJ q Z ((((48 + (p0 / 10))).toUInt32 % 65536).toInt32) hr15) (cwV 1 hts gX3_putNumber_X3_put rfl rfl rfl (by decide +kernel) ⟨Nat.le_of_ble_eq_true rfl, Nat.le_of_ble_eq_true rfl⟩) (va_recv hK hP (ci := 3) (q0 := 0) rfl rfl) hP hS (fun _ h => h) rfl hl.1 rfl (Nat.le_of_ble_eq_true rfl) ⟨Nat.zero_le _, Nat.zero_le _⟩ dX3_putNumber_15 (fun H locs hP hS _ _ => ?_)
    refine lv_aload_n hx hb dX3_putNumber_18 rfl (lv_at hl 0 rfl) ?_
    refine lv_bipush (v := 48) hx hb dX3_putNumber_19 (by decide) ?_
    refine lv_iload_n hx hb dX3_putNumber_21 rfl (lv_at hl 1 rfl) ?_
    refine lv_bipush (v := 10) hx hb dX3_putNumber_22 (by decide) ?_
    refine lv_irem hx hb dX3_putNumber_24 (by decide) ?_
    refine lv_iadd hx hb dX3_putNumber_25 ?_
    refine lv_i2c hx hb dX3_putNumber_26 rfl ?_
    obtain ⟨r27, hr27, h⟩ := bd_some h
    refine gc_wv (As := [.int ((((48 + (p0 - p0 / 10 * 10))).toUInt32 % 65536).toInt32)]) (rest := []) ⟨hx, hb, hml, hown, hts⟩ hK (kX3_put l D cI cC cZ cQ cJ q r15 ((((48 + (p0 - p0 / 10 * 10))).toUInt32 % 65536).toInt32) hr27) (cwV 1 hts gX3_putNumber_X3_put rfl rfl rfl (by decide +kernel) ⟨Nat.le_of_ble_eq_true rfl, Nat.le_of_ble_eq_true rfl⟩) (va_recv hK hP (ci := 3) (q0 := 0) rfl rfl) hP hS (fun _ h => h) rfl hl.1 rfl (Nat.le_of_ble_eq_true rfl) ⟨Nat.zero_le _, Nat.zero_le _⟩ dX3_putNumber_27 (fun H locs hP hS _ _ => ?_)
    have h := Option.some.inj h
    subst h
    exact W.vret hx hb hr (fun t ht hW => ⟨⟨(), rfl, trivial, gh ht hP⟩, hS.F ht⟩) hS.2.2 dX3_putNumber_30
set_option maxHeartbeats 4000000 in
set_option maxRecDepth 100000 in
theorem kX3_at (l : Launch) (D : va_G) (cI cC cZ cQ cJ : ClassId) (q : Nat) (Z : SSt) (p0 : Int32) {R : Int32} (h : fX3_at Z p0 = some R) : Met l yX3_at wsX3_at ({ frames := 0, cells := 0, slots := 0, locals := 0 } : Room) (va_Pc [.ref q, .int p0] (gB D (gTy cI cC cZ cQ cJ) (va_P D vwCl (SW cC q Z)))) (vp_Si (fun r => r = R)) 0 0 (fun _ => False) := by
  refine Met.ofW (cc := cX3_at) (maxL := 2) (ret := (some .int)) (by decide) rfl ?_
  intro p e s m args below meth c s₁ B hml hv
  obtain ⟨rfl, hP, hK⟩ := hv
  have hx := B.exec
  have hb := B.bytes
  have hr := B.returns
  have hts := atoms_spec (ws := wsX3_at) B.pre
  have hown : s.vm.findClass RX3 = some m.cls := findClass_of_methodNamed B.named
  have hlocks := B.notSynchronized
  have hinX3 : ∀ w ∈ wsX30, w ∈ wsX3_at := by decide +kernel
  have hf15 := hts (.fieldLink RX3 15 "GripInspector$Signs" "length" "I") (by decide +kernel)
  have hf9 := hts (.fieldLink RX3 9 "GripInspector$Signs" "row" "[C") (by decide +kernel)
  generalize hRM : (headSpec wsX3_at ({ frames := 0, cells := 0, slots := 0, locals := 0 } : Room)).room = RM
  replace hRM : ({ frames := 0, cells := 0, slots := 0, locals := 0 } : Room) = RM := hRM
  subst hRM
  have hl := lv_entry ([.ref q, .int p0]) (n := 2) (Nat.le_of_ble_eq_true rfl)
  rw [lg_entry_eq]
  generalize (lg_sl ([.ref q, .int p0]) ++ List.replicate (2 - (lg_sl ([.ref q, .int p0])).length) Slot.unset).toArray = ls at hl ⊢
  have hl : lv_has ls 2 [(0, .ref q), (1, .int p0)] := hl
  unfold fX3_at at h
  refine lv_iload_n hx hb dX3_at_0 rfl (lv_at hl 1 rfl) ?_
  refine lv_if_lt (tgt := 18) hx hb dX3_at_1 (by decide) (fun c1 => ?_) (fun c1 => ?_)
  · replace h := (if_pos c1).symm.trans h
    refine lv_bipush (v := (-9)) hx hb dX3_at_18 (by decide) ?_
    have h := Option.some.inj h
    exact W.iret (v := (-9)) hx hb hr (fun t ht hW => ⟨_, rfl, h, ht⟩) t_nil dX3_at_20
  · replace h := (if_neg c1).symm.trans h
    refine lv_iload_n hx hb dX3_at_4 rfl (lv_at hl 1 rfl) ?_
    refine lv_aload_n hx hb dX3_at_5 rfl (lv_at hl 0 rfl) ?_
    refine va_get (D := D) (ci := 3) (v := .int (sLen Z)) (C := RX3) (T := TX3) (N := 2) hx hb hts hinX3 hown hK hP 0 rfl rfl 1 (by decide) hf15 (fun _ h9 => h9) rfl dX3_at_6 ?_
    refine lv_icmp_ge (tgt := 18) hx hb dX3_at_9 (by decide) (fun c2 => ?_) (fun c2 => ?_)
    · replace h := (if_pos c2).symm.trans h
      refine lv_bipush (v := (-9)) hx hb dX3_at_18 (by decide) ?_
      have h := Option.some.inj h
      exact W.iret (v := (-9)) hx hb hr (fun t ht hW => ⟨_, rfl, h, ht⟩) t_nil dX3_at_20
    · replace h := (if_neg c2).symm.trans h
      refine lv_iload_n hx hb dX3_at_12 rfl (lv_at hl 1 rfl) ?_
      refine lv_bipush (v := 60) hx hb dX3_at_13 (by decide) ?_
      refine lv_icmp_lt (tgt := 21) hx hb dX3_at_15 (by decide) (fun c3 => ?_) (fun c3 => ?_)
      · replace h := (if_pos c3).symm.trans h
        refine lv_aload_n hx hb dX3_at_21 rfl (lv_at hl 0 rfl) ?_
        refine va_get (D := D) (ci := 3) (v := .ref (q + 1)) (C := RX3) (T := TX3) (N := 2) hx hb hts hinX3 hown hK hP 0 rfl rfl 0 (by decide) hf9 (fun _ h9 => h9) rfl dX3_at_22 ?_
        refine lv_iload_n hx hb dX3_at_25 rfl (lv_at hl 1 rfl) ?_
        obtain ⟨hg4, h⟩ := gd_some h
        refine g_cald (f := (sRow Z)) (k := p0.toNatClampNeg) hx hb hK hP 1 1 rfl rfl hg4 rfl dX3_at_26 ?_
        have h := Option.some.inj h
        exact W.iret (v := ((sRow Z) p0.toNatClampNeg)) hx hb hr (fun t ht hW => ⟨_, rfl, h, ht⟩) t_nil dX3_at_27
      · replace h := (if_neg c3).symm.trans h
        refine lv_bipush (v := (-9)) hx hb dX3_at_18 (by decide) ?_
        have h := Option.some.inj h
        exact W.iret (v := (-9)) hx hb hr (fun t ht hW => ⟨_, rfl, h, ht⟩) t_nil dX3_at_20
set_option maxHeartbeats 4000000 in
set_option maxRecDepth 100000 in
theorem kX3_clear (l : Launch) (D : va_G) (cI cC cZ cQ cJ : ClassId) (q : Nat) (Z : SSt) {R : SSt} (h : fX3_clear Z = some R) : Met l yX3_clear wsX3_clear ({ frames := 0, cells := 0, slots := 0, locals := 0 } : Room) (va_Pc [.ref q] (gB D (gTy cI cC cZ cQ cJ) (va_P D vwCl (SW cC q Z)))) (va_Qv (fun _ : Unit => True) (fun _ t => va_P D vwCl (SW cC q R) t.heap) (fIv q 2)) 0 0 (fIv q 2) := by
  refine Met.ofW (cc := cX3_clear) (maxL := 1) (ret := none) (by decide) rfl ?_
  intro p e s m args below meth c s₁ B hml hv
  obtain ⟨rfl, hP, hK⟩ := hv
  have hx := B.exec
  have hb := B.bytes
  have hr := B.returns
  have hts := atoms_spec (ws := wsX3_clear) B.pre
  have hown : s.vm.findClass RX3 = some m.cls := findClass_of_methodNamed B.named
  have hlocks := B.notSynchronized
  have hinX3 : ∀ w ∈ wsX30, w ∈ wsX3_clear := by decide +kernel
  have hf15 := hts (.fieldLink RX3 15 "GripInspector$Signs" "length" "I") (by decide +kernel)
  generalize hRM : (headSpec wsX3_clear ({ frames := 0, cells := 0, slots := 0, locals := 0 } : Room)).room = RM
  replace hRM : ({ frames := 0, cells := 0, slots := 0, locals := 0 } : Room) = RM := hRM
  subst hRM
  have hl := lv_entry ([.ref q]) (n := 1) (Nat.le_of_ble_eq_true rfl)
  rw [lg_entry_eq]
  generalize (lg_sl ([.ref q]) ++ List.replicate (1 - (lg_sl ([.ref q])).length) Slot.unset).toArray = ls at hl ⊢
  have hl : lv_has ls 1 [(0, .ref q)] := hl
  have hS : va_S (fIv q 2) s.heap s.heap [] := va_S.rf
  unfold fX3_clear at h
  obtain ⟨H, hH⟩ : ∃ H, H = s.heap := ⟨_, rfl⟩
  obtain ⟨locs, hlz⟩ : ∃ z : List Loc, z = [] := ⟨_, rfl⟩
  have hP : va_P D vwCl (SW cC q Z) H := by rw [hH]; exact hP
  have hS : va_S (fIv q 2) s.heap H locs := by rw [hH, hlz]; exact hS
  refine gc_at hH hlz ?_
  refine lv_aload_n hx hb dX3_clear_0 rfl (lv_at hl 0 rfl) ?_
  refine lv_iconst (v := 0) hx hb dX3_clear_1 (by decide) ?_
  refine va_put (D := D) (ci := 3) (v := .int 0) (ty := .int) (C := RX3) (T := TX3) (N := 2) hx hb hts hinX3 tyX3 tyX3_ok nmX3 hown hK hP SW_self hS 0 rfl rfl 1 (by decide) hf15 (fun _ h9 => h9) rfl (by decide +kernel) rfl rfl (Nat.le_of_ble_eq_true rfl) dX3_clear_2 (fun H locs hP _ hS => ?_)
  have hP : va_P D vwCl (SW cC q ((sRow Z), 0)) H := hP
  have h := Option.some.inj h
  subst h
  exact W.vret hx hb hr (fun t ht hW => ⟨⟨(), rfl, trivial, gh ht hP⟩, hS.F ht⟩) hS.2.2 dX3_clear_5
set_option maxHeartbeats 4000000 in
set_option maxRecDepth 100000 in
theorem kX0_describeGrip (l : Launch) (D : va_G) (cI cC cZ cQ cJ : ClassId) (q : Nat) (z : Nat) (X : LSt × SSt) (p0 : Int32) (hd : q + 10 ≤ z ∨ z + 2 ≤ q) {R : (LSt × SSt)} (h : fX0_describeGrip X p0 = some R) : Met l yX0_describeGrip wsX0_describeGrip ({ frames := 2, cells := 0, slots := 0, locals := 42 } : Room) (va_Pc [.ref q, .int p0, .ref z] (gB D (gTy cI cC cZ cQ cJ) (va_P D vwCl (LGW cI cC q z X)))) (va_Qv (fun _ : Unit => True) (fun _ t => va_P D vwCl (LGW cI cC q z R) t.heap) (gOr (fIv q 10) (fIv z 2))) 0 0 (gOr (fIv q 10) (fIv z 2)) := by
  refine Met.ofW (cc := cX0_describeGrip) (maxL := 3) (ret := none) (by decide) rfl ?_
  intro p e s m args below meth c s₁ B hml hv
  obtain ⟨rfl, hP, hK⟩ := hv
  have hx := B.exec
  have hb := B.bytes
  have hr := B.returns
  have hts := atoms_spec (ws := wsX0_describeGrip) B.pre
  have hown : s.vm.findClass RX0 = some m.cls := findClass_of_methodNamed B.named
  have hlocks := B.notSynchronized
  have hinX3 : ∀ w ∈ wsX30, w ∈ wsX0_describeGrip := by decide +kernel
  have hinX0 : ∀ w ∈ wsX00, w ∈ wsX0_describeGrip := by decide +kernel
  have hf130 := hts (.fieldLink RX0 130 "GripInspector$Signs" "length" "I") (by decide +kernel)
  have hf27 := hts (.fieldLink RX0 27 "GripInspector$Lift" "place" "[I") (by decide +kernel)
  have hf30 := hts (.fieldLink RX0 30 "GripInspector$Lift" "spot" "[I") (by decide +kernel)
  have hf33 := hts (.fieldLink RX0 33 "GripInspector$Lift" "stepsLeft" "[I") (by decide +kernel)
  generalize hRM : (headSpec wsX0_describeGrip ({ frames := 2, cells := 0, slots := 0, locals := 42 } : Room)).room = RM
  replace hRM : ({ frames := 2, cells := 0, slots := 0, locals := 42 } : Room) = RM := hRM
  subst hRM
  have hl := lv_entry ([.ref q, .int p0, .ref z]) (n := 3) (Nat.le_of_ble_eq_true rfl)
  rw [lg_entry_eq]
  generalize (lg_sl ([.ref q, .int p0, .ref z]) ++ List.replicate (3 - (lg_sl ([.ref q, .int p0, .ref z])).length) Slot.unset).toArray = ls at hl ⊢
  have hl : lv_has ls 3 [(0, .ref q), (1, .int p0), (2, .ref z)] := hl
  have hS : va_S (gOr (fIv q 10) (fIv z 2)) s.heap s.heap [] := va_S.rf
  unfold fX0_describeGrip at h
  obtain ⟨H, hH⟩ : ∃ H, H = s.heap := ⟨_, rfl⟩
  obtain ⟨locs, hlz⟩ : ∃ z : List Loc, z = [] := ⟨_, rfl⟩
  have hP : va_P D vwCl (LGW cI cC q z X) H := by rw [hH]; exact hP
  have hS : va_S (gOr (fIv q 10) (fIv z 2)) s.heap H locs := by rw [hH, hlz]; exact hS
  refine gc_at hH hlz ?_
  refine lv_aload_n hx hb dX0_describeGrip_0 rfl (lv_at hl 2 rfl) ?_
  refine va_get (D := D) (ci := 3) (v := .int (sLen (hZ X))) (C := RX3) (T := TX3) (N := 2) hx hb hts hinX3 hown hK hP 10 rfl rfl 1 (by decide) hf130 (fun _ h9 => h9) rfl dX0_describeGrip_1 ?_
  refine lv_if_le (tgt := 13) hx hb dX0_describeGrip_4 (by decide) (fun c1 => ?_) (fun c1 => ?_)
  · replace h := (if_pos c1).symm.trans h
    refine lv_aload_n hx hb dX0_describeGrip_13 rfl (lv_at hl 2 rfl) ?_
    refine lv_bipush (v := 97) hx hb dX0_describeGrip_14 (by decide) ?_
    refine lv_iload_n hx hb dX0_describeGrip_16 rfl (lv_at hl 1 rfl) ?_
    refine lv_iadd hx hb dX0_describeGrip_17 ?_
    refine lv_i2c hx hb dX0_describeGrip_18 rfl ?_
    obtain ⟨r19, hr19, h⟩ := bd_some h
    refine gc_wv (As := [.int ((((97 + p0)).toUInt32 % 65536).toInt32)]) (rest := []) ⟨hx, hb, hml, hown, hts⟩ hK (kX3_put l D cI cC cZ cQ cJ z (hZ X) ((((97 + p0)).toUInt32 % 65536).toInt32) hr19) (cwV 1 hts gX0_describeGrip_X3_put rfl rfl rfl (by decide +kernel) ⟨Nat.le_of_ble_eq_true rfl, Nat.le_of_ble_eq_true rfl⟩) (va_recv hK (LGW_S (X := X) hP) (ci := 3) (q0 := 0) rfl rfl) (LGW_S (X := X) hP) hS LGW_putS_in rfl hl.1 rfl (Nat.le_of_ble_eq_true rfl) ⟨Nat.zero_le _, Nat.zero_le _⟩ dX0_describeGrip_19 (fun H1 locs hP1 hS _ hk1 => ?_)
    have hP : va_P D vwCl (LGW cI cC q z ((hL X), r19)) H1 := LGW_putS hd (X := X) hP hP1 hk1
    generalize H1 = H at hP hS ⊢
    refine lv_aload_n hx hb dX0_describeGrip_22 rfl (lv_at hl 0 rfl) ?_
    refine va_get (D := D) (ci := 0) (v := .ref (q + 6)) (C := RX0) (T := TX0) (N := 13) hx hb hts hinX0 hown hK hP 0 rfl rfl 5 (by decide) hf27 (fun _ h9 => h9) rfl dX0_describeGrip_23 ?_
    refine lv_iload_n hx hb dX0_describeGrip_26 rfl (lv_at hl 1 rfl) ?_
    obtain ⟨hg2, h⟩ := gd_some h
    refine g_iald (f := (lPl (hL X))) (k := p0.toNatClampNeg) hx hb hK hP 6 0 rfl rfl hg2 rfl dX0_describeGrip_27 ?_
    by_cases c3 : ((lPl (hL X)) p0.toNatClampNeg) = 0
    · replace h := (if_pos c3).symm.trans h
      refine lv_tableIn (off := 28) (tgt := 56) hx hb dX0_describeGrip_28 (by rw [c3]; decide) (by rw [c3]; decide) (by rw [c3]; rfl) (by decide) ?_
      refine lv_aload_n hx hb dX0_describeGrip_56 rfl (lv_at hl 2 rfl) ?_
      refine lv_bipush (v := 64) hx hb dX0_describeGrip_57 (by decide) ?_
      obtain ⟨r59, hr59, h⟩ := bd_some h
      refine gc_wv (As := [.int 64]) (rest := []) ⟨hx, hb, hml, hown, hts⟩ hK (kX3_put l D cI cC cZ cQ cJ z r19 64 hr59) (cwV 1 hts gX0_describeGrip_X3_put rfl rfl rfl (by decide +kernel) ⟨Nat.le_of_ble_eq_true rfl, Nat.le_of_ble_eq_true rfl⟩) (va_recv hK (LGW_S (X := ((hL X), r19)) hP) (ci := 3) (q0 := 0) rfl rfl) (LGW_S (X := ((hL X), r19)) hP) hS LGW_putS_in rfl hl.1 rfl (Nat.le_of_ble_eq_true rfl) ⟨Nat.zero_le _, Nat.zero_le _⟩ dX0_describeGrip_59 (fun H1 locs hP1 hS _ hk1 => ?_)
      have hP : va_P D vwCl (LGW cI cC q z ((hL X), r59)) H1 := LGW_putS hd (X := ((hL X), r19)) hP hP1 hk1
      generalize H1 = H at hP hS ⊢
      refine lv_aload_n hx hb dX0_describeGrip_62 rfl (lv_at hl 2 rfl) ?_
      refine lv_aload_n hx hb dX0_describeGrip_63 rfl (lv_at hl 0 rfl) ?_
      refine va_get (D := D) (ci := 0) (v := .ref (q + 7)) (C := RX0) (T := TX0) (N := 13) hx hb hts hinX0 hown hK hP 0 rfl rfl 6 (by decide) hf30 (fun _ h9 => h9) rfl dX0_describeGrip_64 ?_
      refine lv_iload_n hx hb dX0_describeGrip_67 rfl (lv_at hl 1 rfl) ?_
      refine g_iald (f := (lSp (hL X))) (k := p0.toNatClampNeg) hx hb hK hP 7 0 rfl rfl hg2 rfl dX0_describeGrip_68 ?_
      obtain ⟨r69, hr69, h⟩ := bd_some h
      refine gc_wv (As := [.int ((lSp (hL X)) p0.toNatClampNeg)]) (rest := []) ⟨hx, hb, hml, hown, hts⟩ hK (kX3_putNumber l D cI cC cZ cQ cJ z r59 ((lSp (hL X)) p0.toNatClampNeg) hr69) (cwV 1 hts gX0_describeGrip_X3_putNumber rfl rfl rfl (by decide +kernel) ⟨Nat.le_of_ble_eq_true rfl, Nat.le_of_ble_eq_true rfl⟩) (va_recv hK (LGW_S (X := ((hL X), r59)) hP) (ci := 3) (q0 := 0) rfl rfl) (LGW_S (X := ((hL X), r59)) hP) hS LGW_putS_in rfl hl.1 rfl (Nat.le_of_ble_eq_true rfl) ⟨Nat.zero_le _, Nat.zero_le _⟩ dX0_describeGrip_69 (fun H1 locs hP1 hS _ hk1 => ?_)
      have hP : va_P D vwCl (LGW cI cC q z ((hL X), r69)) H1 := LGW_putS hd (X := ((hL X), r59)) hP hP1 hk1
      generalize H1 = H at hP hS ⊢
      refine lv_goto (tgt := 109) hx hb dX0_describeGrip_72 (by decide) ?_
      have h := Option.some.inj h
      subst h
      exact W.vret hx hb hr (fun t ht hW => ⟨⟨(), rfl, trivial, gh ht hP⟩, hS.F ht⟩) hS.2.2 dX0_describeGrip_109
    · replace h := (if_neg c3).symm.trans h
      by_cases c4 : ((lPl (hL X)) p0.toNatClampNeg) = 1
      · replace h := (if_pos c4).symm.trans h
        refine lv_tableIn (off := 47) (tgt := 75) hx hb dX0_describeGrip_28 (by rw [c4]; decide) (by rw [c4]; decide) (by rw [c4]; rfl) (by decide) ?_
        refine lv_aload_n hx hb dX0_describeGrip_75 rfl (lv_at hl 2 rfl) ?_
        refine lv_bipush (v := 103) hx hb dX0_describeGrip_76 (by decide) ?_
        obtain ⟨r78, hr78, h⟩ := bd_some h
        refine gc_wv (As := [.int 103]) (rest := []) ⟨hx, hb, hml, hown, hts⟩ hK (kX3_put l D cI cC cZ cQ cJ z r19 103 hr78) (cwV 1 hts gX0_describeGrip_X3_put rfl rfl rfl (by decide +kernel) ⟨Nat.le_of_ble_eq_true rfl, Nat.le_of_ble_eq_true rfl⟩) (va_recv hK (LGW_S (X := ((hL X), r19)) hP) (ci := 3) (q0 := 0) rfl rfl) (LGW_S (X := ((hL X), r19)) hP) hS LGW_putS_in rfl hl.1 rfl (Nat.le_of_ble_eq_true rfl) ⟨Nat.zero_le _, Nat.zero_le _⟩ dX0_describeGrip_78 (fun H1 locs hP1 hS _ hk1 => ?_)
        have hP : va_P D vwCl (LGW cI cC q z ((hL X), r78)) H1 := LGW_putS hd (X := ((hL X), r19)) hP hP1 hk1
        generalize H1 = H at hP hS ⊢
        refine lv_goto (tgt := 109) hx hb dX0_describeGrip_81 (by decide) ?_
        have h := Option.some.inj h
        subst h
        exact W.vret hx hb hr (fun t ht hW => ⟨⟨(), rfl, trivial, gh ht hP⟩, hS.F ht⟩) hS.2.2 dX0_describeGrip_109
      · replace h := (if_neg c4).symm.trans h
        by_cases c5 : ((lPl (hL X)) p0.toNatClampNeg) = 2
        · replace h := (if_pos c5).symm.trans h
          refine lv_tableIn (off := 56) (tgt := 84) hx hb dX0_describeGrip_28 (by rw [c5]; decide) (by rw [c5]; decide) (by rw [c5]; rfl) (by decide) ?_
          refine lv_aload_n hx hb dX0_describeGrip_84 rfl (lv_at hl 2 rfl) ?_
          refine lv_bipush (v := 119) hx hb dX0_describeGrip_85 (by decide) ?_
          obtain ⟨r87, hr87, h⟩ := bd_some h
          refine gc_wv (As := [.int 119]) (rest := []) ⟨hx, hb, hml, hown, hts⟩ hK (kX3_put l D cI cC cZ cQ cJ z r19 119 hr87) (cwV 1 hts gX0_describeGrip_X3_put rfl rfl rfl (by decide +kernel) ⟨Nat.le_of_ble_eq_true rfl, Nat.le_of_ble_eq_true rfl⟩) (va_recv hK (LGW_S (X := ((hL X), r19)) hP) (ci := 3) (q0 := 0) rfl rfl) (LGW_S (X := ((hL X), r19)) hP) hS LGW_putS_in rfl hl.1 rfl (Nat.le_of_ble_eq_true rfl) ⟨Nat.zero_le _, Nat.zero_le _⟩ dX0_describeGrip_87 (fun H1 locs hP1 hS _ hk1 => ?_)
          have hP : va_P D vwCl (LGW cI cC q z ((hL X), r87)) H1 := LGW_putS hd (X := ((hL X), r19)) hP hP1 hk1
          generalize H1 = H at hP hS ⊢
          refine lv_aload_n hx hb dX0_describeGrip_90 rfl (lv_at hl 2 rfl) ?_
          refine lv_aload_n hx hb dX0_describeGrip_91 rfl (lv_at hl 0 rfl) ?_
          refine va_get (D := D) (ci := 0) (v := .ref (q + 8)) (C := RX0) (T := TX0) (N := 13) hx hb hts hinX0 hown hK hP 0 rfl rfl 7 (by decide) hf33 (fun _ h9 => h9) rfl dX0_describeGrip_92 ?_
          refine lv_iload_n hx hb dX0_describeGrip_95 rfl (lv_at hl 1 rfl) ?_
          refine g_iald (f := (lSt (hL X))) (k := p0.toNatClampNeg) hx hb hK hP 8 0 rfl rfl hg2 rfl dX0_describeGrip_96 ?_
          obtain ⟨r97, hr97, h⟩ := bd_some h
          refine gc_wv (As := [.int ((lSt (hL X)) p0.toNatClampNeg)]) (rest := []) ⟨hx, hb, hml, hown, hts⟩ hK (kX3_putNumber l D cI cC cZ cQ cJ z r87 ((lSt (hL X)) p0.toNatClampNeg) hr97) (cwV 1 hts gX0_describeGrip_X3_putNumber rfl rfl rfl (by decide +kernel) ⟨Nat.le_of_ble_eq_true rfl, Nat.le_of_ble_eq_true rfl⟩) (va_recv hK (LGW_S (X := ((hL X), r87)) hP) (ci := 3) (q0 := 0) rfl rfl) (LGW_S (X := ((hL X), r87)) hP) hS LGW_putS_in rfl hl.1 rfl (Nat.le_of_ble_eq_true rfl) ⟨Nat.zero_le _, Nat.zero_le _⟩ dX0_describeGrip_97 (fun H1 locs hP1 hS _ hk1 => ?_)
          have hP : va_P D vwCl (LGW cI cC q z ((hL X), r97)) H1 := LGW_putS hd (X := ((hL X), r87)) hP hP1 hk1
          generalize H1 = H at hP hS ⊢
          refine lv_goto (tgt := 109) hx hb dX0_describeGrip_100 (by decide) ?_
          have h := Option.some.inj h
          subst h
          exact W.vret hx hb hr (fun t ht hW => ⟨⟨(), rfl, trivial, gh ht hP⟩, hS.F ht⟩) hS.2.2 dX0_describeGrip_109
        · replace h := (if_neg c5).symm.trans h
          refine lv_tableOut (tgt := 103) hx hb dX0_describeGrip_28 (gsw_out 0 2 (x := ((lPl (hL X)) p0.toNatClampNeg)) ?_) (by decide) ?_
          · intro k h1 h2 hk
            rcases (show k = 0 ∨ k = 1 ∨ k = 2 by omega) with rfl | rfl | rfl
            · exact lv_neT c3 (by decide) hk
            · exact lv_neT c4 (by decide) hk
            · exact lv_neT c5 (by decide) hk
          · refine lv_aload_n hx hb dX0_describeGrip_103 rfl (lv_at hl 2 rfl) ?_
            refine lv_bipush (v := 120) hx hb dX0_describeGrip_104 (by decide) ?_
            obtain ⟨r106, hr106, h⟩ := bd_some h
            refine gc_wv (As := [.int 120]) (rest := []) ⟨hx, hb, hml, hown, hts⟩ hK (kX3_put l D cI cC cZ cQ cJ z r19 120 hr106) (cwV 1 hts gX0_describeGrip_X3_put rfl rfl rfl (by decide +kernel) ⟨Nat.le_of_ble_eq_true rfl, Nat.le_of_ble_eq_true rfl⟩) (va_recv hK (LGW_S (X := ((hL X), r19)) hP) (ci := 3) (q0 := 0) rfl rfl) (LGW_S (X := ((hL X), r19)) hP) hS LGW_putS_in rfl hl.1 rfl (Nat.le_of_ble_eq_true rfl) ⟨Nat.zero_le _, Nat.zero_le _⟩ dX0_describeGrip_106 (fun H1 locs hP1 hS _ hk1 => ?_)
            have hP : va_P D vwCl (LGW cI cC q z ((hL X), r106)) H1 := LGW_putS hd (X := ((hL X), r19)) hP hP1 hk1
            generalize H1 = H at hP hS ⊢
            have h := Option.some.inj h
            subst h
            exact W.vret hx hb hr (fun t ht hW => ⟨⟨(), rfl, trivial, gh ht hP⟩, hS.F ht⟩) hS.2.2 dX0_describeGrip_109
  · replace h := (if_neg c1).symm.trans h
    refine lv_aload_n hx hb dX0_describeGrip_7 rfl (lv_at hl 2 rfl) ?_
    refine lv_bipush (v := 32) hx hb dX0_describeGrip_8 (by decide) ?_
    obtain ⟨r10, hr10, h⟩ := bd_some h
    refine gc_wv (As := [.int 32]) (rest := []) ⟨hx, hb, hml, hown, hts⟩ hK (kX3_put l D cI cC cZ cQ cJ z (hZ X) 32 hr10) (cwV 1 hts gX0_describeGrip_X3_put rfl rfl rfl (by decide +kernel) ⟨Nat.le_of_ble_eq_true rfl, Nat.le_of_ble_eq_true rfl⟩) (va_recv hK (LGW_S (X := X) hP) (ci := 3) (q0 := 0) rfl rfl) (LGW_S (X := X) hP) hS LGW_putS_in rfl hl.1 rfl (Nat.le_of_ble_eq_true rfl) ⟨Nat.zero_le _, Nat.zero_le _⟩ dX0_describeGrip_10 (fun H1 locs hP1 hS _ hk1 => ?_)
    have hP : va_P D vwCl (LGW cI cC q z ((hL X), r10)) H1 := LGW_putS hd (X := X) hP hP1 hk1
    generalize H1 = H at hP hS ⊢
    refine lv_aload_n hx hb dX0_describeGrip_13 rfl (lv_at hl 2 rfl) ?_
    refine lv_bipush (v := 97) hx hb dX0_describeGrip_14 (by decide) ?_
    refine lv_iload_n hx hb dX0_describeGrip_16 rfl (lv_at hl 1 rfl) ?_
    refine lv_iadd hx hb dX0_describeGrip_17 ?_
    refine lv_i2c hx hb dX0_describeGrip_18 rfl ?_
    obtain ⟨r19, hr19, h⟩ := bd_some h
    refine gc_wv (As := [.int ((((97 + p0)).toUInt32 % 65536).toInt32)]) (rest := []) ⟨hx, hb, hml, hown, hts⟩ hK (kX3_put l D cI cC cZ cQ cJ z r10 ((((97 + p0)).toUInt32 % 65536).toInt32) hr19) (cwV 1 hts gX0_describeGrip_X3_put rfl rfl rfl (by decide +kernel) ⟨Nat.le_of_ble_eq_true rfl, Nat.le_of_ble_eq_true rfl⟩) (va_recv hK (LGW_S (X := ((hL X), r10)) hP) (ci := 3) (q0 := 0) rfl rfl) (LGW_S (X := ((hL X), r10)) hP) hS LGW_putS_in rfl hl.1 rfl (Nat.le_of_ble_eq_true rfl) ⟨Nat.zero_le _, Nat.zero_le _⟩ dX0_describeGrip_19 (fun H1 locs hP1 hS _ hk1 => ?_)
    have hP : va_P D vwCl (LGW cI cC q z ((hL X), r19)) H1 := LGW_putS hd (X := ((hL X), r10)) hP hP1 hk1
    generalize H1 = H at hP hS ⊢
    refine lv_aload_n hx hb dX0_describeGrip_22 rfl (lv_at hl 0 rfl) ?_
    refine va_get (D := D) (ci := 0) (v := .ref (q + 6)) (C := RX0) (T := TX0) (N := 13) hx hb hts hinX0 hown hK hP 0 rfl rfl 5 (by decide) hf27 (fun _ h9 => h9) rfl dX0_describeGrip_23 ?_
    refine lv_iload_n hx hb dX0_describeGrip_26 rfl (lv_at hl 1 rfl) ?_
    obtain ⟨hg6, h⟩ := gd_some h
    refine g_iald (f := (lPl (hL X))) (k := p0.toNatClampNeg) hx hb hK hP 6 0 rfl rfl hg6 rfl dX0_describeGrip_27 ?_
    by_cases c7 : ((lPl (hL X)) p0.toNatClampNeg) = 0
    · replace h := (if_pos c7).symm.trans h
      refine lv_tableIn (off := 28) (tgt := 56) hx hb dX0_describeGrip_28 (by rw [c7]; decide) (by rw [c7]; decide) (by rw [c7]; rfl) (by decide) ?_
      refine lv_aload_n hx hb dX0_describeGrip_56 rfl (lv_at hl 2 rfl) ?_
      refine lv_bipush (v := 64) hx hb dX0_describeGrip_57 (by decide) ?_
      obtain ⟨r59, hr59, h⟩ := bd_some h
      refine gc_wv (As := [.int 64]) (rest := []) ⟨hx, hb, hml, hown, hts⟩ hK (kX3_put l D cI cC cZ cQ cJ z r19 64 hr59) (cwV 1 hts gX0_describeGrip_X3_put rfl rfl rfl (by decide +kernel) ⟨Nat.le_of_ble_eq_true rfl, Nat.le_of_ble_eq_true rfl⟩) (va_recv hK (LGW_S (X := ((hL X), r19)) hP) (ci := 3) (q0 := 0) rfl rfl) (LGW_S (X := ((hL X), r19)) hP) hS LGW_putS_in rfl hl.1 rfl (Nat.le_of_ble_eq_true rfl) ⟨Nat.zero_le _, Nat.zero_le _⟩ dX0_describeGrip_59 (fun H1 locs hP1 hS _ hk1 => ?_)
      have hP : va_P D vwCl (LGW cI cC q z ((hL X), r59)) H1 := LGW_putS hd (X := ((hL X), r19)) hP hP1 hk1
      generalize H1 = H at hP hS ⊢
      refine lv_aload_n hx hb dX0_describeGrip_62 rfl (lv_at hl 2 rfl) ?_
      refine lv_aload_n hx hb dX0_describeGrip_63 rfl (lv_at hl 0 rfl) ?_
      refine va_get (D := D) (ci := 0) (v := .ref (q + 7)) (C := RX0) (T := TX0) (N := 13) hx hb hts hinX0 hown hK hP 0 rfl rfl 6 (by decide) hf30 (fun _ h9 => h9) rfl dX0_describeGrip_64 ?_
      refine lv_iload_n hx hb dX0_describeGrip_67 rfl (lv_at hl 1 rfl) ?_
      refine g_iald (f := (lSp (hL X))) (k := p0.toNatClampNeg) hx hb hK hP 7 0 rfl rfl hg6 rfl dX0_describeGrip_68 ?_
      obtain ⟨r69, hr69, h⟩ := bd_some h
      refine gc_wv (As := [.int ((lSp (hL X)) p0.toNatClampNeg)]) (rest := []) ⟨hx, hb, hml, hown, hts⟩ hK (kX3_putNumber l D cI cC cZ cQ cJ z r59 ((lSp (hL X)) p0.toNatClampNeg) hr69) (cwV 1 hts gX0_describeGrip_X3_putNumber rfl rfl rfl (by decide +kernel) ⟨Nat.le_of_ble_eq_true rfl, Nat.le_of_ble_eq_true rfl⟩) (va_recv hK (LGW_S (X := ((hL X), r59)) hP) (ci := 3) (q0 := 0) rfl rfl) (LGW_S (X := ((hL X), r59)) hP) hS LGW_putS_in rfl hl.1 rfl (Nat.le_of_ble_eq_true rfl) ⟨Nat.zero_le _, Nat.zero_le _⟩ dX0_describeGrip_69 (fun H1 locs hP1 hS _ hk1 => ?_)
      have hP : va_P D vwCl (LGW cI cC q z ((hL X), r69)) H1 := LGW_putS hd (X := ((hL X), r59)) hP hP1 hk1
      generalize H1 = H at hP hS ⊢
      refine lv_goto (tgt := 109) hx hb dX0_describeGrip_72 (by decide) ?_
      have h := Option.some.inj h
      subst h
      exact W.vret hx hb hr (fun t ht hW => ⟨⟨(), rfl, trivial, gh ht hP⟩, hS.F ht⟩) hS.2.2 dX0_describeGrip_109
    · replace h := (if_neg c7).symm.trans h
      by_cases c8 : ((lPl (hL X)) p0.toNatClampNeg) = 1
      · replace h := (if_pos c8).symm.trans h
        refine lv_tableIn (off := 47) (tgt := 75) hx hb dX0_describeGrip_28 (by rw [c8]; decide) (by rw [c8]; decide) (by rw [c8]; rfl) (by decide) ?_
        refine lv_aload_n hx hb dX0_describeGrip_75 rfl (lv_at hl 2 rfl) ?_
        refine lv_bipush (v := 103) hx hb dX0_describeGrip_76 (by decide) ?_
        obtain ⟨r78, hr78, h⟩ := bd_some h
        refine gc_wv (As := [.int 103]) (rest := []) ⟨hx, hb, hml, hown, hts⟩ hK (kX3_put l D cI cC cZ cQ cJ z r19 103 hr78) (cwV 1 hts gX0_describeGrip_X3_put rfl rfl rfl (by decide +kernel) ⟨Nat.le_of_ble_eq_true rfl, Nat.le_of_ble_eq_true rfl⟩) (va_recv hK (LGW_S (X := ((hL X), r19)) hP) (ci := 3) (q0 := 0) rfl rfl) (LGW_S (X := ((hL X), r19)) hP) hS LGW_putS_in rfl hl.1 rfl (Nat.le_of_ble_eq_true rfl) ⟨Nat.zero_le _, Nat.zero_le _⟩ dX0_describeGrip_78 (fun H1 locs hP1 hS _ hk1 => ?_)
        have hP : va_P D vwCl (LGW cI cC q z ((hL X), r78)) H1 := LGW_putS hd (X := ((hL X), r19)) hP hP1 hk1
        generalize H1 = H at hP hS ⊢
        refine lv_goto (tgt := 109) hx hb dX0_describeGrip_81 (by decide) ?_
        have h := Option.some.inj h
        subst h
        exact W.vret hx hb hr (fun t ht hW => ⟨⟨(), rfl, trivial, gh ht hP⟩, hS.F ht⟩) hS.2.2 dX0_describeGrip_109
      · replace h := (if_neg c8).symm.trans h
        by_cases c9 : ((lPl (hL X)) p0.toNatClampNeg) = 2
        · replace h := (if_pos c9).symm.trans h
          refine lv_tableIn (off := 56) (tgt := 84) hx hb dX0_describeGrip_28 (by rw [c9]; decide) (by rw [c9]; decide) (by rw [c9]; rfl) (by decide) ?_
          refine lv_aload_n hx hb dX0_describeGrip_84 rfl (lv_at hl 2 rfl) ?_
          refine lv_bipush (v := 119) hx hb dX0_describeGrip_85 (by decide) ?_
          obtain ⟨r87, hr87, h⟩ := bd_some h
          refine gc_wv (As := [.int 119]) (rest := []) ⟨hx, hb, hml, hown, hts⟩ hK (kX3_put l D cI cC cZ cQ cJ z r19 119 hr87) (cwV 1 hts gX0_describeGrip_X3_put rfl rfl rfl (by decide +kernel) ⟨Nat.le_of_ble_eq_true rfl, Nat.le_of_ble_eq_true rfl⟩) (va_recv hK (LGW_S (X := ((hL X), r19)) hP) (ci := 3) (q0 := 0) rfl rfl) (LGW_S (X := ((hL X), r19)) hP) hS LGW_putS_in rfl hl.1 rfl (Nat.le_of_ble_eq_true rfl) ⟨Nat.zero_le _, Nat.zero_le _⟩ dX0_describeGrip_87 (fun H1 locs hP1 hS _ hk1 => ?_)
          have hP : va_P D vwCl (LGW cI cC q z ((hL X), r87)) H1 := LGW_putS hd (X := ((hL X), r19)) hP hP1 hk1
          generalize H1 = H at hP hS ⊢
          refine lv_aload_n hx hb dX0_describeGrip_90 rfl (lv_at hl 2 rfl) ?_
          refine lv_aload_n hx hb dX0_describeGrip_91 rfl (lv_at hl 0 rfl) ?_
          refine va_get (D := D) (ci := 0) (v := .ref (q + 8)) (C := RX0) (T := TX0) (N := 13) hx hb hts hinX0 hown hK hP 0 rfl rfl 7 (by decide) hf33 (fun _ h9 => h9) rfl dX0_describeGrip_92 ?_
          refine lv_iload_n hx hb dX0_describeGrip_95 rfl (lv_at hl 1 rfl) ?_
          refine g_iald (f := (lSt (hL X))) (k := p0.toNatClampNeg) hx hb hK hP 8 0 rfl rfl hg6 rfl dX0_describeGrip_96 ?_
          obtain ⟨r97, hr97, h⟩ := bd_some h
          refine gc_wv (As := [.int ((lSt (hL X)) p0.toNatClampNeg)]) (rest := []) ⟨hx, hb, hml, hown, hts⟩ hK (kX3_putNumber l D cI cC cZ cQ cJ z r87 ((lSt (hL X)) p0.toNatClampNeg) hr97) (cwV 1 hts gX0_describeGrip_X3_putNumber rfl rfl rfl (by decide +kernel) ⟨Nat.le_of_ble_eq_true rfl, Nat.le_of_ble_eq_true rfl⟩) (va_recv hK (LGW_S (X := ((hL X), r87)) hP) (ci := 3) (q0 := 0) rfl rfl) (LGW_S (X := ((hL X), r87)) hP) hS LGW_putS_in rfl hl.1 rfl (Nat.le_of_ble_eq_true rfl) ⟨Nat.zero_le _, Nat.zero_le _⟩ dX0_describeGrip_97 (fun H1 locs hP1 hS _ hk1 => ?_)
          have hP : va_P D vwCl (LGW cI cC q z ((hL X), r97)) H1 := LGW_putS hd (X := ((hL X), r87)) hP hP1 hk1
          generalize H1 = H at hP hS ⊢
          refine lv_goto (tgt := 109) hx hb dX0_describeGrip_100 (by decide) ?_
          have h := Option.some.inj h
          subst h
          exact W.vret hx hb hr (fun t ht hW => ⟨⟨(), rfl, trivial, gh ht hP⟩, hS.F ht⟩) hS.2.2 dX0_describeGrip_109
        · replace h := (if_neg c9).symm.trans h
          refine lv_tableOut (tgt := 103) hx hb dX0_describeGrip_28 (gsw_out 0 2 (x := ((lPl (hL X)) p0.toNatClampNeg)) ?_) (by decide) ?_
          · intro k h1 h2 hk
            rcases (show k = 0 ∨ k = 1 ∨ k = 2 by omega) with rfl | rfl | rfl
            · exact lv_neT c7 (by decide) hk
            · exact lv_neT c8 (by decide) hk
            · exact lv_neT c9 (by decide) hk
          · refine lv_aload_n hx hb dX0_describeGrip_103 rfl (lv_at hl 2 rfl) ?_
            refine lv_bipush (v := 120) hx hb dX0_describeGrip_104 (by decide) ?_
            obtain ⟨r106, hr106, h⟩ := bd_some h
            refine gc_wv (As := [.int 120]) (rest := []) ⟨hx, hb, hml, hown, hts⟩ hK (kX3_put l D cI cC cZ cQ cJ z r19 120 hr106) (cwV 1 hts gX0_describeGrip_X3_put rfl rfl rfl (by decide +kernel) ⟨Nat.le_of_ble_eq_true rfl, Nat.le_of_ble_eq_true rfl⟩) (va_recv hK (LGW_S (X := ((hL X), r19)) hP) (ci := 3) (q0 := 0) rfl rfl) (LGW_S (X := ((hL X), r19)) hP) hS LGW_putS_in rfl hl.1 rfl (Nat.le_of_ble_eq_true rfl) ⟨Nat.zero_le _, Nat.zero_le _⟩ dX0_describeGrip_106 (fun H1 locs hP1 hS _ hk1 => ?_)
            have hP : va_P D vwCl (LGW cI cC q z ((hL X), r106)) H1 := LGW_putS hd (X := ((hL X), r19)) hP hP1 hk1
            generalize H1 = H at hP hS ⊢
            have h := Option.some.inj h
            subst h
            exact W.vret hx hb hr (fun t ht hW => ⟨⟨(), rfl, trivial, gh ht hP⟩, hS.F ht⟩) hS.2.2 dX0_describeGrip_109
set_option maxHeartbeats 4000000 in
set_option maxRecDepth 100000 in
theorem kX0_describe (l : Launch) (D : va_G) (cI cC cZ cQ cJ : ClassId) (q : Nat) (z : Nat) (X : LSt × SSt) (hd : q + 10 ≤ z ∨ z + 2 ≤ q) {R : (LSt × SSt)} (h : fX0_describe X = some R) : Met l yX0_describe wsX0_describe ({ frames := 3, cells := 0, slots := 0, locals := 64 } : Room) (va_Pc [.ref q, .ref z] (gB D (gTy cI cC cZ cQ cJ) (va_P D vwCl (LGW cI cC q z X)))) (va_Qv (fun _ : Unit => True) (fun _ t => va_P D vwCl (LGW cI cC q z R) t.heap) (gOr (fIv q 10) (fIv z 2))) 0 0 (gOr (fIv q 10) (fIv z 2)) := by
  refine Met.ofW (cc := cX0_describe) (maxL := 3) (ret := none) (by decide) rfl ?_
  intro p e s m args below meth c s₁ B hml hv
  obtain ⟨rfl, hP, hK⟩ := hv
  have hx := B.exec
  have hb := B.bytes
  have hr := B.returns
  have hts := atoms_spec (ws := wsX0_describe) B.pre
  have hown : s.vm.findClass RX0 = some m.cls := findClass_of_methodNamed B.named
  have hlocks := B.notSynchronized
  have hinX0 : ∀ w ∈ wsX00, w ∈ wsX0_describe := by decide +kernel
  have hf27 := hts (.fieldLink RX0 27 "GripInspector$Lift" "place" "[I") (by decide +kernel)
  generalize hRM : (headSpec wsX0_describe ({ frames := 3, cells := 0, slots := 0, locals := 64 } : Room)).room = RM
  replace hRM : ({ frames := 3, cells := 0, slots := 0, locals := 64 } : Room) = RM := hRM
  subst hRM
  have hl := lv_entry ([.ref q, .ref z]) (n := 3) (Nat.le_of_ble_eq_true rfl)
  rw [lg_entry_eq]
  generalize (lg_sl ([.ref q, .ref z]) ++ List.replicate (3 - (lg_sl ([.ref q, .ref z])).length) Slot.unset).toArray = ls at hl ⊢
  have hl : lv_has ls 3 [(0, .ref q), (1, .ref z)] := hl
  have hS : va_S (gOr (fIv q 10) (fIv z 2)) s.heap s.heap [] := va_S.rf
  have LP6 : ∀ (n : Nat) (S : LSt × SSt) (x2 : Int32) (H : Heap) (locs : List Loc) (ls : Array Slot), fX0_describe_L6 n S x2 = some R → va_P D vwCl (LGW cI cC q z S) H → va_S (gOr (fIv q 10) (fIv z 2)) s.heap H locs → lv_has ls 3 [(0, .ref q), (1, .ref z), (2, .int x2)] → W p l e ({ frames := 3, cells := 0, slots := 0, locals := 64 } : Room) s m ([.ref q, .ref z] : List Value).toArray below meth c H locs 0 0 (MQ below (va_Qv (fun _ : Unit => True) (fun _ t => va_P D vwCl (LGW cI cC q z R) t.heap) (gOr (fIv q 10) (fIv z 2))) ([.ref q, .ref z] : List Value).toArray s 0 0 (gOr (fIv q 10) (fIv z 2))) (F0 m 6 ls []) := by
    intro n
    induction n with
    | zero => intro S x2 H locs ls h hP hS hl; exact no_some h
    | succ n ih =>
      intro S x2 H locs ls h hP hS hl
      rw [fX0_describe_L6] at h
      refine lv_iload_n hx hb dX0_describe_6 rfl (lv_at hl 2 rfl) ?_
      refine lv_bipush (v := 12) hx hb dX0_describe_7 (by decide) ?_
      refine lv_icmp_ge (tgt := 34) hx hb dX0_describe_9 (by decide) (fun c1 => ?_) (fun c1 => ?_)
      · replace h := (if_pos c1).symm.trans h
        have h := Option.some.inj h
        subst h
        exact W.vret hx hb hr (fun t ht hW => ⟨⟨(), rfl, trivial, gh ht hP⟩, hS.F ht⟩) hS.2.2 dX0_describe_34
      · replace h := (if_neg c1).symm.trans h
        refine lv_aload_n hx hb dX0_describe_12 rfl (lv_at hl 0 rfl) ?_
        refine va_get (D := D) (ci := 0) (v := .ref (q + 6)) (C := RX0) (T := TX0) (N := 13) hx hb hts hinX0 hown hK hP 0 rfl rfl 5 (by decide) hf27 (fun _ h9 => h9) rfl dX0_describe_13 ?_
        refine lv_iload_n hx hb dX0_describe_16 rfl (lv_at hl 2 rfl) ?_
        obtain ⟨hg2, h⟩ := gd_some h
        refine g_iald (f := (lPl (hL S))) (k := x2.toNatClampNeg) hx hb hK hP 6 0 rfl rfl hg2 rfl dX0_describe_17 ?_
        refine lv_iconst (v := (-1)) hx hb dX0_describe_18 (by decide) ?_
        refine lv_icmp_eq (tgt := 28) hx hb dX0_describe_19 (by decide) (fun c3 => ?_) (fun c3 => ?_)
        · replace h := (if_pos c3).symm.trans h
          refine lv_iinc (v := (x2 + 1)) (lv' := [(2, .int (x2 + 1)), (0, .ref q), (1, .ref z)]) hx hb dX0_describe_28 hl (k := 2) rfl rfl (by decide) rfl (fun ls hl => ?_)
          refine lv_goto (tgt := 6) hx hb dX0_describe_31 (by decide) ?_
          exact ih S (x2 + 1) H locs ls h hP hS (lv_sub hl [1, 2, 0] rfl)
        · replace h := (if_neg c3).symm.trans h
          refine lv_aload_n hx hb dX0_describe_22 rfl (lv_at hl 0 rfl) ?_
          refine lv_iload_n hx hb dX0_describe_23 rfl (lv_at hl 2 rfl) ?_
          refine lv_aload_n hx hb dX0_describe_24 rfl (lv_at hl 1 rfl) ?_
          obtain ⟨r25, hr25, h⟩ := bd_some h
          refine gc_wv (As := [.int x2, .ref z]) (rest := []) ⟨hx, hb, hml, hown, hts⟩ hK (kX0_describeGrip l D cI cC cZ cQ cJ q z S x2 hd hr25) (cwV 2 hts gX0_describe_X0_describeGrip rfl rfl rfl (by decide +kernel) ⟨Nat.le_of_ble_eq_true rfl, Nat.le_of_ble_eq_true rfl⟩) (va_recv hK hP (ci := 0) (q0 := 0) rfl rfl) hP hS (fun _ h => h) rfl hl.1 rfl (Nat.le_of_ble_eq_true rfl) ⟨Nat.zero_le _, Nat.zero_le _⟩ dX0_describe_25 (fun H locs hP hS _ _ => ?_)
          refine lv_iinc (v := (x2 + 1)) (lv' := [(2, .int (x2 + 1)), (0, .ref q), (1, .ref z)]) hx hb dX0_describe_28 hl (k := 2) rfl rfl (by decide) rfl (fun ls hl => ?_)
          refine lv_goto (tgt := 6) hx hb dX0_describe_31 (by decide) ?_
          exact ih r25 (x2 + 1) H locs ls h hP hS (lv_sub hl [1, 2, 0] rfl)
  unfold fX0_describe at h
  obtain ⟨H, hH⟩ : ∃ H, H = s.heap := ⟨_, rfl⟩
  obtain ⟨locs, hlz⟩ : ∃ z : List Loc, z = [] := ⟨_, rfl⟩
  have hP : va_P D vwCl (LGW cI cC q z X) H := by rw [hH]; exact hP
  have hS : va_S (gOr (fIv q 10) (fIv z 2)) s.heap H locs := by rw [hH, hlz]; exact hS
  refine gc_at hH hlz ?_
  refine lv_aload_n hx hb dX0_describe_0 rfl (lv_at hl 1 rfl) ?_
  obtain ⟨r1, hr1, h⟩ := bd_some h
  refine gc_wv (As := []) (rest := []) ⟨hx, hb, hml, hown, hts⟩ hK (kX3_clear l D cI cC cZ cQ cJ z (hZ X) hr1) (cwV 0 hts gX0_describe_X3_clear rfl rfl rfl (by decide +kernel) ⟨Nat.le_of_ble_eq_true rfl, Nat.le_of_ble_eq_true rfl⟩) (va_recv hK (LGW_S (X := X) hP) (ci := 3) (q0 := 0) rfl rfl) (LGW_S (X := X) hP) hS LGW_putS_in rfl hl.1 rfl (Nat.le_of_ble_eq_true rfl) ⟨Nat.zero_le _, Nat.zero_le _⟩ dX0_describe_1 (fun H1 locs hP1 hS _ hk1 => ?_)
  have hP : va_P D vwCl (LGW cI cC q z ((hL X), r1)) H1 := LGW_putS hd (X := X) hP hP1 hk1
  generalize H1 = H at hP hS ⊢
  refine lv_iconst (v := 0) hx hb dX0_describe_4 (by decide) ?_
  refine lv_istore_n (lv' := [(2, .int 0), (0, .ref q), (1, .ref z)]) hx hb dX0_describe_5 rfl hl (by decide) rfl (fun ls hl => ?_)
  exact LP6 KF ((hL X), r1) 0 H locs ls h hP hS (lv_sub hl [1, 2, 0] rfl)
set_option maxHeartbeats 4000000 in
set_option maxRecDepth 100000 in
theorem kX1_isAllowed (l : Launch) (D : va_G) (cI cC cZ cQ cJ : ClassId) (q : Nat) (T : TSt) (p0 : Int32) (p1 : Int32) (p2 : Int32) (p3 : Int32) {R : Int32} (h : fX1_isAllowed T p0 p1 p2 p3 = some R) : Met l yX1_isAllowed wsX1_isAllowed ({ frames := 1, cells := 0, slots := 0, locals := 22 } : Room) (va_Pc [.ref q, .int p0, .int p1, .int p2, .int p3] (gB D (gTy cI cC cZ cQ cJ) (va_P D vwCl (TW cI cC q T)))) (vp_Si (fun r => r = R)) 0 0 (fun _ => False) := by
  refine Met.ofW (cc := cX1_isAllowed) (maxL := 5) (ret := (some .boolean)) (by decide) rfl ?_
  intro p e s m args below meth c s₁ B hml hv
  obtain ⟨rfl, hP, hK⟩ := hv
  have hx := B.exec
  have hb := B.bytes
  have hr := B.returns
  have hts := atoms_spec (ws := wsX1_isAllowed) B.pre
  have hown : s.vm.findClass RX1 = some m.cls := findClass_of_methodNamed B.named
  have hlocks := B.notSynchronized
  have hinX1 : ∀ w ∈ wsX10, w ∈ wsX1_isAllowed := by decide +kernel
  have hf21 := hts (.fieldLink RX1 21 "GripInspector$LiftText" "draft" "LGripInspector$Lift;") (by decide +kernel)
  generalize hRM : (headSpec wsX1_isAllowed ({ frames := 1, cells := 0, slots := 0, locals := 22 } : Room)).room = RM
  replace hRM : ({ frames := 1, cells := 0, slots := 0, locals := 22 } : Room) = RM := hRM
  subst hRM
  have hl := lv_entry ([.ref q, .int p0, .int p1, .int p2, .int p3]) (n := 5) (Nat.le_of_ble_eq_true rfl)
  rw [lg_entry_eq]
  generalize (lg_sl ([.ref q, .int p0, .int p1, .int p2, .int p3]) ++ List.replicate (5 - (lg_sl ([.ref q, .int p0, .int p1, .int p2, .int p3])).length) Slot.unset).toArray = ls at hl ⊢
  have hl : lv_has ls 5 [(0, .ref q), (1, .int p0), (2, .int p1), (3, .int p2), (4, .int p3)] := hl
  unfold fX1_isAllowed at h
  refine lv_iload_n hx hb dX1_isAllowed_0 rfl (lv_at hl 1 rfl) ?_
  refine lv_iload_n hx hb dX1_isAllowed_1 rfl (lv_at hl 2 rfl) ?_
  refine lv_icmp_lt (tgt := 32) hx hb dX1_isAllowed_2 (by decide) (fun c1 => ?_) (fun c1 => ?_)
  · replace h := (if_pos c1).symm.trans h
    refine lv_iconst (v := 0) hx hb dX1_isAllowed_32 (by decide) ?_
    have h := Option.some.inj h
    exact W.zret (v := 0) hx hb hr rfl (fun t ht hW => ⟨_, rfl, h, ht⟩) t_nil dX1_isAllowed_33
  · replace h := (if_neg c1).symm.trans h
    refine lv_iload_n hx hb dX1_isAllowed_5 rfl (lv_at hl 1 rfl) ?_
    refine lv_iload_n hx hb dX1_isAllowed_6 rfl (lv_at hl 3 rfl) ?_
    refine lv_icmp_gt (tgt := 32) hx hb dX1_isAllowed_7 (by decide) (fun c2 => ?_) (fun c2 => ?_)
    · replace h := (if_pos c2).symm.trans h
      refine lv_iconst (v := 0) hx hb dX1_isAllowed_32 (by decide) ?_
      have h := Option.some.inj h
      exact W.zret (v := 0) hx hb hr rfl (fun t ht hW => ⟨_, rfl, h, ht⟩) t_nil dX1_isAllowed_33
    · replace h := (if_neg c2).symm.trans h
      refine lv_iload hx hb dX1_isAllowed_10 (lv_at hl 4 rfl) ?_
      refine lv_if_eq (tgt := 28) hx hb dX1_isAllowed_12 (by decide) (fun c3 => ?_) (fun c3 => ?_)
      · replace h := (if_pos c3).symm.trans h
        refine lv_iconst (v := 1) hx hb dX1_isAllowed_28 (by decide) ?_
        refine lv_goto (tgt := 33) hx hb dX1_isAllowed_29 (by decide) ?_
        have h := Option.some.inj h
        exact W.zret (v := 1) hx hb hr rfl (fun t ht hW => ⟨_, rfl, h, ht⟩) t_nil dX1_isAllowed_33
      · replace h := (if_neg c3).symm.trans h
        refine lv_aload_n hx hb dX1_isAllowed_15 rfl (lv_at hl 0 rfl) ?_
        refine va_get (D := D) (ci := 1) (v := .ref (q + 3)) (C := RX1) (T := TX1) (N := 3) hx hb hts hinX1 hown hK hP 0 rfl rfl 1 (by decide) hf21 (fun _ h9 => h9) rfl dX1_isAllowed_16 ?_
        refine lv_iload_n hx hb dX1_isAllowed_19 rfl (lv_at hl 1 rfl) ?_
        obtain ⟨r20, hr20, h⟩ := bd_some h
        refine gc_ri (As := [.int p0]) (rest := []) ⟨hx, hb, hml, hown, hts⟩ hK (kX0_gripAt l D cI cC cZ cQ cJ (q + 3) (tD T) p0 hr20) (cwV 1 hts gX1_isAllowed_X0_gripAt rfl rfl rfl (by decide +kernel) ⟨Nat.le_of_ble_eq_true rfl, Nat.le_of_ble_eq_true rfl⟩) (va_recv hK (TW_L (T := T) hP) (ci := 0) (q0 := 0) rfl rfl) (TW_L (T := T) hP) rfl hl.1 rfl (Nat.le_of_ble_eq_true rfl) ⟨Nat.zero_le _, Nat.zero_le _⟩ dX1_isAllowed_20 ?_
        refine lv_bipush (v := (-9)) hx hb dX1_isAllowed_23 (by decide) ?_
        refine lv_icmp_ne (tgt := 32) hx hb dX1_isAllowed_25 (by decide) (fun c4 => ?_) (fun c4 => ?_)
        · replace h := (if_neg c4).symm.trans h
          refine lv_iconst (v := 0) hx hb dX1_isAllowed_32 (by decide) ?_
          have h := Option.some.inj h
          exact W.zret (v := 0) hx hb hr rfl (fun t ht hW => ⟨_, rfl, h, ht⟩) t_nil dX1_isAllowed_33
        · replace h := (if_pos c4).symm.trans h
          refine lv_iconst (v := 1) hx hb dX1_isAllowed_28 (by decide) ?_
          refine lv_goto (tgt := 33) hx hb dX1_isAllowed_29 (by decide) ?_
          have h := Option.some.inj h
          exact W.zret (v := 1) hx hb hr rfl (fun t ht hW => ⟨_, rfl, h, ht⟩) t_nil dX1_isAllowed_33
set_option maxHeartbeats 4000000 in
set_option maxRecDepth 100000 in
theorem kX1_isBegin (l : Launch) (D : va_G) (cI cC cZ cQ cJ : ClassId) (q : Nat) (T : TSt) (p0 : Int32) (p1 : Int32) (p2 : Int32) (p3 : Int32) {R : Int32} (h : fX1_isBegin T p0 p1 p2 p3 = some R) : Met l yX1_isBegin wsX1_isBegin ({ frames := 2, cells := 0, slots := 0, locals := 46 } : Room) (va_Pc [.ref q, .int p0, .int p1, .int p2, .int p3] (gB D (gTy cI cC cZ cQ cJ) (va_P D vwCl (TW cI cC q T)))) (vp_Si (fun r => r = R)) 0 0 (fun _ => False) := by
  refine Met.ofW (cc := cX1_isBegin) (maxL := 6) (ret := (some .boolean)) (by decide) rfl ?_
  intro p e s m args below meth c s₁ B hml hv
  obtain ⟨rfl, hP, hK⟩ := hv
  have hx := B.exec
  have hb := B.bytes
  have hr := B.returns
  have hts := atoms_spec (ws := wsX1_isBegin) B.pre
  have hown : s.vm.findClass RX1 = some m.cls := findClass_of_methodNamed B.named
  have hlocks := B.notSynchronized
  generalize hRM : (headSpec wsX1_isBegin ({ frames := 2, cells := 0, slots := 0, locals := 46 } : Room)).room = RM
  replace hRM : ({ frames := 2, cells := 0, slots := 0, locals := 46 } : Room) = RM := hRM
  subst hRM
  have hl := lv_entry ([.ref q, .int p0, .int p1, .int p2, .int p3]) (n := 6) (Nat.le_of_ble_eq_true rfl)
  rw [lg_entry_eq]
  generalize (lg_sl ([.ref q, .int p0, .int p1, .int p2, .int p3]) ++ List.replicate (6 - (lg_sl ([.ref q, .int p0, .int p1, .int p2, .int p3])).length) Slot.unset).toArray = ls at hl ⊢
  have hl : lv_has ls 6 [(0, .ref q), (1, .int p0), (2, .int p1), (3, .int p2), (4, .int p3)] := hl
  have LP3 : ∀ (n : Nat) (x1 : Int32) (x2 : Int32) (x3 : Int32) (x4 : Int32) (x5 : Int32) (ls : Array Slot), fX1_isBegin_L3 T n x1 x2 x3 x4 x5 = some R → lv_has ls 6 [(0, .ref q), (1, .int x1), (2, .int x2), (3, .int x3), (4, .int x4), (5, .int x5)] → W p l e ({ frames := 2, cells := 0, slots := 0, locals := 46 } : Room) s m ([.ref q, .int p0, .int p1, .int p2, .int p3] : List Value).toArray below meth c s.heap [] 0 0 (MQ below (vp_Si (fun r => r = R)) ([.ref q, .int p0, .int p1, .int p2, .int p3] : List Value).toArray s 0 0 (fun _ => False)) (F0 m 3 ls []) := by
    intro n
    induction n with
    | zero => intro x1 x2 x3 x4 x5 ls h hl; exact no_some h
    | succ n ih =>
      intro x1 x2 x3 x4 x5 ls h hl
      rw [fX1_isBegin_L3] at h
      refine lv_iload hx hb dX1_isBegin_3 (lv_at hl 5 rfl) ?_
      refine lv_bipush (v := 9) hx hb dX1_isBegin_5 (by decide) ?_
      refine lv_icmp_gt (tgt := 36) hx hb dX1_isBegin_7 (by decide) (fun c1 => ?_) (fun c1 => ?_)
      · replace h := (if_pos c1).symm.trans h
        refine lv_iconst (v := 0) hx hb dX1_isBegin_36 (by decide) ?_
        have h := Option.some.inj h
        exact W.zret (v := 0) hx hb hr rfl (fun t ht hW => ⟨_, rfl, h, ht⟩) t_nil dX1_isBegin_37
      · replace h := (if_neg c1).symm.trans h
        refine lv_aload_n hx hb dX1_isBegin_10 rfl (lv_at hl 0 rfl) ?_
        refine lv_iload_n hx hb dX1_isBegin_11 rfl (lv_at hl 1 rfl) ?_
        refine lv_bipush (v := 10) hx hb dX1_isBegin_12 (by decide) ?_
        refine lv_imul hx hb dX1_isBegin_14 ?_
        refine lv_iload hx hb dX1_isBegin_15 (lv_at hl 5 rfl) ?_
        refine lv_iadd hx hb dX1_isBegin_17 ?_
        refine lv_iload_n hx hb dX1_isBegin_18 rfl (lv_at hl 2 rfl) ?_
        refine lv_iload_n hx hb dX1_isBegin_19 rfl (lv_at hl 3 rfl) ?_
        refine lv_iload hx hb dX1_isBegin_20 (lv_at hl 4 rfl) ?_
        obtain ⟨r22, hr22, h⟩ := bd_some h
        refine gc_ri (As := [.int ((x1 * 10) + x5), .int x2, .int x3, .int x4]) (rest := []) ⟨hx, hb, hml, hown, hts⟩ hK (kX1_isAllowed l D cI cC cZ cQ cJ q T ((x1 * 10) + x5) x2 x3 x4 hr22) (cwV 4 hts gX1_isBegin_X1_isAllowed rfl rfl rfl (by decide +kernel) ⟨Nat.le_of_ble_eq_true rfl, Nat.le_of_ble_eq_true rfl⟩) (va_recv hK hP (ci := 1) (q0 := 0) rfl rfl) hP rfl hl.1 rfl (Nat.le_of_ble_eq_true rfl) ⟨Nat.zero_le _, Nat.zero_le _⟩ dX1_isBegin_22 ?_
        refine lv_if_eq (tgt := 30) hx hb dX1_isBegin_25 (by decide) (fun c2 => ?_) (fun c2 => ?_)
        · replace h := (if_pos c2).symm.trans h
          refine lv_iinc (v := (x5 + 1)) (lv' := [(5, .int (x5 + 1)), (0, .ref q), (1, .int x1), (2, .int x2), (3, .int x3), (4, .int x4)]) hx hb dX1_isBegin_30 hl (k := 5) rfl rfl (by decide) rfl (fun ls hl => ?_)
          refine lv_goto (tgt := 3) hx hb dX1_isBegin_33 (by decide) ?_
          exact ih x1 x2 x3 x4 (x5 + 1) ls h (lv_sub hl [1, 2, 3, 4, 5, 0] rfl)
        · replace h := (if_neg c2).symm.trans h
          refine lv_iconst (v := 1) hx hb dX1_isBegin_28 (by decide) ?_
          have h := Option.some.inj h
          exact W.zret (v := 1) hx hb hr rfl (fun t ht hW => ⟨_, rfl, h, ht⟩) t_nil dX1_isBegin_29
  unfold fX1_isBegin at h
  refine lv_iconst (v := 0) hx hb dX1_isBegin_0 (by decide) ?_
  refine lv_istore (lv' := [(5, .int 0), (0, .ref q), (1, .int p0), (2, .int p1), (3, .int p2), (4, .int p3)]) hx hb dX1_isBegin_1 hl (by decide) rfl (fun ls hl => ?_)
  exact LP3 KF p0 p1 p2 p3 0 ls h (lv_sub hl [1, 2, 3, 4, 5, 0] rfl)
set_option maxHeartbeats 4000000 in
set_option maxRecDepth 100000 in
theorem kX1_readDigit (l : Launch) (D : va_G) (cI cC cZ cQ cJ : ClassId) (q : Nat) (T : TSt) (p0 : Int32) (p1 : Int32) {R : Int32 × TSt} (h : fX1_readDigit T p0 p1 = some R) : Met l yX1_readDigit wsX1_readDigit ({ frames := 1, cells := 0, slots := 0, locals := 21 } : Room) (va_Pc [.ref q, .int p0, .int p1] (gB D (gTy cI cC cZ cQ cJ) (va_P D vwCl (TW cI cC q T)))) (va_Qi (fun r (_ : Unit) => r = R.1) (fun _ t => va_P D vwCl (TW cI cC q R.2) t.heap) (fIv q 13)) 0 0 (fIv q 13) := by
  refine Met.ofW (cc := cX1_readDigit) (maxL := 4) (ret := (some .int)) (by decide) rfl ?_
  intro p e s m args below meth c s₁ B hml hv
  obtain ⟨rfl, hP, hK⟩ := hv
  have hx := B.exec
  have hb := B.bytes
  have hr := B.returns
  have hts := atoms_spec (ws := wsX1_readDigit) B.pre
  have hown : s.vm.findClass RX1 = some m.cls := findClass_of_methodNamed B.named
  have hlocks := B.notSynchronized
  have hinX1 : ∀ w ∈ wsX10, w ∈ wsX1_readDigit := by decide +kernel
  have hf12 := hts (.fieldLink RX1 12 "GripInspector$LiftText" "signs" "LGripInspector$Signs;") (by decide +kernel)
  have hf25 := hts (.fieldLink RX1 25 "GripInspector$LiftText" "at" "I") (by decide +kernel)
  generalize hRM : (headSpec wsX1_readDigit ({ frames := 1, cells := 0, slots := 0, locals := 21 } : Room)).room = RM
  replace hRM : ({ frames := 1, cells := 0, slots := 0, locals := 21 } : Room) = RM := hRM
  subst hRM
  have hl := lv_entry ([.ref q, .int p0, .int p1]) (n := 4) (Nat.le_of_ble_eq_true rfl)
  rw [lg_entry_eq]
  generalize (lg_sl ([.ref q, .int p0, .int p1]) ++ List.replicate (4 - (lg_sl ([.ref q, .int p0, .int p1])).length) Slot.unset).toArray = ls at hl ⊢
  have hl : lv_has ls 4 [(0, .ref q), (1, .int p0), (2, .int p1)] := hl
  have hS : va_S (fIv q 13) s.heap s.heap [] := va_S.rf
  unfold fX1_readDigit at h
  obtain ⟨H, hH⟩ : ∃ H, H = s.heap := ⟨_, rfl⟩
  obtain ⟨locs, hlz⟩ : ∃ z : List Loc, z = [] := ⟨_, rfl⟩
  have hP : va_P D vwCl (TW cI cC q T) H := by rw [hH]; exact hP
  have hS : va_S (fIv q 13) s.heap H locs := by rw [hH, hlz]; exact hS
  refine gc_at hH hlz ?_
  refine lv_aload_n hx hb dX1_readDigit_0 rfl (lv_at hl 0 rfl) ?_
  refine va_get (D := D) (ci := 1) (v := .ref (q + 1)) (C := RX1) (T := TX1) (N := 3) hx hb hts hinX1 hown hK hP 0 rfl rfl 0 (by decide) hf12 (fun _ h9 => h9) rfl dX1_readDigit_1 ?_
  refine lv_aload_n hx hb dX1_readDigit_4 rfl (lv_at hl 0 rfl) ?_
  refine va_get (D := D) (ci := 1) (v := .int (tAt T)) (C := RX1) (T := TX1) (N := 3) hx hb hts hinX1 hown hK hP 0 rfl rfl 2 (by decide) hf25 (fun _ h9 => h9) rfl dX1_readDigit_5 ?_
  obtain ⟨r8, hr8, h⟩ := bd_some h
  refine gc_ri (As := [.int (tAt T)]) (rest := []) ⟨hx, hb, hml, hown, hts⟩ hK (kX3_at l D cI cC cZ cQ cJ (q + 1) (tSg T) (tAt T) hr8) (cwV 1 hts gX1_readDigit_X3_at rfl rfl rfl (by decide +kernel) ⟨Nat.le_of_ble_eq_true rfl, Nat.le_of_ble_eq_true rfl⟩) (va_recv hK (TW_S (T := T) hP) (ci := 3) (q0 := 0) rfl rfl) (TW_S (T := T) hP) rfl hl.1 rfl (Nat.le_of_ble_eq_true rfl) ⟨Nat.zero_le _, Nat.zero_le _⟩ dX1_readDigit_8 ?_
  refine lv_bipush (v := 48) hx hb dX1_readDigit_11 (by decide) ?_
  refine lv_isub hx hb dX1_readDigit_13 ?_
  refine lv_istore_n (lv' := [(3, .int (r8 - 48)), (0, .ref q), (1, .int p0), (2, .int p1)]) hx hb dX1_readDigit_14 rfl hl (by decide) rfl (fun ls hl => ?_)
  refine lv_iload_n hx hb dX1_readDigit_15 rfl (lv_at hl 0 rfl) ?_
  refine lv_iload_n hx hb dX1_readDigit_16 rfl (lv_at hl 2 rfl) ?_
  refine lv_icmp_lt (tgt := 25) hx hb dX1_readDigit_17 (by decide) (fun c1 => ?_) (fun c1 => ?_)
  · replace h := (if_pos c1).symm.trans h
    refine lv_iconst (v := (-1)) hx hb dX1_readDigit_25 (by decide) ?_
    have h := Option.some.inj h
    subst h
    exact W.iret (v := (-1)) hx hb hr (fun t ht hW => ⟨⟨_, (), rfl, rfl, gh ht hP⟩, hS.F ht⟩) hS.2.2 dX1_readDigit_26
  · replace h := (if_neg c1).symm.trans h
    refine lv_iload_n hx hb dX1_readDigit_20 rfl (lv_at hl 0 rfl) ?_
    refine lv_iload_n hx hb dX1_readDigit_21 rfl (lv_at hl 3 rfl) ?_
    refine lv_icmp_le (tgt := 27) hx hb dX1_readDigit_22 (by decide) (fun c2 => ?_) (fun c2 => ?_)
    · replace h := (if_pos c2).symm.trans h
      refine lv_aload_n hx hb dX1_readDigit_27 rfl (lv_at hl 1 rfl) ?_
      refine lv_dup hx hb dX1_readDigit_28 rfl ?_
      refine va_get (D := D) (ci := 1) (v := .int (tAt T)) (C := RX1) (T := TX1) (N := 3) hx hb hts hinX1 hown hK hP 0 rfl rfl 2 (by decide) hf25 (fun _ h9 => h9) rfl dX1_readDigit_29 ?_
      refine lv_iconst (v := 1) hx hb dX1_readDigit_32 (by decide) ?_
      refine lv_iadd hx hb dX1_readDigit_33 ?_
      refine va_put (D := D) (ci := 1) (v := .int ((tAt T) + 1)) (ty := .int) (C := RX1) (T := TX1) (N := 3) hx hb hts hinX1 tyX1 tyX1_ok nmX1 hown hK hP TW_self hS 0 rfl rfl 2 (by decide) hf25 (fun _ h9 => h9) rfl (by decide +kernel) rfl rfl (Nat.le_of_ble_eq_true rfl) dX1_readDigit_34 (fun H locs hP _ hS => ?_)
      have hP : va_P D vwCl (TW cI cC q ((tSg T), (tD T), ((tAt T) + 1))) H := hP
      refine lv_iload_n hx hb dX1_readDigit_37 rfl (lv_at hl 0 rfl) ?_
      have h := Option.some.inj h
      subst h
      exact W.iret (v := (r8 - 48)) hx hb hr (fun t ht hW => ⟨⟨_, (), rfl, rfl, gh ht hP⟩, hS.F ht⟩) hS.2.2 dX1_readDigit_38
    · replace h := (if_neg c2).symm.trans h
      refine lv_iconst (v := (-1)) hx hb dX1_readDigit_25 (by decide) ?_
      have h := Option.some.inj h
      subst h
      exact W.iret (v := (-1)) hx hb hr (fun t ht hW => ⟨⟨_, (), rfl, rfl, gh ht hP⟩, hS.F ht⟩) hS.2.2 dX1_readDigit_26
set_option maxHeartbeats 4000000 in
set_option maxRecDepth 100000 in
theorem kX1_readPair (l : Launch) (D : va_G) (cI cC cZ cQ cJ : ClassId) (q : Nat) (T : TSt) (p0 : Int32) (p1 : Int32) (p2 : Int32) {R : Int32 × TSt} (h : fX1_readPair T p0 p1 p2 = some R) : Met l yX1_readPair wsX1_readPair ({ frames := 3, cells := 0, slots := 0, locals := 71 } : Room) (va_Pc [.ref q, .int p0, .int p1, .int p2] (gB D (gTy cI cC cZ cQ cJ) (va_P D vwCl (TW cI cC q T)))) (va_Qi (fun r (_ : Unit) => r = R.1) (fun _ t => va_P D vwCl (TW cI cC q R.2) t.heap) (fIv q 13)) 0 0 (fIv q 13) := by
  refine Met.ofW (cc := cX1_readPair) (maxL := 6) (ret := (some .int)) (by decide) rfl ?_
  intro p e s m args below meth c s₁ B hml hv
  obtain ⟨rfl, hP, hK⟩ := hv
  have hx := B.exec
  have hb := B.bytes
  have hr := B.returns
  have hts := atoms_spec (ws := wsX1_readPair) B.pre
  have hown : s.vm.findClass RX1 = some m.cls := findClass_of_methodNamed B.named
  have hlocks := B.notSynchronized
  have hinX1 : ∀ w ∈ wsX10, w ∈ wsX1_readPair := by decide +kernel
  have hf12 := hts (.fieldLink RX1 12 "GripInspector$LiftText" "signs" "LGripInspector$Signs;") (by decide +kernel)
  have hf25 := hts (.fieldLink RX1 25 "GripInspector$LiftText" "at" "I") (by decide +kernel)
  generalize hRM : (headSpec wsX1_readPair ({ frames := 3, cells := 0, slots := 0, locals := 71 } : Room)).room = RM
  replace hRM : ({ frames := 3, cells := 0, slots := 0, locals := 71 } : Room) = RM := hRM
  subst hRM
  have hl := lv_entry ([.ref q, .int p0, .int p1, .int p2]) (n := 6) (Nat.le_of_ble_eq_true rfl)
  rw [lg_entry_eq]
  generalize (lg_sl ([.ref q, .int p0, .int p1, .int p2]) ++ List.replicate (6 - (lg_sl ([.ref q, .int p0, .int p1, .int p2])).length) Slot.unset).toArray = ls at hl ⊢
  have hl : lv_has ls 6 [(0, .ref q), (1, .int p0), (2, .int p1), (3, .int p2)] := hl
  have hS : va_S (fIv q 13) s.heap s.heap [] := va_S.rf
  unfold fX1_readPair at h
  obtain ⟨H, hH⟩ : ∃ H, H = s.heap := ⟨_, rfl⟩
  obtain ⟨locs, hlz⟩ : ∃ z : List Loc, z = [] := ⟨_, rfl⟩
  have hP : va_P D vwCl (TW cI cC q T) H := by rw [hH]; exact hP
  have hS : va_S (fIv q 13) s.heap H locs := by rw [hH, hlz]; exact hS
  refine gc_at hH hlz ?_
  refine lv_aload_n hx hb dX1_readPair_0 rfl (lv_at hl 0 rfl) ?_
  refine va_get (D := D) (ci := 1) (v := .ref (q + 1)) (C := RX1) (T := TX1) (N := 3) hx hb hts hinX1 hown hK hP 0 rfl rfl 0 (by decide) hf12 (fun _ h9 => h9) rfl dX1_readPair_1 ?_
  refine lv_aload_n hx hb dX1_readPair_4 rfl (lv_at hl 0 rfl) ?_
  refine va_get (D := D) (ci := 1) (v := .int (tAt T)) (C := RX1) (T := TX1) (N := 3) hx hb hts hinX1 hown hK hP 0 rfl rfl 2 (by decide) hf25 (fun _ h9 => h9) rfl dX1_readPair_5 ?_
  obtain ⟨r8, hr8, h⟩ := bd_some h
  refine gc_ri (As := [.int (tAt T)]) (rest := []) ⟨hx, hb, hml, hown, hts⟩ hK (kX3_at l D cI cC cZ cQ cJ (q + 1) (tSg T) (tAt T) hr8) (cwV 1 hts gX1_readPair_X3_at rfl rfl rfl (by decide +kernel) ⟨Nat.le_of_ble_eq_true rfl, Nat.le_of_ble_eq_true rfl⟩) (va_recv hK (TW_S (T := T) hP) (ci := 3) (q0 := 0) rfl rfl) (TW_S (T := T) hP) rfl hl.1 rfl (Nat.le_of_ble_eq_true rfl) ⟨Nat.zero_le _, Nat.zero_le _⟩ dX1_readPair_8 ?_
  refine lv_bipush (v := 48) hx hb dX1_readPair_11 (by decide) ?_
  refine lv_isub hx hb dX1_readPair_13 ?_
  refine lv_istore (lv' := [(4, .int (r8 - 48)), (0, .ref q), (1, .int p0), (2, .int p1), (3, .int p2)]) hx hb dX1_readPair_14 hl (by decide) rfl (fun ls hl => ?_)
  refine lv_aload_n hx hb dX1_readPair_16 rfl (lv_at hl 1 rfl) ?_
  refine lv_iload hx hb dX1_readPair_17 (lv_at hl 0 rfl) ?_
  refine lv_iload_n hx hb dX1_readPair_19 rfl (lv_at hl 2 rfl) ?_
  refine lv_iload_n hx hb dX1_readPair_20 rfl (lv_at hl 3 rfl) ?_
  refine lv_iload_n hx hb dX1_readPair_21 rfl (lv_at hl 4 rfl) ?_
  obtain ⟨r22, hr22, h⟩ := bd_some h
  refine gc_ri (As := [.int (r8 - 48), .int p0, .int p1, .int p2]) (rest := []) ⟨hx, hb, hml, hown, hts⟩ hK (kX1_isBegin l D cI cC cZ cQ cJ q T (r8 - 48) p0 p1 p2 hr22) (cwV 4 hts gX1_readPair_X1_isBegin rfl rfl rfl (by decide +kernel) ⟨Nat.le_of_ble_eq_true rfl, Nat.le_of_ble_eq_true rfl⟩) (va_recv hK hP (ci := 1) (q0 := 0) rfl rfl) hP rfl hl.1 rfl (Nat.le_of_ble_eq_true rfl) ⟨Nat.zero_le _, Nat.zero_le _⟩ dX1_readPair_22 ?_
  refine lv_if_ne (tgt := 30) hx hb dX1_readPair_25 (by decide) (fun c1 => ?_) (fun c1 => ?_)
  · replace h := (if_neg c1).symm.trans h
    refine lv_aload_n hx hb dX1_readPair_30 rfl (lv_at hl 1 rfl) ?_
    refine lv_dup hx hb dX1_readPair_31 rfl ?_
    refine va_get (D := D) (ci := 1) (v := .int (tAt T)) (C := RX1) (T := TX1) (N := 3) hx hb hts hinX1 hown hK hP 0 rfl rfl 2 (by decide) hf25 (fun _ h9 => h9) rfl dX1_readPair_32 ?_
    refine lv_iconst (v := 1) hx hb dX1_readPair_35 (by decide) ?_
    refine lv_iadd hx hb dX1_readPair_36 ?_
    refine va_put (D := D) (ci := 1) (v := .int ((tAt T) + 1)) (ty := .int) (C := RX1) (T := TX1) (N := 3) hx hb hts hinX1 tyX1 tyX1_ok nmX1 hown hK hP TW_self hS 0 rfl rfl 2 (by decide) hf25 (fun _ h9 => h9) rfl (by decide +kernel) rfl rfl (Nat.le_of_ble_eq_true rfl) dX1_readPair_37 (fun H locs hP _ hS => ?_)
    have hP : va_P D vwCl (TW cI cC q ((tSg T), (tD T), ((tAt T) + 1))) H := hP
    refine lv_aload_n hx hb dX1_readPair_40 rfl (lv_at hl 1 rfl) ?_
    refine va_get (D := D) (ci := 1) (v := .ref (q + 1)) (C := RX1) (T := TX1) (N := 3) hx hb hts hinX1 hown hK hP 0 rfl rfl 0 (by decide) hf12 (fun _ h9 => h9) rfl dX1_readPair_41 ?_
    refine lv_aload_n hx hb dX1_readPair_44 rfl (lv_at hl 1 rfl) ?_
    refine va_get (D := D) (ci := 1) (v := .int ((tAt T) + 1)) (C := RX1) (T := TX1) (N := 3) hx hb hts hinX1 hown hK hP 0 rfl rfl 2 (by decide) hf25 (fun _ h9 => h9) rfl dX1_readPair_45 ?_
    obtain ⟨r48, hr48, h⟩ := bd_some h
    refine gc_ri (As := [.int ((tAt T) + 1)]) (rest := []) ⟨hx, hb, hml, hown, hts⟩ hK (kX3_at l D cI cC cZ cQ cJ (q + 1) (tSg T) ((tAt T) + 1) hr48) (cwV 1 hts gX1_readPair_X3_at rfl rfl rfl (by decide +kernel) ⟨Nat.le_of_ble_eq_true rfl, Nat.le_of_ble_eq_true rfl⟩) (va_recv hK (TW_S (T := ((tSg T), (tD T), ((tAt T) + 1))) hP) (ci := 3) (q0 := 0) rfl rfl) (TW_S (T := ((tSg T), (tD T), ((tAt T) + 1))) hP) rfl hl.1 rfl (Nat.le_of_ble_eq_true rfl) ⟨Nat.zero_le _, Nat.zero_le _⟩ dX1_readPair_48 ?_
    refine lv_bipush (v := 48) hx hb dX1_readPair_51 (by decide) ?_
    refine lv_isub hx hb dX1_readPair_53 ?_
    refine lv_istore (lv' := [(5, .int (r48 - 48)), (4, .int (r8 - 48)), (0, .ref q), (1, .int p0), (2, .int p1), (3, .int p2)]) hx hb dX1_readPair_54 hl (by decide) rfl (fun ls hl => ?_)
    refine lv_iload hx hb dX1_readPair_56 (lv_at hl 0 rfl) ?_
    refine lv_if_lt (tgt := 86) hx hb dX1_readPair_58 (by decide) (fun c2 => ?_) (fun c2 => ?_)
    · replace h := (if_pos c2).symm.trans h
      refine lv_iconst (v := (-1)) hx hb dX1_readPair_86 (by decide) ?_
      have h := Option.some.inj h
      subst h
      exact W.iret (v := (-1)) hx hb hr (fun t ht hW => ⟨⟨_, (), rfl, rfl, gh ht hP⟩, hS.F ht⟩) hS.2.2 dX1_readPair_87
    · replace h := (if_neg c2).symm.trans h
      refine lv_iload hx hb dX1_readPair_61 (lv_at hl 0 rfl) ?_
      refine lv_bipush (v := 9) hx hb dX1_readPair_63 (by decide) ?_
      refine lv_icmp_gt (tgt := 86) hx hb dX1_readPair_65 (by decide) (fun c3 => ?_) (fun c3 => ?_)
      · replace h := (if_pos c3).symm.trans h
        refine lv_iconst (v := (-1)) hx hb dX1_readPair_86 (by decide) ?_
        have h := Option.some.inj h
        subst h
        exact W.iret (v := (-1)) hx hb hr (fun t ht hW => ⟨⟨_, (), rfl, rfl, gh ht hP⟩, hS.F ht⟩) hS.2.2 dX1_readPair_87
      · replace h := (if_neg c3).symm.trans h
        refine lv_aload_n hx hb dX1_readPair_68 rfl (lv_at hl 2 rfl) ?_
        refine lv_iload hx hb dX1_readPair_69 (lv_at hl 1 rfl) ?_
        refine lv_bipush (v := 10) hx hb dX1_readPair_71 (by decide) ?_
        refine lv_imul hx hb dX1_readPair_73 ?_
        refine lv_iload hx hb dX1_readPair_74 (lv_at hl 0 rfl) ?_
        refine lv_iadd hx hb dX1_readPair_76 ?_
        refine lv_iload_n hx hb dX1_readPair_77 rfl (lv_at hl 3 rfl) ?_
        refine lv_iload_n hx hb dX1_readPair_78 rfl (lv_at hl 4 rfl) ?_
        refine lv_iload_n hx hb dX1_readPair_79 rfl (lv_at hl 5 rfl) ?_
        obtain ⟨r80, hr80, h⟩ := bd_some h
        refine gc_ri (As := [.int (((r8 - 48) * 10) + (r48 - 48)), .int p0, .int p1, .int p2]) (rest := []) ⟨hx, hb, hml, hown, hts⟩ hK (kX1_isAllowed l D cI cC cZ cQ cJ q ((tSg T), (tD T), ((tAt T) + 1)) (((r8 - 48) * 10) + (r48 - 48)) p0 p1 p2 hr80) (cwV 4 hts gX1_readPair_X1_isAllowed rfl rfl rfl (by decide +kernel) ⟨Nat.le_of_ble_eq_true rfl, Nat.le_of_ble_eq_true rfl⟩) (va_recv hK hP (ci := 1) (q0 := 0) rfl rfl) hP rfl hl.1 rfl (Nat.le_of_ble_eq_true rfl) ⟨Nat.zero_le _, Nat.zero_le _⟩ dX1_readPair_80 ?_
        refine lv_if_ne (tgt := 88) hx hb dX1_readPair_83 (by decide) (fun c4 => ?_) (fun c4 => ?_)
        · replace h := (if_neg c4).symm.trans h
          refine lv_aload_n hx hb dX1_readPair_88 rfl (lv_at hl 2 rfl) ?_
          refine lv_dup hx hb dX1_readPair_89 rfl ?_
          refine va_get (D := D) (ci := 1) (v := .int ((tAt T) + 1)) (C := RX1) (T := TX1) (N := 3) hx hb hts hinX1 hown hK hP 0 rfl rfl 2 (by decide) hf25 (fun _ h9 => h9) rfl dX1_readPair_90 ?_
          refine lv_iconst (v := 1) hx hb dX1_readPair_93 (by decide) ?_
          refine lv_iadd hx hb dX1_readPair_94 ?_
          refine va_put (D := D) (ci := 1) (v := .int (((tAt T) + 1) + 1)) (ty := .int) (C := RX1) (T := TX1) (N := 3) hx hb hts hinX1 tyX1 tyX1_ok nmX1 hown hK hP TW_self hS 0 rfl rfl 2 (by decide) hf25 (fun _ h9 => h9) rfl (by decide +kernel) rfl rfl (Nat.le_of_ble_eq_true rfl) dX1_readPair_95 (fun H locs hP _ hS => ?_)
          have hP : va_P D vwCl (TW cI cC q ((tSg T), (tD T), (((tAt T) + 1) + 1))) H := hP
          refine lv_iload hx hb dX1_readPair_98 (lv_at hl 1 rfl) ?_
          refine lv_bipush (v := 10) hx hb dX1_readPair_100 (by decide) ?_
          refine lv_imul hx hb dX1_readPair_102 ?_
          refine lv_iload hx hb dX1_readPair_103 (lv_at hl 0 rfl) ?_
          refine lv_iadd hx hb dX1_readPair_105 ?_
          have h := Option.some.inj h
          subst h
          exact W.iret (v := (((r8 - 48) * 10) + (r48 - 48))) hx hb hr (fun t ht hW => ⟨⟨_, (), rfl, rfl, gh ht hP⟩, hS.F ht⟩) hS.2.2 dX1_readPair_106
        · replace h := (if_pos c4).symm.trans h
          refine lv_iconst (v := (-1)) hx hb dX1_readPair_86 (by decide) ?_
          have h := Option.some.inj h
          subst h
          exact W.iret (v := (-1)) hx hb hr (fun t ht hW => ⟨⟨_, (), rfl, rfl, gh ht hP⟩, hS.F ht⟩) hS.2.2 dX1_readPair_87
  · replace h := (if_pos c1).symm.trans h
    refine lv_iconst (v := (-1)) hx hb dX1_readPair_28 (by decide) ?_
    have h := Option.some.inj h
    subst h
    exact W.iret (v := (-1)) hx hb hr (fun t ht hW => ⟨⟨_, (), rfl, rfl, gh ht hP⟩, hS.F ht⟩) hS.2.2 dX1_readPair_29
set_option maxHeartbeats 4000000 in
set_option maxRecDepth 100000 in
theorem kX1_readItem (l : Launch) (D : va_G) (cI cC cZ cQ cJ : ClassId) (q : Nat) (T : TSt) {R : Int32 × TSt} (h : fX1_readItem T = some R) : Met l yX1_readItem wsX1_readItem ({ frames := 4, cells := 0, slots := 0, locals := 96 } : Room) (va_Pc [.ref q] (gB D (gTy cI cC cZ cQ cJ) (va_P D vwCl (TW cI cC q T)))) (va_Qi (fun r (_ : Unit) => r = R.1) (fun _ t => va_P D vwCl (TW cI cC q R.2) t.heap) (fIv q 13)) 0 0 (fIv q 13) := by
  refine Met.ofW (cc := cX1_readItem) (maxL := 6) (ret := (some .boolean)) (by decide) rfl ?_
  intro p e s m args below meth c s₁ B hml hv
  obtain ⟨rfl, hP, hK⟩ := hv
  have hx := B.exec
  have hb := B.bytes
  have hr := B.returns
  have hts := atoms_spec (ws := wsX1_readItem) B.pre
  have hown : s.vm.findClass RX1 = some m.cls := findClass_of_methodNamed B.named
  have hlocks := B.notSynchronized
  have hinX1 : ∀ w ∈ wsX10, w ∈ wsX1_readItem := by decide +kernel
  have hinX0 : ∀ w ∈ wsX00, w ∈ wsX1_readItem := by decide +kernel
  have hf12 := hts (.fieldLink RX1 12 "GripInspector$LiftText" "signs" "LGripInspector$Signs;") (by decide +kernel)
  have hf25 := hts (.fieldLink RX1 25 "GripInspector$LiftText" "at" "I") (by decide +kernel)
  have hf21 := hts (.fieldLink RX1 21 "GripInspector$LiftText" "draft" "LGripInspector$Lift;") (by decide +kernel)
  have hf49 := hts (.fieldLink RX1 49 "GripInspector$Lift" "n" "I") (by decide +kernel)
  generalize hRM : (headSpec wsX1_readItem ({ frames := 4, cells := 0, slots := 0, locals := 96 } : Room)).room = RM
  replace hRM : ({ frames := 4, cells := 0, slots := 0, locals := 96 } : Room) = RM := hRM
  subst hRM
  have hl := lv_entry ([.ref q]) (n := 6) (Nat.le_of_ble_eq_true rfl)
  rw [lg_entry_eq]
  generalize (lg_sl ([.ref q]) ++ List.replicate (6 - (lg_sl ([.ref q])).length) Slot.unset).toArray = ls at hl ⊢
  have hl : lv_has ls 6 [(0, .ref q)] := hl
  have hS : va_S (fIv q 13) s.heap s.heap [] := va_S.rf
  unfold fX1_readItem at h
  obtain ⟨H, hH⟩ : ∃ H, H = s.heap := ⟨_, rfl⟩
  obtain ⟨locs, hlz⟩ : ∃ z : List Loc, z = [] := ⟨_, rfl⟩
  have hP : va_P D vwCl (TW cI cC q T) H := by rw [hH]; exact hP
  have hS : va_S (fIv q 13) s.heap H locs := by rw [hH, hlz]; exact hS
  refine gc_at hH hlz ?_
  refine lv_aload_n hx hb dX1_readItem_0 rfl (lv_at hl 0 rfl) ?_
  refine va_get (D := D) (ci := 1) (v := .ref (q + 1)) (C := RX1) (T := TX1) (N := 3) hx hb hts hinX1 hown hK hP 0 rfl rfl 0 (by decide) hf12 (fun _ h9 => h9) rfl dX1_readItem_1 ?_
  refine lv_aload_n hx hb dX1_readItem_4 rfl (lv_at hl 0 rfl) ?_
  refine va_get (D := D) (ci := 1) (v := .int (tAt T)) (C := RX1) (T := TX1) (N := 3) hx hb hts hinX1 hown hK hP 0 rfl rfl 2 (by decide) hf25 (fun _ h9 => h9) rfl dX1_readItem_5 ?_
  obtain ⟨r8, hr8, h⟩ := bd_some h
  refine gc_ri (As := [.int (tAt T)]) (rest := []) ⟨hx, hb, hml, hown, hts⟩ hK (kX3_at l D cI cC cZ cQ cJ (q + 1) (tSg T) (tAt T) hr8) (cwV 1 hts gX1_readItem_X3_at rfl rfl rfl (by decide +kernel) ⟨Nat.le_of_ble_eq_true rfl, Nat.le_of_ble_eq_true rfl⟩) (va_recv hK (TW_S (T := T) hP) (ci := 3) (q0 := 0) rfl rfl) (TW_S (T := T) hP) rfl hl.1 rfl (Nat.le_of_ble_eq_true rfl) ⟨Nat.zero_le _, Nat.zero_le _⟩ dX1_readItem_8 ?_
  refine lv_istore_n (lv' := [(1, .int r8), (0, .ref q)]) hx hb dX1_readItem_11 rfl hl (by decide) rfl (fun ls hl => ?_)
  refine lv_iload_n hx hb dX1_readItem_12 rfl (lv_at hl 0 rfl) ?_
  refine lv_bipush (v := 103) hx hb dX1_readItem_13 (by decide) ?_
  refine lv_icmp_ne (tgt := 22) hx hb dX1_readItem_15 (by decide) (fun c1 => ?_) (fun c1 => ?_)
  · replace h := (if_neg c1).symm.trans h
    refine lv_iconst (v := 0) hx hb dX1_readItem_22 (by decide) ?_
    refine lv_istore_n (lv' := [(2, .int 0), (1, .int r8), (0, .ref q)]) hx hb dX1_readItem_23 rfl hl (by decide) rfl (fun ls hl => ?_)
    refine lv_aload_n hx hb dX1_readItem_24 rfl (lv_at hl 2 rfl) ?_
    refine va_get (D := D) (ci := 1) (v := .ref (q + 3)) (C := RX1) (T := TX1) (N := 3) hx hb hts hinX1 hown hK hP 0 rfl rfl 1 (by decide) hf21 (fun _ h9 => h9) rfl dX1_readItem_25 ?_
    obtain ⟨r28, hr28, h⟩ := bd_some h
    refine gc_ri (As := []) (rest := []) ⟨hx, hb, hml, hown, hts⟩ hK (kX0_grips l D cI cC cZ cQ cJ (q + 3) (tD T) hr28) (cwV 0 hts gX1_readItem_X0_grips rfl rfl rfl (by decide +kernel) ⟨Nat.le_of_ble_eq_true rfl, Nat.le_of_ble_eq_true rfl⟩) (va_recv hK (TW_L (T := T) hP) (ci := 0) (q0 := 0) rfl rfl) (TW_L (T := T) hP) rfl hl.1 rfl (Nat.le_of_ble_eq_true rfl) ⟨Nat.zero_le _, Nat.zero_le _⟩ dX1_readItem_28 ?_
    refine lv_istore_n (lv' := [(3, .int r28), (2, .int 0), (1, .int r8), (0, .ref q)]) hx hb dX1_readItem_31 rfl hl (by decide) rfl (fun ls hl => ?_)
    refine lv_iload_n hx hb dX1_readItem_32 rfl (lv_at hl 0 rfl) ?_
    refine lv_bipush (v := 12) hx hb dX1_readItem_33 (by decide) ?_
    refine lv_icmp_ge (tgt := 48) hx hb dX1_readItem_35 (by decide) (fun c2 => ?_) (fun c2 => ?_)
    · replace h := (if_pos c2).symm.trans h
      refine lv_iconst (v := 0) hx hb dX1_readItem_48 (by decide) ?_
      have h := Option.some.inj h
      subst h
      exact W.zret (v := 0) hx hb hr rfl (fun t ht hW => ⟨⟨_, (), rfl, rfl, gh ht hP⟩, hS.F ht⟩) hS.2.2 dX1_readItem_49
    · replace h := (if_neg c2).symm.trans h
      refine lv_iload_n hx hb dX1_readItem_38 rfl (lv_at hl 1 rfl) ?_
      refine lv_if_ne (tgt := 50) hx hb dX1_readItem_39 (by decide) (fun c => absurd c (by decide)) (fun _ => ?_)
      refine lv_iload_n hx hb dX1_readItem_42 rfl (lv_at hl 2 rfl) ?_
      refine lv_bipush (v := 104) hx hb dX1_readItem_43 (by decide) ?_
      refine lv_icmp_eq (tgt := 50) hx hb dX1_readItem_45 (by decide) (fun c3 => ?_) (fun c3 => ?_)
      · replace h := (if_pos c3).symm.trans h
        refine lv_iload_n hx hb dX1_readItem_50 rfl (lv_at hl 1 rfl) ?_
        refine lv_if_eq (tgt := 74) hx hb dX1_readItem_51 (by decide) (fun _ => ?_) (fun c => absurd c (by decide))
        refine lv_aload_n hx hb dX1_readItem_74 rfl (lv_at hl 3 rfl) ?_
        refine lv_dup hx hb dX1_readItem_75 rfl ?_
        refine va_get (D := D) (ci := 1) (v := .int (tAt T)) (C := RX1) (T := TX1) (N := 3) hx hb hts hinX1 hown hK hP 0 rfl rfl 2 (by decide) hf25 (fun _ h9 => h9) rfl dX1_readItem_76 ?_
        refine lv_iconst (v := 1) hx hb dX1_readItem_79 (by decide) ?_
        refine lv_iadd hx hb dX1_readItem_80 ?_
        refine va_put (D := D) (ci := 1) (v := .int ((tAt T) + 1)) (ty := .int) (C := RX1) (T := TX1) (N := 3) hx hb hts hinX1 tyX1 tyX1_ok nmX1 hown hK hP TW_self hS 0 rfl rfl 2 (by decide) hf25 (fun _ h9 => h9) rfl (by decide +kernel) rfl rfl (Nat.le_of_ble_eq_true rfl) dX1_readItem_81 (fun H locs hP _ hS => ?_)
        have hP : va_P D vwCl (TW cI cC q ((tSg T), (tD T), ((tAt T) + 1))) H := hP
        refine lv_aload_n hx hb dX1_readItem_84 rfl (lv_at hl 3 rfl) ?_
        refine lv_iconst (v := 0) hx hb dX1_readItem_85 (by decide) ?_
        refine lv_iconst (v := 3) hx hb dX1_readItem_86 (by decide) ?_
        obtain ⟨r87, hr87, h⟩ := bd_some h
        refine gc_wi (As := [.int 0, .int 3]) (rest := []) ⟨hx, hb, hml, hown, hts⟩ hK (kX1_readDigit l D cI cC cZ cQ cJ q ((tSg T), (tD T), ((tAt T) + 1)) 0 3 hr87) (cwV 2 hts gX1_readItem_X1_readDigit rfl rfl rfl (by decide +kernel) ⟨Nat.le_of_ble_eq_true rfl, Nat.le_of_ble_eq_true rfl⟩) (va_recv hK hP (ci := 1) (q0 := 0) rfl rfl) hP hS (fun _ h => h) rfl hl.1 rfl (Nat.le_of_ble_eq_true rfl) ⟨Nat.zero_le _, Nat.zero_le _⟩ dX1_readItem_87 (fun H locs hP hS _ _ => ?_)
        refine lv_istore (lv' := [(4, .int r87.1), (3, .int r28), (2, .int 0), (1, .int r8), (0, .ref q)]) hx hb dX1_readItem_90 hl (by decide) rfl (fun ls hl => ?_)
        refine lv_iload hx hb dX1_readItem_92 (lv_at hl 0 rfl) ?_
        refine lv_iconst (v := (-1)) hx hb dX1_readItem_94 (by decide) ?_
        refine lv_icmp_ne (tgt := 100) hx hb dX1_readItem_95 (by decide) (fun c4 => ?_) (fun c4 => ?_)
        · replace h := (if_neg c4).symm.trans h
          refine lv_iload_n hx hb dX1_readItem_100 rfl (lv_at hl 2 rfl) ?_
          refine lv_if_eq (tgt := 122) hx hb dX1_readItem_101 (by decide) (fun _ => ?_) (fun c => absurd c (by decide))
          refine lv_iconst (v := 0) hx hb dX1_readItem_122 (by decide) ?_
          refine lv_istore (lv' := [(5, .int 0), (4, .int r87.1), (3, .int r28), (2, .int 0), (1, .int r8), (0, .ref q)]) hx hb dX1_readItem_123 hl (by decide) rfl (fun ls hl => ?_)
          refine lv_iload hx hb dX1_readItem_125 (lv_at hl 0 rfl) ?_
          refine lv_iconst (v := (-1)) hx hb dX1_readItem_127 (by decide) ?_
          refine lv_icmp_ne (tgt := 133) hx hb dX1_readItem_128 (by decide) (fun _ => ?_) (fun c => absurd c (by decide))
          refine lv_aload_n hx hb dX1_readItem_133 rfl (lv_at hl 5 rfl) ?_
          refine va_get (D := D) (ci := 1) (v := .ref (q + 3)) (C := RX1) (T := TX1) (N := 3) hx hb hts hinX1 hown hK hP 0 rfl rfl 1 (by decide) hf21 (fun _ h9 => h9) rfl dX1_readItem_134 ?_
          refine lv_iload hx hb dX1_readItem_137 (lv_at hl 1 rfl) ?_
          obtain ⟨r139, hr139, h⟩ := bd_some h
          refine gc_wv (As := [.int r87.1]) (rest := []) ⟨hx, hb, hml, hown, hts⟩ hK (kX0_add l D cI cC cZ cQ cJ (q + 3) (tD r87.2) r87.1 hr139) (cwV 1 hts gX1_readItem_X0_add rfl rfl rfl (by decide +kernel) ⟨Nat.le_of_ble_eq_true rfl, Nat.le_of_ble_eq_true rfl⟩) (va_recv hK (TW_L (T := r87.2) hP) (ci := 0) (q0 := 0) rfl rfl) (TW_L (T := r87.2) hP) hS TW_putL_in rfl hl.1 rfl (Nat.le_of_ble_eq_true rfl) ⟨Nat.zero_le _, Nat.zero_le _⟩ dX1_readItem_139 (fun H1 locs hP1 hS _ hk1 => ?_)
          have hP : va_P D vwCl (TW cI cC q ((tSg r87.2), r139, (tAt r87.2))) H1 := TW_putL (T := r87.2) hP hP1 hk1
          generalize H1 = H at hP hS ⊢
          refine lv_iload_n hx hb dX1_readItem_142 rfl (lv_at hl 3 rfl) ?_
          refine lv_if_eq (tgt := 156) hx hb dX1_readItem_143 (by decide) (fun _ => ?_) (fun c => absurd c (by decide))
          refine lv_iconst (v := 1) hx hb dX1_readItem_156 (by decide) ?_
          have h := Option.some.inj h
          subst h
          exact W.zret (v := 1) hx hb hr rfl (fun t ht hW => ⟨⟨_, (), rfl, rfl, gh ht hP⟩, hS.F ht⟩) hS.2.2 dX1_readItem_157
        · replace h := (if_pos c4).symm.trans h
          refine lv_iconst (v := 0) hx hb dX1_readItem_98 (by decide) ?_
          have h := Option.some.inj h
          subst h
          exact W.zret (v := 0) hx hb hr rfl (fun t ht hW => ⟨⟨_, (), rfl, rfl, gh ht hP⟩, hS.F ht⟩) hS.2.2 dX1_readItem_99
      · replace h := (if_neg c3).symm.trans h
        refine lv_iconst (v := 0) hx hb dX1_readItem_48 (by decide) ?_
        have h := Option.some.inj h
        subst h
        exact W.zret (v := 0) hx hb hr rfl (fun t ht hW => ⟨⟨_, (), rfl, rfl, gh ht hP⟩, hS.F ht⟩) hS.2.2 dX1_readItem_49
  · replace h := (if_pos c1).symm.trans h
    refine lv_iconst (v := 1) hx hb dX1_readItem_18 (by decide) ?_
    refine lv_goto (tgt := 23) hx hb dX1_readItem_19 (by decide) ?_
    refine lv_istore_n (lv' := [(2, .int 1), (1, .int r8), (0, .ref q)]) hx hb dX1_readItem_23 rfl hl (by decide) rfl (fun ls hl => ?_)
    refine lv_aload_n hx hb dX1_readItem_24 rfl (lv_at hl 2 rfl) ?_
    refine va_get (D := D) (ci := 1) (v := .ref (q + 3)) (C := RX1) (T := TX1) (N := 3) hx hb hts hinX1 hown hK hP 0 rfl rfl 1 (by decide) hf21 (fun _ h9 => h9) rfl dX1_readItem_25 ?_
    obtain ⟨r28, hr28, h⟩ := bd_some h
    refine gc_ri (As := []) (rest := []) ⟨hx, hb, hml, hown, hts⟩ hK (kX0_grips l D cI cC cZ cQ cJ (q + 3) (tD T) hr28) (cwV 0 hts gX1_readItem_X0_grips rfl rfl rfl (by decide +kernel) ⟨Nat.le_of_ble_eq_true rfl, Nat.le_of_ble_eq_true rfl⟩) (va_recv hK (TW_L (T := T) hP) (ci := 0) (q0 := 0) rfl rfl) (TW_L (T := T) hP) rfl hl.1 rfl (Nat.le_of_ble_eq_true rfl) ⟨Nat.zero_le _, Nat.zero_le _⟩ dX1_readItem_28 ?_
    refine lv_istore_n (lv' := [(3, .int r28), (2, .int 1), (1, .int r8), (0, .ref q)]) hx hb dX1_readItem_31 rfl hl (by decide) rfl (fun ls hl => ?_)
    refine lv_iload_n hx hb dX1_readItem_32 rfl (lv_at hl 0 rfl) ?_
    refine lv_bipush (v := 12) hx hb dX1_readItem_33 (by decide) ?_
    refine lv_icmp_ge (tgt := 48) hx hb dX1_readItem_35 (by decide) (fun c5 => ?_) (fun c5 => ?_)
    · replace h := (if_pos c5).symm.trans h
      refine lv_iconst (v := 0) hx hb dX1_readItem_48 (by decide) ?_
      have h := Option.some.inj h
      subst h
      exact W.zret (v := 0) hx hb hr rfl (fun t ht hW => ⟨⟨_, (), rfl, rfl, gh ht hP⟩, hS.F ht⟩) hS.2.2 dX1_readItem_49
    · replace h := (if_neg c5).symm.trans h
      refine lv_iload_n hx hb dX1_readItem_38 rfl (lv_at hl 1 rfl) ?_
      refine lv_if_ne (tgt := 50) hx hb dX1_readItem_39 (by decide) (fun _ => ?_) (fun c => absurd c (by decide))
      refine lv_iload_n hx hb dX1_readItem_50 rfl (lv_at hl 1 rfl) ?_
      refine lv_if_eq (tgt := 74) hx hb dX1_readItem_51 (by decide) (fun c => absurd c (by decide)) (fun _ => ?_)
      refine lv_aload_n hx hb dX1_readItem_54 rfl (lv_at hl 3 rfl) ?_
      refine va_get (D := D) (ci := 1) (v := .ref (q + 3)) (C := RX1) (T := TX1) (N := 3) hx hb hts hinX1 hown hK hP 0 rfl rfl 1 (by decide) hf21 (fun _ h9 => h9) rfl dX1_readItem_55 ?_
      refine lv_iconst (v := 0) hx hb dX1_readItem_58 (by decide) ?_
      obtain ⟨r59, hr59, h⟩ := bd_some h
      refine gc_ri (As := [.int 0]) (rest := []) ⟨hx, hb, hml, hown, hts⟩ hK (kX0_count l D cI cC cZ cQ cJ (q + 3) (tD T) 0 hr59) (cwV 1 hts gX1_readItem_X0_count rfl rfl rfl (by decide +kernel) ⟨Nat.le_of_ble_eq_true rfl, Nat.le_of_ble_eq_true rfl⟩) (va_recv hK (TW_L (T := T) hP) (ci := 0) (q0 := 0) rfl rfl) (TW_L (T := T) hP) rfl hl.1 rfl (Nat.le_of_ble_eq_true rfl) ⟨Nat.zero_le _, Nat.zero_le _⟩ dX1_readItem_59 ?_
      refine lv_aload_n hx hb dX1_readItem_62 rfl (lv_at hl 3 rfl) ?_
      refine va_get (D := D) (ci := 1) (v := .ref (q + 3)) (C := RX1) (T := TX1) (N := 3) hx hb hts hinX1 hown hK hP 0 rfl rfl 1 (by decide) hf21 (fun _ h9 => h9) rfl dX1_readItem_63 ?_
      refine va_get (D := D) (ci := 0) (v := .int (lN_ (tD T))) (C := RX0) (T := TX0) (N := 13) hx hb hts hinX0 hown hK hP 3 rfl rfl 9 (by decide) hf49 (fun _ h9 => h9) rfl dX1_readItem_66 ?_
      refine lv_icmp_lt (tgt := 74) hx hb dX1_readItem_69 (by decide) (fun c6 => ?_) (fun c6 => ?_)
      · replace h := (if_pos c6).symm.trans h
        refine lv_aload_n hx hb dX1_readItem_74 rfl (lv_at hl 3 rfl) ?_
        refine lv_dup hx hb dX1_readItem_75 rfl ?_
        refine va_get (D := D) (ci := 1) (v := .int (tAt T)) (C := RX1) (T := TX1) (N := 3) hx hb hts hinX1 hown hK hP 0 rfl rfl 2 (by decide) hf25 (fun _ h9 => h9) rfl dX1_readItem_76 ?_
        refine lv_iconst (v := 1) hx hb dX1_readItem_79 (by decide) ?_
        refine lv_iadd hx hb dX1_readItem_80 ?_
        refine va_put (D := D) (ci := 1) (v := .int ((tAt T) + 1)) (ty := .int) (C := RX1) (T := TX1) (N := 3) hx hb hts hinX1 tyX1 tyX1_ok nmX1 hown hK hP TW_self hS 0 rfl rfl 2 (by decide) hf25 (fun _ h9 => h9) rfl (by decide +kernel) rfl rfl (Nat.le_of_ble_eq_true rfl) dX1_readItem_81 (fun H locs hP _ hS => ?_)
        have hP : va_P D vwCl (TW cI cC q ((tSg T), (tD T), ((tAt T) + 1))) H := hP
        refine lv_aload_n hx hb dX1_readItem_84 rfl (lv_at hl 3 rfl) ?_
        refine lv_iconst (v := 0) hx hb dX1_readItem_85 (by decide) ?_
        refine lv_iconst (v := 3) hx hb dX1_readItem_86 (by decide) ?_
        obtain ⟨r87, hr87, h⟩ := bd_some h
        refine gc_wi (As := [.int 0, .int 3]) (rest := []) ⟨hx, hb, hml, hown, hts⟩ hK (kX1_readDigit l D cI cC cZ cQ cJ q ((tSg T), (tD T), ((tAt T) + 1)) 0 3 hr87) (cwV 2 hts gX1_readItem_X1_readDigit rfl rfl rfl (by decide +kernel) ⟨Nat.le_of_ble_eq_true rfl, Nat.le_of_ble_eq_true rfl⟩) (va_recv hK hP (ci := 1) (q0 := 0) rfl rfl) hP hS (fun _ h => h) rfl hl.1 rfl (Nat.le_of_ble_eq_true rfl) ⟨Nat.zero_le _, Nat.zero_le _⟩ dX1_readItem_87 (fun H locs hP hS _ _ => ?_)
        refine lv_istore (lv' := [(4, .int r87.1), (3, .int r28), (2, .int 1), (1, .int r8), (0, .ref q)]) hx hb dX1_readItem_90 hl (by decide) rfl (fun ls hl => ?_)
        refine lv_iload hx hb dX1_readItem_92 (lv_at hl 0 rfl) ?_
        refine lv_iconst (v := (-1)) hx hb dX1_readItem_94 (by decide) ?_
        refine lv_icmp_ne (tgt := 100) hx hb dX1_readItem_95 (by decide) (fun c7 => ?_) (fun c7 => ?_)
        · replace h := (if_neg c7).symm.trans h
          refine lv_iload_n hx hb dX1_readItem_100 rfl (lv_at hl 2 rfl) ?_
          refine lv_if_eq (tgt := 122) hx hb dX1_readItem_101 (by decide) (fun c => absurd c (by decide)) (fun _ => ?_)
          refine lv_aload_n hx hb dX1_readItem_104 rfl (lv_at hl 4 rfl) ?_
          refine lv_iconst (v := 0) hx hb dX1_readItem_105 (by decide) ?_
          refine lv_aload_n hx hb dX1_readItem_106 rfl (lv_at hl 4 rfl) ?_
          refine va_get (D := D) (ci := 1) (v := .ref (q + 3)) (C := RX1) (T := TX1) (N := 3) hx hb hts hinX1 hown hK hP 0 rfl rfl 1 (by decide) hf21 (fun _ h9 => h9) rfl dX1_readItem_107 ?_
          refine va_get (D := D) (ci := 0) (v := .int (lN_ (tD r87.2))) (C := RX0) (T := TX0) (N := 13) hx hb hts hinX0 hown hK hP 3 rfl rfl 9 (by decide) hf49 (fun _ h9 => h9) rfl dX1_readItem_110 ?_
          refine lv_iconst (v := 1) hx hb dX1_readItem_113 (by decide) ?_
          refine lv_isub hx hb dX1_readItem_114 ?_
          refine lv_iconst (v := 1) hx hb dX1_readItem_115 (by decide) ?_
          obtain ⟨r116, hr116, h⟩ := bd_some h
          refine gc_wi (As := [.int 0, .int ((lN_ (tD r87.2)) - 1), .int 1]) (rest := []) ⟨hx, hb, hml, hown, hts⟩ hK (kX1_readPair l D cI cC cZ cQ cJ q r87.2 0 ((lN_ (tD r87.2)) - 1) 1 hr116) (cwV 3 hts gX1_readItem_X1_readPair rfl rfl rfl (by decide +kernel) ⟨Nat.le_of_ble_eq_true rfl, Nat.le_of_ble_eq_true rfl⟩) (va_recv hK hP (ci := 1) (q0 := 0) rfl rfl) hP hS (fun _ h => h) rfl hl.1 rfl (Nat.le_of_ble_eq_true rfl) ⟨Nat.zero_le _, Nat.zero_le _⟩ dX1_readItem_116 (fun H locs hP hS _ _ => ?_)
          refine lv_goto (tgt := 123) hx hb dX1_readItem_119 (by decide) ?_
          refine lv_istore (lv' := [(5, .int r116.1), (4, .int r87.1), (3, .int r28), (2, .int 1), (1, .int r8), (0, .ref q)]) hx hb dX1_readItem_123 hl (by decide) rfl (fun ls hl => ?_)
          refine lv_iload hx hb dX1_readItem_125 (lv_at hl 0 rfl) ?_
          refine lv_iconst (v := (-1)) hx hb dX1_readItem_127 (by decide) ?_
          refine lv_icmp_ne (tgt := 133) hx hb dX1_readItem_128 (by decide) (fun c8 => ?_) (fun c8 => ?_)
          · replace h := (if_neg c8).symm.trans h
            refine lv_aload_n hx hb dX1_readItem_133 rfl (lv_at hl 5 rfl) ?_
            refine va_get (D := D) (ci := 1) (v := .ref (q + 3)) (C := RX1) (T := TX1) (N := 3) hx hb hts hinX1 hown hK hP 0 rfl rfl 1 (by decide) hf21 (fun _ h9 => h9) rfl dX1_readItem_134 ?_
            refine lv_iload hx hb dX1_readItem_137 (lv_at hl 1 rfl) ?_
            obtain ⟨r139, hr139, h⟩ := bd_some h
            refine gc_wv (As := [.int r87.1]) (rest := []) ⟨hx, hb, hml, hown, hts⟩ hK (kX0_add l D cI cC cZ cQ cJ (q + 3) (tD r116.2) r87.1 hr139) (cwV 1 hts gX1_readItem_X0_add rfl rfl rfl (by decide +kernel) ⟨Nat.le_of_ble_eq_true rfl, Nat.le_of_ble_eq_true rfl⟩) (va_recv hK (TW_L (T := r116.2) hP) (ci := 0) (q0 := 0) rfl rfl) (TW_L (T := r116.2) hP) hS TW_putL_in rfl hl.1 rfl (Nat.le_of_ble_eq_true rfl) ⟨Nat.zero_le _, Nat.zero_le _⟩ dX1_readItem_139 (fun H1 locs hP1 hS _ hk1 => ?_)
            have hP : va_P D vwCl (TW cI cC q ((tSg r116.2), r139, (tAt r116.2))) H1 := TW_putL (T := r116.2) hP hP1 hk1
            generalize H1 = H at hP hS ⊢
            refine lv_iload_n hx hb dX1_readItem_142 rfl (lv_at hl 3 rfl) ?_
            refine lv_if_eq (tgt := 156) hx hb dX1_readItem_143 (by decide) (fun c => absurd c (by decide)) (fun _ => ?_)
            refine lv_aload_n hx hb dX1_readItem_146 rfl (lv_at hl 5 rfl) ?_
            refine va_get (D := D) (ci := 1) (v := .ref (q + 3)) (C := RX1) (T := TX1) (N := 3) hx hb hts hinX1 hown hK hP 0 rfl rfl 1 (by decide) hf21 (fun _ h9 => h9) rfl dX1_readItem_147 ?_
            refine lv_iload_n hx hb dX1_readItem_150 rfl (lv_at hl 2 rfl) ?_
            refine lv_iload hx hb dX1_readItem_151 (lv_at hl 0 rfl) ?_
            obtain ⟨r153, hr153, h⟩ := bd_some h
            refine gc_wv (As := [.int r28, .int r116.1]) (rest := []) ⟨hx, hb, hml, hown, hts⟩ hK (kX0_hang l D cI cC cZ cQ cJ (q + 3) r139 r28 r116.1 hr153) (cwV 2 hts gX1_readItem_X0_hang rfl rfl rfl (by decide +kernel) ⟨Nat.le_of_ble_eq_true rfl, Nat.le_of_ble_eq_true rfl⟩) (va_recv hK (TW_L (T := ((tSg r116.2), r139, (tAt r116.2))) hP) (ci := 0) (q0 := 0) rfl rfl) (TW_L (T := ((tSg r116.2), r139, (tAt r116.2))) hP) hS TW_putL_in rfl hl.1 rfl (Nat.le_of_ble_eq_true rfl) ⟨Nat.zero_le _, Nat.zero_le _⟩ dX1_readItem_153 (fun H1 locs hP1 hS _ hk1 => ?_)
            have hP : va_P D vwCl (TW cI cC q ((tSg r116.2), r153, (tAt r116.2))) H1 := TW_putL (T := ((tSg r116.2), r139, (tAt r116.2))) hP hP1 hk1
            generalize H1 = H at hP hS ⊢
            refine lv_iconst (v := 1) hx hb dX1_readItem_156 (by decide) ?_
            have h := Option.some.inj h
            subst h
            exact W.zret (v := 1) hx hb hr rfl (fun t ht hW => ⟨⟨_, (), rfl, rfl, gh ht hP⟩, hS.F ht⟩) hS.2.2 dX1_readItem_157
          · replace h := (if_pos c8).symm.trans h
            refine lv_iconst (v := 0) hx hb dX1_readItem_131 (by decide) ?_
            have h := Option.some.inj h
            subst h
            exact W.zret (v := 0) hx hb hr rfl (fun t ht hW => ⟨⟨_, (), rfl, rfl, gh ht hP⟩, hS.F ht⟩) hS.2.2 dX1_readItem_132
        · replace h := (if_pos c7).symm.trans h
          refine lv_iconst (v := 0) hx hb dX1_readItem_98 (by decide) ?_
          have h := Option.some.inj h
          subst h
          exact W.zret (v := 0) hx hb hr rfl (fun t ht hW => ⟨⟨_, (), rfl, rfl, gh ht hP⟩, hS.F ht⟩) hS.2.2 dX1_readItem_99
      · replace h := (if_neg c6).symm.trans h
        refine lv_iconst (v := 0) hx hb dX1_readItem_72 (by decide) ?_
        have h := Option.some.inj h
        subst h
        exact W.zret (v := 0) hx hb hr rfl (fun t ht hW => ⟨⟨_, (), rfl, rfl, gh ht hP⟩, hS.F ht⟩) hS.2.2 dX1_readItem_73
set_option maxHeartbeats 4000000 in
set_option maxRecDepth 100000 in
theorem kX1_readHead (l : Launch) (D : va_G) (cI cC cZ cQ cJ : ClassId) (t lo : Nat) (q : Nat) (T : TSt) (hlo : lo ≤ q) {R : Int32 × TSt} (h : fX1_readHead T = some R) : Met l yX1_readHead wsX1_readHead ({ frames := 4, cells := 0, slots := 0, locals := 96 } : Room) (va_Pc [.ref q] (gBs D (gTy cI cC cZ cQ cJ) t lo (va_P D vwCl (TW cI cC q T)))) (va_Qi (fun r (_ : Unit) => r = R.1) (fun _ t => va_P D vwCl (TW cI cC q R.2) t.heap) (fIv q 13)) 0 0 (fIv q 13) := by
  refine Met.ofW (cc := cX1_readHead) (maxL := 5) (ret := (some .boolean)) (by decide) rfl ?_
  intro p e s m args below meth c s₁ B hml hv
  obtain ⟨rfl, ⟨hP, hK⟩, hZ⟩ := hv
  have hx := B.exec
  have hb := B.bytes
  have hr := B.returns
  have hts := atoms_spec (ws := wsX1_readHead) B.pre
  have hown : s.vm.findClass RX1 = some m.cls := findClass_of_methodNamed B.named
  have hlocks := B.notSynchronized
  have hinX1 : ∀ w ∈ wsX10, w ∈ wsX1_readHead := by decide +kernel
  have hinX0 : ∀ w ∈ wsX00, w ∈ wsX1_readHead := by decide +kernel
  have hf12 := hts (.fieldLink RX1 12 "GripInspector$LiftText" "signs" "LGripInspector$Signs;") (by decide +kernel)
  have hf25 := hts (.fieldLink RX1 25 "GripInspector$LiftText" "at" "I") (by decide +kernel)
  have hf21 := hts (.fieldLink RX1 21 "GripInspector$LiftText" "draft" "LGripInspector$Lift;") (by decide +kernel)
  have hf49 := hts (.fieldLink RX1 49 "GripInspector$Lift" "n" "I") (by decide +kernel)
  have hf60 := hts (.fieldLink RX1 60 "GripInspector$Lift" "limits" "[I") (by decide +kernel)
  generalize hRM : (headSpec wsX1_readHead ({ frames := 4, cells := 0, slots := 0, locals := 96 } : Room)).room = RM
  replace hRM : ({ frames := 4, cells := 0, slots := 0, locals := 96 } : Room) = RM := hRM
  subst hRM
  have hl := lv_entry ([.ref q]) (n := 5) (Nat.le_of_ble_eq_true rfl)
  rw [lg_entry_eq]
  generalize (lg_sl ([.ref q]) ++ List.replicate (5 - (lg_sl ([.ref q])).length) Slot.unset).toArray = ls at hl ⊢
  have hl : lv_has ls 5 [(0, .ref q)] := hl
  have hS : va_S (fIv q 13) s.heap s.heap [] := va_S.rf
  have LP54 : ∀ (n : Nat) (S : TSt) (x2 : Int32) (H : Heap) (locs : List Loc) (ls : Array Slot), fX1_readHead_L54 n S x2 = some R → va_P D vwCl (TW cI cC q S) H → va_S (fIv q 13) s.heap H locs → lv_has ls 5 [(0, .ref q), (2, .int x2)] → W p l e ({ frames := 4, cells := 0, slots := 0, locals := 96 } : Room) s m ([.ref q] : List Value).toArray below meth c H locs 0 0 (MQ below (va_Qi (fun r (_ : Unit) => r = R.1) (fun _ t => va_P D vwCl (TW cI cC q R.2) t.heap) (fIv q 13)) ([.ref q] : List Value).toArray s 0 0 (fIv q 13)) (F0 m 54 ls []) := by
    intro n
    induction n with
    | zero => intro S x2 H locs ls h hP hS hl; exact no_some h
    | succ n ih =>
      intro S x2 H locs ls h hP hS hl
      rw [fX1_readHead_L54] at h
      refine lv_iload_n hx hb dX1_readHead_54 rfl (lv_at hl 1 rfl) ?_
      refine lv_iconst (v := 5) hx hb dX1_readHead_55 (by decide) ?_
      refine lv_icmp_ge (tgt := 114) hx hb dX1_readHead_56 (by decide) (fun c3 => ?_) (fun c3 => ?_)
      · replace h := (if_pos c3).symm.trans h
        refine lv_iconst (v := 1) hx hb dX1_readHead_114 (by decide) ?_
        have h := Option.some.inj h
        subst h
        exact W.zret (v := 1) hx hb hr rfl (fun t ht hW => ⟨⟨_, (), rfl, rfl, gh ht hP⟩, hS.F ht⟩) hS.2.2 dX1_readHead_115
      · replace h := (if_neg c3).symm.trans h
        refine va_getsN hx hb (hZ.1.narrow (fun _ h => Nat.le_trans hlo h.1)) hS hown (va_Nw.use rfl hZ.2.2) (fun _ h9 => h9) dX1_readHead_59 ?_
        refine lv_iload_n hx hb dX1_readHead_62 rfl (lv_at hl 1 rfl) ?_
        obtain ⟨hg4, h⟩ := gd_some h
        refine va_ti hx hb (hZ.2.1.narrow (fun _ h => Nat.le_trans hlo h.1)) hS hg4 (v := .int (gGL x2.toNatClampNeg)) rfl dX1_readHead_63 ?_
        refine lv_istore_n (lv' := [(3, .int (gGL x2.toNatClampNeg)), (0, .ref q), (2, .int x2)]) hx hb dX1_readHead_64 rfl hl (by decide) rfl (fun ls hl => ?_)
        refine lv_iload_n hx hb dX1_readHead_65 rfl (lv_at hl 0 rfl) ?_
        refine lv_bipush (v := 9) hx hb dX1_readHead_66 (by decide) ?_
        refine lv_icmp_le (tgt := 81) hx hb dX1_readHead_68 (by decide) (fun c5 => ?_) (fun c5 => ?_)
        · replace h := (if_pos c5).symm.trans h
          refine lv_aload_n hx hb dX1_readHead_81 rfl (lv_at hl 1 rfl) ?_
          refine lv_iconst (v := 1) hx hb dX1_readHead_82 (by decide) ?_
          refine lv_iload_n hx hb dX1_readHead_83 rfl (lv_at hl 0 rfl) ?_
          obtain ⟨r84, hr84, h⟩ := bd_some h
          refine gc_wi (As := [.int 1, .int (gGL x2.toNatClampNeg)]) (rest := []) ⟨hx, hb, hml, hown, hts⟩ hK (kX1_readDigit l D cI cC cZ cQ cJ q S 1 (gGL x2.toNatClampNeg) hr84) (cwV 2 hts gX1_readHead_X1_readDigit rfl rfl rfl (by decide +kernel) ⟨Nat.le_of_ble_eq_true rfl, Nat.le_of_ble_eq_true rfl⟩) (va_recv hK hP (ci := 1) (q0 := 0) rfl rfl) hP hS (fun _ h => h) rfl hl.1 rfl (Nat.le_of_ble_eq_true rfl) ⟨Nat.zero_le _, Nat.zero_le _⟩ dX1_readHead_84 (fun H locs hP hS _ _ => ?_)
          refine lv_istore (lv' := [(4, .int r84.1), (3, .int (gGL x2.toNatClampNeg)), (0, .ref q), (2, .int x2)]) hx hb dX1_readHead_87 hl (by decide) rfl (fun ls hl => ?_)
          refine lv_iload hx hb dX1_readHead_89 (lv_at hl 0 rfl) ?_
          refine lv_iconst (v := (-1)) hx hb dX1_readHead_91 (by decide) ?_
          refine lv_icmp_ne (tgt := 97) hx hb dX1_readHead_92 (by decide) (fun c6 => ?_) (fun c6 => ?_)
          · replace h := (if_neg c6).symm.trans h
            refine lv_aload_n hx hb dX1_readHead_97 rfl (lv_at hl 2 rfl) ?_
            refine va_get (D := D) (ci := 1) (v := .ref (q + 3)) (C := RX1) (T := TX1) (N := 3) hx hb hts hinX1 hown hK hP 0 rfl rfl 1 (by decide) hf21 (fun _ h9 => h9) rfl dX1_readHead_98 ?_
            refine va_get (D := D) (ci := 0) (v := .ref (q + 12)) (C := RX0) (T := TX0) (N := 13) hx hb hts hinX0 hown hK hP 3 rfl rfl 8 (by decide) hf60 (fun _ h9 => h9) rfl dX1_readHead_101 ?_
            refine lv_iload_n hx hb dX1_readHead_104 rfl (lv_at hl 3 rfl) ?_
            refine lv_iload hx hb dX1_readHead_105 (lv_at hl 0 rfl) ?_
            refine g_iast (f := (lLi (tD r84.2))) (k := x2.toNatClampNeg) hx hb hK hP TW_self hS 12 0 rfl rfl hg4 rfl dX1_readHead_107 (fun H locs hP hS => ?_)
            have hP : va_P D vwCl (TW cI cC q ((tSg r84.2), ((lWe (tD r84.2)), (lCy (tD r84.2)), (lWr (tD r84.2)), (lPu (tD r84.2)), (lSl (tD r84.2)), (lPl (tD r84.2)), (lSp (tD r84.2)), (lSt (tD r84.2)), (upd (lLi (tD r84.2)) x2.toNatClampNeg r84.1), (lN_ (tD r84.2)), (lStn (tD r84.2)), (lClk (tD r84.2)), (lRnd (tD r84.2))), (tAt r84.2))) H := hP
            refine lv_iinc (v := (x2 + 1)) (lv' := [(2, .int (x2 + 1)), (4, .int r84.1), (3, .int (gGL x2.toNatClampNeg)), (0, .ref q)]) hx hb dX1_readHead_108 hl (k := 3) rfl rfl (by decide) rfl (fun ls hl => ?_)
            refine lv_goto (tgt := 54) hx hb dX1_readHead_111 (by decide) ?_
            exact ih ((tSg r84.2), ((lWe (tD r84.2)), (lCy (tD r84.2)), (lWr (tD r84.2)), (lPu (tD r84.2)), (lSl (tD r84.2)), (lPl (tD r84.2)), (lSp (tD r84.2)), (lSt (tD r84.2)), (upd (lLi (tD r84.2)) x2.toNatClampNeg r84.1), (lN_ (tD r84.2)), (lStn (tD r84.2)), (lClk (tD r84.2)), (lRnd (tD r84.2))), (tAt r84.2)) (x2 + 1) H locs ls h hP hS (lv_sub hl [3, 0] rfl)
          · replace h := (if_pos c6).symm.trans h
            refine lv_iconst (v := 0) hx hb dX1_readHead_95 (by decide) ?_
            have h := Option.some.inj h
            subst h
            exact W.zret (v := 0) hx hb hr rfl (fun t ht hW => ⟨⟨_, (), rfl, rfl, gh ht hP⟩, hS.F ht⟩) hS.2.2 dX1_readHead_96
        · replace h := (if_neg c5).symm.trans h
          refine lv_aload_n hx hb dX1_readHead_71 rfl (lv_at hl 1 rfl) ?_
          refine lv_iconst (v := 1) hx hb dX1_readHead_72 (by decide) ?_
          refine lv_iload_n hx hb dX1_readHead_73 rfl (lv_at hl 0 rfl) ?_
          refine lv_iconst (v := 0) hx hb dX1_readHead_74 (by decide) ?_
          obtain ⟨r75, hr75, h⟩ := bd_some h
          refine gc_wi (As := [.int 1, .int (gGL x2.toNatClampNeg), .int 0]) (rest := []) ⟨hx, hb, hml, hown, hts⟩ hK (kX1_readPair l D cI cC cZ cQ cJ q S 1 (gGL x2.toNatClampNeg) 0 hr75) (cwV 3 hts gX1_readHead_X1_readPair rfl rfl rfl (by decide +kernel) ⟨Nat.le_of_ble_eq_true rfl, Nat.le_of_ble_eq_true rfl⟩) (va_recv hK hP (ci := 1) (q0 := 0) rfl rfl) hP hS (fun _ h => h) rfl hl.1 rfl (Nat.le_of_ble_eq_true rfl) ⟨Nat.zero_le _, Nat.zero_le _⟩ dX1_readHead_75 (fun H locs hP hS _ _ => ?_)
          refine lv_goto (tgt := 87) hx hb dX1_readHead_78 (by decide) ?_
          refine lv_istore (lv' := [(4, .int r75.1), (3, .int (gGL x2.toNatClampNeg)), (0, .ref q), (2, .int x2)]) hx hb dX1_readHead_87 hl (by decide) rfl (fun ls hl => ?_)
          refine lv_iload hx hb dX1_readHead_89 (lv_at hl 0 rfl) ?_
          refine lv_iconst (v := (-1)) hx hb dX1_readHead_91 (by decide) ?_
          refine lv_icmp_ne (tgt := 97) hx hb dX1_readHead_92 (by decide) (fun c7 => ?_) (fun c7 => ?_)
          · replace h := (if_neg c7).symm.trans h
            refine lv_aload_n hx hb dX1_readHead_97 rfl (lv_at hl 2 rfl) ?_
            refine va_get (D := D) (ci := 1) (v := .ref (q + 3)) (C := RX1) (T := TX1) (N := 3) hx hb hts hinX1 hown hK hP 0 rfl rfl 1 (by decide) hf21 (fun _ h9 => h9) rfl dX1_readHead_98 ?_
            refine va_get (D := D) (ci := 0) (v := .ref (q + 12)) (C := RX0) (T := TX0) (N := 13) hx hb hts hinX0 hown hK hP 3 rfl rfl 8 (by decide) hf60 (fun _ h9 => h9) rfl dX1_readHead_101 ?_
            refine lv_iload_n hx hb dX1_readHead_104 rfl (lv_at hl 3 rfl) ?_
            refine lv_iload hx hb dX1_readHead_105 (lv_at hl 0 rfl) ?_
            refine g_iast (f := (lLi (tD r75.2))) (k := x2.toNatClampNeg) hx hb hK hP TW_self hS 12 0 rfl rfl hg4 rfl dX1_readHead_107 (fun H locs hP hS => ?_)
            have hP : va_P D vwCl (TW cI cC q ((tSg r75.2), ((lWe (tD r75.2)), (lCy (tD r75.2)), (lWr (tD r75.2)), (lPu (tD r75.2)), (lSl (tD r75.2)), (lPl (tD r75.2)), (lSp (tD r75.2)), (lSt (tD r75.2)), (upd (lLi (tD r75.2)) x2.toNatClampNeg r75.1), (lN_ (tD r75.2)), (lStn (tD r75.2)), (lClk (tD r75.2)), (lRnd (tD r75.2))), (tAt r75.2))) H := hP
            refine lv_iinc (v := (x2 + 1)) (lv' := [(2, .int (x2 + 1)), (4, .int r75.1), (3, .int (gGL x2.toNatClampNeg)), (0, .ref q)]) hx hb dX1_readHead_108 hl (k := 3) rfl rfl (by decide) rfl (fun ls hl => ?_)
            refine lv_goto (tgt := 54) hx hb dX1_readHead_111 (by decide) ?_
            exact ih ((tSg r75.2), ((lWe (tD r75.2)), (lCy (tD r75.2)), (lWr (tD r75.2)), (lPu (tD r75.2)), (lSl (tD r75.2)), (lPl (tD r75.2)), (lSp (tD r75.2)), (lSt (tD r75.2)), (upd (lLi (tD r75.2)) x2.toNatClampNeg r75.1), (lN_ (tD r75.2)), (lStn (tD r75.2)), (lClk (tD r75.2)), (lRnd (tD r75.2))), (tAt r75.2)) (x2 + 1) H locs ls h hP hS (lv_sub hl [3, 0] rfl)
          · replace h := (if_pos c7).symm.trans h
            refine lv_iconst (v := 0) hx hb dX1_readHead_95 (by decide) ?_
            have h := Option.some.inj h
            subst h
            exact W.zret (v := 0) hx hb hr rfl (fun t ht hW => ⟨⟨_, (), rfl, rfl, gh ht hP⟩, hS.F ht⟩) hS.2.2 dX1_readHead_96
  unfold fX1_readHead at h
  obtain ⟨H, hH⟩ : ∃ H, H = s.heap := ⟨_, rfl⟩
  obtain ⟨locs, hlz⟩ : ∃ z : List Loc, z = [] := ⟨_, rfl⟩
  have hP : va_P D vwCl (TW cI cC q T) H := by rw [hH]; exact hP
  have hS : va_S (fIv q 13) s.heap H locs := by rw [hH, hlz]; exact hS
  refine gc_at hH hlz ?_
  refine lv_aload_n hx hb dX1_readHead_0 rfl (lv_at hl 0 rfl) ?_
  refine va_get (D := D) (ci := 1) (v := .ref (q + 1)) (C := RX1) (T := TX1) (N := 3) hx hb hts hinX1 hown hK hP 0 rfl rfl 0 (by decide) hf12 (fun _ h9 => h9) rfl dX1_readHead_1 ?_
  refine lv_aload_n hx hb dX1_readHead_4 rfl (lv_at hl 0 rfl) ?_
  refine va_get (D := D) (ci := 1) (v := .int (tAt T)) (C := RX1) (T := TX1) (N := 3) hx hb hts hinX1 hown hK hP 0 rfl rfl 2 (by decide) hf25 (fun _ h9 => h9) rfl dX1_readHead_5 ?_
  obtain ⟨r8, hr8, h⟩ := bd_some h
  refine gc_ri (As := [.int (tAt T)]) (rest := []) ⟨hx, hb, hml, hown, hts⟩ hK (kX3_at l D cI cC cZ cQ cJ (q + 1) (tSg T) (tAt T) hr8) (cwV 1 hts gX1_readHead_X3_at rfl rfl rfl (by decide +kernel) ⟨Nat.le_of_ble_eq_true rfl, Nat.le_of_ble_eq_true rfl⟩) (va_recv hK (TW_S (T := T) hP) (ci := 3) (q0 := 0) rfl rfl) (TW_S (T := T) hP) rfl hl.1 rfl (Nat.le_of_ble_eq_true rfl) ⟨Nat.zero_le _, Nat.zero_le _⟩ dX1_readHead_8 ?_
  refine lv_bipush (v := 76) hx hb dX1_readHead_11 (by decide) ?_
  refine lv_icmp_eq (tgt := 18) hx hb dX1_readHead_13 (by decide) (fun c1 => ?_) (fun c1 => ?_)
  · replace h := (if_pos c1).symm.trans h
    refine lv_aload_n hx hb dX1_readHead_18 rfl (lv_at hl 0 rfl) ?_
    refine lv_dup hx hb dX1_readHead_19 rfl ?_
    refine va_get (D := D) (ci := 1) (v := .int (tAt T)) (C := RX1) (T := TX1) (N := 3) hx hb hts hinX1 hown hK hP 0 rfl rfl 2 (by decide) hf25 (fun _ h9 => h9) rfl dX1_readHead_20 ?_
    refine lv_iconst (v := 1) hx hb dX1_readHead_23 (by decide) ?_
    refine lv_iadd hx hb dX1_readHead_24 ?_
    refine va_put (D := D) (ci := 1) (v := .int ((tAt T) + 1)) (ty := .int) (C := RX1) (T := TX1) (N := 3) hx hb hts hinX1 tyX1 tyX1_ok nmX1 hown hK hP TW_self hS 0 rfl rfl 2 (by decide) hf25 (fun _ h9 => h9) rfl (by decide +kernel) rfl rfl (Nat.le_of_ble_eq_true rfl) dX1_readHead_25 (fun H locs hP _ hS => ?_)
    have hP : va_P D vwCl (TW cI cC q ((tSg T), (tD T), ((tAt T) + 1))) H := hP
    refine lv_aload_n hx hb dX1_readHead_28 rfl (lv_at hl 0 rfl) ?_
    refine lv_iconst (v := 4) hx hb dX1_readHead_29 (by decide) ?_
    refine lv_bipush (v := 20) hx hb dX1_readHead_30 (by decide) ?_
    refine lv_iconst (v := 0) hx hb dX1_readHead_32 (by decide) ?_
    obtain ⟨r33, hr33, h⟩ := bd_some h
    refine gc_wi (As := [.int 4, .int 20, .int 0]) (rest := []) ⟨hx, hb, hml, hown, hts⟩ hK (kX1_readPair l D cI cC cZ cQ cJ q ((tSg T), (tD T), ((tAt T) + 1)) 4 20 0 hr33) (cwV 3 hts gX1_readHead_X1_readPair rfl rfl rfl (by decide +kernel) ⟨Nat.le_of_ble_eq_true rfl, Nat.le_of_ble_eq_true rfl⟩) (va_recv hK hP (ci := 1) (q0 := 0) rfl rfl) hP hS (fun _ h => h) rfl hl.1 rfl (Nat.le_of_ble_eq_true rfl) ⟨Nat.zero_le _, Nat.zero_le _⟩ dX1_readHead_33 (fun H locs hP hS _ _ => ?_)
    refine lv_istore_n (lv' := [(1, .int r33.1), (0, .ref q)]) hx hb dX1_readHead_36 rfl hl (by decide) rfl (fun ls hl => ?_)
    refine lv_iload_n hx hb dX1_readHead_37 rfl (lv_at hl 0 rfl) ?_
    refine lv_iconst (v := (-1)) hx hb dX1_readHead_38 (by decide) ?_
    refine lv_icmp_ne (tgt := 44) hx hb dX1_readHead_39 (by decide) (fun c2 => ?_) (fun c2 => ?_)
    · replace h := (if_neg c2).symm.trans h
      refine lv_aload_n hx hb dX1_readHead_44 rfl (lv_at hl 1 rfl) ?_
      refine va_get (D := D) (ci := 1) (v := .ref (q + 3)) (C := RX1) (T := TX1) (N := 3) hx hb hts hinX1 hown hK hP 0 rfl rfl 1 (by decide) hf21 (fun _ h9 => h9) rfl dX1_readHead_45 ?_
      refine lv_iload_n hx hb dX1_readHead_48 rfl (lv_at hl 0 rfl) ?_
      refine va_put (D := D) (ci := 0) (v := .int r33.1) (ty := .int) (C := RX0) (T := TX0) (N := 13) hx hb hts hinX0 tyX0 tyX0_ok nmX0 hown hK hP TW_self hS 3 rfl rfl 9 (by decide) hf49 (fun _ h9 => h9) rfl (by decide +kernel) rfl rfl (Nat.le_of_ble_eq_true rfl) dX1_readHead_49 (fun H locs hP _ hS => ?_)
      have hP : va_P D vwCl (TW cI cC q ((tSg r33.2), ((lWe (tD r33.2)), (lCy (tD r33.2)), (lWr (tD r33.2)), (lPu (tD r33.2)), (lSl (tD r33.2)), (lPl (tD r33.2)), (lSp (tD r33.2)), (lSt (tD r33.2)), (lLi (tD r33.2)), r33.1, (lStn (tD r33.2)), (lClk (tD r33.2)), (lRnd (tD r33.2))), (tAt r33.2))) H := hP
      refine lv_iconst (v := 0) hx hb dX1_readHead_52 (by decide) ?_
      refine lv_istore_n (lv' := [(2, .int 0), (1, .int r33.1), (0, .ref q)]) hx hb dX1_readHead_53 rfl hl (by decide) rfl (fun ls hl => ?_)
      exact LP54 KF ((tSg r33.2), ((lWe (tD r33.2)), (lCy (tD r33.2)), (lWr (tD r33.2)), (lPu (tD r33.2)), (lSl (tD r33.2)), (lPl (tD r33.2)), (lSp (tD r33.2)), (lSt (tD r33.2)), (lLi (tD r33.2)), r33.1, (lStn (tD r33.2)), (lClk (tD r33.2)), (lRnd (tD r33.2))), (tAt r33.2)) 0 H locs ls h hP hS (lv_sub hl [2, 0] rfl)
    · replace h := (if_pos c2).symm.trans h
      refine lv_iconst (v := 0) hx hb dX1_readHead_42 (by decide) ?_
      have h := Option.some.inj h
      subst h
      exact W.zret (v := 0) hx hb hr rfl (fun t ht hW => ⟨⟨_, (), rfl, rfl, gh ht hP⟩, hS.F ht⟩) hS.2.2 dX1_readHead_43
  · replace h := (if_neg c1).symm.trans h
    refine lv_iconst (v := 0) hx hb dX1_readHead_16 (by decide) ?_
    have h := Option.some.inj h
    subst h
    exact W.zret (v := 0) hx hb hr rfl (fun t ht hW => ⟨⟨_, (), rfl, rfl, gh ht hP⟩, hS.F ht⟩) hS.2.2 dX1_readHead_17
set_option maxHeartbeats 4000000 in
set_option maxRecDepth 100000 in
theorem kX1_findError (l : Launch) (D : va_G) (cI cC cZ cQ cJ : ClassId) (t lo : Nat) (q : Nat) (T : TSt) (hlo : lo ≤ q) {R : Int32 × TSt} (h : fX1_findError T = some R) : Met l yX1_findError wsX1_findError ({ frames := 5, cells := 0, slots := 0, locals := 121 } : Room) (va_Pc [.ref q] (gBs D (gTy cI cC cZ cQ cJ) t lo (va_P D vwCl (TW cI cC q T)))) (va_Qi (fun r (_ : Unit) => r = R.1) (fun _ t => va_P D vwCl (TW cI cC q R.2) t.heap) (fIv q 13)) 0 0 (fIv q 13) := by
  refine Met.ofW (cc := cX1_findError) (maxL := 3) (ret := (some .int)) (by decide) rfl ?_
  intro p e s m args below meth c s₁ B hml hv
  obtain ⟨rfl, ⟨hP, hK⟩, hZ⟩ := hv
  have hx := B.exec
  have hb := B.bytes
  have hr := B.returns
  have hts := atoms_spec (ws := wsX1_findError) B.pre
  have hown : s.vm.findClass RX1 = some m.cls := findClass_of_methodNamed B.named
  have hlocks := B.notSynchronized
  have hinX1 : ∀ w ∈ wsX10, w ∈ wsX1_findError := by decide +kernel
  have hinX3 : ∀ w ∈ wsX30, w ∈ wsX1_findError := by decide +kernel
  have hf25 := hts (.fieldLink RX1 25 "GripInspector$LiftText" "at" "I") (by decide +kernel)
  have hf21 := hts (.fieldLink RX1 21 "GripInspector$LiftText" "draft" "LGripInspector$Lift;") (by decide +kernel)
  have hf12 := hts (.fieldLink RX1 12 "GripInspector$LiftText" "signs" "LGripInspector$Signs;") (by decide +kernel)
  have hf36 := hts (.fieldLink RX1 36 "GripInspector$Signs" "length" "I") (by decide +kernel)
  generalize hRM : (headSpec wsX1_findError ({ frames := 5, cells := 0, slots := 0, locals := 121 } : Room)).room = RM
  replace hRM : ({ frames := 5, cells := 0, slots := 0, locals := 121 } : Room) = RM := hRM
  subst hRM
  have hl := lv_entry ([.ref q]) (n := 3) (Nat.le_of_ble_eq_true rfl)
  rw [lg_entry_eq]
  generalize (lg_sl ([.ref q]) ++ List.replicate (3 - (lg_sl ([.ref q])).length) Slot.unset).toArray = ls at hl ⊢
  have hl : lv_has ls 3 [(0, .ref q)] := hl
  have hS : va_S (fIv q 13) s.heap s.heap [] := va_S.rf
  have LP19 : ∀ (n : Nat) (S : TSt) (x1 : Int32) (x2 : Int32) (H : Heap) (locs : List Loc) (ls : Array Slot), fX1_findError_L19 n S x1 x2 = some R → va_P D vwCl (TW cI cC q S) H → va_S (fIv q 13) s.heap H locs → lv_has ls 3 [(0, .ref q), (1, .int x1), (2, .int x2)] → W p l e ({ frames := 5, cells := 0, slots := 0, locals := 121 } : Room) s m ([.ref q] : List Value).toArray below meth c H locs 0 0 (MQ below (va_Qi (fun r (_ : Unit) => r = R.1) (fun _ t => va_P D vwCl (TW cI cC q R.2) t.heap) (fIv q 13)) ([.ref q] : List Value).toArray s 0 0 (fIv q 13)) (F0 m 19 ls []) := by
    intro n
    induction n with
    | zero => intro S x1 x2 H locs ls h hP hS hl; exact no_some h
    | succ n ih =>
      intro S x1 x2 H locs ls h hP hS hl
      rw [fX1_findError_L19] at h
      refine lv_iload_n hx hb dX1_findError_19 rfl (lv_at hl 1 rfl) ?_
      refine lv_if_eq (tgt := 54) hx hb dX1_findError_20 (by decide) (fun c1 => ?_) (fun c1 => ?_)
      · replace h := (if_pos c1).symm.trans h
        refine lv_iload_n hx hb dX1_findError_54 rfl (lv_at hl 1 rfl) ?_
        refine lv_if_eq (tgt := 63) hx hb dX1_findError_55 (by decide) (fun _ => ?_) (fun c => absurd c1 c)
        refine lv_aload_n hx hb dX1_findError_63 rfl (lv_at hl 0 rfl) ?_
        refine va_get (D := D) (ci := 1) (v := .int (tAt S)) (C := RX1) (T := TX1) (N := 3) hx hb hts hinX1 hown hK hP 0 rfl rfl 2 (by decide) hf25 (fun _ h9 => h9) rfl dX1_findError_64 ?_
        have h := Option.some.inj h
        subst h
        exact W.iret (v := (tAt S)) hx hb hr (fun t ht hW => ⟨⟨_, (), rfl, rfl, gh ht hP⟩, hS.F ht⟩) hS.2.2 dX1_findError_67
      · replace h := (if_neg c1).symm.trans h
        refine lv_aload_n hx hb dX1_findError_23 rfl (lv_at hl 0 rfl) ?_
        refine va_get (D := D) (ci := 1) (v := .int (tAt S)) (C := RX1) (T := TX1) (N := 3) hx hb hts hinX1 hown hK hP 0 rfl rfl 2 (by decide) hf25 (fun _ h9 => h9) rfl dX1_findError_24 ?_
        refine lv_aload_n hx hb dX1_findError_27 rfl (lv_at hl 0 rfl) ?_
        refine va_get (D := D) (ci := 1) (v := .ref (q + 1)) (C := RX1) (T := TX1) (N := 3) hx hb hts hinX1 hown hK hP 0 rfl rfl 0 (by decide) hf12 (fun _ h9 => h9) rfl dX1_findError_28 ?_
        refine va_get (D := D) (ci := 3) (v := .int (sLen (tSg S))) (C := RX3) (T := TX3) (N := 2) hx hb hts hinX3 hown hK hP 1 rfl rfl 1 (by decide) hf36 (fun _ h9 => h9) rfl dX1_findError_31 ?_
        refine lv_icmp_ge (tgt := 54) hx hb dX1_findError_34 (by decide) (fun c2 => ?_) (fun c2 => ?_)
        · replace h := (if_pos c2).symm.trans h
          refine lv_iload_n hx hb dX1_findError_54 rfl (lv_at hl 1 rfl) ?_
          refine lv_if_eq (tgt := 63) hx hb dX1_findError_55 (by decide) (fun c => absurd c c1) (fun _ => ?_)
          refine lv_bipush (v := (-9)) hx hb dX1_findError_58 (by decide) ?_
          refine lv_goto (tgt := 67) hx hb dX1_findError_60 (by decide) ?_
          have h := Option.some.inj h
          subst h
          exact W.iret (v := (-9)) hx hb hr (fun t ht hW => ⟨⟨_, (), rfl, rfl, gh ht hP⟩, hS.F ht⟩) hS.2.2 dX1_findError_67
        · replace h := (if_neg c2).symm.trans h
          refine lv_iload_n hx hb dX1_findError_37 rfl (lv_at hl 2 rfl) ?_
          refine lv_bipush (v := 12) hx hb dX1_findError_38 (by decide) ?_
          refine lv_icmp_gt (tgt := 54) hx hb dX1_findError_40 (by decide) (fun c3 => ?_) (fun c3 => ?_)
          · replace h := (if_pos c3).symm.trans h
            refine lv_iload_n hx hb dX1_findError_54 rfl (lv_at hl 1 rfl) ?_
            refine lv_if_eq (tgt := 63) hx hb dX1_findError_55 (by decide) (fun c => absurd c c1) (fun _ => ?_)
            refine lv_bipush (v := (-9)) hx hb dX1_findError_58 (by decide) ?_
            refine lv_goto (tgt := 67) hx hb dX1_findError_60 (by decide) ?_
            have h := Option.some.inj h
            subst h
            exact W.iret (v := (-9)) hx hb hr (fun t ht hW => ⟨⟨_, (), rfl, rfl, gh ht hP⟩, hS.F ht⟩) hS.2.2 dX1_findError_67
          · replace h := (if_neg c3).symm.trans h
            refine lv_aload_n hx hb dX1_findError_43 rfl (lv_at hl 0 rfl) ?_
            obtain ⟨r44, hr44, h⟩ := bd_some h
            refine gc_wi (As := []) (rest := []) ⟨hx, hb, hml, hown, hts⟩ hK (kX1_readItem l D cI cC cZ cQ cJ q S hr44) (cwV 0 hts gX1_findError_X1_readItem rfl rfl rfl (by decide +kernel) ⟨Nat.le_of_ble_eq_true rfl, Nat.le_of_ble_eq_true rfl⟩) (va_recv hK hP (ci := 1) (q0 := 0) rfl rfl) hP hS (fun _ h => h) rfl hl.1 rfl (Nat.le_of_ble_eq_true rfl) ⟨Nat.zero_le _, Nat.zero_le _⟩ dX1_findError_44 (fun H locs hP hS _ _ => ?_)
            refine lv_istore_n (lv' := [(1, .int r44.1), (0, .ref q), (2, .int x2)]) hx hb dX1_findError_47 rfl hl (by decide) rfl (fun ls hl => ?_)
            refine lv_iinc (v := (x2 + 1)) (lv' := [(2, .int (x2 + 1)), (1, .int r44.1), (0, .ref q)]) hx hb dX1_findError_48 hl (k := 2) rfl rfl (by decide) rfl (fun ls hl => ?_)
            refine lv_goto (tgt := 19) hx hb dX1_findError_51 (by decide) ?_
            exact ih r44.2 r44.1 (x2 + 1) H locs ls h hP hS (lv_sub hl [2, 1, 0] rfl)
  unfold fX1_findError at h
  obtain ⟨H, hH⟩ : ∃ H, H = s.heap := ⟨_, rfl⟩
  obtain ⟨locs, hlz⟩ : ∃ z : List Loc, z = [] := ⟨_, rfl⟩
  have hP : va_P D vwCl (TW cI cC q T) H := by rw [hH]; exact hP
  have hS : va_S (fIv q 13) s.heap H locs := by rw [hH, hlz]; exact hS
  refine gc_at hH hlz ?_
  refine lv_aload_n hx hb dX1_findError_0 rfl (lv_at hl 0 rfl) ?_
  refine lv_iconst (v := 0) hx hb dX1_findError_1 (by decide) ?_
  refine va_put (D := D) (ci := 1) (v := .int 0) (ty := .int) (C := RX1) (T := TX1) (N := 3) hx hb hts hinX1 tyX1 tyX1_ok nmX1 hown hK hP TW_self hS 0 rfl rfl 2 (by decide) hf25 (fun _ h9 => h9) rfl (by decide +kernel) rfl rfl (Nat.le_of_ble_eq_true rfl) dX1_findError_2 (fun H locs hP _ hS => ?_)
  have hP : va_P D vwCl (TW cI cC q ((tSg T), (tD T), 0)) H := hP
  refine lv_aload_n hx hb dX1_findError_5 rfl (lv_at hl 0 rfl) ?_
  refine va_get (D := D) (ci := 1) (v := .ref (q + 3)) (C := RX1) (T := TX1) (N := 3) hx hb hts hinX1 hown hK hP 0 rfl rfl 1 (by decide) hf21 (fun _ h9 => h9) rfl dX1_findError_6 ?_
  obtain ⟨r9, hr9, h⟩ := bd_some h
  refine gc_wv (As := []) (rest := []) ⟨hx, hb, hml, hown, hts⟩ hK (kX0_clear l D cI cC cZ cQ cJ (q + 3) (tD T) hr9) (cwV 0 hts gX1_findError_X0_clear rfl rfl rfl (by decide +kernel) ⟨Nat.le_of_ble_eq_true rfl, Nat.le_of_ble_eq_true rfl⟩) (va_recv hK (TW_L (T := ((tSg T), (tD T), 0)) hP) (ci := 0) (q0 := 0) rfl rfl) (TW_L (T := ((tSg T), (tD T), 0)) hP) hS TW_putL_in rfl hl.1 rfl (Nat.le_of_ble_eq_true rfl) ⟨Nat.zero_le _, Nat.zero_le _⟩ dX1_findError_9 (fun H1 locs hP1 hS _ hk1 => ?_)
  have hP : va_P D vwCl (TW cI cC q ((tSg T), r9, 0)) H1 := TW_putL (T := ((tSg T), (tD T), 0)) hP hP1 hk1
  generalize H1 = H at hP hS ⊢
  refine lv_aload_n hx hb dX1_findError_12 rfl (lv_at hl 0 rfl) ?_
  obtain ⟨r13, hr13, h⟩ := bd_some h
  refine gs_wi (As := []) (rest := []) ⟨hx, hb, hml, hown, hts⟩ (gZ_now hZ hS (fun _ h => Nat.le_trans hlo h.1)) hK (kX1_readHead l D cI cC cZ cQ cJ t lo q ((tSg T), r9, 0) (Nat.le_trans hlo (by omega)) hr13) (cwV 0 hts gX1_findError_X1_readHead rfl rfl rfl (by decide +kernel) ⟨Nat.le_of_ble_eq_true rfl, Nat.le_of_ble_eq_true rfl⟩) (va_recv hK hP (ci := 1) (q0 := 0) rfl rfl) hP hS (fun _ h => h) rfl hl.1 rfl (Nat.le_of_ble_eq_true rfl) ⟨Nat.zero_le _, Nat.zero_le _⟩ dX1_findError_13 (fun H locs hP hS _ _ => ?_)
  refine lv_istore_n (lv' := [(1, .int r13.1), (0, .ref q)]) hx hb dX1_findError_16 rfl hl (by decide) rfl (fun ls hl => ?_)
  refine lv_iconst (v := 0) hx hb dX1_findError_17 (by decide) ?_
  refine lv_istore_n (lv' := [(2, .int 0), (1, .int r13.1), (0, .ref q)]) hx hb dX1_findError_18 rfl hl (by decide) rfl (fun ls hl => ?_)
  exact LP19 KF r13.2 r13.1 0 H locs ls h hP hS (lv_sub hl [2, 1, 0] rfl)

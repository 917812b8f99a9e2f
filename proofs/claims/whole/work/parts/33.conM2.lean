set_option maxHeartbeats 4000000 in
set_option maxRecDepth 100000 in
theorem kX5_append (l : Launch) (D : va_G) (cI cC cZ cQ cJ : ClassId) (q : Nat) (M : MSt) (p0 : Int32) {R : Int32 × MSt} (h : fX5_append M p0 = some R) : Met l yX5_append wsX5_append ({ frames := 1, cells := 0, slots := 0, locals := 25 } : Room) (va_Pc [.ref q, .int p0] (gB D (gTy cI cC cZ cQ cJ) (va_P D vwCl (MW cI cZ q M)))) (va_Qi (fun r (_ : Unit) => r = R.1) (fun _ t => va_P D vwCl (MW cI cZ q R.2) t.heap) (fIv q 10)) 0 0 (fIv q 10) := by
  refine Met.ofW (cc := cX5_append) (maxL := 2) (ret := (some .int)) (by decide) rfl ?_
  intro p e s m args below meth c s₁ B hml hv
  obtain ⟨rfl, hP, hK⟩ := hv
  have hx := B.exec
  have hb := B.bytes
  have hr := B.returns
  have hts := atoms_spec (ws := wsX5_append) B.pre
  have hown : s.vm.findClass RX5 = some m.cls := findClass_of_methodNamed B.named
  have hlocks := B.notSynchronized
  have hinX5 : ∀ w ∈ wsX50, w ∈ wsX5_append := by decide +kernel
  have hf94 := hts (.fieldLink RX5 94 "GripInspectorModel" "scriptSize" "I") (by decide +kernel)
  have hf7 := hts (.fieldLink RX5 7 "GripInspectorModel" "script" "[I") (by decide +kernel)
  generalize hRM : (headSpec wsX5_append ({ frames := 1, cells := 0, slots := 0, locals := 25 } : Room)).room = RM
  replace hRM : ({ frames := 1, cells := 0, slots := 0, locals := 25 } : Room) = RM := hRM
  subst hRM
  have hl := lv_entry ([.ref q, .int p0]) (n := 2) (Nat.le_of_ble_eq_true rfl)
  rw [lg_entry_eq]
  generalize (lg_sl ([.ref q, .int p0]) ++ List.replicate (2 - (lg_sl ([.ref q, .int p0])).length) Slot.unset).toArray = ls at hl ⊢
  have hl : lv_has ls 2 [(0, .ref q), (1, .int p0)] := hl
  have hS : va_S (fIv q 10) s.heap s.heap [] := va_S.rf
  unfold fX5_append at h
  obtain ⟨H, hH⟩ : ∃ H, H = s.heap := ⟨_, rfl⟩
  obtain ⟨locs, hlz⟩ : ∃ z : List Loc, z = [] := ⟨_, rfl⟩
  have hP : va_P D vwCl (MW cI cZ q M) H := by rw [hH]; exact hP
  have hS : va_S (fIv q 10) s.heap H locs := by rw [hH, hlz]; exact hS
  refine gc_at hH hlz ?_
  refine lv_aload_n hx hb dX5_append_0 rfl (lv_at hl 0 rfl) ?_
  refine lv_iload_n hx hb dX5_append_1 rfl (lv_at hl 1 rfl) ?_
  refine lv_i2l hx hb dX5_append_2 rfl ?_
  refine lv_lconst (v := 0) hx hb dX5_append_3 (by decide) ?_
  refine lv_ldc2 (v := 255) hx hb hown (hts (.constantLong RX5 92 (255)) (by decide +kernel)) dX5_append_4 ?_
  obtain ⟨r7, hr7, h⟩ := bd_some h
  refine gc_si (As := [.long ((p0).toInt64), .long 0, .long 255]) (rest := [.ref q]) ⟨hx, hb, hml, hown, hts⟩ hK (kX5_in l D cI cC cZ cQ cJ ((p0).toInt64) 0 255 hr7) (va_cwS 3 hts gX5_append_X5_in rfl rfl rfl (by decide +kernel) ⟨Nat.le_of_ble_eq_true rfl, Nat.le_of_ble_eq_true rfl⟩)  trivial rfl hl.1 rfl (Nat.le_of_ble_eq_true rfl) ⟨Nat.zero_le _, Nat.zero_le _⟩ dX5_append_7 ?_
  refine lv_if_ne (tgt := 17) hx hb dX5_append_10 (by decide) (fun c1 => ?_) (fun c1 => ?_)
  · replace h := (if_neg c1).symm.trans h
    refine lv_aload_n hx hb dX5_append_17 rfl (lv_at hl 0 rfl) ?_
    refine va_get (D := D) (ci := 5) (v := .int (mSize M)) (C := RX5) (T := TX5) (N := 15) hx hb hts hinX5 hown hK hP 0 rfl rfl 2 (by decide) hf94 (fun _ h9 => h9) rfl dX5_append_18 ?_
    refine lv_bipush (v := 60) hx hb dX5_append_21 (by decide) ?_
    refine lv_icmp_ne (tgt := 30) hx hb dX5_append_23 (by decide) (fun c2 => ?_) (fun c2 => ?_)
    · replace h := (if_neg c2).symm.trans h
      refine lv_iconst (v := 0) hx hb dX5_append_30 (by decide) ?_
      obtain ⟨r31, hr31, h⟩ := bd_some h
      refine gc_wi (As := [.int 0]) (rest := []) ⟨hx, hb, hml, hown, hts⟩ hK (kX5_refused l D cI cC cZ cQ cJ q M 0 hr31) (cwV 1 hts gX5_append_X5_refused rfl rfl rfl (by decide +kernel) ⟨Nat.le_of_ble_eq_true rfl, Nat.le_of_ble_eq_true rfl⟩) (va_recv hK hP (ci := 5) (q0 := 0) rfl rfl) hP hS (fun _ h => h) rfl hl.1 rfl (Nat.le_of_ble_eq_true rfl) ⟨Nat.zero_le _, Nat.zero_le _⟩ dX5_append_31 (fun H locs hP hS _ _ => ?_)
      refine lv_if_eq (tgt := 39) hx hb dX5_append_34 (by decide) (fun c3 => ?_) (fun c3 => ?_)
      · replace h := (if_pos c3).symm.trans h
        refine lv_aload_n hx hb dX5_append_39 rfl (lv_at hl 0 rfl) ?_
        refine va_get (D := D) (ci := 5) (v := .ref (q + 1)) (C := RX5) (T := TX5) (N := 15) hx hb hts hinX5 hown hK hP 0 rfl rfl 1 (by decide) hf7 (fun _ h9 => h9) rfl dX5_append_40 ?_
        refine lv_aload_n hx hb dX5_append_43 rfl (lv_at hl 0 rfl) ?_
        refine va_get (D := D) (ci := 5) (v := .int (mSize r31.2)) (C := RX5) (T := TX5) (N := 15) hx hb hts hinX5 hown hK hP 0 rfl rfl 2 (by decide) hf94 (fun _ h9 => h9) rfl dX5_append_44 ?_
        refine lv_iload_n hx hb dX5_append_47 rfl (lv_at hl 1 rfl) ?_
        obtain ⟨hg4, h⟩ := gd_some h
        refine g_iast (f := ((mA r31.2) 1)) (k := ((mSize r31.2)).toNatClampNeg) hx hb hK hP MW_self hS 1 0 rfl rfl hg4 rfl dX5_append_48 (fun H locs hP hS => ?_)
        obtain ⟨a5, ha5, h⟩ := lt_some h
        have hP : va_P D vwCl (MW cI cZ q (a5, (mRef r31.2), (mSize r31.2), (mSpot r31.2), (mRN r31.2), (mN r31.2), (mActs r31.2))) H := by have h9 := hP; rw [MW_s1] at h9; rw [ha5]; exact h9
        refine lv_aload_n hx hb dX5_append_49 rfl (lv_at hl 0 rfl) ?_
        refine lv_dup hx hb dX5_append_50 rfl ?_
        refine va_get (D := D) (ci := 5) (v := .int (mSize r31.2)) (C := RX5) (T := TX5) (N := 15) hx hb hts hinX5 hown hK hP 0 rfl rfl 2 (by decide) hf94 (fun _ h9 => h9) rfl dX5_append_51 ?_
        refine lv_iconst (v := 1) hx hb dX5_append_54 (by decide) ?_
        refine lv_iadd hx hb dX5_append_55 ?_
        refine va_put (D := D) (ci := 5) (v := .int ((mSize r31.2) + 1)) (ty := .int) (C := RX5) (T := TX5) (N := 15) hx hb hts hinX5 tyX5 tyX5_ok nmX5 hown hK hP MW_self hS 0 rfl rfl 2 (by decide) hf94 (fun _ h9 => h9) rfl (by decide +kernel) rfl rfl (Nat.le_of_ble_eq_true rfl) dX5_append_56 (fun H locs hP _ hS => ?_)
        have hP : va_P D vwCl (MW cI cZ q (a5, (mRef r31.2), ((mSize r31.2) + 1), (mSpot r31.2), (mRN r31.2), (mN r31.2), (mActs r31.2))) H := hP
        refine lv_aload_n hx hb dX5_append_59 rfl (lv_at hl 0 rfl) ?_
        refine va_get (D := D) (ci := 5) (v := .int ((mSize r31.2) + 1)) (C := RX5) (T := TX5) (N := 15) hx hb hts hinX5 hown hK hP 0 rfl rfl 2 (by decide) hf94 (fun _ h9 => h9) rfl dX5_append_60 ?_
        have h := Option.some.inj h
        subst h
        exact W.iret (v := ((mSize r31.2) + 1)) hx hb hr (fun t ht hW => ⟨⟨_, (), rfl, rfl, gh ht hP⟩, hS.F ht⟩) hS.2.2 dX5_append_63
      · replace h := (if_neg c3).symm.trans h
        refine lv_iconst (v := 0) hx hb dX5_append_37 (by decide) ?_
        have h := Option.some.inj h
        subst h
        exact W.iret (v := 0) hx hb hr (fun t ht hW => ⟨⟨_, (), rfl, rfl, gh ht hP⟩, hS.F ht⟩) hS.2.2 dX5_append_38
    · replace h := (if_pos c2).symm.trans h
      refine lv_iconst (v := 2) hx hb dX5_append_26 (by decide) ?_
      refine lv_goto (tgt := 31) hx hb dX5_append_27 (by decide) ?_
      obtain ⟨r31, hr31, h⟩ := bd_some h
      refine gc_wi (As := [.int 2]) (rest := []) ⟨hx, hb, hml, hown, hts⟩ hK (kX5_refused l D cI cC cZ cQ cJ q M 2 hr31) (cwV 1 hts gX5_append_X5_refused rfl rfl rfl (by decide +kernel) ⟨Nat.le_of_ble_eq_true rfl, Nat.le_of_ble_eq_true rfl⟩) (va_recv hK hP (ci := 5) (q0 := 0) rfl rfl) hP hS (fun _ h => h) rfl hl.1 rfl (Nat.le_of_ble_eq_true rfl) ⟨Nat.zero_le _, Nat.zero_le _⟩ dX5_append_31 (fun H locs hP hS _ _ => ?_)
      refine lv_if_eq (tgt := 39) hx hb dX5_append_34 (by decide) (fun c6 => ?_) (fun c6 => ?_)
      · replace h := (if_pos c6).symm.trans h
        refine lv_aload_n hx hb dX5_append_39 rfl (lv_at hl 0 rfl) ?_
        refine va_get (D := D) (ci := 5) (v := .ref (q + 1)) (C := RX5) (T := TX5) (N := 15) hx hb hts hinX5 hown hK hP 0 rfl rfl 1 (by decide) hf7 (fun _ h9 => h9) rfl dX5_append_40 ?_
        refine lv_aload_n hx hb dX5_append_43 rfl (lv_at hl 0 rfl) ?_
        refine va_get (D := D) (ci := 5) (v := .int (mSize r31.2)) (C := RX5) (T := TX5) (N := 15) hx hb hts hinX5 hown hK hP 0 rfl rfl 2 (by decide) hf94 (fun _ h9 => h9) rfl dX5_append_44 ?_
        refine lv_iload_n hx hb dX5_append_47 rfl (lv_at hl 1 rfl) ?_
        obtain ⟨hg7, h⟩ := gd_some h
        refine g_iast (f := ((mA r31.2) 1)) (k := ((mSize r31.2)).toNatClampNeg) hx hb hK hP MW_self hS 1 0 rfl rfl hg7 rfl dX5_append_48 (fun H locs hP hS => ?_)
        obtain ⟨a8, ha8, h⟩ := lt_some h
        have hP : va_P D vwCl (MW cI cZ q (a8, (mRef r31.2), (mSize r31.2), (mSpot r31.2), (mRN r31.2), (mN r31.2), (mActs r31.2))) H := by have h9 := hP; rw [MW_s1] at h9; rw [ha8]; exact h9
        refine lv_aload_n hx hb dX5_append_49 rfl (lv_at hl 0 rfl) ?_
        refine lv_dup hx hb dX5_append_50 rfl ?_
        refine va_get (D := D) (ci := 5) (v := .int (mSize r31.2)) (C := RX5) (T := TX5) (N := 15) hx hb hts hinX5 hown hK hP 0 rfl rfl 2 (by decide) hf94 (fun _ h9 => h9) rfl dX5_append_51 ?_
        refine lv_iconst (v := 1) hx hb dX5_append_54 (by decide) ?_
        refine lv_iadd hx hb dX5_append_55 ?_
        refine va_put (D := D) (ci := 5) (v := .int ((mSize r31.2) + 1)) (ty := .int) (C := RX5) (T := TX5) (N := 15) hx hb hts hinX5 tyX5 tyX5_ok nmX5 hown hK hP MW_self hS 0 rfl rfl 2 (by decide) hf94 (fun _ h9 => h9) rfl (by decide +kernel) rfl rfl (Nat.le_of_ble_eq_true rfl) dX5_append_56 (fun H locs hP _ hS => ?_)
        have hP : va_P D vwCl (MW cI cZ q (a8, (mRef r31.2), ((mSize r31.2) + 1), (mSpot r31.2), (mRN r31.2), (mN r31.2), (mActs r31.2))) H := hP
        refine lv_aload_n hx hb dX5_append_59 rfl (lv_at hl 0 rfl) ?_
        refine va_get (D := D) (ci := 5) (v := .int ((mSize r31.2) + 1)) (C := RX5) (T := TX5) (N := 15) hx hb hts hinX5 hown hK hP 0 rfl rfl 2 (by decide) hf94 (fun _ h9 => h9) rfl dX5_append_60 ?_
        have h := Option.some.inj h
        subst h
        exact W.iret (v := ((mSize r31.2) + 1)) hx hb hr (fun t ht hW => ⟨⟨_, (), rfl, rfl, gh ht hP⟩, hS.F ht⟩) hS.2.2 dX5_append_63
      · replace h := (if_neg c6).symm.trans h
        refine lv_iconst (v := 0) hx hb dX5_append_37 (by decide) ?_
        have h := Option.some.inj h
        subst h
        exact W.iret (v := 0) hx hb hr (fun t ht hW => ⟨⟨_, (), rfl, rfl, gh ht hP⟩, hS.F ht⟩) hS.2.2 dX5_append_38
  · replace h := (if_pos c1).symm.trans h
    refine lv_iconst (v := 1) hx hb dX5_append_13 (by decide) ?_
    refine lv_goto (tgt := 31) hx hb dX5_append_14 (by decide) ?_
    obtain ⟨r31, hr31, h⟩ := bd_some h
    refine gc_wi (As := [.int 1]) (rest := []) ⟨hx, hb, hml, hown, hts⟩ hK (kX5_refused l D cI cC cZ cQ cJ q M 1 hr31) (cwV 1 hts gX5_append_X5_refused rfl rfl rfl (by decide +kernel) ⟨Nat.le_of_ble_eq_true rfl, Nat.le_of_ble_eq_true rfl⟩) (va_recv hK hP (ci := 5) (q0 := 0) rfl rfl) hP hS (fun _ h => h) rfl hl.1 rfl (Nat.le_of_ble_eq_true rfl) ⟨Nat.zero_le _, Nat.zero_le _⟩ dX5_append_31 (fun H locs hP hS _ _ => ?_)
    refine lv_if_eq (tgt := 39) hx hb dX5_append_34 (by decide) (fun c9 => ?_) (fun c9 => ?_)
    · replace h := (if_pos c9).symm.trans h
      refine lv_aload_n hx hb dX5_append_39 rfl (lv_at hl 0 rfl) ?_
      refine va_get (D := D) (ci := 5) (v := .ref (q + 1)) (C := RX5) (T := TX5) (N := 15) hx hb hts hinX5 hown hK hP 0 rfl rfl 1 (by decide) hf7 (fun _ h9 => h9) rfl dX5_append_40 ?_
      refine lv_aload_n hx hb dX5_append_43 rfl (lv_at hl 0 rfl) ?_
      refine va_get (D := D) (ci := 5) (v := .int (mSize r31.2)) (C := RX5) (T := TX5) (N := 15) hx hb hts hinX5 hown hK hP 0 rfl rfl 2 (by decide) hf94 (fun _ h9 => h9) rfl dX5_append_44 ?_
      refine lv_iload_n hx hb dX5_append_47 rfl (lv_at hl 1 rfl) ?_
      obtain ⟨hg10, h⟩ := gd_some h
      refine g_iast (f := ((mA r31.2) 1)) (k := ((mSize r31.2)).toNatClampNeg) hx hb hK hP MW_self hS 1 0 rfl rfl hg10 rfl dX5_append_48 (fun H locs hP hS => ?_)
      obtain ⟨a11, ha11, h⟩ := lt_some h
      have hP : va_P D vwCl (MW cI cZ q (a11, (mRef r31.2), (mSize r31.2), (mSpot r31.2), (mRN r31.2), (mN r31.2), (mActs r31.2))) H := by have h9 := hP; rw [MW_s1] at h9; rw [ha11]; exact h9
      refine lv_aload_n hx hb dX5_append_49 rfl (lv_at hl 0 rfl) ?_
      refine lv_dup hx hb dX5_append_50 rfl ?_
      refine va_get (D := D) (ci := 5) (v := .int (mSize r31.2)) (C := RX5) (T := TX5) (N := 15) hx hb hts hinX5 hown hK hP 0 rfl rfl 2 (by decide) hf94 (fun _ h9 => h9) rfl dX5_append_51 ?_
      refine lv_iconst (v := 1) hx hb dX5_append_54 (by decide) ?_
      refine lv_iadd hx hb dX5_append_55 ?_
      refine va_put (D := D) (ci := 5) (v := .int ((mSize r31.2) + 1)) (ty := .int) (C := RX5) (T := TX5) (N := 15) hx hb hts hinX5 tyX5 tyX5_ok nmX5 hown hK hP MW_self hS 0 rfl rfl 2 (by decide) hf94 (fun _ h9 => h9) rfl (by decide +kernel) rfl rfl (Nat.le_of_ble_eq_true rfl) dX5_append_56 (fun H locs hP _ hS => ?_)
      have hP : va_P D vwCl (MW cI cZ q (a11, (mRef r31.2), ((mSize r31.2) + 1), (mSpot r31.2), (mRN r31.2), (mN r31.2), (mActs r31.2))) H := hP
      refine lv_aload_n hx hb dX5_append_59 rfl (lv_at hl 0 rfl) ?_
      refine va_get (D := D) (ci := 5) (v := .int ((mSize r31.2) + 1)) (C := RX5) (T := TX5) (N := 15) hx hb hts hinX5 hown hK hP 0 rfl rfl 2 (by decide) hf94 (fun _ h9 => h9) rfl dX5_append_60 ?_
      have h := Option.some.inj h
      subst h
      exact W.iret (v := ((mSize r31.2) + 1)) hx hb hr (fun t ht hW => ⟨⟨_, (), rfl, rfl, gh ht hP⟩, hS.F ht⟩) hS.2.2 dX5_append_63
    · replace h := (if_neg c9).symm.trans h
      refine lv_iconst (v := 0) hx hb dX5_append_37 (by decide) ?_
      have h := Option.some.inj h
      subst h
      exact W.iret (v := 0) hx hb hr (fun t ht hW => ⟨⟨_, (), rfl, rfl, gh ht hP⟩, hS.F ht⟩) hS.2.2 dX5_append_38
set_option maxHeartbeats 4000000 in
set_option maxRecDepth 100000 in
theorem kX5_clearText (l : Launch) (D : va_G) (cI cC cZ cQ cJ : ClassId) (q : Nat) (M : MSt) {R : Int32 × MSt} (h : fX5_clearText M = some R) : Met l yX5_clearText wsX5_clearText ({ frames := 0, cells := 0, slots := 0, locals := 0 } : Room) (va_Pc [.ref q] (gB D (gTy cI cC cZ cQ cJ) (va_P D vwCl (MW cI cZ q M)))) (va_Qi (fun r (_ : Unit) => r = R.1) (fun _ t => va_P D vwCl (MW cI cZ q R.2) t.heap) (fIv q 10)) 0 0 (fIv q 10) := by
  refine Met.ofW (cc := cX5_clearText) (maxL := 2) (ret := (some .int)) (by decide) rfl ?_
  intro p e s m args below meth c s₁ B hml hv
  obtain ⟨rfl, hP, hK⟩ := hv
  have hx := B.exec
  have hb := B.bytes
  have hr := B.returns
  have hts := atoms_spec (ws := wsX5_clearText) B.pre
  have hown : s.vm.findClass RX5 = some m.cls := findClass_of_methodNamed B.named
  have hlocks := B.notSynchronized
  have hinX5 : ∀ w ∈ wsX50, w ∈ wsX5_clearText := by decide +kernel
  have hf42 := hts (.fieldLink RX5 42 "GripInspectorModel" "refusal" "I") (by decide +kernel)
  have hf94 := hts (.fieldLink RX5 94 "GripInspectorModel" "scriptSize" "I") (by decide +kernel)
  generalize hRM : (headSpec wsX5_clearText ({ frames := 0, cells := 0, slots := 0, locals := 0 } : Room)).room = RM
  replace hRM : ({ frames := 0, cells := 0, slots := 0, locals := 0 } : Room) = RM := hRM
  subst hRM
  have hl := lv_entry ([.ref q]) (n := 2) (Nat.le_of_ble_eq_true rfl)
  rw [lg_entry_eq]
  generalize (lg_sl ([.ref q]) ++ List.replicate (2 - (lg_sl ([.ref q])).length) Slot.unset).toArray = ls at hl ⊢
  have hl : lv_has ls 2 [(0, .ref q)] := hl
  have hS : va_S (fIv q 10) s.heap s.heap [] := va_S.rf
  unfold fX5_clearText at h
  obtain ⟨H, hH⟩ : ∃ H, H = s.heap := ⟨_, rfl⟩
  obtain ⟨locs, hlz⟩ : ∃ z : List Loc, z = [] := ⟨_, rfl⟩
  have hP : va_P D vwCl (MW cI cZ q M) H := by rw [hH]; exact hP
  have hS : va_S (fIv q 10) s.heap H locs := by rw [hH, hlz]; exact hS
  refine gc_at hH hlz ?_
  refine lv_aload_n hx hb dX5_clearText_0 rfl (lv_at hl 0 rfl) ?_
  refine lv_iconst (v := 0) hx hb dX5_clearText_1 (by decide) ?_
  refine va_put (D := D) (ci := 5) (v := .int 0) (ty := .int) (C := RX5) (T := TX5) (N := 15) hx hb hts hinX5 tyX5 tyX5_ok nmX5 hown hK hP MW_self hS 0 rfl rfl 0 (by decide) hf42 (fun _ h9 => h9) rfl (by decide +kernel) rfl rfl (Nat.le_of_ble_eq_true rfl) dX5_clearText_2 (fun H locs hP _ hS => ?_)
  have hP : va_P D vwCl (MW cI cZ q ((mA M), 0, (mSize M), (mSpot M), (mRN M), (mN M), (mActs M))) H := hP
  refine lv_aload_n hx hb dX5_clearText_5 rfl (lv_at hl 0 rfl) ?_
  refine va_get (D := D) (ci := 5) (v := .int (mSize M)) (C := RX5) (T := TX5) (N := 15) hx hb hts hinX5 hown hK hP 0 rfl rfl 2 (by decide) hf94 (fun _ h9 => h9) rfl dX5_clearText_6 ?_
  refine lv_istore_n (lv' := [(1, .int (mSize M)), (0, .ref q)]) hx hb dX5_clearText_9 rfl hl (by decide) rfl (fun ls hl => ?_)
  refine lv_aload_n hx hb dX5_clearText_10 rfl (lv_at hl 1 rfl) ?_
  refine lv_iconst (v := 0) hx hb dX5_clearText_11 (by decide) ?_
  refine va_put (D := D) (ci := 5) (v := .int 0) (ty := .int) (C := RX5) (T := TX5) (N := 15) hx hb hts hinX5 tyX5 tyX5_ok nmX5 hown hK hP MW_self hS 0 rfl rfl 2 (by decide) hf94 (fun _ h9 => h9) rfl (by decide +kernel) rfl rfl (Nat.le_of_ble_eq_true rfl) dX5_clearText_12 (fun H locs hP _ hS => ?_)
  have hP : va_P D vwCl (MW cI cZ q ((mA M), 0, 0, (mSpot M), (mRN M), (mN M), (mActs M))) H := hP
  refine lv_iload_n hx hb dX5_clearText_15 rfl (lv_at hl 0 rfl) ?_
  have h := Option.some.inj h
  subst h
  exact W.iret (v := (mSize M)) hx hb hr (fun t ht hW => ⟨⟨_, (), rfl, rfl, gh ht hP⟩, hS.F ht⟩) hS.2.2 dX5_clearText_16
set_option maxHeartbeats 4000000 in
set_option maxRecDepth 100000 in
theorem kX5_digit (l : Launch) (D : va_G) (cI cC cZ cQ cJ : ClassId) (q : Nat) (M : MSt) (p0 : Int32) (p1 : Int32) {R : Int32 × MSt} (h : fX5_digit M p0 p1 = some R) : Met l yX5_digit wsX5_digit ({ frames := 1, cells := 0, slots := 0, locals := 25 } : Room) (va_Pc [.ref q, .int p0, .int p1] (gB D (gTy cI cC cZ cQ cJ) (va_P D vwCl (MW cI cZ q M)))) (va_Qi (fun r (_ : Unit) => r = R.1) (fun _ t => va_P D vwCl (MW cI cZ q R.2) t.heap) (fIv q 10)) 0 0 (fIv q 10) := by
  refine Met.ofW (cc := cX5_digit) (maxL := 4) (ret := (some .int)) (by decide) rfl ?_
  intro p e s m args below meth c s₁ B hml hv
  obtain ⟨rfl, hP, hK⟩ := hv
  have hx := B.exec
  have hb := B.bytes
  have hr := B.returns
  have hts := atoms_spec (ws := wsX5_digit) B.pre
  have hown : s.vm.findClass RX5 = some m.cls := findClass_of_methodNamed B.named
  have hlocks := B.notSynchronized
  have hinX5 : ∀ w ∈ wsX50, w ∈ wsX5_digit := by decide +kernel
  have hf101 := hts (.fieldLink RX5 101 "GripInspectorModel" "spot" "I") (by decide +kernel)
  have hf94 := hts (.fieldLink RX5 94 "GripInspectorModel" "scriptSize" "I") (by decide +kernel)
  have hf7 := hts (.fieldLink RX5 7 "GripInspectorModel" "script" "[I") (by decide +kernel)
  generalize hRM : (headSpec wsX5_digit ({ frames := 1, cells := 0, slots := 0, locals := 25 } : Room)).room = RM
  replace hRM : ({ frames := 1, cells := 0, slots := 0, locals := 25 } : Room) = RM := hRM
  subst hRM
  have hl := lv_entry ([.ref q, .int p0, .int p1]) (n := 4) (Nat.le_of_ble_eq_true rfl)
  rw [lg_entry_eq]
  generalize (lg_sl ([.ref q, .int p0, .int p1]) ++ List.replicate (4 - (lg_sl ([.ref q, .int p0, .int p1])).length) Slot.unset).toArray = ls at hl ⊢
  have hl : lv_has ls 4 [(0, .ref q), (1, .int p0), (2, .int p1)] := hl
  have hS : va_S (fIv q 10) s.heap s.heap [] := va_S.rf
  unfold fX5_digit at h
  obtain ⟨H, hH⟩ : ∃ H, H = s.heap := ⟨_, rfl⟩
  obtain ⟨locs, hlz⟩ : ∃ z : List Loc, z = [] := ⟨_, rfl⟩
  have hP : va_P D vwCl (MW cI cZ q M) H := by rw [hH]; exact hP
  have hS : va_S (fIv q 10) s.heap H locs := by rw [hH, hlz]; exact hS
  refine gc_at hH hlz ?_
  refine lv_aload_n hx hb dX5_digit_0 rfl (lv_at hl 0 rfl) ?_
  refine va_get (D := D) (ci := 5) (v := .int (mSpot M)) (C := RX5) (T := TX5) (N := 15) hx hb hts hinX5 hown hK hP 0 rfl rfl 3 (by decide) hf101 (fun _ h9 => h9) rfl dX5_digit_1 ?_
  refine lv_aload_n hx hb dX5_digit_4 rfl (lv_at hl 0 rfl) ?_
  refine va_get (D := D) (ci := 5) (v := .int (mSize M)) (C := RX5) (T := TX5) (N := 15) hx hb hts hinX5 hown hK hP 0 rfl rfl 2 (by decide) hf94 (fun _ h9 => h9) rfl dX5_digit_5 ?_
  refine lv_icmp_ge (tgt := 26) hx hb dX5_digit_8 (by decide) (fun c1 => ?_) (fun c1 => ?_)
  · replace h := (if_pos c1).symm.trans h
    refine lv_bipush (v := (-9)) hx hb dX5_digit_26 (by decide) ?_
    refine lv_istore_n (lv' := [(3, .int (-9)), (0, .ref q), (1, .int p0), (2, .int p1)]) hx hb dX5_digit_28 rfl hl (by decide) rfl (fun ls hl => ?_)
    refine lv_iload_n hx hb dX5_digit_29 rfl (lv_at hl 0 rfl) ?_
    refine lv_i2l hx hb dX5_digit_30 rfl ?_
    refine lv_iload_n hx hb dX5_digit_31 rfl (lv_at hl 2 rfl) ?_
    refine lv_i2l hx hb dX5_digit_32 rfl ?_
    refine lv_iload_n hx hb dX5_digit_33 rfl (lv_at hl 3 rfl) ?_
    refine lv_i2l hx hb dX5_digit_34 rfl ?_
    obtain ⟨r35, hr35, h⟩ := bd_some h
    refine gc_si (As := [.long (((-9) : Int32).toInt64), .long ((p0).toInt64), .long ((p1).toInt64)]) (rest := []) ⟨hx, hb, hml, hown, hts⟩ hK (kX5_in l D cI cC cZ cQ cJ (((-9) : Int32).toInt64) ((p0).toInt64) ((p1).toInt64) hr35) (va_cwS 3 hts gX5_digit_X5_in rfl rfl rfl (by decide +kernel) ⟨Nat.le_of_ble_eq_true rfl, Nat.le_of_ble_eq_true rfl⟩)  trivial rfl hl.1 rfl (Nat.le_of_ble_eq_true rfl) ⟨Nat.zero_le _, Nat.zero_le _⟩ dX5_digit_35 ?_
    refine lv_if_ne (tgt := 44) hx hb dX5_digit_38 (by decide) (fun c2 => ?_) (fun c2 => ?_)
    · replace h := (if_neg c2).symm.trans h
      refine lv_aload_n hx hb dX5_digit_44 rfl (lv_at hl 1 rfl) ?_
      refine lv_dup hx hb dX5_digit_45 rfl ?_
      refine va_get (D := D) (ci := 5) (v := .int (mSpot M)) (C := RX5) (T := TX5) (N := 15) hx hb hts hinX5 hown hK hP 0 rfl rfl 3 (by decide) hf101 (fun _ h9 => h9) rfl dX5_digit_46 ?_
      refine lv_iconst (v := 1) hx hb dX5_digit_49 (by decide) ?_
      refine lv_iadd hx hb dX5_digit_50 ?_
      refine va_put (D := D) (ci := 5) (v := .int ((mSpot M) + 1)) (ty := .int) (C := RX5) (T := TX5) (N := 15) hx hb hts hinX5 tyX5 tyX5_ok nmX5 hown hK hP MW_self hS 0 rfl rfl 3 (by decide) hf101 (fun _ h9 => h9) rfl (by decide +kernel) rfl rfl (Nat.le_of_ble_eq_true rfl) dX5_digit_51 (fun H locs hP _ hS => ?_)
      have hP : va_P D vwCl (MW cI cZ q ((mA M), (mRef M), (mSize M), ((mSpot M) + 1), (mRN M), (mN M), (mActs M))) H := hP
      refine lv_iload_n hx hb dX5_digit_54 rfl (lv_at hl 0 rfl) ?_
      have h := Option.some.inj h
      subst h
      exact W.iret (v := (-9)) hx hb hr (fun t ht hW => ⟨⟨_, (), rfl, rfl, gh ht hP⟩, hS.F ht⟩) hS.2.2 dX5_digit_55
    · replace h := (if_pos c2).symm.trans h
      refine lv_bipush (v := (-9)) hx hb dX5_digit_41 (by decide) ?_
      have h := Option.some.inj h
      subst h
      exact W.iret (v := (-9)) hx hb hr (fun t ht hW => ⟨⟨_, (), rfl, rfl, gh ht hP⟩, hS.F ht⟩) hS.2.2 dX5_digit_43
  · replace h := (if_neg c1).symm.trans h
    refine lv_aload_n hx hb dX5_digit_11 rfl (lv_at hl 0 rfl) ?_
    refine va_get (D := D) (ci := 5) (v := .ref (q + 1)) (C := RX5) (T := TX5) (N := 15) hx hb hts hinX5 hown hK hP 0 rfl rfl 1 (by decide) hf7 (fun _ h9 => h9) rfl dX5_digit_12 ?_
    refine lv_aload_n hx hb dX5_digit_15 rfl (lv_at hl 0 rfl) ?_
    refine va_get (D := D) (ci := 5) (v := .int (mSpot M)) (C := RX5) (T := TX5) (N := 15) hx hb hts hinX5 hown hK hP 0 rfl rfl 3 (by decide) hf101 (fun _ h9 => h9) rfl dX5_digit_16 ?_
    obtain ⟨hg3, h⟩ := gd_some h
    refine g_iald (f := ((mA M) 1)) (k := ((mSpot M)).toNatClampNeg) hx hb hK hP 1 0 rfl rfl hg3 rfl dX5_digit_19 ?_
    refine lv_bipush (v := 48) hx hb dX5_digit_20 (by decide) ?_
    refine lv_isub hx hb dX5_digit_22 ?_
    refine lv_goto (tgt := 28) hx hb dX5_digit_23 (by decide) ?_
    refine lv_istore_n (lv' := [(3, .int ((((mA M) 1) ((mSpot M)).toNatClampNeg) - 48)), (0, .ref q), (1, .int p0), (2, .int p1)]) hx hb dX5_digit_28 rfl hl (by decide) rfl (fun ls hl => ?_)
    refine lv_iload_n hx hb dX5_digit_29 rfl (lv_at hl 0 rfl) ?_
    refine lv_i2l hx hb dX5_digit_30 rfl ?_
    refine lv_iload_n hx hb dX5_digit_31 rfl (lv_at hl 2 rfl) ?_
    refine lv_i2l hx hb dX5_digit_32 rfl ?_
    refine lv_iload_n hx hb dX5_digit_33 rfl (lv_at hl 3 rfl) ?_
    refine lv_i2l hx hb dX5_digit_34 rfl ?_
    obtain ⟨r35, hr35, h⟩ := bd_some h
    refine gc_si (As := [.long ((((((mA M) 1) ((mSpot M)).toNatClampNeg) - 48)).toInt64), .long ((p0).toInt64), .long ((p1).toInt64)]) (rest := []) ⟨hx, hb, hml, hown, hts⟩ hK (kX5_in l D cI cC cZ cQ cJ ((((((mA M) 1) ((mSpot M)).toNatClampNeg) - 48)).toInt64) ((p0).toInt64) ((p1).toInt64) hr35) (va_cwS 3 hts gX5_digit_X5_in rfl rfl rfl (by decide +kernel) ⟨Nat.le_of_ble_eq_true rfl, Nat.le_of_ble_eq_true rfl⟩)  trivial rfl hl.1 rfl (Nat.le_of_ble_eq_true rfl) ⟨Nat.zero_le _, Nat.zero_le _⟩ dX5_digit_35 ?_
    refine lv_if_ne (tgt := 44) hx hb dX5_digit_38 (by decide) (fun c4 => ?_) (fun c4 => ?_)
    · replace h := (if_neg c4).symm.trans h
      refine lv_aload_n hx hb dX5_digit_44 rfl (lv_at hl 1 rfl) ?_
      refine lv_dup hx hb dX5_digit_45 rfl ?_
      refine va_get (D := D) (ci := 5) (v := .int (mSpot M)) (C := RX5) (T := TX5) (N := 15) hx hb hts hinX5 hown hK hP 0 rfl rfl 3 (by decide) hf101 (fun _ h9 => h9) rfl dX5_digit_46 ?_
      refine lv_iconst (v := 1) hx hb dX5_digit_49 (by decide) ?_
      refine lv_iadd hx hb dX5_digit_50 ?_
      refine va_put (D := D) (ci := 5) (v := .int ((mSpot M) + 1)) (ty := .int) (C := RX5) (T := TX5) (N := 15) hx hb hts hinX5 tyX5 tyX5_ok nmX5 hown hK hP MW_self hS 0 rfl rfl 3 (by decide) hf101 (fun _ h9 => h9) rfl (by decide +kernel) rfl rfl (Nat.le_of_ble_eq_true rfl) dX5_digit_51 (fun H locs hP _ hS => ?_)
      have hP : va_P D vwCl (MW cI cZ q ((mA M), (mRef M), (mSize M), ((mSpot M) + 1), (mRN M), (mN M), (mActs M))) H := hP
      refine lv_iload_n hx hb dX5_digit_54 rfl (lv_at hl 0 rfl) ?_
      have h := Option.some.inj h
      subst h
      exact W.iret (v := ((((mA M) 1) ((mSpot M)).toNatClampNeg) - 48)) hx hb hr (fun t ht hW => ⟨⟨_, (), rfl, rfl, gh ht hP⟩, hS.F ht⟩) hS.2.2 dX5_digit_55
    · replace h := (if_pos c4).symm.trans h
      refine lv_bipush (v := (-9)) hx hb dX5_digit_41 (by decide) ?_
      have h := Option.some.inj h
      subst h
      exact W.iret (v := (-9)) hx hb hr (fun t ht hW => ⟨⟨_, (), rfl, rfl, gh ht hP⟩, hS.F ht⟩) hS.2.2 dX5_digit_43
set_option maxHeartbeats 4000000 in
set_option maxRecDepth 100000 in
theorem kX5_two (l : Launch) (D : va_G) (cI cC cZ cQ cJ : ClassId) (q : Nat) (M : MSt) (p0 : Int32) (p1 : Int32) {R : Int32 × MSt} (h : fX5_two M p0 p1 = some R) : Met l yX5_two wsX5_two ({ frames := 2, cells := 0, slots := 0, locals := 48 } : Room) (va_Pc [.ref q, .int p0, .int p1] (gB D (gTy cI cC cZ cQ cJ) (va_P D vwCl (MW cI cZ q M)))) (va_Qi (fun r (_ : Unit) => r = R.1) (fun _ t => va_P D vwCl (MW cI cZ q R.2) t.heap) (fIv q 10)) 0 0 (fIv q 10) := by
  refine Met.ofW (cc := cX5_two) (maxL := 5) (ret := (some .int)) (by decide) rfl ?_
  intro p e s m args below meth c s₁ B hml hv
  obtain ⟨rfl, hP, hK⟩ := hv
  have hx := B.exec
  have hb := B.bytes
  have hr := B.returns
  have hts := atoms_spec (ws := wsX5_two) B.pre
  have hown : s.vm.findClass RX5 = some m.cls := findClass_of_methodNamed B.named
  have hlocks := B.notSynchronized
  generalize hRM : (headSpec wsX5_two ({ frames := 2, cells := 0, slots := 0, locals := 48 } : Room)).room = RM
  replace hRM : ({ frames := 2, cells := 0, slots := 0, locals := 48 } : Room) = RM := hRM
  subst hRM
  have hl := lv_entry ([.ref q, .int p0, .int p1]) (n := 5) (Nat.le_of_ble_eq_true rfl)
  rw [lg_entry_eq]
  generalize (lg_sl ([.ref q, .int p0, .int p1]) ++ List.replicate (5 - (lg_sl ([.ref q, .int p0, .int p1])).length) Slot.unset).toArray = ls at hl ⊢
  have hl : lv_has ls 5 [(0, .ref q), (1, .int p0), (2, .int p1)] := hl
  have hS : va_S (fIv q 10) s.heap s.heap [] := va_S.rf
  unfold fX5_two at h
  obtain ⟨H, hH⟩ : ∃ H, H = s.heap := ⟨_, rfl⟩
  obtain ⟨locs, hlz⟩ : ∃ z : List Loc, z = [] := ⟨_, rfl⟩
  have hP : va_P D vwCl (MW cI cZ q M) H := by rw [hH]; exact hP
  have hS : va_S (fIv q 10) s.heap H locs := by rw [hH, hlz]; exact hS
  refine gc_at hH hlz ?_
  refine lv_aload_n hx hb dX5_two_0 rfl (lv_at hl 0 rfl) ?_
  refine lv_iload_n hx hb dX5_two_1 rfl (lv_at hl 1 rfl) ?_
  refine lv_bipush (v := 10) hx hb dX5_two_2 (by decide) ?_
  refine lv_idiv hx hb dX5_two_4 (by decide) ?_
  refine lv_iload_n hx hb dX5_two_5 rfl (lv_at hl 2 rfl) ?_
  refine lv_bipush (v := 10) hx hb dX5_two_6 (by decide) ?_
  refine lv_idiv hx hb dX5_two_8 (by decide) ?_
  obtain ⟨r9, hr9, h⟩ := bd_some h
  refine gc_wi (As := [.int (p0 / 10), .int (p1 / 10)]) (rest := []) ⟨hx, hb, hml, hown, hts⟩ hK (kX5_digit l D cI cC cZ cQ cJ q M (p0 / 10) (p1 / 10) hr9) (cwV 2 hts gX5_two_X5_digit rfl rfl rfl (by decide +kernel) ⟨Nat.le_of_ble_eq_true rfl, Nat.le_of_ble_eq_true rfl⟩) (va_recv hK hP (ci := 5) (q0 := 0) rfl rfl) hP hS (fun _ h => h) rfl hl.1 rfl (Nat.le_of_ble_eq_true rfl) ⟨Nat.zero_le _, Nat.zero_le _⟩ dX5_two_9 (fun H locs hP hS _ _ => ?_)
  refine lv_istore_n (lv' := [(3, .int r9.1), (0, .ref q), (1, .int p0), (2, .int p1)]) hx hb dX5_two_12 rfl hl (by decide) rfl (fun ls hl => ?_)
  refine lv_iload_n hx hb dX5_two_13 rfl (lv_at hl 0 rfl) ?_
  refine lv_bipush (v := (-9)) hx hb dX5_two_14 (by decide) ?_
  refine lv_icmp_ne (tgt := 24) hx hb dX5_two_16 (by decide) (fun c1 => ?_) (fun c1 => ?_)
  · replace h := (if_neg c1).symm.trans h
    refine lv_aload_n hx hb dX5_two_24 rfl (lv_at hl 1 rfl) ?_
    refine lv_iload_n hx hb dX5_two_25 rfl (lv_at hl 0 rfl) ?_
    refine lv_iload_n hx hb dX5_two_26 rfl (lv_at hl 2 rfl) ?_
    refine lv_bipush (v := 10) hx hb dX5_two_27 (by decide) ?_
    refine lv_idiv hx hb dX5_two_29 (by decide) ?_
    refine lv_icmp_ne (tgt := 40) hx hb dX5_two_30 (by decide) (fun c2 => ?_) (fun c2 => ?_)
    · replace h := (if_neg c2).symm.trans h
      refine lv_iconst (v := 0) hx hb dX5_two_40 (by decide) ?_
      refine lv_iload_n hx hb dX5_two_41 rfl (lv_at hl 0 rfl) ?_
      refine lv_iload_n hx hb dX5_two_42 rfl (lv_at hl 3 rfl) ?_
      refine lv_bipush (v := 10) hx hb dX5_two_43 (by decide) ?_
      refine lv_idiv hx hb dX5_two_45 (by decide) ?_
      refine lv_icmp_ne (tgt := 56) hx hb dX5_two_46 (by decide) (fun c3 => ?_) (fun c3 => ?_)
      · replace h := (if_neg c3).symm.trans h
        refine lv_bipush (v := 9) hx hb dX5_two_56 (by decide) ?_
        obtain ⟨r58, hr58, h⟩ := bd_some h
        refine gc_wi (As := [.int 0, .int 9]) (rest := []) ⟨hx, hb, hml, hown, hts⟩ hK (kX5_digit l D cI cC cZ cQ cJ q r9.2 0 9 hr58) (cwV 2 hts gX5_two_X5_digit rfl rfl rfl (by decide +kernel) ⟨Nat.le_of_ble_eq_true rfl, Nat.le_of_ble_eq_true rfl⟩) (va_recv hK hP (ci := 5) (q0 := 0) rfl rfl) hP hS (fun _ h => h) rfl hl.1 rfl (Nat.le_of_ble_eq_true rfl) ⟨Nat.zero_le _, Nat.zero_le _⟩ dX5_two_58 (fun H locs hP hS _ _ => ?_)
        refine lv_istore (lv' := [(4, .int r58.1), (3, .int r9.1), (0, .ref q), (1, .int p0), (2, .int p1)]) hx hb dX5_two_61 hl (by decide) rfl (fun ls hl => ?_)
        refine lv_iload hx hb dX5_two_63 (lv_at hl 0 rfl) ?_
        refine lv_bipush (v := (-9)) hx hb dX5_two_65 (by decide) ?_
        refine lv_icmp_ne (tgt := 75) hx hb dX5_two_67 (by decide) (fun c4 => ?_) (fun c4 => ?_)
        · replace h := (if_neg c4).symm.trans h
          refine lv_bipush (v := 10) hx hb dX5_two_75 (by decide) ?_
          refine lv_iload_n hx hb dX5_two_77 rfl (lv_at hl 1 rfl) ?_
          refine lv_imul hx hb dX5_two_78 ?_
          refine lv_iload hx hb dX5_two_79 (lv_at hl 0 rfl) ?_
          refine lv_iadd hx hb dX5_two_81 ?_
          have h := Option.some.inj h
          subst h
          exact W.iret (v := ((10 * r9.1) + r58.1)) hx hb hr (fun t ht hW => ⟨⟨_, (), rfl, rfl, gh ht hP⟩, hS.F ht⟩) hS.2.2 dX5_two_82
        · replace h := (if_pos c4).symm.trans h
          refine lv_bipush (v := (-9)) hx hb dX5_two_70 (by decide) ?_
          refine lv_goto (tgt := 82) hx hb dX5_two_72 (by decide) ?_
          have h := Option.some.inj h
          subst h
          exact W.iret (v := (-9)) hx hb hr (fun t ht hW => ⟨⟨_, (), rfl, rfl, gh ht hP⟩, hS.F ht⟩) hS.2.2 dX5_two_82
      · replace h := (if_pos c3).symm.trans h
        refine lv_iload_n hx hb dX5_two_49 rfl (lv_at hl 3 rfl) ?_
        refine lv_bipush (v := 10) hx hb dX5_two_50 (by decide) ?_
        refine lv_irem hx hb dX5_two_52 (by decide) ?_
        refine lv_goto (tgt := 58) hx hb dX5_two_53 (by decide) ?_
        obtain ⟨r58, hr58, h⟩ := bd_some h
        refine gc_wi (As := [.int 0, .int (p1 - p1 / 10 * 10)]) (rest := []) ⟨hx, hb, hml, hown, hts⟩ hK (kX5_digit l D cI cC cZ cQ cJ q r9.2 0 (p1 - p1 / 10 * 10) hr58) (cwV 2 hts gX5_two_X5_digit rfl rfl rfl (by decide +kernel) ⟨Nat.le_of_ble_eq_true rfl, Nat.le_of_ble_eq_true rfl⟩) (va_recv hK hP (ci := 5) (q0 := 0) rfl rfl) hP hS (fun _ h => h) rfl hl.1 rfl (Nat.le_of_ble_eq_true rfl) ⟨Nat.zero_le _, Nat.zero_le _⟩ dX5_two_58 (fun H locs hP hS _ _ => ?_)
        refine lv_istore (lv' := [(4, .int r58.1), (3, .int r9.1), (0, .ref q), (1, .int p0), (2, .int p1)]) hx hb dX5_two_61 hl (by decide) rfl (fun ls hl => ?_)
        refine lv_iload hx hb dX5_two_63 (lv_at hl 0 rfl) ?_
        refine lv_bipush (v := (-9)) hx hb dX5_two_65 (by decide) ?_
        refine lv_icmp_ne (tgt := 75) hx hb dX5_two_67 (by decide) (fun c5 => ?_) (fun c5 => ?_)
        · replace h := (if_neg c5).symm.trans h
          refine lv_bipush (v := 10) hx hb dX5_two_75 (by decide) ?_
          refine lv_iload_n hx hb dX5_two_77 rfl (lv_at hl 1 rfl) ?_
          refine lv_imul hx hb dX5_two_78 ?_
          refine lv_iload hx hb dX5_two_79 (lv_at hl 0 rfl) ?_
          refine lv_iadd hx hb dX5_two_81 ?_
          have h := Option.some.inj h
          subst h
          exact W.iret (v := ((10 * r9.1) + r58.1)) hx hb hr (fun t ht hW => ⟨⟨_, (), rfl, rfl, gh ht hP⟩, hS.F ht⟩) hS.2.2 dX5_two_82
        · replace h := (if_pos c5).symm.trans h
          refine lv_bipush (v := (-9)) hx hb dX5_two_70 (by decide) ?_
          refine lv_goto (tgt := 82) hx hb dX5_two_72 (by decide) ?_
          have h := Option.some.inj h
          subst h
          exact W.iret (v := (-9)) hx hb hr (fun t ht hW => ⟨⟨_, (), rfl, rfl, gh ht hP⟩, hS.F ht⟩) hS.2.2 dX5_two_82
    · replace h := (if_pos c2).symm.trans h
      refine lv_iload_n hx hb dX5_two_33 rfl (lv_at hl 2 rfl) ?_
      refine lv_bipush (v := 10) hx hb dX5_two_34 (by decide) ?_
      refine lv_irem hx hb dX5_two_36 (by decide) ?_
      refine lv_goto (tgt := 41) hx hb dX5_two_37 (by decide) ?_
      refine lv_iload_n hx hb dX5_two_41 rfl (lv_at hl 0 rfl) ?_
      refine lv_iload_n hx hb dX5_two_42 rfl (lv_at hl 3 rfl) ?_
      refine lv_bipush (v := 10) hx hb dX5_two_43 (by decide) ?_
      refine lv_idiv hx hb dX5_two_45 (by decide) ?_
      refine lv_icmp_ne (tgt := 56) hx hb dX5_two_46 (by decide) (fun c6 => ?_) (fun c6 => ?_)
      · replace h := (if_neg c6).symm.trans h
        refine lv_bipush (v := 9) hx hb dX5_two_56 (by decide) ?_
        obtain ⟨r58, hr58, h⟩ := bd_some h
        refine gc_wi (As := [.int (p0 - p0 / 10 * 10), .int 9]) (rest := []) ⟨hx, hb, hml, hown, hts⟩ hK (kX5_digit l D cI cC cZ cQ cJ q r9.2 (p0 - p0 / 10 * 10) 9 hr58) (cwV 2 hts gX5_two_X5_digit rfl rfl rfl (by decide +kernel) ⟨Nat.le_of_ble_eq_true rfl, Nat.le_of_ble_eq_true rfl⟩) (va_recv hK hP (ci := 5) (q0 := 0) rfl rfl) hP hS (fun _ h => h) rfl hl.1 rfl (Nat.le_of_ble_eq_true rfl) ⟨Nat.zero_le _, Nat.zero_le _⟩ dX5_two_58 (fun H locs hP hS _ _ => ?_)
        refine lv_istore (lv' := [(4, .int r58.1), (3, .int r9.1), (0, .ref q), (1, .int p0), (2, .int p1)]) hx hb dX5_two_61 hl (by decide) rfl (fun ls hl => ?_)
        refine lv_iload hx hb dX5_two_63 (lv_at hl 0 rfl) ?_
        refine lv_bipush (v := (-9)) hx hb dX5_two_65 (by decide) ?_
        refine lv_icmp_ne (tgt := 75) hx hb dX5_two_67 (by decide) (fun c7 => ?_) (fun c7 => ?_)
        · replace h := (if_neg c7).symm.trans h
          refine lv_bipush (v := 10) hx hb dX5_two_75 (by decide) ?_
          refine lv_iload_n hx hb dX5_two_77 rfl (lv_at hl 1 rfl) ?_
          refine lv_imul hx hb dX5_two_78 ?_
          refine lv_iload hx hb dX5_two_79 (lv_at hl 0 rfl) ?_
          refine lv_iadd hx hb dX5_two_81 ?_
          have h := Option.some.inj h
          subst h
          exact W.iret (v := ((10 * r9.1) + r58.1)) hx hb hr (fun t ht hW => ⟨⟨_, (), rfl, rfl, gh ht hP⟩, hS.F ht⟩) hS.2.2 dX5_two_82
        · replace h := (if_pos c7).symm.trans h
          refine lv_bipush (v := (-9)) hx hb dX5_two_70 (by decide) ?_
          refine lv_goto (tgt := 82) hx hb dX5_two_72 (by decide) ?_
          have h := Option.some.inj h
          subst h
          exact W.iret (v := (-9)) hx hb hr (fun t ht hW => ⟨⟨_, (), rfl, rfl, gh ht hP⟩, hS.F ht⟩) hS.2.2 dX5_two_82
      · replace h := (if_pos c6).symm.trans h
        refine lv_iload_n hx hb dX5_two_49 rfl (lv_at hl 3 rfl) ?_
        refine lv_bipush (v := 10) hx hb dX5_two_50 (by decide) ?_
        refine lv_irem hx hb dX5_two_52 (by decide) ?_
        refine lv_goto (tgt := 58) hx hb dX5_two_53 (by decide) ?_
        obtain ⟨r58, hr58, h⟩ := bd_some h
        refine gc_wi (As := [.int (p0 - p0 / 10 * 10), .int (p1 - p1 / 10 * 10)]) (rest := []) ⟨hx, hb, hml, hown, hts⟩ hK (kX5_digit l D cI cC cZ cQ cJ q r9.2 (p0 - p0 / 10 * 10) (p1 - p1 / 10 * 10) hr58) (cwV 2 hts gX5_two_X5_digit rfl rfl rfl (by decide +kernel) ⟨Nat.le_of_ble_eq_true rfl, Nat.le_of_ble_eq_true rfl⟩) (va_recv hK hP (ci := 5) (q0 := 0) rfl rfl) hP hS (fun _ h => h) rfl hl.1 rfl (Nat.le_of_ble_eq_true rfl) ⟨Nat.zero_le _, Nat.zero_le _⟩ dX5_two_58 (fun H locs hP hS _ _ => ?_)
        refine lv_istore (lv' := [(4, .int r58.1), (3, .int r9.1), (0, .ref q), (1, .int p0), (2, .int p1)]) hx hb dX5_two_61 hl (by decide) rfl (fun ls hl => ?_)
        refine lv_iload hx hb dX5_two_63 (lv_at hl 0 rfl) ?_
        refine lv_bipush (v := (-9)) hx hb dX5_two_65 (by decide) ?_
        refine lv_icmp_ne (tgt := 75) hx hb dX5_two_67 (by decide) (fun c8 => ?_) (fun c8 => ?_)
        · replace h := (if_neg c8).symm.trans h
          refine lv_bipush (v := 10) hx hb dX5_two_75 (by decide) ?_
          refine lv_iload_n hx hb dX5_two_77 rfl (lv_at hl 1 rfl) ?_
          refine lv_imul hx hb dX5_two_78 ?_
          refine lv_iload hx hb dX5_two_79 (lv_at hl 0 rfl) ?_
          refine lv_iadd hx hb dX5_two_81 ?_
          have h := Option.some.inj h
          subst h
          exact W.iret (v := ((10 * r9.1) + r58.1)) hx hb hr (fun t ht hW => ⟨⟨_, (), rfl, rfl, gh ht hP⟩, hS.F ht⟩) hS.2.2 dX5_two_82
        · replace h := (if_pos c8).symm.trans h
          refine lv_bipush (v := (-9)) hx hb dX5_two_70 (by decide) ?_
          refine lv_goto (tgt := 82) hx hb dX5_two_72 (by decide) ?_
          have h := Option.some.inj h
          subst h
          exact W.iret (v := (-9)) hx hb hr (fun t ht hW => ⟨⟨_, (), rfl, rfl, gh ht hP⟩, hS.F ht⟩) hS.2.2 dX5_two_82
  · replace h := (if_pos c1).symm.trans h
    refine lv_bipush (v := (-9)) hx hb dX5_two_19 (by decide) ?_
    refine lv_goto (tgt := 61) hx hb dX5_two_21 (by decide) ?_
    refine lv_istore (lv' := [(4, .int (-9)), (3, .int r9.1), (0, .ref q), (1, .int p0), (2, .int p1)]) hx hb dX5_two_61 hl (by decide) rfl (fun ls hl => ?_)
    refine lv_iload hx hb dX5_two_63 (lv_at hl 0 rfl) ?_
    refine lv_bipush (v := (-9)) hx hb dX5_two_65 (by decide) ?_
    refine lv_icmp_ne (tgt := 75) hx hb dX5_two_67 (by decide) (fun c => absurd c (by decide)) (fun _ => ?_)
    refine lv_bipush (v := (-9)) hx hb dX5_two_70 (by decide) ?_
    refine lv_goto (tgt := 82) hx hb dX5_two_72 (by decide) ?_
    have h := Option.some.inj h
    subst h
    exact W.iret (v := (-9)) hx hb hr (fun t ht hW => ⟨⟨_, (), rfl, rfl, gh ht hP⟩, hS.F ht⟩) hS.2.2 dX5_two_82
set_option maxHeartbeats 4000000 in
set_option maxRecDepth 100000 in
theorem kX5_mayHang (l : Launch) (D : va_G) (cI cC cZ cQ cJ : ClassId) (q : Nat) (M : MSt) (p0 : Int32) {R : Int32} (h : fX5_mayHang M p0 = some R) : Met l yX5_mayHang wsX5_mayHang ({ frames := 1, cells := 0, slots := 0, locals := 25 } : Room) (va_Pc [.ref q, .int p0] (gB D (gTy cI cC cZ cQ cJ) (va_P D vwCl (MW cI cZ q M)))) (vp_Si (fun r => r = R)) 0 0 (fun _ => False) := by
  refine Met.ofW (cc := cX5_mayHang) (maxL := 2) (ret := (some .boolean)) (by decide) rfl ?_
  intro p e s m args below meth c s₁ B hml hv
  obtain ⟨rfl, hP, hK⟩ := hv
  have hx := B.exec
  have hb := B.bytes
  have hr := B.returns
  have hts := atoms_spec (ws := wsX5_mayHang) B.pre
  have hown : s.vm.findClass RX5 = some m.cls := findClass_of_methodNamed B.named
  have hlocks := B.notSynchronized
  have hinX5 : ∀ w ∈ wsX50, w ∈ wsX5_mayHang := by decide +kernel
  have hf107 := hts (.fieldLink RX5 107 "GripInspectorModel" "readN" "I") (by decide +kernel)
  have hf13 := hts (.fieldLink RX5 13 "GripInspectorModel" "readRow" "[I") (by decide +kernel)
  generalize hRM : (headSpec wsX5_mayHang ({ frames := 1, cells := 0, slots := 0, locals := 25 } : Room)).room = RM
  replace hRM : ({ frames := 1, cells := 0, slots := 0, locals := 25 } : Room) = RM := hRM
  subst hRM
  have hl := lv_entry ([.ref q, .int p0]) (n := 2) (Nat.le_of_ble_eq_true rfl)
  rw [lg_entry_eq]
  generalize (lg_sl ([.ref q, .int p0]) ++ List.replicate (2 - (lg_sl ([.ref q, .int p0])).length) Slot.unset).toArray = ls at hl ⊢
  have hl : lv_has ls 2 [(0, .ref q), (1, .int p0)] := hl
  unfold fX5_mayHang at h
  refine lv_iload_n hx hb dX5_mayHang_0 rfl (lv_at hl 1 rfl) ?_
  refine lv_i2l hx hb dX5_mayHang_1 rfl ?_
  refine lv_lconst (v := 0) hx hb dX5_mayHang_2 (by decide) ?_
  refine lv_aload_n hx hb dX5_mayHang_3 rfl (lv_at hl 0 rfl) ?_
  refine va_get (D := D) (ci := 5) (v := .int (mRN M)) (C := RX5) (T := TX5) (N := 15) hx hb hts hinX5 hown hK hP 0 rfl rfl 4 (by decide) hf107 (fun _ h9 => h9) rfl dX5_mayHang_4 ?_
  refine lv_iconst (v := 1) hx hb dX5_mayHang_7 (by decide) ?_
  refine lv_isub hx hb dX5_mayHang_8 ?_
  refine lv_i2l hx hb dX5_mayHang_9 rfl ?_
  obtain ⟨r10, hr10, h⟩ := bd_some h
  refine gc_si (As := [.long ((p0).toInt64), .long 0, .long ((((mRN M) - 1)).toInt64)]) (rest := []) ⟨hx, hb, hml, hown, hts⟩ hK (kX5_in l D cI cC cZ cQ cJ ((p0).toInt64) 0 ((((mRN M) - 1)).toInt64) hr10) (va_cwS 3 hts gX5_mayHang_X5_in rfl rfl rfl (by decide +kernel) ⟨Nat.le_of_ble_eq_true rfl, Nat.le_of_ble_eq_true rfl⟩)  trivial rfl hl.1 rfl (Nat.le_of_ble_eq_true rfl) ⟨Nat.zero_le _, Nat.zero_le _⟩ dX5_mayHang_10 ?_
  refine lv_if_eq (tgt := 33) hx hb dX5_mayHang_13 (by decide) (fun c1 => ?_) (fun c1 => ?_)
  · replace h := (if_pos c1).symm.trans h
    refine lv_iconst (v := 0) hx hb dX5_mayHang_33 (by decide) ?_
    have h := Option.some.inj h
    exact W.zret (v := 0) hx hb hr rfl (fun t ht hW => ⟨_, rfl, h, ht⟩) t_nil dX5_mayHang_34
  · replace h := (if_neg c1).symm.trans h
    refine lv_aload_n hx hb dX5_mayHang_16 rfl (lv_at hl 0 rfl) ?_
    refine va_get (D := D) (ci := 5) (v := .ref (q + 2)) (C := RX5) (T := TX5) (N := 15) hx hb hts hinX5 hown hK hP 0 rfl rfl 5 (by decide) hf13 (fun _ h9 => h9) rfl dX5_mayHang_17 ?_
    refine lv_iload_n hx hb dX5_mayHang_20 rfl (lv_at hl 1 rfl) ?_
    obtain ⟨r21, hr21, h⟩ := bd_some h
    refine gc_si (As := [.ref (q + 2), .int p0]) (rest := []) ⟨hx, hb, hml, hown, hts⟩ hK (kX5_gripAt l D cI cC cZ cQ cJ q 2 M p0 (Or.inl rfl) hr21) (va_cwS 2 hts gX5_mayHang_X5_gripAt rfl rfl rfl (by decide +kernel) ⟨Nat.le_of_ble_eq_true rfl, Nat.le_of_ble_eq_true rfl⟩)  hP rfl hl.1 rfl (Nat.le_of_ble_eq_true rfl) ⟨Nat.zero_le _, Nat.zero_le _⟩ dX5_mayHang_21 ?_
    refine lv_bipush (v := (-9)) hx hb dX5_mayHang_24 (by decide) ?_
    refine lv_icmp_ne (tgt := 33) hx hb dX5_mayHang_26 (by decide) (fun c2 => ?_) (fun c2 => ?_)
    · replace h := (if_neg c2).symm.trans h
      refine lv_iconst (v := 0) hx hb dX5_mayHang_33 (by decide) ?_
      have h := Option.some.inj h
      exact W.zret (v := 0) hx hb hr rfl (fun t ht hW => ⟨_, rfl, h, ht⟩) t_nil dX5_mayHang_34
    · replace h := (if_pos c2).symm.trans h
      refine lv_iconst (v := 1) hx hb dX5_mayHang_29 (by decide) ?_
      refine lv_goto (tgt := 34) hx hb dX5_mayHang_30 (by decide) ?_
      have h := Option.some.inj h
      exact W.zret (v := 1) hx hb hr rfl (fun t ht hW => ⟨_, rfl, h, ht⟩) t_nil dX5_mayHang_34
set_option maxHeartbeats 4000000 in
set_option maxRecDepth 100000 in
theorem kX5_readSlot (l : Launch) (D : va_G) (cI cC cZ cQ cJ : ClassId) (q : Nat) (M : MSt) {R : Int32 × MSt} (h : fX5_readSlot M = some R) : Met l yX5_readSlot wsX5_readSlot ({ frames := 2, cells := 0, slots := 0, locals := 46 } : Room) (va_Pc [.ref q] (gB D (gTy cI cC cZ cQ cJ) (va_P D vwCl (MW cI cZ q M)))) (va_Qi (fun r (_ : Unit) => r = R.1) (fun _ t => va_P D vwCl (MW cI cZ q R.2) t.heap) (fIv q 10)) 0 0 (fIv q 10) := by
  refine Met.ofW (cc := cX5_readSlot) (maxL := 4) (ret := (some .int)) (by decide) rfl ?_
  intro p e s m args below meth c s₁ B hml hv
  obtain ⟨rfl, hP, hK⟩ := hv
  have hx := B.exec
  have hb := B.bytes
  have hr := B.returns
  have hts := atoms_spec (ws := wsX5_readSlot) B.pre
  have hown : s.vm.findClass RX5 = some m.cls := findClass_of_methodNamed B.named
  have hlocks := B.notSynchronized
  have hinX5 : ∀ w ∈ wsX50, w ∈ wsX5_readSlot := by decide +kernel
  have hf101 := hts (.fieldLink RX5 101 "GripInspectorModel" "spot" "I") (by decide +kernel)
  have hf94 := hts (.fieldLink RX5 94 "GripInspectorModel" "scriptSize" "I") (by decide +kernel)
  have hf7 := hts (.fieldLink RX5 7 "GripInspectorModel" "script" "[I") (by decide +kernel)
  generalize hRM : (headSpec wsX5_readSlot ({ frames := 2, cells := 0, slots := 0, locals := 46 } : Room)).room = RM
  replace hRM : ({ frames := 2, cells := 0, slots := 0, locals := 46 } : Room) = RM := hRM
  subst hRM
  have hl := lv_entry ([.ref q]) (n := 4) (Nat.le_of_ble_eq_true rfl)
  rw [lg_entry_eq]
  generalize (lg_sl ([.ref q]) ++ List.replicate (4 - (lg_sl ([.ref q])).length) Slot.unset).toArray = ls at hl ⊢
  have hl : lv_has ls 4 [(0, .ref q)] := hl
  have hS : va_S (fIv q 10) s.heap s.heap [] := va_S.rf
  have LP33 : ∀ (n : Nat) (S : MSt) (x1 : Int32) (x2 : Int32) (x3 : Int32) (H : Heap) (locs : List Loc) (ls : Array Slot), fX5_readSlot_L33 n S x1 x2 x3 = some R → va_P D vwCl (MW cI cZ q S) H → va_S (fIv q 10) s.heap H locs → lv_has ls 4 [(0, .ref q), (1, .int x1), (2, .int x2), (3, .int x3)] → W p l e ({ frames := 2, cells := 0, slots := 0, locals := 46 } : Room) s m ([.ref q] : List Value).toArray below meth c H locs 0 0 (MQ below (va_Qi (fun r (_ : Unit) => r = R.1) (fun _ t => va_P D vwCl (MW cI cZ q R.2) t.heap) (fIv q 10)) ([.ref q] : List Value).toArray s 0 0 (fIv q 10)) (F0 m 33 ls []) := by
    intro n
    induction n with
    | zero => intro S x1 x2 x3 H locs ls h hP hS hl; exact no_some h
    | succ n ih =>
      intro S x1 x2 x3 H locs ls h hP hS hl
      rw [fX5_readSlot_L33] at h
      refine lv_iload_n hx hb dX5_readSlot_33 rfl (lv_at hl 3 rfl) ?_
      refine lv_bipush (v := 10) hx hb dX5_readSlot_34 (by decide) ?_
      refine lv_icmp_ge (tgt := 80) hx hb dX5_readSlot_36 (by decide) (fun c2 => ?_) (fun c2 => ?_)
      · replace h := (if_pos c2).symm.trans h
        refine lv_iload_n hx hb dX5_readSlot_80 rfl (lv_at hl 2 rfl) ?_
        refine lv_if_ne (tgt := 87) hx hb dX5_readSlot_81 (by decide) (fun c3 => ?_) (fun c3 => ?_)
        · replace h := (if_neg c3).symm.trans h
          refine lv_aload_n hx hb dX5_readSlot_87 rfl (lv_at hl 0 rfl) ?_
          refine lv_dup hx hb dX5_readSlot_88 rfl ?_
          refine va_get (D := D) (ci := 5) (v := .int (mSpot S)) (C := RX5) (T := TX5) (N := 15) hx hb hts hinX5 hown hK hP 0 rfl rfl 3 (by decide) hf101 (fun _ h9 => h9) rfl dX5_readSlot_89 ?_
          refine lv_iconst (v := 1) hx hb dX5_readSlot_92 (by decide) ?_
          refine lv_iadd hx hb dX5_readSlot_93 ?_
          refine va_put (D := D) (ci := 5) (v := .int ((mSpot S) + 1)) (ty := .int) (C := RX5) (T := TX5) (N := 15) hx hb hts hinX5 tyX5 tyX5_ok nmX5 hown hK hP MW_self hS 0 rfl rfl 3 (by decide) hf101 (fun _ h9 => h9) rfl (by decide +kernel) rfl rfl (Nat.le_of_ble_eq_true rfl) dX5_readSlot_94 (fun H locs hP _ hS => ?_)
          have hP : va_P D vwCl (MW cI cZ q ((mA S), (mRef S), (mSize S), ((mSpot S) + 1), (mRN S), (mN S), (mActs S))) H := hP
          refine lv_aload_n hx hb dX5_readSlot_97 rfl (lv_at hl 0 rfl) ?_
          refine va_get (D := D) (ci := 5) (v := .int ((mSpot S) + 1)) (C := RX5) (T := TX5) (N := 15) hx hb hts hinX5 hown hK hP 0 rfl rfl 3 (by decide) hf101 (fun _ h9 => h9) rfl dX5_readSlot_98 ?_
          refine lv_aload_n hx hb dX5_readSlot_101 rfl (lv_at hl 0 rfl) ?_
          refine va_get (D := D) (ci := 5) (v := .int (mSize S)) (C := RX5) (T := TX5) (N := 15) hx hb hts hinX5 hown hK hP 0 rfl rfl 2 (by decide) hf94 (fun _ h9 => h9) rfl dX5_readSlot_102 ?_
          refine lv_icmp_ge (tgt := 123) hx hb dX5_readSlot_105 (by decide) (fun c4 => ?_) (fun c4 => ?_)
          · replace h := (if_pos c4).symm.trans h
            refine lv_bipush (v := (-9)) hx hb dX5_readSlot_123 (by decide) ?_
            refine lv_istore_n (lv' := [(3, .int (-9)), (0, .ref q), (1, .int x1), (2, .int x2)]) hx hb dX5_readSlot_125 rfl hl (by decide) rfl (fun ls hl => ?_)
            refine lv_iload_n hx hb dX5_readSlot_126 rfl (lv_at hl 0 rfl) ?_
            refine lv_i2l hx hb dX5_readSlot_127 rfl ?_
            refine lv_lconst (v := 0) hx hb dX5_readSlot_128 (by decide) ?_
            refine lv_ldc2 (v := 9) hx hb hown (hts (.constantLong RX5 110 (9)) (by decide +kernel)) dX5_readSlot_129 ?_
            obtain ⟨r132, hr132, h⟩ := bd_some h
            refine gc_si (As := [.long (((-9) : Int32).toInt64), .long 0, .long 9]) (rest := []) ⟨hx, hb, hml, hown, hts⟩ hK (kX5_in l D cI cC cZ cQ cJ (((-9) : Int32).toInt64) 0 9 hr132) (va_cwS 3 hts gX5_readSlot_X5_in rfl rfl rfl (by decide +kernel) ⟨Nat.le_of_ble_eq_true rfl, Nat.le_of_ble_eq_true rfl⟩)  trivial rfl hl.1 rfl (Nat.le_of_ble_eq_true rfl) ⟨Nat.zero_le _, Nat.zero_le _⟩ dX5_readSlot_132 ?_
            refine lv_if_eq (tgt := 151) hx hb dX5_readSlot_135 (by decide) (fun c5 => ?_) (fun c5 => ?_)
            · replace h := (if_pos c5).symm.trans h
              refine lv_bipush (v := (-9)) hx hb dX5_readSlot_151 (by decide) ?_
              have h := Option.some.inj h
              subst h
              exact W.iret (v := (-9)) hx hb hr (fun t ht hW => ⟨⟨_, (), rfl, rfl, gh ht hP⟩, hS.F ht⟩) hS.2.2 dX5_readSlot_153
            · replace h := (if_neg c5).symm.trans h
              refine lv_aload_n hx hb dX5_readSlot_138 rfl (lv_at hl 1 rfl) ?_
              refine lv_bipush (v := 10) hx hb dX5_readSlot_139 (by decide) ?_
              refine lv_iload_n hx hb dX5_readSlot_141 rfl (lv_at hl 2 rfl) ?_
              refine lv_imul hx hb dX5_readSlot_142 ?_
              refine lv_iload_n hx hb dX5_readSlot_143 rfl (lv_at hl 0 rfl) ?_
              refine lv_iadd hx hb dX5_readSlot_144 ?_
              obtain ⟨r145, hr145, h⟩ := bd_some h
              refine gc_ri (As := [.int ((10 * x1) + (-9))]) (rest := []) ⟨hx, hb, hml, hown, hts⟩ hK (kX5_mayHang l D cI cC cZ cQ cJ q ((mA S), (mRef S), (mSize S), ((mSpot S) + 1), (mRN S), (mN S), (mActs S)) ((10 * x1) + (-9)) hr145) (cwV 1 hts gX5_readSlot_X5_mayHang rfl rfl rfl (by decide +kernel) ⟨Nat.le_of_ble_eq_true rfl, Nat.le_of_ble_eq_true rfl⟩) (va_recv hK hP (ci := 5) (q0 := 0) rfl rfl) hP rfl hl.1 rfl (Nat.le_of_ble_eq_true rfl) ⟨Nat.zero_le _, Nat.zero_le _⟩ dX5_readSlot_145 ?_
              refine lv_if_ne (tgt := 154) hx hb dX5_readSlot_148 (by decide) (fun c6 => ?_) (fun c6 => ?_)
              · replace h := (if_neg c6).symm.trans h
                refine lv_aload_n hx hb dX5_readSlot_154 rfl (lv_at hl 1 rfl) ?_
                refine lv_dup hx hb dX5_readSlot_155 rfl ?_
                refine va_get (D := D) (ci := 5) (v := .int ((mSpot S) + 1)) (C := RX5) (T := TX5) (N := 15) hx hb hts hinX5 hown hK hP 0 rfl rfl 3 (by decide) hf101 (fun _ h9 => h9) rfl dX5_readSlot_156 ?_
                refine lv_iconst (v := 1) hx hb dX5_readSlot_159 (by decide) ?_
                refine lv_iadd hx hb dX5_readSlot_160 ?_
                refine va_put (D := D) (ci := 5) (v := .int (((mSpot S) + 1) + 1)) (ty := .int) (C := RX5) (T := TX5) (N := 15) hx hb hts hinX5 tyX5 tyX5_ok nmX5 hown hK hP MW_self hS 0 rfl rfl 3 (by decide) hf101 (fun _ h9 => h9) rfl (by decide +kernel) rfl rfl (Nat.le_of_ble_eq_true rfl) dX5_readSlot_161 (fun H locs hP _ hS => ?_)
                have hP : va_P D vwCl (MW cI cZ q ((mA S), (mRef S), (mSize S), (((mSpot S) + 1) + 1), (mRN S), (mN S), (mActs S))) H := hP
                refine lv_bipush (v := 10) hx hb dX5_readSlot_164 (by decide) ?_
                refine lv_iload_n hx hb dX5_readSlot_166 rfl (lv_at hl 2 rfl) ?_
                refine lv_imul hx hb dX5_readSlot_167 ?_
                refine lv_iload_n hx hb dX5_readSlot_168 rfl (lv_at hl 0 rfl) ?_
                refine lv_iadd hx hb dX5_readSlot_169 ?_
                have h := Option.some.inj h
                subst h
                exact W.iret (v := ((10 * x1) + (-9))) hx hb hr (fun t ht hW => ⟨⟨_, (), rfl, rfl, gh ht hP⟩, hS.F ht⟩) hS.2.2 dX5_readSlot_170
              · replace h := (if_pos c6).symm.trans h
                refine lv_bipush (v := (-9)) hx hb dX5_readSlot_151 (by decide) ?_
                have h := Option.some.inj h
                subst h
                exact W.iret (v := (-9)) hx hb hr (fun t ht hW => ⟨⟨_, (), rfl, rfl, gh ht hP⟩, hS.F ht⟩) hS.2.2 dX5_readSlot_153
          · replace h := (if_neg c4).symm.trans h
            refine lv_aload_n hx hb dX5_readSlot_108 rfl (lv_at hl 0 rfl) ?_
            refine va_get (D := D) (ci := 5) (v := .ref (q + 1)) (C := RX5) (T := TX5) (N := 15) hx hb hts hinX5 hown hK hP 0 rfl rfl 1 (by decide) hf7 (fun _ h9 => h9) rfl dX5_readSlot_109 ?_
            refine lv_aload_n hx hb dX5_readSlot_112 rfl (lv_at hl 0 rfl) ?_
            refine va_get (D := D) (ci := 5) (v := .int ((mSpot S) + 1)) (C := RX5) (T := TX5) (N := 15) hx hb hts hinX5 hown hK hP 0 rfl rfl 3 (by decide) hf101 (fun _ h9 => h9) rfl dX5_readSlot_113 ?_
            obtain ⟨hg7, h⟩ := gd_some h
            refine g_iald (f := ((mA S) 1)) (k := (((mSpot S) + 1)).toNatClampNeg) hx hb hK hP 1 0 rfl rfl hg7 rfl dX5_readSlot_116 ?_
            refine lv_bipush (v := 48) hx hb dX5_readSlot_117 (by decide) ?_
            refine lv_isub hx hb dX5_readSlot_119 ?_
            refine lv_goto (tgt := 125) hx hb dX5_readSlot_120 (by decide) ?_
            refine lv_istore_n (lv' := [(3, .int ((((mA S) 1) (((mSpot S) + 1)).toNatClampNeg) - 48)), (0, .ref q), (1, .int x1), (2, .int x2)]) hx hb dX5_readSlot_125 rfl hl (by decide) rfl (fun ls hl => ?_)
            refine lv_iload_n hx hb dX5_readSlot_126 rfl (lv_at hl 0 rfl) ?_
            refine lv_i2l hx hb dX5_readSlot_127 rfl ?_
            refine lv_lconst (v := 0) hx hb dX5_readSlot_128 (by decide) ?_
            refine lv_ldc2 (v := 9) hx hb hown (hts (.constantLong RX5 110 (9)) (by decide +kernel)) dX5_readSlot_129 ?_
            obtain ⟨r132, hr132, h⟩ := bd_some h
            refine gc_si (As := [.long ((((((mA S) 1) (((mSpot S) + 1)).toNatClampNeg) - 48)).toInt64), .long 0, .long 9]) (rest := []) ⟨hx, hb, hml, hown, hts⟩ hK (kX5_in l D cI cC cZ cQ cJ ((((((mA S) 1) (((mSpot S) + 1)).toNatClampNeg) - 48)).toInt64) 0 9 hr132) (va_cwS 3 hts gX5_readSlot_X5_in rfl rfl rfl (by decide +kernel) ⟨Nat.le_of_ble_eq_true rfl, Nat.le_of_ble_eq_true rfl⟩)  trivial rfl hl.1 rfl (Nat.le_of_ble_eq_true rfl) ⟨Nat.zero_le _, Nat.zero_le _⟩ dX5_readSlot_132 ?_
            refine lv_if_eq (tgt := 151) hx hb dX5_readSlot_135 (by decide) (fun c8 => ?_) (fun c8 => ?_)
            · replace h := (if_pos c8).symm.trans h
              refine lv_bipush (v := (-9)) hx hb dX5_readSlot_151 (by decide) ?_
              have h := Option.some.inj h
              subst h
              exact W.iret (v := (-9)) hx hb hr (fun t ht hW => ⟨⟨_, (), rfl, rfl, gh ht hP⟩, hS.F ht⟩) hS.2.2 dX5_readSlot_153
            · replace h := (if_neg c8).symm.trans h
              refine lv_aload_n hx hb dX5_readSlot_138 rfl (lv_at hl 1 rfl) ?_
              refine lv_bipush (v := 10) hx hb dX5_readSlot_139 (by decide) ?_
              refine lv_iload_n hx hb dX5_readSlot_141 rfl (lv_at hl 2 rfl) ?_
              refine lv_imul hx hb dX5_readSlot_142 ?_
              refine lv_iload_n hx hb dX5_readSlot_143 rfl (lv_at hl 0 rfl) ?_
              refine lv_iadd hx hb dX5_readSlot_144 ?_
              obtain ⟨r145, hr145, h⟩ := bd_some h
              refine gc_ri (As := [.int ((10 * x1) + ((((mA S) 1) (((mSpot S) + 1)).toNatClampNeg) - 48))]) (rest := []) ⟨hx, hb, hml, hown, hts⟩ hK (kX5_mayHang l D cI cC cZ cQ cJ q ((mA S), (mRef S), (mSize S), ((mSpot S) + 1), (mRN S), (mN S), (mActs S)) ((10 * x1) + ((((mA S) 1) (((mSpot S) + 1)).toNatClampNeg) - 48)) hr145) (cwV 1 hts gX5_readSlot_X5_mayHang rfl rfl rfl (by decide +kernel) ⟨Nat.le_of_ble_eq_true rfl, Nat.le_of_ble_eq_true rfl⟩) (va_recv hK hP (ci := 5) (q0 := 0) rfl rfl) hP rfl hl.1 rfl (Nat.le_of_ble_eq_true rfl) ⟨Nat.zero_le _, Nat.zero_le _⟩ dX5_readSlot_145 ?_
              refine lv_if_ne (tgt := 154) hx hb dX5_readSlot_148 (by decide) (fun c9 => ?_) (fun c9 => ?_)
              · replace h := (if_neg c9).symm.trans h
                refine lv_aload_n hx hb dX5_readSlot_154 rfl (lv_at hl 1 rfl) ?_
                refine lv_dup hx hb dX5_readSlot_155 rfl ?_
                refine va_get (D := D) (ci := 5) (v := .int ((mSpot S) + 1)) (C := RX5) (T := TX5) (N := 15) hx hb hts hinX5 hown hK hP 0 rfl rfl 3 (by decide) hf101 (fun _ h9 => h9) rfl dX5_readSlot_156 ?_
                refine lv_iconst (v := 1) hx hb dX5_readSlot_159 (by decide) ?_
                refine lv_iadd hx hb dX5_readSlot_160 ?_
                refine va_put (D := D) (ci := 5) (v := .int (((mSpot S) + 1) + 1)) (ty := .int) (C := RX5) (T := TX5) (N := 15) hx hb hts hinX5 tyX5 tyX5_ok nmX5 hown hK hP MW_self hS 0 rfl rfl 3 (by decide) hf101 (fun _ h9 => h9) rfl (by decide +kernel) rfl rfl (Nat.le_of_ble_eq_true rfl) dX5_readSlot_161 (fun H locs hP _ hS => ?_)
                have hP : va_P D vwCl (MW cI cZ q ((mA S), (mRef S), (mSize S), (((mSpot S) + 1) + 1), (mRN S), (mN S), (mActs S))) H := hP
                refine lv_bipush (v := 10) hx hb dX5_readSlot_164 (by decide) ?_
                refine lv_iload_n hx hb dX5_readSlot_166 rfl (lv_at hl 2 rfl) ?_
                refine lv_imul hx hb dX5_readSlot_167 ?_
                refine lv_iload_n hx hb dX5_readSlot_168 rfl (lv_at hl 0 rfl) ?_
                refine lv_iadd hx hb dX5_readSlot_169 ?_
                have h := Option.some.inj h
                subst h
                exact W.iret (v := ((10 * x1) + ((((mA S) 1) (((mSpot S) + 1)).toNatClampNeg) - 48))) hx hb hr (fun t ht hW => ⟨⟨_, (), rfl, rfl, gh ht hP⟩, hS.F ht⟩) hS.2.2 dX5_readSlot_170
              · replace h := (if_pos c9).symm.trans h
                refine lv_bipush (v := (-9)) hx hb dX5_readSlot_151 (by decide) ?_
                have h := Option.some.inj h
                subst h
                exact W.iret (v := (-9)) hx hb hr (fun t ht hW => ⟨⟨_, (), rfl, rfl, gh ht hP⟩, hS.F ht⟩) hS.2.2 dX5_readSlot_153
        · replace h := (if_pos c3).symm.trans h
          refine lv_bipush (v := (-9)) hx hb dX5_readSlot_84 (by decide) ?_
          have h := Option.some.inj h
          subst h
          exact W.iret (v := (-9)) hx hb hr (fun t ht hW => ⟨⟨_, (), rfl, rfl, gh ht hP⟩, hS.F ht⟩) hS.2.2 dX5_readSlot_86
      · replace h := (if_neg c2).symm.trans h
        refine lv_iload_n hx hb dX5_readSlot_39 rfl (lv_at hl 1 rfl) ?_
        refine lv_i2l hx hb dX5_readSlot_40 rfl ?_
        refine lv_lconst (v := 0) hx hb dX5_readSlot_41 (by decide) ?_
        refine lv_ldc2 (v := 9) hx hb hown (hts (.constantLong RX5 110 (9)) (by decide +kernel)) dX5_readSlot_42 ?_
        obtain ⟨r45, hr45, h⟩ := bd_some h
        refine gc_si (As := [.long ((x1).toInt64), .long 0, .long 9]) (rest := []) ⟨hx, hb, hml, hown, hts⟩ hK (kX5_in l D cI cC cZ cQ cJ ((x1).toInt64) 0 9 hr45) (va_cwS 3 hts gX5_readSlot_X5_in rfl rfl rfl (by decide +kernel) ⟨Nat.le_of_ble_eq_true rfl, Nat.le_of_ble_eq_true rfl⟩)  trivial rfl hl.1 rfl (Nat.le_of_ble_eq_true rfl) ⟨Nat.zero_le _, Nat.zero_le _⟩ dX5_readSlot_45 ?_
        refine lv_if_eq (tgt := 80) hx hb dX5_readSlot_48 (by decide) (fun c10 => ?_) (fun c10 => ?_)
        · replace h := (if_pos c10).symm.trans h
          refine lv_iload_n hx hb dX5_readSlot_80 rfl (lv_at hl 2 rfl) ?_
          refine lv_if_ne (tgt := 87) hx hb dX5_readSlot_81 (by decide) (fun c11 => ?_) (fun c11 => ?_)
          · replace h := (if_neg c11).symm.trans h
            refine lv_aload_n hx hb dX5_readSlot_87 rfl (lv_at hl 0 rfl) ?_
            refine lv_dup hx hb dX5_readSlot_88 rfl ?_
            refine va_get (D := D) (ci := 5) (v := .int (mSpot S)) (C := RX5) (T := TX5) (N := 15) hx hb hts hinX5 hown hK hP 0 rfl rfl 3 (by decide) hf101 (fun _ h9 => h9) rfl dX5_readSlot_89 ?_
            refine lv_iconst (v := 1) hx hb dX5_readSlot_92 (by decide) ?_
            refine lv_iadd hx hb dX5_readSlot_93 ?_
            refine va_put (D := D) (ci := 5) (v := .int ((mSpot S) + 1)) (ty := .int) (C := RX5) (T := TX5) (N := 15) hx hb hts hinX5 tyX5 tyX5_ok nmX5 hown hK hP MW_self hS 0 rfl rfl 3 (by decide) hf101 (fun _ h9 => h9) rfl (by decide +kernel) rfl rfl (Nat.le_of_ble_eq_true rfl) dX5_readSlot_94 (fun H locs hP _ hS => ?_)
            have hP : va_P D vwCl (MW cI cZ q ((mA S), (mRef S), (mSize S), ((mSpot S) + 1), (mRN S), (mN S), (mActs S))) H := hP
            refine lv_aload_n hx hb dX5_readSlot_97 rfl (lv_at hl 0 rfl) ?_
            refine va_get (D := D) (ci := 5) (v := .int ((mSpot S) + 1)) (C := RX5) (T := TX5) (N := 15) hx hb hts hinX5 hown hK hP 0 rfl rfl 3 (by decide) hf101 (fun _ h9 => h9) rfl dX5_readSlot_98 ?_
            refine lv_aload_n hx hb dX5_readSlot_101 rfl (lv_at hl 0 rfl) ?_
            refine va_get (D := D) (ci := 5) (v := .int (mSize S)) (C := RX5) (T := TX5) (N := 15) hx hb hts hinX5 hown hK hP 0 rfl rfl 2 (by decide) hf94 (fun _ h9 => h9) rfl dX5_readSlot_102 ?_
            refine lv_icmp_ge (tgt := 123) hx hb dX5_readSlot_105 (by decide) (fun c12 => ?_) (fun c12 => ?_)
            · replace h := (if_pos c12).symm.trans h
              refine lv_bipush (v := (-9)) hx hb dX5_readSlot_123 (by decide) ?_
              refine lv_istore_n (lv' := [(3, .int (-9)), (0, .ref q), (1, .int x1), (2, .int x2)]) hx hb dX5_readSlot_125 rfl hl (by decide) rfl (fun ls hl => ?_)
              refine lv_iload_n hx hb dX5_readSlot_126 rfl (lv_at hl 0 rfl) ?_
              refine lv_i2l hx hb dX5_readSlot_127 rfl ?_
              refine lv_lconst (v := 0) hx hb dX5_readSlot_128 (by decide) ?_
              refine lv_ldc2 (v := 9) hx hb hown (hts (.constantLong RX5 110 (9)) (by decide +kernel)) dX5_readSlot_129 ?_
              obtain ⟨r132, hr132, h⟩ := bd_some h
              refine gc_si (As := [.long (((-9) : Int32).toInt64), .long 0, .long 9]) (rest := []) ⟨hx, hb, hml, hown, hts⟩ hK (kX5_in l D cI cC cZ cQ cJ (((-9) : Int32).toInt64) 0 9 hr132) (va_cwS 3 hts gX5_readSlot_X5_in rfl rfl rfl (by decide +kernel) ⟨Nat.le_of_ble_eq_true rfl, Nat.le_of_ble_eq_true rfl⟩)  trivial rfl hl.1 rfl (Nat.le_of_ble_eq_true rfl) ⟨Nat.zero_le _, Nat.zero_le _⟩ dX5_readSlot_132 ?_
              refine lv_if_eq (tgt := 151) hx hb dX5_readSlot_135 (by decide) (fun c13 => ?_) (fun c13 => ?_)
              · replace h := (if_pos c13).symm.trans h
                refine lv_bipush (v := (-9)) hx hb dX5_readSlot_151 (by decide) ?_
                have h := Option.some.inj h
                subst h
                exact W.iret (v := (-9)) hx hb hr (fun t ht hW => ⟨⟨_, (), rfl, rfl, gh ht hP⟩, hS.F ht⟩) hS.2.2 dX5_readSlot_153
              · replace h := (if_neg c13).symm.trans h
                refine lv_aload_n hx hb dX5_readSlot_138 rfl (lv_at hl 1 rfl) ?_
                refine lv_bipush (v := 10) hx hb dX5_readSlot_139 (by decide) ?_
                refine lv_iload_n hx hb dX5_readSlot_141 rfl (lv_at hl 2 rfl) ?_
                refine lv_imul hx hb dX5_readSlot_142 ?_
                refine lv_iload_n hx hb dX5_readSlot_143 rfl (lv_at hl 0 rfl) ?_
                refine lv_iadd hx hb dX5_readSlot_144 ?_
                obtain ⟨r145, hr145, h⟩ := bd_some h
                refine gc_ri (As := [.int ((10 * x1) + (-9))]) (rest := []) ⟨hx, hb, hml, hown, hts⟩ hK (kX5_mayHang l D cI cC cZ cQ cJ q ((mA S), (mRef S), (mSize S), ((mSpot S) + 1), (mRN S), (mN S), (mActs S)) ((10 * x1) + (-9)) hr145) (cwV 1 hts gX5_readSlot_X5_mayHang rfl rfl rfl (by decide +kernel) ⟨Nat.le_of_ble_eq_true rfl, Nat.le_of_ble_eq_true rfl⟩) (va_recv hK hP (ci := 5) (q0 := 0) rfl rfl) hP rfl hl.1 rfl (Nat.le_of_ble_eq_true rfl) ⟨Nat.zero_le _, Nat.zero_le _⟩ dX5_readSlot_145 ?_
                refine lv_if_ne (tgt := 154) hx hb dX5_readSlot_148 (by decide) (fun c14 => ?_) (fun c14 => ?_)
                · replace h := (if_neg c14).symm.trans h
                  refine lv_aload_n hx hb dX5_readSlot_154 rfl (lv_at hl 1 rfl) ?_
                  refine lv_dup hx hb dX5_readSlot_155 rfl ?_
                  refine va_get (D := D) (ci := 5) (v := .int ((mSpot S) + 1)) (C := RX5) (T := TX5) (N := 15) hx hb hts hinX5 hown hK hP 0 rfl rfl 3 (by decide) hf101 (fun _ h9 => h9) rfl dX5_readSlot_156 ?_
                  refine lv_iconst (v := 1) hx hb dX5_readSlot_159 (by decide) ?_
                  refine lv_iadd hx hb dX5_readSlot_160 ?_
                  refine va_put (D := D) (ci := 5) (v := .int (((mSpot S) + 1) + 1)) (ty := .int) (C := RX5) (T := TX5) (N := 15) hx hb hts hinX5 tyX5 tyX5_ok nmX5 hown hK hP MW_self hS 0 rfl rfl 3 (by decide) hf101 (fun _ h9 => h9) rfl (by decide +kernel) rfl rfl (Nat.le_of_ble_eq_true rfl) dX5_readSlot_161 (fun H locs hP _ hS => ?_)
                  have hP : va_P D vwCl (MW cI cZ q ((mA S), (mRef S), (mSize S), (((mSpot S) + 1) + 1), (mRN S), (mN S), (mActs S))) H := hP
                  refine lv_bipush (v := 10) hx hb dX5_readSlot_164 (by decide) ?_
                  refine lv_iload_n hx hb dX5_readSlot_166 rfl (lv_at hl 2 rfl) ?_
                  refine lv_imul hx hb dX5_readSlot_167 ?_
                  refine lv_iload_n hx hb dX5_readSlot_168 rfl (lv_at hl 0 rfl) ?_
                  refine lv_iadd hx hb dX5_readSlot_169 ?_
                  have h := Option.some.inj h
                  subst h
                  exact W.iret (v := ((10 * x1) + (-9))) hx hb hr (fun t ht hW => ⟨⟨_, (), rfl, rfl, gh ht hP⟩, hS.F ht⟩) hS.2.2 dX5_readSlot_170
                · replace h := (if_pos c14).symm.trans h
                  refine lv_bipush (v := (-9)) hx hb dX5_readSlot_151 (by decide) ?_
                  have h := Option.some.inj h
                  subst h
                  exact W.iret (v := (-9)) hx hb hr (fun t ht hW => ⟨⟨_, (), rfl, rfl, gh ht hP⟩, hS.F ht⟩) hS.2.2 dX5_readSlot_153
            · replace h := (if_neg c12).symm.trans h
              refine lv_aload_n hx hb dX5_readSlot_108 rfl (lv_at hl 0 rfl) ?_
              refine va_get (D := D) (ci := 5) (v := .ref (q + 1)) (C := RX5) (T := TX5) (N := 15) hx hb hts hinX5 hown hK hP 0 rfl rfl 1 (by decide) hf7 (fun _ h9 => h9) rfl dX5_readSlot_109 ?_
              refine lv_aload_n hx hb dX5_readSlot_112 rfl (lv_at hl 0 rfl) ?_
              refine va_get (D := D) (ci := 5) (v := .int ((mSpot S) + 1)) (C := RX5) (T := TX5) (N := 15) hx hb hts hinX5 hown hK hP 0 rfl rfl 3 (by decide) hf101 (fun _ h9 => h9) rfl dX5_readSlot_113 ?_
              obtain ⟨hg15, h⟩ := gd_some h
              refine g_iald (f := ((mA S) 1)) (k := (((mSpot S) + 1)).toNatClampNeg) hx hb hK hP 1 0 rfl rfl hg15 rfl dX5_readSlot_116 ?_
              refine lv_bipush (v := 48) hx hb dX5_readSlot_117 (by decide) ?_
              refine lv_isub hx hb dX5_readSlot_119 ?_
              refine lv_goto (tgt := 125) hx hb dX5_readSlot_120 (by decide) ?_
              refine lv_istore_n (lv' := [(3, .int ((((mA S) 1) (((mSpot S) + 1)).toNatClampNeg) - 48)), (0, .ref q), (1, .int x1), (2, .int x2)]) hx hb dX5_readSlot_125 rfl hl (by decide) rfl (fun ls hl => ?_)
              refine lv_iload_n hx hb dX5_readSlot_126 rfl (lv_at hl 0 rfl) ?_
              refine lv_i2l hx hb dX5_readSlot_127 rfl ?_
              refine lv_lconst (v := 0) hx hb dX5_readSlot_128 (by decide) ?_
              refine lv_ldc2 (v := 9) hx hb hown (hts (.constantLong RX5 110 (9)) (by decide +kernel)) dX5_readSlot_129 ?_
              obtain ⟨r132, hr132, h⟩ := bd_some h
              refine gc_si (As := [.long ((((((mA S) 1) (((mSpot S) + 1)).toNatClampNeg) - 48)).toInt64), .long 0, .long 9]) (rest := []) ⟨hx, hb, hml, hown, hts⟩ hK (kX5_in l D cI cC cZ cQ cJ ((((((mA S) 1) (((mSpot S) + 1)).toNatClampNeg) - 48)).toInt64) 0 9 hr132) (va_cwS 3 hts gX5_readSlot_X5_in rfl rfl rfl (by decide +kernel) ⟨Nat.le_of_ble_eq_true rfl, Nat.le_of_ble_eq_true rfl⟩)  trivial rfl hl.1 rfl (Nat.le_of_ble_eq_true rfl) ⟨Nat.zero_le _, Nat.zero_le _⟩ dX5_readSlot_132 ?_
              refine lv_if_eq (tgt := 151) hx hb dX5_readSlot_135 (by decide) (fun c16 => ?_) (fun c16 => ?_)
              · replace h := (if_pos c16).symm.trans h
                refine lv_bipush (v := (-9)) hx hb dX5_readSlot_151 (by decide) ?_
                have h := Option.some.inj h
                subst h
                exact W.iret (v := (-9)) hx hb hr (fun t ht hW => ⟨⟨_, (), rfl, rfl, gh ht hP⟩, hS.F ht⟩) hS.2.2 dX5_readSlot_153
              · replace h := (if_neg c16).symm.trans h
                refine lv_aload_n hx hb dX5_readSlot_138 rfl (lv_at hl 1 rfl) ?_
                refine lv_bipush (v := 10) hx hb dX5_readSlot_139 (by decide) ?_
                refine lv_iload_n hx hb dX5_readSlot_141 rfl (lv_at hl 2 rfl) ?_
                refine lv_imul hx hb dX5_readSlot_142 ?_
                refine lv_iload_n hx hb dX5_readSlot_143 rfl (lv_at hl 0 rfl) ?_
                refine lv_iadd hx hb dX5_readSlot_144 ?_
                obtain ⟨r145, hr145, h⟩ := bd_some h
                refine gc_ri (As := [.int ((10 * x1) + ((((mA S) 1) (((mSpot S) + 1)).toNatClampNeg) - 48))]) (rest := []) ⟨hx, hb, hml, hown, hts⟩ hK (kX5_mayHang l D cI cC cZ cQ cJ q ((mA S), (mRef S), (mSize S), ((mSpot S) + 1), (mRN S), (mN S), (mActs S)) ((10 * x1) + ((((mA S) 1) (((mSpot S) + 1)).toNatClampNeg) - 48)) hr145) (cwV 1 hts gX5_readSlot_X5_mayHang rfl rfl rfl (by decide +kernel) ⟨Nat.le_of_ble_eq_true rfl, Nat.le_of_ble_eq_true rfl⟩) (va_recv hK hP (ci := 5) (q0 := 0) rfl rfl) hP rfl hl.1 rfl (Nat.le_of_ble_eq_true rfl) ⟨Nat.zero_le _, Nat.zero_le _⟩ dX5_readSlot_145 ?_
                refine lv_if_ne (tgt := 154) hx hb dX5_readSlot_148 (by decide) (fun c17 => ?_) (fun c17 => ?_)
                · replace h := (if_neg c17).symm.trans h
                  refine lv_aload_n hx hb dX5_readSlot_154 rfl (lv_at hl 1 rfl) ?_
                  refine lv_dup hx hb dX5_readSlot_155 rfl ?_
                  refine va_get (D := D) (ci := 5) (v := .int ((mSpot S) + 1)) (C := RX5) (T := TX5) (N := 15) hx hb hts hinX5 hown hK hP 0 rfl rfl 3 (by decide) hf101 (fun _ h9 => h9) rfl dX5_readSlot_156 ?_
                  refine lv_iconst (v := 1) hx hb dX5_readSlot_159 (by decide) ?_
                  refine lv_iadd hx hb dX5_readSlot_160 ?_
                  refine va_put (D := D) (ci := 5) (v := .int (((mSpot S) + 1) + 1)) (ty := .int) (C := RX5) (T := TX5) (N := 15) hx hb hts hinX5 tyX5 tyX5_ok nmX5 hown hK hP MW_self hS 0 rfl rfl 3 (by decide) hf101 (fun _ h9 => h9) rfl (by decide +kernel) rfl rfl (Nat.le_of_ble_eq_true rfl) dX5_readSlot_161 (fun H locs hP _ hS => ?_)
                  have hP : va_P D vwCl (MW cI cZ q ((mA S), (mRef S), (mSize S), (((mSpot S) + 1) + 1), (mRN S), (mN S), (mActs S))) H := hP
                  refine lv_bipush (v := 10) hx hb dX5_readSlot_164 (by decide) ?_
                  refine lv_iload_n hx hb dX5_readSlot_166 rfl (lv_at hl 2 rfl) ?_
                  refine lv_imul hx hb dX5_readSlot_167 ?_
                  refine lv_iload_n hx hb dX5_readSlot_168 rfl (lv_at hl 0 rfl) ?_
                  refine lv_iadd hx hb dX5_readSlot_169 ?_
                  have h := Option.some.inj h
                  subst h
                  exact W.iret (v := ((10 * x1) + ((((mA S) 1) (((mSpot S) + 1)).toNatClampNeg) - 48))) hx hb hr (fun t ht hW => ⟨⟨_, (), rfl, rfl, gh ht hP⟩, hS.F ht⟩) hS.2.2 dX5_readSlot_170
                · replace h := (if_pos c17).symm.trans h
                  refine lv_bipush (v := (-9)) hx hb dX5_readSlot_151 (by decide) ?_
                  have h := Option.some.inj h
                  subst h
                  exact W.iret (v := (-9)) hx hb hr (fun t ht hW => ⟨⟨_, (), rfl, rfl, gh ht hP⟩, hS.F ht⟩) hS.2.2 dX5_readSlot_153
          · replace h := (if_pos c11).symm.trans h
            refine lv_bipush (v := (-9)) hx hb dX5_readSlot_84 (by decide) ?_
            have h := Option.some.inj h
            subst h
            exact W.iret (v := (-9)) hx hb hr (fun t ht hW => ⟨⟨_, (), rfl, rfl, gh ht hP⟩, hS.F ht⟩) hS.2.2 dX5_readSlot_86
        · replace h := (if_neg c10).symm.trans h
          refine lv_iload_n hx hb dX5_readSlot_51 rfl (lv_at hl 2 rfl) ?_
          refine lv_if_ne (tgt := 68) hx hb dX5_readSlot_52 (by decide) (fun c18 => ?_) (fun c18 => ?_)
          · replace h := (if_neg c18).symm.trans h
            refine lv_iconst (v := 1) hx hb dX5_readSlot_68 (by decide) ?_
            refine lv_goto (tgt := 73) hx hb dX5_readSlot_69 (by decide) ?_
            refine lv_istore_n (lv' := [(2, .int 1), (0, .ref q), (1, .int x1), (3, .int x3)]) hx hb dX5_readSlot_73 rfl hl (by decide) rfl (fun ls hl => ?_)
            refine lv_iinc (v := (x3 + 1)) (lv' := [(3, .int (x3 + 1)), (2, .int 1), (0, .ref q), (1, .int x1)]) hx hb dX5_readSlot_74 hl (k := 3) rfl rfl (by decide) rfl (fun ls hl => ?_)
            refine lv_goto (tgt := 33) hx hb dX5_readSlot_77 (by decide) ?_
            exact ih S x1 1 (x3 + 1) H locs ls h hP hS (lv_sub hl [2, 3, 1, 0] rfl)
          · replace h := (if_pos c18).symm.trans h
            refine lv_aload_n hx hb dX5_readSlot_55 rfl (lv_at hl 0 rfl) ?_
            refine lv_bipush (v := 10) hx hb dX5_readSlot_56 (by decide) ?_
            refine lv_iload_n hx hb dX5_readSlot_58 rfl (lv_at hl 1 rfl) ?_
            refine lv_imul hx hb dX5_readSlot_59 ?_
            refine lv_iload_n hx hb dX5_readSlot_60 rfl (lv_at hl 3 rfl) ?_
            refine lv_iadd hx hb dX5_readSlot_61 ?_
            obtain ⟨r62, hr62, h⟩ := bd_some h
            refine gc_ri (As := [.int ((10 * x1) + x3)]) (rest := []) ⟨hx, hb, hml, hown, hts⟩ hK (kX5_mayHang l D cI cC cZ cQ cJ q S ((10 * x1) + x3) hr62) (cwV 1 hts gX5_readSlot_X5_mayHang rfl rfl rfl (by decide +kernel) ⟨Nat.le_of_ble_eq_true rfl, Nat.le_of_ble_eq_true rfl⟩) (va_recv hK hP (ci := 5) (q0 := 0) rfl rfl) hP rfl hl.1 rfl (Nat.le_of_ble_eq_true rfl) ⟨Nat.zero_le _, Nat.zero_le _⟩ dX5_readSlot_62 ?_
            refine lv_if_eq (tgt := 72) hx hb dX5_readSlot_65 (by decide) (fun c19 => ?_) (fun c19 => ?_)
            · replace h := (if_pos c19).symm.trans h
              refine lv_iconst (v := 0) hx hb dX5_readSlot_72 (by decide) ?_
              refine lv_istore_n (lv' := [(2, .int 0), (0, .ref q), (1, .int x1), (3, .int x3)]) hx hb dX5_readSlot_73 rfl hl (by decide) rfl (fun ls hl => ?_)
              refine lv_iinc (v := (x3 + 1)) (lv' := [(3, .int (x3 + 1)), (2, .int 0), (0, .ref q), (1, .int x1)]) hx hb dX5_readSlot_74 hl (k := 3) rfl rfl (by decide) rfl (fun ls hl => ?_)
              refine lv_goto (tgt := 33) hx hb dX5_readSlot_77 (by decide) ?_
              exact ih S x1 0 (x3 + 1) H locs ls h hP hS (lv_sub hl [2, 3, 1, 0] rfl)
            · replace h := (if_neg c19).symm.trans h
              refine lv_iconst (v := 1) hx hb dX5_readSlot_68 (by decide) ?_
              refine lv_goto (tgt := 73) hx hb dX5_readSlot_69 (by decide) ?_
              refine lv_istore_n (lv' := [(2, .int 1), (0, .ref q), (1, .int x1), (3, .int x3)]) hx hb dX5_readSlot_73 rfl hl (by decide) rfl (fun ls hl => ?_)
              refine lv_iinc (v := (x3 + 1)) (lv' := [(3, .int (x3 + 1)), (2, .int 1), (0, .ref q), (1, .int x1)]) hx hb dX5_readSlot_74 hl (k := 3) rfl rfl (by decide) rfl (fun ls hl => ?_)
              refine lv_goto (tgt := 33) hx hb dX5_readSlot_77 (by decide) ?_
              exact ih S x1 1 (x3 + 1) H locs ls h hP hS (lv_sub hl [2, 3, 1, 0] rfl)
  unfold fX5_readSlot at h
  obtain ⟨H, hH⟩ : ∃ H, H = s.heap := ⟨_, rfl⟩
  obtain ⟨locs, hlz⟩ : ∃ z : List Loc, z = [] := ⟨_, rfl⟩
  have hP : va_P D vwCl (MW cI cZ q M) H := by rw [hH]; exact hP
  have hS : va_S (fIv q 10) s.heap H locs := by rw [hH, hlz]; exact hS
  refine gc_at hH hlz ?_
  refine lv_aload_n hx hb dX5_readSlot_0 rfl (lv_at hl 0 rfl) ?_
  refine va_get (D := D) (ci := 5) (v := .int (mSpot M)) (C := RX5) (T := TX5) (N := 15) hx hb hts hinX5 hown hK hP 0 rfl rfl 3 (by decide) hf101 (fun _ h9 => h9) rfl dX5_readSlot_1 ?_
  refine lv_aload_n hx hb dX5_readSlot_4 rfl (lv_at hl 0 rfl) ?_
  refine va_get (D := D) (ci := 5) (v := .int (mSize M)) (C := RX5) (T := TX5) (N := 15) hx hb hts hinX5 hown hK hP 0 rfl rfl 2 (by decide) hf94 (fun _ h9 => h9) rfl dX5_readSlot_5 ?_
  refine lv_icmp_ge (tgt := 26) hx hb dX5_readSlot_8 (by decide) (fun c1 => ?_) (fun c1 => ?_)
  · replace h := (if_pos c1).symm.trans h
    refine lv_bipush (v := (-9)) hx hb dX5_readSlot_26 (by decide) ?_
    refine lv_istore_n (lv' := [(1, .int (-9)), (0, .ref q)]) hx hb dX5_readSlot_28 rfl hl (by decide) rfl (fun ls hl => ?_)
    refine lv_iconst (v := 0) hx hb dX5_readSlot_29 (by decide) ?_
    refine lv_istore_n (lv' := [(2, .int 0), (1, .int (-9)), (0, .ref q)]) hx hb dX5_readSlot_30 rfl hl (by decide) rfl (fun ls hl => ?_)
    refine lv_iconst (v := 0) hx hb dX5_readSlot_31 (by decide) ?_
    refine lv_istore_n (lv' := [(3, .int 0), (2, .int 0), (1, .int (-9)), (0, .ref q)]) hx hb dX5_readSlot_32 rfl hl (by decide) rfl (fun ls hl => ?_)
    exact LP33 KF M (-9) 0 0 H locs ls h hP hS (lv_sub hl [3, 2, 1, 0] rfl)
  · replace h := (if_neg c1).symm.trans h
    refine lv_aload_n hx hb dX5_readSlot_11 rfl (lv_at hl 0 rfl) ?_
    refine va_get (D := D) (ci := 5) (v := .ref (q + 1)) (C := RX5) (T := TX5) (N := 15) hx hb hts hinX5 hown hK hP 0 rfl rfl 1 (by decide) hf7 (fun _ h9 => h9) rfl dX5_readSlot_12 ?_
    refine lv_aload_n hx hb dX5_readSlot_15 rfl (lv_at hl 0 rfl) ?_
    refine va_get (D := D) (ci := 5) (v := .int (mSpot M)) (C := RX5) (T := TX5) (N := 15) hx hb hts hinX5 hown hK hP 0 rfl rfl 3 (by decide) hf101 (fun _ h9 => h9) rfl dX5_readSlot_16 ?_
    obtain ⟨hg20, h⟩ := gd_some h
    refine g_iald (f := ((mA M) 1)) (k := ((mSpot M)).toNatClampNeg) hx hb hK hP 1 0 rfl rfl hg20 rfl dX5_readSlot_19 ?_
    refine lv_bipush (v := 48) hx hb dX5_readSlot_20 (by decide) ?_
    refine lv_isub hx hb dX5_readSlot_22 ?_
    refine lv_goto (tgt := 28) hx hb dX5_readSlot_23 (by decide) ?_
    refine lv_istore_n (lv' := [(1, .int ((((mA M) 1) ((mSpot M)).toNatClampNeg) - 48)), (0, .ref q)]) hx hb dX5_readSlot_28 rfl hl (by decide) rfl (fun ls hl => ?_)
    refine lv_iconst (v := 0) hx hb dX5_readSlot_29 (by decide) ?_
    refine lv_istore_n (lv' := [(2, .int 0), (1, .int ((((mA M) 1) ((mSpot M)).toNatClampNeg) - 48)), (0, .ref q)]) hx hb dX5_readSlot_30 rfl hl (by decide) rfl (fun ls hl => ?_)
    refine lv_iconst (v := 0) hx hb dX5_readSlot_31 (by decide) ?_
    refine lv_istore_n (lv' := [(3, .int 0), (2, .int 0), (1, .int ((((mA M) 1) ((mSpot M)).toNatClampNeg) - 48)), (0, .ref q)]) hx hb dX5_readSlot_32 rfl hl (by decide) rfl (fun ls hl => ?_)
    exact LP33 KF M ((((mA M) 1) ((mSpot M)).toNatClampNeg) - 48) 0 0 H locs ls h hP hS (lv_sub hl [3, 2, 1, 0] rfl)
set_option maxHeartbeats 4000000 in
set_option maxRecDepth 100000 in
theorem kX5_readItem (l : Launch) (D : va_G) (cI cC cZ cQ cJ : ClassId) (q : Nat) (M : MSt) {R : Int32 × MSt} (h : fX5_readItem M = some R) : Met l yX5_readItem wsX5_readItem ({ frames := 3, cells := 0, slots := 0, locals := 69 } : Room) (va_Pc [.ref q] (gB D (gTy cI cC cZ cQ cJ) (va_P D vwCl (MW cI cZ q M)))) (va_Qi (fun r (_ : Unit) => r = R.1) (fun _ t => va_P D vwCl (MW cI cZ q R.2) t.heap) (fIv q 10)) 0 0 (fIv q 10) := by
  refine Met.ofW (cc := cX5_readItem) (maxL := 5) (ret := (some .boolean)) (by decide) rfl ?_
  intro p e s m args below meth c s₁ B hml hv
  obtain ⟨rfl, hP, hK⟩ := hv
  have hx := B.exec
  have hb := B.bytes
  have hr := B.returns
  have hts := atoms_spec (ws := wsX5_readItem) B.pre
  have hown : s.vm.findClass RX5 = some m.cls := findClass_of_methodNamed B.named
  have hlocks := B.notSynchronized
  have hinX5 : ∀ w ∈ wsX50, w ∈ wsX5_readItem := by decide +kernel
  have hf7 := hts (.fieldLink RX5 7 "GripInspectorModel" "script" "[I") (by decide +kernel)
  have hf101 := hts (.fieldLink RX5 101 "GripInspectorModel" "spot" "I") (by decide +kernel)
  have hf13 := hts (.fieldLink RX5 13 "GripInspectorModel" "readRow" "[I") (by decide +kernel)
  have hf107 := hts (.fieldLink RX5 107 "GripInspectorModel" "readN" "I") (by decide +kernel)
  generalize hRM : (headSpec wsX5_readItem ({ frames := 3, cells := 0, slots := 0, locals := 69 } : Room)).room = RM
  replace hRM : ({ frames := 3, cells := 0, slots := 0, locals := 69 } : Room) = RM := hRM
  subst hRM
  have hl := lv_entry ([.ref q]) (n := 5) (Nat.le_of_ble_eq_true rfl)
  rw [lg_entry_eq]
  generalize (lg_sl ([.ref q]) ++ List.replicate (5 - (lg_sl ([.ref q])).length) Slot.unset).toArray = ls at hl ⊢
  have hl : lv_has ls 5 [(0, .ref q)] := hl
  have hS : va_S (fIv q 10) s.heap s.heap [] := va_S.rf
  unfold fX5_readItem at h
  obtain ⟨H, hH⟩ : ∃ H, H = s.heap := ⟨_, rfl⟩
  obtain ⟨locs, hlz⟩ : ∃ z : List Loc, z = [] := ⟨_, rfl⟩
  have hP : va_P D vwCl (MW cI cZ q M) H := by rw [hH]; exact hP
  have hS : va_S (fIv q 10) s.heap H locs := by rw [hH, hlz]; exact hS
  refine gc_at hH hlz ?_
  refine lv_aload_n hx hb dX5_readItem_0 rfl (lv_at hl 0 rfl) ?_
  refine va_get (D := D) (ci := 5) (v := .ref (q + 1)) (C := RX5) (T := TX5) (N := 15) hx hb hts hinX5 hown hK hP 0 rfl rfl 1 (by decide) hf7 (fun _ h9 => h9) rfl dX5_readItem_1 ?_
  refine lv_aload_n hx hb dX5_readItem_4 rfl (lv_at hl 0 rfl) ?_
  refine va_get (D := D) (ci := 5) (v := .int (mSpot M)) (C := RX5) (T := TX5) (N := 15) hx hb hts hinX5 hown hK hP 0 rfl rfl 3 (by decide) hf101 (fun _ h9 => h9) rfl dX5_readItem_5 ?_
  obtain ⟨hg1, h⟩ := gd_some h
  refine g_iald (f := ((mA M) 1)) (k := ((mSpot M)).toNatClampNeg) hx hb hK hP 1 0 rfl rfl hg1 rfl dX5_readItem_8 ?_
  refine lv_istore_n (lv' := [(1, .int (((mA M) 1) ((mSpot M)).toNatClampNeg)), (0, .ref q)]) hx hb dX5_readItem_9 rfl hl (by decide) rfl (fun ls hl => ?_)
  refine lv_iload_n hx hb dX5_readItem_10 rfl (lv_at hl 0 rfl) ?_
  refine lv_bipush (v := 103) hx hb dX5_readItem_11 (by decide) ?_
  refine lv_icmp_ne (tgt := 35) hx hb dX5_readItem_13 (by decide) (fun c2 => ?_) (fun c2 => ?_)
  · replace h := (if_neg c2).symm.trans h
    refine lv_iconst (v := 0) hx hb dX5_readItem_35 (by decide) ?_
    refine lv_istore_n (lv' := [(2, .int 0), (1, .int (((mA M) 1) ((mSpot M)).toNatClampNeg)), (0, .ref q)]) hx hb dX5_readItem_36 rfl hl (by decide) rfl (fun ls hl => ?_)
    refine lv_aload_n hx hb dX5_readItem_37 rfl (lv_at hl 2 rfl) ?_
    refine va_get (D := D) (ci := 5) (v := .ref (q + 2)) (C := RX5) (T := TX5) (N := 15) hx hb hts hinX5 hown hK hP 0 rfl rfl 5 (by decide) hf13 (fun _ h9 => h9) rfl dX5_readItem_38 ?_
    refine lv_bipush (v := 96) hx hb dX5_readItem_41 (by decide) ?_
    refine g_iald (f := ((mA M) 2)) (k := 96) hx hb hK hP 2 0 rfl rfl (vin_lit rfl) rfl dX5_readItem_43 ?_
    refine lv_bipush (v := 12) hx hb dX5_readItem_44 (by decide) ?_
    refine lv_icmp_eq (tgt := 59) hx hb dX5_readItem_46 (by decide) (fun c3 => ?_) (fun c3 => ?_)
    · replace h := (if_pos c3).symm.trans h
      refine lv_iconst (v := 0) hx hb dX5_readItem_59 (by decide) ?_
      have h := Option.some.inj h
      subst h
      exact W.zret (v := 0) hx hb hr rfl (fun t ht hW => ⟨⟨_, (), rfl, rfl, gh ht hP⟩, hS.F ht⟩) hS.2.2 dX5_readItem_60
    · replace h := (if_neg c3).symm.trans h
      refine lv_iload_n hx hb dX5_readItem_49 rfl (lv_at hl 0 rfl) ?_
      refine lv_if_ne (tgt := 61) hx hb dX5_readItem_50 (by decide) (fun c => absurd c (by decide)) (fun _ => ?_)
      refine lv_iload_n hx hb dX5_readItem_53 rfl (lv_at hl 1 rfl) ?_
      refine lv_bipush (v := 104) hx hb dX5_readItem_54 (by decide) ?_
      refine lv_icmp_eq (tgt := 61) hx hb dX5_readItem_56 (by decide) (fun c4 => ?_) (fun c4 => ?_)
      · replace h := (if_pos c4).symm.trans h
        refine lv_aload_n hx hb dX5_readItem_61 rfl (lv_at hl 2 rfl) ?_
        refine lv_dup hx hb dX5_readItem_62 rfl ?_
        refine va_get (D := D) (ci := 5) (v := .int (mSpot M)) (C := RX5) (T := TX5) (N := 15) hx hb hts hinX5 hown hK hP 0 rfl rfl 3 (by decide) hf101 (fun _ h9 => h9) rfl dX5_readItem_63 ?_
        refine lv_iconst (v := 1) hx hb dX5_readItem_66 (by decide) ?_
        refine lv_iadd hx hb dX5_readItem_67 ?_
        refine va_put (D := D) (ci := 5) (v := .int ((mSpot M) + 1)) (ty := .int) (C := RX5) (T := TX5) (N := 15) hx hb hts hinX5 tyX5 tyX5_ok nmX5 hown hK hP MW_self hS 0 rfl rfl 3 (by decide) hf101 (fun _ h9 => h9) rfl (by decide +kernel) rfl rfl (Nat.le_of_ble_eq_true rfl) dX5_readItem_68 (fun H locs hP _ hS => ?_)
        have hP : va_P D vwCl (MW cI cZ q ((mA M), (mRef M), (mSize M), ((mSpot M) + 1), (mRN M), (mN M), (mActs M))) H := hP
        refine lv_aload_n hx hb dX5_readItem_71 rfl (lv_at hl 2 rfl) ?_
        refine lv_iconst (v := 0) hx hb dX5_readItem_72 (by decide) ?_
        refine lv_iconst (v := 3) hx hb dX5_readItem_73 (by decide) ?_
        obtain ⟨r74, hr74, h⟩ := bd_some h
        refine gc_wi (As := [.int 0, .int 3]) (rest := []) ⟨hx, hb, hml, hown, hts⟩ hK (kX5_digit l D cI cC cZ cQ cJ q ((mA M), (mRef M), (mSize M), ((mSpot M) + 1), (mRN M), (mN M), (mActs M)) 0 3 hr74) (cwV 2 hts gX5_readItem_X5_digit rfl rfl rfl (by decide +kernel) ⟨Nat.le_of_ble_eq_true rfl, Nat.le_of_ble_eq_true rfl⟩) (va_recv hK hP (ci := 5) (q0 := 0) rfl rfl) hP hS (fun _ h => h) rfl hl.1 rfl (Nat.le_of_ble_eq_true rfl) ⟨Nat.zero_le _, Nat.zero_le _⟩ dX5_readItem_74 (fun H locs hP hS _ _ => ?_)
        refine lv_istore_n (lv' := [(3, .int r74.1), (2, .int 0), (1, .int (((mA M) 1) ((mSpot M)).toNatClampNeg)), (0, .ref q)]) hx hb dX5_readItem_77 rfl hl (by decide) rfl (fun ls hl => ?_)
        refine lv_iload_n hx hb dX5_readItem_78 rfl (lv_at hl 0 rfl) ?_
        refine lv_bipush (v := (-9)) hx hb dX5_readItem_79 (by decide) ?_
        refine lv_icmp_ne (tgt := 86) hx hb dX5_readItem_81 (by decide) (fun c5 => ?_) (fun c5 => ?_)
        · replace h := (if_neg c5).symm.trans h
          refine lv_iload_n hx hb dX5_readItem_86 rfl (lv_at hl 1 rfl) ?_
          refine lv_if_eq (tgt := 97) hx hb dX5_readItem_87 (by decide) (fun _ => ?_) (fun c => absurd c (by decide))
          refine lv_iconst (v := 0) hx hb dX5_readItem_97 (by decide) ?_
          refine lv_istore (lv' := [(4, .int 0), (3, .int r74.1), (2, .int 0), (1, .int (((mA M) 1) ((mSpot M)).toNatClampNeg)), (0, .ref q)]) hx hb dX5_readItem_98 hl (by decide) rfl (fun ls hl => ?_)
          refine lv_iload hx hb dX5_readItem_100 (lv_at hl 0 rfl) ?_
          refine lv_bipush (v := (-9)) hx hb dX5_readItem_102 (by decide) ?_
          refine lv_icmp_ne (tgt := 109) hx hb dX5_readItem_104 (by decide) (fun _ => ?_) (fun c => absurd c (by decide))
          refine lv_aload_n hx hb dX5_readItem_109 rfl (lv_at hl 4 rfl) ?_
          refine va_get (D := D) (ci := 5) (v := .ref (q + 2)) (C := RX5) (T := TX5) (N := 15) hx hb hts hinX5 hown hK hP 0 rfl rfl 5 (by decide) hf13 (fun _ h9 => h9) rfl dX5_readItem_110 ?_
          refine lv_iload_n hx hb dX5_readItem_113 rfl (lv_at hl 1 rfl) ?_
          refine lv_iload_n hx hb dX5_readItem_114 rfl (lv_at hl 2 rfl) ?_
          refine lv_if_eq (tgt := 122) hx hb dX5_readItem_115 (by decide) (fun _ => ?_) (fun c => absurd c (by decide))
          refine lv_iconst (v := 1) hx hb dX5_readItem_122 (by decide) ?_
          refine lv_iload hx hb dX5_readItem_123 (lv_at hl 0 rfl) ?_
          obtain ⟨r125, hr125, h⟩ := bd_some h
          refine gc_swv (As := [.ref (q + 2), .int r74.1, .int 1, .int 0]) (rest := []) ⟨hx, hb, hml, hown, hts⟩ hK (kX5_addOn l D cI cC cZ cQ cJ q 2 r74.2 r74.1 1 0 (Or.inl rfl) hr125) (va_cwS 4 hts gX5_readItem_X5_addOn rfl rfl rfl (by decide +kernel) ⟨Nat.le_of_ble_eq_true rfl, Nat.le_of_ble_eq_true rfl⟩)  hP hS (fun _ h => h) rfl hl.1 rfl (Nat.le_of_ble_eq_true rfl) ⟨Nat.zero_le _, Nat.zero_le _⟩ dX5_readItem_125 (fun H locs hP hS _ _ => ?_)
          refine lv_iconst (v := 1) hx hb dX5_readItem_128 (by decide) ?_
          have h := Option.some.inj h
          subst h
          exact W.zret (v := 1) hx hb hr rfl (fun t ht hW => ⟨⟨_, (), rfl, rfl, gh ht hP⟩, hS.F ht⟩) hS.2.2 dX5_readItem_129
        · replace h := (if_pos c5).symm.trans h
          refine lv_iconst (v := 0) hx hb dX5_readItem_84 (by decide) ?_
          have h := Option.some.inj h
          subst h
          exact W.zret (v := 0) hx hb hr rfl (fun t ht hW => ⟨⟨_, (), rfl, rfl, gh ht hP⟩, hS.F ht⟩) hS.2.2 dX5_readItem_85
      · replace h := (if_neg c4).symm.trans h
        refine lv_iconst (v := 0) hx hb dX5_readItem_59 (by decide) ?_
        have h := Option.some.inj h
        subst h
        exact W.zret (v := 0) hx hb hr rfl (fun t ht hW => ⟨⟨_, (), rfl, rfl, gh ht hP⟩, hS.F ht⟩) hS.2.2 dX5_readItem_60
  · replace h := (if_pos c2).symm.trans h
    refine lv_aload_n hx hb dX5_readItem_16 rfl (lv_at hl 1 rfl) ?_
    refine va_get (D := D) (ci := 5) (v := .ref (q + 2)) (C := RX5) (T := TX5) (N := 15) hx hb hts hinX5 hown hK hP 0 rfl rfl 5 (by decide) hf13 (fun _ h9 => h9) rfl dX5_readItem_17 ?_
    refine lv_iconst (v := 0) hx hb dX5_readItem_20 (by decide) ?_
    obtain ⟨r21, hr21, h⟩ := bd_some h
    refine gc_si (As := [.ref (q + 2), .int 0]) (rest := []) ⟨hx, hb, hml, hown, hts⟩ hK (kX5_count l D cI cC cZ cQ cJ q 2 M 0 (Or.inl rfl) hr21) (va_cwS 2 hts gX5_readItem_X5_count rfl rfl rfl (by decide +kernel) ⟨Nat.le_of_ble_eq_true rfl, Nat.le_of_ble_eq_true rfl⟩)  hP rfl hl.1 rfl (Nat.le_of_ble_eq_true rfl) ⟨Nat.zero_le _, Nat.zero_le _⟩ dX5_readItem_21 ?_
    refine lv_aload_n hx hb dX5_readItem_24 rfl (lv_at hl 1 rfl) ?_
    refine va_get (D := D) (ci := 5) (v := .int (mRN M)) (C := RX5) (T := TX5) (N := 15) hx hb hts hinX5 hown hK hP 0 rfl rfl 4 (by decide) hf107 (fun _ h9 => h9) rfl dX5_readItem_25 ?_
    refine lv_icmp_ge (tgt := 35) hx hb dX5_readItem_28 (by decide) (fun c6 => ?_) (fun c6 => ?_)
    · replace h := (if_pos c6).symm.trans h
      refine lv_iconst (v := 0) hx hb dX5_readItem_35 (by decide) ?_
      refine lv_istore_n (lv' := [(2, .int 0), (1, .int (((mA M) 1) ((mSpot M)).toNatClampNeg)), (0, .ref q)]) hx hb dX5_readItem_36 rfl hl (by decide) rfl (fun ls hl => ?_)
      refine lv_aload_n hx hb dX5_readItem_37 rfl (lv_at hl 2 rfl) ?_
      refine va_get (D := D) (ci := 5) (v := .ref (q + 2)) (C := RX5) (T := TX5) (N := 15) hx hb hts hinX5 hown hK hP 0 rfl rfl 5 (by decide) hf13 (fun _ h9 => h9) rfl dX5_readItem_38 ?_
      refine lv_bipush (v := 96) hx hb dX5_readItem_41 (by decide) ?_
      refine g_iald (f := ((mA M) 2)) (k := 96) hx hb hK hP 2 0 rfl rfl (vin_lit rfl) rfl dX5_readItem_43 ?_
      refine lv_bipush (v := 12) hx hb dX5_readItem_44 (by decide) ?_
      refine lv_icmp_eq (tgt := 59) hx hb dX5_readItem_46 (by decide) (fun c7 => ?_) (fun c7 => ?_)
      · replace h := (if_pos c7).symm.trans h
        refine lv_iconst (v := 0) hx hb dX5_readItem_59 (by decide) ?_
        have h := Option.some.inj h
        subst h
        exact W.zret (v := 0) hx hb hr rfl (fun t ht hW => ⟨⟨_, (), rfl, rfl, gh ht hP⟩, hS.F ht⟩) hS.2.2 dX5_readItem_60
      · replace h := (if_neg c7).symm.trans h
        refine lv_iload_n hx hb dX5_readItem_49 rfl (lv_at hl 0 rfl) ?_
        refine lv_if_ne (tgt := 61) hx hb dX5_readItem_50 (by decide) (fun c => absurd c (by decide)) (fun _ => ?_)
        refine lv_iload_n hx hb dX5_readItem_53 rfl (lv_at hl 1 rfl) ?_
        refine lv_bipush (v := 104) hx hb dX5_readItem_54 (by decide) ?_
        refine lv_icmp_eq (tgt := 61) hx hb dX5_readItem_56 (by decide) (fun c8 => ?_) (fun c8 => ?_)
        · replace h := (if_pos c8).symm.trans h
          refine lv_aload_n hx hb dX5_readItem_61 rfl (lv_at hl 2 rfl) ?_
          refine lv_dup hx hb dX5_readItem_62 rfl ?_
          refine va_get (D := D) (ci := 5) (v := .int (mSpot M)) (C := RX5) (T := TX5) (N := 15) hx hb hts hinX5 hown hK hP 0 rfl rfl 3 (by decide) hf101 (fun _ h9 => h9) rfl dX5_readItem_63 ?_
          refine lv_iconst (v := 1) hx hb dX5_readItem_66 (by decide) ?_
          refine lv_iadd hx hb dX5_readItem_67 ?_
          refine va_put (D := D) (ci := 5) (v := .int ((mSpot M) + 1)) (ty := .int) (C := RX5) (T := TX5) (N := 15) hx hb hts hinX5 tyX5 tyX5_ok nmX5 hown hK hP MW_self hS 0 rfl rfl 3 (by decide) hf101 (fun _ h9 => h9) rfl (by decide +kernel) rfl rfl (Nat.le_of_ble_eq_true rfl) dX5_readItem_68 (fun H locs hP _ hS => ?_)
          have hP : va_P D vwCl (MW cI cZ q ((mA M), (mRef M), (mSize M), ((mSpot M) + 1), (mRN M), (mN M), (mActs M))) H := hP
          refine lv_aload_n hx hb dX5_readItem_71 rfl (lv_at hl 2 rfl) ?_
          refine lv_iconst (v := 0) hx hb dX5_readItem_72 (by decide) ?_
          refine lv_iconst (v := 3) hx hb dX5_readItem_73 (by decide) ?_
          obtain ⟨r74, hr74, h⟩ := bd_some h
          refine gc_wi (As := [.int 0, .int 3]) (rest := []) ⟨hx, hb, hml, hown, hts⟩ hK (kX5_digit l D cI cC cZ cQ cJ q ((mA M), (mRef M), (mSize M), ((mSpot M) + 1), (mRN M), (mN M), (mActs M)) 0 3 hr74) (cwV 2 hts gX5_readItem_X5_digit rfl rfl rfl (by decide +kernel) ⟨Nat.le_of_ble_eq_true rfl, Nat.le_of_ble_eq_true rfl⟩) (va_recv hK hP (ci := 5) (q0 := 0) rfl rfl) hP hS (fun _ h => h) rfl hl.1 rfl (Nat.le_of_ble_eq_true rfl) ⟨Nat.zero_le _, Nat.zero_le _⟩ dX5_readItem_74 (fun H locs hP hS _ _ => ?_)
          refine lv_istore_n (lv' := [(3, .int r74.1), (2, .int 0), (1, .int (((mA M) 1) ((mSpot M)).toNatClampNeg)), (0, .ref q)]) hx hb dX5_readItem_77 rfl hl (by decide) rfl (fun ls hl => ?_)
          refine lv_iload_n hx hb dX5_readItem_78 rfl (lv_at hl 0 rfl) ?_
          refine lv_bipush (v := (-9)) hx hb dX5_readItem_79 (by decide) ?_
          refine lv_icmp_ne (tgt := 86) hx hb dX5_readItem_81 (by decide) (fun c9 => ?_) (fun c9 => ?_)
          · replace h := (if_neg c9).symm.trans h
            refine lv_iload_n hx hb dX5_readItem_86 rfl (lv_at hl 1 rfl) ?_
            refine lv_if_eq (tgt := 97) hx hb dX5_readItem_87 (by decide) (fun _ => ?_) (fun c => absurd c (by decide))
            refine lv_iconst (v := 0) hx hb dX5_readItem_97 (by decide) ?_
            refine lv_istore (lv' := [(4, .int 0), (3, .int r74.1), (2, .int 0), (1, .int (((mA M) 1) ((mSpot M)).toNatClampNeg)), (0, .ref q)]) hx hb dX5_readItem_98 hl (by decide) rfl (fun ls hl => ?_)
            refine lv_iload hx hb dX5_readItem_100 (lv_at hl 0 rfl) ?_
            refine lv_bipush (v := (-9)) hx hb dX5_readItem_102 (by decide) ?_
            refine lv_icmp_ne (tgt := 109) hx hb dX5_readItem_104 (by decide) (fun _ => ?_) (fun c => absurd c (by decide))
            refine lv_aload_n hx hb dX5_readItem_109 rfl (lv_at hl 4 rfl) ?_
            refine va_get (D := D) (ci := 5) (v := .ref (q + 2)) (C := RX5) (T := TX5) (N := 15) hx hb hts hinX5 hown hK hP 0 rfl rfl 5 (by decide) hf13 (fun _ h9 => h9) rfl dX5_readItem_110 ?_
            refine lv_iload_n hx hb dX5_readItem_113 rfl (lv_at hl 1 rfl) ?_
            refine lv_iload_n hx hb dX5_readItem_114 rfl (lv_at hl 2 rfl) ?_
            refine lv_if_eq (tgt := 122) hx hb dX5_readItem_115 (by decide) (fun _ => ?_) (fun c => absurd c (by decide))
            refine lv_iconst (v := 1) hx hb dX5_readItem_122 (by decide) ?_
            refine lv_iload hx hb dX5_readItem_123 (lv_at hl 0 rfl) ?_
            obtain ⟨r125, hr125, h⟩ := bd_some h
            refine gc_swv (As := [.ref (q + 2), .int r74.1, .int 1, .int 0]) (rest := []) ⟨hx, hb, hml, hown, hts⟩ hK (kX5_addOn l D cI cC cZ cQ cJ q 2 r74.2 r74.1 1 0 (Or.inl rfl) hr125) (va_cwS 4 hts gX5_readItem_X5_addOn rfl rfl rfl (by decide +kernel) ⟨Nat.le_of_ble_eq_true rfl, Nat.le_of_ble_eq_true rfl⟩)  hP hS (fun _ h => h) rfl hl.1 rfl (Nat.le_of_ble_eq_true rfl) ⟨Nat.zero_le _, Nat.zero_le _⟩ dX5_readItem_125 (fun H locs hP hS _ _ => ?_)
            refine lv_iconst (v := 1) hx hb dX5_readItem_128 (by decide) ?_
            have h := Option.some.inj h
            subst h
            exact W.zret (v := 1) hx hb hr rfl (fun t ht hW => ⟨⟨_, (), rfl, rfl, gh ht hP⟩, hS.F ht⟩) hS.2.2 dX5_readItem_129
          · replace h := (if_pos c9).symm.trans h
            refine lv_iconst (v := 0) hx hb dX5_readItem_84 (by decide) ?_
            have h := Option.some.inj h
            subst h
            exact W.zret (v := 0) hx hb hr rfl (fun t ht hW => ⟨⟨_, (), rfl, rfl, gh ht hP⟩, hS.F ht⟩) hS.2.2 dX5_readItem_85
        · replace h := (if_neg c8).symm.trans h
          refine lv_iconst (v := 0) hx hb dX5_readItem_59 (by decide) ?_
          have h := Option.some.inj h
          subst h
          exact W.zret (v := 0) hx hb hr rfl (fun t ht hW => ⟨⟨_, (), rfl, rfl, gh ht hP⟩, hS.F ht⟩) hS.2.2 dX5_readItem_60
    · replace h := (if_neg c6).symm.trans h
      refine lv_iconst (v := 1) hx hb dX5_readItem_31 (by decide) ?_
      refine lv_goto (tgt := 36) hx hb dX5_readItem_32 (by decide) ?_
      refine lv_istore_n (lv' := [(2, .int 1), (1, .int (((mA M) 1) ((mSpot M)).toNatClampNeg)), (0, .ref q)]) hx hb dX5_readItem_36 rfl hl (by decide) rfl (fun ls hl => ?_)
      refine lv_aload_n hx hb dX5_readItem_37 rfl (lv_at hl 2 rfl) ?_
      refine va_get (D := D) (ci := 5) (v := .ref (q + 2)) (C := RX5) (T := TX5) (N := 15) hx hb hts hinX5 hown hK hP 0 rfl rfl 5 (by decide) hf13 (fun _ h9 => h9) rfl dX5_readItem_38 ?_
      refine lv_bipush (v := 96) hx hb dX5_readItem_41 (by decide) ?_
      refine g_iald (f := ((mA M) 2)) (k := 96) hx hb hK hP 2 0 rfl rfl (vin_lit rfl) rfl dX5_readItem_43 ?_
      refine lv_bipush (v := 12) hx hb dX5_readItem_44 (by decide) ?_
      refine lv_icmp_eq (tgt := 59) hx hb dX5_readItem_46 (by decide) (fun c10 => ?_) (fun c10 => ?_)
      · replace h := (if_pos c10).symm.trans h
        refine lv_iconst (v := 0) hx hb dX5_readItem_59 (by decide) ?_
        have h := Option.some.inj h
        subst h
        exact W.zret (v := 0) hx hb hr rfl (fun t ht hW => ⟨⟨_, (), rfl, rfl, gh ht hP⟩, hS.F ht⟩) hS.2.2 dX5_readItem_60
      · replace h := (if_neg c10).symm.trans h
        refine lv_iload_n hx hb dX5_readItem_49 rfl (lv_at hl 0 rfl) ?_
        refine lv_if_ne (tgt := 61) hx hb dX5_readItem_50 (by decide) (fun _ => ?_) (fun c => absurd c (by decide))
        refine lv_aload_n hx hb dX5_readItem_61 rfl (lv_at hl 2 rfl) ?_
        refine lv_dup hx hb dX5_readItem_62 rfl ?_
        refine va_get (D := D) (ci := 5) (v := .int (mSpot M)) (C := RX5) (T := TX5) (N := 15) hx hb hts hinX5 hown hK hP 0 rfl rfl 3 (by decide) hf101 (fun _ h9 => h9) rfl dX5_readItem_63 ?_
        refine lv_iconst (v := 1) hx hb dX5_readItem_66 (by decide) ?_
        refine lv_iadd hx hb dX5_readItem_67 ?_
        refine va_put (D := D) (ci := 5) (v := .int ((mSpot M) + 1)) (ty := .int) (C := RX5) (T := TX5) (N := 15) hx hb hts hinX5 tyX5 tyX5_ok nmX5 hown hK hP MW_self hS 0 rfl rfl 3 (by decide) hf101 (fun _ h9 => h9) rfl (by decide +kernel) rfl rfl (Nat.le_of_ble_eq_true rfl) dX5_readItem_68 (fun H locs hP _ hS => ?_)
        have hP : va_P D vwCl (MW cI cZ q ((mA M), (mRef M), (mSize M), ((mSpot M) + 1), (mRN M), (mN M), (mActs M))) H := hP
        refine lv_aload_n hx hb dX5_readItem_71 rfl (lv_at hl 2 rfl) ?_
        refine lv_iconst (v := 0) hx hb dX5_readItem_72 (by decide) ?_
        refine lv_iconst (v := 3) hx hb dX5_readItem_73 (by decide) ?_
        obtain ⟨r74, hr74, h⟩ := bd_some h
        refine gc_wi (As := [.int 0, .int 3]) (rest := []) ⟨hx, hb, hml, hown, hts⟩ hK (kX5_digit l D cI cC cZ cQ cJ q ((mA M), (mRef M), (mSize M), ((mSpot M) + 1), (mRN M), (mN M), (mActs M)) 0 3 hr74) (cwV 2 hts gX5_readItem_X5_digit rfl rfl rfl (by decide +kernel) ⟨Nat.le_of_ble_eq_true rfl, Nat.le_of_ble_eq_true rfl⟩) (va_recv hK hP (ci := 5) (q0 := 0) rfl rfl) hP hS (fun _ h => h) rfl hl.1 rfl (Nat.le_of_ble_eq_true rfl) ⟨Nat.zero_le _, Nat.zero_le _⟩ dX5_readItem_74 (fun H locs hP hS _ _ => ?_)
        refine lv_istore_n (lv' := [(3, .int r74.1), (2, .int 1), (1, .int (((mA M) 1) ((mSpot M)).toNatClampNeg)), (0, .ref q)]) hx hb dX5_readItem_77 rfl hl (by decide) rfl (fun ls hl => ?_)
        refine lv_iload_n hx hb dX5_readItem_78 rfl (lv_at hl 0 rfl) ?_
        refine lv_bipush (v := (-9)) hx hb dX5_readItem_79 (by decide) ?_
        refine lv_icmp_ne (tgt := 86) hx hb dX5_readItem_81 (by decide) (fun c11 => ?_) (fun c11 => ?_)
        · replace h := (if_neg c11).symm.trans h
          refine lv_iload_n hx hb dX5_readItem_86 rfl (lv_at hl 1 rfl) ?_
          refine lv_if_eq (tgt := 97) hx hb dX5_readItem_87 (by decide) (fun c => absurd c (by decide)) (fun _ => ?_)
          refine lv_aload_n hx hb dX5_readItem_90 rfl (lv_at hl 3 rfl) ?_
          obtain ⟨r91, hr91, h⟩ := bd_some h
          refine gc_wi (As := []) (rest := []) ⟨hx, hb, hml, hown, hts⟩ hK (kX5_readSlot l D cI cC cZ cQ cJ q r74.2 hr91) (cwV 0 hts gX5_readItem_X5_readSlot rfl rfl rfl (by decide +kernel) ⟨Nat.le_of_ble_eq_true rfl, Nat.le_of_ble_eq_true rfl⟩) (va_recv hK hP (ci := 5) (q0 := 0) rfl rfl) hP hS (fun _ h => h) rfl hl.1 rfl (Nat.le_of_ble_eq_true rfl) ⟨Nat.zero_le _, Nat.zero_le _⟩ dX5_readItem_91 (fun H locs hP hS _ _ => ?_)
          refine lv_goto (tgt := 98) hx hb dX5_readItem_94 (by decide) ?_
          refine lv_istore (lv' := [(4, .int r91.1), (3, .int r74.1), (2, .int 1), (1, .int (((mA M) 1) ((mSpot M)).toNatClampNeg)), (0, .ref q)]) hx hb dX5_readItem_98 hl (by decide) rfl (fun ls hl => ?_)
          refine lv_iload hx hb dX5_readItem_100 (lv_at hl 0 rfl) ?_
          refine lv_bipush (v := (-9)) hx hb dX5_readItem_102 (by decide) ?_
          refine lv_icmp_ne (tgt := 109) hx hb dX5_readItem_104 (by decide) (fun c12 => ?_) (fun c12 => ?_)
          · replace h := (if_neg c12).symm.trans h
            refine lv_aload_n hx hb dX5_readItem_109 rfl (lv_at hl 4 rfl) ?_
            refine va_get (D := D) (ci := 5) (v := .ref (q + 2)) (C := RX5) (T := TX5) (N := 15) hx hb hts hinX5 hown hK hP 0 rfl rfl 5 (by decide) hf13 (fun _ h9 => h9) rfl dX5_readItem_110 ?_
            refine lv_iload_n hx hb dX5_readItem_113 rfl (lv_at hl 1 rfl) ?_
            refine lv_iload_n hx hb dX5_readItem_114 rfl (lv_at hl 2 rfl) ?_
            refine lv_if_eq (tgt := 122) hx hb dX5_readItem_115 (by decide) (fun c => absurd c (by decide)) (fun _ => ?_)
            refine lv_iconst (v := 0) hx hb dX5_readItem_118 (by decide) ?_
            refine lv_goto (tgt := 123) hx hb dX5_readItem_119 (by decide) ?_
            refine lv_iload hx hb dX5_readItem_123 (lv_at hl 0 rfl) ?_
            obtain ⟨r125, hr125, h⟩ := bd_some h
            refine gc_swv (As := [.ref (q + 2), .int r74.1, .int 0, .int r91.1]) (rest := []) ⟨hx, hb, hml, hown, hts⟩ hK (kX5_addOn l D cI cC cZ cQ cJ q 2 r91.2 r74.1 0 r91.1 (Or.inl rfl) hr125) (va_cwS 4 hts gX5_readItem_X5_addOn rfl rfl rfl (by decide +kernel) ⟨Nat.le_of_ble_eq_true rfl, Nat.le_of_ble_eq_true rfl⟩)  hP hS (fun _ h => h) rfl hl.1 rfl (Nat.le_of_ble_eq_true rfl) ⟨Nat.zero_le _, Nat.zero_le _⟩ dX5_readItem_125 (fun H locs hP hS _ _ => ?_)
            refine lv_iconst (v := 1) hx hb dX5_readItem_128 (by decide) ?_
            have h := Option.some.inj h
            subst h
            exact W.zret (v := 1) hx hb hr rfl (fun t ht hW => ⟨⟨_, (), rfl, rfl, gh ht hP⟩, hS.F ht⟩) hS.2.2 dX5_readItem_129
          · replace h := (if_pos c12).symm.trans h
            refine lv_iconst (v := 0) hx hb dX5_readItem_107 (by decide) ?_
            have h := Option.some.inj h
            subst h
            exact W.zret (v := 0) hx hb hr rfl (fun t ht hW => ⟨⟨_, (), rfl, rfl, gh ht hP⟩, hS.F ht⟩) hS.2.2 dX5_readItem_108
        · replace h := (if_pos c11).symm.trans h
          refine lv_iconst (v := 0) hx hb dX5_readItem_84 (by decide) ?_
          have h := Option.some.inj h
          subst h
          exact W.zret (v := 0) hx hb hr rfl (fun t ht hW => ⟨⟨_, (), rfl, rfl, gh ht hP⟩, hS.F ht⟩) hS.2.2 dX5_readItem_85
set_option maxHeartbeats 4000000 in
set_option maxRecDepth 100000 in
theorem kX5_readText (l : Launch) (D : va_G) (cI cC cZ cQ cJ : ClassId) (q : Nat) (M : MSt) {R : Int32 × MSt} (h : fX5_readText M = some R) : Met l yX5_readText wsX5_readText ({ frames := 4, cells := 0, slots := 0, locals := 93 } : Room) (va_Pc [.ref q] (gB D (gTy cI cC cZ cQ cJ) (va_P D vwCl (MW cI cZ q M)))) (va_Qi (fun r (_ : Unit) => r = R.1) (fun _ t => va_P D vwCl (MW cI cZ q R.2) t.heap) (fIv q 10)) 0 0 (fIv q 10) := by
  refine Met.ofW (cc := cX5_readText) (maxL := 3) (ret := (some .int)) (by decide) rfl ?_
  intro p e s m args below meth c s₁ B hml hv
  obtain ⟨rfl, hP, hK⟩ := hv
  have hx := B.exec
  have hb := B.bytes
  have hr := B.returns
  have hts := atoms_spec (ws := wsX5_readText) B.pre
  have hown : s.vm.findClass RX5 = some m.cls := findClass_of_methodNamed B.named
  have hlocks := B.notSynchronized
  have hinX5 : ∀ w ∈ wsX50, w ∈ wsX5_readText := by decide +kernel
  have hf101 := hts (.fieldLink RX5 101 "GripInspectorModel" "spot" "I") (by decide +kernel)
  have hf94 := hts (.fieldLink RX5 94 "GripInspectorModel" "scriptSize" "I") (by decide +kernel)
  have hf7 := hts (.fieldLink RX5 7 "GripInspectorModel" "script" "[I") (by decide +kernel)
  have hf107 := hts (.fieldLink RX5 107 "GripInspectorModel" "readN" "I") (by decide +kernel)
  have hf13 := hts (.fieldLink RX5 13 "GripInspectorModel" "readRow" "[I") (by decide +kernel)
  generalize hRM : (headSpec wsX5_readText ({ frames := 4, cells := 0, slots := 0, locals := 93 } : Room)).room = RM
  replace hRM : ({ frames := 4, cells := 0, slots := 0, locals := 93 } : Room) = RM := hRM
  subst hRM
  have hl := lv_entry ([.ref q]) (n := 3) (Nat.le_of_ble_eq_true rfl)
  rw [lg_entry_eq]
  generalize (lg_sl ([.ref q]) ++ List.replicate (3 - (lg_sl ([.ref q])).length) Slot.unset).toArray = ls at hl ⊢
  have hl : lv_has ls 3 [(0, .ref q)] := hl
  have hS : va_S (fIv q 10) s.heap s.heap [] := va_S.rf
  have LP153 : ∀ (n : Nat) (S : MSt)  (H : Heap) (locs : List Loc) (ls : Array Slot), fX5_readText_L153 n S = some R → va_P D vwCl (MW cI cZ q S) H → va_S (fIv q 10) s.heap H locs → lv_has ls 3 [(0, .ref q)] → W p l e ({ frames := 4, cells := 0, slots := 0, locals := 93 } : Room) s m ([.ref q] : List Value).toArray below meth c H locs 0 0 (MQ below (va_Qi (fun r (_ : Unit) => r = R.1) (fun _ t => va_P D vwCl (MW cI cZ q R.2) t.heap) (fIv q 10)) ([.ref q] : List Value).toArray s 0 0 (fIv q 10)) (F0 m 153 ls []) := by
    intro n
    induction n with
    | zero => intro S H locs ls h hP hS hl; exact no_some h
    | succ n ih =>
      intro S H locs ls h hP hS hl
      rw [fX5_readText_L153] at h
      refine lv_aload_n hx hb dX5_readText_153 rfl (lv_at hl 0 rfl) ?_
      refine va_get (D := D) (ci := 5) (v := .int (mSpot S)) (C := RX5) (T := TX5) (N := 15) hx hb hts hinX5 hown hK hP 0 rfl rfl 3 (by decide) hf101 (fun _ h9 => h9) rfl dX5_readText_154 ?_
      refine lv_aload_n hx hb dX5_readText_157 rfl (lv_at hl 0 rfl) ?_
      refine va_get (D := D) (ci := 5) (v := .int (mSize S)) (C := RX5) (T := TX5) (N := 15) hx hb hts hinX5 hown hK hP 0 rfl rfl 2 (by decide) hf94 (fun _ h9 => h9) rfl dX5_readText_158 ?_
      refine lv_icmp_ge (tgt := 176) hx hb dX5_readText_161 (by decide) (fun c6 => ?_) (fun c6 => ?_)
      · replace h := (if_pos c6).symm.trans h
        refine lv_bipush (v := (-9)) hx hb dX5_readText_176 (by decide) ?_
        have h := Option.some.inj h
        subst h
        exact W.iret (v := (-9)) hx hb hr (fun t ht hW => ⟨⟨_, (), rfl, rfl, gh ht hP⟩, hS.F ht⟩) hS.2.2 dX5_readText_178
      · replace h := (if_neg c6).symm.trans h
        refine lv_aload_n hx hb dX5_readText_164 rfl (lv_at hl 0 rfl) ?_
        obtain ⟨r165, hr165, h⟩ := bd_some h
        refine gc_wi (As := []) (rest := []) ⟨hx, hb, hml, hown, hts⟩ hK (kX5_readItem l D cI cC cZ cQ cJ q S hr165) (cwV 0 hts gX5_readText_X5_readItem rfl rfl rfl (by decide +kernel) ⟨Nat.le_of_ble_eq_true rfl, Nat.le_of_ble_eq_true rfl⟩) (va_recv hK hP (ci := 5) (q0 := 0) rfl rfl) hP hS (fun _ h => h) rfl hl.1 rfl (Nat.le_of_ble_eq_true rfl) ⟨Nat.zero_le _, Nat.zero_le _⟩ dX5_readText_165 (fun H locs hP hS _ _ => ?_)
        refine lv_if_ne (tgt := 153) hx hb dX5_readText_168 (by decide) (fun c7 => ?_) (fun c7 => ?_)
        · replace h := (if_neg c7).symm.trans h
          exact ih r165.2 H locs ls h hP hS (lv_sub hl [0] rfl)
        · replace h := (if_pos c7).symm.trans h
          refine lv_aload_n hx hb dX5_readText_171 rfl (lv_at hl 0 rfl) ?_
          refine va_get (D := D) (ci := 5) (v := .int (mSpot r165.2)) (C := RX5) (T := TX5) (N := 15) hx hb hts hinX5 hown hK hP 0 rfl rfl 3 (by decide) hf101 (fun _ h9 => h9) rfl dX5_readText_172 ?_
          have h := Option.some.inj h
          subst h
          exact W.iret (v := (mSpot r165.2)) hx hb hr (fun t ht hW => ⟨⟨_, (), rfl, rfl, gh ht hP⟩, hS.F ht⟩) hS.2.2 dX5_readText_175
  have LP69 : ∀ (n : Nat) (S : MSt) (x1 : Int32) (x2 : Int32) (H : Heap) (locs : List Loc) (ls : Array Slot), fX5_readText_L69 n S x1 x2 = some R → va_P D vwCl (MW cI cZ q S) H → va_S (fIv q 10) s.heap H locs → lv_has ls 3 [(0, .ref q), (1, .int x1), (2, .int x2)] → W p l e ({ frames := 4, cells := 0, slots := 0, locals := 93 } : Room) s m ([.ref q] : List Value).toArray below meth c H locs 0 0 (MQ below (va_Qi (fun r (_ : Unit) => r = R.1) (fun _ t => va_P D vwCl (MW cI cZ q R.2) t.heap) (fIv q 10)) ([.ref q] : List Value).toArray s 0 0 (fIv q 10)) (F0 m 69 ls []) := by
    intro n
    induction n with
    | zero => intro S x1 x2 H locs ls h hP hS hl; exact no_some h
    | succ n ih =>
      intro S x1 x2 H locs ls h hP hS hl
      rw [fX5_readText_L69] at h
      refine lv_iload_n hx hb dX5_readText_69 rfl (lv_at hl 2 rfl) ?_
      refine lv_iconst (v := 5) hx hb dX5_readText_70 (by decide) ?_
      refine lv_icmp_ge (tgt := 142) hx hb dX5_readText_71 (by decide) (fun c4 => ?_) (fun c4 => ?_)
      · replace h := (if_pos c4).symm.trans h
        refine lv_iload_n hx hb dX5_readText_142 rfl (lv_at hl 1 rfl) ?_
        refine lv_bipush (v := (-9)) hx hb dX5_readText_143 (by decide) ?_
        refine lv_icmp_ne (tgt := 153) hx hb dX5_readText_145 (by decide) (fun c5 => ?_) (fun c5 => ?_)
        · replace h := (if_neg c5).symm.trans h
          exact LP153 KF S H locs ls h hP hS (lv_sub hl [0] rfl)
        · replace h := (if_pos c5).symm.trans h
          refine lv_aload_n hx hb dX5_readText_148 rfl (lv_at hl 0 rfl) ?_
          refine va_get (D := D) (ci := 5) (v := .int (mSpot S)) (C := RX5) (T := TX5) (N := 15) hx hb hts hinX5 hown hK hP 0 rfl rfl 3 (by decide) hf101 (fun _ h9 => h9) rfl dX5_readText_149 ?_
          have h := Option.some.inj h
          subst h
          exact W.iret (v := (mSpot S)) hx hb hr (fun t ht hW => ⟨⟨_, (), rfl, rfl, gh ht hP⟩, hS.F ht⟩) hS.2.2 dX5_readText_152
      · replace h := (if_neg c4).symm.trans h
        refine lv_iload_n hx hb dX5_readText_74 rfl (lv_at hl 1 rfl) ?_
        refine lv_bipush (v := (-9)) hx hb dX5_readText_75 (by decide) ?_
        refine lv_icmp_eq (tgt := 142) hx hb dX5_readText_77 (by decide) (fun c8 => ?_) (fun c8 => ?_)
        · replace h := (if_pos c8).symm.trans h
          refine lv_iload_n hx hb dX5_readText_142 rfl (lv_at hl 1 rfl) ?_
          refine lv_bipush (v := (-9)) hx hb dX5_readText_143 (by decide) ?_
          refine lv_icmp_ne (tgt := 153) hx hb dX5_readText_145 (by decide) (fun c => absurd c8 c) (fun _ => ?_)
          refine lv_aload_n hx hb dX5_readText_148 rfl (lv_at hl 0 rfl) ?_
          refine va_get (D := D) (ci := 5) (v := .int (mSpot S)) (C := RX5) (T := TX5) (N := 15) hx hb hts hinX5 hown hK hP 0 rfl rfl 3 (by decide) hf101 (fun _ h9 => h9) rfl dX5_readText_149 ?_
          have h := Option.some.inj h
          subst h
          exact W.iret (v := (mSpot S)) hx hb hr (fun t ht hW => ⟨⟨_, (), rfl, rfl, gh ht hP⟩, hS.F ht⟩) hS.2.2 dX5_readText_152
        · replace h := (if_neg c8).symm.trans h
          refine lv_iload_n hx hb dX5_readText_80 rfl (lv_at hl 2 rfl) ?_
          refine lv_if_ne (tgt := 94) hx hb dX5_readText_81 (by decide) (fun c9 => ?_) (fun c9 => ?_)
          · replace h := (if_neg c9).symm.trans h
            refine lv_iload_n hx hb dX5_readText_94 rfl (lv_at hl 2 rfl) ?_
            refine lv_iconst (v := 1) hx hb dX5_readText_95 (by decide) ?_
            refine lv_icmp_ne (tgt := 109) hx hb dX5_readText_96 (by decide) (fun c10 => ?_) (fun c10 => ?_)
            · replace h := (if_neg c10).symm.trans h
              refine lv_aload_n hx hb dX5_readText_109 rfl (lv_at hl 0 rfl) ?_
              refine lv_iconst (v := 1) hx hb dX5_readText_110 (by decide) ?_
              refine lv_iload_n hx hb dX5_readText_111 rfl (lv_at hl 2 rfl) ?_
              refine lv_iconst (v := 3) hx hb dX5_readText_112 (by decide) ?_
              refine lv_icmp_ne (tgt := 120) hx hb dX5_readText_113 (by decide) (fun c11 => ?_) (fun c11 => ?_)
              · replace h := (if_neg c11).symm.trans h
                refine lv_bipush (v := 9) hx hb dX5_readText_120 (by decide) ?_
                obtain ⟨r122, hr122, h⟩ := bd_some h
                refine gc_wi (As := [.int 1, .int 9]) (rest := []) ⟨hx, hb, hml, hown, hts⟩ hK (kX5_digit l D cI cC cZ cQ cJ q S 1 9 hr122) (cwV 2 hts gX5_readText_X5_digit rfl rfl rfl (by decide +kernel) ⟨Nat.le_of_ble_eq_true rfl, Nat.le_of_ble_eq_true rfl⟩) (va_recv hK hP (ci := 5) (q0 := 0) rfl rfl) hP hS (fun _ h => h) rfl hl.1 rfl (Nat.le_of_ble_eq_true rfl) ⟨Nat.zero_le _, Nat.zero_le _⟩ dX5_readText_122 (fun H locs hP hS _ _ => ?_)
                refine lv_istore_n (lv' := [(1, .int r122.1), (0, .ref q), (2, .int x2)]) hx hb dX5_readText_125 rfl hl (by decide) rfl (fun ls hl => ?_)
                refine lv_aload_n hx hb dX5_readText_126 rfl (lv_at hl 1 rfl) ?_
                refine va_get (D := D) (ci := 5) (v := .ref (q + 2)) (C := RX5) (T := TX5) (N := 15) hx hb hts hinX5 hown hK hP 0 rfl rfl 5 (by decide) hf13 (fun _ h9 => h9) rfl dX5_readText_127 ?_
                refine lv_bipush (v := 99) hx hb dX5_readText_130 (by decide) ?_
                refine lv_iload_n hx hb dX5_readText_132 rfl (lv_at hl 2 rfl) ?_
                refine lv_iadd hx hb dX5_readText_133 ?_
                refine lv_iload_n hx hb dX5_readText_134 rfl (lv_at hl 0 rfl) ?_
                obtain ⟨hg12, h⟩ := gd_some h
                refine g_iast (f := ((mA r122.2) 2)) (k := ((99 + x2)).toNatClampNeg) hx hb hK hP MW_self hS 2 0 rfl rfl hg12 rfl dX5_readText_135 (fun H locs hP hS => ?_)
                obtain ⟨a13, ha13, h⟩ := lt_some h
                have hP : va_P D vwCl (MW cI cZ q (a13, (mRef r122.2), (mSize r122.2), (mSpot r122.2), (mRN r122.2), (mN r122.2), (mActs r122.2))) H := by have h9 := hP; rw [MW_s2] at h9; rw [ha13]; exact h9
                refine lv_iinc (v := (x2 + 1)) (lv' := [(2, .int (x2 + 1)), (1, .int r122.1), (0, .ref q)]) hx hb dX5_readText_136 hl (k := 2) rfl rfl (by decide) rfl (fun ls hl => ?_)
                refine lv_goto (tgt := 69) hx hb dX5_readText_139 (by decide) ?_
                exact ih (a13, (mRef r122.2), (mSize r122.2), (mSpot r122.2), (mRN r122.2), (mN r122.2), (mActs r122.2)) r122.1 (x2 + 1) H locs ls h hP hS (lv_sub hl [2, 1, 0] rfl)
              · replace h := (if_pos c11).symm.trans h
                refine lv_iconst (v := 4) hx hb dX5_readText_116 (by decide) ?_
                refine lv_goto (tgt := 122) hx hb dX5_readText_117 (by decide) ?_
                obtain ⟨r122, hr122, h⟩ := bd_some h
                refine gc_wi (As := [.int 1, .int 4]) (rest := []) ⟨hx, hb, hml, hown, hts⟩ hK (kX5_digit l D cI cC cZ cQ cJ q S 1 4 hr122) (cwV 2 hts gX5_readText_X5_digit rfl rfl rfl (by decide +kernel) ⟨Nat.le_of_ble_eq_true rfl, Nat.le_of_ble_eq_true rfl⟩) (va_recv hK hP (ci := 5) (q0 := 0) rfl rfl) hP hS (fun _ h => h) rfl hl.1 rfl (Nat.le_of_ble_eq_true rfl) ⟨Nat.zero_le _, Nat.zero_le _⟩ dX5_readText_122 (fun H locs hP hS _ _ => ?_)
                refine lv_istore_n (lv' := [(1, .int r122.1), (0, .ref q), (2, .int x2)]) hx hb dX5_readText_125 rfl hl (by decide) rfl (fun ls hl => ?_)
                refine lv_aload_n hx hb dX5_readText_126 rfl (lv_at hl 1 rfl) ?_
                refine va_get (D := D) (ci := 5) (v := .ref (q + 2)) (C := RX5) (T := TX5) (N := 15) hx hb hts hinX5 hown hK hP 0 rfl rfl 5 (by decide) hf13 (fun _ h9 => h9) rfl dX5_readText_127 ?_
                refine lv_bipush (v := 99) hx hb dX5_readText_130 (by decide) ?_
                refine lv_iload_n hx hb dX5_readText_132 rfl (lv_at hl 2 rfl) ?_
                refine lv_iadd hx hb dX5_readText_133 ?_
                refine lv_iload_n hx hb dX5_readText_134 rfl (lv_at hl 0 rfl) ?_
                obtain ⟨hg14, h⟩ := gd_some h
                refine g_iast (f := ((mA r122.2) 2)) (k := ((99 + x2)).toNatClampNeg) hx hb hK hP MW_self hS 2 0 rfl rfl hg14 rfl dX5_readText_135 (fun H locs hP hS => ?_)
                obtain ⟨a15, ha15, h⟩ := lt_some h
                have hP : va_P D vwCl (MW cI cZ q (a15, (mRef r122.2), (mSize r122.2), (mSpot r122.2), (mRN r122.2), (mN r122.2), (mActs r122.2))) H := by have h9 := hP; rw [MW_s2] at h9; rw [ha15]; exact h9
                refine lv_iinc (v := (x2 + 1)) (lv' := [(2, .int (x2 + 1)), (1, .int r122.1), (0, .ref q)]) hx hb dX5_readText_136 hl (k := 2) rfl rfl (by decide) rfl (fun ls hl => ?_)
                refine lv_goto (tgt := 69) hx hb dX5_readText_139 (by decide) ?_
                exact ih (a15, (mRef r122.2), (mSize r122.2), (mSpot r122.2), (mRN r122.2), (mN r122.2), (mActs r122.2)) r122.1 (x2 + 1) H locs ls h hP hS (lv_sub hl [2, 1, 0] rfl)
            · replace h := (if_pos c10).symm.trans h
              refine lv_aload_n hx hb dX5_readText_99 rfl (lv_at hl 0 rfl) ?_
              refine lv_iconst (v := 1) hx hb dX5_readText_100 (by decide) ?_
              refine lv_bipush (v := 50) hx hb dX5_readText_101 (by decide) ?_
              obtain ⟨r103, hr103, h⟩ := bd_some h
              refine gc_wi (As := [.int 1, .int 50]) (rest := []) ⟨hx, hb, hml, hown, hts⟩ hK (kX5_two l D cI cC cZ cQ cJ q S 1 50 hr103) (cwV 2 hts gX5_readText_X5_two rfl rfl rfl (by decide +kernel) ⟨Nat.le_of_ble_eq_true rfl, Nat.le_of_ble_eq_true rfl⟩) (va_recv hK hP (ci := 5) (q0 := 0) rfl rfl) hP hS (fun _ h => h) rfl hl.1 rfl (Nat.le_of_ble_eq_true rfl) ⟨Nat.zero_le _, Nat.zero_le _⟩ dX5_readText_103 (fun H locs hP hS _ _ => ?_)
              refine lv_goto (tgt := 125) hx hb dX5_readText_106 (by decide) ?_
              refine lv_istore_n (lv' := [(1, .int r103.1), (0, .ref q), (2, .int x2)]) hx hb dX5_readText_125 rfl hl (by decide) rfl (fun ls hl => ?_)
              refine lv_aload_n hx hb dX5_readText_126 rfl (lv_at hl 1 rfl) ?_
              refine va_get (D := D) (ci := 5) (v := .ref (q + 2)) (C := RX5) (T := TX5) (N := 15) hx hb hts hinX5 hown hK hP 0 rfl rfl 5 (by decide) hf13 (fun _ h9 => h9) rfl dX5_readText_127 ?_
              refine lv_bipush (v := 99) hx hb dX5_readText_130 (by decide) ?_
              refine lv_iload_n hx hb dX5_readText_132 rfl (lv_at hl 2 rfl) ?_
              refine lv_iadd hx hb dX5_readText_133 ?_
              refine lv_iload_n hx hb dX5_readText_134 rfl (lv_at hl 0 rfl) ?_
              obtain ⟨hg16, h⟩ := gd_some h
              refine g_iast (f := ((mA r103.2) 2)) (k := ((99 + x2)).toNatClampNeg) hx hb hK hP MW_self hS 2 0 rfl rfl hg16 rfl dX5_readText_135 (fun H locs hP hS => ?_)
              obtain ⟨a17, ha17, h⟩ := lt_some h
              have hP : va_P D vwCl (MW cI cZ q (a17, (mRef r103.2), (mSize r103.2), (mSpot r103.2), (mRN r103.2), (mN r103.2), (mActs r103.2))) H := by have h9 := hP; rw [MW_s2] at h9; rw [ha17]; exact h9
              refine lv_iinc (v := (x2 + 1)) (lv' := [(2, .int (x2 + 1)), (1, .int r103.1), (0, .ref q)]) hx hb dX5_readText_136 hl (k := 2) rfl rfl (by decide) rfl (fun ls hl => ?_)
              refine lv_goto (tgt := 69) hx hb dX5_readText_139 (by decide) ?_
              exact ih (a17, (mRef r103.2), (mSize r103.2), (mSpot r103.2), (mRN r103.2), (mN r103.2), (mActs r103.2)) r103.1 (x2 + 1) H locs ls h hP hS (lv_sub hl [2, 1, 0] rfl)
          · replace h := (if_pos c9).symm.trans h
            refine lv_aload_n hx hb dX5_readText_84 rfl (lv_at hl 0 rfl) ?_
            refine lv_iconst (v := 1) hx hb dX5_readText_85 (by decide) ?_
            refine lv_bipush (v := 99) hx hb dX5_readText_86 (by decide) ?_
            obtain ⟨r88, hr88, h⟩ := bd_some h
            refine gc_wi (As := [.int 1, .int 99]) (rest := []) ⟨hx, hb, hml, hown, hts⟩ hK (kX5_two l D cI cC cZ cQ cJ q S 1 99 hr88) (cwV 2 hts gX5_readText_X5_two rfl rfl rfl (by decide +kernel) ⟨Nat.le_of_ble_eq_true rfl, Nat.le_of_ble_eq_true rfl⟩) (va_recv hK hP (ci := 5) (q0 := 0) rfl rfl) hP hS (fun _ h => h) rfl hl.1 rfl (Nat.le_of_ble_eq_true rfl) ⟨Nat.zero_le _, Nat.zero_le _⟩ dX5_readText_88 (fun H locs hP hS _ _ => ?_)
            refine lv_goto (tgt := 125) hx hb dX5_readText_91 (by decide) ?_
            refine lv_istore_n (lv' := [(1, .int r88.1), (0, .ref q), (2, .int x2)]) hx hb dX5_readText_125 rfl hl (by decide) rfl (fun ls hl => ?_)
            refine lv_aload_n hx hb dX5_readText_126 rfl (lv_at hl 1 rfl) ?_
            refine va_get (D := D) (ci := 5) (v := .ref (q + 2)) (C := RX5) (T := TX5) (N := 15) hx hb hts hinX5 hown hK hP 0 rfl rfl 5 (by decide) hf13 (fun _ h9 => h9) rfl dX5_readText_127 ?_
            refine lv_bipush (v := 99) hx hb dX5_readText_130 (by decide) ?_
            refine lv_iload_n hx hb dX5_readText_132 rfl (lv_at hl 2 rfl) ?_
            refine lv_iadd hx hb dX5_readText_133 ?_
            refine lv_iload_n hx hb dX5_readText_134 rfl (lv_at hl 0 rfl) ?_
            obtain ⟨hg18, h⟩ := gd_some h
            refine g_iast (f := ((mA r88.2) 2)) (k := ((99 + x2)).toNatClampNeg) hx hb hK hP MW_self hS 2 0 rfl rfl hg18 rfl dX5_readText_135 (fun H locs hP hS => ?_)
            obtain ⟨a19, ha19, h⟩ := lt_some h
            have hP : va_P D vwCl (MW cI cZ q (a19, (mRef r88.2), (mSize r88.2), (mSpot r88.2), (mRN r88.2), (mN r88.2), (mActs r88.2))) H := by have h9 := hP; rw [MW_s2] at h9; rw [ha19]; exact h9
            refine lv_iinc (v := (x2 + 1)) (lv' := [(2, .int (x2 + 1)), (1, .int r88.1), (0, .ref q)]) hx hb dX5_readText_136 hl (k := 2) rfl rfl (by decide) rfl (fun ls hl => ?_)
            refine lv_goto (tgt := 69) hx hb dX5_readText_139 (by decide) ?_
            exact ih (a19, (mRef r88.2), (mSize r88.2), (mSpot r88.2), (mRN r88.2), (mN r88.2), (mActs r88.2)) r88.1 (x2 + 1) H locs ls h hP hS (lv_sub hl [2, 1, 0] rfl)
  have LP2 : ∀ (n : Nat) (S : MSt) (x1 : Int32) (H : Heap) (locs : List Loc) (ls : Array Slot), fX5_readText_L2 n S x1 = some R → va_P D vwCl (MW cI cZ q S) H → va_S (fIv q 10) s.heap H locs → lv_has ls 3 [(0, .ref q), (1, .int x1)] → W p l e ({ frames := 4, cells := 0, slots := 0, locals := 93 } : Room) s m ([.ref q] : List Value).toArray below meth c H locs 0 0 (MQ below (va_Qi (fun r (_ : Unit) => r = R.1) (fun _ t => va_P D vwCl (MW cI cZ q R.2) t.heap) (fIv q 10)) ([.ref q] : List Value).toArray s 0 0 (fIv q 10)) (F0 m 2 ls []) := by
    intro n
    induction n with
    | zero => intro S x1 H locs ls h hP hS hl; exact no_some h
    | succ n ih =>
      intro S x1 H locs ls h hP hS hl
      rw [fX5_readText_L2] at h
      refine lv_iload_n hx hb dX5_readText_2 rfl (lv_at hl 1 rfl) ?_
      refine lv_bipush (v := 106) hx hb dX5_readText_3 (by decide) ?_
      refine lv_icmp_ge (tgt := 21) hx hb dX5_readText_5 (by decide) (fun c1 => ?_) (fun c1 => ?_)
      · replace h := (if_pos c1).symm.trans h
        refine lv_aload_n hx hb dX5_readText_21 rfl (lv_at hl 0 rfl) ?_
        refine lv_iconst (v := 0) hx hb dX5_readText_22 (by decide) ?_
        refine va_put (D := D) (ci := 5) (v := .int 0) (ty := .int) (C := RX5) (T := TX5) (N := 15) hx hb hts hinX5 tyX5 tyX5_ok nmX5 hown hK hP MW_self hS 0 rfl rfl 3 (by decide) hf101 (fun _ h9 => h9) rfl (by decide +kernel) rfl rfl (Nat.le_of_ble_eq_true rfl) dX5_readText_23 (fun H locs hP _ hS => ?_)
        have hP : va_P D vwCl (MW cI cZ q ((mA S), (mRef S), (mSize S), 0, (mRN S), (mN S), (mActs S))) H := hP
        refine lv_aload_n hx hb dX5_readText_26 rfl (lv_at hl 0 rfl) ?_
        refine va_get (D := D) (ci := 5) (v := .int (mSize S)) (C := RX5) (T := TX5) (N := 15) hx hb hts hinX5 hown hK hP 0 rfl rfl 2 (by decide) hf94 (fun _ h9 => h9) rfl dX5_readText_27 ?_
        refine lv_if_eq (tgt := 44) hx hb dX5_readText_30 (by decide) (fun c2 => ?_) (fun c2 => ?_)
        · replace h := (if_pos c2).symm.trans h
          refine lv_iconst (v := 0) hx hb dX5_readText_44 (by decide) ?_
          have h := Option.some.inj h
          subst h
          exact W.iret (v := 0) hx hb hr (fun t ht hW => ⟨⟨_, (), rfl, rfl, gh ht hP⟩, hS.F ht⟩) hS.2.2 dX5_readText_45
        · replace h := (if_neg c2).symm.trans h
          refine lv_aload_n hx hb dX5_readText_33 rfl (lv_at hl 0 rfl) ?_
          refine va_get (D := D) (ci := 5) (v := .ref (q + 1)) (C := RX5) (T := TX5) (N := 15) hx hb hts hinX5 hown hK hP 0 rfl rfl 1 (by decide) hf7 (fun _ h9 => h9) rfl dX5_readText_34 ?_
          refine lv_iconst (v := 0) hx hb dX5_readText_37 (by decide) ?_
          refine g_iald (f := ((mA S) 1)) (k := 0) hx hb hK hP 1 0 rfl rfl (vin_lit rfl) rfl dX5_readText_38 ?_
          refine lv_bipush (v := 76) hx hb dX5_readText_39 (by decide) ?_
          refine lv_icmp_eq (tgt := 46) hx hb dX5_readText_41 (by decide) (fun c3 => ?_) (fun c3 => ?_)
          · replace h := (if_pos c3).symm.trans h
            refine lv_aload_n hx hb dX5_readText_46 rfl (lv_at hl 0 rfl) ?_
            refine lv_iconst (v := 1) hx hb dX5_readText_47 (by decide) ?_
            refine va_put (D := D) (ci := 5) (v := .int 1) (ty := .int) (C := RX5) (T := TX5) (N := 15) hx hb hts hinX5 tyX5 tyX5_ok nmX5 hown hK hP MW_self hS 0 rfl rfl 3 (by decide) hf101 (fun _ h9 => h9) rfl (by decide +kernel) rfl rfl (Nat.le_of_ble_eq_true rfl) dX5_readText_48 (fun H locs hP _ hS => ?_)
            have hP : va_P D vwCl (MW cI cZ q ((mA S), (mRef S), (mSize S), 1, (mRN S), (mN S), (mActs S))) H := hP
            refine lv_aload_n hx hb dX5_readText_51 rfl (lv_at hl 0 rfl) ?_
            refine lv_aload_n hx hb dX5_readText_52 rfl (lv_at hl 0 rfl) ?_
            refine lv_iconst (v := 4) hx hb dX5_readText_53 (by decide) ?_
            refine lv_bipush (v := 20) hx hb dX5_readText_54 (by decide) ?_
            obtain ⟨r56, hr56, h⟩ := bd_some h
            refine gc_wi (As := [.int 4, .int 20]) (rest := [.ref q]) ⟨hx, hb, hml, hown, hts⟩ hK (kX5_two l D cI cC cZ cQ cJ q ((mA S), (mRef S), (mSize S), 1, (mRN S), (mN S), (mActs S)) 4 20 hr56) (cwV 2 hts gX5_readText_X5_two rfl rfl rfl (by decide +kernel) ⟨Nat.le_of_ble_eq_true rfl, Nat.le_of_ble_eq_true rfl⟩) (va_recv hK hP (ci := 5) (q0 := 0) rfl rfl) hP hS (fun _ h => h) rfl hl.1 rfl (Nat.le_of_ble_eq_true rfl) ⟨Nat.zero_le _, Nat.zero_le _⟩ dX5_readText_56 (fun H locs hP hS _ _ => ?_)
            refine va_put (D := D) (ci := 5) (v := .int r56.1) (ty := .int) (C := RX5) (T := TX5) (N := 15) hx hb hts hinX5 tyX5 tyX5_ok nmX5 hown hK hP MW_self hS 0 rfl rfl 4 (by decide) hf107 (fun _ h9 => h9) rfl (by decide +kernel) rfl rfl (Nat.le_of_ble_eq_true rfl) dX5_readText_59 (fun H locs hP _ hS => ?_)
            have hP : va_P D vwCl (MW cI cZ q ((mA r56.2), (mRef r56.2), (mSize r56.2), (mSpot r56.2), r56.1, (mN r56.2), (mActs r56.2))) H := hP
            refine lv_aload_n hx hb dX5_readText_62 rfl (lv_at hl 0 rfl) ?_
            refine va_get (D := D) (ci := 5) (v := .int r56.1) (C := RX5) (T := TX5) (N := 15) hx hb hts hinX5 hown hK hP 0 rfl rfl 4 (by decide) hf107 (fun _ h9 => h9) rfl dX5_readText_63 ?_
            refine lv_istore_n (lv' := [(1, .int r56.1), (0, .ref q)]) hx hb dX5_readText_66 rfl hl (by decide) rfl (fun ls hl => ?_)
            refine lv_iconst (v := 0) hx hb dX5_readText_67 (by decide) ?_
            refine lv_istore_n (lv' := [(2, .int 0), (1, .int r56.1), (0, .ref q)]) hx hb dX5_readText_68 rfl hl (by decide) rfl (fun ls hl => ?_)
            exact LP69 KF ((mA r56.2), (mRef r56.2), (mSize r56.2), (mSpot r56.2), r56.1, (mN r56.2), (mActs r56.2)) r56.1 0 H locs ls h hP hS (lv_sub hl [2, 1, 0] rfl)
          · replace h := (if_neg c3).symm.trans h
            refine lv_iconst (v := 0) hx hb dX5_readText_44 (by decide) ?_
            have h := Option.some.inj h
            subst h
            exact W.iret (v := 0) hx hb hr (fun t ht hW => ⟨⟨_, (), rfl, rfl, gh ht hP⟩, hS.F ht⟩) hS.2.2 dX5_readText_45
      · replace h := (if_neg c1).symm.trans h
        refine lv_aload_n hx hb dX5_readText_8 rfl (lv_at hl 0 rfl) ?_
        refine va_get (D := D) (ci := 5) (v := .ref (q + 2)) (C := RX5) (T := TX5) (N := 15) hx hb hts hinX5 hown hK hP 0 rfl rfl 5 (by decide) hf13 (fun _ h9 => h9) rfl dX5_readText_9 ?_
        refine lv_iload_n hx hb dX5_readText_12 rfl (lv_at hl 1 rfl) ?_
        refine lv_iconst (v := 0) hx hb dX5_readText_13 (by decide) ?_
        obtain ⟨hg20, h⟩ := gd_some h
        refine g_iast (f := ((mA S) 2)) (k := x1.toNatClampNeg) hx hb hK hP MW_self hS 2 0 rfl rfl hg20 rfl dX5_readText_14 (fun H locs hP hS => ?_)
        obtain ⟨a21, ha21, h⟩ := lt_some h
        have hP : va_P D vwCl (MW cI cZ q (a21, (mRef S), (mSize S), (mSpot S), (mRN S), (mN S), (mActs S))) H := by have h9 := hP; rw [MW_s2] at h9; rw [ha21]; exact h9
        refine lv_iinc (v := (x1 + 1)) (lv' := [(1, .int (x1 + 1)), (0, .ref q)]) hx hb dX5_readText_15 hl (k := 1) rfl rfl (by decide) rfl (fun ls hl => ?_)
        refine lv_goto (tgt := 2) hx hb dX5_readText_18 (by decide) ?_
        exact ih (a21, (mRef S), (mSize S), (mSpot S), (mRN S), (mN S), (mActs S)) (x1 + 1) H locs ls h hP hS (lv_sub hl [1, 0] rfl)
  unfold fX5_readText at h
  obtain ⟨H, hH⟩ : ∃ H, H = s.heap := ⟨_, rfl⟩
  obtain ⟨locs, hlz⟩ : ∃ z : List Loc, z = [] := ⟨_, rfl⟩
  have hP : va_P D vwCl (MW cI cZ q M) H := by rw [hH]; exact hP
  have hS : va_S (fIv q 10) s.heap H locs := by rw [hH, hlz]; exact hS
  refine gc_at hH hlz ?_
  refine lv_iconst (v := 0) hx hb dX5_readText_0 (by decide) ?_
  refine lv_istore_n (lv' := [(1, .int 0), (0, .ref q)]) hx hb dX5_readText_1 rfl hl (by decide) rfl (fun ls hl => ?_)
  exact LP2 KF M 0 H locs ls h hP hS (lv_sub hl [1, 0] rfl)
set_option maxHeartbeats 4000000 in
set_option maxRecDepth 100000 in
theorem kX5_errorPosition (l : Launch) (D : va_G) (cI cC cZ cQ cJ : ClassId) (q : Nat) (M : MSt) {R : Int32 × MSt} (h : fX5_errorPosition M = some R) : Met l yX5_errorPosition wsX5_errorPosition ({ frames := 5, cells := 0, slots := 0, locals := 115 } : Room) (va_Pc [.ref q] (gB D (gTy cI cC cZ cQ cJ) (va_P D vwCl (MW cI cZ q M)))) (va_Qi (fun r (_ : Unit) => r = R.1) (fun _ t => va_P D vwCl (MW cI cZ q R.2) t.heap) (fIv q 10)) 0 0 (fIv q 10) := by
  refine Met.ofW (cc := cX5_errorPosition) (maxL := 1) (ret := (some .int)) (by decide) rfl ?_
  intro p e s m args below meth c s₁ B hml hv
  obtain ⟨rfl, hP, hK⟩ := hv
  have hx := B.exec
  have hb := B.bytes
  have hr := B.returns
  have hts := atoms_spec (ws := wsX5_errorPosition) B.pre
  have hown : s.vm.findClass RX5 = some m.cls := findClass_of_methodNamed B.named
  have hlocks := B.notSynchronized
  have hinX5 : ∀ w ∈ wsX50, w ∈ wsX5_errorPosition := by decide +kernel
  have hf42 := hts (.fieldLink RX5 42 "GripInspectorModel" "refusal" "I") (by decide +kernel)
  generalize hRM : (headSpec wsX5_errorPosition ({ frames := 5, cells := 0, slots := 0, locals := 115 } : Room)).room = RM
  replace hRM : ({ frames := 5, cells := 0, slots := 0, locals := 115 } : Room) = RM := hRM
  subst hRM
  have hl := lv_entry ([.ref q]) (n := 1) (Nat.le_of_ble_eq_true rfl)
  rw [lg_entry_eq]
  generalize (lg_sl ([.ref q]) ++ List.replicate (1 - (lg_sl ([.ref q])).length) Slot.unset).toArray = ls at hl ⊢
  have hl : lv_has ls 1 [(0, .ref q)] := hl
  have hS : va_S (fIv q 10) s.heap s.heap [] := va_S.rf
  unfold fX5_errorPosition at h
  obtain ⟨H, hH⟩ : ∃ H, H = s.heap := ⟨_, rfl⟩
  obtain ⟨locs, hlz⟩ : ∃ z : List Loc, z = [] := ⟨_, rfl⟩
  have hP : va_P D vwCl (MW cI cZ q M) H := by rw [hH]; exact hP
  have hS : va_S (fIv q 10) s.heap H locs := by rw [hH, hlz]; exact hS
  refine gc_at hH hlz ?_
  refine lv_aload_n hx hb dX5_errorPosition_0 rfl (lv_at hl 0 rfl) ?_
  refine lv_iconst (v := 0) hx hb dX5_errorPosition_1 (by decide) ?_
  refine va_put (D := D) (ci := 5) (v := .int 0) (ty := .int) (C := RX5) (T := TX5) (N := 15) hx hb hts hinX5 tyX5 tyX5_ok nmX5 hown hK hP MW_self hS 0 rfl rfl 0 (by decide) hf42 (fun _ h9 => h9) rfl (by decide +kernel) rfl rfl (Nat.le_of_ble_eq_true rfl) dX5_errorPosition_2 (fun H locs hP _ hS => ?_)
  have hP : va_P D vwCl (MW cI cZ q ((mA M), 0, (mSize M), (mSpot M), (mRN M), (mN M), (mActs M))) H := hP
  refine lv_aload_n hx hb dX5_errorPosition_5 rfl (lv_at hl 0 rfl) ?_
  obtain ⟨r6, hr6, h⟩ := bd_some h
  refine gc_wi (As := []) (rest := []) ⟨hx, hb, hml, hown, hts⟩ hK (kX5_readText l D cI cC cZ cQ cJ q ((mA M), 0, (mSize M), (mSpot M), (mRN M), (mN M), (mActs M)) hr6) (cwV 0 hts gX5_errorPosition_X5_readText rfl rfl rfl (by decide +kernel) ⟨Nat.le_of_ble_eq_true rfl, Nat.le_of_ble_eq_true rfl⟩) (va_recv hK hP (ci := 5) (q0 := 0) rfl rfl) hP hS (fun _ h => h) rfl hl.1 rfl (Nat.le_of_ble_eq_true rfl) ⟨Nat.zero_le _, Nat.zero_le _⟩ dX5_errorPosition_6 (fun H locs hP hS _ _ => ?_)
  have h := Option.some.inj h
  subst h
  exact W.iret (v := r6.1) hx hb hr (fun t ht hW => ⟨⟨_, (), rfl, rfl, gh ht hP⟩, hS.F ht⟩) hS.2.2 dX5_errorPosition_9
set_option maxHeartbeats 4000000 in
set_option maxRecDepth 100000 in
theorem kX5_load (l : Launch) (D : va_G) (cI cC cZ cQ cJ : ClassId) (q : Nat) (M : MSt) {R : Int32 × MSt} (h : fX5_load M = some R) : Met l yX5_load wsX5_load ({ frames := 5, cells := 0, slots := 0, locals := 115 } : Room) (va_Pc [.ref q] (gB D (gTy cI cC cZ cQ cJ) (va_P D vwCl (MW cI cZ q M)))) (va_Qi (fun r (_ : Unit) => r = R.1) (fun _ t => va_P D vwCl (MW cI cZ q R.2) t.heap) (fIv q 10)) 0 0 (fIv q 10) := by
  refine Met.ofW (cc := cX5_load) (maxL := 1) (ret := (some .int)) (by decide) rfl ?_
  intro p e s m args below meth c s₁ B hml hv
  obtain ⟨rfl, hP, hK⟩ := hv
  have hx := B.exec
  have hb := B.bytes
  have hr := B.returns
  have hts := atoms_spec (ws := wsX5_load) B.pre
  have hown : s.vm.findClass RX5 = some m.cls := findClass_of_methodNamed B.named
  have hlocks := B.notSynchronized
  have hinX5 : ∀ w ∈ wsX50, w ∈ wsX5_load := by decide +kernel
  have hf107 := hts (.fieldLink RX5 107 "GripInspectorModel" "readN" "I") (by decide +kernel)
  have hf38 := hts (.fieldLink RX5 38 "GripInspectorModel" "n" "I") (by decide +kernel)
  have hf13 := hts (.fieldLink RX5 13 "GripInspectorModel" "readRow" "[I") (by decide +kernel)
  have hf16 := hts (.fieldLink RX5 16 "GripInspectorModel" "now" "[I") (by decide +kernel)
  have hf47 := hts (.fieldLink RX5 47 "GripInspectorModel" "acts" "I") (by decide +kernel)
  have hf28 := hts (.fieldLink RX5 28 "GripInspectorModel" "isKept" "[Z") (by decide +kernel)
  generalize hRM : (headSpec wsX5_load ({ frames := 5, cells := 0, slots := 0, locals := 115 } : Room)).room = RM
  replace hRM : ({ frames := 5, cells := 0, slots := 0, locals := 115 } : Room) = RM := hRM
  subst hRM
  have hl := lv_entry ([.ref q]) (n := 1) (Nat.le_of_ble_eq_true rfl)
  rw [lg_entry_eq]
  generalize (lg_sl ([.ref q]) ++ List.replicate (1 - (lg_sl ([.ref q])).length) Slot.unset).toArray = ls at hl ⊢
  have hl : lv_has ls 1 [(0, .ref q)] := hl
  have hS : va_S (fIv q 10) s.heap s.heap [] := va_S.rf
  unfold fX5_load at h
  obtain ⟨H, hH⟩ : ∃ H, H = s.heap := ⟨_, rfl⟩
  obtain ⟨locs, hlz⟩ : ∃ z : List Loc, z = [] := ⟨_, rfl⟩
  have hP : va_P D vwCl (MW cI cZ q M) H := by rw [hH]; exact hP
  have hS : va_S (fIv q 10) s.heap H locs := by rw [hH, hlz]; exact hS
  refine gc_at hH hlz ?_
  refine lv_aload_n hx hb dX5_load_0 rfl (lv_at hl 0 rfl) ?_
  refine lv_aload_n hx hb dX5_load_1 rfl (lv_at hl 0 rfl) ?_
  obtain ⟨r2, hr2, h⟩ := bd_some h
  refine gc_wi (As := []) (rest := [.ref q]) ⟨hx, hb, hml, hown, hts⟩ hK (kX5_readText l D cI cC cZ cQ cJ q M hr2) (cwV 0 hts gX5_load_X5_readText rfl rfl rfl (by decide +kernel) ⟨Nat.le_of_ble_eq_true rfl, Nat.le_of_ble_eq_true rfl⟩) (va_recv hK hP (ci := 5) (q0 := 0) rfl rfl) hP hS (fun _ h => h) rfl hl.1 rfl (Nat.le_of_ble_eq_true rfl) ⟨Nat.zero_le _, Nat.zero_le _⟩ dX5_load_2 (fun H locs hP hS _ _ => ?_)
  refine lv_bipush (v := (-9)) hx hb dX5_load_5 (by decide) ?_
  refine lv_icmp_ne (tgt := 14) hx hb dX5_load_7 (by decide) (fun c1 => ?_) (fun c1 => ?_)
  · replace h := (if_neg c1).symm.trans h
    refine lv_iconst (v := 1) hx hb dX5_load_14 (by decide) ?_
    obtain ⟨r15, hr15, h⟩ := bd_some h
    refine gc_wi (As := [.int 1]) (rest := []) ⟨hx, hb, hml, hown, hts⟩ hK (kX5_refused l D cI cC cZ cQ cJ q r2.2 1 hr15) (cwV 1 hts gX5_load_X5_refused rfl rfl rfl (by decide +kernel) ⟨Nat.le_of_ble_eq_true rfl, Nat.le_of_ble_eq_true rfl⟩) (va_recv hK hP (ci := 5) (q0 := 0) rfl rfl) hP hS (fun _ h => h) rfl hl.1 rfl (Nat.le_of_ble_eq_true rfl) ⟨Nat.zero_le _, Nat.zero_le _⟩ dX5_load_15 (fun H locs hP hS _ _ => ?_)
    refine lv_if_eq (tgt := 23) hx hb dX5_load_18 (by decide) (fun c2 => ?_) (fun c2 => ?_)
    · replace h := (if_pos c2).symm.trans h
      refine lv_aload_n hx hb dX5_load_23 rfl (lv_at hl 0 rfl) ?_
      refine lv_aload_n hx hb dX5_load_24 rfl (lv_at hl 0 rfl) ?_
      refine va_get (D := D) (ci := 5) (v := .int (mRN r15.2)) (C := RX5) (T := TX5) (N := 15) hx hb hts hinX5 hown hK hP 0 rfl rfl 4 (by decide) hf107 (fun _ h9 => h9) rfl dX5_load_25 ?_
      refine va_put (D := D) (ci := 5) (v := .int (mRN r15.2)) (ty := .int) (C := RX5) (T := TX5) (N := 15) hx hb hts hinX5 tyX5 tyX5_ok nmX5 hown hK hP MW_self hS 0 rfl rfl 6 (by decide) hf38 (fun _ h9 => h9) rfl (by decide +kernel) rfl rfl (Nat.le_of_ble_eq_true rfl) dX5_load_28 (fun H locs hP _ hS => ?_)
      have hP : va_P D vwCl (MW cI cZ q ((mA r15.2), (mRef r15.2), (mSize r15.2), (mSpot r15.2), (mRN r15.2), (mRN r15.2), (mActs r15.2))) H := hP
      refine lv_aload_n hx hb dX5_load_31 rfl (lv_at hl 0 rfl) ?_
      refine va_get (D := D) (ci := 5) (v := .ref (q + 2)) (C := RX5) (T := TX5) (N := 15) hx hb hts hinX5 hown hK hP 0 rfl rfl 5 (by decide) hf13 (fun _ h9 => h9) rfl dX5_load_32 ?_
      refine lv_iconst (v := 0) hx hb dX5_load_35 (by decide) ?_
      refine lv_aload_n hx hb dX5_load_36 rfl (lv_at hl 0 rfl) ?_
      refine va_get (D := D) (ci := 5) (v := .ref (q + 3)) (C := RX5) (T := TX5) (N := 15) hx hb hts hinX5 hown hK hP 0 rfl rfl 7 (by decide) hf16 (fun _ h9 => h9) rfl dX5_load_37 ?_
      refine lv_iconst (v := 0) hx hb dX5_load_40 (by decide) ?_
      refine lv_bipush (v := 106) hx hb dX5_load_41 (by decide) ?_
      obtain ⟨r43, hr43, h⟩ := bd_some h
      refine gc_swv (As := [.ref (q + 2), .int 0, .ref (q + 3), .int 0, .int 106]) (rest := []) ⟨hx, hb, hml, hown, hts⟩ hK (kX5_copy l D cI cC cZ cQ cJ q 2 3 ((mA r15.2), (mRef r15.2), (mSize r15.2), (mSpot r15.2), (mRN r15.2), (mRN r15.2), (mActs r15.2)) 0 0 106 (Or.inl rfl) (Or.inr (Or.inl rfl)) hr43) (va_cwS 5 hts gX5_load_X5_copy rfl rfl rfl (by decide +kernel) ⟨Nat.le_of_ble_eq_true rfl, Nat.le_of_ble_eq_true rfl⟩)  hP hS (fun _ h => h) rfl hl.1 rfl (Nat.le_of_ble_eq_true rfl) ⟨Nat.zero_le _, Nat.zero_le _⟩ dX5_load_43 (fun H locs hP hS _ _ => ?_)
      refine lv_aload_n hx hb dX5_load_46 rfl (lv_at hl 0 rfl) ?_
      refine lv_iconst (v := 0) hx hb dX5_load_47 (by decide) ?_
      refine va_put (D := D) (ci := 5) (v := .int 0) (ty := .int) (C := RX5) (T := TX5) (N := 15) hx hb hts hinX5 tyX5 tyX5_ok nmX5 hown hK hP MW_self hS 0 rfl rfl 10 (by decide) hf47 (fun _ h9 => h9) rfl (by decide +kernel) rfl rfl (Nat.le_of_ble_eq_true rfl) dX5_load_48 (fun H locs hP _ hS => ?_)
      have hP : va_P D vwCl (MW cI cZ q ((mA r43), (mRef r43), (mSize r43), (mSpot r43), (mRN r43), (mN r43), 0)) H := hP
      refine lv_aload_n hx hb dX5_load_51 rfl (lv_at hl 0 rfl) ?_
      refine va_get (D := D) (ci := 5) (v := .ref (q + 7)) (C := RX5) (T := TX5) (N := 15) hx hb hts hinX5 hown hK hP 0 rfl rfl 12 (by decide) hf28 (fun _ h9 => h9) rfl dX5_load_52 ?_
      refine lv_iconst (v := 0) hx hb dX5_load_55 (by decide) ?_
      refine lv_iconst (v := 0) hx hb dX5_load_56 (by decide) ?_
      refine g_zast (f := ((mA r43) 7)) (k := 0) hx hb hK hP MW_self hS 7 2 rfl rfl (vin_lit rfl) rfl dX5_load_57 (fun H locs hP hS => ?_)
      obtain ⟨a3, ha3, h⟩ := lt_some h
      have hP : va_P D vwCl (MW cI cZ q (a3, (mRef r43), (mSize r43), (mSpot r43), (mRN r43), (mN r43), 0)) H := by have h9 := hP; rw [MW_s7] at h9; rw [ha3]; exact h9
      refine lv_aload_n hx hb dX5_load_58 rfl (lv_at hl 0 rfl) ?_
      refine va_get (D := D) (ci := 5) (v := .ref (q + 7)) (C := RX5) (T := TX5) (N := 15) hx hb hts hinX5 hown hK hP 0 rfl rfl 12 (by decide) hf28 (fun _ h9 => h9) rfl dX5_load_59 ?_
      refine lv_iconst (v := 1) hx hb dX5_load_62 (by decide) ?_
      refine lv_iconst (v := 0) hx hb dX5_load_63 (by decide) ?_
      refine g_zast (f := (a3 7)) (k := 1) hx hb hK hP MW_self hS 7 2 rfl rfl (vin_lit rfl) rfl dX5_load_64 (fun H locs hP hS => ?_)
      obtain ⟨a4, ha4, h⟩ := lt_some h
      have hP : va_P D vwCl (MW cI cZ q (a4, (mRef r43), (mSize r43), (mSpot r43), (mRN r43), (mN r43), 0)) H := by have h9 := hP; rw [MW_s7] at h9; rw [ha4]; exact h9
      refine lv_aload_n hx hb dX5_load_65 rfl (lv_at hl 0 rfl) ?_
      refine va_get (D := D) (ci := 5) (v := .ref (q + 3)) (C := RX5) (T := TX5) (N := 15) hx hb hts hinX5 hown hK hP 0 rfl rfl 7 (by decide) hf16 (fun _ h9 => h9) rfl dX5_load_66 ?_
      refine lv_bipush (v := 96) hx hb dX5_load_69 (by decide) ?_
      refine g_iald (f := (a4 3)) (k := 96) hx hb hK hP 3 0 rfl rfl (vin_lit rfl) rfl dX5_load_71 ?_
      have h := Option.some.inj h
      subst h
      exact W.iret (v := ((a4 3) 96)) hx hb hr (fun t ht hW => ⟨⟨_, (), rfl, rfl, gh ht hP⟩, hS.F ht⟩) hS.2.2 dX5_load_72
    · replace h := (if_neg c2).symm.trans h
      refine lv_iconst (v := 0) hx hb dX5_load_21 (by decide) ?_
      have h := Option.some.inj h
      subst h
      exact W.iret (v := 0) hx hb hr (fun t ht hW => ⟨⟨_, (), rfl, rfl, gh ht hP⟩, hS.F ht⟩) hS.2.2 dX5_load_22
  · replace h := (if_pos c1).symm.trans h
    refine lv_iconst (v := 0) hx hb dX5_load_10 (by decide) ?_
    refine lv_goto (tgt := 15) hx hb dX5_load_11 (by decide) ?_
    obtain ⟨r15, hr15, h⟩ := bd_some h
    refine gc_wi (As := [.int 0]) (rest := []) ⟨hx, hb, hml, hown, hts⟩ hK (kX5_refused l D cI cC cZ cQ cJ q r2.2 0 hr15) (cwV 1 hts gX5_load_X5_refused rfl rfl rfl (by decide +kernel) ⟨Nat.le_of_ble_eq_true rfl, Nat.le_of_ble_eq_true rfl⟩) (va_recv hK hP (ci := 5) (q0 := 0) rfl rfl) hP hS (fun _ h => h) rfl hl.1 rfl (Nat.le_of_ble_eq_true rfl) ⟨Nat.zero_le _, Nat.zero_le _⟩ dX5_load_15 (fun H locs hP hS _ _ => ?_)
    refine lv_if_eq (tgt := 23) hx hb dX5_load_18 (by decide) (fun c5 => ?_) (fun c5 => ?_)
    · replace h := (if_pos c5).symm.trans h
      refine lv_aload_n hx hb dX5_load_23 rfl (lv_at hl 0 rfl) ?_
      refine lv_aload_n hx hb dX5_load_24 rfl (lv_at hl 0 rfl) ?_
      refine va_get (D := D) (ci := 5) (v := .int (mRN r15.2)) (C := RX5) (T := TX5) (N := 15) hx hb hts hinX5 hown hK hP 0 rfl rfl 4 (by decide) hf107 (fun _ h9 => h9) rfl dX5_load_25 ?_
      refine va_put (D := D) (ci := 5) (v := .int (mRN r15.2)) (ty := .int) (C := RX5) (T := TX5) (N := 15) hx hb hts hinX5 tyX5 tyX5_ok nmX5 hown hK hP MW_self hS 0 rfl rfl 6 (by decide) hf38 (fun _ h9 => h9) rfl (by decide +kernel) rfl rfl (Nat.le_of_ble_eq_true rfl) dX5_load_28 (fun H locs hP _ hS => ?_)
      have hP : va_P D vwCl (MW cI cZ q ((mA r15.2), (mRef r15.2), (mSize r15.2), (mSpot r15.2), (mRN r15.2), (mRN r15.2), (mActs r15.2))) H := hP
      refine lv_aload_n hx hb dX5_load_31 rfl (lv_at hl 0 rfl) ?_
      refine va_get (D := D) (ci := 5) (v := .ref (q + 2)) (C := RX5) (T := TX5) (N := 15) hx hb hts hinX5 hown hK hP 0 rfl rfl 5 (by decide) hf13 (fun _ h9 => h9) rfl dX5_load_32 ?_
      refine lv_iconst (v := 0) hx hb dX5_load_35 (by decide) ?_
      refine lv_aload_n hx hb dX5_load_36 rfl (lv_at hl 0 rfl) ?_
      refine va_get (D := D) (ci := 5) (v := .ref (q + 3)) (C := RX5) (T := TX5) (N := 15) hx hb hts hinX5 hown hK hP 0 rfl rfl 7 (by decide) hf16 (fun _ h9 => h9) rfl dX5_load_37 ?_
      refine lv_iconst (v := 0) hx hb dX5_load_40 (by decide) ?_
      refine lv_bipush (v := 106) hx hb dX5_load_41 (by decide) ?_
      obtain ⟨r43, hr43, h⟩ := bd_some h
      refine gc_swv (As := [.ref (q + 2), .int 0, .ref (q + 3), .int 0, .int 106]) (rest := []) ⟨hx, hb, hml, hown, hts⟩ hK (kX5_copy l D cI cC cZ cQ cJ q 2 3 ((mA r15.2), (mRef r15.2), (mSize r15.2), (mSpot r15.2), (mRN r15.2), (mRN r15.2), (mActs r15.2)) 0 0 106 (Or.inl rfl) (Or.inr (Or.inl rfl)) hr43) (va_cwS 5 hts gX5_load_X5_copy rfl rfl rfl (by decide +kernel) ⟨Nat.le_of_ble_eq_true rfl, Nat.le_of_ble_eq_true rfl⟩)  hP hS (fun _ h => h) rfl hl.1 rfl (Nat.le_of_ble_eq_true rfl) ⟨Nat.zero_le _, Nat.zero_le _⟩ dX5_load_43 (fun H locs hP hS _ _ => ?_)
      refine lv_aload_n hx hb dX5_load_46 rfl (lv_at hl 0 rfl) ?_
      refine lv_iconst (v := 0) hx hb dX5_load_47 (by decide) ?_
      refine va_put (D := D) (ci := 5) (v := .int 0) (ty := .int) (C := RX5) (T := TX5) (N := 15) hx hb hts hinX5 tyX5 tyX5_ok nmX5 hown hK hP MW_self hS 0 rfl rfl 10 (by decide) hf47 (fun _ h9 => h9) rfl (by decide +kernel) rfl rfl (Nat.le_of_ble_eq_true rfl) dX5_load_48 (fun H locs hP _ hS => ?_)
      have hP : va_P D vwCl (MW cI cZ q ((mA r43), (mRef r43), (mSize r43), (mSpot r43), (mRN r43), (mN r43), 0)) H := hP
      refine lv_aload_n hx hb dX5_load_51 rfl (lv_at hl 0 rfl) ?_
      refine va_get (D := D) (ci := 5) (v := .ref (q + 7)) (C := RX5) (T := TX5) (N := 15) hx hb hts hinX5 hown hK hP 0 rfl rfl 12 (by decide) hf28 (fun _ h9 => h9) rfl dX5_load_52 ?_
      refine lv_iconst (v := 0) hx hb dX5_load_55 (by decide) ?_
      refine lv_iconst (v := 0) hx hb dX5_load_56 (by decide) ?_
      refine g_zast (f := ((mA r43) 7)) (k := 0) hx hb hK hP MW_self hS 7 2 rfl rfl (vin_lit rfl) rfl dX5_load_57 (fun H locs hP hS => ?_)
      obtain ⟨a6, ha6, h⟩ := lt_some h
      have hP : va_P D vwCl (MW cI cZ q (a6, (mRef r43), (mSize r43), (mSpot r43), (mRN r43), (mN r43), 0)) H := by have h9 := hP; rw [MW_s7] at h9; rw [ha6]; exact h9
      refine lv_aload_n hx hb dX5_load_58 rfl (lv_at hl 0 rfl) ?_
      refine va_get (D := D) (ci := 5) (v := .ref (q + 7)) (C := RX5) (T := TX5) (N := 15) hx hb hts hinX5 hown hK hP 0 rfl rfl 12 (by decide) hf28 (fun _ h9 => h9) rfl dX5_load_59 ?_
      refine lv_iconst (v := 1) hx hb dX5_load_62 (by decide) ?_
      refine lv_iconst (v := 0) hx hb dX5_load_63 (by decide) ?_
      refine g_zast (f := (a6 7)) (k := 1) hx hb hK hP MW_self hS 7 2 rfl rfl (vin_lit rfl) rfl dX5_load_64 (fun H locs hP hS => ?_)
      obtain ⟨a7, ha7, h⟩ := lt_some h
      have hP : va_P D vwCl (MW cI cZ q (a7, (mRef r43), (mSize r43), (mSpot r43), (mRN r43), (mN r43), 0)) H := by have h9 := hP; rw [MW_s7] at h9; rw [ha7]; exact h9
      refine lv_aload_n hx hb dX5_load_65 rfl (lv_at hl 0 rfl) ?_
      refine va_get (D := D) (ci := 5) (v := .ref (q + 3)) (C := RX5) (T := TX5) (N := 15) hx hb hts hinX5 hown hK hP 0 rfl rfl 7 (by decide) hf16 (fun _ h9 => h9) rfl dX5_load_66 ?_
      refine lv_bipush (v := 96) hx hb dX5_load_69 (by decide) ?_
      refine g_iald (f := (a7 3)) (k := 96) hx hb hK hP 3 0 rfl rfl (vin_lit rfl) rfl dX5_load_71 ?_
      have h := Option.some.inj h
      subst h
      exact W.iret (v := ((a7 3) 96)) hx hb hr (fun t ht hW => ⟨⟨_, (), rfl, rfl, gh ht hP⟩, hS.F ht⟩) hS.2.2 dX5_load_72
    · replace h := (if_neg c5).symm.trans h
      refine lv_iconst (v := 0) hx hb dX5_load_21 (by decide) ?_
      have h := Option.some.inj h
      subst h
      exact W.iret (v := 0) hx hb hr (fun t ht hW => ⟨⟨_, (), rfl, rfl, gh ht hP⟩, hS.F ht⟩) hS.2.2 dX5_load_22

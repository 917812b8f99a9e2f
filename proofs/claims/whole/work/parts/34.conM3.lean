set_option maxHeartbeats 4000000 in
set_option maxRecDepth 100000 in
theorem kX5_about (l : Launch) (D : va_G) (cI cC cZ cQ cJ : ClassId) (q : Nat) (M : MSt) (p0 : Int32) {R : Int32 × MSt} (h : fX5_about M p0 = some R) : Met l yX5_about wsX5_about ({ frames := 1, cells := 0, slots := 0, locals := 25 } : Room) (va_Pc [.ref q, .int p0] (gB D (gTy cI cC cZ cQ cJ) (va_P D vwCl (MW cI cZ q M)))) (va_Qi (fun r (_ : Unit) => r = R.1) (fun _ t => va_P D vwCl (MW cI cZ q R.2) t.heap) (fIv q 10)) 0 0 (fIv q 10) := by
  refine Met.ofW (cc := cX5_about) (maxL := 2) (ret := (some .int)) (by decide) rfl ?_
  intro p e s m args below meth c s₁ B hml hv
  obtain ⟨rfl, hP, hK⟩ := hv
  have hx := B.exec
  have hb := B.bytes
  have hr := B.returns
  have hts := atoms_spec (ws := wsX5_about) B.pre
  have hown : s.vm.findClass RX5 = some m.cls := findClass_of_methodNamed B.named
  have hlocks := B.notSynchronized
  have hinX5 : ∀ w ∈ wsX50, w ∈ wsX5_about := by decide +kernel
  have hf38 := hts (.fieldLink RX5 38 "GripInspectorModel" "n" "I") (by decide +kernel)
  have hf16 := hts (.fieldLink RX5 16 "GripInspectorModel" "now" "[I") (by decide +kernel)
  generalize hRM : (headSpec wsX5_about ({ frames := 1, cells := 0, slots := 0, locals := 25 } : Room)).room = RM
  replace hRM : ({ frames := 1, cells := 0, slots := 0, locals := 25 } : Room) = RM := hRM
  subst hRM
  have hl := lv_entry ([.ref q, .int p0]) (n := 2) (Nat.le_of_ble_eq_true rfl)
  rw [lg_entry_eq]
  generalize (lg_sl ([.ref q, .int p0]) ++ List.replicate (2 - (lg_sl ([.ref q, .int p0])).length) Slot.unset).toArray = ls at hl ⊢
  have hl : lv_has ls 2 [(0, .ref q), (1, .int p0)] := hl
  have hS : va_S (fIv q 10) s.heap s.heap [] := va_S.rf
  unfold fX5_about at h
  obtain ⟨H, hH⟩ : ∃ H, H = s.heap := ⟨_, rfl⟩
  obtain ⟨locs, hlz⟩ : ∃ z : List Loc, z = [] := ⟨_, rfl⟩
  have hP : va_P D vwCl (MW cI cZ q M) H := by rw [hH]; exact hP
  have hS : va_S (fIv q 10) s.heap H locs := by rw [hH, hlz]; exact hS
  refine gc_at hH hlz ?_
  refine lv_aload_n hx hb dX5_about_0 rfl (lv_at hl 0 rfl) ?_
  refine lv_iload_n hx hb dX5_about_1 rfl (lv_at hl 1 rfl) ?_
  refine lv_i2l hx hb dX5_about_2 rfl ?_
  refine lv_lconst (v := 0) hx hb dX5_about_3 (by decide) ?_
  refine lv_ldc2 (v := 12) hx hb hown (hts (.constantLong RX5 136 (12)) (by decide +kernel)) dX5_about_4 ?_
  obtain ⟨r7, hr7, h⟩ := bd_some h
  refine gc_si (As := [.long ((p0).toInt64), .long 0, .long 12]) (rest := [.ref q]) ⟨hx, hb, hml, hown, hts⟩ hK (kX5_in l D cI cC cZ cQ cJ ((p0).toInt64) 0 12 hr7) (va_cwS 3 hts gX5_about_X5_in rfl rfl rfl (by decide +kernel) ⟨Nat.le_of_ble_eq_true rfl, Nat.le_of_ble_eq_true rfl⟩)  trivial rfl hl.1 rfl (Nat.le_of_ble_eq_true rfl) ⟨Nat.zero_le _, Nat.zero_le _⟩ dX5_about_7 ?_
  refine lv_if_eq (tgt := 17) hx hb dX5_about_10 (by decide) (fun c1 => ?_) (fun c1 => ?_)
  · replace h := (if_pos c1).symm.trans h
    refine lv_iconst (v := 1) hx hb dX5_about_17 (by decide) ?_
    obtain ⟨r18, hr18, h⟩ := bd_some h
    refine gc_wi (As := [.int 1]) (rest := []) ⟨hx, hb, hml, hown, hts⟩ hK (kX5_refused l D cI cC cZ cQ cJ q M 1 hr18) (cwV 1 hts gX5_about_X5_refused rfl rfl rfl (by decide +kernel) ⟨Nat.le_of_ble_eq_true rfl, Nat.le_of_ble_eq_true rfl⟩) (va_recv hK hP (ci := 5) (q0 := 0) rfl rfl) hP hS (fun _ h => h) rfl hl.1 rfl (Nat.le_of_ble_eq_true rfl) ⟨Nat.zero_le _, Nat.zero_le _⟩ dX5_about_18 (fun H locs hP hS _ _ => ?_)
    refine lv_if_eq (tgt := 26) hx hb dX5_about_21 (by decide) (fun c2 => ?_) (fun c2 => ?_)
    · replace h := (if_pos c2).symm.trans h
      refine lv_iload_n hx hb dX5_about_26 rfl (lv_at hl 1 rfl) ?_
      by_cases c3 : p0 = 0
      · replace h := (if_pos c3).symm.trans h
        refine lv_tableIn (off := 45) (tgt := 72) hx hb dX5_about_27 (by rw [c3]; decide) (by rw [c3]; decide) (by rw [c3]; rfl) (by decide) ?_
        refine lv_aload_n hx hb dX5_about_72 rfl (lv_at hl 0 rfl) ?_
        refine va_get (D := D) (ci := 5) (v := .int (mN r18.2)) (C := RX5) (T := TX5) (N := 15) hx hb hts hinX5 hown hK hP 0 rfl rfl 6 (by decide) hf38 (fun _ h9 => h9) rfl dX5_about_73 ?_
        have h := Option.some.inj h
        subst h
        exact W.iret (v := (mN r18.2)) hx hb hr (fun t ht hW => ⟨⟨_, (), rfl, rfl, gh ht hP⟩, hS.F ht⟩) hS.2.2 dX5_about_76
      · replace h := (if_neg c3).symm.trans h
        by_cases c4 : p0 = 1
        · replace h := (if_pos c4).symm.trans h
          refine lv_tableIn (off := 50) (tgt := 77) hx hb dX5_about_27 (by rw [c4]; decide) (by rw [c4]; decide) (by rw [c4]; rfl) (by decide) ?_
          refine lv_aload_n hx hb dX5_about_77 rfl (lv_at hl 0 rfl) ?_
          refine va_get (D := D) (ci := 5) (v := .ref (q + 3)) (C := RX5) (T := TX5) (N := 15) hx hb hts hinX5 hown hK hP 0 rfl rfl 7 (by decide) hf16 (fun _ h9 => h9) rfl dX5_about_78 ?_
          refine lv_bipush (v := 96) hx hb dX5_about_81 (by decide) ?_
          refine g_iald (f := ((mA r18.2) 3)) (k := 96) hx hb hK hP 3 0 rfl rfl (vin_lit rfl) rfl dX5_about_83 ?_
          have h := Option.some.inj h
          subst h
          exact W.iret (v := (((mA r18.2) 3) 96)) hx hb hr (fun t ht hW => ⟨⟨_, (), rfl, rfl, gh ht hP⟩, hS.F ht⟩) hS.2.2 dX5_about_84
        · replace h := (if_neg c4).symm.trans h
          by_cases c5 : p0 = 2
          · replace h := (if_pos c5).symm.trans h
            refine lv_tableIn (off := 74) (tgt := 101) hx hb dX5_about_27 (by rw [c5]; decide) (by rw [c5]; decide) (by rw [c5]; rfl) (by decide) ?_
            refine lv_iload_n hx hb dX5_about_101 rfl (lv_at hl 1 rfl) ?_
            refine lv_bipush (v := 6) hx hb dX5_about_102 (by decide) ?_
            refine lv_icmp_ge (tgt := 120) hx hb dX5_about_104 (by decide) (fun c6 => ?_) (fun c6 => ?_)
            · replace h := (if_pos c6).symm.trans h
              refine lv_aload_n hx hb dX5_about_120 rfl (lv_at hl 0 rfl) ?_
              refine va_get (D := D) (ci := 5) (v := .ref (q + 3)) (C := RX5) (T := TX5) (N := 15) hx hb hts hinX5 hown hK hP 0 rfl rfl 7 (by decide) hf16 (fun _ h9 => h9) rfl dX5_about_121 ?_
              refine lv_bipush (v := 99) hx hb dX5_about_124 (by decide) ?_
              refine lv_iload_n hx hb dX5_about_126 rfl (lv_at hl 1 rfl) ?_
              refine lv_iadd hx hb dX5_about_127 ?_
              refine lv_bipush (v := 8) hx hb dX5_about_128 (by decide) ?_
              refine lv_isub hx hb dX5_about_130 ?_
              obtain ⟨hg7, h⟩ := gd_some h
              refine g_iald (f := ((mA r18.2) 3)) (k := (((99 + p0) - 8)).toNatClampNeg) hx hb hK hP 3 0 rfl rfl hg7 rfl dX5_about_131 ?_
              have h := Option.some.inj h
              subst h
              exact W.iret (v := (((mA r18.2) 3) (((99 + p0) - 8)).toNatClampNeg)) hx hb hr (fun t ht hW => ⟨⟨_, (), rfl, rfl, gh ht hP⟩, hS.F ht⟩) hS.2.2 dX5_about_132
            · replace h := (if_neg c6).symm.trans h
              refine lv_aload_n hx hb dX5_about_107 rfl (lv_at hl 0 rfl) ?_
              refine va_get (D := D) (ci := 5) (v := .ref (q + 3)) (C := RX5) (T := TX5) (N := 15) hx hb hts hinX5 hown hK hP 0 rfl rfl 7 (by decide) hf16 (fun _ h9 => h9) rfl dX5_about_108 ?_
              refine lv_iload_n hx hb dX5_about_111 rfl (lv_at hl 1 rfl) ?_
              refine lv_iconst (v := 2) hx hb dX5_about_112 (by decide) ?_
              refine lv_isub hx hb dX5_about_113 ?_
              obtain ⟨r114, hr114, h⟩ := bd_some h
              refine gc_si (As := [.ref (q + 3), .int (p0 - 2)]) (rest := []) ⟨hx, hb, hml, hown, hts⟩ hK (kX5_count l D cI cC cZ cQ cJ q 3 r18.2 (p0 - 2) (Or.inr (Or.inl rfl)) hr114) (va_cwS 2 hts gX5_about_X5_count rfl rfl rfl (by decide +kernel) ⟨Nat.le_of_ble_eq_true rfl, Nat.le_of_ble_eq_true rfl⟩)  hP rfl hl.1 rfl (Nat.le_of_ble_eq_true rfl) ⟨Nat.zero_le _, Nat.zero_le _⟩ dX5_about_114 ?_
              refine lv_goto (tgt := 132) hx hb dX5_about_117 (by decide) ?_
              have h := Option.some.inj h
              subst h
              exact W.iret (v := r114) hx hb hr (fun t ht hW => ⟨⟨_, (), rfl, rfl, gh ht hP⟩, hS.F ht⟩) hS.2.2 dX5_about_132
          · replace h := (if_neg c5).symm.trans h
            by_cases c8 : p0 = 3
            · replace h := (if_pos c8).symm.trans h
              refine lv_tableIn (off := 74) (tgt := 101) hx hb dX5_about_27 (by rw [c8]; decide) (by rw [c8]; decide) (by rw [c8]; rfl) (by decide) ?_
              refine lv_iload_n hx hb dX5_about_101 rfl (lv_at hl 1 rfl) ?_
              refine lv_bipush (v := 6) hx hb dX5_about_102 (by decide) ?_
              refine lv_icmp_ge (tgt := 120) hx hb dX5_about_104 (by decide) (fun c9 => ?_) (fun c9 => ?_)
              · replace h := (if_pos c9).symm.trans h
                refine lv_aload_n hx hb dX5_about_120 rfl (lv_at hl 0 rfl) ?_
                refine va_get (D := D) (ci := 5) (v := .ref (q + 3)) (C := RX5) (T := TX5) (N := 15) hx hb hts hinX5 hown hK hP 0 rfl rfl 7 (by decide) hf16 (fun _ h9 => h9) rfl dX5_about_121 ?_
                refine lv_bipush (v := 99) hx hb dX5_about_124 (by decide) ?_
                refine lv_iload_n hx hb dX5_about_126 rfl (lv_at hl 1 rfl) ?_
                refine lv_iadd hx hb dX5_about_127 ?_
                refine lv_bipush (v := 8) hx hb dX5_about_128 (by decide) ?_
                refine lv_isub hx hb dX5_about_130 ?_
                obtain ⟨hg10, h⟩ := gd_some h
                refine g_iald (f := ((mA r18.2) 3)) (k := (((99 + p0) - 8)).toNatClampNeg) hx hb hK hP 3 0 rfl rfl hg10 rfl dX5_about_131 ?_
                have h := Option.some.inj h
                subst h
                exact W.iret (v := (((mA r18.2) 3) (((99 + p0) - 8)).toNatClampNeg)) hx hb hr (fun t ht hW => ⟨⟨_, (), rfl, rfl, gh ht hP⟩, hS.F ht⟩) hS.2.2 dX5_about_132
              · replace h := (if_neg c9).symm.trans h
                refine lv_aload_n hx hb dX5_about_107 rfl (lv_at hl 0 rfl) ?_
                refine va_get (D := D) (ci := 5) (v := .ref (q + 3)) (C := RX5) (T := TX5) (N := 15) hx hb hts hinX5 hown hK hP 0 rfl rfl 7 (by decide) hf16 (fun _ h9 => h9) rfl dX5_about_108 ?_
                refine lv_iload_n hx hb dX5_about_111 rfl (lv_at hl 1 rfl) ?_
                refine lv_iconst (v := 2) hx hb dX5_about_112 (by decide) ?_
                refine lv_isub hx hb dX5_about_113 ?_
                obtain ⟨r114, hr114, h⟩ := bd_some h
                refine gc_si (As := [.ref (q + 3), .int (p0 - 2)]) (rest := []) ⟨hx, hb, hml, hown, hts⟩ hK (kX5_count l D cI cC cZ cQ cJ q 3 r18.2 (p0 - 2) (Or.inr (Or.inl rfl)) hr114) (va_cwS 2 hts gX5_about_X5_count rfl rfl rfl (by decide +kernel) ⟨Nat.le_of_ble_eq_true rfl, Nat.le_of_ble_eq_true rfl⟩)  hP rfl hl.1 rfl (Nat.le_of_ble_eq_true rfl) ⟨Nat.zero_le _, Nat.zero_le _⟩ dX5_about_114 ?_
                refine lv_goto (tgt := 132) hx hb dX5_about_117 (by decide) ?_
                have h := Option.some.inj h
                subst h
                exact W.iret (v := r114) hx hb hr (fun t ht hW => ⟨⟨_, (), rfl, rfl, gh ht hP⟩, hS.F ht⟩) hS.2.2 dX5_about_132
            · replace h := (if_neg c8).symm.trans h
              by_cases c11 : p0 = 4
              · replace h := (if_pos c11).symm.trans h
                refine lv_tableIn (off := 74) (tgt := 101) hx hb dX5_about_27 (by rw [c11]; decide) (by rw [c11]; decide) (by rw [c11]; rfl) (by decide) ?_
                refine lv_iload_n hx hb dX5_about_101 rfl (lv_at hl 1 rfl) ?_
                refine lv_bipush (v := 6) hx hb dX5_about_102 (by decide) ?_
                refine lv_icmp_ge (tgt := 120) hx hb dX5_about_104 (by decide) (fun c12 => ?_) (fun c12 => ?_)
                · replace h := (if_pos c12).symm.trans h
                  refine lv_aload_n hx hb dX5_about_120 rfl (lv_at hl 0 rfl) ?_
                  refine va_get (D := D) (ci := 5) (v := .ref (q + 3)) (C := RX5) (T := TX5) (N := 15) hx hb hts hinX5 hown hK hP 0 rfl rfl 7 (by decide) hf16 (fun _ h9 => h9) rfl dX5_about_121 ?_
                  refine lv_bipush (v := 99) hx hb dX5_about_124 (by decide) ?_
                  refine lv_iload_n hx hb dX5_about_126 rfl (lv_at hl 1 rfl) ?_
                  refine lv_iadd hx hb dX5_about_127 ?_
                  refine lv_bipush (v := 8) hx hb dX5_about_128 (by decide) ?_
                  refine lv_isub hx hb dX5_about_130 ?_
                  obtain ⟨hg13, h⟩ := gd_some h
                  refine g_iald (f := ((mA r18.2) 3)) (k := (((99 + p0) - 8)).toNatClampNeg) hx hb hK hP 3 0 rfl rfl hg13 rfl dX5_about_131 ?_
                  have h := Option.some.inj h
                  subst h
                  exact W.iret (v := (((mA r18.2) 3) (((99 + p0) - 8)).toNatClampNeg)) hx hb hr (fun t ht hW => ⟨⟨_, (), rfl, rfl, gh ht hP⟩, hS.F ht⟩) hS.2.2 dX5_about_132
                · replace h := (if_neg c12).symm.trans h
                  refine lv_aload_n hx hb dX5_about_107 rfl (lv_at hl 0 rfl) ?_
                  refine va_get (D := D) (ci := 5) (v := .ref (q + 3)) (C := RX5) (T := TX5) (N := 15) hx hb hts hinX5 hown hK hP 0 rfl rfl 7 (by decide) hf16 (fun _ h9 => h9) rfl dX5_about_108 ?_
                  refine lv_iload_n hx hb dX5_about_111 rfl (lv_at hl 1 rfl) ?_
                  refine lv_iconst (v := 2) hx hb dX5_about_112 (by decide) ?_
                  refine lv_isub hx hb dX5_about_113 ?_
                  obtain ⟨r114, hr114, h⟩ := bd_some h
                  refine gc_si (As := [.ref (q + 3), .int (p0 - 2)]) (rest := []) ⟨hx, hb, hml, hown, hts⟩ hK (kX5_count l D cI cC cZ cQ cJ q 3 r18.2 (p0 - 2) (Or.inr (Or.inl rfl)) hr114) (va_cwS 2 hts gX5_about_X5_count rfl rfl rfl (by decide +kernel) ⟨Nat.le_of_ble_eq_true rfl, Nat.le_of_ble_eq_true rfl⟩)  hP rfl hl.1 rfl (Nat.le_of_ble_eq_true rfl) ⟨Nat.zero_le _, Nat.zero_le _⟩ dX5_about_114 ?_
                  refine lv_goto (tgt := 132) hx hb dX5_about_117 (by decide) ?_
                  have h := Option.some.inj h
                  subst h
                  exact W.iret (v := r114) hx hb hr (fun t ht hW => ⟨⟨_, (), rfl, rfl, gh ht hP⟩, hS.F ht⟩) hS.2.2 dX5_about_132
              · replace h := (if_neg c11).symm.trans h
                by_cases c14 : p0 = 5
                · replace h := (if_pos c14).symm.trans h
                  refine lv_tableIn (off := 74) (tgt := 101) hx hb dX5_about_27 (by rw [c14]; decide) (by rw [c14]; decide) (by rw [c14]; rfl) (by decide) ?_
                  refine lv_iload_n hx hb dX5_about_101 rfl (lv_at hl 1 rfl) ?_
                  refine lv_bipush (v := 6) hx hb dX5_about_102 (by decide) ?_
                  refine lv_icmp_ge (tgt := 120) hx hb dX5_about_104 (by decide) (fun c15 => ?_) (fun c15 => ?_)
                  · replace h := (if_pos c15).symm.trans h
                    refine lv_aload_n hx hb dX5_about_120 rfl (lv_at hl 0 rfl) ?_
                    refine va_get (D := D) (ci := 5) (v := .ref (q + 3)) (C := RX5) (T := TX5) (N := 15) hx hb hts hinX5 hown hK hP 0 rfl rfl 7 (by decide) hf16 (fun _ h9 => h9) rfl dX5_about_121 ?_
                    refine lv_bipush (v := 99) hx hb dX5_about_124 (by decide) ?_
                    refine lv_iload_n hx hb dX5_about_126 rfl (lv_at hl 1 rfl) ?_
                    refine lv_iadd hx hb dX5_about_127 ?_
                    refine lv_bipush (v := 8) hx hb dX5_about_128 (by decide) ?_
                    refine lv_isub hx hb dX5_about_130 ?_
                    obtain ⟨hg16, h⟩ := gd_some h
                    refine g_iald (f := ((mA r18.2) 3)) (k := (((99 + p0) - 8)).toNatClampNeg) hx hb hK hP 3 0 rfl rfl hg16 rfl dX5_about_131 ?_
                    have h := Option.some.inj h
                    subst h
                    exact W.iret (v := (((mA r18.2) 3) (((99 + p0) - 8)).toNatClampNeg)) hx hb hr (fun t ht hW => ⟨⟨_, (), rfl, rfl, gh ht hP⟩, hS.F ht⟩) hS.2.2 dX5_about_132
                  · replace h := (if_neg c15).symm.trans h
                    refine lv_aload_n hx hb dX5_about_107 rfl (lv_at hl 0 rfl) ?_
                    refine va_get (D := D) (ci := 5) (v := .ref (q + 3)) (C := RX5) (T := TX5) (N := 15) hx hb hts hinX5 hown hK hP 0 rfl rfl 7 (by decide) hf16 (fun _ h9 => h9) rfl dX5_about_108 ?_
                    refine lv_iload_n hx hb dX5_about_111 rfl (lv_at hl 1 rfl) ?_
                    refine lv_iconst (v := 2) hx hb dX5_about_112 (by decide) ?_
                    refine lv_isub hx hb dX5_about_113 ?_
                    obtain ⟨r114, hr114, h⟩ := bd_some h
                    refine gc_si (As := [.ref (q + 3), .int (p0 - 2)]) (rest := []) ⟨hx, hb, hml, hown, hts⟩ hK (kX5_count l D cI cC cZ cQ cJ q 3 r18.2 (p0 - 2) (Or.inr (Or.inl rfl)) hr114) (va_cwS 2 hts gX5_about_X5_count rfl rfl rfl (by decide +kernel) ⟨Nat.le_of_ble_eq_true rfl, Nat.le_of_ble_eq_true rfl⟩)  hP rfl hl.1 rfl (Nat.le_of_ble_eq_true rfl) ⟨Nat.zero_le _, Nat.zero_le _⟩ dX5_about_114 ?_
                    refine lv_goto (tgt := 132) hx hb dX5_about_117 (by decide) ?_
                    have h := Option.some.inj h
                    subst h
                    exact W.iret (v := r114) hx hb hr (fun t ht hW => ⟨⟨_, (), rfl, rfl, gh ht hP⟩, hS.F ht⟩) hS.2.2 dX5_about_132
                · replace h := (if_neg c14).symm.trans h
                  by_cases c17 : p0 = 6
                  · replace h := (if_pos c17).symm.trans h
                    refine lv_tableIn (off := 58) (tgt := 85) hx hb dX5_about_27 (by rw [c17]; decide) (by rw [c17]; decide) (by rw [c17]; rfl) (by decide) ?_
                    refine lv_aload_n hx hb dX5_about_85 rfl (lv_at hl 0 rfl) ?_
                    refine va_get (D := D) (ci := 5) (v := .ref (q + 3)) (C := RX5) (T := TX5) (N := 15) hx hb hts hinX5 hown hK hP 0 rfl rfl 7 (by decide) hf16 (fun _ h9 => h9) rfl dX5_about_86 ?_
                    refine lv_bipush (v := 97) hx hb dX5_about_89 (by decide) ?_
                    refine g_iald (f := ((mA r18.2) 3)) (k := 97) hx hb hK hP 3 0 rfl rfl (vin_lit rfl) rfl dX5_about_91 ?_
                    have h := Option.some.inj h
                    subst h
                    exact W.iret (v := (((mA r18.2) 3) 97)) hx hb hr (fun t ht hW => ⟨⟨_, (), rfl, rfl, gh ht hP⟩, hS.F ht⟩) hS.2.2 dX5_about_92
                  · replace h := (if_neg c17).symm.trans h
                    by_cases c18 : p0 = 7
                    · replace h := (if_pos c18).symm.trans h
                      refine lv_tableIn (off := 66) (tgt := 93) hx hb dX5_about_27 (by rw [c18]; decide) (by rw [c18]; decide) (by rw [c18]; rfl) (by decide) ?_
                      refine lv_aload_n hx hb dX5_about_93 rfl (lv_at hl 0 rfl) ?_
                      refine va_get (D := D) (ci := 5) (v := .ref (q + 3)) (C := RX5) (T := TX5) (N := 15) hx hb hts hinX5 hown hK hP 0 rfl rfl 7 (by decide) hf16 (fun _ h9 => h9) rfl dX5_about_94 ?_
                      refine lv_bipush (v := 98) hx hb dX5_about_97 (by decide) ?_
                      refine g_iald (f := ((mA r18.2) 3)) (k := 98) hx hb hK hP 3 0 rfl rfl (vin_lit rfl) rfl dX5_about_99 ?_
                      have h := Option.some.inj h
                      subst h
                      exact W.iret (v := (((mA r18.2) 3) 98)) hx hb hr (fun t ht hW => ⟨⟨_, (), rfl, rfl, gh ht hP⟩, hS.F ht⟩) hS.2.2 dX5_about_100
                    · replace h := (if_neg c18).symm.trans h
                      refine lv_tableOut (tgt := 101) hx hb dX5_about_27 (gsw_out 0 7 (x := p0) ?_) (by decide) ?_
                      · intro k h1 h2 hk
                        rcases (show k = 0 ∨ k = 1 ∨ k = 2 ∨ k = 3 ∨ k = 4 ∨ k = 5 ∨ k = 6 ∨ k = 7 by omega) with rfl | rfl | rfl | rfl | rfl | rfl | rfl | rfl
                        · exact lv_neT c3 (by decide) hk
                        · exact lv_neT c4 (by decide) hk
                        · exact lv_neT c5 (by decide) hk
                        · exact lv_neT c8 (by decide) hk
                        · exact lv_neT c11 (by decide) hk
                        · exact lv_neT c14 (by decide) hk
                        · exact lv_neT c17 (by decide) hk
                        · exact lv_neT c18 (by decide) hk
                      · refine lv_iload_n hx hb dX5_about_101 rfl (lv_at hl 1 rfl) ?_
                        refine lv_bipush (v := 6) hx hb dX5_about_102 (by decide) ?_
                        refine lv_icmp_ge (tgt := 120) hx hb dX5_about_104 (by decide) (fun c19 => ?_) (fun c19 => ?_)
                        · replace h := (if_pos c19).symm.trans h
                          refine lv_aload_n hx hb dX5_about_120 rfl (lv_at hl 0 rfl) ?_
                          refine va_get (D := D) (ci := 5) (v := .ref (q + 3)) (C := RX5) (T := TX5) (N := 15) hx hb hts hinX5 hown hK hP 0 rfl rfl 7 (by decide) hf16 (fun _ h9 => h9) rfl dX5_about_121 ?_
                          refine lv_bipush (v := 99) hx hb dX5_about_124 (by decide) ?_
                          refine lv_iload_n hx hb dX5_about_126 rfl (lv_at hl 1 rfl) ?_
                          refine lv_iadd hx hb dX5_about_127 ?_
                          refine lv_bipush (v := 8) hx hb dX5_about_128 (by decide) ?_
                          refine lv_isub hx hb dX5_about_130 ?_
                          obtain ⟨hg20, h⟩ := gd_some h
                          refine g_iald (f := ((mA r18.2) 3)) (k := (((99 + p0) - 8)).toNatClampNeg) hx hb hK hP 3 0 rfl rfl hg20 rfl dX5_about_131 ?_
                          have h := Option.some.inj h
                          subst h
                          exact W.iret (v := (((mA r18.2) 3) (((99 + p0) - 8)).toNatClampNeg)) hx hb hr (fun t ht hW => ⟨⟨_, (), rfl, rfl, gh ht hP⟩, hS.F ht⟩) hS.2.2 dX5_about_132
                        · replace h := (if_neg c19).symm.trans h
                          refine lv_aload_n hx hb dX5_about_107 rfl (lv_at hl 0 rfl) ?_
                          refine va_get (D := D) (ci := 5) (v := .ref (q + 3)) (C := RX5) (T := TX5) (N := 15) hx hb hts hinX5 hown hK hP 0 rfl rfl 7 (by decide) hf16 (fun _ h9 => h9) rfl dX5_about_108 ?_
                          refine lv_iload_n hx hb dX5_about_111 rfl (lv_at hl 1 rfl) ?_
                          refine lv_iconst (v := 2) hx hb dX5_about_112 (by decide) ?_
                          refine lv_isub hx hb dX5_about_113 ?_
                          obtain ⟨r114, hr114, h⟩ := bd_some h
                          refine gc_si (As := [.ref (q + 3), .int (p0 - 2)]) (rest := []) ⟨hx, hb, hml, hown, hts⟩ hK (kX5_count l D cI cC cZ cQ cJ q 3 r18.2 (p0 - 2) (Or.inr (Or.inl rfl)) hr114) (va_cwS 2 hts gX5_about_X5_count rfl rfl rfl (by decide +kernel) ⟨Nat.le_of_ble_eq_true rfl, Nat.le_of_ble_eq_true rfl⟩)  hP rfl hl.1 rfl (Nat.le_of_ble_eq_true rfl) ⟨Nat.zero_le _, Nat.zero_le _⟩ dX5_about_114 ?_
                          refine lv_goto (tgt := 132) hx hb dX5_about_117 (by decide) ?_
                          have h := Option.some.inj h
                          subst h
                          exact W.iret (v := r114) hx hb hr (fun t ht hW => ⟨⟨_, (), rfl, rfl, gh ht hP⟩, hS.F ht⟩) hS.2.2 dX5_about_132
    · replace h := (if_neg c2).symm.trans h
      refine lv_iconst (v := 0) hx hb dX5_about_24 (by decide) ?_
      have h := Option.some.inj h
      subst h
      exact W.iret (v := 0) hx hb hr (fun t ht hW => ⟨⟨_, (), rfl, rfl, gh ht hP⟩, hS.F ht⟩) hS.2.2 dX5_about_25
  · replace h := (if_neg c1).symm.trans h
    refine lv_iconst (v := 0) hx hb dX5_about_13 (by decide) ?_
    refine lv_goto (tgt := 18) hx hb dX5_about_14 (by decide) ?_
    obtain ⟨r18, hr18, h⟩ := bd_some h
    refine gc_wi (As := [.int 0]) (rest := []) ⟨hx, hb, hml, hown, hts⟩ hK (kX5_refused l D cI cC cZ cQ cJ q M 0 hr18) (cwV 1 hts gX5_about_X5_refused rfl rfl rfl (by decide +kernel) ⟨Nat.le_of_ble_eq_true rfl, Nat.le_of_ble_eq_true rfl⟩) (va_recv hK hP (ci := 5) (q0 := 0) rfl rfl) hP hS (fun _ h => h) rfl hl.1 rfl (Nat.le_of_ble_eq_true rfl) ⟨Nat.zero_le _, Nat.zero_le _⟩ dX5_about_18 (fun H locs hP hS _ _ => ?_)
    refine lv_if_eq (tgt := 26) hx hb dX5_about_21 (by decide) (fun c21 => ?_) (fun c21 => ?_)
    · replace h := (if_pos c21).symm.trans h
      refine lv_iload_n hx hb dX5_about_26 rfl (lv_at hl 1 rfl) ?_
      by_cases c22 : p0 = 0
      · replace h := (if_pos c22).symm.trans h
        refine lv_tableIn (off := 45) (tgt := 72) hx hb dX5_about_27 (by rw [c22]; decide) (by rw [c22]; decide) (by rw [c22]; rfl) (by decide) ?_
        refine lv_aload_n hx hb dX5_about_72 rfl (lv_at hl 0 rfl) ?_
        refine va_get (D := D) (ci := 5) (v := .int (mN r18.2)) (C := RX5) (T := TX5) (N := 15) hx hb hts hinX5 hown hK hP 0 rfl rfl 6 (by decide) hf38 (fun _ h9 => h9) rfl dX5_about_73 ?_
        have h := Option.some.inj h
        subst h
        exact W.iret (v := (mN r18.2)) hx hb hr (fun t ht hW => ⟨⟨_, (), rfl, rfl, gh ht hP⟩, hS.F ht⟩) hS.2.2 dX5_about_76
      · replace h := (if_neg c22).symm.trans h
        by_cases c23 : p0 = 1
        · replace h := (if_pos c23).symm.trans h
          refine lv_tableIn (off := 50) (tgt := 77) hx hb dX5_about_27 (by rw [c23]; decide) (by rw [c23]; decide) (by rw [c23]; rfl) (by decide) ?_
          refine lv_aload_n hx hb dX5_about_77 rfl (lv_at hl 0 rfl) ?_
          refine va_get (D := D) (ci := 5) (v := .ref (q + 3)) (C := RX5) (T := TX5) (N := 15) hx hb hts hinX5 hown hK hP 0 rfl rfl 7 (by decide) hf16 (fun _ h9 => h9) rfl dX5_about_78 ?_
          refine lv_bipush (v := 96) hx hb dX5_about_81 (by decide) ?_
          refine g_iald (f := ((mA r18.2) 3)) (k := 96) hx hb hK hP 3 0 rfl rfl (vin_lit rfl) rfl dX5_about_83 ?_
          have h := Option.some.inj h
          subst h
          exact W.iret (v := (((mA r18.2) 3) 96)) hx hb hr (fun t ht hW => ⟨⟨_, (), rfl, rfl, gh ht hP⟩, hS.F ht⟩) hS.2.2 dX5_about_84
        · replace h := (if_neg c23).symm.trans h
          by_cases c24 : p0 = 2
          · replace h := (if_pos c24).symm.trans h
            refine lv_tableIn (off := 74) (tgt := 101) hx hb dX5_about_27 (by rw [c24]; decide) (by rw [c24]; decide) (by rw [c24]; rfl) (by decide) ?_
            refine lv_iload_n hx hb dX5_about_101 rfl (lv_at hl 1 rfl) ?_
            refine lv_bipush (v := 6) hx hb dX5_about_102 (by decide) ?_
            refine lv_icmp_ge (tgt := 120) hx hb dX5_about_104 (by decide) (fun c25 => ?_) (fun c25 => ?_)
            · replace h := (if_pos c25).symm.trans h
              refine lv_aload_n hx hb dX5_about_120 rfl (lv_at hl 0 rfl) ?_
              refine va_get (D := D) (ci := 5) (v := .ref (q + 3)) (C := RX5) (T := TX5) (N := 15) hx hb hts hinX5 hown hK hP 0 rfl rfl 7 (by decide) hf16 (fun _ h9 => h9) rfl dX5_about_121 ?_
              refine lv_bipush (v := 99) hx hb dX5_about_124 (by decide) ?_
              refine lv_iload_n hx hb dX5_about_126 rfl (lv_at hl 1 rfl) ?_
              refine lv_iadd hx hb dX5_about_127 ?_
              refine lv_bipush (v := 8) hx hb dX5_about_128 (by decide) ?_
              refine lv_isub hx hb dX5_about_130 ?_
              obtain ⟨hg26, h⟩ := gd_some h
              refine g_iald (f := ((mA r18.2) 3)) (k := (((99 + p0) - 8)).toNatClampNeg) hx hb hK hP 3 0 rfl rfl hg26 rfl dX5_about_131 ?_
              have h := Option.some.inj h
              subst h
              exact W.iret (v := (((mA r18.2) 3) (((99 + p0) - 8)).toNatClampNeg)) hx hb hr (fun t ht hW => ⟨⟨_, (), rfl, rfl, gh ht hP⟩, hS.F ht⟩) hS.2.2 dX5_about_132
            · replace h := (if_neg c25).symm.trans h
              refine lv_aload_n hx hb dX5_about_107 rfl (lv_at hl 0 rfl) ?_
              refine va_get (D := D) (ci := 5) (v := .ref (q + 3)) (C := RX5) (T := TX5) (N := 15) hx hb hts hinX5 hown hK hP 0 rfl rfl 7 (by decide) hf16 (fun _ h9 => h9) rfl dX5_about_108 ?_
              refine lv_iload_n hx hb dX5_about_111 rfl (lv_at hl 1 rfl) ?_
              refine lv_iconst (v := 2) hx hb dX5_about_112 (by decide) ?_
              refine lv_isub hx hb dX5_about_113 ?_
              obtain ⟨r114, hr114, h⟩ := bd_some h
              refine gc_si (As := [.ref (q + 3), .int (p0 - 2)]) (rest := []) ⟨hx, hb, hml, hown, hts⟩ hK (kX5_count l D cI cC cZ cQ cJ q 3 r18.2 (p0 - 2) (Or.inr (Or.inl rfl)) hr114) (va_cwS 2 hts gX5_about_X5_count rfl rfl rfl (by decide +kernel) ⟨Nat.le_of_ble_eq_true rfl, Nat.le_of_ble_eq_true rfl⟩)  hP rfl hl.1 rfl (Nat.le_of_ble_eq_true rfl) ⟨Nat.zero_le _, Nat.zero_le _⟩ dX5_about_114 ?_
              refine lv_goto (tgt := 132) hx hb dX5_about_117 (by decide) ?_
              have h := Option.some.inj h
              subst h
              exact W.iret (v := r114) hx hb hr (fun t ht hW => ⟨⟨_, (), rfl, rfl, gh ht hP⟩, hS.F ht⟩) hS.2.2 dX5_about_132
          · replace h := (if_neg c24).symm.trans h
            by_cases c27 : p0 = 3
            · replace h := (if_pos c27).symm.trans h
              refine lv_tableIn (off := 74) (tgt := 101) hx hb dX5_about_27 (by rw [c27]; decide) (by rw [c27]; decide) (by rw [c27]; rfl) (by decide) ?_
              refine lv_iload_n hx hb dX5_about_101 rfl (lv_at hl 1 rfl) ?_
              refine lv_bipush (v := 6) hx hb dX5_about_102 (by decide) ?_
              refine lv_icmp_ge (tgt := 120) hx hb dX5_about_104 (by decide) (fun c28 => ?_) (fun c28 => ?_)
              · replace h := (if_pos c28).symm.trans h
                refine lv_aload_n hx hb dX5_about_120 rfl (lv_at hl 0 rfl) ?_
                refine va_get (D := D) (ci := 5) (v := .ref (q + 3)) (C := RX5) (T := TX5) (N := 15) hx hb hts hinX5 hown hK hP 0 rfl rfl 7 (by decide) hf16 (fun _ h9 => h9) rfl dX5_about_121 ?_
                refine lv_bipush (v := 99) hx hb dX5_about_124 (by decide) ?_
                refine lv_iload_n hx hb dX5_about_126 rfl (lv_at hl 1 rfl) ?_
                refine lv_iadd hx hb dX5_about_127 ?_
                refine lv_bipush (v := 8) hx hb dX5_about_128 (by decide) ?_
                refine lv_isub hx hb dX5_about_130 ?_
                obtain ⟨hg29, h⟩ := gd_some h
                refine g_iald (f := ((mA r18.2) 3)) (k := (((99 + p0) - 8)).toNatClampNeg) hx hb hK hP 3 0 rfl rfl hg29 rfl dX5_about_131 ?_
                have h := Option.some.inj h
                subst h
                exact W.iret (v := (((mA r18.2) 3) (((99 + p0) - 8)).toNatClampNeg)) hx hb hr (fun t ht hW => ⟨⟨_, (), rfl, rfl, gh ht hP⟩, hS.F ht⟩) hS.2.2 dX5_about_132
              · replace h := (if_neg c28).symm.trans h
                refine lv_aload_n hx hb dX5_about_107 rfl (lv_at hl 0 rfl) ?_
                refine va_get (D := D) (ci := 5) (v := .ref (q + 3)) (C := RX5) (T := TX5) (N := 15) hx hb hts hinX5 hown hK hP 0 rfl rfl 7 (by decide) hf16 (fun _ h9 => h9) rfl dX5_about_108 ?_
                refine lv_iload_n hx hb dX5_about_111 rfl (lv_at hl 1 rfl) ?_
                refine lv_iconst (v := 2) hx hb dX5_about_112 (by decide) ?_
                refine lv_isub hx hb dX5_about_113 ?_
                obtain ⟨r114, hr114, h⟩ := bd_some h
                refine gc_si (As := [.ref (q + 3), .int (p0 - 2)]) (rest := []) ⟨hx, hb, hml, hown, hts⟩ hK (kX5_count l D cI cC cZ cQ cJ q 3 r18.2 (p0 - 2) (Or.inr (Or.inl rfl)) hr114) (va_cwS 2 hts gX5_about_X5_count rfl rfl rfl (by decide +kernel) ⟨Nat.le_of_ble_eq_true rfl, Nat.le_of_ble_eq_true rfl⟩)  hP rfl hl.1 rfl (Nat.le_of_ble_eq_true rfl) ⟨Nat.zero_le _, Nat.zero_le _⟩ dX5_about_114 ?_
                refine lv_goto (tgt := 132) hx hb dX5_about_117 (by decide) ?_
                have h := Option.some.inj h
                subst h
                exact W.iret (v := r114) hx hb hr (fun t ht hW => ⟨⟨_, (), rfl, rfl, gh ht hP⟩, hS.F ht⟩) hS.2.2 dX5_about_132
            · replace h := (if_neg c27).symm.trans h
              by_cases c30 : p0 = 4
              · replace h := (if_pos c30).symm.trans h
                refine lv_tableIn (off := 74) (tgt := 101) hx hb dX5_about_27 (by rw [c30]; decide) (by rw [c30]; decide) (by rw [c30]; rfl) (by decide) ?_
                refine lv_iload_n hx hb dX5_about_101 rfl (lv_at hl 1 rfl) ?_
                refine lv_bipush (v := 6) hx hb dX5_about_102 (by decide) ?_
                refine lv_icmp_ge (tgt := 120) hx hb dX5_about_104 (by decide) (fun c31 => ?_) (fun c31 => ?_)
                · replace h := (if_pos c31).symm.trans h
                  refine lv_aload_n hx hb dX5_about_120 rfl (lv_at hl 0 rfl) ?_
                  refine va_get (D := D) (ci := 5) (v := .ref (q + 3)) (C := RX5) (T := TX5) (N := 15) hx hb hts hinX5 hown hK hP 0 rfl rfl 7 (by decide) hf16 (fun _ h9 => h9) rfl dX5_about_121 ?_
                  refine lv_bipush (v := 99) hx hb dX5_about_124 (by decide) ?_
                  refine lv_iload_n hx hb dX5_about_126 rfl (lv_at hl 1 rfl) ?_
                  refine lv_iadd hx hb dX5_about_127 ?_
                  refine lv_bipush (v := 8) hx hb dX5_about_128 (by decide) ?_
                  refine lv_isub hx hb dX5_about_130 ?_
                  obtain ⟨hg32, h⟩ := gd_some h
                  refine g_iald (f := ((mA r18.2) 3)) (k := (((99 + p0) - 8)).toNatClampNeg) hx hb hK hP 3 0 rfl rfl hg32 rfl dX5_about_131 ?_
                  have h := Option.some.inj h
                  subst h
                  exact W.iret (v := (((mA r18.2) 3) (((99 + p0) - 8)).toNatClampNeg)) hx hb hr (fun t ht hW => ⟨⟨_, (), rfl, rfl, gh ht hP⟩, hS.F ht⟩) hS.2.2 dX5_about_132
                · replace h := (if_neg c31).symm.trans h
                  refine lv_aload_n hx hb dX5_about_107 rfl (lv_at hl 0 rfl) ?_
                  refine va_get (D := D) (ci := 5) (v := .ref (q + 3)) (C := RX5) (T := TX5) (N := 15) hx hb hts hinX5 hown hK hP 0 rfl rfl 7 (by decide) hf16 (fun _ h9 => h9) rfl dX5_about_108 ?_
                  refine lv_iload_n hx hb dX5_about_111 rfl (lv_at hl 1 rfl) ?_
                  refine lv_iconst (v := 2) hx hb dX5_about_112 (by decide) ?_
                  refine lv_isub hx hb dX5_about_113 ?_
                  obtain ⟨r114, hr114, h⟩ := bd_some h
                  refine gc_si (As := [.ref (q + 3), .int (p0 - 2)]) (rest := []) ⟨hx, hb, hml, hown, hts⟩ hK (kX5_count l D cI cC cZ cQ cJ q 3 r18.2 (p0 - 2) (Or.inr (Or.inl rfl)) hr114) (va_cwS 2 hts gX5_about_X5_count rfl rfl rfl (by decide +kernel) ⟨Nat.le_of_ble_eq_true rfl, Nat.le_of_ble_eq_true rfl⟩)  hP rfl hl.1 rfl (Nat.le_of_ble_eq_true rfl) ⟨Nat.zero_le _, Nat.zero_le _⟩ dX5_about_114 ?_
                  refine lv_goto (tgt := 132) hx hb dX5_about_117 (by decide) ?_
                  have h := Option.some.inj h
                  subst h
                  exact W.iret (v := r114) hx hb hr (fun t ht hW => ⟨⟨_, (), rfl, rfl, gh ht hP⟩, hS.F ht⟩) hS.2.2 dX5_about_132
              · replace h := (if_neg c30).symm.trans h
                by_cases c33 : p0 = 5
                · replace h := (if_pos c33).symm.trans h
                  refine lv_tableIn (off := 74) (tgt := 101) hx hb dX5_about_27 (by rw [c33]; decide) (by rw [c33]; decide) (by rw [c33]; rfl) (by decide) ?_
                  refine lv_iload_n hx hb dX5_about_101 rfl (lv_at hl 1 rfl) ?_
                  refine lv_bipush (v := 6) hx hb dX5_about_102 (by decide) ?_
                  refine lv_icmp_ge (tgt := 120) hx hb dX5_about_104 (by decide) (fun c34 => ?_) (fun c34 => ?_)
                  · replace h := (if_pos c34).symm.trans h
                    refine lv_aload_n hx hb dX5_about_120 rfl (lv_at hl 0 rfl) ?_
                    refine va_get (D := D) (ci := 5) (v := .ref (q + 3)) (C := RX5) (T := TX5) (N := 15) hx hb hts hinX5 hown hK hP 0 rfl rfl 7 (by decide) hf16 (fun _ h9 => h9) rfl dX5_about_121 ?_
                    refine lv_bipush (v := 99) hx hb dX5_about_124 (by decide) ?_
                    refine lv_iload_n hx hb dX5_about_126 rfl (lv_at hl 1 rfl) ?_
                    refine lv_iadd hx hb dX5_about_127 ?_
                    refine lv_bipush (v := 8) hx hb dX5_about_128 (by decide) ?_
                    refine lv_isub hx hb dX5_about_130 ?_
                    obtain ⟨hg35, h⟩ := gd_some h
                    refine g_iald (f := ((mA r18.2) 3)) (k := (((99 + p0) - 8)).toNatClampNeg) hx hb hK hP 3 0 rfl rfl hg35 rfl dX5_about_131 ?_
                    have h := Option.some.inj h
                    subst h
                    exact W.iret (v := (((mA r18.2) 3) (((99 + p0) - 8)).toNatClampNeg)) hx hb hr (fun t ht hW => ⟨⟨_, (), rfl, rfl, gh ht hP⟩, hS.F ht⟩) hS.2.2 dX5_about_132
                  · replace h := (if_neg c34).symm.trans h
                    refine lv_aload_n hx hb dX5_about_107 rfl (lv_at hl 0 rfl) ?_
                    refine va_get (D := D) (ci := 5) (v := .ref (q + 3)) (C := RX5) (T := TX5) (N := 15) hx hb hts hinX5 hown hK hP 0 rfl rfl 7 (by decide) hf16 (fun _ h9 => h9) rfl dX5_about_108 ?_
                    refine lv_iload_n hx hb dX5_about_111 rfl (lv_at hl 1 rfl) ?_
                    refine lv_iconst (v := 2) hx hb dX5_about_112 (by decide) ?_
                    refine lv_isub hx hb dX5_about_113 ?_
                    obtain ⟨r114, hr114, h⟩ := bd_some h
                    refine gc_si (As := [.ref (q + 3), .int (p0 - 2)]) (rest := []) ⟨hx, hb, hml, hown, hts⟩ hK (kX5_count l D cI cC cZ cQ cJ q 3 r18.2 (p0 - 2) (Or.inr (Or.inl rfl)) hr114) (va_cwS 2 hts gX5_about_X5_count rfl rfl rfl (by decide +kernel) ⟨Nat.le_of_ble_eq_true rfl, Nat.le_of_ble_eq_true rfl⟩)  hP rfl hl.1 rfl (Nat.le_of_ble_eq_true rfl) ⟨Nat.zero_le _, Nat.zero_le _⟩ dX5_about_114 ?_
                    refine lv_goto (tgt := 132) hx hb dX5_about_117 (by decide) ?_
                    have h := Option.some.inj h
                    subst h
                    exact W.iret (v := r114) hx hb hr (fun t ht hW => ⟨⟨_, (), rfl, rfl, gh ht hP⟩, hS.F ht⟩) hS.2.2 dX5_about_132
                · replace h := (if_neg c33).symm.trans h
                  by_cases c36 : p0 = 6
                  · replace h := (if_pos c36).symm.trans h
                    refine lv_tableIn (off := 58) (tgt := 85) hx hb dX5_about_27 (by rw [c36]; decide) (by rw [c36]; decide) (by rw [c36]; rfl) (by decide) ?_
                    refine lv_aload_n hx hb dX5_about_85 rfl (lv_at hl 0 rfl) ?_
                    refine va_get (D := D) (ci := 5) (v := .ref (q + 3)) (C := RX5) (T := TX5) (N := 15) hx hb hts hinX5 hown hK hP 0 rfl rfl 7 (by decide) hf16 (fun _ h9 => h9) rfl dX5_about_86 ?_
                    refine lv_bipush (v := 97) hx hb dX5_about_89 (by decide) ?_
                    refine g_iald (f := ((mA r18.2) 3)) (k := 97) hx hb hK hP 3 0 rfl rfl (vin_lit rfl) rfl dX5_about_91 ?_
                    have h := Option.some.inj h
                    subst h
                    exact W.iret (v := (((mA r18.2) 3) 97)) hx hb hr (fun t ht hW => ⟨⟨_, (), rfl, rfl, gh ht hP⟩, hS.F ht⟩) hS.2.2 dX5_about_92
                  · replace h := (if_neg c36).symm.trans h
                    by_cases c37 : p0 = 7
                    · replace h := (if_pos c37).symm.trans h
                      refine lv_tableIn (off := 66) (tgt := 93) hx hb dX5_about_27 (by rw [c37]; decide) (by rw [c37]; decide) (by rw [c37]; rfl) (by decide) ?_
                      refine lv_aload_n hx hb dX5_about_93 rfl (lv_at hl 0 rfl) ?_
                      refine va_get (D := D) (ci := 5) (v := .ref (q + 3)) (C := RX5) (T := TX5) (N := 15) hx hb hts hinX5 hown hK hP 0 rfl rfl 7 (by decide) hf16 (fun _ h9 => h9) rfl dX5_about_94 ?_
                      refine lv_bipush (v := 98) hx hb dX5_about_97 (by decide) ?_
                      refine g_iald (f := ((mA r18.2) 3)) (k := 98) hx hb hK hP 3 0 rfl rfl (vin_lit rfl) rfl dX5_about_99 ?_
                      have h := Option.some.inj h
                      subst h
                      exact W.iret (v := (((mA r18.2) 3) 98)) hx hb hr (fun t ht hW => ⟨⟨_, (), rfl, rfl, gh ht hP⟩, hS.F ht⟩) hS.2.2 dX5_about_100
                    · replace h := (if_neg c37).symm.trans h
                      refine lv_tableOut (tgt := 101) hx hb dX5_about_27 (gsw_out 0 7 (x := p0) ?_) (by decide) ?_
                      · intro k h1 h2 hk
                        rcases (show k = 0 ∨ k = 1 ∨ k = 2 ∨ k = 3 ∨ k = 4 ∨ k = 5 ∨ k = 6 ∨ k = 7 by omega) with rfl | rfl | rfl | rfl | rfl | rfl | rfl | rfl
                        · exact lv_neT c22 (by decide) hk
                        · exact lv_neT c23 (by decide) hk
                        · exact lv_neT c24 (by decide) hk
                        · exact lv_neT c27 (by decide) hk
                        · exact lv_neT c30 (by decide) hk
                        · exact lv_neT c33 (by decide) hk
                        · exact lv_neT c36 (by decide) hk
                        · exact lv_neT c37 (by decide) hk
                      · refine lv_iload_n hx hb dX5_about_101 rfl (lv_at hl 1 rfl) ?_
                        refine lv_bipush (v := 6) hx hb dX5_about_102 (by decide) ?_
                        refine lv_icmp_ge (tgt := 120) hx hb dX5_about_104 (by decide) (fun c38 => ?_) (fun c38 => ?_)
                        · replace h := (if_pos c38).symm.trans h
                          refine lv_aload_n hx hb dX5_about_120 rfl (lv_at hl 0 rfl) ?_
                          refine va_get (D := D) (ci := 5) (v := .ref (q + 3)) (C := RX5) (T := TX5) (N := 15) hx hb hts hinX5 hown hK hP 0 rfl rfl 7 (by decide) hf16 (fun _ h9 => h9) rfl dX5_about_121 ?_
                          refine lv_bipush (v := 99) hx hb dX5_about_124 (by decide) ?_
                          refine lv_iload_n hx hb dX5_about_126 rfl (lv_at hl 1 rfl) ?_
                          refine lv_iadd hx hb dX5_about_127 ?_
                          refine lv_bipush (v := 8) hx hb dX5_about_128 (by decide) ?_
                          refine lv_isub hx hb dX5_about_130 ?_
                          obtain ⟨hg39, h⟩ := gd_some h
                          refine g_iald (f := ((mA r18.2) 3)) (k := (((99 + p0) - 8)).toNatClampNeg) hx hb hK hP 3 0 rfl rfl hg39 rfl dX5_about_131 ?_
                          have h := Option.some.inj h
                          subst h
                          exact W.iret (v := (((mA r18.2) 3) (((99 + p0) - 8)).toNatClampNeg)) hx hb hr (fun t ht hW => ⟨⟨_, (), rfl, rfl, gh ht hP⟩, hS.F ht⟩) hS.2.2 dX5_about_132
                        · replace h := (if_neg c38).symm.trans h
                          refine lv_aload_n hx hb dX5_about_107 rfl (lv_at hl 0 rfl) ?_
                          refine va_get (D := D) (ci := 5) (v := .ref (q + 3)) (C := RX5) (T := TX5) (N := 15) hx hb hts hinX5 hown hK hP 0 rfl rfl 7 (by decide) hf16 (fun _ h9 => h9) rfl dX5_about_108 ?_
                          refine lv_iload_n hx hb dX5_about_111 rfl (lv_at hl 1 rfl) ?_
                          refine lv_iconst (v := 2) hx hb dX5_about_112 (by decide) ?_
                          refine lv_isub hx hb dX5_about_113 ?_
                          obtain ⟨r114, hr114, h⟩ := bd_some h
                          refine gc_si (As := [.ref (q + 3), .int (p0 - 2)]) (rest := []) ⟨hx, hb, hml, hown, hts⟩ hK (kX5_count l D cI cC cZ cQ cJ q 3 r18.2 (p0 - 2) (Or.inr (Or.inl rfl)) hr114) (va_cwS 2 hts gX5_about_X5_count rfl rfl rfl (by decide +kernel) ⟨Nat.le_of_ble_eq_true rfl, Nat.le_of_ble_eq_true rfl⟩)  hP rfl hl.1 rfl (Nat.le_of_ble_eq_true rfl) ⟨Nat.zero_le _, Nat.zero_le _⟩ dX5_about_114 ?_
                          refine lv_goto (tgt := 132) hx hb dX5_about_117 (by decide) ?_
                          have h := Option.some.inj h
                          subst h
                          exact W.iret (v := r114) hx hb hr (fun t ht hW => ⟨⟨_, (), rfl, rfl, gh ht hP⟩, hS.F ht⟩) hS.2.2 dX5_about_132
    · replace h := (if_neg c21).symm.trans h
      refine lv_iconst (v := 0) hx hb dX5_about_24 (by decide) ?_
      have h := Option.some.inj h
      subst h
      exact W.iret (v := 0) hx hb hr (fun t ht hW => ⟨⟨_, (), rfl, rfl, gh ht hP⟩, hS.F ht⟩) hS.2.2 dX5_about_25
set_option maxHeartbeats 4000000 in
set_option maxRecDepth 100000 in
theorem kX5_detail (l : Launch) (D : va_G) (cI cC cZ cQ cJ : ClassId) (q : Nat) (j : Nat) (M : MSt) (p0 : Int32) (p1 : Int32) (hj : gRow j) {R : Int32} (h : fX5_detail j M p0 p1 = some R) : Met l yX5_detail wsX5_detail ({ frames := 0, cells := 0, slots := 0, locals := 0 } : Room) (va_Pc [.ref (q + j), .int p0, .int p1] (gB D (gTy cI cC cZ cQ cJ) (va_P D vwCl (MW cI cZ q M)))) (vp_Si (fun r => r = R)) 0 0 (fun _ => False) := by
  refine Met.ofW (cc := cX5_detail) (maxL := 3) (ret := (some .int)) (by decide) rfl ?_
  intro p e s m args below meth c s₁ B hml hv
  obtain ⟨rfl, hP, hK⟩ := hv
  have hx := B.exec
  have hb := B.bytes
  have hr := B.returns
  have hts := atoms_spec (ws := wsX5_detail) B.pre
  have hown : s.vm.findClass RX5 = some m.cls := findClass_of_methodNamed B.named
  have hlocks := B.notSynchronized
  generalize hRM : (headSpec wsX5_detail ({ frames := 0, cells := 0, slots := 0, locals := 0 } : Room)).room = RM
  replace hRM : ({ frames := 0, cells := 0, slots := 0, locals := 0 } : Room) = RM := hRM
  subst hRM
  have hl := lv_entry ([.ref (q + j), .int p0, .int p1]) (n := 3) (Nat.le_of_ble_eq_true rfl)
  rw [lg_entry_eq]
  generalize (lg_sl ([.ref (q + j), .int p0, .int p1]) ++ List.replicate (3 - (lg_sl ([.ref (q + j), .int p0, .int p1])).length) Slot.unset).toArray = ls at hl ⊢
  have hl : lv_has ls 3 [(0, .ref (q + j)), (1, .int p0), (2, .int p1)] := hl
  unfold fX5_detail at h
  refine lv_iload_n hx hb dX5_detail_0 rfl (lv_at hl 2 rfl) ?_
  by_cases c1 : p1 = 6
  · replace h := (if_pos c1).symm.trans h
    refine lv_lookup (off := 27) (tgt := 28) hx hb dX5_detail_1 (by decide) (by rw [c1]; rfl) (by decide) ?_
    refine lv_aload_n hx hb dX5_detail_28 rfl (lv_at hl 0 rfl) ?_
    refine lv_bipush (v := 60) hx hb dX5_detail_29 (by decide) ?_
    refine lv_iload_n hx hb dX5_detail_31 rfl (lv_at hl 1 rfl) ?_
    refine lv_iadd hx hb dX5_detail_32 ?_
    obtain ⟨hg2, h⟩ := gd_some h
    refine g_iald (f := ((mA M) j)) (k := ((60 + p0)).toNatClampNeg) hx hb hK hP j 0 (MW_at hj) rfl hg2 rfl dX5_detail_33 ?_
    refine lv_if_ne (tgt := 46) hx hb dX5_detail_34 (by decide) (fun c3 => ?_) (fun c3 => ?_)
    · replace h := (if_neg c3).symm.trans h
      refine lv_bipush (v := (-9)) hx hb dX5_detail_46 (by decide) ?_
      have h := Option.some.inj h
      exact W.iret (v := (-9)) hx hb hr (fun t ht hW => ⟨_, rfl, h, ht⟩) t_nil dX5_detail_48
    · replace h := (if_pos c3).symm.trans h
      refine lv_aload_n hx hb dX5_detail_37 rfl (lv_at hl 0 rfl) ?_
      refine lv_bipush (v := 72) hx hb dX5_detail_38 (by decide) ?_
      refine lv_iload_n hx hb dX5_detail_40 rfl (lv_at hl 1 rfl) ?_
      refine lv_iadd hx hb dX5_detail_41 ?_
      obtain ⟨hg4, h⟩ := gd_some h
      refine g_iald (f := ((mA M) j)) (k := ((72 + p0)).toNatClampNeg) hx hb hK hP j 0 (MW_at hj) rfl hg4 rfl dX5_detail_42 ?_
      refine lv_goto (tgt := 48) hx hb dX5_detail_43 (by decide) ?_
      have h := Option.some.inj h
      exact W.iret (v := (((mA M) j) ((72 + p0)).toNatClampNeg)) hx hb hr (fun t ht hW => ⟨_, rfl, h, ht⟩) t_nil dX5_detail_48
  · replace h := (if_neg c1).symm.trans h
    by_cases c5 : p1 = 7
    · replace h := (if_pos c5).symm.trans h
      refine lv_lookup (off := 48) (tgt := 49) hx hb dX5_detail_1 (by decide) (by rw [c5]; rfl) (by decide) ?_
      refine lv_aload_n hx hb dX5_detail_49 rfl (lv_at hl 0 rfl) ?_
      refine lv_bipush (v := 60) hx hb dX5_detail_50 (by decide) ?_
      refine lv_iload_n hx hb dX5_detail_52 rfl (lv_at hl 1 rfl) ?_
      refine lv_iadd hx hb dX5_detail_53 ?_
      obtain ⟨hg6, h⟩ := gd_some h
      refine g_iald (f := ((mA M) j)) (k := ((60 + p0)).toNatClampNeg) hx hb hK hP j 0 (MW_at hj) rfl hg6 rfl dX5_detail_54 ?_
      refine lv_iconst (v := 2) hx hb dX5_detail_55 (by decide) ?_
      refine lv_icmp_ne (tgt := 68) hx hb dX5_detail_56 (by decide) (fun c7 => ?_) (fun c7 => ?_)
      · replace h := (if_neg c7).symm.trans h
        refine lv_bipush (v := (-9)) hx hb dX5_detail_68 (by decide) ?_
        have h := Option.some.inj h
        exact W.iret (v := (-9)) hx hb hr (fun t ht hW => ⟨_, rfl, h, ht⟩) t_nil dX5_detail_70
      · replace h := (if_pos c7).symm.trans h
        refine lv_aload_n hx hb dX5_detail_59 rfl (lv_at hl 0 rfl) ?_
        refine lv_bipush (v := 84) hx hb dX5_detail_60 (by decide) ?_
        refine lv_iload_n hx hb dX5_detail_62 rfl (lv_at hl 1 rfl) ?_
        refine lv_iadd hx hb dX5_detail_63 ?_
        obtain ⟨hg8, h⟩ := gd_some h
        refine g_iald (f := ((mA M) j)) (k := ((84 + p0)).toNatClampNeg) hx hb hK hP j 0 (MW_at hj) rfl hg8 rfl dX5_detail_64 ?_
        refine lv_goto (tgt := 70) hx hb dX5_detail_65 (by decide) ?_
        have h := Option.some.inj h
        exact W.iret (v := (((mA M) j) ((84 + p0)).toNatClampNeg)) hx hb hr (fun t ht hW => ⟨_, rfl, h, ht⟩) t_nil dX5_detail_70
    · replace h := (if_neg c5).symm.trans h
      refine lv_lookup (off := 70) (tgt := 71) hx hb dX5_detail_1 (by decide) (by show Op.lookupswitch.offset [(6, 27), (7, 48)] 70 (p1).toInt = 70; rw [lv_osw c1 (by decide), lv_osw c5 (by decide)]; rfl) (by decide) ?_
      refine lv_aload_n hx hb dX5_detail_71 rfl (lv_at hl 0 rfl) ?_
      refine lv_bipush (v := 12) hx hb dX5_detail_72 (by decide) ?_
      refine lv_iload_n hx hb dX5_detail_74 rfl (lv_at hl 2 rfl) ?_
      refine lv_imul hx hb dX5_detail_75 ?_
      refine lv_iload_n hx hb dX5_detail_76 rfl (lv_at hl 1 rfl) ?_
      refine lv_iadd hx hb dX5_detail_77 ?_
      obtain ⟨hg9, h⟩ := gd_some h
      refine g_iald (f := ((mA M) j)) (k := (((12 * p1) + p0)).toNatClampNeg) hx hb hK hP j 0 (MW_at hj) rfl hg9 rfl dX5_detail_78 ?_
      have h := Option.some.inj h
      exact W.iret (v := (((mA M) j) (((12 * p1) + p0)).toNatClampNeg)) hx hb hr (fun t ht hW => ⟨_, rfl, h, ht⟩) t_nil dX5_detail_79
set_option maxHeartbeats 4000000 in
set_option maxRecDepth 100000 in
theorem kX5_grip (l : Launch) (D : va_G) (cI cC cZ cQ cJ : ClassId) (q : Nat) (M : MSt) (p0 : Int32) (p1 : Int32) {R : Int32 × MSt} (h : fX5_grip M p0 p1 = some R) : Met l yX5_grip wsX5_grip ({ frames := 2, cells := 0, slots := 0, locals := 46 } : Room) (va_Pc [.ref q, .int p0, .int p1] (gB D (gTy cI cC cZ cQ cJ) (va_P D vwCl (MW cI cZ q M)))) (va_Qi (fun r (_ : Unit) => r = R.1) (fun _ t => va_P D vwCl (MW cI cZ q R.2) t.heap) (fIv q 10)) 0 0 (fIv q 10) := by
  refine Met.ofW (cc := cX5_grip) (maxL := 3) (ret := (some .int)) (by decide) rfl ?_
  intro p e s m args below meth c s₁ B hml hv
  obtain ⟨rfl, hP, hK⟩ := hv
  have hx := B.exec
  have hb := B.bytes
  have hr := B.returns
  have hts := atoms_spec (ws := wsX5_grip) B.pre
  have hown : s.vm.findClass RX5 = some m.cls := findClass_of_methodNamed B.named
  have hlocks := B.notSynchronized
  have hinX5 : ∀ w ∈ wsX50, w ∈ wsX5_grip := by decide +kernel
  have hf16 := hts (.fieldLink RX5 16 "GripInspectorModel" "now" "[I") (by decide +kernel)
  generalize hRM : (headSpec wsX5_grip ({ frames := 2, cells := 0, slots := 0, locals := 46 } : Room)).room = RM
  replace hRM : ({ frames := 2, cells := 0, slots := 0, locals := 46 } : Room) = RM := hRM
  subst hRM
  have hl := lv_entry ([.ref q, .int p0, .int p1]) (n := 3) (Nat.le_of_ble_eq_true rfl)
  rw [lg_entry_eq]
  generalize (lg_sl ([.ref q, .int p0, .int p1]) ++ List.replicate (3 - (lg_sl ([.ref q, .int p0, .int p1])).length) Slot.unset).toArray = ls at hl ⊢
  have hl : lv_has ls 3 [(0, .ref q), (1, .int p0), (2, .int p1)] := hl
  have hS : va_S (fIv q 10) s.heap s.heap [] := va_S.rf
  unfold fX5_grip at h
  obtain ⟨H, hH⟩ : ∃ H, H = s.heap := ⟨_, rfl⟩
  obtain ⟨locs, hlz⟩ : ∃ z : List Loc, z = [] := ⟨_, rfl⟩
  have hP : va_P D vwCl (MW cI cZ q M) H := by rw [hH]; exact hP
  have hS : va_S (fIv q 10) s.heap H locs := by rw [hH, hlz]; exact hS
  refine gc_at hH hlz ?_
  refine lv_aload_n hx hb dX5_grip_0 rfl (lv_at hl 0 rfl) ?_
  refine lv_aload_n hx hb dX5_grip_1 rfl (lv_at hl 0 rfl) ?_
  refine lv_iload_n hx hb dX5_grip_2 rfl (lv_at hl 1 rfl) ?_
  obtain ⟨r3, hr3, h⟩ := bd_some h
  refine gc_ri (As := [.int p0]) (rest := [.ref q]) ⟨hx, hb, hml, hown, hts⟩ hK (kX5_isGrip l D cI cC cZ cQ cJ q M p0 hr3) (cwV 1 hts gX5_grip_X5_isGrip rfl rfl rfl (by decide +kernel) ⟨Nat.le_of_ble_eq_true rfl, Nat.le_of_ble_eq_true rfl⟩) (va_recv hK hP (ci := 5) (q0 := 0) rfl rfl) hP rfl hl.1 rfl (Nat.le_of_ble_eq_true rfl) ⟨Nat.zero_le _, Nat.zero_le _⟩ dX5_grip_3 ?_
  refine lv_if_ne (tgt := 13) hx hb dX5_grip_6 (by decide) (fun c1 => ?_) (fun c1 => ?_)
  · replace h := (if_neg c1).symm.trans h
    refine lv_iload_n hx hb dX5_grip_13 rfl (lv_at hl 2 rfl) ?_
    refine lv_i2l hx hb dX5_grip_14 rfl ?_
    refine lv_lconst (v := 0) hx hb dX5_grip_15 (by decide) ?_
    refine lv_ldc2 (v := 7) hx hb hown (hts (.constantLong RX5 141 (7)) (by decide +kernel)) dX5_grip_16 ?_
    obtain ⟨r19, hr19, h⟩ := bd_some h
    refine gc_si (As := [.long ((p1).toInt64), .long 0, .long 7]) (rest := [.ref q]) ⟨hx, hb, hml, hown, hts⟩ hK (kX5_in l D cI cC cZ cQ cJ ((p1).toInt64) 0 7 hr19) (va_cwS 3 hts gX5_grip_X5_in rfl rfl rfl (by decide +kernel) ⟨Nat.le_of_ble_eq_true rfl, Nat.le_of_ble_eq_true rfl⟩)  trivial rfl hl.1 rfl (Nat.le_of_ble_eq_true rfl) ⟨Nat.zero_le _, Nat.zero_le _⟩ dX5_grip_19 ?_
    refine lv_if_ne (tgt := 29) hx hb dX5_grip_22 (by decide) (fun c2 => ?_) (fun c2 => ?_)
    · replace h := (if_neg c2).symm.trans h
      refine lv_iconst (v := 0) hx hb dX5_grip_29 (by decide) ?_
      obtain ⟨r30, hr30, h⟩ := bd_some h
      refine gc_wi (As := [.int 0]) (rest := []) ⟨hx, hb, hml, hown, hts⟩ hK (kX5_refused l D cI cC cZ cQ cJ q M 0 hr30) (cwV 1 hts gX5_grip_X5_refused rfl rfl rfl (by decide +kernel) ⟨Nat.le_of_ble_eq_true rfl, Nat.le_of_ble_eq_true rfl⟩) (va_recv hK hP (ci := 5) (q0 := 0) rfl rfl) hP hS (fun _ h => h) rfl hl.1 rfl (Nat.le_of_ble_eq_true rfl) ⟨Nat.zero_le _, Nat.zero_le _⟩ dX5_grip_30 (fun H locs hP hS _ _ => ?_)
      refine lv_if_eq (tgt := 38) hx hb dX5_grip_33 (by decide) (fun c3 => ?_) (fun c3 => ?_)
      · replace h := (if_pos c3).symm.trans h
        refine lv_aload_n hx hb dX5_grip_38 rfl (lv_at hl 0 rfl) ?_
        refine va_get (D := D) (ci := 5) (v := .ref (q + 3)) (C := RX5) (T := TX5) (N := 15) hx hb hts hinX5 hown hK hP 0 rfl rfl 7 (by decide) hf16 (fun _ h9 => h9) rfl dX5_grip_39 ?_
        refine lv_iload_n hx hb dX5_grip_42 rfl (lv_at hl 1 rfl) ?_
        refine lv_iload_n hx hb dX5_grip_43 rfl (lv_at hl 2 rfl) ?_
        obtain ⟨r44, hr44, h⟩ := bd_some h
        refine gc_si (As := [.ref (q + 3), .int p0, .int p1]) (rest := []) ⟨hx, hb, hml, hown, hts⟩ hK (kX5_detail l D cI cC cZ cQ cJ q 3 r30.2 p0 p1 (Or.inr (Or.inl rfl)) hr44) (va_cwS 3 hts gX5_grip_X5_detail rfl rfl rfl (by decide +kernel) ⟨Nat.le_of_ble_eq_true rfl, Nat.le_of_ble_eq_true rfl⟩)  hP rfl hl.1 rfl (Nat.le_of_ble_eq_true rfl) ⟨Nat.zero_le _, Nat.zero_le _⟩ dX5_grip_44 ?_
        have h := Option.some.inj h
        subst h
        exact W.iret (v := r44) hx hb hr (fun t ht hW => ⟨⟨_, (), rfl, rfl, gh ht hP⟩, hS.F ht⟩) hS.2.2 dX5_grip_47
      · replace h := (if_neg c3).symm.trans h
        refine lv_iconst (v := 0) hx hb dX5_grip_36 (by decide) ?_
        have h := Option.some.inj h
        subst h
        exact W.iret (v := 0) hx hb hr (fun t ht hW => ⟨⟨_, (), rfl, rfl, gh ht hP⟩, hS.F ht⟩) hS.2.2 dX5_grip_37
    · replace h := (if_pos c2).symm.trans h
      refine lv_iconst (v := 2) hx hb dX5_grip_25 (by decide) ?_
      refine lv_goto (tgt := 30) hx hb dX5_grip_26 (by decide) ?_
      obtain ⟨r30, hr30, h⟩ := bd_some h
      refine gc_wi (As := [.int 2]) (rest := []) ⟨hx, hb, hml, hown, hts⟩ hK (kX5_refused l D cI cC cZ cQ cJ q M 2 hr30) (cwV 1 hts gX5_grip_X5_refused rfl rfl rfl (by decide +kernel) ⟨Nat.le_of_ble_eq_true rfl, Nat.le_of_ble_eq_true rfl⟩) (va_recv hK hP (ci := 5) (q0 := 0) rfl rfl) hP hS (fun _ h => h) rfl hl.1 rfl (Nat.le_of_ble_eq_true rfl) ⟨Nat.zero_le _, Nat.zero_le _⟩ dX5_grip_30 (fun H locs hP hS _ _ => ?_)
      refine lv_if_eq (tgt := 38) hx hb dX5_grip_33 (by decide) (fun c4 => ?_) (fun c4 => ?_)
      · replace h := (if_pos c4).symm.trans h
        refine lv_aload_n hx hb dX5_grip_38 rfl (lv_at hl 0 rfl) ?_
        refine va_get (D := D) (ci := 5) (v := .ref (q + 3)) (C := RX5) (T := TX5) (N := 15) hx hb hts hinX5 hown hK hP 0 rfl rfl 7 (by decide) hf16 (fun _ h9 => h9) rfl dX5_grip_39 ?_
        refine lv_iload_n hx hb dX5_grip_42 rfl (lv_at hl 1 rfl) ?_
        refine lv_iload_n hx hb dX5_grip_43 rfl (lv_at hl 2 rfl) ?_
        obtain ⟨r44, hr44, h⟩ := bd_some h
        refine gc_si (As := [.ref (q + 3), .int p0, .int p1]) (rest := []) ⟨hx, hb, hml, hown, hts⟩ hK (kX5_detail l D cI cC cZ cQ cJ q 3 r30.2 p0 p1 (Or.inr (Or.inl rfl)) hr44) (va_cwS 3 hts gX5_grip_X5_detail rfl rfl rfl (by decide +kernel) ⟨Nat.le_of_ble_eq_true rfl, Nat.le_of_ble_eq_true rfl⟩)  hP rfl hl.1 rfl (Nat.le_of_ble_eq_true rfl) ⟨Nat.zero_le _, Nat.zero_le _⟩ dX5_grip_44 ?_
        have h := Option.some.inj h
        subst h
        exact W.iret (v := r44) hx hb hr (fun t ht hW => ⟨⟨_, (), rfl, rfl, gh ht hP⟩, hS.F ht⟩) hS.2.2 dX5_grip_47
      · replace h := (if_neg c4).symm.trans h
        refine lv_iconst (v := 0) hx hb dX5_grip_36 (by decide) ?_
        have h := Option.some.inj h
        subst h
        exact W.iret (v := 0) hx hb hr (fun t ht hW => ⟨⟨_, (), rfl, rfl, gh ht hP⟩, hS.F ht⟩) hS.2.2 dX5_grip_37
  · replace h := (if_pos c1).symm.trans h
    refine lv_iconst (v := 1) hx hb dX5_grip_9 (by decide) ?_
    refine lv_goto (tgt := 30) hx hb dX5_grip_10 (by decide) ?_
    obtain ⟨r30, hr30, h⟩ := bd_some h
    refine gc_wi (As := [.int 1]) (rest := []) ⟨hx, hb, hml, hown, hts⟩ hK (kX5_refused l D cI cC cZ cQ cJ q M 1 hr30) (cwV 1 hts gX5_grip_X5_refused rfl rfl rfl (by decide +kernel) ⟨Nat.le_of_ble_eq_true rfl, Nat.le_of_ble_eq_true rfl⟩) (va_recv hK hP (ci := 5) (q0 := 0) rfl rfl) hP hS (fun _ h => h) rfl hl.1 rfl (Nat.le_of_ble_eq_true rfl) ⟨Nat.zero_le _, Nat.zero_le _⟩ dX5_grip_30 (fun H locs hP hS _ _ => ?_)
    refine lv_if_eq (tgt := 38) hx hb dX5_grip_33 (by decide) (fun c5 => ?_) (fun c5 => ?_)
    · replace h := (if_pos c5).symm.trans h
      refine lv_aload_n hx hb dX5_grip_38 rfl (lv_at hl 0 rfl) ?_
      refine va_get (D := D) (ci := 5) (v := .ref (q + 3)) (C := RX5) (T := TX5) (N := 15) hx hb hts hinX5 hown hK hP 0 rfl rfl 7 (by decide) hf16 (fun _ h9 => h9) rfl dX5_grip_39 ?_
      refine lv_iload_n hx hb dX5_grip_42 rfl (lv_at hl 1 rfl) ?_
      refine lv_iload_n hx hb dX5_grip_43 rfl (lv_at hl 2 rfl) ?_
      obtain ⟨r44, hr44, h⟩ := bd_some h
      refine gc_si (As := [.ref (q + 3), .int p0, .int p1]) (rest := []) ⟨hx, hb, hml, hown, hts⟩ hK (kX5_detail l D cI cC cZ cQ cJ q 3 r30.2 p0 p1 (Or.inr (Or.inl rfl)) hr44) (va_cwS 3 hts gX5_grip_X5_detail rfl rfl rfl (by decide +kernel) ⟨Nat.le_of_ble_eq_true rfl, Nat.le_of_ble_eq_true rfl⟩)  hP rfl hl.1 rfl (Nat.le_of_ble_eq_true rfl) ⟨Nat.zero_le _, Nat.zero_le _⟩ dX5_grip_44 ?_
      have h := Option.some.inj h
      subst h
      exact W.iret (v := r44) hx hb hr (fun t ht hW => ⟨⟨_, (), rfl, rfl, gh ht hP⟩, hS.F ht⟩) hS.2.2 dX5_grip_47
    · replace h := (if_neg c5).symm.trans h
      refine lv_iconst (v := 0) hx hb dX5_grip_36 (by decide) ?_
      have h := Option.some.inj h
      subst h
      exact W.iret (v := 0) hx hb hr (fun t ht hW => ⟨⟨_, (), rfl, rfl, gh ht hP⟩, hS.F ht⟩) hS.2.2 dX5_grip_37
set_option maxHeartbeats 4000000 in
set_option maxRecDepth 100000 in
theorem kX5_slot (l : Launch) (D : va_G) (cI cC cZ cQ cJ : ClassId) (q : Nat) (M : MSt) (p0 : Int32) {R : Int32 × MSt} (h : fX5_slot M p0 = some R) : Met l yX5_slot wsX5_slot ({ frames := 2, cells := 0, slots := 0, locals := 46 } : Room) (va_Pc [.ref q, .int p0] (gB D (gTy cI cC cZ cQ cJ) (va_P D vwCl (MW cI cZ q M)))) (va_Qi (fun r (_ : Unit) => r = R.1) (fun _ t => va_P D vwCl (MW cI cZ q R.2) t.heap) (fIv q 10)) 0 0 (fIv q 10) := by
  refine Met.ofW (cc := cX5_slot) (maxL := 2) (ret := (some .int)) (by decide) rfl ?_
  intro p e s m args below meth c s₁ B hml hv
  obtain ⟨rfl, hP, hK⟩ := hv
  have hx := B.exec
  have hb := B.bytes
  have hr := B.returns
  have hts := atoms_spec (ws := wsX5_slot) B.pre
  have hown : s.vm.findClass RX5 = some m.cls := findClass_of_methodNamed B.named
  have hlocks := B.notSynchronized
  have hinX5 : ∀ w ∈ wsX50, w ∈ wsX5_slot := by decide +kernel
  have hf16 := hts (.fieldLink RX5 16 "GripInspectorModel" "now" "[I") (by decide +kernel)
  generalize hRM : (headSpec wsX5_slot ({ frames := 2, cells := 0, slots := 0, locals := 46 } : Room)).room = RM
  replace hRM : ({ frames := 2, cells := 0, slots := 0, locals := 46 } : Room) = RM := hRM
  subst hRM
  have hl := lv_entry ([.ref q, .int p0]) (n := 2) (Nat.le_of_ble_eq_true rfl)
  rw [lg_entry_eq]
  generalize (lg_sl ([.ref q, .int p0]) ++ List.replicate (2 - (lg_sl ([.ref q, .int p0])).length) Slot.unset).toArray = ls at hl ⊢
  have hl : lv_has ls 2 [(0, .ref q), (1, .int p0)] := hl
  have hS : va_S (fIv q 10) s.heap s.heap [] := va_S.rf
  unfold fX5_slot at h
  obtain ⟨H, hH⟩ : ∃ H, H = s.heap := ⟨_, rfl⟩
  obtain ⟨locs, hlz⟩ : ∃ z : List Loc, z = [] := ⟨_, rfl⟩
  have hP : va_P D vwCl (MW cI cZ q M) H := by rw [hH]; exact hP
  have hS : va_S (fIv q 10) s.heap H locs := by rw [hH, hlz]; exact hS
  refine gc_at hH hlz ?_
  refine lv_aload_n hx hb dX5_slot_0 rfl (lv_at hl 0 rfl) ?_
  refine lv_aload_n hx hb dX5_slot_1 rfl (lv_at hl 0 rfl) ?_
  refine lv_iload_n hx hb dX5_slot_2 rfl (lv_at hl 1 rfl) ?_
  obtain ⟨r3, hr3, h⟩ := bd_some h
  refine gc_ri (As := [.int p0]) (rest := [.ref q]) ⟨hx, hb, hml, hown, hts⟩ hK (kX5_isSlot l D cI cC cZ cQ cJ q M p0 hr3) (cwV 1 hts gX5_slot_X5_isSlot rfl rfl rfl (by decide +kernel) ⟨Nat.le_of_ble_eq_true rfl, Nat.le_of_ble_eq_true rfl⟩) (va_recv hK hP (ci := 5) (q0 := 0) rfl rfl) hP rfl hl.1 rfl (Nat.le_of_ble_eq_true rfl) ⟨Nat.zero_le _, Nat.zero_le _⟩ dX5_slot_3 ?_
  refine lv_if_eq (tgt := 13) hx hb dX5_slot_6 (by decide) (fun c1 => ?_) (fun c1 => ?_)
  · replace h := (if_pos c1).symm.trans h
    refine lv_iconst (v := 1) hx hb dX5_slot_13 (by decide) ?_
    obtain ⟨r14, hr14, h⟩ := bd_some h
    refine gc_wi (As := [.int 1]) (rest := []) ⟨hx, hb, hml, hown, hts⟩ hK (kX5_refused l D cI cC cZ cQ cJ q M 1 hr14) (cwV 1 hts gX5_slot_X5_refused rfl rfl rfl (by decide +kernel) ⟨Nat.le_of_ble_eq_true rfl, Nat.le_of_ble_eq_true rfl⟩) (va_recv hK hP (ci := 5) (q0 := 0) rfl rfl) hP hS (fun _ h => h) rfl hl.1 rfl (Nat.le_of_ble_eq_true rfl) ⟨Nat.zero_le _, Nat.zero_le _⟩ dX5_slot_14 (fun H locs hP hS _ _ => ?_)
    refine lv_if_eq (tgt := 22) hx hb dX5_slot_17 (by decide) (fun c2 => ?_) (fun c2 => ?_)
    · replace h := (if_pos c2).symm.trans h
      refine lv_aload_n hx hb dX5_slot_22 rfl (lv_at hl 0 rfl) ?_
      refine va_get (D := D) (ci := 5) (v := .ref (q + 3)) (C := RX5) (T := TX5) (N := 15) hx hb hts hinX5 hown hK hP 0 rfl rfl 7 (by decide) hf16 (fun _ h9 => h9) rfl dX5_slot_23 ?_
      refine lv_iload_n hx hb dX5_slot_26 rfl (lv_at hl 1 rfl) ?_
      obtain ⟨r27, hr27, h⟩ := bd_some h
      refine gc_si (As := [.ref (q + 3), .int p0]) (rest := []) ⟨hx, hb, hml, hown, hts⟩ hK (kX5_gripAt l D cI cC cZ cQ cJ q 3 r14.2 p0 (Or.inr (Or.inl rfl)) hr27) (va_cwS 2 hts gX5_slot_X5_gripAt rfl rfl rfl (by decide +kernel) ⟨Nat.le_of_ble_eq_true rfl, Nat.le_of_ble_eq_true rfl⟩)  hP rfl hl.1 rfl (Nat.le_of_ble_eq_true rfl) ⟨Nat.zero_le _, Nat.zero_le _⟩ dX5_slot_27 ?_
      have h := Option.some.inj h
      subst h
      exact W.iret (v := r27) hx hb hr (fun t ht hW => ⟨⟨_, (), rfl, rfl, gh ht hP⟩, hS.F ht⟩) hS.2.2 dX5_slot_30
    · replace h := (if_neg c2).symm.trans h
      refine lv_iconst (v := 0) hx hb dX5_slot_20 (by decide) ?_
      have h := Option.some.inj h
      subst h
      exact W.iret (v := 0) hx hb hr (fun t ht hW => ⟨⟨_, (), rfl, rfl, gh ht hP⟩, hS.F ht⟩) hS.2.2 dX5_slot_21
  · replace h := (if_neg c1).symm.trans h
    refine lv_iconst (v := 0) hx hb dX5_slot_9 (by decide) ?_
    refine lv_goto (tgt := 14) hx hb dX5_slot_10 (by decide) ?_
    obtain ⟨r14, hr14, h⟩ := bd_some h
    refine gc_wi (As := [.int 0]) (rest := []) ⟨hx, hb, hml, hown, hts⟩ hK (kX5_refused l D cI cC cZ cQ cJ q M 0 hr14) (cwV 1 hts gX5_slot_X5_refused rfl rfl rfl (by decide +kernel) ⟨Nat.le_of_ble_eq_true rfl, Nat.le_of_ble_eq_true rfl⟩) (va_recv hK hP (ci := 5) (q0 := 0) rfl rfl) hP hS (fun _ h => h) rfl hl.1 rfl (Nat.le_of_ble_eq_true rfl) ⟨Nat.zero_le _, Nat.zero_le _⟩ dX5_slot_14 (fun H locs hP hS _ _ => ?_)
    refine lv_if_eq (tgt := 22) hx hb dX5_slot_17 (by decide) (fun c3 => ?_) (fun c3 => ?_)
    · replace h := (if_pos c3).symm.trans h
      refine lv_aload_n hx hb dX5_slot_22 rfl (lv_at hl 0 rfl) ?_
      refine va_get (D := D) (ci := 5) (v := .ref (q + 3)) (C := RX5) (T := TX5) (N := 15) hx hb hts hinX5 hown hK hP 0 rfl rfl 7 (by decide) hf16 (fun _ h9 => h9) rfl dX5_slot_23 ?_
      refine lv_iload_n hx hb dX5_slot_26 rfl (lv_at hl 1 rfl) ?_
      obtain ⟨r27, hr27, h⟩ := bd_some h
      refine gc_si (As := [.ref (q + 3), .int p0]) (rest := []) ⟨hx, hb, hml, hown, hts⟩ hK (kX5_gripAt l D cI cC cZ cQ cJ q 3 r14.2 p0 (Or.inr (Or.inl rfl)) hr27) (va_cwS 2 hts gX5_slot_X5_gripAt rfl rfl rfl (by decide +kernel) ⟨Nat.le_of_ble_eq_true rfl, Nat.le_of_ble_eq_true rfl⟩)  hP rfl hl.1 rfl (Nat.le_of_ble_eq_true rfl) ⟨Nat.zero_le _, Nat.zero_le _⟩ dX5_slot_27 ?_
      have h := Option.some.inj h
      subst h
      exact W.iret (v := r27) hx hb hr (fun t ht hW => ⟨⟨_, (), rfl, rfl, gh ht hP⟩, hS.F ht⟩) hS.2.2 dX5_slot_30
    · replace h := (if_neg c3).symm.trans h
      refine lv_iconst (v := 0) hx hb dX5_slot_20 (by decide) ?_
      have h := Option.some.inj h
      subst h
      exact W.iret (v := 0) hx hb hr (fun t ht hW => ⟨⟨_, (), rfl, rfl, gh ht hP⟩, hS.F ht⟩) hS.2.2 dX5_slot_21
set_option maxHeartbeats 4000000 in
set_option maxRecDepth 100000 in
theorem kX5_random (l : Launch) (D : va_G) (cI cC cZ cQ cJ : ClassId) (q : Nat) (M : MSt) {R : Int64 × MSt} (h : fX5_random M = some R) : Met l yX5_random wsX5_random ({ frames := 1, cells := 0, slots := 0, locals := 20 } : Room) (va_Pc [.ref q] (gB D (gTy cI cC cZ cQ cJ) (va_P D vwCl (MW cI cZ q M)))) (va_Ql (fun r (_ : Unit) => r = R.1) (fun _ t => va_P D vwCl (MW cI cZ q R.2) t.heap) (fIv q 10)) 0 0 (fIv q 10) := by
  refine Met.ofW (cc := cX5_random) (maxL := 1) (ret := (some .long)) (by decide) rfl ?_
  intro p e s m args below meth c s₁ B hml hv
  obtain ⟨rfl, hP, hK⟩ := hv
  have hx := B.exec
  have hb := B.bytes
  have hr := B.returns
  have hts := atoms_spec (ws := wsX5_random) B.pre
  have hown : s.vm.findClass RX5 = some m.cls := findClass_of_methodNamed B.named
  have hlocks := B.notSynchronized
  have hinX5 : ∀ w ∈ wsX50, w ∈ wsX5_random := by decide +kernel
  have hf42 := hts (.fieldLink RX5 42 "GripInspectorModel" "refusal" "I") (by decide +kernel)
  have hf16 := hts (.fieldLink RX5 16 "GripInspectorModel" "now" "[I") (by decide +kernel)
  generalize hRM : (headSpec wsX5_random ({ frames := 1, cells := 0, slots := 0, locals := 20 } : Room)).room = RM
  replace hRM : ({ frames := 1, cells := 0, slots := 0, locals := 20 } : Room) = RM := hRM
  subst hRM
  have hl := lv_entry ([.ref q]) (n := 1) (Nat.le_of_ble_eq_true rfl)
  rw [lg_entry_eq]
  generalize (lg_sl ([.ref q]) ++ List.replicate (1 - (lg_sl ([.ref q])).length) Slot.unset).toArray = ls at hl ⊢
  have hl : lv_has ls 1 [(0, .ref q)] := hl
  have hS : va_S (fIv q 10) s.heap s.heap [] := va_S.rf
  unfold fX5_random at h
  obtain ⟨H, hH⟩ : ∃ H, H = s.heap := ⟨_, rfl⟩
  obtain ⟨locs, hlz⟩ : ∃ z : List Loc, z = [] := ⟨_, rfl⟩
  have hP : va_P D vwCl (MW cI cZ q M) H := by rw [hH]; exact hP
  have hS : va_S (fIv q 10) s.heap H locs := by rw [hH, hlz]; exact hS
  refine gc_at hH hlz ?_
  refine lv_aload_n hx hb dX5_random_0 rfl (lv_at hl 0 rfl) ?_
  refine lv_iconst (v := 0) hx hb dX5_random_1 (by decide) ?_
  refine va_put (D := D) (ci := 5) (v := .int 0) (ty := .int) (C := RX5) (T := TX5) (N := 15) hx hb hts hinX5 tyX5 tyX5_ok nmX5 hown hK hP MW_self hS 0 rfl rfl 0 (by decide) hf42 (fun _ h9 => h9) rfl (by decide +kernel) rfl rfl (Nat.le_of_ble_eq_true rfl) dX5_random_2 (fun H locs hP _ hS => ?_)
  have hP : va_P D vwCl (MW cI cZ q ((mA M), 0, (mSize M), (mSpot M), (mRN M), (mN M), (mActs M))) H := hP
  refine lv_aload_n hx hb dX5_random_5 rfl (lv_at hl 0 rfl) ?_
  refine va_get (D := D) (ci := 5) (v := .ref (q + 3)) (C := RX5) (T := TX5) (N := 15) hx hb hts hinX5 hown hK hP 0 rfl rfl 7 (by decide) hf16 (fun _ h9 => h9) rfl dX5_random_6 ?_
  obtain ⟨r9, hr9, h⟩ := bd_some h
  refine gc_sl (As := [.ref (q + 3)]) (rest := []) ⟨hx, hb, hml, hown, hts⟩ hK (kX5_randomOf l D cI cC cZ cQ cJ q 3 ((mA M), 0, (mSize M), (mSpot M), (mRN M), (mN M), (mActs M)) (Or.inr (Or.inl rfl)) hr9) (va_cwS 1 hts gX5_random_X5_randomOf rfl rfl rfl (by decide +kernel) ⟨Nat.le_of_ble_eq_true rfl, Nat.le_of_ble_eq_true rfl⟩)  hP rfl hl.1 rfl (Nat.le_of_ble_eq_true rfl) ⟨Nat.zero_le _, Nat.zero_le _⟩ dX5_random_9 ?_
  have h := Option.some.inj h
  subst h
  exact W.lret (v := r9) hx hb hr (fun t ht hW => ⟨⟨_, (), rfl, rfl, gh ht hP⟩, hS.F ht⟩) hS.2.2 dX5_random_12
set_option maxHeartbeats 4000000 in
set_option maxRecDepth 100000 in
theorem kX5_layReport (l : Launch) (D : va_G) (cI cC cZ cQ cJ : ClassId) (q : Nat) (M : MSt) {R : Int32 × MSt} (h : fX5_layReport M = some R) : Met l yX5_layReport wsX5_layReport ({ frames := 0, cells := 0, slots := 0, locals := 0 } : Room) (va_Pc [.ref q] (gB D (gTy cI cC cZ cQ cJ) (va_P D vwCl (MW cI cZ q M)))) (va_Qi (fun r (_ : Unit) => r = R.1) (fun _ t => va_P D vwCl (MW cI cZ q R.2) t.heap) (fIv q 10)) 0 0 (fIv q 10) := by
  refine Met.ofW (cc := cX5_layReport) (maxL := 5) (ret := (some .int)) (by decide) rfl ?_
  intro p e s m args below meth c s₁ B hml hv
  obtain ⟨rfl, hP, hK⟩ := hv
  have hx := B.exec
  have hb := B.bytes
  have hr := B.returns
  have hts := atoms_spec (ws := wsX5_layReport) B.pre
  have hown : s.vm.findClass RX5 = some m.cls := findClass_of_methodNamed B.named
  have hlocks := B.notSynchronized
  have hinX5 : ∀ w ∈ wsX50, w ∈ wsX5_layReport := by decide +kernel
  have hf16 := hts (.fieldLink RX5 16 "GripInspectorModel" "now" "[I") (by decide +kernel)
  have hf35 := hts (.fieldLink RX5 35 "GripInspectorModel" "report" "[I") (by decide +kernel)
  generalize hRM : (headSpec wsX5_layReport ({ frames := 0, cells := 0, slots := 0, locals := 0 } : Room)).room = RM
  replace hRM : ({ frames := 0, cells := 0, slots := 0, locals := 0 } : Room) = RM := hRM
  subst hRM
  have hl := lv_entry ([.ref q]) (n := 5) (Nat.le_of_ble_eq_true rfl)
  rw [lg_entry_eq]
  generalize (lg_sl ([.ref q]) ++ List.replicate (5 - (lg_sl ([.ref q])).length) Slot.unset).toArray = ls at hl ⊢
  have hl : lv_has ls 5 [(0, .ref q)] := hl
  have hS : va_S (fIv q 10) s.heap s.heap [] := va_S.rf
  have LP4 : ∀ (n : Nat) (S : MSt) (x1 : Int32) (x2 : Int32) (H : Heap) (locs : List Loc) (ls : Array Slot), fX5_layReport_L4 n S x1 x2 = some R → va_P D vwCl (MW cI cZ q S) H → va_S (fIv q 10) s.heap H locs → lv_has ls 5 [(0, .ref q), (1, .int x1), (2, .int x2)] → W p l e ({ frames := 0, cells := 0, slots := 0, locals := 0 } : Room) s m ([.ref q] : List Value).toArray below meth c H locs 0 0 (MQ below (va_Qi (fun r (_ : Unit) => r = R.1) (fun _ t => va_P D vwCl (MW cI cZ q R.2) t.heap) (fIv q 10)) ([.ref q] : List Value).toArray s 0 0 (fIv q 10)) (F0 m 4 ls []) := by
    intro n
    induction n with
    | zero => intro S x1 x2 H locs ls h hP hS hl; exact no_some h
    | succ n ih =>
      intro S x1 x2 H locs ls h hP hS hl
      rw [fX5_layReport_L4] at h
      refine lv_iload_n hx hb dX5_layReport_4 rfl (lv_at hl 2 rfl) ?_
      refine lv_aload_n hx hb dX5_layReport_5 rfl (lv_at hl 0 rfl) ?_
      refine va_get (D := D) (ci := 5) (v := .ref (q + 3)) (C := RX5) (T := TX5) (N := 15) hx hb hts hinX5 hown hK hP 0 rfl rfl 7 (by decide) hf16 (fun _ h9 => h9) rfl dX5_layReport_6 ?_
      refine lv_bipush (v := 96) hx hb dX5_layReport_9 (by decide) ?_
      refine g_iald (f := ((mA S) 3)) (k := 96) hx hb hK hP 3 0 rfl rfl (vin_lit rfl) rfl dX5_layReport_11 ?_
      refine lv_icmp_ge (tgt := 181) hx hb dX5_layReport_12 (by decide) (fun c1 => ?_) (fun c1 => ?_)
      · replace h := (if_pos c1).symm.trans h
        refine lv_iload_n hx hb dX5_layReport_181 rfl (lv_at hl 1 rfl) ?_
        have h := Option.some.inj h
        subst h
        exact W.iret (v := x1) hx hb hr (fun t ht hW => ⟨⟨_, (), rfl, rfl, gh ht hP⟩, hS.F ht⟩) hS.2.2 dX5_layReport_182
      · replace h := (if_neg c1).symm.trans h
        refine lv_iload_n hx hb dX5_layReport_15 rfl (lv_at hl 2 rfl) ?_
        refine lv_if_le (tgt := 30) hx hb dX5_layReport_16 (by decide) (fun c2 => ?_) (fun c2 => ?_)
        · replace h := (if_pos c2).symm.trans h
          refine lv_aload_n hx hb dX5_layReport_30 rfl (lv_at hl 0 rfl) ?_
          refine va_get (D := D) (ci := 5) (v := .ref (q + 9)) (C := RX5) (T := TX5) (N := 15) hx hb hts hinX5 hown hK hP 0 rfl rfl 14 (by decide) hf35 (fun _ h9 => h9) rfl dX5_layReport_31 ?_
          refine lv_iload_n hx hb dX5_layReport_34 rfl (lv_at hl 1 rfl) ?_
          refine lv_bipush (v := 97) hx hb dX5_layReport_35 (by decide) ?_
          refine lv_iload_n hx hb dX5_layReport_37 rfl (lv_at hl 2 rfl) ?_
          refine lv_iadd hx hb dX5_layReport_38 ?_
          obtain ⟨hg3, h⟩ := gd_some h
          refine g_iast (f := ((mA S) 9)) (k := x1.toNatClampNeg) hx hb hK hP MW_self hS 9 0 rfl rfl hg3 rfl dX5_layReport_39 (fun H locs hP hS => ?_)
          obtain ⟨a4, ha4, h⟩ := lt_some h
          have hP : va_P D vwCl (MW cI cZ q (a4, (mRef S), (mSize S), (mSpot S), (mRN S), (mN S), (mActs S))) H := by have h9 := hP; rw [MW_s9] at h9; rw [ha4]; exact h9
          refine lv_aload_n hx hb dX5_layReport_40 rfl (lv_at hl 0 rfl) ?_
          refine va_get (D := D) (ci := 5) (v := .ref (q + 3)) (C := RX5) (T := TX5) (N := 15) hx hb hts hinX5 hown hK hP 0 rfl rfl 7 (by decide) hf16 (fun _ h9 => h9) rfl dX5_layReport_41 ?_
          refine lv_bipush (v := 60) hx hb dX5_layReport_44 (by decide) ?_
          refine lv_iload_n hx hb dX5_layReport_46 rfl (lv_at hl 2 rfl) ?_
          refine lv_iadd hx hb dX5_layReport_47 ?_
          obtain ⟨hg5, h⟩ := gd_some h
          refine g_iald (f := (a4 3)) (k := ((60 + x2)).toNatClampNeg) hx hb hK hP 3 0 rfl rfl hg5 rfl dX5_layReport_48 ?_
          refine lv_istore_n (lv' := [(3, .int ((a4 3) ((60 + x2)).toNatClampNeg)), (0, .ref q), (1, .int x1), (2, .int x2)]) hx hb dX5_layReport_49 rfl hl (by decide) rfl (fun ls hl => ?_)
          refine lv_aload_n hx hb dX5_layReport_50 rfl (lv_at hl 1 rfl) ?_
          refine va_get (D := D) (ci := 5) (v := .ref (q + 9)) (C := RX5) (T := TX5) (N := 15) hx hb hts hinX5 hown hK hP 0 rfl rfl 14 (by decide) hf35 (fun _ h9 => h9) rfl dX5_layReport_51 ?_
          refine lv_iload_n hx hb dX5_layReport_54 rfl (lv_at hl 2 rfl) ?_
          refine lv_iconst (v := 1) hx hb dX5_layReport_55 (by decide) ?_
          refine lv_iadd hx hb dX5_layReport_56 ?_
          refine lv_iload_n hx hb dX5_layReport_57 rfl (lv_at hl 0 rfl) ?_
          refine lv_if_ne (tgt := 66) hx hb dX5_layReport_58 (by decide) (fun c6 => ?_) (fun c6 => ?_)
          · replace h := (if_neg c6).symm.trans h
            refine lv_iload_n hx hb dX5_layReport_66 rfl (lv_at hl 0 rfl) ?_
            refine lv_iconst (v := 1) hx hb dX5_layReport_67 (by decide) ?_
            refine lv_icmp_ne (tgt := 76) hx hb dX5_layReport_68 (by decide) (fun c7 => ?_) (fun c7 => ?_)
            · replace h := (if_neg c7).symm.trans h
              refine lv_iload_n hx hb dX5_layReport_76 rfl (lv_at hl 0 rfl) ?_
              refine lv_iconst (v := 2) hx hb dX5_layReport_77 (by decide) ?_
              refine lv_icmp_ne (tgt := 86) hx hb dX5_layReport_78 (by decide) (fun c8 => ?_) (fun c8 => ?_)
              · replace h := (if_neg c8).symm.trans h
                refine lv_bipush (v := 120) hx hb dX5_layReport_86 (by decide) ?_
                obtain ⟨hg9, h⟩ := gd_some h
                refine g_iast (f := (a4 9)) (k := ((x1 + 1)).toNatClampNeg) hx hb hK hP MW_self hS 9 0 rfl rfl hg9 rfl dX5_layReport_88 (fun H locs hP hS => ?_)
                obtain ⟨a10, ha10, h⟩ := lt_some h
                have hP : va_P D vwCl (MW cI cZ q (a10, (mRef S), (mSize S), (mSpot S), (mRN S), (mN S), (mActs S))) H := by have h9 := hP; rw [MW_s9] at h9; rw [ha10]; exact h9
                refine lv_iinc (v := (x1 + 2)) (lv' := [(1, .int (x1 + 2)), (3, .int ((a4 3) ((60 + x2)).toNatClampNeg)), (0, .ref q), (2, .int x2)]) hx hb dX5_layReport_89 hl (k := 2) rfl rfl (by decide) rfl (fun ls hl => ?_)
                refine lv_iload_n hx hb dX5_layReport_92 rfl (lv_at hl 1 rfl) ?_
                refine lv_if_ne (tgt := 108) hx hb dX5_layReport_93 (by decide) (fun _ => ?_) (fun c => absurd c c6)
                refine lv_iload_n hx hb dX5_layReport_108 rfl (lv_at hl 1 rfl) ?_
                refine lv_iconst (v := 2) hx hb dX5_layReport_109 (by decide) ?_
                refine lv_icmp_ne (tgt := 125) hx hb dX5_layReport_110 (by decide) (fun _ => ?_) (fun c => absurd c c8)
                refine lv_bipush (v := (-9)) hx hb dX5_layReport_125 (by decide) ?_
                refine lv_istore (lv' := [(4, .int (-9)), (1, .int (x1 + 2)), (3, .int ((a4 3) ((60 + x2)).toNatClampNeg)), (0, .ref q), (2, .int x2)]) hx hb dX5_layReport_127 hl (by decide) rfl (fun ls hl => ?_)
                refine lv_iload hx hb dX5_layReport_129 (lv_at hl 0 rfl) ?_
                refine lv_bipush (v := 9) hx hb dX5_layReport_131 (by decide) ?_
                refine lv_icmp_le (tgt := 153) hx hb dX5_layReport_133 (by decide) (fun _ => ?_) (fun c => absurd c (by decide))
                refine lv_iload hx hb dX5_layReport_153 (lv_at hl 0 rfl) ?_
                refine lv_if_lt (tgt := 175) hx hb dX5_layReport_155 (by decide) (fun _ => ?_) (fun c => absurd c (by decide))
                refine lv_iinc (v := (x2 + 1)) (lv' := [(2, .int (x2 + 1)), (4, .int (-9)), (1, .int (x1 + 2)), (3, .int ((a4 3) ((60 + x2)).toNatClampNeg)), (0, .ref q)]) hx hb dX5_layReport_175 hl (k := 4) rfl rfl (by decide) rfl (fun ls hl => ?_)
                refine lv_goto (tgt := 4) hx hb dX5_layReport_178 (by decide) ?_
                exact ih (a10, (mRef S), (mSize S), (mSpot S), (mRN S), (mN S), (mActs S)) (x1 + 2) (x2 + 1) H locs ls h hP hS (lv_sub hl [4, 2, 0] rfl)
              · replace h := (if_pos c8).symm.trans h
                refine lv_bipush (v := 119) hx hb dX5_layReport_81 (by decide) ?_
                refine lv_goto (tgt := 88) hx hb dX5_layReport_83 (by decide) ?_
                obtain ⟨hg11, h⟩ := gd_some h
                refine g_iast (f := (a4 9)) (k := ((x1 + 1)).toNatClampNeg) hx hb hK hP MW_self hS 9 0 rfl rfl hg11 rfl dX5_layReport_88 (fun H locs hP hS => ?_)
                obtain ⟨a12, ha12, h⟩ := lt_some h
                have hP : va_P D vwCl (MW cI cZ q (a12, (mRef S), (mSize S), (mSpot S), (mRN S), (mN S), (mActs S))) H := by have h9 := hP; rw [MW_s9] at h9; rw [ha12]; exact h9
                refine lv_iinc (v := (x1 + 2)) (lv' := [(1, .int (x1 + 2)), (3, .int ((a4 3) ((60 + x2)).toNatClampNeg)), (0, .ref q), (2, .int x2)]) hx hb dX5_layReport_89 hl (k := 2) rfl rfl (by decide) rfl (fun ls hl => ?_)
                refine lv_iload_n hx hb dX5_layReport_92 rfl (lv_at hl 1 rfl) ?_
                refine lv_if_ne (tgt := 108) hx hb dX5_layReport_93 (by decide) (fun _ => ?_) (fun c => absurd c c6)
                refine lv_iload_n hx hb dX5_layReport_108 rfl (lv_at hl 1 rfl) ?_
                refine lv_iconst (v := 2) hx hb dX5_layReport_109 (by decide) ?_
                refine lv_icmp_ne (tgt := 125) hx hb dX5_layReport_110 (by decide) (fun c => absurd c8 c) (fun _ => ?_)
                refine lv_aload_n hx hb dX5_layReport_113 rfl (lv_at hl 2 rfl) ?_
                refine va_get (D := D) (ci := 5) (v := .ref (q + 3)) (C := RX5) (T := TX5) (N := 15) hx hb hts hinX5 hown hK hP 0 rfl rfl 7 (by decide) hf16 (fun _ h9 => h9) rfl dX5_layReport_114 ?_
                refine lv_bipush (v := 84) hx hb dX5_layReport_117 (by decide) ?_
                refine lv_iload_n hx hb dX5_layReport_119 rfl (lv_at hl 3 rfl) ?_
                refine lv_iadd hx hb dX5_layReport_120 ?_
                obtain ⟨hg13, h⟩ := gd_some h
                refine g_iald (f := (a12 3)) (k := ((84 + x2)).toNatClampNeg) hx hb hK hP 3 0 rfl rfl hg13 rfl dX5_layReport_121 ?_
                refine lv_goto (tgt := 127) hx hb dX5_layReport_122 (by decide) ?_
                refine lv_istore (lv' := [(4, .int ((a12 3) ((84 + x2)).toNatClampNeg)), (1, .int (x1 + 2)), (3, .int ((a4 3) ((60 + x2)).toNatClampNeg)), (0, .ref q), (2, .int x2)]) hx hb dX5_layReport_127 hl (by decide) rfl (fun ls hl => ?_)
                refine lv_iload hx hb dX5_layReport_129 (lv_at hl 0 rfl) ?_
                refine lv_bipush (v := 9) hx hb dX5_layReport_131 (by decide) ?_
                refine lv_icmp_le (tgt := 153) hx hb dX5_layReport_133 (by decide) (fun c14 => ?_) (fun c14 => ?_)
                · replace h := (if_pos c14).symm.trans h
                  refine lv_iload hx hb dX5_layReport_153 (lv_at hl 0 rfl) ?_
                  refine lv_if_lt (tgt := 175) hx hb dX5_layReport_155 (by decide) (fun c15 => ?_) (fun c15 => ?_)
                  · replace h := (if_pos c15).symm.trans h
                    refine lv_iinc (v := (x2 + 1)) (lv' := [(2, .int (x2 + 1)), (4, .int ((a12 3) ((84 + x2)).toNatClampNeg)), (1, .int (x1 + 2)), (3, .int ((a4 3) ((60 + x2)).toNatClampNeg)), (0, .ref q)]) hx hb dX5_layReport_175 hl (k := 4) rfl rfl (by decide) rfl (fun ls hl => ?_)
                    refine lv_goto (tgt := 4) hx hb dX5_layReport_178 (by decide) ?_
                    exact ih (a12, (mRef S), (mSize S), (mSpot S), (mRN S), (mN S), (mActs S)) (x1 + 2) (x2 + 1) H locs ls h hP hS (lv_sub hl [4, 2, 0] rfl)
                  · replace h := (if_neg c15).symm.trans h
                    refine lv_aload_n hx hb dX5_layReport_158 rfl (lv_at hl 3 rfl) ?_
                    refine va_get (D := D) (ci := 5) (v := .ref (q + 9)) (C := RX5) (T := TX5) (N := 15) hx hb hts hinX5 hown hK hP 0 rfl rfl 14 (by decide) hf35 (fun _ h9 => h9) rfl dX5_layReport_159 ?_
                    refine lv_iload_n hx hb dX5_layReport_162 rfl (lv_at hl 1 rfl) ?_
                    refine lv_bipush (v := 48) hx hb dX5_layReport_163 (by decide) ?_
                    refine lv_iload hx hb dX5_layReport_165 (lv_at hl 0 rfl) ?_
                    refine lv_bipush (v := 10) hx hb dX5_layReport_167 (by decide) ?_
                    refine lv_irem hx hb dX5_layReport_169 (by decide) ?_
                    refine lv_iadd hx hb dX5_layReport_170 ?_
                    obtain ⟨hg16, h⟩ := gd_some h
                    refine g_iast (f := (a12 9)) (k := ((x1 + 2)).toNatClampNeg) hx hb hK hP MW_self hS 9 0 rfl rfl hg16 rfl dX5_layReport_171 (fun H locs hP hS => ?_)
                    obtain ⟨a17, ha17, h⟩ := lt_some h
                    have hP : va_P D vwCl (MW cI cZ q (a17, (mRef S), (mSize S), (mSpot S), (mRN S), (mN S), (mActs S))) H := by have h9 := hP; rw [MW_s9] at h9; rw [ha17]; exact h9
                    refine lv_iinc (v := ((x1 + 2) + 1)) (lv' := [(1, .int ((x1 + 2) + 1)), (4, .int ((a12 3) ((84 + x2)).toNatClampNeg)), (3, .int ((a4 3) ((60 + x2)).toNatClampNeg)), (0, .ref q), (2, .int x2)]) hx hb dX5_layReport_172 hl (k := 1) rfl rfl (by decide) rfl (fun ls hl => ?_)
                    refine lv_iinc (v := (x2 + 1)) (lv' := [(2, .int (x2 + 1)), (1, .int ((x1 + 2) + 1)), (4, .int ((a12 3) ((84 + x2)).toNatClampNeg)), (3, .int ((a4 3) ((60 + x2)).toNatClampNeg)), (0, .ref q)]) hx hb dX5_layReport_175 hl (k := 4) rfl rfl (by decide) rfl (fun ls hl => ?_)
                    refine lv_goto (tgt := 4) hx hb dX5_layReport_178 (by decide) ?_
                    exact ih (a17, (mRef S), (mSize S), (mSpot S), (mRN S), (mN S), (mActs S)) ((x1 + 2) + 1) (x2 + 1) H locs ls h hP hS (lv_sub hl [4, 1, 0] rfl)
                · replace h := (if_neg c14).symm.trans h
                  refine lv_aload_n hx hb dX5_layReport_136 rfl (lv_at hl 3 rfl) ?_
                  refine va_get (D := D) (ci := 5) (v := .ref (q + 9)) (C := RX5) (T := TX5) (N := 15) hx hb hts hinX5 hown hK hP 0 rfl rfl 14 (by decide) hf35 (fun _ h9 => h9) rfl dX5_layReport_137 ?_
                  refine lv_iload_n hx hb dX5_layReport_140 rfl (lv_at hl 1 rfl) ?_
                  refine lv_bipush (v := 48) hx hb dX5_layReport_141 (by decide) ?_
                  refine lv_iload hx hb dX5_layReport_143 (lv_at hl 0 rfl) ?_
                  refine lv_bipush (v := 10) hx hb dX5_layReport_145 (by decide) ?_
                  refine lv_idiv hx hb dX5_layReport_147 (by decide) ?_
                  refine lv_iadd hx hb dX5_layReport_148 ?_
                  obtain ⟨hg18, h⟩ := gd_some h
                  refine g_iast (f := (a12 9)) (k := ((x1 + 2)).toNatClampNeg) hx hb hK hP MW_self hS 9 0 rfl rfl hg18 rfl dX5_layReport_149 (fun H locs hP hS => ?_)
                  obtain ⟨a19, ha19, h⟩ := lt_some h
                  have hP : va_P D vwCl (MW cI cZ q (a19, (mRef S), (mSize S), (mSpot S), (mRN S), (mN S), (mActs S))) H := by have h9 := hP; rw [MW_s9] at h9; rw [ha19]; exact h9
                  refine lv_iinc (v := ((x1 + 2) + 1)) (lv' := [(1, .int ((x1 + 2) + 1)), (4, .int ((a12 3) ((84 + x2)).toNatClampNeg)), (3, .int ((a4 3) ((60 + x2)).toNatClampNeg)), (0, .ref q), (2, .int x2)]) hx hb dX5_layReport_150 hl (k := 1) rfl rfl (by decide) rfl (fun ls hl => ?_)
                  refine lv_iload hx hb dX5_layReport_153 (lv_at hl 1 rfl) ?_
                  refine lv_if_lt (tgt := 175) hx hb dX5_layReport_155 (by decide) (fun c20 => ?_) (fun c20 => ?_)
                  · replace h := (if_pos c20).symm.trans h
                    refine lv_iinc (v := (x2 + 1)) (lv' := [(2, .int (x2 + 1)), (1, .int ((x1 + 2) + 1)), (4, .int ((a12 3) ((84 + x2)).toNatClampNeg)), (3, .int ((a4 3) ((60 + x2)).toNatClampNeg)), (0, .ref q)]) hx hb dX5_layReport_175 hl (k := 4) rfl rfl (by decide) rfl (fun ls hl => ?_)
                    refine lv_goto (tgt := 4) hx hb dX5_layReport_178 (by decide) ?_
                    exact ih (a19, (mRef S), (mSize S), (mSpot S), (mRN S), (mN S), (mActs S)) ((x1 + 2) + 1) (x2 + 1) H locs ls h hP hS (lv_sub hl [4, 1, 0] rfl)
                  · replace h := (if_neg c20).symm.trans h
                    refine lv_aload_n hx hb dX5_layReport_158 rfl (lv_at hl 3 rfl) ?_
                    refine va_get (D := D) (ci := 5) (v := .ref (q + 9)) (C := RX5) (T := TX5) (N := 15) hx hb hts hinX5 hown hK hP 0 rfl rfl 14 (by decide) hf35 (fun _ h9 => h9) rfl dX5_layReport_159 ?_
                    refine lv_iload_n hx hb dX5_layReport_162 rfl (lv_at hl 0 rfl) ?_
                    refine lv_bipush (v := 48) hx hb dX5_layReport_163 (by decide) ?_
                    refine lv_iload hx hb dX5_layReport_165 (lv_at hl 1 rfl) ?_
                    refine lv_bipush (v := 10) hx hb dX5_layReport_167 (by decide) ?_
                    refine lv_irem hx hb dX5_layReport_169 (by decide) ?_
                    refine lv_iadd hx hb dX5_layReport_170 ?_
                    obtain ⟨hg21, h⟩ := gd_some h
                    refine g_iast (f := (a19 9)) (k := (((x1 + 2) + 1)).toNatClampNeg) hx hb hK hP MW_self hS 9 0 rfl rfl hg21 rfl dX5_layReport_171 (fun H locs hP hS => ?_)
                    obtain ⟨a22, ha22, h⟩ := lt_some h
                    have hP : va_P D vwCl (MW cI cZ q (a22, (mRef S), (mSize S), (mSpot S), (mRN S), (mN S), (mActs S))) H := by have h9 := hP; rw [MW_s9] at h9; rw [ha22]; exact h9
                    refine lv_iinc (v := (((x1 + 2) + 1) + 1)) (lv' := [(1, .int (((x1 + 2) + 1) + 1)), (4, .int ((a12 3) ((84 + x2)).toNatClampNeg)), (3, .int ((a4 3) ((60 + x2)).toNatClampNeg)), (0, .ref q), (2, .int x2)]) hx hb dX5_layReport_172 hl (k := 0) rfl rfl (by decide) rfl (fun ls hl => ?_)
                    refine lv_iinc (v := (x2 + 1)) (lv' := [(2, .int (x2 + 1)), (1, .int (((x1 + 2) + 1) + 1)), (4, .int ((a12 3) ((84 + x2)).toNatClampNeg)), (3, .int ((a4 3) ((60 + x2)).toNatClampNeg)), (0, .ref q)]) hx hb dX5_layReport_175 hl (k := 4) rfl rfl (by decide) rfl (fun ls hl => ?_)
                    refine lv_goto (tgt := 4) hx hb dX5_layReport_178 (by decide) ?_
                    exact ih (a22, (mRef S), (mSize S), (mSpot S), (mRN S), (mN S), (mActs S)) (((x1 + 2) + 1) + 1) (x2 + 1) H locs ls h hP hS (lv_sub hl [4, 1, 0] rfl)
            · replace h := (if_pos c7).symm.trans h
              refine lv_bipush (v := 103) hx hb dX5_layReport_71 (by decide) ?_
              refine lv_goto (tgt := 88) hx hb dX5_layReport_73 (by decide) ?_
              obtain ⟨hg23, h⟩ := gd_some h
              refine g_iast (f := (a4 9)) (k := ((x1 + 1)).toNatClampNeg) hx hb hK hP MW_self hS 9 0 rfl rfl hg23 rfl dX5_layReport_88 (fun H locs hP hS => ?_)
              obtain ⟨a24, ha24, h⟩ := lt_some h
              have hP : va_P D vwCl (MW cI cZ q (a24, (mRef S), (mSize S), (mSpot S), (mRN S), (mN S), (mActs S))) H := by have h9 := hP; rw [MW_s9] at h9; rw [ha24]; exact h9
              refine lv_iinc (v := (x1 + 2)) (lv' := [(1, .int (x1 + 2)), (3, .int ((a4 3) ((60 + x2)).toNatClampNeg)), (0, .ref q), (2, .int x2)]) hx hb dX5_layReport_89 hl (k := 2) rfl rfl (by decide) rfl (fun ls hl => ?_)
              refine lv_iload_n hx hb dX5_layReport_92 rfl (lv_at hl 1 rfl) ?_
              refine lv_if_ne (tgt := 108) hx hb dX5_layReport_93 (by decide) (fun _ => ?_) (fun c => absurd c c6)
              refine lv_iload_n hx hb dX5_layReport_108 rfl (lv_at hl 1 rfl) ?_
              refine lv_iconst (v := 2) hx hb dX5_layReport_109 (by decide) ?_
              refine lv_icmp_ne (tgt := 125) hx hb dX5_layReport_110 (by decide) (fun c25 => ?_) (fun c25 => ?_)
              · replace h := (if_neg c25).symm.trans h
                refine lv_bipush (v := (-9)) hx hb dX5_layReport_125 (by decide) ?_
                refine lv_istore (lv' := [(4, .int (-9)), (1, .int (x1 + 2)), (3, .int ((a4 3) ((60 + x2)).toNatClampNeg)), (0, .ref q), (2, .int x2)]) hx hb dX5_layReport_127 hl (by decide) rfl (fun ls hl => ?_)
                refine lv_iload hx hb dX5_layReport_129 (lv_at hl 0 rfl) ?_
                refine lv_bipush (v := 9) hx hb dX5_layReport_131 (by decide) ?_
                refine lv_icmp_le (tgt := 153) hx hb dX5_layReport_133 (by decide) (fun _ => ?_) (fun c => absurd c (by decide))
                refine lv_iload hx hb dX5_layReport_153 (lv_at hl 0 rfl) ?_
                refine lv_if_lt (tgt := 175) hx hb dX5_layReport_155 (by decide) (fun _ => ?_) (fun c => absurd c (by decide))
                refine lv_iinc (v := (x2 + 1)) (lv' := [(2, .int (x2 + 1)), (4, .int (-9)), (1, .int (x1 + 2)), (3, .int ((a4 3) ((60 + x2)).toNatClampNeg)), (0, .ref q)]) hx hb dX5_layReport_175 hl (k := 4) rfl rfl (by decide) rfl (fun ls hl => ?_)
                refine lv_goto (tgt := 4) hx hb dX5_layReport_178 (by decide) ?_
                exact ih (a24, (mRef S), (mSize S), (mSpot S), (mRN S), (mN S), (mActs S)) (x1 + 2) (x2 + 1) H locs ls h hP hS (lv_sub hl [4, 2, 0] rfl)
              · replace h := (if_pos c25).symm.trans h
                refine lv_aload_n hx hb dX5_layReport_113 rfl (lv_at hl 2 rfl) ?_
                refine va_get (D := D) (ci := 5) (v := .ref (q + 3)) (C := RX5) (T := TX5) (N := 15) hx hb hts hinX5 hown hK hP 0 rfl rfl 7 (by decide) hf16 (fun _ h9 => h9) rfl dX5_layReport_114 ?_
                refine lv_bipush (v := 84) hx hb dX5_layReport_117 (by decide) ?_
                refine lv_iload_n hx hb dX5_layReport_119 rfl (lv_at hl 3 rfl) ?_
                refine lv_iadd hx hb dX5_layReport_120 ?_
                obtain ⟨hg26, h⟩ := gd_some h
                refine g_iald (f := (a24 3)) (k := ((84 + x2)).toNatClampNeg) hx hb hK hP 3 0 rfl rfl hg26 rfl dX5_layReport_121 ?_
                refine lv_goto (tgt := 127) hx hb dX5_layReport_122 (by decide) ?_
                refine lv_istore (lv' := [(4, .int ((a24 3) ((84 + x2)).toNatClampNeg)), (1, .int (x1 + 2)), (3, .int ((a4 3) ((60 + x2)).toNatClampNeg)), (0, .ref q), (2, .int x2)]) hx hb dX5_layReport_127 hl (by decide) rfl (fun ls hl => ?_)
                refine lv_iload hx hb dX5_layReport_129 (lv_at hl 0 rfl) ?_
                refine lv_bipush (v := 9) hx hb dX5_layReport_131 (by decide) ?_
                refine lv_icmp_le (tgt := 153) hx hb dX5_layReport_133 (by decide) (fun c27 => ?_) (fun c27 => ?_)
                · replace h := (if_pos c27).symm.trans h
                  refine lv_iload hx hb dX5_layReport_153 (lv_at hl 0 rfl) ?_
                  refine lv_if_lt (tgt := 175) hx hb dX5_layReport_155 (by decide) (fun c28 => ?_) (fun c28 => ?_)
                  · replace h := (if_pos c28).symm.trans h
                    refine lv_iinc (v := (x2 + 1)) (lv' := [(2, .int (x2 + 1)), (4, .int ((a24 3) ((84 + x2)).toNatClampNeg)), (1, .int (x1 + 2)), (3, .int ((a4 3) ((60 + x2)).toNatClampNeg)), (0, .ref q)]) hx hb dX5_layReport_175 hl (k := 4) rfl rfl (by decide) rfl (fun ls hl => ?_)
                    refine lv_goto (tgt := 4) hx hb dX5_layReport_178 (by decide) ?_
                    exact ih (a24, (mRef S), (mSize S), (mSpot S), (mRN S), (mN S), (mActs S)) (x1 + 2) (x2 + 1) H locs ls h hP hS (lv_sub hl [4, 2, 0] rfl)
                  · replace h := (if_neg c28).symm.trans h
                    refine lv_aload_n hx hb dX5_layReport_158 rfl (lv_at hl 3 rfl) ?_
                    refine va_get (D := D) (ci := 5) (v := .ref (q + 9)) (C := RX5) (T := TX5) (N := 15) hx hb hts hinX5 hown hK hP 0 rfl rfl 14 (by decide) hf35 (fun _ h9 => h9) rfl dX5_layReport_159 ?_
                    refine lv_iload_n hx hb dX5_layReport_162 rfl (lv_at hl 1 rfl) ?_
                    refine lv_bipush (v := 48) hx hb dX5_layReport_163 (by decide) ?_
                    refine lv_iload hx hb dX5_layReport_165 (lv_at hl 0 rfl) ?_
                    refine lv_bipush (v := 10) hx hb dX5_layReport_167 (by decide) ?_
                    refine lv_irem hx hb dX5_layReport_169 (by decide) ?_
                    refine lv_iadd hx hb dX5_layReport_170 ?_
                    obtain ⟨hg29, h⟩ := gd_some h
                    refine g_iast (f := (a24 9)) (k := ((x1 + 2)).toNatClampNeg) hx hb hK hP MW_self hS 9 0 rfl rfl hg29 rfl dX5_layReport_171 (fun H locs hP hS => ?_)
                    obtain ⟨a30, ha30, h⟩ := lt_some h
                    have hP : va_P D vwCl (MW cI cZ q (a30, (mRef S), (mSize S), (mSpot S), (mRN S), (mN S), (mActs S))) H := by have h9 := hP; rw [MW_s9] at h9; rw [ha30]; exact h9
                    refine lv_iinc (v := ((x1 + 2) + 1)) (lv' := [(1, .int ((x1 + 2) + 1)), (4, .int ((a24 3) ((84 + x2)).toNatClampNeg)), (3, .int ((a4 3) ((60 + x2)).toNatClampNeg)), (0, .ref q), (2, .int x2)]) hx hb dX5_layReport_172 hl (k := 1) rfl rfl (by decide) rfl (fun ls hl => ?_)
                    refine lv_iinc (v := (x2 + 1)) (lv' := [(2, .int (x2 + 1)), (1, .int ((x1 + 2) + 1)), (4, .int ((a24 3) ((84 + x2)).toNatClampNeg)), (3, .int ((a4 3) ((60 + x2)).toNatClampNeg)), (0, .ref q)]) hx hb dX5_layReport_175 hl (k := 4) rfl rfl (by decide) rfl (fun ls hl => ?_)
                    refine lv_goto (tgt := 4) hx hb dX5_layReport_178 (by decide) ?_
                    exact ih (a30, (mRef S), (mSize S), (mSpot S), (mRN S), (mN S), (mActs S)) ((x1 + 2) + 1) (x2 + 1) H locs ls h hP hS (lv_sub hl [4, 1, 0] rfl)
                · replace h := (if_neg c27).symm.trans h
                  refine lv_aload_n hx hb dX5_layReport_136 rfl (lv_at hl 3 rfl) ?_
                  refine va_get (D := D) (ci := 5) (v := .ref (q + 9)) (C := RX5) (T := TX5) (N := 15) hx hb hts hinX5 hown hK hP 0 rfl rfl 14 (by decide) hf35 (fun _ h9 => h9) rfl dX5_layReport_137 ?_
                  refine lv_iload_n hx hb dX5_layReport_140 rfl (lv_at hl 1 rfl) ?_
                  refine lv_bipush (v := 48) hx hb dX5_layReport_141 (by decide) ?_
                  refine lv_iload hx hb dX5_layReport_143 (lv_at hl 0 rfl) ?_
                  refine lv_bipush (v := 10) hx hb dX5_layReport_145 (by decide) ?_
                  refine lv_idiv hx hb dX5_layReport_147 (by decide) ?_
                  refine lv_iadd hx hb dX5_layReport_148 ?_
                  obtain ⟨hg31, h⟩ := gd_some h
                  refine g_iast (f := (a24 9)) (k := ((x1 + 2)).toNatClampNeg) hx hb hK hP MW_self hS 9 0 rfl rfl hg31 rfl dX5_layReport_149 (fun H locs hP hS => ?_)
                  obtain ⟨a32, ha32, h⟩ := lt_some h
                  have hP : va_P D vwCl (MW cI cZ q (a32, (mRef S), (mSize S), (mSpot S), (mRN S), (mN S), (mActs S))) H := by have h9 := hP; rw [MW_s9] at h9; rw [ha32]; exact h9
                  refine lv_iinc (v := ((x1 + 2) + 1)) (lv' := [(1, .int ((x1 + 2) + 1)), (4, .int ((a24 3) ((84 + x2)).toNatClampNeg)), (3, .int ((a4 3) ((60 + x2)).toNatClampNeg)), (0, .ref q), (2, .int x2)]) hx hb dX5_layReport_150 hl (k := 1) rfl rfl (by decide) rfl (fun ls hl => ?_)
                  refine lv_iload hx hb dX5_layReport_153 (lv_at hl 1 rfl) ?_
                  refine lv_if_lt (tgt := 175) hx hb dX5_layReport_155 (by decide) (fun c33 => ?_) (fun c33 => ?_)
                  · replace h := (if_pos c33).symm.trans h
                    refine lv_iinc (v := (x2 + 1)) (lv' := [(2, .int (x2 + 1)), (1, .int ((x1 + 2) + 1)), (4, .int ((a24 3) ((84 + x2)).toNatClampNeg)), (3, .int ((a4 3) ((60 + x2)).toNatClampNeg)), (0, .ref q)]) hx hb dX5_layReport_175 hl (k := 4) rfl rfl (by decide) rfl (fun ls hl => ?_)
                    refine lv_goto (tgt := 4) hx hb dX5_layReport_178 (by decide) ?_
                    exact ih (a32, (mRef S), (mSize S), (mSpot S), (mRN S), (mN S), (mActs S)) ((x1 + 2) + 1) (x2 + 1) H locs ls h hP hS (lv_sub hl [4, 1, 0] rfl)
                  · replace h := (if_neg c33).symm.trans h
                    refine lv_aload_n hx hb dX5_layReport_158 rfl (lv_at hl 3 rfl) ?_
                    refine va_get (D := D) (ci := 5) (v := .ref (q + 9)) (C := RX5) (T := TX5) (N := 15) hx hb hts hinX5 hown hK hP 0 rfl rfl 14 (by decide) hf35 (fun _ h9 => h9) rfl dX5_layReport_159 ?_
                    refine lv_iload_n hx hb dX5_layReport_162 rfl (lv_at hl 0 rfl) ?_
                    refine lv_bipush (v := 48) hx hb dX5_layReport_163 (by decide) ?_
                    refine lv_iload hx hb dX5_layReport_165 (lv_at hl 1 rfl) ?_
                    refine lv_bipush (v := 10) hx hb dX5_layReport_167 (by decide) ?_
                    refine lv_irem hx hb dX5_layReport_169 (by decide) ?_
                    refine lv_iadd hx hb dX5_layReport_170 ?_
                    obtain ⟨hg34, h⟩ := gd_some h
                    refine g_iast (f := (a32 9)) (k := (((x1 + 2) + 1)).toNatClampNeg) hx hb hK hP MW_self hS 9 0 rfl rfl hg34 rfl dX5_layReport_171 (fun H locs hP hS => ?_)
                    obtain ⟨a35, ha35, h⟩ := lt_some h
                    have hP : va_P D vwCl (MW cI cZ q (a35, (mRef S), (mSize S), (mSpot S), (mRN S), (mN S), (mActs S))) H := by have h9 := hP; rw [MW_s9] at h9; rw [ha35]; exact h9
                    refine lv_iinc (v := (((x1 + 2) + 1) + 1)) (lv' := [(1, .int (((x1 + 2) + 1) + 1)), (4, .int ((a24 3) ((84 + x2)).toNatClampNeg)), (3, .int ((a4 3) ((60 + x2)).toNatClampNeg)), (0, .ref q), (2, .int x2)]) hx hb dX5_layReport_172 hl (k := 0) rfl rfl (by decide) rfl (fun ls hl => ?_)
                    refine lv_iinc (v := (x2 + 1)) (lv' := [(2, .int (x2 + 1)), (1, .int (((x1 + 2) + 1) + 1)), (4, .int ((a24 3) ((84 + x2)).toNatClampNeg)), (3, .int ((a4 3) ((60 + x2)).toNatClampNeg)), (0, .ref q)]) hx hb dX5_layReport_175 hl (k := 4) rfl rfl (by decide) rfl (fun ls hl => ?_)
                    refine lv_goto (tgt := 4) hx hb dX5_layReport_178 (by decide) ?_
                    exact ih (a35, (mRef S), (mSize S), (mSpot S), (mRN S), (mN S), (mActs S)) (((x1 + 2) + 1) + 1) (x2 + 1) H locs ls h hP hS (lv_sub hl [4, 1, 0] rfl)
          · replace h := (if_pos c6).symm.trans h
            refine lv_bipush (v := 64) hx hb dX5_layReport_61 (by decide) ?_
            refine lv_goto (tgt := 88) hx hb dX5_layReport_63 (by decide) ?_
            obtain ⟨hg36, h⟩ := gd_some h
            refine g_iast (f := (a4 9)) (k := ((x1 + 1)).toNatClampNeg) hx hb hK hP MW_self hS 9 0 rfl rfl hg36 rfl dX5_layReport_88 (fun H locs hP hS => ?_)
            obtain ⟨a37, ha37, h⟩ := lt_some h
            have hP : va_P D vwCl (MW cI cZ q (a37, (mRef S), (mSize S), (mSpot S), (mRN S), (mN S), (mActs S))) H := by have h9 := hP; rw [MW_s9] at h9; rw [ha37]; exact h9
            refine lv_iinc (v := (x1 + 2)) (lv' := [(1, .int (x1 + 2)), (3, .int ((a4 3) ((60 + x2)).toNatClampNeg)), (0, .ref q), (2, .int x2)]) hx hb dX5_layReport_89 hl (k := 2) rfl rfl (by decide) rfl (fun ls hl => ?_)
            refine lv_iload_n hx hb dX5_layReport_92 rfl (lv_at hl 1 rfl) ?_
            refine lv_if_ne (tgt := 108) hx hb dX5_layReport_93 (by decide) (fun c => absurd c6 c) (fun _ => ?_)
            refine lv_aload_n hx hb dX5_layReport_96 rfl (lv_at hl 2 rfl) ?_
            refine va_get (D := D) (ci := 5) (v := .ref (q + 3)) (C := RX5) (T := TX5) (N := 15) hx hb hts hinX5 hown hK hP 0 rfl rfl 7 (by decide) hf16 (fun _ h9 => h9) rfl dX5_layReport_97 ?_
            refine lv_bipush (v := 72) hx hb dX5_layReport_100 (by decide) ?_
            refine lv_iload_n hx hb dX5_layReport_102 rfl (lv_at hl 3 rfl) ?_
            refine lv_iadd hx hb dX5_layReport_103 ?_
            obtain ⟨hg38, h⟩ := gd_some h
            refine g_iald (f := (a37 3)) (k := ((72 + x2)).toNatClampNeg) hx hb hK hP 3 0 rfl rfl hg38 rfl dX5_layReport_104 ?_
            refine lv_goto (tgt := 127) hx hb dX5_layReport_105 (by decide) ?_
            refine lv_istore (lv' := [(4, .int ((a37 3) ((72 + x2)).toNatClampNeg)), (1, .int (x1 + 2)), (3, .int ((a4 3) ((60 + x2)).toNatClampNeg)), (0, .ref q), (2, .int x2)]) hx hb dX5_layReport_127 hl (by decide) rfl (fun ls hl => ?_)
            refine lv_iload hx hb dX5_layReport_129 (lv_at hl 0 rfl) ?_
            refine lv_bipush (v := 9) hx hb dX5_layReport_131 (by decide) ?_
            refine lv_icmp_le (tgt := 153) hx hb dX5_layReport_133 (by decide) (fun c39 => ?_) (fun c39 => ?_)
            · replace h := (if_pos c39).symm.trans h
              refine lv_iload hx hb dX5_layReport_153 (lv_at hl 0 rfl) ?_
              refine lv_if_lt (tgt := 175) hx hb dX5_layReport_155 (by decide) (fun c40 => ?_) (fun c40 => ?_)
              · replace h := (if_pos c40).symm.trans h
                refine lv_iinc (v := (x2 + 1)) (lv' := [(2, .int (x2 + 1)), (4, .int ((a37 3) ((72 + x2)).toNatClampNeg)), (1, .int (x1 + 2)), (3, .int ((a4 3) ((60 + x2)).toNatClampNeg)), (0, .ref q)]) hx hb dX5_layReport_175 hl (k := 4) rfl rfl (by decide) rfl (fun ls hl => ?_)
                refine lv_goto (tgt := 4) hx hb dX5_layReport_178 (by decide) ?_
                exact ih (a37, (mRef S), (mSize S), (mSpot S), (mRN S), (mN S), (mActs S)) (x1 + 2) (x2 + 1) H locs ls h hP hS (lv_sub hl [4, 2, 0] rfl)
              · replace h := (if_neg c40).symm.trans h
                refine lv_aload_n hx hb dX5_layReport_158 rfl (lv_at hl 3 rfl) ?_
                refine va_get (D := D) (ci := 5) (v := .ref (q + 9)) (C := RX5) (T := TX5) (N := 15) hx hb hts hinX5 hown hK hP 0 rfl rfl 14 (by decide) hf35 (fun _ h9 => h9) rfl dX5_layReport_159 ?_
                refine lv_iload_n hx hb dX5_layReport_162 rfl (lv_at hl 1 rfl) ?_
                refine lv_bipush (v := 48) hx hb dX5_layReport_163 (by decide) ?_
                refine lv_iload hx hb dX5_layReport_165 (lv_at hl 0 rfl) ?_
                refine lv_bipush (v := 10) hx hb dX5_layReport_167 (by decide) ?_
                refine lv_irem hx hb dX5_layReport_169 (by decide) ?_
                refine lv_iadd hx hb dX5_layReport_170 ?_
                obtain ⟨hg41, h⟩ := gd_some h
                refine g_iast (f := (a37 9)) (k := ((x1 + 2)).toNatClampNeg) hx hb hK hP MW_self hS 9 0 rfl rfl hg41 rfl dX5_layReport_171 (fun H locs hP hS => ?_)
                obtain ⟨a42, ha42, h⟩ := lt_some h
                have hP : va_P D vwCl (MW cI cZ q (a42, (mRef S), (mSize S), (mSpot S), (mRN S), (mN S), (mActs S))) H := by have h9 := hP; rw [MW_s9] at h9; rw [ha42]; exact h9
                refine lv_iinc (v := ((x1 + 2) + 1)) (lv' := [(1, .int ((x1 + 2) + 1)), (4, .int ((a37 3) ((72 + x2)).toNatClampNeg)), (3, .int ((a4 3) ((60 + x2)).toNatClampNeg)), (0, .ref q), (2, .int x2)]) hx hb dX5_layReport_172 hl (k := 1) rfl rfl (by decide) rfl (fun ls hl => ?_)
                refine lv_iinc (v := (x2 + 1)) (lv' := [(2, .int (x2 + 1)), (1, .int ((x1 + 2) + 1)), (4, .int ((a37 3) ((72 + x2)).toNatClampNeg)), (3, .int ((a4 3) ((60 + x2)).toNatClampNeg)), (0, .ref q)]) hx hb dX5_layReport_175 hl (k := 4) rfl rfl (by decide) rfl (fun ls hl => ?_)
                refine lv_goto (tgt := 4) hx hb dX5_layReport_178 (by decide) ?_
                exact ih (a42, (mRef S), (mSize S), (mSpot S), (mRN S), (mN S), (mActs S)) ((x1 + 2) + 1) (x2 + 1) H locs ls h hP hS (lv_sub hl [4, 1, 0] rfl)
            · replace h := (if_neg c39).symm.trans h
              refine lv_aload_n hx hb dX5_layReport_136 rfl (lv_at hl 3 rfl) ?_
              refine va_get (D := D) (ci := 5) (v := .ref (q + 9)) (C := RX5) (T := TX5) (N := 15) hx hb hts hinX5 hown hK hP 0 rfl rfl 14 (by decide) hf35 (fun _ h9 => h9) rfl dX5_layReport_137 ?_
              refine lv_iload_n hx hb dX5_layReport_140 rfl (lv_at hl 1 rfl) ?_
              refine lv_bipush (v := 48) hx hb dX5_layReport_141 (by decide) ?_
              refine lv_iload hx hb dX5_layReport_143 (lv_at hl 0 rfl) ?_
              refine lv_bipush (v := 10) hx hb dX5_layReport_145 (by decide) ?_
              refine lv_idiv hx hb dX5_layReport_147 (by decide) ?_
              refine lv_iadd hx hb dX5_layReport_148 ?_
              obtain ⟨hg43, h⟩ := gd_some h
              refine g_iast (f := (a37 9)) (k := ((x1 + 2)).toNatClampNeg) hx hb hK hP MW_self hS 9 0 rfl rfl hg43 rfl dX5_layReport_149 (fun H locs hP hS => ?_)
              obtain ⟨a44, ha44, h⟩ := lt_some h
              have hP : va_P D vwCl (MW cI cZ q (a44, (mRef S), (mSize S), (mSpot S), (mRN S), (mN S), (mActs S))) H := by have h9 := hP; rw [MW_s9] at h9; rw [ha44]; exact h9
              refine lv_iinc (v := ((x1 + 2) + 1)) (lv' := [(1, .int ((x1 + 2) + 1)), (4, .int ((a37 3) ((72 + x2)).toNatClampNeg)), (3, .int ((a4 3) ((60 + x2)).toNatClampNeg)), (0, .ref q), (2, .int x2)]) hx hb dX5_layReport_150 hl (k := 1) rfl rfl (by decide) rfl (fun ls hl => ?_)
              refine lv_iload hx hb dX5_layReport_153 (lv_at hl 1 rfl) ?_
              refine lv_if_lt (tgt := 175) hx hb dX5_layReport_155 (by decide) (fun c45 => ?_) (fun c45 => ?_)
              · replace h := (if_pos c45).symm.trans h
                refine lv_iinc (v := (x2 + 1)) (lv' := [(2, .int (x2 + 1)), (1, .int ((x1 + 2) + 1)), (4, .int ((a37 3) ((72 + x2)).toNatClampNeg)), (3, .int ((a4 3) ((60 + x2)).toNatClampNeg)), (0, .ref q)]) hx hb dX5_layReport_175 hl (k := 4) rfl rfl (by decide) rfl (fun ls hl => ?_)
                refine lv_goto (tgt := 4) hx hb dX5_layReport_178 (by decide) ?_
                exact ih (a44, (mRef S), (mSize S), (mSpot S), (mRN S), (mN S), (mActs S)) ((x1 + 2) + 1) (x2 + 1) H locs ls h hP hS (lv_sub hl [4, 1, 0] rfl)
              · replace h := (if_neg c45).symm.trans h
                refine lv_aload_n hx hb dX5_layReport_158 rfl (lv_at hl 3 rfl) ?_
                refine va_get (D := D) (ci := 5) (v := .ref (q + 9)) (C := RX5) (T := TX5) (N := 15) hx hb hts hinX5 hown hK hP 0 rfl rfl 14 (by decide) hf35 (fun _ h9 => h9) rfl dX5_layReport_159 ?_
                refine lv_iload_n hx hb dX5_layReport_162 rfl (lv_at hl 0 rfl) ?_
                refine lv_bipush (v := 48) hx hb dX5_layReport_163 (by decide) ?_
                refine lv_iload hx hb dX5_layReport_165 (lv_at hl 1 rfl) ?_
                refine lv_bipush (v := 10) hx hb dX5_layReport_167 (by decide) ?_
                refine lv_irem hx hb dX5_layReport_169 (by decide) ?_
                refine lv_iadd hx hb dX5_layReport_170 ?_
                obtain ⟨hg46, h⟩ := gd_some h
                refine g_iast (f := (a44 9)) (k := (((x1 + 2) + 1)).toNatClampNeg) hx hb hK hP MW_self hS 9 0 rfl rfl hg46 rfl dX5_layReport_171 (fun H locs hP hS => ?_)
                obtain ⟨a47, ha47, h⟩ := lt_some h
                have hP : va_P D vwCl (MW cI cZ q (a47, (mRef S), (mSize S), (mSpot S), (mRN S), (mN S), (mActs S))) H := by have h9 := hP; rw [MW_s9] at h9; rw [ha47]; exact h9
                refine lv_iinc (v := (((x1 + 2) + 1) + 1)) (lv' := [(1, .int (((x1 + 2) + 1) + 1)), (4, .int ((a37 3) ((72 + x2)).toNatClampNeg)), (3, .int ((a4 3) ((60 + x2)).toNatClampNeg)), (0, .ref q), (2, .int x2)]) hx hb dX5_layReport_172 hl (k := 0) rfl rfl (by decide) rfl (fun ls hl => ?_)
                refine lv_iinc (v := (x2 + 1)) (lv' := [(2, .int (x2 + 1)), (1, .int (((x1 + 2) + 1) + 1)), (4, .int ((a37 3) ((72 + x2)).toNatClampNeg)), (3, .int ((a4 3) ((60 + x2)).toNatClampNeg)), (0, .ref q)]) hx hb dX5_layReport_175 hl (k := 4) rfl rfl (by decide) rfl (fun ls hl => ?_)
                refine lv_goto (tgt := 4) hx hb dX5_layReport_178 (by decide) ?_
                exact ih (a47, (mRef S), (mSize S), (mSpot S), (mRN S), (mN S), (mActs S)) (((x1 + 2) + 1) + 1) (x2 + 1) H locs ls h hP hS (lv_sub hl [4, 1, 0] rfl)
        · replace h := (if_neg c2).symm.trans h
          refine lv_aload_n hx hb dX5_layReport_19 rfl (lv_at hl 0 rfl) ?_
          refine va_get (D := D) (ci := 5) (v := .ref (q + 9)) (C := RX5) (T := TX5) (N := 15) hx hb hts hinX5 hown hK hP 0 rfl rfl 14 (by decide) hf35 (fun _ h9 => h9) rfl dX5_layReport_20 ?_
          refine lv_iload_n hx hb dX5_layReport_23 rfl (lv_at hl 1 rfl) ?_
          refine lv_bipush (v := 32) hx hb dX5_layReport_24 (by decide) ?_
          obtain ⟨hg48, h⟩ := gd_some h
          refine g_iast (f := ((mA S) 9)) (k := x1.toNatClampNeg) hx hb hK hP MW_self hS 9 0 rfl rfl hg48 rfl dX5_layReport_26 (fun H locs hP hS => ?_)
          obtain ⟨a49, ha49, h⟩ := lt_some h
          have hP : va_P D vwCl (MW cI cZ q (a49, (mRef S), (mSize S), (mSpot S), (mRN S), (mN S), (mActs S))) H := by have h9 := hP; rw [MW_s9] at h9; rw [ha49]; exact h9
          refine lv_iinc (v := (x1 + 1)) (lv' := [(1, .int (x1 + 1)), (0, .ref q), (2, .int x2)]) hx hb dX5_layReport_27 hl (k := 1) rfl rfl (by decide) rfl (fun ls hl => ?_)
          refine lv_aload_n hx hb dX5_layReport_30 rfl (lv_at hl 1 rfl) ?_
          refine va_get (D := D) (ci := 5) (v := .ref (q + 9)) (C := RX5) (T := TX5) (N := 15) hx hb hts hinX5 hown hK hP 0 rfl rfl 14 (by decide) hf35 (fun _ h9 => h9) rfl dX5_layReport_31 ?_
          refine lv_iload_n hx hb dX5_layReport_34 rfl (lv_at hl 0 rfl) ?_
          refine lv_bipush (v := 97) hx hb dX5_layReport_35 (by decide) ?_
          refine lv_iload_n hx hb dX5_layReport_37 rfl (lv_at hl 2 rfl) ?_
          refine lv_iadd hx hb dX5_layReport_38 ?_
          obtain ⟨hg50, h⟩ := gd_some h
          refine g_iast (f := (a49 9)) (k := ((x1 + 1)).toNatClampNeg) hx hb hK hP MW_self hS 9 0 rfl rfl hg50 rfl dX5_layReport_39 (fun H locs hP hS => ?_)
          obtain ⟨a51, ha51, h⟩ := lt_some h
          have hP : va_P D vwCl (MW cI cZ q (a51, (mRef S), (mSize S), (mSpot S), (mRN S), (mN S), (mActs S))) H := by have h9 := hP; rw [MW_s9] at h9; rw [ha51]; exact h9
          refine lv_aload_n hx hb dX5_layReport_40 rfl (lv_at hl 1 rfl) ?_
          refine va_get (D := D) (ci := 5) (v := .ref (q + 3)) (C := RX5) (T := TX5) (N := 15) hx hb hts hinX5 hown hK hP 0 rfl rfl 7 (by decide) hf16 (fun _ h9 => h9) rfl dX5_layReport_41 ?_
          refine lv_bipush (v := 60) hx hb dX5_layReport_44 (by decide) ?_
          refine lv_iload_n hx hb dX5_layReport_46 rfl (lv_at hl 2 rfl) ?_
          refine lv_iadd hx hb dX5_layReport_47 ?_
          obtain ⟨hg52, h⟩ := gd_some h
          refine g_iald (f := (a51 3)) (k := ((60 + x2)).toNatClampNeg) hx hb hK hP 3 0 rfl rfl hg52 rfl dX5_layReport_48 ?_
          refine lv_istore_n (lv' := [(3, .int ((a51 3) ((60 + x2)).toNatClampNeg)), (1, .int (x1 + 1)), (0, .ref q), (2, .int x2)]) hx hb dX5_layReport_49 rfl hl (by decide) rfl (fun ls hl => ?_)
          refine lv_aload_n hx hb dX5_layReport_50 rfl (lv_at hl 2 rfl) ?_
          refine va_get (D := D) (ci := 5) (v := .ref (q + 9)) (C := RX5) (T := TX5) (N := 15) hx hb hts hinX5 hown hK hP 0 rfl rfl 14 (by decide) hf35 (fun _ h9 => h9) rfl dX5_layReport_51 ?_
          refine lv_iload_n hx hb dX5_layReport_54 rfl (lv_at hl 1 rfl) ?_
          refine lv_iconst (v := 1) hx hb dX5_layReport_55 (by decide) ?_
          refine lv_iadd hx hb dX5_layReport_56 ?_
          refine lv_iload_n hx hb dX5_layReport_57 rfl (lv_at hl 0 rfl) ?_
          refine lv_if_ne (tgt := 66) hx hb dX5_layReport_58 (by decide) (fun c53 => ?_) (fun c53 => ?_)
          · replace h := (if_neg c53).symm.trans h
            refine lv_iload_n hx hb dX5_layReport_66 rfl (lv_at hl 0 rfl) ?_
            refine lv_iconst (v := 1) hx hb dX5_layReport_67 (by decide) ?_
            refine lv_icmp_ne (tgt := 76) hx hb dX5_layReport_68 (by decide) (fun c54 => ?_) (fun c54 => ?_)
            · replace h := (if_neg c54).symm.trans h
              refine lv_iload_n hx hb dX5_layReport_76 rfl (lv_at hl 0 rfl) ?_
              refine lv_iconst (v := 2) hx hb dX5_layReport_77 (by decide) ?_
              refine lv_icmp_ne (tgt := 86) hx hb dX5_layReport_78 (by decide) (fun c55 => ?_) (fun c55 => ?_)
              · replace h := (if_neg c55).symm.trans h
                refine lv_bipush (v := 120) hx hb dX5_layReport_86 (by decide) ?_
                obtain ⟨hg56, h⟩ := gd_some h
                refine g_iast (f := (a51 9)) (k := (((x1 + 1) + 1)).toNatClampNeg) hx hb hK hP MW_self hS 9 0 rfl rfl hg56 rfl dX5_layReport_88 (fun H locs hP hS => ?_)
                obtain ⟨a57, ha57, h⟩ := lt_some h
                have hP : va_P D vwCl (MW cI cZ q (a57, (mRef S), (mSize S), (mSpot S), (mRN S), (mN S), (mActs S))) H := by have h9 := hP; rw [MW_s9] at h9; rw [ha57]; exact h9
                refine lv_iinc (v := ((x1 + 1) + 2)) (lv' := [(1, .int ((x1 + 1) + 2)), (3, .int ((a51 3) ((60 + x2)).toNatClampNeg)), (0, .ref q), (2, .int x2)]) hx hb dX5_layReport_89 hl (k := 1) rfl rfl (by decide) rfl (fun ls hl => ?_)
                refine lv_iload_n hx hb dX5_layReport_92 rfl (lv_at hl 1 rfl) ?_
                refine lv_if_ne (tgt := 108) hx hb dX5_layReport_93 (by decide) (fun _ => ?_) (fun c => absurd c c53)
                refine lv_iload_n hx hb dX5_layReport_108 rfl (lv_at hl 1 rfl) ?_
                refine lv_iconst (v := 2) hx hb dX5_layReport_109 (by decide) ?_
                refine lv_icmp_ne (tgt := 125) hx hb dX5_layReport_110 (by decide) (fun _ => ?_) (fun c => absurd c c55)
                refine lv_bipush (v := (-9)) hx hb dX5_layReport_125 (by decide) ?_
                refine lv_istore (lv' := [(4, .int (-9)), (1, .int ((x1 + 1) + 2)), (3, .int ((a51 3) ((60 + x2)).toNatClampNeg)), (0, .ref q), (2, .int x2)]) hx hb dX5_layReport_127 hl (by decide) rfl (fun ls hl => ?_)
                refine lv_iload hx hb dX5_layReport_129 (lv_at hl 0 rfl) ?_
                refine lv_bipush (v := 9) hx hb dX5_layReport_131 (by decide) ?_
                refine lv_icmp_le (tgt := 153) hx hb dX5_layReport_133 (by decide) (fun _ => ?_) (fun c => absurd c (by decide))
                refine lv_iload hx hb dX5_layReport_153 (lv_at hl 0 rfl) ?_
                refine lv_if_lt (tgt := 175) hx hb dX5_layReport_155 (by decide) (fun _ => ?_) (fun c => absurd c (by decide))
                refine lv_iinc (v := (x2 + 1)) (lv' := [(2, .int (x2 + 1)), (4, .int (-9)), (1, .int ((x1 + 1) + 2)), (3, .int ((a51 3) ((60 + x2)).toNatClampNeg)), (0, .ref q)]) hx hb dX5_layReport_175 hl (k := 4) rfl rfl (by decide) rfl (fun ls hl => ?_)
                refine lv_goto (tgt := 4) hx hb dX5_layReport_178 (by decide) ?_
                exact ih (a57, (mRef S), (mSize S), (mSpot S), (mRN S), (mN S), (mActs S)) ((x1 + 1) + 2) (x2 + 1) H locs ls h hP hS (lv_sub hl [4, 2, 0] rfl)
              · replace h := (if_pos c55).symm.trans h
                refine lv_bipush (v := 119) hx hb dX5_layReport_81 (by decide) ?_
                refine lv_goto (tgt := 88) hx hb dX5_layReport_83 (by decide) ?_
                obtain ⟨hg58, h⟩ := gd_some h
                refine g_iast (f := (a51 9)) (k := (((x1 + 1) + 1)).toNatClampNeg) hx hb hK hP MW_self hS 9 0 rfl rfl hg58 rfl dX5_layReport_88 (fun H locs hP hS => ?_)
                obtain ⟨a59, ha59, h⟩ := lt_some h
                have hP : va_P D vwCl (MW cI cZ q (a59, (mRef S), (mSize S), (mSpot S), (mRN S), (mN S), (mActs S))) H := by have h9 := hP; rw [MW_s9] at h9; rw [ha59]; exact h9
                refine lv_iinc (v := ((x1 + 1) + 2)) (lv' := [(1, .int ((x1 + 1) + 2)), (3, .int ((a51 3) ((60 + x2)).toNatClampNeg)), (0, .ref q), (2, .int x2)]) hx hb dX5_layReport_89 hl (k := 1) rfl rfl (by decide) rfl (fun ls hl => ?_)
                refine lv_iload_n hx hb dX5_layReport_92 rfl (lv_at hl 1 rfl) ?_
                refine lv_if_ne (tgt := 108) hx hb dX5_layReport_93 (by decide) (fun _ => ?_) (fun c => absurd c c53)
                refine lv_iload_n hx hb dX5_layReport_108 rfl (lv_at hl 1 rfl) ?_
                refine lv_iconst (v := 2) hx hb dX5_layReport_109 (by decide) ?_
                refine lv_icmp_ne (tgt := 125) hx hb dX5_layReport_110 (by decide) (fun c => absurd c55 c) (fun _ => ?_)
                refine lv_aload_n hx hb dX5_layReport_113 rfl (lv_at hl 2 rfl) ?_
                refine va_get (D := D) (ci := 5) (v := .ref (q + 3)) (C := RX5) (T := TX5) (N := 15) hx hb hts hinX5 hown hK hP 0 rfl rfl 7 (by decide) hf16 (fun _ h9 => h9) rfl dX5_layReport_114 ?_
                refine lv_bipush (v := 84) hx hb dX5_layReport_117 (by decide) ?_
                refine lv_iload_n hx hb dX5_layReport_119 rfl (lv_at hl 3 rfl) ?_
                refine lv_iadd hx hb dX5_layReport_120 ?_
                obtain ⟨hg60, h⟩ := gd_some h
                refine g_iald (f := (a59 3)) (k := ((84 + x2)).toNatClampNeg) hx hb hK hP 3 0 rfl rfl hg60 rfl dX5_layReport_121 ?_
                refine lv_goto (tgt := 127) hx hb dX5_layReport_122 (by decide) ?_
                refine lv_istore (lv' := [(4, .int ((a59 3) ((84 + x2)).toNatClampNeg)), (1, .int ((x1 + 1) + 2)), (3, .int ((a51 3) ((60 + x2)).toNatClampNeg)), (0, .ref q), (2, .int x2)]) hx hb dX5_layReport_127 hl (by decide) rfl (fun ls hl => ?_)
                refine lv_iload hx hb dX5_layReport_129 (lv_at hl 0 rfl) ?_
                refine lv_bipush (v := 9) hx hb dX5_layReport_131 (by decide) ?_
                refine lv_icmp_le (tgt := 153) hx hb dX5_layReport_133 (by decide) (fun c61 => ?_) (fun c61 => ?_)
                · replace h := (if_pos c61).symm.trans h
                  refine lv_iload hx hb dX5_layReport_153 (lv_at hl 0 rfl) ?_
                  refine lv_if_lt (tgt := 175) hx hb dX5_layReport_155 (by decide) (fun c62 => ?_) (fun c62 => ?_)
                  · replace h := (if_pos c62).symm.trans h
                    refine lv_iinc (v := (x2 + 1)) (lv' := [(2, .int (x2 + 1)), (4, .int ((a59 3) ((84 + x2)).toNatClampNeg)), (1, .int ((x1 + 1) + 2)), (3, .int ((a51 3) ((60 + x2)).toNatClampNeg)), (0, .ref q)]) hx hb dX5_layReport_175 hl (k := 4) rfl rfl (by decide) rfl (fun ls hl => ?_)
                    refine lv_goto (tgt := 4) hx hb dX5_layReport_178 (by decide) ?_
                    exact ih (a59, (mRef S), (mSize S), (mSpot S), (mRN S), (mN S), (mActs S)) ((x1 + 1) + 2) (x2 + 1) H locs ls h hP hS (lv_sub hl [4, 2, 0] rfl)
                  · replace h := (if_neg c62).symm.trans h
                    refine lv_aload_n hx hb dX5_layReport_158 rfl (lv_at hl 3 rfl) ?_
                    refine va_get (D := D) (ci := 5) (v := .ref (q + 9)) (C := RX5) (T := TX5) (N := 15) hx hb hts hinX5 hown hK hP 0 rfl rfl 14 (by decide) hf35 (fun _ h9 => h9) rfl dX5_layReport_159 ?_
                    refine lv_iload_n hx hb dX5_layReport_162 rfl (lv_at hl 1 rfl) ?_
                    refine lv_bipush (v := 48) hx hb dX5_layReport_163 (by decide) ?_
                    refine lv_iload hx hb dX5_layReport_165 (lv_at hl 0 rfl) ?_
                    refine lv_bipush (v := 10) hx hb dX5_layReport_167 (by decide) ?_
                    refine lv_irem hx hb dX5_layReport_169 (by decide) ?_
                    refine lv_iadd hx hb dX5_layReport_170 ?_
                    obtain ⟨hg63, h⟩ := gd_some h
                    refine g_iast (f := (a59 9)) (k := (((x1 + 1) + 2)).toNatClampNeg) hx hb hK hP MW_self hS 9 0 rfl rfl hg63 rfl dX5_layReport_171 (fun H locs hP hS => ?_)
                    obtain ⟨a64, ha64, h⟩ := lt_some h
                    have hP : va_P D vwCl (MW cI cZ q (a64, (mRef S), (mSize S), (mSpot S), (mRN S), (mN S), (mActs S))) H := by have h9 := hP; rw [MW_s9] at h9; rw [ha64]; exact h9
                    refine lv_iinc (v := (((x1 + 1) + 2) + 1)) (lv' := [(1, .int (((x1 + 1) + 2) + 1)), (4, .int ((a59 3) ((84 + x2)).toNatClampNeg)), (3, .int ((a51 3) ((60 + x2)).toNatClampNeg)), (0, .ref q), (2, .int x2)]) hx hb dX5_layReport_172 hl (k := 1) rfl rfl (by decide) rfl (fun ls hl => ?_)
                    refine lv_iinc (v := (x2 + 1)) (lv' := [(2, .int (x2 + 1)), (1, .int (((x1 + 1) + 2) + 1)), (4, .int ((a59 3) ((84 + x2)).toNatClampNeg)), (3, .int ((a51 3) ((60 + x2)).toNatClampNeg)), (0, .ref q)]) hx hb dX5_layReport_175 hl (k := 4) rfl rfl (by decide) rfl (fun ls hl => ?_)
                    refine lv_goto (tgt := 4) hx hb dX5_layReport_178 (by decide) ?_
                    exact ih (a64, (mRef S), (mSize S), (mSpot S), (mRN S), (mN S), (mActs S)) (((x1 + 1) + 2) + 1) (x2 + 1) H locs ls h hP hS (lv_sub hl [4, 1, 0] rfl)
                · replace h := (if_neg c61).symm.trans h
                  refine lv_aload_n hx hb dX5_layReport_136 rfl (lv_at hl 3 rfl) ?_
                  refine va_get (D := D) (ci := 5) (v := .ref (q + 9)) (C := RX5) (T := TX5) (N := 15) hx hb hts hinX5 hown hK hP 0 rfl rfl 14 (by decide) hf35 (fun _ h9 => h9) rfl dX5_layReport_137 ?_
                  refine lv_iload_n hx hb dX5_layReport_140 rfl (lv_at hl 1 rfl) ?_
                  refine lv_bipush (v := 48) hx hb dX5_layReport_141 (by decide) ?_
                  refine lv_iload hx hb dX5_layReport_143 (lv_at hl 0 rfl) ?_
                  refine lv_bipush (v := 10) hx hb dX5_layReport_145 (by decide) ?_
                  refine lv_idiv hx hb dX5_layReport_147 (by decide) ?_
                  refine lv_iadd hx hb dX5_layReport_148 ?_
                  obtain ⟨hg65, h⟩ := gd_some h
                  refine g_iast (f := (a59 9)) (k := (((x1 + 1) + 2)).toNatClampNeg) hx hb hK hP MW_self hS 9 0 rfl rfl hg65 rfl dX5_layReport_149 (fun H locs hP hS => ?_)
                  obtain ⟨a66, ha66, h⟩ := lt_some h
                  have hP : va_P D vwCl (MW cI cZ q (a66, (mRef S), (mSize S), (mSpot S), (mRN S), (mN S), (mActs S))) H := by have h9 := hP; rw [MW_s9] at h9; rw [ha66]; exact h9
                  refine lv_iinc (v := (((x1 + 1) + 2) + 1)) (lv' := [(1, .int (((x1 + 1) + 2) + 1)), (4, .int ((a59 3) ((84 + x2)).toNatClampNeg)), (3, .int ((a51 3) ((60 + x2)).toNatClampNeg)), (0, .ref q), (2, .int x2)]) hx hb dX5_layReport_150 hl (k := 1) rfl rfl (by decide) rfl (fun ls hl => ?_)
                  refine lv_iload hx hb dX5_layReport_153 (lv_at hl 1 rfl) ?_
                  refine lv_if_lt (tgt := 175) hx hb dX5_layReport_155 (by decide) (fun c67 => ?_) (fun c67 => ?_)
                  · replace h := (if_pos c67).symm.trans h
                    refine lv_iinc (v := (x2 + 1)) (lv' := [(2, .int (x2 + 1)), (1, .int (((x1 + 1) + 2) + 1)), (4, .int ((a59 3) ((84 + x2)).toNatClampNeg)), (3, .int ((a51 3) ((60 + x2)).toNatClampNeg)), (0, .ref q)]) hx hb dX5_layReport_175 hl (k := 4) rfl rfl (by decide) rfl (fun ls hl => ?_)
                    refine lv_goto (tgt := 4) hx hb dX5_layReport_178 (by decide) ?_
                    exact ih (a66, (mRef S), (mSize S), (mSpot S), (mRN S), (mN S), (mActs S)) (((x1 + 1) + 2) + 1) (x2 + 1) H locs ls h hP hS (lv_sub hl [4, 1, 0] rfl)
                  · replace h := (if_neg c67).symm.trans h
                    refine lv_aload_n hx hb dX5_layReport_158 rfl (lv_at hl 3 rfl) ?_
                    refine va_get (D := D) (ci := 5) (v := .ref (q + 9)) (C := RX5) (T := TX5) (N := 15) hx hb hts hinX5 hown hK hP 0 rfl rfl 14 (by decide) hf35 (fun _ h9 => h9) rfl dX5_layReport_159 ?_
                    refine lv_iload_n hx hb dX5_layReport_162 rfl (lv_at hl 0 rfl) ?_
                    refine lv_bipush (v := 48) hx hb dX5_layReport_163 (by decide) ?_
                    refine lv_iload hx hb dX5_layReport_165 (lv_at hl 1 rfl) ?_
                    refine lv_bipush (v := 10) hx hb dX5_layReport_167 (by decide) ?_
                    refine lv_irem hx hb dX5_layReport_169 (by decide) ?_
                    refine lv_iadd hx hb dX5_layReport_170 ?_
                    obtain ⟨hg68, h⟩ := gd_some h
                    refine g_iast (f := (a66 9)) (k := ((((x1 + 1) + 2) + 1)).toNatClampNeg) hx hb hK hP MW_self hS 9 0 rfl rfl hg68 rfl dX5_layReport_171 (fun H locs hP hS => ?_)
                    obtain ⟨a69, ha69, h⟩ := lt_some h
                    have hP : va_P D vwCl (MW cI cZ q (a69, (mRef S), (mSize S), (mSpot S), (mRN S), (mN S), (mActs S))) H := by have h9 := hP; rw [MW_s9] at h9; rw [ha69]; exact h9
                    refine lv_iinc (v := ((((x1 + 1) + 2) + 1) + 1)) (lv' := [(1, .int ((((x1 + 1) + 2) + 1) + 1)), (4, .int ((a59 3) ((84 + x2)).toNatClampNeg)), (3, .int ((a51 3) ((60 + x2)).toNatClampNeg)), (0, .ref q), (2, .int x2)]) hx hb dX5_layReport_172 hl (k := 0) rfl rfl (by decide) rfl (fun ls hl => ?_)
                    refine lv_iinc (v := (x2 + 1)) (lv' := [(2, .int (x2 + 1)), (1, .int ((((x1 + 1) + 2) + 1) + 1)), (4, .int ((a59 3) ((84 + x2)).toNatClampNeg)), (3, .int ((a51 3) ((60 + x2)).toNatClampNeg)), (0, .ref q)]) hx hb dX5_layReport_175 hl (k := 4) rfl rfl (by decide) rfl (fun ls hl => ?_)
                    refine lv_goto (tgt := 4) hx hb dX5_layReport_178 (by decide) ?_
                    exact ih (a69, (mRef S), (mSize S), (mSpot S), (mRN S), (mN S), (mActs S)) ((((x1 + 1) + 2) + 1) + 1) (x2 + 1) H locs ls h hP hS (lv_sub hl [4, 1, 0] rfl)
            · replace h := (if_pos c54).symm.trans h
              refine lv_bipush (v := 103) hx hb dX5_layReport_71 (by decide) ?_
              refine lv_goto (tgt := 88) hx hb dX5_layReport_73 (by decide) ?_
              obtain ⟨hg70, h⟩ := gd_some h
              refine g_iast (f := (a51 9)) (k := (((x1 + 1) + 1)).toNatClampNeg) hx hb hK hP MW_self hS 9 0 rfl rfl hg70 rfl dX5_layReport_88 (fun H locs hP hS => ?_)
              obtain ⟨a71, ha71, h⟩ := lt_some h
              have hP : va_P D vwCl (MW cI cZ q (a71, (mRef S), (mSize S), (mSpot S), (mRN S), (mN S), (mActs S))) H := by have h9 := hP; rw [MW_s9] at h9; rw [ha71]; exact h9
              refine lv_iinc (v := ((x1 + 1) + 2)) (lv' := [(1, .int ((x1 + 1) + 2)), (3, .int ((a51 3) ((60 + x2)).toNatClampNeg)), (0, .ref q), (2, .int x2)]) hx hb dX5_layReport_89 hl (k := 1) rfl rfl (by decide) rfl (fun ls hl => ?_)
              refine lv_iload_n hx hb dX5_layReport_92 rfl (lv_at hl 1 rfl) ?_
              refine lv_if_ne (tgt := 108) hx hb dX5_layReport_93 (by decide) (fun _ => ?_) (fun c => absurd c c53)
              refine lv_iload_n hx hb dX5_layReport_108 rfl (lv_at hl 1 rfl) ?_
              refine lv_iconst (v := 2) hx hb dX5_layReport_109 (by decide) ?_
              refine lv_icmp_ne (tgt := 125) hx hb dX5_layReport_110 (by decide) (fun c72 => ?_) (fun c72 => ?_)
              · replace h := (if_neg c72).symm.trans h
                refine lv_bipush (v := (-9)) hx hb dX5_layReport_125 (by decide) ?_
                refine lv_istore (lv' := [(4, .int (-9)), (1, .int ((x1 + 1) + 2)), (3, .int ((a51 3) ((60 + x2)).toNatClampNeg)), (0, .ref q), (2, .int x2)]) hx hb dX5_layReport_127 hl (by decide) rfl (fun ls hl => ?_)
                refine lv_iload hx hb dX5_layReport_129 (lv_at hl 0 rfl) ?_
                refine lv_bipush (v := 9) hx hb dX5_layReport_131 (by decide) ?_
                refine lv_icmp_le (tgt := 153) hx hb dX5_layReport_133 (by decide) (fun _ => ?_) (fun c => absurd c (by decide))
                refine lv_iload hx hb dX5_layReport_153 (lv_at hl 0 rfl) ?_
                refine lv_if_lt (tgt := 175) hx hb dX5_layReport_155 (by decide) (fun _ => ?_) (fun c => absurd c (by decide))
                refine lv_iinc (v := (x2 + 1)) (lv' := [(2, .int (x2 + 1)), (4, .int (-9)), (1, .int ((x1 + 1) + 2)), (3, .int ((a51 3) ((60 + x2)).toNatClampNeg)), (0, .ref q)]) hx hb dX5_layReport_175 hl (k := 4) rfl rfl (by decide) rfl (fun ls hl => ?_)
                refine lv_goto (tgt := 4) hx hb dX5_layReport_178 (by decide) ?_
                exact ih (a71, (mRef S), (mSize S), (mSpot S), (mRN S), (mN S), (mActs S)) ((x1 + 1) + 2) (x2 + 1) H locs ls h hP hS (lv_sub hl [4, 2, 0] rfl)
              · replace h := (if_pos c72).symm.trans h
                refine lv_aload_n hx hb dX5_layReport_113 rfl (lv_at hl 2 rfl) ?_
                refine va_get (D := D) (ci := 5) (v := .ref (q + 3)) (C := RX5) (T := TX5) (N := 15) hx hb hts hinX5 hown hK hP 0 rfl rfl 7 (by decide) hf16 (fun _ h9 => h9) rfl dX5_layReport_114 ?_
                refine lv_bipush (v := 84) hx hb dX5_layReport_117 (by decide) ?_
                refine lv_iload_n hx hb dX5_layReport_119 rfl (lv_at hl 3 rfl) ?_
                refine lv_iadd hx hb dX5_layReport_120 ?_
                obtain ⟨hg73, h⟩ := gd_some h
                refine g_iald (f := (a71 3)) (k := ((84 + x2)).toNatClampNeg) hx hb hK hP 3 0 rfl rfl hg73 rfl dX5_layReport_121 ?_
                refine lv_goto (tgt := 127) hx hb dX5_layReport_122 (by decide) ?_
                refine lv_istore (lv' := [(4, .int ((a71 3) ((84 + x2)).toNatClampNeg)), (1, .int ((x1 + 1) + 2)), (3, .int ((a51 3) ((60 + x2)).toNatClampNeg)), (0, .ref q), (2, .int x2)]) hx hb dX5_layReport_127 hl (by decide) rfl (fun ls hl => ?_)
                refine lv_iload hx hb dX5_layReport_129 (lv_at hl 0 rfl) ?_
                refine lv_bipush (v := 9) hx hb dX5_layReport_131 (by decide) ?_
                refine lv_icmp_le (tgt := 153) hx hb dX5_layReport_133 (by decide) (fun c74 => ?_) (fun c74 => ?_)
                · replace h := (if_pos c74).symm.trans h
                  refine lv_iload hx hb dX5_layReport_153 (lv_at hl 0 rfl) ?_
                  refine lv_if_lt (tgt := 175) hx hb dX5_layReport_155 (by decide) (fun c75 => ?_) (fun c75 => ?_)
                  · replace h := (if_pos c75).symm.trans h
                    refine lv_iinc (v := (x2 + 1)) (lv' := [(2, .int (x2 + 1)), (4, .int ((a71 3) ((84 + x2)).toNatClampNeg)), (1, .int ((x1 + 1) + 2)), (3, .int ((a51 3) ((60 + x2)).toNatClampNeg)), (0, .ref q)]) hx hb dX5_layReport_175 hl (k := 4) rfl rfl (by decide) rfl (fun ls hl => ?_)
                    refine lv_goto (tgt := 4) hx hb dX5_layReport_178 (by decide) ?_
                    exact ih (a71, (mRef S), (mSize S), (mSpot S), (mRN S), (mN S), (mActs S)) ((x1 + 1) + 2) (x2 + 1) H locs ls h hP hS (lv_sub hl [4, 2, 0] rfl)
                  · replace h := (if_neg c75).symm.trans h
                    refine lv_aload_n hx hb dX5_layReport_158 rfl (lv_at hl 3 rfl) ?_
                    refine va_get (D := D) (ci := 5) (v := .ref (q + 9)) (C := RX5) (T := TX5) (N := 15) hx hb hts hinX5 hown hK hP 0 rfl rfl 14 (by decide) hf35 (fun _ h9 => h9) rfl dX5_layReport_159 ?_
                    refine lv_iload_n hx hb dX5_layReport_162 rfl (lv_at hl 1 rfl) ?_
                    refine lv_bipush (v := 48) hx hb dX5_layReport_163 (by decide) ?_
                    refine lv_iload hx hb dX5_layReport_165 (lv_at hl 0 rfl) ?_
                    refine lv_bipush (v := 10) hx hb dX5_layReport_167 (by decide) ?_
                    refine lv_irem hx hb dX5_layReport_169 (by decide) ?_
                    refine lv_iadd hx hb dX5_layReport_170 ?_
                    obtain ⟨hg76, h⟩ := gd_some h
                    refine g_iast (f := (a71 9)) (k := (((x1 + 1) + 2)).toNatClampNeg) hx hb hK hP MW_self hS 9 0 rfl rfl hg76 rfl dX5_layReport_171 (fun H locs hP hS => ?_)
                    obtain ⟨a77, ha77, h⟩ := lt_some h
                    have hP : va_P D vwCl (MW cI cZ q (a77, (mRef S), (mSize S), (mSpot S), (mRN S), (mN S), (mActs S))) H := by have h9 := hP; rw [MW_s9] at h9; rw [ha77]; exact h9
                    refine lv_iinc (v := (((x1 + 1) + 2) + 1)) (lv' := [(1, .int (((x1 + 1) + 2) + 1)), (4, .int ((a71 3) ((84 + x2)).toNatClampNeg)), (3, .int ((a51 3) ((60 + x2)).toNatClampNeg)), (0, .ref q), (2, .int x2)]) hx hb dX5_layReport_172 hl (k := 1) rfl rfl (by decide) rfl (fun ls hl => ?_)
                    refine lv_iinc (v := (x2 + 1)) (lv' := [(2, .int (x2 + 1)), (1, .int (((x1 + 1) + 2) + 1)), (4, .int ((a71 3) ((84 + x2)).toNatClampNeg)), (3, .int ((a51 3) ((60 + x2)).toNatClampNeg)), (0, .ref q)]) hx hb dX5_layReport_175 hl (k := 4) rfl rfl (by decide) rfl (fun ls hl => ?_)
                    refine lv_goto (tgt := 4) hx hb dX5_layReport_178 (by decide) ?_
                    exact ih (a77, (mRef S), (mSize S), (mSpot S), (mRN S), (mN S), (mActs S)) (((x1 + 1) + 2) + 1) (x2 + 1) H locs ls h hP hS (lv_sub hl [4, 1, 0] rfl)
                · replace h := (if_neg c74).symm.trans h
                  refine lv_aload_n hx hb dX5_layReport_136 rfl (lv_at hl 3 rfl) ?_
                  refine va_get (D := D) (ci := 5) (v := .ref (q + 9)) (C := RX5) (T := TX5) (N := 15) hx hb hts hinX5 hown hK hP 0 rfl rfl 14 (by decide) hf35 (fun _ h9 => h9) rfl dX5_layReport_137 ?_
                  refine lv_iload_n hx hb dX5_layReport_140 rfl (lv_at hl 1 rfl) ?_
                  refine lv_bipush (v := 48) hx hb dX5_layReport_141 (by decide) ?_
                  refine lv_iload hx hb dX5_layReport_143 (lv_at hl 0 rfl) ?_
                  refine lv_bipush (v := 10) hx hb dX5_layReport_145 (by decide) ?_
                  refine lv_idiv hx hb dX5_layReport_147 (by decide) ?_
                  refine lv_iadd hx hb dX5_layReport_148 ?_
                  obtain ⟨hg78, h⟩ := gd_some h
                  refine g_iast (f := (a71 9)) (k := (((x1 + 1) + 2)).toNatClampNeg) hx hb hK hP MW_self hS 9 0 rfl rfl hg78 rfl dX5_layReport_149 (fun H locs hP hS => ?_)
                  obtain ⟨a79, ha79, h⟩ := lt_some h
                  have hP : va_P D vwCl (MW cI cZ q (a79, (mRef S), (mSize S), (mSpot S), (mRN S), (mN S), (mActs S))) H := by have h9 := hP; rw [MW_s9] at h9; rw [ha79]; exact h9
                  refine lv_iinc (v := (((x1 + 1) + 2) + 1)) (lv' := [(1, .int (((x1 + 1) + 2) + 1)), (4, .int ((a71 3) ((84 + x2)).toNatClampNeg)), (3, .int ((a51 3) ((60 + x2)).toNatClampNeg)), (0, .ref q), (2, .int x2)]) hx hb dX5_layReport_150 hl (k := 1) rfl rfl (by decide) rfl (fun ls hl => ?_)
                  refine lv_iload hx hb dX5_layReport_153 (lv_at hl 1 rfl) ?_
                  refine lv_if_lt (tgt := 175) hx hb dX5_layReport_155 (by decide) (fun c80 => ?_) (fun c80 => ?_)
                  · replace h := (if_pos c80).symm.trans h
                    refine lv_iinc (v := (x2 + 1)) (lv' := [(2, .int (x2 + 1)), (1, .int (((x1 + 1) + 2) + 1)), (4, .int ((a71 3) ((84 + x2)).toNatClampNeg)), (3, .int ((a51 3) ((60 + x2)).toNatClampNeg)), (0, .ref q)]) hx hb dX5_layReport_175 hl (k := 4) rfl rfl (by decide) rfl (fun ls hl => ?_)
                    refine lv_goto (tgt := 4) hx hb dX5_layReport_178 (by decide) ?_
                    exact ih (a79, (mRef S), (mSize S), (mSpot S), (mRN S), (mN S), (mActs S)) (((x1 + 1) + 2) + 1) (x2 + 1) H locs ls h hP hS (lv_sub hl [4, 1, 0] rfl)
                  · replace h := (if_neg c80).symm.trans h
                    refine lv_aload_n hx hb dX5_layReport_158 rfl (lv_at hl 3 rfl) ?_
                    refine va_get (D := D) (ci := 5) (v := .ref (q + 9)) (C := RX5) (T := TX5) (N := 15) hx hb hts hinX5 hown hK hP 0 rfl rfl 14 (by decide) hf35 (fun _ h9 => h9) rfl dX5_layReport_159 ?_
                    refine lv_iload_n hx hb dX5_layReport_162 rfl (lv_at hl 0 rfl) ?_
                    refine lv_bipush (v := 48) hx hb dX5_layReport_163 (by decide) ?_
                    refine lv_iload hx hb dX5_layReport_165 (lv_at hl 1 rfl) ?_
                    refine lv_bipush (v := 10) hx hb dX5_layReport_167 (by decide) ?_
                    refine lv_irem hx hb dX5_layReport_169 (by decide) ?_
                    refine lv_iadd hx hb dX5_layReport_170 ?_
                    obtain ⟨hg81, h⟩ := gd_some h
                    refine g_iast (f := (a79 9)) (k := ((((x1 + 1) + 2) + 1)).toNatClampNeg) hx hb hK hP MW_self hS 9 0 rfl rfl hg81 rfl dX5_layReport_171 (fun H locs hP hS => ?_)
                    obtain ⟨a82, ha82, h⟩ := lt_some h
                    have hP : va_P D vwCl (MW cI cZ q (a82, (mRef S), (mSize S), (mSpot S), (mRN S), (mN S), (mActs S))) H := by have h9 := hP; rw [MW_s9] at h9; rw [ha82]; exact h9
                    refine lv_iinc (v := ((((x1 + 1) + 2) + 1) + 1)) (lv' := [(1, .int ((((x1 + 1) + 2) + 1) + 1)), (4, .int ((a71 3) ((84 + x2)).toNatClampNeg)), (3, .int ((a51 3) ((60 + x2)).toNatClampNeg)), (0, .ref q), (2, .int x2)]) hx hb dX5_layReport_172 hl (k := 0) rfl rfl (by decide) rfl (fun ls hl => ?_)
                    refine lv_iinc (v := (x2 + 1)) (lv' := [(2, .int (x2 + 1)), (1, .int ((((x1 + 1) + 2) + 1) + 1)), (4, .int ((a71 3) ((84 + x2)).toNatClampNeg)), (3, .int ((a51 3) ((60 + x2)).toNatClampNeg)), (0, .ref q)]) hx hb dX5_layReport_175 hl (k := 4) rfl rfl (by decide) rfl (fun ls hl => ?_)
                    refine lv_goto (tgt := 4) hx hb dX5_layReport_178 (by decide) ?_
                    exact ih (a82, (mRef S), (mSize S), (mSpot S), (mRN S), (mN S), (mActs S)) ((((x1 + 1) + 2) + 1) + 1) (x2 + 1) H locs ls h hP hS (lv_sub hl [4, 1, 0] rfl)
          · replace h := (if_pos c53).symm.trans h
            refine lv_bipush (v := 64) hx hb dX5_layReport_61 (by decide) ?_
            refine lv_goto (tgt := 88) hx hb dX5_layReport_63 (by decide) ?_
            obtain ⟨hg83, h⟩ := gd_some h
            refine g_iast (f := (a51 9)) (k := (((x1 + 1) + 1)).toNatClampNeg) hx hb hK hP MW_self hS 9 0 rfl rfl hg83 rfl dX5_layReport_88 (fun H locs hP hS => ?_)
            obtain ⟨a84, ha84, h⟩ := lt_some h
            have hP : va_P D vwCl (MW cI cZ q (a84, (mRef S), (mSize S), (mSpot S), (mRN S), (mN S), (mActs S))) H := by have h9 := hP; rw [MW_s9] at h9; rw [ha84]; exact h9
            refine lv_iinc (v := ((x1 + 1) + 2)) (lv' := [(1, .int ((x1 + 1) + 2)), (3, .int ((a51 3) ((60 + x2)).toNatClampNeg)), (0, .ref q), (2, .int x2)]) hx hb dX5_layReport_89 hl (k := 1) rfl rfl (by decide) rfl (fun ls hl => ?_)
            refine lv_iload_n hx hb dX5_layReport_92 rfl (lv_at hl 1 rfl) ?_
            refine lv_if_ne (tgt := 108) hx hb dX5_layReport_93 (by decide) (fun c => absurd c53 c) (fun _ => ?_)
            refine lv_aload_n hx hb dX5_layReport_96 rfl (lv_at hl 2 rfl) ?_
            refine va_get (D := D) (ci := 5) (v := .ref (q + 3)) (C := RX5) (T := TX5) (N := 15) hx hb hts hinX5 hown hK hP 0 rfl rfl 7 (by decide) hf16 (fun _ h9 => h9) rfl dX5_layReport_97 ?_
            refine lv_bipush (v := 72) hx hb dX5_layReport_100 (by decide) ?_
            refine lv_iload_n hx hb dX5_layReport_102 rfl (lv_at hl 3 rfl) ?_
            refine lv_iadd hx hb dX5_layReport_103 ?_
            obtain ⟨hg85, h⟩ := gd_some h
            refine g_iald (f := (a84 3)) (k := ((72 + x2)).toNatClampNeg) hx hb hK hP 3 0 rfl rfl hg85 rfl dX5_layReport_104 ?_
            refine lv_goto (tgt := 127) hx hb dX5_layReport_105 (by decide) ?_
            refine lv_istore (lv' := [(4, .int ((a84 3) ((72 + x2)).toNatClampNeg)), (1, .int ((x1 + 1) + 2)), (3, .int ((a51 3) ((60 + x2)).toNatClampNeg)), (0, .ref q), (2, .int x2)]) hx hb dX5_layReport_127 hl (by decide) rfl (fun ls hl => ?_)
            refine lv_iload hx hb dX5_layReport_129 (lv_at hl 0 rfl) ?_
            refine lv_bipush (v := 9) hx hb dX5_layReport_131 (by decide) ?_
            refine lv_icmp_le (tgt := 153) hx hb dX5_layReport_133 (by decide) (fun c86 => ?_) (fun c86 => ?_)
            · replace h := (if_pos c86).symm.trans h
              refine lv_iload hx hb dX5_layReport_153 (lv_at hl 0 rfl) ?_
              refine lv_if_lt (tgt := 175) hx hb dX5_layReport_155 (by decide) (fun c87 => ?_) (fun c87 => ?_)
              · replace h := (if_pos c87).symm.trans h
                refine lv_iinc (v := (x2 + 1)) (lv' := [(2, .int (x2 + 1)), (4, .int ((a84 3) ((72 + x2)).toNatClampNeg)), (1, .int ((x1 + 1) + 2)), (3, .int ((a51 3) ((60 + x2)).toNatClampNeg)), (0, .ref q)]) hx hb dX5_layReport_175 hl (k := 4) rfl rfl (by decide) rfl (fun ls hl => ?_)
                refine lv_goto (tgt := 4) hx hb dX5_layReport_178 (by decide) ?_
                exact ih (a84, (mRef S), (mSize S), (mSpot S), (mRN S), (mN S), (mActs S)) ((x1 + 1) + 2) (x2 + 1) H locs ls h hP hS (lv_sub hl [4, 2, 0] rfl)
              · replace h := (if_neg c87).symm.trans h
                refine lv_aload_n hx hb dX5_layReport_158 rfl (lv_at hl 3 rfl) ?_
                refine va_get (D := D) (ci := 5) (v := .ref (q + 9)) (C := RX5) (T := TX5) (N := 15) hx hb hts hinX5 hown hK hP 0 rfl rfl 14 (by decide) hf35 (fun _ h9 => h9) rfl dX5_layReport_159 ?_
                refine lv_iload_n hx hb dX5_layReport_162 rfl (lv_at hl 1 rfl) ?_
                refine lv_bipush (v := 48) hx hb dX5_layReport_163 (by decide) ?_
                refine lv_iload hx hb dX5_layReport_165 (lv_at hl 0 rfl) ?_
                refine lv_bipush (v := 10) hx hb dX5_layReport_167 (by decide) ?_
                refine lv_irem hx hb dX5_layReport_169 (by decide) ?_
                refine lv_iadd hx hb dX5_layReport_170 ?_
                obtain ⟨hg88, h⟩ := gd_some h
                refine g_iast (f := (a84 9)) (k := (((x1 + 1) + 2)).toNatClampNeg) hx hb hK hP MW_self hS 9 0 rfl rfl hg88 rfl dX5_layReport_171 (fun H locs hP hS => ?_)
                obtain ⟨a89, ha89, h⟩ := lt_some h
                have hP : va_P D vwCl (MW cI cZ q (a89, (mRef S), (mSize S), (mSpot S), (mRN S), (mN S), (mActs S))) H := by have h9 := hP; rw [MW_s9] at h9; rw [ha89]; exact h9
                refine lv_iinc (v := (((x1 + 1) + 2) + 1)) (lv' := [(1, .int (((x1 + 1) + 2) + 1)), (4, .int ((a84 3) ((72 + x2)).toNatClampNeg)), (3, .int ((a51 3) ((60 + x2)).toNatClampNeg)), (0, .ref q), (2, .int x2)]) hx hb dX5_layReport_172 hl (k := 1) rfl rfl (by decide) rfl (fun ls hl => ?_)
                refine lv_iinc (v := (x2 + 1)) (lv' := [(2, .int (x2 + 1)), (1, .int (((x1 + 1) + 2) + 1)), (4, .int ((a84 3) ((72 + x2)).toNatClampNeg)), (3, .int ((a51 3) ((60 + x2)).toNatClampNeg)), (0, .ref q)]) hx hb dX5_layReport_175 hl (k := 4) rfl rfl (by decide) rfl (fun ls hl => ?_)
                refine lv_goto (tgt := 4) hx hb dX5_layReport_178 (by decide) ?_
                exact ih (a89, (mRef S), (mSize S), (mSpot S), (mRN S), (mN S), (mActs S)) (((x1 + 1) + 2) + 1) (x2 + 1) H locs ls h hP hS (lv_sub hl [4, 1, 0] rfl)
            · replace h := (if_neg c86).symm.trans h
              refine lv_aload_n hx hb dX5_layReport_136 rfl (lv_at hl 3 rfl) ?_
              refine va_get (D := D) (ci := 5) (v := .ref (q + 9)) (C := RX5) (T := TX5) (N := 15) hx hb hts hinX5 hown hK hP 0 rfl rfl 14 (by decide) hf35 (fun _ h9 => h9) rfl dX5_layReport_137 ?_
              refine lv_iload_n hx hb dX5_layReport_140 rfl (lv_at hl 1 rfl) ?_
              refine lv_bipush (v := 48) hx hb dX5_layReport_141 (by decide) ?_
              refine lv_iload hx hb dX5_layReport_143 (lv_at hl 0 rfl) ?_
              refine lv_bipush (v := 10) hx hb dX5_layReport_145 (by decide) ?_
              refine lv_idiv hx hb dX5_layReport_147 (by decide) ?_
              refine lv_iadd hx hb dX5_layReport_148 ?_
              obtain ⟨hg90, h⟩ := gd_some h
              refine g_iast (f := (a84 9)) (k := (((x1 + 1) + 2)).toNatClampNeg) hx hb hK hP MW_self hS 9 0 rfl rfl hg90 rfl dX5_layReport_149 (fun H locs hP hS => ?_)
              obtain ⟨a91, ha91, h⟩ := lt_some h
              have hP : va_P D vwCl (MW cI cZ q (a91, (mRef S), (mSize S), (mSpot S), (mRN S), (mN S), (mActs S))) H := by have h9 := hP; rw [MW_s9] at h9; rw [ha91]; exact h9
              refine lv_iinc (v := (((x1 + 1) + 2) + 1)) (lv' := [(1, .int (((x1 + 1) + 2) + 1)), (4, .int ((a84 3) ((72 + x2)).toNatClampNeg)), (3, .int ((a51 3) ((60 + x2)).toNatClampNeg)), (0, .ref q), (2, .int x2)]) hx hb dX5_layReport_150 hl (k := 1) rfl rfl (by decide) rfl (fun ls hl => ?_)
              refine lv_iload hx hb dX5_layReport_153 (lv_at hl 1 rfl) ?_
              refine lv_if_lt (tgt := 175) hx hb dX5_layReport_155 (by decide) (fun c92 => ?_) (fun c92 => ?_)
              · replace h := (if_pos c92).symm.trans h
                refine lv_iinc (v := (x2 + 1)) (lv' := [(2, .int (x2 + 1)), (1, .int (((x1 + 1) + 2) + 1)), (4, .int ((a84 3) ((72 + x2)).toNatClampNeg)), (3, .int ((a51 3) ((60 + x2)).toNatClampNeg)), (0, .ref q)]) hx hb dX5_layReport_175 hl (k := 4) rfl rfl (by decide) rfl (fun ls hl => ?_)
                refine lv_goto (tgt := 4) hx hb dX5_layReport_178 (by decide) ?_
                exact ih (a91, (mRef S), (mSize S), (mSpot S), (mRN S), (mN S), (mActs S)) (((x1 + 1) + 2) + 1) (x2 + 1) H locs ls h hP hS (lv_sub hl [4, 1, 0] rfl)
              · replace h := (if_neg c92).symm.trans h
                refine lv_aload_n hx hb dX5_layReport_158 rfl (lv_at hl 3 rfl) ?_
                refine va_get (D := D) (ci := 5) (v := .ref (q + 9)) (C := RX5) (T := TX5) (N := 15) hx hb hts hinX5 hown hK hP 0 rfl rfl 14 (by decide) hf35 (fun _ h9 => h9) rfl dX5_layReport_159 ?_
                refine lv_iload_n hx hb dX5_layReport_162 rfl (lv_at hl 0 rfl) ?_
                refine lv_bipush (v := 48) hx hb dX5_layReport_163 (by decide) ?_
                refine lv_iload hx hb dX5_layReport_165 (lv_at hl 1 rfl) ?_
                refine lv_bipush (v := 10) hx hb dX5_layReport_167 (by decide) ?_
                refine lv_irem hx hb dX5_layReport_169 (by decide) ?_
                refine lv_iadd hx hb dX5_layReport_170 ?_
                obtain ⟨hg93, h⟩ := gd_some h
                refine g_iast (f := (a91 9)) (k := ((((x1 + 1) + 2) + 1)).toNatClampNeg) hx hb hK hP MW_self hS 9 0 rfl rfl hg93 rfl dX5_layReport_171 (fun H locs hP hS => ?_)
                obtain ⟨a94, ha94, h⟩ := lt_some h
                have hP : va_P D vwCl (MW cI cZ q (a94, (mRef S), (mSize S), (mSpot S), (mRN S), (mN S), (mActs S))) H := by have h9 := hP; rw [MW_s9] at h9; rw [ha94]; exact h9
                refine lv_iinc (v := ((((x1 + 1) + 2) + 1) + 1)) (lv' := [(1, .int ((((x1 + 1) + 2) + 1) + 1)), (4, .int ((a84 3) ((72 + x2)).toNatClampNeg)), (3, .int ((a51 3) ((60 + x2)).toNatClampNeg)), (0, .ref q), (2, .int x2)]) hx hb dX5_layReport_172 hl (k := 0) rfl rfl (by decide) rfl (fun ls hl => ?_)
                refine lv_iinc (v := (x2 + 1)) (lv' := [(2, .int (x2 + 1)), (1, .int ((((x1 + 1) + 2) + 1) + 1)), (4, .int ((a84 3) ((72 + x2)).toNatClampNeg)), (3, .int ((a51 3) ((60 + x2)).toNatClampNeg)), (0, .ref q)]) hx hb dX5_layReport_175 hl (k := 4) rfl rfl (by decide) rfl (fun ls hl => ?_)
                refine lv_goto (tgt := 4) hx hb dX5_layReport_178 (by decide) ?_
                exact ih (a94, (mRef S), (mSize S), (mSpot S), (mRN S), (mN S), (mActs S)) ((((x1 + 1) + 2) + 1) + 1) (x2 + 1) H locs ls h hP hS (lv_sub hl [4, 1, 0] rfl)
  unfold fX5_layReport at h
  obtain ⟨H, hH⟩ : ∃ H, H = s.heap := ⟨_, rfl⟩
  obtain ⟨locs, hlz⟩ : ∃ z : List Loc, z = [] := ⟨_, rfl⟩
  have hP : va_P D vwCl (MW cI cZ q M) H := by rw [hH]; exact hP
  have hS : va_S (fIv q 10) s.heap H locs := by rw [hH, hlz]; exact hS
  refine gc_at hH hlz ?_
  refine lv_iconst (v := 0) hx hb dX5_layReport_0 (by decide) ?_
  refine lv_istore_n (lv' := [(1, .int 0), (0, .ref q)]) hx hb dX5_layReport_1 rfl hl (by decide) rfl (fun ls hl => ?_)
  refine lv_iconst (v := 0) hx hb dX5_layReport_2 (by decide) ?_
  refine lv_istore_n (lv' := [(2, .int 0), (1, .int 0), (0, .ref q)]) hx hb dX5_layReport_3 rfl hl (by decide) rfl (fun ls hl => ?_)
  exact LP4 KF M 0 0 H locs ls h hP hS (lv_sub hl [2, 1, 0] rfl)
set_option maxHeartbeats 4000000 in
set_option maxRecDepth 100000 in
theorem kX5_report (l : Launch) (D : va_G) (cI cC cZ cQ cJ : ClassId) (q : Nat) (M : MSt) (p0 : Int32) {R : Int32 × MSt} (h : fX5_report M p0 = some R) : Met l yX5_report wsX5_report ({ frames := 1, cells := 0, slots := 0, locals := 24 } : Room) (va_Pc [.ref q, .int p0] (gB D (gTy cI cC cZ cQ cJ) (va_P D vwCl (MW cI cZ q M)))) (va_Qi (fun r (_ : Unit) => r = R.1) (fun _ t => va_P D vwCl (MW cI cZ q R.2) t.heap) (fIv q 10)) 0 0 (fIv q 10) := by
  refine Met.ofW (cc := cX5_report) (maxL := 2) (ret := (some .int)) (by decide) rfl ?_
  intro p e s m args below meth c s₁ B hml hv
  obtain ⟨rfl, hP, hK⟩ := hv
  have hx := B.exec
  have hb := B.bytes
  have hr := B.returns
  have hts := atoms_spec (ws := wsX5_report) B.pre
  have hown : s.vm.findClass RX5 = some m.cls := findClass_of_methodNamed B.named
  have hlocks := B.notSynchronized
  have hinX5 : ∀ w ∈ wsX50, w ∈ wsX5_report := by decide +kernel
  have hf35 := hts (.fieldLink RX5 35 "GripInspectorModel" "report" "[I") (by decide +kernel)
  generalize hRM : (headSpec wsX5_report ({ frames := 1, cells := 0, slots := 0, locals := 24 } : Room)).room = RM
  replace hRM : ({ frames := 1, cells := 0, slots := 0, locals := 24 } : Room) = RM := hRM
  subst hRM
  have hl := lv_entry ([.ref q, .int p0]) (n := 2) (Nat.le_of_ble_eq_true rfl)
  rw [lg_entry_eq]
  generalize (lg_sl ([.ref q, .int p0]) ++ List.replicate (2 - (lg_sl ([.ref q, .int p0])).length) Slot.unset).toArray = ls at hl ⊢
  have hl : lv_has ls 2 [(0, .ref q), (1, .int p0)] := hl
  have hS : va_S (fIv q 10) s.heap s.heap [] := va_S.rf
  unfold fX5_report at h
  obtain ⟨H, hH⟩ : ∃ H, H = s.heap := ⟨_, rfl⟩
  obtain ⟨locs, hlz⟩ : ∃ z : List Loc, z = [] := ⟨_, rfl⟩
  have hP : va_P D vwCl (MW cI cZ q M) H := by rw [hH]; exact hP
  have hS : va_S (fIv q 10) s.heap H locs := by rw [hH, hlz]; exact hS
  refine gc_at hH hlz ?_
  refine lv_aload_n hx hb dX5_report_0 rfl (lv_at hl 0 rfl) ?_
  refine lv_iload_n hx hb dX5_report_1 rfl (lv_at hl 1 rfl) ?_
  refine lv_if_ge (tgt := 9) hx hb dX5_report_2 (by decide) (fun c1 => ?_) (fun c1 => ?_)
  · replace h := (if_pos c1).symm.trans h
    refine lv_iconst (v := 0) hx hb dX5_report_9 (by decide) ?_
    obtain ⟨r10, hr10, h⟩ := bd_some h
    refine gc_wi (As := [.int 0]) (rest := []) ⟨hx, hb, hml, hown, hts⟩ hK (kX5_refused l D cI cC cZ cQ cJ q M 0 hr10) (cwV 1 hts gX5_report_X5_refused rfl rfl rfl (by decide +kernel) ⟨Nat.le_of_ble_eq_true rfl, Nat.le_of_ble_eq_true rfl⟩) (va_recv hK hP (ci := 5) (q0 := 0) rfl rfl) hP hS (fun _ h => h) rfl hl.1 rfl (Nat.le_of_ble_eq_true rfl) ⟨Nat.zero_le _, Nat.zero_le _⟩ dX5_report_10 (fun H locs hP hS _ _ => ?_)
    refine lv_if_eq (tgt := 18) hx hb dX5_report_13 (by decide) (fun c2 => ?_) (fun c2 => ?_)
    · replace h := (if_pos c2).symm.trans h
      refine lv_iload_n hx hb dX5_report_18 rfl (lv_at hl 1 rfl) ?_
      refine lv_aload_n hx hb dX5_report_19 rfl (lv_at hl 0 rfl) ?_
      obtain ⟨r20, hr20, h⟩ := bd_some h
      refine gc_wi (As := []) (rest := [.int p0]) ⟨hx, hb, hml, hown, hts⟩ hK (kX5_layReport l D cI cC cZ cQ cJ q r10.2 hr20) (cwV 0 hts gX5_report_X5_layReport rfl rfl rfl (by decide +kernel) ⟨Nat.le_of_ble_eq_true rfl, Nat.le_of_ble_eq_true rfl⟩) (va_recv hK hP (ci := 5) (q0 := 0) rfl rfl) hP hS (fun _ h => h) rfl hl.1 rfl (Nat.le_of_ble_eq_true rfl) ⟨Nat.zero_le _, Nat.zero_le _⟩ dX5_report_20 (fun H locs hP hS _ _ => ?_)
      refine lv_icmp_ge (tgt := 35) hx hb dX5_report_23 (by decide) (fun c3 => ?_) (fun c3 => ?_)
      · replace h := (if_pos c3).symm.trans h
        refine lv_bipush (v := (-9)) hx hb dX5_report_35 (by decide) ?_
        have h := Option.some.inj h
        subst h
        exact W.iret (v := (-9)) hx hb hr (fun t ht hW => ⟨⟨_, (), rfl, rfl, gh ht hP⟩, hS.F ht⟩) hS.2.2 dX5_report_37
      · replace h := (if_neg c3).symm.trans h
        refine lv_aload_n hx hb dX5_report_26 rfl (lv_at hl 0 rfl) ?_
        refine va_get (D := D) (ci := 5) (v := .ref (q + 9)) (C := RX5) (T := TX5) (N := 15) hx hb hts hinX5 hown hK hP 0 rfl rfl 14 (by decide) hf35 (fun _ h9 => h9) rfl dX5_report_27 ?_
        refine lv_iload_n hx hb dX5_report_30 rfl (lv_at hl 1 rfl) ?_
        obtain ⟨hg4, h⟩ := gd_some h
        refine g_iald (f := ((mA r20.2) 9)) (k := p0.toNatClampNeg) hx hb hK hP 9 0 rfl rfl hg4 rfl dX5_report_31 ?_
        refine lv_goto (tgt := 37) hx hb dX5_report_32 (by decide) ?_
        have h := Option.some.inj h
        subst h
        exact W.iret (v := (((mA r20.2) 9) p0.toNatClampNeg)) hx hb hr (fun t ht hW => ⟨⟨_, (), rfl, rfl, gh ht hP⟩, hS.F ht⟩) hS.2.2 dX5_report_37
    · replace h := (if_neg c2).symm.trans h
      refine lv_iconst (v := 0) hx hb dX5_report_16 (by decide) ?_
      have h := Option.some.inj h
      subst h
      exact W.iret (v := 0) hx hb hr (fun t ht hW => ⟨⟨_, (), rfl, rfl, gh ht hP⟩, hS.F ht⟩) hS.2.2 dX5_report_17
  · replace h := (if_neg c1).symm.trans h
    refine lv_iconst (v := 1) hx hb dX5_report_5 (by decide) ?_
    refine lv_goto (tgt := 10) hx hb dX5_report_6 (by decide) ?_
    obtain ⟨r10, hr10, h⟩ := bd_some h
    refine gc_wi (As := [.int 1]) (rest := []) ⟨hx, hb, hml, hown, hts⟩ hK (kX5_refused l D cI cC cZ cQ cJ q M 1 hr10) (cwV 1 hts gX5_report_X5_refused rfl rfl rfl (by decide +kernel) ⟨Nat.le_of_ble_eq_true rfl, Nat.le_of_ble_eq_true rfl⟩) (va_recv hK hP (ci := 5) (q0 := 0) rfl rfl) hP hS (fun _ h => h) rfl hl.1 rfl (Nat.le_of_ble_eq_true rfl) ⟨Nat.zero_le _, Nat.zero_le _⟩ dX5_report_10 (fun H locs hP hS _ _ => ?_)
    refine lv_if_eq (tgt := 18) hx hb dX5_report_13 (by decide) (fun c5 => ?_) (fun c5 => ?_)
    · replace h := (if_pos c5).symm.trans h
      refine lv_iload_n hx hb dX5_report_18 rfl (lv_at hl 1 rfl) ?_
      refine lv_aload_n hx hb dX5_report_19 rfl (lv_at hl 0 rfl) ?_
      obtain ⟨r20, hr20, h⟩ := bd_some h
      refine gc_wi (As := []) (rest := [.int p0]) ⟨hx, hb, hml, hown, hts⟩ hK (kX5_layReport l D cI cC cZ cQ cJ q r10.2 hr20) (cwV 0 hts gX5_report_X5_layReport rfl rfl rfl (by decide +kernel) ⟨Nat.le_of_ble_eq_true rfl, Nat.le_of_ble_eq_true rfl⟩) (va_recv hK hP (ci := 5) (q0 := 0) rfl rfl) hP hS (fun _ h => h) rfl hl.1 rfl (Nat.le_of_ble_eq_true rfl) ⟨Nat.zero_le _, Nat.zero_le _⟩ dX5_report_20 (fun H locs hP hS _ _ => ?_)
      refine lv_icmp_ge (tgt := 35) hx hb dX5_report_23 (by decide) (fun c6 => ?_) (fun c6 => ?_)
      · replace h := (if_pos c6).symm.trans h
        refine lv_bipush (v := (-9)) hx hb dX5_report_35 (by decide) ?_
        have h := Option.some.inj h
        subst h
        exact W.iret (v := (-9)) hx hb hr (fun t ht hW => ⟨⟨_, (), rfl, rfl, gh ht hP⟩, hS.F ht⟩) hS.2.2 dX5_report_37
      · replace h := (if_neg c6).symm.trans h
        refine lv_aload_n hx hb dX5_report_26 rfl (lv_at hl 0 rfl) ?_
        refine va_get (D := D) (ci := 5) (v := .ref (q + 9)) (C := RX5) (T := TX5) (N := 15) hx hb hts hinX5 hown hK hP 0 rfl rfl 14 (by decide) hf35 (fun _ h9 => h9) rfl dX5_report_27 ?_
        refine lv_iload_n hx hb dX5_report_30 rfl (lv_at hl 1 rfl) ?_
        obtain ⟨hg7, h⟩ := gd_some h
        refine g_iald (f := ((mA r20.2) 9)) (k := p0.toNatClampNeg) hx hb hK hP 9 0 rfl rfl hg7 rfl dX5_report_31 ?_
        refine lv_goto (tgt := 37) hx hb dX5_report_32 (by decide) ?_
        have h := Option.some.inj h
        subst h
        exact W.iret (v := (((mA r20.2) 9) p0.toNatClampNeg)) hx hb hr (fun t ht hW => ⟨⟨_, (), rfl, rfl, gh ht hP⟩, hS.F ht⟩) hS.2.2 dX5_report_37
    · replace h := (if_neg c5).symm.trans h
      refine lv_iconst (v := 0) hx hb dX5_report_16 (by decide) ?_
      have h := Option.some.inj h
      subst h
      exact W.iret (v := 0) hx hb hr (fun t ht hW => ⟨⟨_, (), rfl, rfl, gh ht hP⟩, hS.F ht⟩) hS.2.2 dX5_report_17
set_option maxHeartbeats 4000000 in
set_option maxRecDepth 100000 in
theorem kX5_step (l : Launch) (D : va_G) (cI cC cZ cQ cJ : ClassId) (q : Nat) (M : MSt) (p0 : Int32) {R : Int32 × MSt} (h : fX5_step M p0 = some R) : Met l yX5_step wsX5_step ({ frames := 4, cells := 0, slots := 0, locals := 98 } : Room) (va_Pc [.ref q, .int p0] (gB D (gTy cI cC cZ cQ cJ) (va_P D vwCl (MW cI cZ q M)))) (va_Qi (fun r (_ : Unit) => r = R.1) (fun _ t => va_P D vwCl (MW cI cZ q R.2) t.heap) (fIv q 10)) 0 0 (fIv q 10) := by
  refine Met.ofW (cc := cX5_step) (maxL := 2) (ret := (some .int)) (by decide) rfl ?_
  intro p e s m args below meth c s₁ B hml hv
  obtain ⟨rfl, hP, hK⟩ := hv
  have hx := B.exec
  have hb := B.bytes
  have hr := B.returns
  have hts := atoms_spec (ws := wsX5_step) B.pre
  have hown : s.vm.findClass RX5 = some m.cls := findClass_of_methodNamed B.named
  have hlocks := B.notSynchronized
  have hinX5 : ∀ w ∈ wsX50, w ∈ wsX5_step := by decide +kernel
  have hf16 := hts (.fieldLink RX5 16 "GripInspectorModel" "now" "[I") (by decide +kernel)
  generalize hRM : (headSpec wsX5_step ({ frames := 4, cells := 0, slots := 0, locals := 98 } : Room)).room = RM
  replace hRM : ({ frames := 4, cells := 0, slots := 0, locals := 98 } : Room) = RM := hRM
  subst hRM
  have hl := lv_entry ([.ref q, .int p0]) (n := 2) (Nat.le_of_ble_eq_true rfl)
  rw [lg_entry_eq]
  generalize (lg_sl ([.ref q, .int p0]) ++ List.replicate (2 - (lg_sl ([.ref q, .int p0])).length) Slot.unset).toArray = ls at hl ⊢
  have hl : lv_has ls 2 [(0, .ref q), (1, .int p0)] := hl
  have hS : va_S (fIv q 10) s.heap s.heap [] := va_S.rf
  unfold fX5_step at h
  obtain ⟨H, hH⟩ : ∃ H, H = s.heap := ⟨_, rfl⟩
  obtain ⟨locs, hlz⟩ : ∃ z : List Loc, z = [] := ⟨_, rfl⟩
  have hP : va_P D vwCl (MW cI cZ q M) H := by rw [hH]; exact hP
  have hS : va_S (fIv q 10) s.heap H locs := by rw [hH, hlz]; exact hS
  refine gc_at hH hlz ?_
  refine lv_aload_n hx hb dX5_step_0 rfl (lv_at hl 0 rfl) ?_
  refine lv_iload_n hx hb dX5_step_1 rfl (lv_at hl 1 rfl) ?_
  refine lv_i2l hx hb dX5_step_2 rfl ?_
  refine lv_lconst (v := 1) hx hb dX5_step_3 (by decide) ?_
  refine lv_ldc2 (v := 99) hx hb hown (hts (.constantLong RX5 152 (99)) (by decide +kernel)) dX5_step_4 ?_
  obtain ⟨r7, hr7, h⟩ := bd_some h
  refine gc_si (As := [.long ((p0).toInt64), .long 1, .long 99]) (rest := [.ref q]) ⟨hx, hb, hml, hown, hts⟩ hK (kX5_in l D cI cC cZ cQ cJ ((p0).toInt64) 1 99 hr7) (va_cwS 3 hts gX5_step_X5_in rfl rfl rfl (by decide +kernel) ⟨Nat.le_of_ble_eq_true rfl, Nat.le_of_ble_eq_true rfl⟩)  trivial rfl hl.1 rfl (Nat.le_of_ble_eq_true rfl) ⟨Nat.zero_le _, Nat.zero_le _⟩ dX5_step_7 ?_
  refine lv_if_eq (tgt := 17) hx hb dX5_step_10 (by decide) (fun c1 => ?_) (fun c1 => ?_)
  · replace h := (if_pos c1).symm.trans h
    refine lv_iconst (v := 1) hx hb dX5_step_17 (by decide) ?_
    obtain ⟨r18, hr18, h⟩ := bd_some h
    refine gc_wi (As := [.int 1]) (rest := []) ⟨hx, hb, hml, hown, hts⟩ hK (kX5_refused l D cI cC cZ cQ cJ q M 1 hr18) (cwV 1 hts gX5_step_X5_refused rfl rfl rfl (by decide +kernel) ⟨Nat.le_of_ble_eq_true rfl, Nat.le_of_ble_eq_true rfl⟩) (va_recv hK hP (ci := 5) (q0 := 0) rfl rfl) hP hS (fun _ h => h) rfl hl.1 rfl (Nat.le_of_ble_eq_true rfl) ⟨Nat.zero_le _, Nat.zero_le _⟩ dX5_step_18 (fun H locs hP hS _ _ => ?_)
    refine lv_if_eq (tgt := 26) hx hb dX5_step_21 (by decide) (fun c2 => ?_) (fun c2 => ?_)
    · replace h := (if_pos c2).symm.trans h
      refine lv_aload_n hx hb dX5_step_26 rfl (lv_at hl 0 rfl) ?_
      obtain ⟨r27, hr27, h⟩ := bd_some h
      refine gc_wv (As := []) (rest := []) ⟨hx, hb, hml, hown, hts⟩ hK (kX5_note l D cI cC cZ cQ cJ q r18.2 hr27) (cwV 0 hts gX5_step_X5_note rfl rfl rfl (by decide +kernel) ⟨Nat.le_of_ble_eq_true rfl, Nat.le_of_ble_eq_true rfl⟩) (va_recv hK hP (ci := 5) (q0 := 0) rfl rfl) hP hS (fun _ h => h) rfl hl.1 rfl (Nat.le_of_ble_eq_true rfl) ⟨Nat.zero_le _, Nat.zero_le _⟩ dX5_step_27 (fun H locs hP hS _ _ => ?_)
      refine lv_aload_n hx hb dX5_step_30 rfl (lv_at hl 0 rfl) ?_
      refine lv_aload_n hx hb dX5_step_31 rfl (lv_at hl 0 rfl) ?_
      refine va_get (D := D) (ci := 5) (v := .ref (q + 3)) (C := RX5) (T := TX5) (N := 15) hx hb hts hinX5 hown hK hP 0 rfl rfl 7 (by decide) hf16 (fun _ h9 => h9) rfl dX5_step_32 ?_
      refine lv_iload_n hx hb dX5_step_35 rfl (lv_at hl 1 rfl) ?_
      obtain ⟨r36, hr36, h⟩ := bd_some h
      refine gc_wv (As := [.ref (q + 3), .int p0]) (rest := []) ⟨hx, hb, hml, hown, hts⟩ hK (kX5_stepsOn l D cI cC cZ cQ cJ q 3 r27 p0 (Or.inr (Or.inl rfl)) hr36) (cwV 2 hts gX5_step_X5_stepsOn rfl rfl rfl (by decide +kernel) ⟨Nat.le_of_ble_eq_true rfl, Nat.le_of_ble_eq_true rfl⟩) (va_recv hK hP (ci := 5) (q0 := 0) rfl rfl) hP hS (fun _ h => h) rfl hl.1 rfl (Nat.le_of_ble_eq_true rfl) ⟨Nat.zero_le _, Nat.zero_le _⟩ dX5_step_36 (fun H locs hP hS _ _ => ?_)
      refine lv_aload_n hx hb dX5_step_39 rfl (lv_at hl 0 rfl) ?_
      refine va_get (D := D) (ci := 5) (v := .ref (q + 3)) (C := RX5) (T := TX5) (N := 15) hx hb hts hinX5 hown hK hP 0 rfl rfl 7 (by decide) hf16 (fun _ h9 => h9) rfl dX5_step_40 ?_
      refine lv_iconst (v := 2) hx hb dX5_step_43 (by decide) ?_
      obtain ⟨r44, hr44, h⟩ := bd_some h
      refine gc_si (As := [.ref (q + 3), .int 2]) (rest := []) ⟨hx, hb, hml, hown, hts⟩ hK (kX5_count l D cI cC cZ cQ cJ q 3 r36 2 (Or.inr (Or.inl rfl)) hr44) (va_cwS 2 hts gX5_step_X5_count rfl rfl rfl (by decide +kernel) ⟨Nat.le_of_ble_eq_true rfl, Nat.le_of_ble_eq_true rfl⟩)  hP rfl hl.1 rfl (Nat.le_of_ble_eq_true rfl) ⟨Nat.zero_le _, Nat.zero_le _⟩ dX5_step_44 ?_
      have h := Option.some.inj h
      subst h
      exact W.iret (v := r44) hx hb hr (fun t ht hW => ⟨⟨_, (), rfl, rfl, gh ht hP⟩, hS.F ht⟩) hS.2.2 dX5_step_47
    · replace h := (if_neg c2).symm.trans h
      refine lv_iconst (v := 0) hx hb dX5_step_24 (by decide) ?_
      have h := Option.some.inj h
      subst h
      exact W.iret (v := 0) hx hb hr (fun t ht hW => ⟨⟨_, (), rfl, rfl, gh ht hP⟩, hS.F ht⟩) hS.2.2 dX5_step_25
  · replace h := (if_neg c1).symm.trans h
    refine lv_iconst (v := 0) hx hb dX5_step_13 (by decide) ?_
    refine lv_goto (tgt := 18) hx hb dX5_step_14 (by decide) ?_
    obtain ⟨r18, hr18, h⟩ := bd_some h
    refine gc_wi (As := [.int 0]) (rest := []) ⟨hx, hb, hml, hown, hts⟩ hK (kX5_refused l D cI cC cZ cQ cJ q M 0 hr18) (cwV 1 hts gX5_step_X5_refused rfl rfl rfl (by decide +kernel) ⟨Nat.le_of_ble_eq_true rfl, Nat.le_of_ble_eq_true rfl⟩) (va_recv hK hP (ci := 5) (q0 := 0) rfl rfl) hP hS (fun _ h => h) rfl hl.1 rfl (Nat.le_of_ble_eq_true rfl) ⟨Nat.zero_le _, Nat.zero_le _⟩ dX5_step_18 (fun H locs hP hS _ _ => ?_)
    refine lv_if_eq (tgt := 26) hx hb dX5_step_21 (by decide) (fun c3 => ?_) (fun c3 => ?_)
    · replace h := (if_pos c3).symm.trans h
      refine lv_aload_n hx hb dX5_step_26 rfl (lv_at hl 0 rfl) ?_
      obtain ⟨r27, hr27, h⟩ := bd_some h
      refine gc_wv (As := []) (rest := []) ⟨hx, hb, hml, hown, hts⟩ hK (kX5_note l D cI cC cZ cQ cJ q r18.2 hr27) (cwV 0 hts gX5_step_X5_note rfl rfl rfl (by decide +kernel) ⟨Nat.le_of_ble_eq_true rfl, Nat.le_of_ble_eq_true rfl⟩) (va_recv hK hP (ci := 5) (q0 := 0) rfl rfl) hP hS (fun _ h => h) rfl hl.1 rfl (Nat.le_of_ble_eq_true rfl) ⟨Nat.zero_le _, Nat.zero_le _⟩ dX5_step_27 (fun H locs hP hS _ _ => ?_)
      refine lv_aload_n hx hb dX5_step_30 rfl (lv_at hl 0 rfl) ?_
      refine lv_aload_n hx hb dX5_step_31 rfl (lv_at hl 0 rfl) ?_
      refine va_get (D := D) (ci := 5) (v := .ref (q + 3)) (C := RX5) (T := TX5) (N := 15) hx hb hts hinX5 hown hK hP 0 rfl rfl 7 (by decide) hf16 (fun _ h9 => h9) rfl dX5_step_32 ?_
      refine lv_iload_n hx hb dX5_step_35 rfl (lv_at hl 1 rfl) ?_
      obtain ⟨r36, hr36, h⟩ := bd_some h
      refine gc_wv (As := [.ref (q + 3), .int p0]) (rest := []) ⟨hx, hb, hml, hown, hts⟩ hK (kX5_stepsOn l D cI cC cZ cQ cJ q 3 r27 p0 (Or.inr (Or.inl rfl)) hr36) (cwV 2 hts gX5_step_X5_stepsOn rfl rfl rfl (by decide +kernel) ⟨Nat.le_of_ble_eq_true rfl, Nat.le_of_ble_eq_true rfl⟩) (va_recv hK hP (ci := 5) (q0 := 0) rfl rfl) hP hS (fun _ h => h) rfl hl.1 rfl (Nat.le_of_ble_eq_true rfl) ⟨Nat.zero_le _, Nat.zero_le _⟩ dX5_step_36 (fun H locs hP hS _ _ => ?_)
      refine lv_aload_n hx hb dX5_step_39 rfl (lv_at hl 0 rfl) ?_
      refine va_get (D := D) (ci := 5) (v := .ref (q + 3)) (C := RX5) (T := TX5) (N := 15) hx hb hts hinX5 hown hK hP 0 rfl rfl 7 (by decide) hf16 (fun _ h9 => h9) rfl dX5_step_40 ?_
      refine lv_iconst (v := 2) hx hb dX5_step_43 (by decide) ?_
      obtain ⟨r44, hr44, h⟩ := bd_some h
      refine gc_si (As := [.ref (q + 3), .int 2]) (rest := []) ⟨hx, hb, hml, hown, hts⟩ hK (kX5_count l D cI cC cZ cQ cJ q 3 r36 2 (Or.inr (Or.inl rfl)) hr44) (va_cwS 2 hts gX5_step_X5_count rfl rfl rfl (by decide +kernel) ⟨Nat.le_of_ble_eq_true rfl, Nat.le_of_ble_eq_true rfl⟩)  hP rfl hl.1 rfl (Nat.le_of_ble_eq_true rfl) ⟨Nat.zero_le _, Nat.zero_le _⟩ dX5_step_44 ?_
      have h := Option.some.inj h
      subst h
      exact W.iret (v := r44) hx hb hr (fun t ht hW => ⟨⟨_, (), rfl, rfl, gh ht hP⟩, hS.F ht⟩) hS.2.2 dX5_step_47
    · replace h := (if_neg c3).symm.trans h
      refine lv_iconst (v := 0) hx hb dX5_step_24 (by decide) ?_
      have h := Option.some.inj h
      subst h
      exact W.iret (v := 0) hx hb hr (fun t ht hW => ⟨⟨_, (), rfl, rfl, gh ht hP⟩, hS.F ht⟩) hS.2.2 dX5_step_25
set_option maxHeartbeats 4000000 in
set_option maxRecDepth 100000 in
theorem kX5_addGrip (l : Launch) (D : va_G) (cI cC cZ cQ cJ : ClassId) (q : Nat) (M : MSt) (p0 : Int32) {R : Int32 × MSt} (h : fX5_addGrip M p0 = some R) : Met l yX5_addGrip wsX5_addGrip ({ frames := 2, cells := 0, slots := 0, locals := 45 } : Room) (va_Pc [.ref q, .int p0] (gB D (gTy cI cC cZ cQ cJ) (va_P D vwCl (MW cI cZ q M)))) (va_Qi (fun r (_ : Unit) => r = R.1) (fun _ t => va_P D vwCl (MW cI cZ q R.2) t.heap) (fIv q 10)) 0 0 (fIv q 10) := by
  refine Met.ofW (cc := cX5_addGrip) (maxL := 2) (ret := (some .int)) (by decide) rfl ?_
  intro p e s m args below meth c s₁ B hml hv
  obtain ⟨rfl, hP, hK⟩ := hv
  have hx := B.exec
  have hb := B.bytes
  have hr := B.returns
  have hts := atoms_spec (ws := wsX5_addGrip) B.pre
  have hown : s.vm.findClass RX5 = some m.cls := findClass_of_methodNamed B.named
  have hlocks := B.notSynchronized
  have hinX5 : ∀ w ∈ wsX50, w ∈ wsX5_addGrip := by decide +kernel
  have hf16 := hts (.fieldLink RX5 16 "GripInspectorModel" "now" "[I") (by decide +kernel)
  generalize hRM : (headSpec wsX5_addGrip ({ frames := 2, cells := 0, slots := 0, locals := 45 } : Room)).room = RM
  replace hRM : ({ frames := 2, cells := 0, slots := 0, locals := 45 } : Room) = RM := hRM
  subst hRM
  have hl := lv_entry ([.ref q, .int p0]) (n := 2) (Nat.le_of_ble_eq_true rfl)
  rw [lg_entry_eq]
  generalize (lg_sl ([.ref q, .int p0]) ++ List.replicate (2 - (lg_sl ([.ref q, .int p0])).length) Slot.unset).toArray = ls at hl ⊢
  have hl : lv_has ls 2 [(0, .ref q), (1, .int p0)] := hl
  have hS : va_S (fIv q 10) s.heap s.heap [] := va_S.rf
  unfold fX5_addGrip at h
  obtain ⟨H, hH⟩ : ∃ H, H = s.heap := ⟨_, rfl⟩
  obtain ⟨locs, hlz⟩ : ∃ z : List Loc, z = [] := ⟨_, rfl⟩
  have hP : va_P D vwCl (MW cI cZ q M) H := by rw [hH]; exact hP
  have hS : va_S (fIv q 10) s.heap H locs := by rw [hH, hlz]; exact hS
  refine gc_at hH hlz ?_
  refine lv_aload_n hx hb dX5_addGrip_0 rfl (lv_at hl 0 rfl) ?_
  refine lv_iload_n hx hb dX5_addGrip_1 rfl (lv_at hl 1 rfl) ?_
  refine lv_i2l hx hb dX5_addGrip_2 rfl ?_
  refine lv_lconst (v := 0) hx hb dX5_addGrip_3 (by decide) ?_
  refine lv_ldc2 (v := 3) hx hb hown (hts (.constantLong RX5 161 (3)) (by decide +kernel)) dX5_addGrip_4 ?_
  obtain ⟨r7, hr7, h⟩ := bd_some h
  refine gc_si (As := [.long ((p0).toInt64), .long 0, .long 3]) (rest := [.ref q]) ⟨hx, hb, hml, hown, hts⟩ hK (kX5_in l D cI cC cZ cQ cJ ((p0).toInt64) 0 3 hr7) (va_cwS 3 hts gX5_addGrip_X5_in rfl rfl rfl (by decide +kernel) ⟨Nat.le_of_ble_eq_true rfl, Nat.le_of_ble_eq_true rfl⟩)  trivial rfl hl.1 rfl (Nat.le_of_ble_eq_true rfl) ⟨Nat.zero_le _, Nat.zero_le _⟩ dX5_addGrip_7 ?_
  refine lv_if_ne (tgt := 17) hx hb dX5_addGrip_10 (by decide) (fun c1 => ?_) (fun c1 => ?_)
  · replace h := (if_neg c1).symm.trans h
    refine lv_aload_n hx hb dX5_addGrip_17 rfl (lv_at hl 0 rfl) ?_
    refine va_get (D := D) (ci := 5) (v := .ref (q + 3)) (C := RX5) (T := TX5) (N := 15) hx hb hts hinX5 hown hK hP 0 rfl rfl 7 (by decide) hf16 (fun _ h9 => h9) rfl dX5_addGrip_18 ?_
    refine lv_bipush (v := 96) hx hb dX5_addGrip_21 (by decide) ?_
    refine g_iald (f := ((mA M) 3)) (k := 96) hx hb hK hP 3 0 rfl rfl (vin_lit rfl) rfl dX5_addGrip_23 ?_
    refine lv_bipush (v := 12) hx hb dX5_addGrip_24 (by decide) ?_
    refine lv_icmp_ne (tgt := 33) hx hb dX5_addGrip_26 (by decide) (fun c2 => ?_) (fun c2 => ?_)
    · replace h := (if_neg c2).symm.trans h
      refine lv_iconst (v := 0) hx hb dX5_addGrip_33 (by decide) ?_
      obtain ⟨r34, hr34, h⟩ := bd_some h
      refine gc_wi (As := [.int 0]) (rest := []) ⟨hx, hb, hml, hown, hts⟩ hK (kX5_refused l D cI cC cZ cQ cJ q M 0 hr34) (cwV 1 hts gX5_addGrip_X5_refused rfl rfl rfl (by decide +kernel) ⟨Nat.le_of_ble_eq_true rfl, Nat.le_of_ble_eq_true rfl⟩) (va_recv hK hP (ci := 5) (q0 := 0) rfl rfl) hP hS (fun _ h => h) rfl hl.1 rfl (Nat.le_of_ble_eq_true rfl) ⟨Nat.zero_le _, Nat.zero_le _⟩ dX5_addGrip_34 (fun H locs hP hS _ _ => ?_)
      refine lv_if_eq (tgt := 42) hx hb dX5_addGrip_37 (by decide) (fun c3 => ?_) (fun c3 => ?_)
      · replace h := (if_pos c3).symm.trans h
        refine lv_aload_n hx hb dX5_addGrip_42 rfl (lv_at hl 0 rfl) ?_
        obtain ⟨r43, hr43, h⟩ := bd_some h
        refine gc_wv (As := []) (rest := []) ⟨hx, hb, hml, hown, hts⟩ hK (kX5_note l D cI cC cZ cQ cJ q r34.2 hr43) (cwV 0 hts gX5_addGrip_X5_note rfl rfl rfl (by decide +kernel) ⟨Nat.le_of_ble_eq_true rfl, Nat.le_of_ble_eq_true rfl⟩) (va_recv hK hP (ci := 5) (q0 := 0) rfl rfl) hP hS (fun _ h => h) rfl hl.1 rfl (Nat.le_of_ble_eq_true rfl) ⟨Nat.zero_le _, Nat.zero_le _⟩ dX5_addGrip_43 (fun H locs hP hS _ _ => ?_)
        refine lv_aload_n hx hb dX5_addGrip_46 rfl (lv_at hl 0 rfl) ?_
        refine va_get (D := D) (ci := 5) (v := .ref (q + 3)) (C := RX5) (T := TX5) (N := 15) hx hb hts hinX5 hown hK hP 0 rfl rfl 7 (by decide) hf16 (fun _ h9 => h9) rfl dX5_addGrip_47 ?_
        refine lv_iload_n hx hb dX5_addGrip_50 rfl (lv_at hl 1 rfl) ?_
        refine lv_iconst (v := 1) hx hb dX5_addGrip_51 (by decide) ?_
        refine lv_iconst (v := 0) hx hb dX5_addGrip_52 (by decide) ?_
        obtain ⟨r53, hr53, h⟩ := bd_some h
        refine gc_swv (As := [.ref (q + 3), .int p0, .int 1, .int 0]) (rest := []) ⟨hx, hb, hml, hown, hts⟩ hK (kX5_addOn l D cI cC cZ cQ cJ q 3 r43 p0 1 0 (Or.inr (Or.inl rfl)) hr53) (va_cwS 4 hts gX5_addGrip_X5_addOn rfl rfl rfl (by decide +kernel) ⟨Nat.le_of_ble_eq_true rfl, Nat.le_of_ble_eq_true rfl⟩)  hP hS (fun _ h => h) rfl hl.1 rfl (Nat.le_of_ble_eq_true rfl) ⟨Nat.zero_le _, Nat.zero_le _⟩ dX5_addGrip_53 (fun H locs hP hS _ _ => ?_)
        refine lv_aload_n hx hb dX5_addGrip_56 rfl (lv_at hl 0 rfl) ?_
        refine va_get (D := D) (ci := 5) (v := .ref (q + 3)) (C := RX5) (T := TX5) (N := 15) hx hb hts hinX5 hown hK hP 0 rfl rfl 7 (by decide) hf16 (fun _ h9 => h9) rfl dX5_addGrip_57 ?_
        refine lv_bipush (v := 96) hx hb dX5_addGrip_60 (by decide) ?_
        refine g_iald (f := ((mA r53) 3)) (k := 96) hx hb hK hP 3 0 rfl rfl (vin_lit rfl) rfl dX5_addGrip_62 ?_
        refine lv_iconst (v := 1) hx hb dX5_addGrip_63 (by decide) ?_
        refine lv_isub hx hb dX5_addGrip_64 ?_
        have h := Option.some.inj h
        subst h
        exact W.iret (v := ((((mA r53) 3) 96) - 1)) hx hb hr (fun t ht hW => ⟨⟨_, (), rfl, rfl, gh ht hP⟩, hS.F ht⟩) hS.2.2 dX5_addGrip_65
      · replace h := (if_neg c3).symm.trans h
        refine lv_iconst (v := 0) hx hb dX5_addGrip_40 (by decide) ?_
        have h := Option.some.inj h
        subst h
        exact W.iret (v := 0) hx hb hr (fun t ht hW => ⟨⟨_, (), rfl, rfl, gh ht hP⟩, hS.F ht⟩) hS.2.2 dX5_addGrip_41
    · replace h := (if_pos c2).symm.trans h
      refine lv_iconst (v := 2) hx hb dX5_addGrip_29 (by decide) ?_
      refine lv_goto (tgt := 34) hx hb dX5_addGrip_30 (by decide) ?_
      obtain ⟨r34, hr34, h⟩ := bd_some h
      refine gc_wi (As := [.int 2]) (rest := []) ⟨hx, hb, hml, hown, hts⟩ hK (kX5_refused l D cI cC cZ cQ cJ q M 2 hr34) (cwV 1 hts gX5_addGrip_X5_refused rfl rfl rfl (by decide +kernel) ⟨Nat.le_of_ble_eq_true rfl, Nat.le_of_ble_eq_true rfl⟩) (va_recv hK hP (ci := 5) (q0 := 0) rfl rfl) hP hS (fun _ h => h) rfl hl.1 rfl (Nat.le_of_ble_eq_true rfl) ⟨Nat.zero_le _, Nat.zero_le _⟩ dX5_addGrip_34 (fun H locs hP hS _ _ => ?_)
      refine lv_if_eq (tgt := 42) hx hb dX5_addGrip_37 (by decide) (fun c4 => ?_) (fun c4 => ?_)
      · replace h := (if_pos c4).symm.trans h
        refine lv_aload_n hx hb dX5_addGrip_42 rfl (lv_at hl 0 rfl) ?_
        obtain ⟨r43, hr43, h⟩ := bd_some h
        refine gc_wv (As := []) (rest := []) ⟨hx, hb, hml, hown, hts⟩ hK (kX5_note l D cI cC cZ cQ cJ q r34.2 hr43) (cwV 0 hts gX5_addGrip_X5_note rfl rfl rfl (by decide +kernel) ⟨Nat.le_of_ble_eq_true rfl, Nat.le_of_ble_eq_true rfl⟩) (va_recv hK hP (ci := 5) (q0 := 0) rfl rfl) hP hS (fun _ h => h) rfl hl.1 rfl (Nat.le_of_ble_eq_true rfl) ⟨Nat.zero_le _, Nat.zero_le _⟩ dX5_addGrip_43 (fun H locs hP hS _ _ => ?_)
        refine lv_aload_n hx hb dX5_addGrip_46 rfl (lv_at hl 0 rfl) ?_
        refine va_get (D := D) (ci := 5) (v := .ref (q + 3)) (C := RX5) (T := TX5) (N := 15) hx hb hts hinX5 hown hK hP 0 rfl rfl 7 (by decide) hf16 (fun _ h9 => h9) rfl dX5_addGrip_47 ?_
        refine lv_iload_n hx hb dX5_addGrip_50 rfl (lv_at hl 1 rfl) ?_
        refine lv_iconst (v := 1) hx hb dX5_addGrip_51 (by decide) ?_
        refine lv_iconst (v := 0) hx hb dX5_addGrip_52 (by decide) ?_
        obtain ⟨r53, hr53, h⟩ := bd_some h
        refine gc_swv (As := [.ref (q + 3), .int p0, .int 1, .int 0]) (rest := []) ⟨hx, hb, hml, hown, hts⟩ hK (kX5_addOn l D cI cC cZ cQ cJ q 3 r43 p0 1 0 (Or.inr (Or.inl rfl)) hr53) (va_cwS 4 hts gX5_addGrip_X5_addOn rfl rfl rfl (by decide +kernel) ⟨Nat.le_of_ble_eq_true rfl, Nat.le_of_ble_eq_true rfl⟩)  hP hS (fun _ h => h) rfl hl.1 rfl (Nat.le_of_ble_eq_true rfl) ⟨Nat.zero_le _, Nat.zero_le _⟩ dX5_addGrip_53 (fun H locs hP hS _ _ => ?_)
        refine lv_aload_n hx hb dX5_addGrip_56 rfl (lv_at hl 0 rfl) ?_
        refine va_get (D := D) (ci := 5) (v := .ref (q + 3)) (C := RX5) (T := TX5) (N := 15) hx hb hts hinX5 hown hK hP 0 rfl rfl 7 (by decide) hf16 (fun _ h9 => h9) rfl dX5_addGrip_57 ?_
        refine lv_bipush (v := 96) hx hb dX5_addGrip_60 (by decide) ?_
        refine g_iald (f := ((mA r53) 3)) (k := 96) hx hb hK hP 3 0 rfl rfl (vin_lit rfl) rfl dX5_addGrip_62 ?_
        refine lv_iconst (v := 1) hx hb dX5_addGrip_63 (by decide) ?_
        refine lv_isub hx hb dX5_addGrip_64 ?_
        have h := Option.some.inj h
        subst h
        exact W.iret (v := ((((mA r53) 3) 96) - 1)) hx hb hr (fun t ht hW => ⟨⟨_, (), rfl, rfl, gh ht hP⟩, hS.F ht⟩) hS.2.2 dX5_addGrip_65
      · replace h := (if_neg c4).symm.trans h
        refine lv_iconst (v := 0) hx hb dX5_addGrip_40 (by decide) ?_
        have h := Option.some.inj h
        subst h
        exact W.iret (v := 0) hx hb hr (fun t ht hW => ⟨⟨_, (), rfl, rfl, gh ht hP⟩, hS.F ht⟩) hS.2.2 dX5_addGrip_41
  · replace h := (if_pos c1).symm.trans h
    refine lv_iconst (v := 1) hx hb dX5_addGrip_13 (by decide) ?_
    refine lv_goto (tgt := 34) hx hb dX5_addGrip_14 (by decide) ?_
    obtain ⟨r34, hr34, h⟩ := bd_some h
    refine gc_wi (As := [.int 1]) (rest := []) ⟨hx, hb, hml, hown, hts⟩ hK (kX5_refused l D cI cC cZ cQ cJ q M 1 hr34) (cwV 1 hts gX5_addGrip_X5_refused rfl rfl rfl (by decide +kernel) ⟨Nat.le_of_ble_eq_true rfl, Nat.le_of_ble_eq_true rfl⟩) (va_recv hK hP (ci := 5) (q0 := 0) rfl rfl) hP hS (fun _ h => h) rfl hl.1 rfl (Nat.le_of_ble_eq_true rfl) ⟨Nat.zero_le _, Nat.zero_le _⟩ dX5_addGrip_34 (fun H locs hP hS _ _ => ?_)
    refine lv_if_eq (tgt := 42) hx hb dX5_addGrip_37 (by decide) (fun c5 => ?_) (fun c5 => ?_)
    · replace h := (if_pos c5).symm.trans h
      refine lv_aload_n hx hb dX5_addGrip_42 rfl (lv_at hl 0 rfl) ?_
      obtain ⟨r43, hr43, h⟩ := bd_some h
      refine gc_wv (As := []) (rest := []) ⟨hx, hb, hml, hown, hts⟩ hK (kX5_note l D cI cC cZ cQ cJ q r34.2 hr43) (cwV 0 hts gX5_addGrip_X5_note rfl rfl rfl (by decide +kernel) ⟨Nat.le_of_ble_eq_true rfl, Nat.le_of_ble_eq_true rfl⟩) (va_recv hK hP (ci := 5) (q0 := 0) rfl rfl) hP hS (fun _ h => h) rfl hl.1 rfl (Nat.le_of_ble_eq_true rfl) ⟨Nat.zero_le _, Nat.zero_le _⟩ dX5_addGrip_43 (fun H locs hP hS _ _ => ?_)
      refine lv_aload_n hx hb dX5_addGrip_46 rfl (lv_at hl 0 rfl) ?_
      refine va_get (D := D) (ci := 5) (v := .ref (q + 3)) (C := RX5) (T := TX5) (N := 15) hx hb hts hinX5 hown hK hP 0 rfl rfl 7 (by decide) hf16 (fun _ h9 => h9) rfl dX5_addGrip_47 ?_
      refine lv_iload_n hx hb dX5_addGrip_50 rfl (lv_at hl 1 rfl) ?_
      refine lv_iconst (v := 1) hx hb dX5_addGrip_51 (by decide) ?_
      refine lv_iconst (v := 0) hx hb dX5_addGrip_52 (by decide) ?_
      obtain ⟨r53, hr53, h⟩ := bd_some h
      refine gc_swv (As := [.ref (q + 3), .int p0, .int 1, .int 0]) (rest := []) ⟨hx, hb, hml, hown, hts⟩ hK (kX5_addOn l D cI cC cZ cQ cJ q 3 r43 p0 1 0 (Or.inr (Or.inl rfl)) hr53) (va_cwS 4 hts gX5_addGrip_X5_addOn rfl rfl rfl (by decide +kernel) ⟨Nat.le_of_ble_eq_true rfl, Nat.le_of_ble_eq_true rfl⟩)  hP hS (fun _ h => h) rfl hl.1 rfl (Nat.le_of_ble_eq_true rfl) ⟨Nat.zero_le _, Nat.zero_le _⟩ dX5_addGrip_53 (fun H locs hP hS _ _ => ?_)
      refine lv_aload_n hx hb dX5_addGrip_56 rfl (lv_at hl 0 rfl) ?_
      refine va_get (D := D) (ci := 5) (v := .ref (q + 3)) (C := RX5) (T := TX5) (N := 15) hx hb hts hinX5 hown hK hP 0 rfl rfl 7 (by decide) hf16 (fun _ h9 => h9) rfl dX5_addGrip_57 ?_
      refine lv_bipush (v := 96) hx hb dX5_addGrip_60 (by decide) ?_
      refine g_iald (f := ((mA r53) 3)) (k := 96) hx hb hK hP 3 0 rfl rfl (vin_lit rfl) rfl dX5_addGrip_62 ?_
      refine lv_iconst (v := 1) hx hb dX5_addGrip_63 (by decide) ?_
      refine lv_isub hx hb dX5_addGrip_64 ?_
      have h := Option.some.inj h
      subst h
      exact W.iret (v := ((((mA r53) 3) 96) - 1)) hx hb hr (fun t ht hW => ⟨⟨_, (), rfl, rfl, gh ht hP⟩, hS.F ht⟩) hS.2.2 dX5_addGrip_65
    · replace h := (if_neg c5).symm.trans h
      refine lv_iconst (v := 0) hx hb dX5_addGrip_40 (by decide) ?_
      have h := Option.some.inj h
      subst h
      exact W.iret (v := 0) hx hb hr (fun t ht hW => ⟨⟨_, (), rfl, rfl, gh ht hP⟩, hS.F ht⟩) hS.2.2 dX5_addGrip_41
set_option maxHeartbeats 4000000 in
set_option maxRecDepth 100000 in
theorem kX5_canPut (l : Launch) (D : va_G) (cI cC cZ cQ cJ : ClassId) (q : Nat) (j : Nat) (M : MSt) (p0 : Int32) (p1 : Int32) (hj : gRow j) {R : Int32} (h : fX5_canPut j M p0 p1 = some R) : Met l yX5_canPut wsX5_canPut ({ frames := 2, cells := 0, slots := 0, locals := 47 } : Room) (va_Pc [.ref q, .ref (q + j), .int p0, .int p1] (gB D (gTy cI cC cZ cQ cJ) (va_P D vwCl (MW cI cZ q M)))) (vp_Si (fun r => r = R)) 0 0 (fun _ => False) := by
  refine Met.ofW (cc := cX5_canPut) (maxL := 4) (ret := (some .boolean)) (by decide) rfl ?_
  intro p e s m args below meth c s₁ B hml hv
  obtain ⟨rfl, hP, hK⟩ := hv
  have hx := B.exec
  have hb := B.bytes
  have hr := B.returns
  have hts := atoms_spec (ws := wsX5_canPut) B.pre
  have hown : s.vm.findClass RX5 = some m.cls := findClass_of_methodNamed B.named
  have hlocks := B.notSynchronized
  generalize hRM : (headSpec wsX5_canPut ({ frames := 2, cells := 0, slots := 0, locals := 47 } : Room)).room = RM
  replace hRM : ({ frames := 2, cells := 0, slots := 0, locals := 47 } : Room) = RM := hRM
  subst hRM
  have hl := lv_entry ([.ref q, .ref (q + j), .int p0, .int p1]) (n := 4) (Nat.le_of_ble_eq_true rfl)
  rw [lg_entry_eq]
  generalize (lg_sl ([.ref q, .ref (q + j), .int p0, .int p1]) ++ List.replicate (4 - (lg_sl ([.ref q, .ref (q + j), .int p0, .int p1])).length) Slot.unset).toArray = ls at hl ⊢
  have hl : lv_has ls 4 [(0, .ref q), (1, .ref (q + j)), (2, .int p0), (3, .int p1)] := hl
  unfold fX5_canPut at h
  refine lv_aload_n hx hb dX5_canPut_0 rfl (lv_at hl 1 rfl) ?_
  refine lv_bipush (v := 60) hx hb dX5_canPut_1 (by decide) ?_
  refine lv_iload_n hx hb dX5_canPut_3 rfl (lv_at hl 2 rfl) ?_
  refine lv_iadd hx hb dX5_canPut_4 ?_
  obtain ⟨hg1, h⟩ := gd_some h
  refine g_iald (f := ((mA M) j)) (k := ((60 + p0)).toNatClampNeg) hx hb hK hP j 0 (MW_at hj) rfl hg1 rfl dX5_canPut_5 ?_
  refine lv_iconst (v := 1) hx hb dX5_canPut_6 (by decide) ?_
  refine lv_icmp_ne (tgt := 23) hx hb dX5_canPut_7 (by decide) (fun c2 => ?_) (fun c2 => ?_)
  · replace h := (if_neg c2).symm.trans h
    refine lv_iconst (v := 0) hx hb dX5_canPut_23 (by decide) ?_
    have h := Option.some.inj h
    exact W.zret (v := 0) hx hb hr rfl (fun t ht hW => ⟨_, rfl, h, ht⟩) t_nil dX5_canPut_24
  · replace h := (if_pos c2).symm.trans h
    refine lv_aload_n hx hb dX5_canPut_10 rfl (lv_at hl 0 rfl) ?_
    refine lv_aload_n hx hb dX5_canPut_11 rfl (lv_at hl 1 rfl) ?_
    refine lv_iload_n hx hb dX5_canPut_12 rfl (lv_at hl 3 rfl) ?_
    obtain ⟨r13, hr13, h⟩ := bd_some h
    refine gc_ri (As := [.ref (q + j), .int p1]) (rest := []) ⟨hx, hb, hml, hown, hts⟩ hK (kX5_isFree l D cI cC cZ cQ cJ q j M p1 hj hr13) (cwV 2 hts gX5_canPut_X5_isFree rfl rfl rfl (by decide +kernel) ⟨Nat.le_of_ble_eq_true rfl, Nat.le_of_ble_eq_true rfl⟩) (va_recv hK hP (ci := 5) (q0 := 0) rfl rfl) hP rfl hl.1 rfl (Nat.le_of_ble_eq_true rfl) ⟨Nat.zero_le _, Nat.zero_le _⟩ dX5_canPut_13 ?_
    refine lv_if_eq (tgt := 23) hx hb dX5_canPut_16 (by decide) (fun c3 => ?_) (fun c3 => ?_)
    · replace h := (if_pos c3).symm.trans h
      refine lv_iconst (v := 0) hx hb dX5_canPut_23 (by decide) ?_
      have h := Option.some.inj h
      exact W.zret (v := 0) hx hb hr rfl (fun t ht hW => ⟨_, rfl, h, ht⟩) t_nil dX5_canPut_24
    · replace h := (if_neg c3).symm.trans h
      refine lv_iconst (v := 1) hx hb dX5_canPut_19 (by decide) ?_
      refine lv_goto (tgt := 24) hx hb dX5_canPut_20 (by decide) ?_
      have h := Option.some.inj h
      exact W.zret (v := 1) hx hb hr rfl (fun t ht hW => ⟨_, rfl, h, ht⟩) t_nil dX5_canPut_24
set_option maxHeartbeats 4000000 in
set_option maxRecDepth 100000 in
theorem kX5_putAt (l : Launch) (D : va_G) (cI cC cZ cQ cJ : ClassId) (q : Nat) (j : Nat) (M : MSt) (p0 : Int32) (p1 : Int32) (hj : gRow j) {R : MSt} (h : fX5_putAt j M p0 p1 = some R) : Met l yX5_putAt wsX5_putAt ({ frames := 0, cells := 0, slots := 0, locals := 0 } : Room) (va_Pc [.ref (q + j), .int p0, .int p1] (gB D (gTy cI cC cZ cQ cJ) (va_P D vwCl (MW cI cZ q M)))) (va_Qv (fun _ : Unit => True) (fun _ t => va_P D vwCl (MW cI cZ q R) t.heap) (fIv q 10)) 0 0 (fIv q 10) := by
  refine Met.ofW (cc := cX5_putAt) (maxL := 3) (ret := none) (by decide) rfl ?_
  intro p e s m args below meth c s₁ B hml hv
  obtain ⟨rfl, hP, hK⟩ := hv
  have hx := B.exec
  have hb := B.bytes
  have hr := B.returns
  have hts := atoms_spec (ws := wsX5_putAt) B.pre
  have hown : s.vm.findClass RX5 = some m.cls := findClass_of_methodNamed B.named
  have hlocks := B.notSynchronized
  generalize hRM : (headSpec wsX5_putAt ({ frames := 0, cells := 0, slots := 0, locals := 0 } : Room)).room = RM
  replace hRM : ({ frames := 0, cells := 0, slots := 0, locals := 0 } : Room) = RM := hRM
  subst hRM
  have hl := lv_entry ([.ref (q + j), .int p0, .int p1]) (n := 3) (Nat.le_of_ble_eq_true rfl)
  rw [lg_entry_eq]
  generalize (lg_sl ([.ref (q + j), .int p0, .int p1]) ++ List.replicate (3 - (lg_sl ([.ref (q + j), .int p0, .int p1])).length) Slot.unset).toArray = ls at hl ⊢
  have hl : lv_has ls 3 [(0, .ref (q + j)), (1, .int p0), (2, .int p1)] := hl
  have hS : va_S (fIv q 10) s.heap s.heap [] := va_S.rf
  unfold fX5_putAt at h
  obtain ⟨H, hH⟩ : ∃ H, H = s.heap := ⟨_, rfl⟩
  obtain ⟨locs, hlz⟩ : ∃ z : List Loc, z = [] := ⟨_, rfl⟩
  have hP : va_P D vwCl (MW cI cZ q M) H := by rw [hH]; exact hP
  have hS : va_S (fIv q 10) s.heap H locs := by rw [hH, hlz]; exact hS
  refine gc_at hH hlz ?_
  refine lv_aload_n hx hb dX5_putAt_0 rfl (lv_at hl 0 rfl) ?_
  refine lv_bipush (v := 60) hx hb dX5_putAt_1 (by decide) ?_
  refine lv_iload_n hx hb dX5_putAt_3 rfl (lv_at hl 1 rfl) ?_
  refine lv_iadd hx hb dX5_putAt_4 ?_
  refine lv_iconst (v := 0) hx hb dX5_putAt_5 (by decide) ?_
  obtain ⟨hg1, h⟩ := gd_some h
  refine g_iast (f := ((mA M) j)) (k := ((60 + p0)).toNatClampNeg) hx hb hK hP MW_self hS j 0 (MW_at hj) rfl hg1 rfl dX5_putAt_6 (fun H locs hP hS => ?_)
  obtain ⟨a2, ha2, h⟩ := lt_some h
  have hP : va_P D vwCl (MW cI cZ q (a2, (mRef M), (mSize M), (mSpot M), (mRN M), (mN M), (mActs M))) H := by have h9 := hP; rw [MW_set hj] at h9; rw [ha2]; exact h9
  refine lv_aload_n hx hb dX5_putAt_7 rfl (lv_at hl 0 rfl) ?_
  refine lv_bipush (v := 72) hx hb dX5_putAt_8 (by decide) ?_
  refine lv_iload_n hx hb dX5_putAt_10 rfl (lv_at hl 1 rfl) ?_
  refine lv_iadd hx hb dX5_putAt_11 ?_
  refine lv_iload_n hx hb dX5_putAt_12 rfl (lv_at hl 2 rfl) ?_
  obtain ⟨hg3, h⟩ := gd_some h
  refine g_iast (f := (a2 j)) (k := ((72 + p0)).toNatClampNeg) hx hb hK hP MW_self hS j 0 (MW_at hj) rfl hg3 rfl dX5_putAt_13 (fun H locs hP hS => ?_)
  obtain ⟨a4, ha4, h⟩ := lt_some h
  have hP : va_P D vwCl (MW cI cZ q (a4, (mRef M), (mSize M), (mSpot M), (mRN M), (mN M), (mActs M))) H := by have h9 := hP; rw [MW_set hj] at h9; rw [ha4]; exact h9
  have h := Option.some.inj h
  subst h
  exact W.vret hx hb hr (fun t ht hW => ⟨⟨(), rfl, trivial, gh ht hP⟩, hS.F ht⟩) hS.2.2 dX5_putAt_14
set_option maxHeartbeats 4000000 in
set_option maxRecDepth 100000 in
theorem kX5_putOn (l : Launch) (D : va_G) (cI cC cZ cQ cJ : ClassId) (q : Nat) (M : MSt) (p0 : Int32) (p1 : Int32) {R : Int32 × MSt} (h : fX5_putOn M p0 p1 = some R) : Met l yX5_putOn wsX5_putOn ({ frames := 3, cells := 0, slots := 0, locals := 70 } : Room) (va_Pc [.ref q, .int p0, .int p1] (gB D (gTy cI cC cZ cQ cJ) (va_P D vwCl (MW cI cZ q M)))) (va_Qi (fun r (_ : Unit) => r = R.1) (fun _ t => va_P D vwCl (MW cI cZ q R.2) t.heap) (fIv q 10)) 0 0 (fIv q 10) := by
  refine Met.ofW (cc := cX5_putOn) (maxL := 3) (ret := (some .int)) (by decide) rfl ?_
  intro p e s m args below meth c s₁ B hml hv
  obtain ⟨rfl, hP, hK⟩ := hv
  have hx := B.exec
  have hb := B.bytes
  have hr := B.returns
  have hts := atoms_spec (ws := wsX5_putOn) B.pre
  have hown : s.vm.findClass RX5 = some m.cls := findClass_of_methodNamed B.named
  have hlocks := B.notSynchronized
  have hinX5 : ∀ w ∈ wsX50, w ∈ wsX5_putOn := by decide +kernel
  have hf16 := hts (.fieldLink RX5 16 "GripInspectorModel" "now" "[I") (by decide +kernel)
  generalize hRM : (headSpec wsX5_putOn ({ frames := 3, cells := 0, slots := 0, locals := 70 } : Room)).room = RM
  replace hRM : ({ frames := 3, cells := 0, slots := 0, locals := 70 } : Room) = RM := hRM
  subst hRM
  have hl := lv_entry ([.ref q, .int p0, .int p1]) (n := 3) (Nat.le_of_ble_eq_true rfl)
  rw [lg_entry_eq]
  generalize (lg_sl ([.ref q, .int p0, .int p1]) ++ List.replicate (3 - (lg_sl ([.ref q, .int p0, .int p1])).length) Slot.unset).toArray = ls at hl ⊢
  have hl : lv_has ls 3 [(0, .ref q), (1, .int p0), (2, .int p1)] := hl
  have hS : va_S (fIv q 10) s.heap s.heap [] := va_S.rf
  unfold fX5_putOn at h
  obtain ⟨H, hH⟩ : ∃ H, H = s.heap := ⟨_, rfl⟩
  obtain ⟨locs, hlz⟩ : ∃ z : List Loc, z = [] := ⟨_, rfl⟩
  have hP : va_P D vwCl (MW cI cZ q M) H := by rw [hH]; exact hP
  have hS : va_S (fIv q 10) s.heap H locs := by rw [hH, hlz]; exact hS
  refine gc_at hH hlz ?_
  refine lv_aload_n hx hb dX5_putOn_0 rfl (lv_at hl 0 rfl) ?_
  refine lv_aload_n hx hb dX5_putOn_1 rfl (lv_at hl 0 rfl) ?_
  refine lv_iload_n hx hb dX5_putOn_2 rfl (lv_at hl 1 rfl) ?_
  obtain ⟨r3, hr3, h⟩ := bd_some h
  refine gc_ri (As := [.int p0]) (rest := [.ref q]) ⟨hx, hb, hml, hown, hts⟩ hK (kX5_isGrip l D cI cC cZ cQ cJ q M p0 hr3) (cwV 1 hts gX5_putOn_X5_isGrip rfl rfl rfl (by decide +kernel) ⟨Nat.le_of_ble_eq_true rfl, Nat.le_of_ble_eq_true rfl⟩) (va_recv hK hP (ci := 5) (q0 := 0) rfl rfl) hP rfl hl.1 rfl (Nat.le_of_ble_eq_true rfl) ⟨Nat.zero_le _, Nat.zero_le _⟩ dX5_putOn_3 ?_
  refine lv_if_eq (tgt := 17) hx hb dX5_putOn_6 (by decide) (fun c1 => ?_) (fun c1 => ?_)
  · replace h := (if_pos c1).symm.trans h
    refine lv_iconst (v := 1) hx hb dX5_putOn_17 (by decide) ?_
    refine lv_goto (tgt := 39) hx hb dX5_putOn_18 (by decide) ?_
    obtain ⟨r39, hr39, h⟩ := bd_some h
    refine gc_wi (As := [.int 1]) (rest := []) ⟨hx, hb, hml, hown, hts⟩ hK (kX5_refused l D cI cC cZ cQ cJ q M 1 hr39) (cwV 1 hts gX5_putOn_X5_refused rfl rfl rfl (by decide +kernel) ⟨Nat.le_of_ble_eq_true rfl, Nat.le_of_ble_eq_true rfl⟩) (va_recv hK hP (ci := 5) (q0 := 0) rfl rfl) hP hS (fun _ h => h) rfl hl.1 rfl (Nat.le_of_ble_eq_true rfl) ⟨Nat.zero_le _, Nat.zero_le _⟩ dX5_putOn_39 (fun H locs hP hS _ _ => ?_)
    refine lv_if_eq (tgt := 47) hx hb dX5_putOn_42 (by decide) (fun c2 => ?_) (fun c2 => ?_)
    · replace h := (if_pos c2).symm.trans h
      refine lv_aload_n hx hb dX5_putOn_47 rfl (lv_at hl 0 rfl) ?_
      obtain ⟨r48, hr48, h⟩ := bd_some h
      refine gc_wv (As := []) (rest := []) ⟨hx, hb, hml, hown, hts⟩ hK (kX5_note l D cI cC cZ cQ cJ q r39.2 hr48) (cwV 0 hts gX5_putOn_X5_note rfl rfl rfl (by decide +kernel) ⟨Nat.le_of_ble_eq_true rfl, Nat.le_of_ble_eq_true rfl⟩) (va_recv hK hP (ci := 5) (q0 := 0) rfl rfl) hP hS (fun _ h => h) rfl hl.1 rfl (Nat.le_of_ble_eq_true rfl) ⟨Nat.zero_le _, Nat.zero_le _⟩ dX5_putOn_48 (fun H locs hP hS _ _ => ?_)
      refine lv_aload_n hx hb dX5_putOn_51 rfl (lv_at hl 0 rfl) ?_
      refine va_get (D := D) (ci := 5) (v := .ref (q + 3)) (C := RX5) (T := TX5) (N := 15) hx hb hts hinX5 hown hK hP 0 rfl rfl 7 (by decide) hf16 (fun _ h9 => h9) rfl dX5_putOn_52 ?_
      refine lv_iload_n hx hb dX5_putOn_55 rfl (lv_at hl 1 rfl) ?_
      refine lv_iload_n hx hb dX5_putOn_56 rfl (lv_at hl 2 rfl) ?_
      obtain ⟨r57, hr57, h⟩ := bd_some h
      refine gc_swv (As := [.ref (q + 3), .int p0, .int p1]) (rest := []) ⟨hx, hb, hml, hown, hts⟩ hK (kX5_putAt l D cI cC cZ cQ cJ q 3 r48 p0 p1 (Or.inr (Or.inl rfl)) hr57) (va_cwS 3 hts gX5_putOn_X5_putAt rfl rfl rfl (by decide +kernel) ⟨Nat.le_of_ble_eq_true rfl, Nat.le_of_ble_eq_true rfl⟩)  hP hS (fun _ h => h) rfl hl.1 rfl (Nat.le_of_ble_eq_true rfl) ⟨Nat.zero_le _, Nat.zero_le _⟩ dX5_putOn_57 (fun H locs hP hS _ _ => ?_)
      refine lv_aload_n hx hb dX5_putOn_60 rfl (lv_at hl 0 rfl) ?_
      refine va_get (D := D) (ci := 5) (v := .ref (q + 3)) (C := RX5) (T := TX5) (N := 15) hx hb hts hinX5 hown hK hP 0 rfl rfl 7 (by decide) hf16 (fun _ h9 => h9) rfl dX5_putOn_61 ?_
      refine lv_iconst (v := 0) hx hb dX5_putOn_64 (by decide) ?_
      obtain ⟨r65, hr65, h⟩ := bd_some h
      refine gc_si (As := [.ref (q + 3), .int 0]) (rest := []) ⟨hx, hb, hml, hown, hts⟩ hK (kX5_count l D cI cC cZ cQ cJ q 3 r57 0 (Or.inr (Or.inl rfl)) hr65) (va_cwS 2 hts gX5_putOn_X5_count rfl rfl rfl (by decide +kernel) ⟨Nat.le_of_ble_eq_true rfl, Nat.le_of_ble_eq_true rfl⟩)  hP rfl hl.1 rfl (Nat.le_of_ble_eq_true rfl) ⟨Nat.zero_le _, Nat.zero_le _⟩ dX5_putOn_65 ?_
      have h := Option.some.inj h
      subst h
      exact W.iret (v := r65) hx hb hr (fun t ht hW => ⟨⟨_, (), rfl, rfl, gh ht hP⟩, hS.F ht⟩) hS.2.2 dX5_putOn_68
    · replace h := (if_neg c2).symm.trans h
      refine lv_iconst (v := 0) hx hb dX5_putOn_45 (by decide) ?_
      have h := Option.some.inj h
      subst h
      exact W.iret (v := 0) hx hb hr (fun t ht hW => ⟨⟨_, (), rfl, rfl, gh ht hP⟩, hS.F ht⟩) hS.2.2 dX5_putOn_46
  · replace h := (if_neg c1).symm.trans h
    refine lv_aload_n hx hb dX5_putOn_9 rfl (lv_at hl 0 rfl) ?_
    refine lv_iload_n hx hb dX5_putOn_10 rfl (lv_at hl 2 rfl) ?_
    obtain ⟨r11, hr11, h⟩ := bd_some h
    refine gc_ri (As := [.int p1]) (rest := [.ref q]) ⟨hx, hb, hml, hown, hts⟩ hK (kX5_isSlot l D cI cC cZ cQ cJ q M p1 hr11) (cwV 1 hts gX5_putOn_X5_isSlot rfl rfl rfl (by decide +kernel) ⟨Nat.le_of_ble_eq_true rfl, Nat.le_of_ble_eq_true rfl⟩) (va_recv hK hP (ci := 5) (q0 := 0) rfl rfl) hP rfl hl.1 rfl (Nat.le_of_ble_eq_true rfl) ⟨Nat.zero_le _, Nat.zero_le _⟩ dX5_putOn_11 ?_
    refine lv_if_ne (tgt := 21) hx hb dX5_putOn_14 (by decide) (fun c3 => ?_) (fun c3 => ?_)
    · replace h := (if_neg c3).symm.trans h
      refine lv_aload_n hx hb dX5_putOn_21 rfl (lv_at hl 0 rfl) ?_
      refine lv_aload_n hx hb dX5_putOn_22 rfl (lv_at hl 0 rfl) ?_
      refine va_get (D := D) (ci := 5) (v := .ref (q + 3)) (C := RX5) (T := TX5) (N := 15) hx hb hts hinX5 hown hK hP 0 rfl rfl 7 (by decide) hf16 (fun _ h9 => h9) rfl dX5_putOn_23 ?_
      refine lv_iload_n hx hb dX5_putOn_26 rfl (lv_at hl 1 rfl) ?_
      refine lv_iload_n hx hb dX5_putOn_27 rfl (lv_at hl 2 rfl) ?_
      obtain ⟨r28, hr28, h⟩ := bd_some h
      refine gc_ri (As := [.ref (q + 3), .int p0, .int p1]) (rest := [.ref q]) ⟨hx, hb, hml, hown, hts⟩ hK (kX5_canPut l D cI cC cZ cQ cJ q 3 M p0 p1 (Or.inr (Or.inl rfl)) hr28) (cwV 3 hts gX5_putOn_X5_canPut rfl rfl rfl (by decide +kernel) ⟨Nat.le_of_ble_eq_true rfl, Nat.le_of_ble_eq_true rfl⟩) (va_recv hK hP (ci := 5) (q0 := 0) rfl rfl) hP rfl hl.1 rfl (Nat.le_of_ble_eq_true rfl) ⟨Nat.zero_le _, Nat.zero_le _⟩ dX5_putOn_28 ?_
      refine lv_if_ne (tgt := 38) hx hb dX5_putOn_31 (by decide) (fun c4 => ?_) (fun c4 => ?_)
      · replace h := (if_neg c4).symm.trans h
        refine lv_iconst (v := 0) hx hb dX5_putOn_38 (by decide) ?_
        obtain ⟨r39, hr39, h⟩ := bd_some h
        refine gc_wi (As := [.int 0]) (rest := []) ⟨hx, hb, hml, hown, hts⟩ hK (kX5_refused l D cI cC cZ cQ cJ q M 0 hr39) (cwV 1 hts gX5_putOn_X5_refused rfl rfl rfl (by decide +kernel) ⟨Nat.le_of_ble_eq_true rfl, Nat.le_of_ble_eq_true rfl⟩) (va_recv hK hP (ci := 5) (q0 := 0) rfl rfl) hP hS (fun _ h => h) rfl hl.1 rfl (Nat.le_of_ble_eq_true rfl) ⟨Nat.zero_le _, Nat.zero_le _⟩ dX5_putOn_39 (fun H locs hP hS _ _ => ?_)
        refine lv_if_eq (tgt := 47) hx hb dX5_putOn_42 (by decide) (fun c5 => ?_) (fun c5 => ?_)
        · replace h := (if_pos c5).symm.trans h
          refine lv_aload_n hx hb dX5_putOn_47 rfl (lv_at hl 0 rfl) ?_
          obtain ⟨r48, hr48, h⟩ := bd_some h
          refine gc_wv (As := []) (rest := []) ⟨hx, hb, hml, hown, hts⟩ hK (kX5_note l D cI cC cZ cQ cJ q r39.2 hr48) (cwV 0 hts gX5_putOn_X5_note rfl rfl rfl (by decide +kernel) ⟨Nat.le_of_ble_eq_true rfl, Nat.le_of_ble_eq_true rfl⟩) (va_recv hK hP (ci := 5) (q0 := 0) rfl rfl) hP hS (fun _ h => h) rfl hl.1 rfl (Nat.le_of_ble_eq_true rfl) ⟨Nat.zero_le _, Nat.zero_le _⟩ dX5_putOn_48 (fun H locs hP hS _ _ => ?_)
          refine lv_aload_n hx hb dX5_putOn_51 rfl (lv_at hl 0 rfl) ?_
          refine va_get (D := D) (ci := 5) (v := .ref (q + 3)) (C := RX5) (T := TX5) (N := 15) hx hb hts hinX5 hown hK hP 0 rfl rfl 7 (by decide) hf16 (fun _ h9 => h9) rfl dX5_putOn_52 ?_
          refine lv_iload_n hx hb dX5_putOn_55 rfl (lv_at hl 1 rfl) ?_
          refine lv_iload_n hx hb dX5_putOn_56 rfl (lv_at hl 2 rfl) ?_
          obtain ⟨r57, hr57, h⟩ := bd_some h
          refine gc_swv (As := [.ref (q + 3), .int p0, .int p1]) (rest := []) ⟨hx, hb, hml, hown, hts⟩ hK (kX5_putAt l D cI cC cZ cQ cJ q 3 r48 p0 p1 (Or.inr (Or.inl rfl)) hr57) (va_cwS 3 hts gX5_putOn_X5_putAt rfl rfl rfl (by decide +kernel) ⟨Nat.le_of_ble_eq_true rfl, Nat.le_of_ble_eq_true rfl⟩)  hP hS (fun _ h => h) rfl hl.1 rfl (Nat.le_of_ble_eq_true rfl) ⟨Nat.zero_le _, Nat.zero_le _⟩ dX5_putOn_57 (fun H locs hP hS _ _ => ?_)
          refine lv_aload_n hx hb dX5_putOn_60 rfl (lv_at hl 0 rfl) ?_
          refine va_get (D := D) (ci := 5) (v := .ref (q + 3)) (C := RX5) (T := TX5) (N := 15) hx hb hts hinX5 hown hK hP 0 rfl rfl 7 (by decide) hf16 (fun _ h9 => h9) rfl dX5_putOn_61 ?_
          refine lv_iconst (v := 0) hx hb dX5_putOn_64 (by decide) ?_
          obtain ⟨r65, hr65, h⟩ := bd_some h
          refine gc_si (As := [.ref (q + 3), .int 0]) (rest := []) ⟨hx, hb, hml, hown, hts⟩ hK (kX5_count l D cI cC cZ cQ cJ q 3 r57 0 (Or.inr (Or.inl rfl)) hr65) (va_cwS 2 hts gX5_putOn_X5_count rfl rfl rfl (by decide +kernel) ⟨Nat.le_of_ble_eq_true rfl, Nat.le_of_ble_eq_true rfl⟩)  hP rfl hl.1 rfl (Nat.le_of_ble_eq_true rfl) ⟨Nat.zero_le _, Nat.zero_le _⟩ dX5_putOn_65 ?_
          have h := Option.some.inj h
          subst h
          exact W.iret (v := r65) hx hb hr (fun t ht hW => ⟨⟨_, (), rfl, rfl, gh ht hP⟩, hS.F ht⟩) hS.2.2 dX5_putOn_68
        · replace h := (if_neg c5).symm.trans h
          refine lv_iconst (v := 0) hx hb dX5_putOn_45 (by decide) ?_
          have h := Option.some.inj h
          subst h
          exact W.iret (v := 0) hx hb hr (fun t ht hW => ⟨⟨_, (), rfl, rfl, gh ht hP⟩, hS.F ht⟩) hS.2.2 dX5_putOn_46
      · replace h := (if_pos c4).symm.trans h
        refine lv_iconst (v := 2) hx hb dX5_putOn_34 (by decide) ?_
        refine lv_goto (tgt := 39) hx hb dX5_putOn_35 (by decide) ?_
        obtain ⟨r39, hr39, h⟩ := bd_some h
        refine gc_wi (As := [.int 2]) (rest := []) ⟨hx, hb, hml, hown, hts⟩ hK (kX5_refused l D cI cC cZ cQ cJ q M 2 hr39) (cwV 1 hts gX5_putOn_X5_refused rfl rfl rfl (by decide +kernel) ⟨Nat.le_of_ble_eq_true rfl, Nat.le_of_ble_eq_true rfl⟩) (va_recv hK hP (ci := 5) (q0 := 0) rfl rfl) hP hS (fun _ h => h) rfl hl.1 rfl (Nat.le_of_ble_eq_true rfl) ⟨Nat.zero_le _, Nat.zero_le _⟩ dX5_putOn_39 (fun H locs hP hS _ _ => ?_)
        refine lv_if_eq (tgt := 47) hx hb dX5_putOn_42 (by decide) (fun c6 => ?_) (fun c6 => ?_)
        · replace h := (if_pos c6).symm.trans h
          refine lv_aload_n hx hb dX5_putOn_47 rfl (lv_at hl 0 rfl) ?_
          obtain ⟨r48, hr48, h⟩ := bd_some h
          refine gc_wv (As := []) (rest := []) ⟨hx, hb, hml, hown, hts⟩ hK (kX5_note l D cI cC cZ cQ cJ q r39.2 hr48) (cwV 0 hts gX5_putOn_X5_note rfl rfl rfl (by decide +kernel) ⟨Nat.le_of_ble_eq_true rfl, Nat.le_of_ble_eq_true rfl⟩) (va_recv hK hP (ci := 5) (q0 := 0) rfl rfl) hP hS (fun _ h => h) rfl hl.1 rfl (Nat.le_of_ble_eq_true rfl) ⟨Nat.zero_le _, Nat.zero_le _⟩ dX5_putOn_48 (fun H locs hP hS _ _ => ?_)
          refine lv_aload_n hx hb dX5_putOn_51 rfl (lv_at hl 0 rfl) ?_
          refine va_get (D := D) (ci := 5) (v := .ref (q + 3)) (C := RX5) (T := TX5) (N := 15) hx hb hts hinX5 hown hK hP 0 rfl rfl 7 (by decide) hf16 (fun _ h9 => h9) rfl dX5_putOn_52 ?_
          refine lv_iload_n hx hb dX5_putOn_55 rfl (lv_at hl 1 rfl) ?_
          refine lv_iload_n hx hb dX5_putOn_56 rfl (lv_at hl 2 rfl) ?_
          obtain ⟨r57, hr57, h⟩ := bd_some h
          refine gc_swv (As := [.ref (q + 3), .int p0, .int p1]) (rest := []) ⟨hx, hb, hml, hown, hts⟩ hK (kX5_putAt l D cI cC cZ cQ cJ q 3 r48 p0 p1 (Or.inr (Or.inl rfl)) hr57) (va_cwS 3 hts gX5_putOn_X5_putAt rfl rfl rfl (by decide +kernel) ⟨Nat.le_of_ble_eq_true rfl, Nat.le_of_ble_eq_true rfl⟩)  hP hS (fun _ h => h) rfl hl.1 rfl (Nat.le_of_ble_eq_true rfl) ⟨Nat.zero_le _, Nat.zero_le _⟩ dX5_putOn_57 (fun H locs hP hS _ _ => ?_)
          refine lv_aload_n hx hb dX5_putOn_60 rfl (lv_at hl 0 rfl) ?_
          refine va_get (D := D) (ci := 5) (v := .ref (q + 3)) (C := RX5) (T := TX5) (N := 15) hx hb hts hinX5 hown hK hP 0 rfl rfl 7 (by decide) hf16 (fun _ h9 => h9) rfl dX5_putOn_61 ?_
          refine lv_iconst (v := 0) hx hb dX5_putOn_64 (by decide) ?_
          obtain ⟨r65, hr65, h⟩ := bd_some h
          refine gc_si (As := [.ref (q + 3), .int 0]) (rest := []) ⟨hx, hb, hml, hown, hts⟩ hK (kX5_count l D cI cC cZ cQ cJ q 3 r57 0 (Or.inr (Or.inl rfl)) hr65) (va_cwS 2 hts gX5_putOn_X5_count rfl rfl rfl (by decide +kernel) ⟨Nat.le_of_ble_eq_true rfl, Nat.le_of_ble_eq_true rfl⟩)  hP rfl hl.1 rfl (Nat.le_of_ble_eq_true rfl) ⟨Nat.zero_le _, Nat.zero_le _⟩ dX5_putOn_65 ?_
          have h := Option.some.inj h
          subst h
          exact W.iret (v := r65) hx hb hr (fun t ht hW => ⟨⟨_, (), rfl, rfl, gh ht hP⟩, hS.F ht⟩) hS.2.2 dX5_putOn_68
        · replace h := (if_neg c6).symm.trans h
          refine lv_iconst (v := 0) hx hb dX5_putOn_45 (by decide) ?_
          have h := Option.some.inj h
          subst h
          exact W.iret (v := 0) hx hb hr (fun t ht hW => ⟨⟨_, (), rfl, rfl, gh ht hP⟩, hS.F ht⟩) hS.2.2 dX5_putOn_46
    · replace h := (if_pos c3).symm.trans h
      refine lv_iconst (v := 1) hx hb dX5_putOn_17 (by decide) ?_
      refine lv_goto (tgt := 39) hx hb dX5_putOn_18 (by decide) ?_
      obtain ⟨r39, hr39, h⟩ := bd_some h
      refine gc_wi (As := [.int 1]) (rest := []) ⟨hx, hb, hml, hown, hts⟩ hK (kX5_refused l D cI cC cZ cQ cJ q M 1 hr39) (cwV 1 hts gX5_putOn_X5_refused rfl rfl rfl (by decide +kernel) ⟨Nat.le_of_ble_eq_true rfl, Nat.le_of_ble_eq_true rfl⟩) (va_recv hK hP (ci := 5) (q0 := 0) rfl rfl) hP hS (fun _ h => h) rfl hl.1 rfl (Nat.le_of_ble_eq_true rfl) ⟨Nat.zero_le _, Nat.zero_le _⟩ dX5_putOn_39 (fun H locs hP hS _ _ => ?_)
      refine lv_if_eq (tgt := 47) hx hb dX5_putOn_42 (by decide) (fun c7 => ?_) (fun c7 => ?_)
      · replace h := (if_pos c7).symm.trans h
        refine lv_aload_n hx hb dX5_putOn_47 rfl (lv_at hl 0 rfl) ?_
        obtain ⟨r48, hr48, h⟩ := bd_some h
        refine gc_wv (As := []) (rest := []) ⟨hx, hb, hml, hown, hts⟩ hK (kX5_note l D cI cC cZ cQ cJ q r39.2 hr48) (cwV 0 hts gX5_putOn_X5_note rfl rfl rfl (by decide +kernel) ⟨Nat.le_of_ble_eq_true rfl, Nat.le_of_ble_eq_true rfl⟩) (va_recv hK hP (ci := 5) (q0 := 0) rfl rfl) hP hS (fun _ h => h) rfl hl.1 rfl (Nat.le_of_ble_eq_true rfl) ⟨Nat.zero_le _, Nat.zero_le _⟩ dX5_putOn_48 (fun H locs hP hS _ _ => ?_)
        refine lv_aload_n hx hb dX5_putOn_51 rfl (lv_at hl 0 rfl) ?_
        refine va_get (D := D) (ci := 5) (v := .ref (q + 3)) (C := RX5) (T := TX5) (N := 15) hx hb hts hinX5 hown hK hP 0 rfl rfl 7 (by decide) hf16 (fun _ h9 => h9) rfl dX5_putOn_52 ?_
        refine lv_iload_n hx hb dX5_putOn_55 rfl (lv_at hl 1 rfl) ?_
        refine lv_iload_n hx hb dX5_putOn_56 rfl (lv_at hl 2 rfl) ?_
        obtain ⟨r57, hr57, h⟩ := bd_some h
        refine gc_swv (As := [.ref (q + 3), .int p0, .int p1]) (rest := []) ⟨hx, hb, hml, hown, hts⟩ hK (kX5_putAt l D cI cC cZ cQ cJ q 3 r48 p0 p1 (Or.inr (Or.inl rfl)) hr57) (va_cwS 3 hts gX5_putOn_X5_putAt rfl rfl rfl (by decide +kernel) ⟨Nat.le_of_ble_eq_true rfl, Nat.le_of_ble_eq_true rfl⟩)  hP hS (fun _ h => h) rfl hl.1 rfl (Nat.le_of_ble_eq_true rfl) ⟨Nat.zero_le _, Nat.zero_le _⟩ dX5_putOn_57 (fun H locs hP hS _ _ => ?_)
        refine lv_aload_n hx hb dX5_putOn_60 rfl (lv_at hl 0 rfl) ?_
        refine va_get (D := D) (ci := 5) (v := .ref (q + 3)) (C := RX5) (T := TX5) (N := 15) hx hb hts hinX5 hown hK hP 0 rfl rfl 7 (by decide) hf16 (fun _ h9 => h9) rfl dX5_putOn_61 ?_
        refine lv_iconst (v := 0) hx hb dX5_putOn_64 (by decide) ?_
        obtain ⟨r65, hr65, h⟩ := bd_some h
        refine gc_si (As := [.ref (q + 3), .int 0]) (rest := []) ⟨hx, hb, hml, hown, hts⟩ hK (kX5_count l D cI cC cZ cQ cJ q 3 r57 0 (Or.inr (Or.inl rfl)) hr65) (va_cwS 2 hts gX5_putOn_X5_count rfl rfl rfl (by decide +kernel) ⟨Nat.le_of_ble_eq_true rfl, Nat.le_of_ble_eq_true rfl⟩)  hP rfl hl.1 rfl (Nat.le_of_ble_eq_true rfl) ⟨Nat.zero_le _, Nat.zero_le _⟩ dX5_putOn_65 ?_
        have h := Option.some.inj h
        subst h
        exact W.iret (v := r65) hx hb hr (fun t ht hW => ⟨⟨_, (), rfl, rfl, gh ht hP⟩, hS.F ht⟩) hS.2.2 dX5_putOn_68
      · replace h := (if_neg c7).symm.trans h
        refine lv_iconst (v := 0) hx hb dX5_putOn_45 (by decide) ?_
        have h := Option.some.inj h
        subst h
        exact W.iret (v := 0) hx hb hr (fun t ht hW => ⟨⟨_, (), rfl, rfl, gh ht hP⟩, hS.F ht⟩) hS.2.2 dX5_putOn_46
set_option maxHeartbeats 4000000 in
set_option maxRecDepth 100000 in
theorem kX5_takeOff (l : Launch) (D : va_G) (cI cC cZ cQ cJ : ClassId) (q : Nat) (M : MSt) (p0 : Int32) {R : Int32 × MSt} (h : fX5_takeOff M p0 = some R) : Met l yX5_takeOff wsX5_takeOff ({ frames := 2, cells := 0, slots := 0, locals := 46 } : Room) (va_Pc [.ref q, .int p0] (gB D (gTy cI cC cZ cQ cJ) (va_P D vwCl (MW cI cZ q M)))) (va_Qi (fun r (_ : Unit) => r = R.1) (fun _ t => va_P D vwCl (MW cI cZ q R.2) t.heap) (fIv q 10)) 0 0 (fIv q 10) := by
  refine Met.ofW (cc := cX5_takeOff) (maxL := 2) (ret := (some .int)) (by decide) rfl ?_
  intro p e s m args below meth c s₁ B hml hv
  obtain ⟨rfl, hP, hK⟩ := hv
  have hx := B.exec
  have hb := B.bytes
  have hr := B.returns
  have hts := atoms_spec (ws := wsX5_takeOff) B.pre
  have hown : s.vm.findClass RX5 = some m.cls := findClass_of_methodNamed B.named
  have hlocks := B.notSynchronized
  have hinX5 : ∀ w ∈ wsX50, w ∈ wsX5_takeOff := by decide +kernel
  have hf16 := hts (.fieldLink RX5 16 "GripInspectorModel" "now" "[I") (by decide +kernel)
  generalize hRM : (headSpec wsX5_takeOff ({ frames := 2, cells := 0, slots := 0, locals := 46 } : Room)).room = RM
  replace hRM : ({ frames := 2, cells := 0, slots := 0, locals := 46 } : Room) = RM := hRM
  subst hRM
  have hl := lv_entry ([.ref q, .int p0]) (n := 2) (Nat.le_of_ble_eq_true rfl)
  rw [lg_entry_eq]
  generalize (lg_sl ([.ref q, .int p0]) ++ List.replicate (2 - (lg_sl ([.ref q, .int p0])).length) Slot.unset).toArray = ls at hl ⊢
  have hl : lv_has ls 2 [(0, .ref q), (1, .int p0)] := hl
  have hS : va_S (fIv q 10) s.heap s.heap [] := va_S.rf
  unfold fX5_takeOff at h
  obtain ⟨H, hH⟩ : ∃ H, H = s.heap := ⟨_, rfl⟩
  obtain ⟨locs, hlz⟩ : ∃ z : List Loc, z = [] := ⟨_, rfl⟩
  have hP : va_P D vwCl (MW cI cZ q M) H := by rw [hH]; exact hP
  have hS : va_S (fIv q 10) s.heap H locs := by rw [hH, hlz]; exact hS
  refine gc_at hH hlz ?_
  refine lv_aload_n hx hb dX5_takeOff_0 rfl (lv_at hl 0 rfl) ?_
  refine lv_aload_n hx hb dX5_takeOff_1 rfl (lv_at hl 0 rfl) ?_
  refine lv_iload_n hx hb dX5_takeOff_2 rfl (lv_at hl 1 rfl) ?_
  obtain ⟨r3, hr3, h⟩ := bd_some h
  refine gc_ri (As := [.int p0]) (rest := [.ref q]) ⟨hx, hb, hml, hown, hts⟩ hK (kX5_isGrip l D cI cC cZ cQ cJ q M p0 hr3) (cwV 1 hts gX5_takeOff_X5_isGrip rfl rfl rfl (by decide +kernel) ⟨Nat.le_of_ble_eq_true rfl, Nat.le_of_ble_eq_true rfl⟩) (va_recv hK hP (ci := 5) (q0 := 0) rfl rfl) hP rfl hl.1 rfl (Nat.le_of_ble_eq_true rfl) ⟨Nat.zero_le _, Nat.zero_le _⟩ dX5_takeOff_3 ?_
  refine lv_if_ne (tgt := 13) hx hb dX5_takeOff_6 (by decide) (fun c1 => ?_) (fun c1 => ?_)
  · replace h := (if_neg c1).symm.trans h
    refine lv_aload_n hx hb dX5_takeOff_13 rfl (lv_at hl 0 rfl) ?_
    refine va_get (D := D) (ci := 5) (v := .ref (q + 3)) (C := RX5) (T := TX5) (N := 15) hx hb hts hinX5 hown hK hP 0 rfl rfl 7 (by decide) hf16 (fun _ h9 => h9) rfl dX5_takeOff_14 ?_
    refine lv_bipush (v := 60) hx hb dX5_takeOff_17 (by decide) ?_
    refine lv_iload_n hx hb dX5_takeOff_19 rfl (lv_at hl 1 rfl) ?_
    refine lv_iadd hx hb dX5_takeOff_20 ?_
    obtain ⟨hg2, h⟩ := gd_some h
    refine g_iald (f := ((mA M) 3)) (k := ((60 + p0)).toNatClampNeg) hx hb hK hP 3 0 rfl rfl hg2 rfl dX5_takeOff_21 ?_
    refine lv_if_eq (tgt := 29) hx hb dX5_takeOff_22 (by decide) (fun c3 => ?_) (fun c3 => ?_)
    · replace h := (if_pos c3).symm.trans h
      refine lv_iconst (v := 0) hx hb dX5_takeOff_29 (by decide) ?_
      obtain ⟨r30, hr30, h⟩ := bd_some h
      refine gc_wi (As := [.int 0]) (rest := []) ⟨hx, hb, hml, hown, hts⟩ hK (kX5_refused l D cI cC cZ cQ cJ q M 0 hr30) (cwV 1 hts gX5_takeOff_X5_refused rfl rfl rfl (by decide +kernel) ⟨Nat.le_of_ble_eq_true rfl, Nat.le_of_ble_eq_true rfl⟩) (va_recv hK hP (ci := 5) (q0 := 0) rfl rfl) hP hS (fun _ h => h) rfl hl.1 rfl (Nat.le_of_ble_eq_true rfl) ⟨Nat.zero_le _, Nat.zero_le _⟩ dX5_takeOff_30 (fun H locs hP hS _ _ => ?_)
      refine lv_if_eq (tgt := 38) hx hb dX5_takeOff_33 (by decide) (fun c4 => ?_) (fun c4 => ?_)
      · replace h := (if_pos c4).symm.trans h
        refine lv_aload_n hx hb dX5_takeOff_38 rfl (lv_at hl 0 rfl) ?_
        obtain ⟨r39, hr39, h⟩ := bd_some h
        refine gc_wv (As := []) (rest := []) ⟨hx, hb, hml, hown, hts⟩ hK (kX5_note l D cI cC cZ cQ cJ q r30.2 hr39) (cwV 0 hts gX5_takeOff_X5_note rfl rfl rfl (by decide +kernel) ⟨Nat.le_of_ble_eq_true rfl, Nat.le_of_ble_eq_true rfl⟩) (va_recv hK hP (ci := 5) (q0 := 0) rfl rfl) hP hS (fun _ h => h) rfl hl.1 rfl (Nat.le_of_ble_eq_true rfl) ⟨Nat.zero_le _, Nat.zero_le _⟩ dX5_takeOff_39 (fun H locs hP hS _ _ => ?_)
        refine lv_aload_n hx hb dX5_takeOff_42 rfl (lv_at hl 0 rfl) ?_
        refine va_get (D := D) (ci := 5) (v := .ref (q + 3)) (C := RX5) (T := TX5) (N := 15) hx hb hts hinX5 hown hK hP 0 rfl rfl 7 (by decide) hf16 (fun _ h9 => h9) rfl dX5_takeOff_43 ?_
        refine lv_bipush (v := 60) hx hb dX5_takeOff_46 (by decide) ?_
        refine lv_iload_n hx hb dX5_takeOff_48 rfl (lv_at hl 1 rfl) ?_
        refine lv_iadd hx hb dX5_takeOff_49 ?_
        refine lv_iconst (v := 1) hx hb dX5_takeOff_50 (by decide) ?_
        refine g_iast (f := ((mA r39) 3)) (k := ((60 + p0)).toNatClampNeg) hx hb hK hP MW_self hS 3 0 rfl rfl hg2 rfl dX5_takeOff_51 (fun H locs hP hS => ?_)
        obtain ⟨a5, ha5, h⟩ := lt_some h
        have hP : va_P D vwCl (MW cI cZ q (a5, (mRef r39), (mSize r39), (mSpot r39), (mRN r39), (mN r39), (mActs r39))) H := by have h9 := hP; rw [MW_s3] at h9; rw [ha5]; exact h9
        refine lv_aload_n hx hb dX5_takeOff_52 rfl (lv_at hl 0 rfl) ?_
        refine va_get (D := D) (ci := 5) (v := .ref (q + 3)) (C := RX5) (T := TX5) (N := 15) hx hb hts hinX5 hown hK hP 0 rfl rfl 7 (by decide) hf16 (fun _ h9 => h9) rfl dX5_takeOff_53 ?_
        refine lv_bipush (v := 72) hx hb dX5_takeOff_56 (by decide) ?_
        refine lv_iload_n hx hb dX5_takeOff_58 rfl (lv_at hl 1 rfl) ?_
        refine lv_iadd hx hb dX5_takeOff_59 ?_
        obtain ⟨hg6, h⟩ := gd_some h
        refine g_iald (f := (a5 3)) (k := ((72 + p0)).toNatClampNeg) hx hb hK hP 3 0 rfl rfl hg6 rfl dX5_takeOff_60 ?_
        have h := Option.some.inj h
        subst h
        exact W.iret (v := ((a5 3) ((72 + p0)).toNatClampNeg)) hx hb hr (fun t ht hW => ⟨⟨_, (), rfl, rfl, gh ht hP⟩, hS.F ht⟩) hS.2.2 dX5_takeOff_61
      · replace h := (if_neg c4).symm.trans h
        refine lv_iconst (v := 0) hx hb dX5_takeOff_36 (by decide) ?_
        have h := Option.some.inj h
        subst h
        exact W.iret (v := 0) hx hb hr (fun t ht hW => ⟨⟨_, (), rfl, rfl, gh ht hP⟩, hS.F ht⟩) hS.2.2 dX5_takeOff_37
    · replace h := (if_neg c3).symm.trans h
      refine lv_iconst (v := 2) hx hb dX5_takeOff_25 (by decide) ?_
      refine lv_goto (tgt := 30) hx hb dX5_takeOff_26 (by decide) ?_
      obtain ⟨r30, hr30, h⟩ := bd_some h
      refine gc_wi (As := [.int 2]) (rest := []) ⟨hx, hb, hml, hown, hts⟩ hK (kX5_refused l D cI cC cZ cQ cJ q M 2 hr30) (cwV 1 hts gX5_takeOff_X5_refused rfl rfl rfl (by decide +kernel) ⟨Nat.le_of_ble_eq_true rfl, Nat.le_of_ble_eq_true rfl⟩) (va_recv hK hP (ci := 5) (q0 := 0) rfl rfl) hP hS (fun _ h => h) rfl hl.1 rfl (Nat.le_of_ble_eq_true rfl) ⟨Nat.zero_le _, Nat.zero_le _⟩ dX5_takeOff_30 (fun H locs hP hS _ _ => ?_)
      refine lv_if_eq (tgt := 38) hx hb dX5_takeOff_33 (by decide) (fun c7 => ?_) (fun c7 => ?_)
      · replace h := (if_pos c7).symm.trans h
        refine lv_aload_n hx hb dX5_takeOff_38 rfl (lv_at hl 0 rfl) ?_
        obtain ⟨r39, hr39, h⟩ := bd_some h
        refine gc_wv (As := []) (rest := []) ⟨hx, hb, hml, hown, hts⟩ hK (kX5_note l D cI cC cZ cQ cJ q r30.2 hr39) (cwV 0 hts gX5_takeOff_X5_note rfl rfl rfl (by decide +kernel) ⟨Nat.le_of_ble_eq_true rfl, Nat.le_of_ble_eq_true rfl⟩) (va_recv hK hP (ci := 5) (q0 := 0) rfl rfl) hP hS (fun _ h => h) rfl hl.1 rfl (Nat.le_of_ble_eq_true rfl) ⟨Nat.zero_le _, Nat.zero_le _⟩ dX5_takeOff_39 (fun H locs hP hS _ _ => ?_)
        refine lv_aload_n hx hb dX5_takeOff_42 rfl (lv_at hl 0 rfl) ?_
        refine va_get (D := D) (ci := 5) (v := .ref (q + 3)) (C := RX5) (T := TX5) (N := 15) hx hb hts hinX5 hown hK hP 0 rfl rfl 7 (by decide) hf16 (fun _ h9 => h9) rfl dX5_takeOff_43 ?_
        refine lv_bipush (v := 60) hx hb dX5_takeOff_46 (by decide) ?_
        refine lv_iload_n hx hb dX5_takeOff_48 rfl (lv_at hl 1 rfl) ?_
        refine lv_iadd hx hb dX5_takeOff_49 ?_
        refine lv_iconst (v := 1) hx hb dX5_takeOff_50 (by decide) ?_
        refine g_iast (f := ((mA r39) 3)) (k := ((60 + p0)).toNatClampNeg) hx hb hK hP MW_self hS 3 0 rfl rfl hg2 rfl dX5_takeOff_51 (fun H locs hP hS => ?_)
        obtain ⟨a8, ha8, h⟩ := lt_some h
        have hP : va_P D vwCl (MW cI cZ q (a8, (mRef r39), (mSize r39), (mSpot r39), (mRN r39), (mN r39), (mActs r39))) H := by have h9 := hP; rw [MW_s3] at h9; rw [ha8]; exact h9
        refine lv_aload_n hx hb dX5_takeOff_52 rfl (lv_at hl 0 rfl) ?_
        refine va_get (D := D) (ci := 5) (v := .ref (q + 3)) (C := RX5) (T := TX5) (N := 15) hx hb hts hinX5 hown hK hP 0 rfl rfl 7 (by decide) hf16 (fun _ h9 => h9) rfl dX5_takeOff_53 ?_
        refine lv_bipush (v := 72) hx hb dX5_takeOff_56 (by decide) ?_
        refine lv_iload_n hx hb dX5_takeOff_58 rfl (lv_at hl 1 rfl) ?_
        refine lv_iadd hx hb dX5_takeOff_59 ?_
        obtain ⟨hg9, h⟩ := gd_some h
        refine g_iald (f := (a8 3)) (k := ((72 + p0)).toNatClampNeg) hx hb hK hP 3 0 rfl rfl hg9 rfl dX5_takeOff_60 ?_
        have h := Option.some.inj h
        subst h
        exact W.iret (v := ((a8 3) ((72 + p0)).toNatClampNeg)) hx hb hr (fun t ht hW => ⟨⟨_, (), rfl, rfl, gh ht hP⟩, hS.F ht⟩) hS.2.2 dX5_takeOff_61
      · replace h := (if_neg c7).symm.trans h
        refine lv_iconst (v := 0) hx hb dX5_takeOff_36 (by decide) ?_
        have h := Option.some.inj h
        subst h
        exact W.iret (v := 0) hx hb hr (fun t ht hW => ⟨⟨_, (), rfl, rfl, gh ht hP⟩, hS.F ht⟩) hS.2.2 dX5_takeOff_37
  · replace h := (if_pos c1).symm.trans h
    refine lv_iconst (v := 1) hx hb dX5_takeOff_9 (by decide) ?_
    refine lv_goto (tgt := 30) hx hb dX5_takeOff_10 (by decide) ?_
    obtain ⟨r30, hr30, h⟩ := bd_some h
    refine gc_wi (As := [.int 1]) (rest := []) ⟨hx, hb, hml, hown, hts⟩ hK (kX5_refused l D cI cC cZ cQ cJ q M 1 hr30) (cwV 1 hts gX5_takeOff_X5_refused rfl rfl rfl (by decide +kernel) ⟨Nat.le_of_ble_eq_true rfl, Nat.le_of_ble_eq_true rfl⟩) (va_recv hK hP (ci := 5) (q0 := 0) rfl rfl) hP hS (fun _ h => h) rfl hl.1 rfl (Nat.le_of_ble_eq_true rfl) ⟨Nat.zero_le _, Nat.zero_le _⟩ dX5_takeOff_30 (fun H locs hP hS _ _ => ?_)
    refine lv_if_eq (tgt := 38) hx hb dX5_takeOff_33 (by decide) (fun c10 => ?_) (fun c10 => ?_)
    · replace h := (if_pos c10).symm.trans h
      refine lv_aload_n hx hb dX5_takeOff_38 rfl (lv_at hl 0 rfl) ?_
      obtain ⟨r39, hr39, h⟩ := bd_some h
      refine gc_wv (As := []) (rest := []) ⟨hx, hb, hml, hown, hts⟩ hK (kX5_note l D cI cC cZ cQ cJ q r30.2 hr39) (cwV 0 hts gX5_takeOff_X5_note rfl rfl rfl (by decide +kernel) ⟨Nat.le_of_ble_eq_true rfl, Nat.le_of_ble_eq_true rfl⟩) (va_recv hK hP (ci := 5) (q0 := 0) rfl rfl) hP hS (fun _ h => h) rfl hl.1 rfl (Nat.le_of_ble_eq_true rfl) ⟨Nat.zero_le _, Nat.zero_le _⟩ dX5_takeOff_39 (fun H locs hP hS _ _ => ?_)
      refine lv_aload_n hx hb dX5_takeOff_42 rfl (lv_at hl 0 rfl) ?_
      refine va_get (D := D) (ci := 5) (v := .ref (q + 3)) (C := RX5) (T := TX5) (N := 15) hx hb hts hinX5 hown hK hP 0 rfl rfl 7 (by decide) hf16 (fun _ h9 => h9) rfl dX5_takeOff_43 ?_
      refine lv_bipush (v := 60) hx hb dX5_takeOff_46 (by decide) ?_
      refine lv_iload_n hx hb dX5_takeOff_48 rfl (lv_at hl 1 rfl) ?_
      refine lv_iadd hx hb dX5_takeOff_49 ?_
      refine lv_iconst (v := 1) hx hb dX5_takeOff_50 (by decide) ?_
      obtain ⟨hg11, h⟩ := gd_some h
      refine g_iast (f := ((mA r39) 3)) (k := ((60 + p0)).toNatClampNeg) hx hb hK hP MW_self hS 3 0 rfl rfl hg11 rfl dX5_takeOff_51 (fun H locs hP hS => ?_)
      obtain ⟨a12, ha12, h⟩ := lt_some h
      have hP : va_P D vwCl (MW cI cZ q (a12, (mRef r39), (mSize r39), (mSpot r39), (mRN r39), (mN r39), (mActs r39))) H := by have h9 := hP; rw [MW_s3] at h9; rw [ha12]; exact h9
      refine lv_aload_n hx hb dX5_takeOff_52 rfl (lv_at hl 0 rfl) ?_
      refine va_get (D := D) (ci := 5) (v := .ref (q + 3)) (C := RX5) (T := TX5) (N := 15) hx hb hts hinX5 hown hK hP 0 rfl rfl 7 (by decide) hf16 (fun _ h9 => h9) rfl dX5_takeOff_53 ?_
      refine lv_bipush (v := 72) hx hb dX5_takeOff_56 (by decide) ?_
      refine lv_iload_n hx hb dX5_takeOff_58 rfl (lv_at hl 1 rfl) ?_
      refine lv_iadd hx hb dX5_takeOff_59 ?_
      obtain ⟨hg13, h⟩ := gd_some h
      refine g_iald (f := (a12 3)) (k := ((72 + p0)).toNatClampNeg) hx hb hK hP 3 0 rfl rfl hg13 rfl dX5_takeOff_60 ?_
      have h := Option.some.inj h
      subst h
      exact W.iret (v := ((a12 3) ((72 + p0)).toNatClampNeg)) hx hb hr (fun t ht hW => ⟨⟨_, (), rfl, rfl, gh ht hP⟩, hS.F ht⟩) hS.2.2 dX5_takeOff_61
    · replace h := (if_neg c10).symm.trans h
      refine lv_iconst (v := 0) hx hb dX5_takeOff_36 (by decide) ?_
      have h := Option.some.inj h
      subst h
      exact W.iret (v := 0) hx hb hr (fun t ht hW => ⟨⟨_, (), rfl, rfl, gh ht hP⟩, hS.F ht⟩) hS.2.2 dX5_takeOff_37
set_option maxHeartbeats 4000000 in
set_option maxRecDepth 100000 in
theorem kX5_scrap (l : Launch) (D : va_G) (cI cC cZ cQ cJ : ClassId) (q : Nat) (M : MSt) (p0 : Int32) {R : Int32 × MSt} (h : fX5_scrap M p0 = some R) : Met l yX5_scrap wsX5_scrap ({ frames := 2, cells := 0, slots := 0, locals := 46 } : Room) (va_Pc [.ref q, .int p0] (gB D (gTy cI cC cZ cQ cJ) (va_P D vwCl (MW cI cZ q M)))) (va_Qi (fun r (_ : Unit) => r = R.1) (fun _ t => va_P D vwCl (MW cI cZ q R.2) t.heap) (fIv q 10)) 0 0 (fIv q 10) := by
  refine Met.ofW (cc := cX5_scrap) (maxL := 3) (ret := (some .int)) (by decide) rfl ?_
  intro p e s m args below meth c s₁ B hml hv
  obtain ⟨rfl, hP, hK⟩ := hv
  have hx := B.exec
  have hb := B.bytes
  have hr := B.returns
  have hts := atoms_spec (ws := wsX5_scrap) B.pre
  have hown : s.vm.findClass RX5 = some m.cls := findClass_of_methodNamed B.named
  have hlocks := B.notSynchronized
  have hinX5 : ∀ w ∈ wsX50, w ∈ wsX5_scrap := by decide +kernel
  have hf16 := hts (.fieldLink RX5 16 "GripInspectorModel" "now" "[I") (by decide +kernel)
  generalize hRM : (headSpec wsX5_scrap ({ frames := 2, cells := 0, slots := 0, locals := 46 } : Room)).room = RM
  replace hRM : ({ frames := 2, cells := 0, slots := 0, locals := 46 } : Room) = RM := hRM
  subst hRM
  have hl := lv_entry ([.ref q, .int p0]) (n := 3) (Nat.le_of_ble_eq_true rfl)
  rw [lg_entry_eq]
  generalize (lg_sl ([.ref q, .int p0]) ++ List.replicate (3 - (lg_sl ([.ref q, .int p0])).length) Slot.unset).toArray = ls at hl ⊢
  have hl : lv_has ls 3 [(0, .ref q), (1, .int p0)] := hl
  have hS : va_S (fIv q 10) s.heap s.heap [] := va_S.rf
  unfold fX5_scrap at h
  obtain ⟨H, hH⟩ : ∃ H, H = s.heap := ⟨_, rfl⟩
  obtain ⟨locs, hlz⟩ : ∃ z : List Loc, z = [] := ⟨_, rfl⟩
  have hP : va_P D vwCl (MW cI cZ q M) H := by rw [hH]; exact hP
  have hS : va_S (fIv q 10) s.heap H locs := by rw [hH, hlz]; exact hS
  refine gc_at hH hlz ?_
  refine lv_aload_n hx hb dX5_scrap_0 rfl (lv_at hl 0 rfl) ?_
  refine lv_aload_n hx hb dX5_scrap_1 rfl (lv_at hl 0 rfl) ?_
  refine lv_iload_n hx hb dX5_scrap_2 rfl (lv_at hl 1 rfl) ?_
  obtain ⟨r3, hr3, h⟩ := bd_some h
  refine gc_ri (As := [.int p0]) (rest := [.ref q]) ⟨hx, hb, hml, hown, hts⟩ hK (kX5_isGrip l D cI cC cZ cQ cJ q M p0 hr3) (cwV 1 hts gX5_scrap_X5_isGrip rfl rfl rfl (by decide +kernel) ⟨Nat.le_of_ble_eq_true rfl, Nat.le_of_ble_eq_true rfl⟩) (va_recv hK hP (ci := 5) (q0 := 0) rfl rfl) hP rfl hl.1 rfl (Nat.le_of_ble_eq_true rfl) ⟨Nat.zero_le _, Nat.zero_le _⟩ dX5_scrap_3 ?_
  refine lv_if_ne (tgt := 13) hx hb dX5_scrap_6 (by decide) (fun c1 => ?_) (fun c1 => ?_)
  · replace h := (if_neg c1).symm.trans h
    refine lv_aload_n hx hb dX5_scrap_13 rfl (lv_at hl 0 rfl) ?_
    refine va_get (D := D) (ci := 5) (v := .ref (q + 3)) (C := RX5) (T := TX5) (N := 15) hx hb hts hinX5 hown hK hP 0 rfl rfl 7 (by decide) hf16 (fun _ h9 => h9) rfl dX5_scrap_14 ?_
    refine lv_bipush (v := 60) hx hb dX5_scrap_17 (by decide) ?_
    refine lv_iload_n hx hb dX5_scrap_19 rfl (lv_at hl 1 rfl) ?_
    refine lv_iadd hx hb dX5_scrap_20 ?_
    obtain ⟨hg2, h⟩ := gd_some h
    refine g_iald (f := ((mA M) 3)) (k := ((60 + p0)).toNatClampNeg) hx hb hK hP 3 0 rfl rfl hg2 rfl dX5_scrap_21 ?_
    refine lv_iconst (v := 3) hx hb dX5_scrap_22 (by decide) ?_
    refine lv_icmp_ne (tgt := 30) hx hb dX5_scrap_23 (by decide) (fun c3 => ?_) (fun c3 => ?_)
    · replace h := (if_neg c3).symm.trans h
      refine lv_iconst (v := 0) hx hb dX5_scrap_30 (by decide) ?_
      obtain ⟨r31, hr31, h⟩ := bd_some h
      refine gc_wi (As := [.int 0]) (rest := []) ⟨hx, hb, hml, hown, hts⟩ hK (kX5_refused l D cI cC cZ cQ cJ q M 0 hr31) (cwV 1 hts gX5_scrap_X5_refused rfl rfl rfl (by decide +kernel) ⟨Nat.le_of_ble_eq_true rfl, Nat.le_of_ble_eq_true rfl⟩) (va_recv hK hP (ci := 5) (q0 := 0) rfl rfl) hP hS (fun _ h => h) rfl hl.1 rfl (Nat.le_of_ble_eq_true rfl) ⟨Nat.zero_le _, Nat.zero_le _⟩ dX5_scrap_31 (fun H locs hP hS _ _ => ?_)
      refine lv_if_eq (tgt := 39) hx hb dX5_scrap_34 (by decide) (fun c4 => ?_) (fun c4 => ?_)
      · replace h := (if_pos c4).symm.trans h
        refine lv_aload_n hx hb dX5_scrap_39 rfl (lv_at hl 0 rfl) ?_
        obtain ⟨r40, hr40, h⟩ := bd_some h
        refine gc_wv (As := []) (rest := []) ⟨hx, hb, hml, hown, hts⟩ hK (kX5_note l D cI cC cZ cQ cJ q r31.2 hr40) (cwV 0 hts gX5_scrap_X5_note rfl rfl rfl (by decide +kernel) ⟨Nat.le_of_ble_eq_true rfl, Nat.le_of_ble_eq_true rfl⟩) (va_recv hK hP (ci := 5) (q0 := 0) rfl rfl) hP hS (fun _ h => h) rfl hl.1 rfl (Nat.le_of_ble_eq_true rfl) ⟨Nat.zero_le _, Nat.zero_le _⟩ dX5_scrap_40 (fun H locs hP hS _ _ => ?_)
        refine lv_aload_n hx hb dX5_scrap_43 rfl (lv_at hl 0 rfl) ?_
        refine va_get (D := D) (ci := 5) (v := .ref (q + 3)) (C := RX5) (T := TX5) (N := 15) hx hb hts hinX5 hown hK hP 0 rfl rfl 7 (by decide) hf16 (fun _ h9 => h9) rfl dX5_scrap_44 ?_
        refine lv_bipush (v := 60) hx hb dX5_scrap_47 (by decide) ?_
        refine lv_iload_n hx hb dX5_scrap_49 rfl (lv_at hl 1 rfl) ?_
        refine lv_iadd hx hb dX5_scrap_50 ?_
        refine g_iald (f := ((mA r40) 3)) (k := ((60 + p0)).toNatClampNeg) hx hb hK hP 3 0 rfl rfl hg2 rfl dX5_scrap_51 ?_
        refine lv_istore_n (lv' := [(2, .int (((mA r40) 3) ((60 + p0)).toNatClampNeg)), (0, .ref q), (1, .int p0)]) hx hb dX5_scrap_52 rfl hl (by decide) rfl (fun ls hl => ?_)
        refine lv_aload_n hx hb dX5_scrap_53 rfl (lv_at hl 1 rfl) ?_
        refine va_get (D := D) (ci := 5) (v := .ref (q + 3)) (C := RX5) (T := TX5) (N := 15) hx hb hts hinX5 hown hK hP 0 rfl rfl 7 (by decide) hf16 (fun _ h9 => h9) rfl dX5_scrap_54 ?_
        refine lv_bipush (v := 60) hx hb dX5_scrap_57 (by decide) ?_
        refine lv_iload_n hx hb dX5_scrap_59 rfl (lv_at hl 2 rfl) ?_
        refine lv_iadd hx hb dX5_scrap_60 ?_
        refine lv_iconst (v := 3) hx hb dX5_scrap_61 (by decide) ?_
        refine g_iast (f := ((mA r40) 3)) (k := ((60 + p0)).toNatClampNeg) hx hb hK hP MW_self hS 3 0 rfl rfl hg2 rfl dX5_scrap_62 (fun H locs hP hS => ?_)
        obtain ⟨a5, ha5, h⟩ := lt_some h
        have hP : va_P D vwCl (MW cI cZ q (a5, (mRef r40), (mSize r40), (mSpot r40), (mRN r40), (mN r40), (mActs r40))) H := by have h9 := hP; rw [MW_s3] at h9; rw [ha5]; exact h9
        refine lv_iload_n hx hb dX5_scrap_63 rfl (lv_at hl 0 rfl) ?_
        have h := Option.some.inj h
        subst h
        exact W.iret (v := (((mA r40) 3) ((60 + p0)).toNatClampNeg)) hx hb hr (fun t ht hW => ⟨⟨_, (), rfl, rfl, gh ht hP⟩, hS.F ht⟩) hS.2.2 dX5_scrap_64
      · replace h := (if_neg c4).symm.trans h
        refine lv_iconst (v := 0) hx hb dX5_scrap_37 (by decide) ?_
        have h := Option.some.inj h
        subst h
        exact W.iret (v := 0) hx hb hr (fun t ht hW => ⟨⟨_, (), rfl, rfl, gh ht hP⟩, hS.F ht⟩) hS.2.2 dX5_scrap_38
    · replace h := (if_pos c3).symm.trans h
      refine lv_iconst (v := 2) hx hb dX5_scrap_26 (by decide) ?_
      refine lv_goto (tgt := 31) hx hb dX5_scrap_27 (by decide) ?_
      obtain ⟨r31, hr31, h⟩ := bd_some h
      refine gc_wi (As := [.int 2]) (rest := []) ⟨hx, hb, hml, hown, hts⟩ hK (kX5_refused l D cI cC cZ cQ cJ q M 2 hr31) (cwV 1 hts gX5_scrap_X5_refused rfl rfl rfl (by decide +kernel) ⟨Nat.le_of_ble_eq_true rfl, Nat.le_of_ble_eq_true rfl⟩) (va_recv hK hP (ci := 5) (q0 := 0) rfl rfl) hP hS (fun _ h => h) rfl hl.1 rfl (Nat.le_of_ble_eq_true rfl) ⟨Nat.zero_le _, Nat.zero_le _⟩ dX5_scrap_31 (fun H locs hP hS _ _ => ?_)
      refine lv_if_eq (tgt := 39) hx hb dX5_scrap_34 (by decide) (fun c6 => ?_) (fun c6 => ?_)
      · replace h := (if_pos c6).symm.trans h
        refine lv_aload_n hx hb dX5_scrap_39 rfl (lv_at hl 0 rfl) ?_
        obtain ⟨r40, hr40, h⟩ := bd_some h
        refine gc_wv (As := []) (rest := []) ⟨hx, hb, hml, hown, hts⟩ hK (kX5_note l D cI cC cZ cQ cJ q r31.2 hr40) (cwV 0 hts gX5_scrap_X5_note rfl rfl rfl (by decide +kernel) ⟨Nat.le_of_ble_eq_true rfl, Nat.le_of_ble_eq_true rfl⟩) (va_recv hK hP (ci := 5) (q0 := 0) rfl rfl) hP hS (fun _ h => h) rfl hl.1 rfl (Nat.le_of_ble_eq_true rfl) ⟨Nat.zero_le _, Nat.zero_le _⟩ dX5_scrap_40 (fun H locs hP hS _ _ => ?_)
        refine lv_aload_n hx hb dX5_scrap_43 rfl (lv_at hl 0 rfl) ?_
        refine va_get (D := D) (ci := 5) (v := .ref (q + 3)) (C := RX5) (T := TX5) (N := 15) hx hb hts hinX5 hown hK hP 0 rfl rfl 7 (by decide) hf16 (fun _ h9 => h9) rfl dX5_scrap_44 ?_
        refine lv_bipush (v := 60) hx hb dX5_scrap_47 (by decide) ?_
        refine lv_iload_n hx hb dX5_scrap_49 rfl (lv_at hl 1 rfl) ?_
        refine lv_iadd hx hb dX5_scrap_50 ?_
        refine g_iald (f := ((mA r40) 3)) (k := ((60 + p0)).toNatClampNeg) hx hb hK hP 3 0 rfl rfl hg2 rfl dX5_scrap_51 ?_
        refine lv_istore_n (lv' := [(2, .int (((mA r40) 3) ((60 + p0)).toNatClampNeg)), (0, .ref q), (1, .int p0)]) hx hb dX5_scrap_52 rfl hl (by decide) rfl (fun ls hl => ?_)
        refine lv_aload_n hx hb dX5_scrap_53 rfl (lv_at hl 1 rfl) ?_
        refine va_get (D := D) (ci := 5) (v := .ref (q + 3)) (C := RX5) (T := TX5) (N := 15) hx hb hts hinX5 hown hK hP 0 rfl rfl 7 (by decide) hf16 (fun _ h9 => h9) rfl dX5_scrap_54 ?_
        refine lv_bipush (v := 60) hx hb dX5_scrap_57 (by decide) ?_
        refine lv_iload_n hx hb dX5_scrap_59 rfl (lv_at hl 2 rfl) ?_
        refine lv_iadd hx hb dX5_scrap_60 ?_
        refine lv_iconst (v := 3) hx hb dX5_scrap_61 (by decide) ?_
        refine g_iast (f := ((mA r40) 3)) (k := ((60 + p0)).toNatClampNeg) hx hb hK hP MW_self hS 3 0 rfl rfl hg2 rfl dX5_scrap_62 (fun H locs hP hS => ?_)
        obtain ⟨a7, ha7, h⟩ := lt_some h
        have hP : va_P D vwCl (MW cI cZ q (a7, (mRef r40), (mSize r40), (mSpot r40), (mRN r40), (mN r40), (mActs r40))) H := by have h9 := hP; rw [MW_s3] at h9; rw [ha7]; exact h9
        refine lv_iload_n hx hb dX5_scrap_63 rfl (lv_at hl 0 rfl) ?_
        have h := Option.some.inj h
        subst h
        exact W.iret (v := (((mA r40) 3) ((60 + p0)).toNatClampNeg)) hx hb hr (fun t ht hW => ⟨⟨_, (), rfl, rfl, gh ht hP⟩, hS.F ht⟩) hS.2.2 dX5_scrap_64
      · replace h := (if_neg c6).symm.trans h
        refine lv_iconst (v := 0) hx hb dX5_scrap_37 (by decide) ?_
        have h := Option.some.inj h
        subst h
        exact W.iret (v := 0) hx hb hr (fun t ht hW => ⟨⟨_, (), rfl, rfl, gh ht hP⟩, hS.F ht⟩) hS.2.2 dX5_scrap_38
  · replace h := (if_pos c1).symm.trans h
    refine lv_iconst (v := 1) hx hb dX5_scrap_9 (by decide) ?_
    refine lv_goto (tgt := 31) hx hb dX5_scrap_10 (by decide) ?_
    obtain ⟨r31, hr31, h⟩ := bd_some h
    refine gc_wi (As := [.int 1]) (rest := []) ⟨hx, hb, hml, hown, hts⟩ hK (kX5_refused l D cI cC cZ cQ cJ q M 1 hr31) (cwV 1 hts gX5_scrap_X5_refused rfl rfl rfl (by decide +kernel) ⟨Nat.le_of_ble_eq_true rfl, Nat.le_of_ble_eq_true rfl⟩) (va_recv hK hP (ci := 5) (q0 := 0) rfl rfl) hP hS (fun _ h => h) rfl hl.1 rfl (Nat.le_of_ble_eq_true rfl) ⟨Nat.zero_le _, Nat.zero_le _⟩ dX5_scrap_31 (fun H locs hP hS _ _ => ?_)
    refine lv_if_eq (tgt := 39) hx hb dX5_scrap_34 (by decide) (fun c8 => ?_) (fun c8 => ?_)
    · replace h := (if_pos c8).symm.trans h
      refine lv_aload_n hx hb dX5_scrap_39 rfl (lv_at hl 0 rfl) ?_
      obtain ⟨r40, hr40, h⟩ := bd_some h
      refine gc_wv (As := []) (rest := []) ⟨hx, hb, hml, hown, hts⟩ hK (kX5_note l D cI cC cZ cQ cJ q r31.2 hr40) (cwV 0 hts gX5_scrap_X5_note rfl rfl rfl (by decide +kernel) ⟨Nat.le_of_ble_eq_true rfl, Nat.le_of_ble_eq_true rfl⟩) (va_recv hK hP (ci := 5) (q0 := 0) rfl rfl) hP hS (fun _ h => h) rfl hl.1 rfl (Nat.le_of_ble_eq_true rfl) ⟨Nat.zero_le _, Nat.zero_le _⟩ dX5_scrap_40 (fun H locs hP hS _ _ => ?_)
      refine lv_aload_n hx hb dX5_scrap_43 rfl (lv_at hl 0 rfl) ?_
      refine va_get (D := D) (ci := 5) (v := .ref (q + 3)) (C := RX5) (T := TX5) (N := 15) hx hb hts hinX5 hown hK hP 0 rfl rfl 7 (by decide) hf16 (fun _ h9 => h9) rfl dX5_scrap_44 ?_
      refine lv_bipush (v := 60) hx hb dX5_scrap_47 (by decide) ?_
      refine lv_iload_n hx hb dX5_scrap_49 rfl (lv_at hl 1 rfl) ?_
      refine lv_iadd hx hb dX5_scrap_50 ?_
      obtain ⟨hg9, h⟩ := gd_some h
      refine g_iald (f := ((mA r40) 3)) (k := ((60 + p0)).toNatClampNeg) hx hb hK hP 3 0 rfl rfl hg9 rfl dX5_scrap_51 ?_
      refine lv_istore_n (lv' := [(2, .int (((mA r40) 3) ((60 + p0)).toNatClampNeg)), (0, .ref q), (1, .int p0)]) hx hb dX5_scrap_52 rfl hl (by decide) rfl (fun ls hl => ?_)
      refine lv_aload_n hx hb dX5_scrap_53 rfl (lv_at hl 1 rfl) ?_
      refine va_get (D := D) (ci := 5) (v := .ref (q + 3)) (C := RX5) (T := TX5) (N := 15) hx hb hts hinX5 hown hK hP 0 rfl rfl 7 (by decide) hf16 (fun _ h9 => h9) rfl dX5_scrap_54 ?_
      refine lv_bipush (v := 60) hx hb dX5_scrap_57 (by decide) ?_
      refine lv_iload_n hx hb dX5_scrap_59 rfl (lv_at hl 2 rfl) ?_
      refine lv_iadd hx hb dX5_scrap_60 ?_
      refine lv_iconst (v := 3) hx hb dX5_scrap_61 (by decide) ?_
      refine g_iast (f := ((mA r40) 3)) (k := ((60 + p0)).toNatClampNeg) hx hb hK hP MW_self hS 3 0 rfl rfl hg9 rfl dX5_scrap_62 (fun H locs hP hS => ?_)
      obtain ⟨a10, ha10, h⟩ := lt_some h
      have hP : va_P D vwCl (MW cI cZ q (a10, (mRef r40), (mSize r40), (mSpot r40), (mRN r40), (mN r40), (mActs r40))) H := by have h9 := hP; rw [MW_s3] at h9; rw [ha10]; exact h9
      refine lv_iload_n hx hb dX5_scrap_63 rfl (lv_at hl 0 rfl) ?_
      have h := Option.some.inj h
      subst h
      exact W.iret (v := (((mA r40) 3) ((60 + p0)).toNatClampNeg)) hx hb hr (fun t ht hW => ⟨⟨_, (), rfl, rfl, gh ht hP⟩, hS.F ht⟩) hS.2.2 dX5_scrap_64
    · replace h := (if_neg c8).symm.trans h
      refine lv_iconst (v := 0) hx hb dX5_scrap_37 (by decide) ?_
      have h := Option.some.inj h
      subst h
      exact W.iret (v := 0) hx hb hr (fun t ht hW => ⟨⟨_, (), rfl, rfl, gh ht hP⟩, hS.F ht⟩) hS.2.2 dX5_scrap_38
set_option maxHeartbeats 4000000 in
set_option maxRecDepth 100000 in
theorem kX5_isLimit (l : Launch) (D : va_G) (cI cC cZ cQ cJ : ClassId) (p0 : Int32) (p1 : Int32) {R : Int32} (h : fX5_isLimit p0 p1 = some R) : Met l yX5_isLimit wsX5_isLimit ({ frames := 1, cells := 0, slots := 0, locals := 25 } : Room) (va_Pc [.int p0, .int p1] (gB D (gTy cI cC cZ cQ cJ) (fun _ => True))) (vp_Si (fun r => r = R)) 0 0 (fun _ => False) := by
  refine Met.ofW (cc := cX5_isLimit) (maxL := 3) (ret := (some .boolean)) (by decide) rfl ?_
  intro p e s m args below meth c s₁ B hml hv
  obtain ⟨rfl, hP, hK⟩ := hv
  have hx := B.exec
  have hb := B.bytes
  have hr := B.returns
  have hts := atoms_spec (ws := wsX5_isLimit) B.pre
  have hown : s.vm.findClass RX5 = some m.cls := findClass_of_methodNamed B.named
  have hlocks := B.notSynchronized
  generalize hRM : (headSpec wsX5_isLimit ({ frames := 1, cells := 0, slots := 0, locals := 25 } : Room)).room = RM
  replace hRM : ({ frames := 1, cells := 0, slots := 0, locals := 25 } : Room) = RM := hRM
  subst hRM
  have hl := lv_entry ([.int p0, .int p1]) (n := 3) (Nat.le_of_ble_eq_true rfl)
  rw [lg_entry_eq]
  generalize (lg_sl ([.int p0, .int p1]) ++ List.replicate (3 - (lg_sl ([.int p0, .int p1])).length) Slot.unset).toArray = ls at hl ⊢
  have hl : lv_has ls 3 [(0, .int p0), (1, .int p1)] := hl
  unfold fX5_isLimit at h
  refine lv_iload_n hx hb dX5_isLimit_0 rfl (lv_at hl 0 rfl) ?_
  refine lv_if_ne (tgt := 9) hx hb dX5_isLimit_1 (by decide) (fun c1 => ?_) (fun c1 => ?_)
  · replace h := (if_neg c1).symm.trans h
    refine lv_iload_n hx hb dX5_isLimit_9 rfl (lv_at hl 0 rfl) ?_
    refine lv_iconst (v := 1) hx hb dX5_isLimit_10 (by decide) ?_
    refine lv_icmp_ne (tgt := 19) hx hb dX5_isLimit_11 (by decide) (fun c2 => ?_) (fun c2 => ?_)
    · replace h := (if_neg c2).symm.trans h
      refine lv_iload_n hx hb dX5_isLimit_19 rfl (lv_at hl 0 rfl) ?_
      refine lv_iconst (v := 3) hx hb dX5_isLimit_20 (by decide) ?_
      refine lv_icmp_ne (tgt := 28) hx hb dX5_isLimit_21 (by decide) (fun c3 => ?_) (fun c3 => ?_)
      · replace h := (if_neg c3).symm.trans h
        refine lv_bipush (v := 9) hx hb dX5_isLimit_28 (by decide) ?_
        refine lv_istore_n (lv' := [(2, .int 9), (0, .int p0), (1, .int p1)]) hx hb dX5_isLimit_30 rfl hl (by decide) rfl (fun ls hl => ?_)
        refine lv_iload_n hx hb dX5_isLimit_31 rfl (lv_at hl 1 rfl) ?_
        refine lv_i2l hx hb dX5_isLimit_32 rfl ?_
        refine lv_lconst (v := 0) hx hb dX5_isLimit_33 (by decide) ?_
        refine lv_ldc2 (v := 4) hx hb hown (hts (.constantLong RX5 171 (4)) (by decide +kernel)) dX5_isLimit_34 ?_
        obtain ⟨r37, hr37, h⟩ := bd_some h
        refine gc_si (As := [.long ((p0).toInt64), .long 0, .long 4]) (rest := []) ⟨hx, hb, hml, hown, hts⟩ hK (kX5_in l D cI cC cZ cQ cJ ((p0).toInt64) 0 4 hr37) (va_cwS 3 hts gX5_isLimit_X5_in rfl rfl rfl (by decide +kernel) ⟨Nat.le_of_ble_eq_true rfl, Nat.le_of_ble_eq_true rfl⟩)  trivial rfl hl.1 rfl (Nat.le_of_ble_eq_true rfl) ⟨Nat.zero_le _, Nat.zero_le _⟩ dX5_isLimit_37 ?_
        refine lv_if_eq (tgt := 58) hx hb dX5_isLimit_40 (by decide) (fun c4 => ?_) (fun c4 => ?_)
        · replace h := (if_pos c4).symm.trans h
          refine lv_iconst (v := 0) hx hb dX5_isLimit_58 (by decide) ?_
          have h := Option.some.inj h
          exact W.zret (v := 0) hx hb hr rfl (fun t ht hW => ⟨_, rfl, h, ht⟩) t_nil dX5_isLimit_59
        · replace h := (if_neg c4).symm.trans h
          refine lv_iload_n hx hb dX5_isLimit_43 rfl (lv_at hl 2 rfl) ?_
          refine lv_i2l hx hb dX5_isLimit_44 rfl ?_
          refine lv_lconst (v := 1) hx hb dX5_isLimit_45 (by decide) ?_
          refine lv_iload_n hx hb dX5_isLimit_46 rfl (lv_at hl 0 rfl) ?_
          refine lv_i2l hx hb dX5_isLimit_47 rfl ?_
          obtain ⟨r48, hr48, h⟩ := bd_some h
          refine gc_si (As := [.long ((p1).toInt64), .long 1, .long ((9 : Int32).toInt64)]) (rest := []) ⟨hx, hb, hml, hown, hts⟩ hK (kX5_in l D cI cC cZ cQ cJ ((p1).toInt64) 1 ((9 : Int32).toInt64) hr48) (va_cwS 3 hts gX5_isLimit_X5_in rfl rfl rfl (by decide +kernel) ⟨Nat.le_of_ble_eq_true rfl, Nat.le_of_ble_eq_true rfl⟩)  trivial rfl hl.1 rfl (Nat.le_of_ble_eq_true rfl) ⟨Nat.zero_le _, Nat.zero_le _⟩ dX5_isLimit_48 ?_
          refine lv_if_eq (tgt := 58) hx hb dX5_isLimit_51 (by decide) (fun c5 => ?_) (fun c5 => ?_)
          · replace h := (if_pos c5).symm.trans h
            refine lv_iconst (v := 0) hx hb dX5_isLimit_58 (by decide) ?_
            have h := Option.some.inj h
            exact W.zret (v := 0) hx hb hr rfl (fun t ht hW => ⟨_, rfl, h, ht⟩) t_nil dX5_isLimit_59
          · replace h := (if_neg c5).symm.trans h
            refine lv_iconst (v := 1) hx hb dX5_isLimit_54 (by decide) ?_
            refine lv_goto (tgt := 59) hx hb dX5_isLimit_55 (by decide) ?_
            have h := Option.some.inj h
            exact W.zret (v := 1) hx hb hr rfl (fun t ht hW => ⟨_, rfl, h, ht⟩) t_nil dX5_isLimit_59
      · replace h := (if_pos c3).symm.trans h
        refine lv_iconst (v := 4) hx hb dX5_isLimit_24 (by decide) ?_
        refine lv_goto (tgt := 30) hx hb dX5_isLimit_25 (by decide) ?_
        refine lv_istore_n (lv' := [(2, .int 4), (0, .int p0), (1, .int p1)]) hx hb dX5_isLimit_30 rfl hl (by decide) rfl (fun ls hl => ?_)
        refine lv_iload_n hx hb dX5_isLimit_31 rfl (lv_at hl 1 rfl) ?_
        refine lv_i2l hx hb dX5_isLimit_32 rfl ?_
        refine lv_lconst (v := 0) hx hb dX5_isLimit_33 (by decide) ?_
        refine lv_ldc2 (v := 4) hx hb hown (hts (.constantLong RX5 171 (4)) (by decide +kernel)) dX5_isLimit_34 ?_
        obtain ⟨r37, hr37, h⟩ := bd_some h
        refine gc_si (As := [.long ((p0).toInt64), .long 0, .long 4]) (rest := []) ⟨hx, hb, hml, hown, hts⟩ hK (kX5_in l D cI cC cZ cQ cJ ((p0).toInt64) 0 4 hr37) (va_cwS 3 hts gX5_isLimit_X5_in rfl rfl rfl (by decide +kernel) ⟨Nat.le_of_ble_eq_true rfl, Nat.le_of_ble_eq_true rfl⟩)  trivial rfl hl.1 rfl (Nat.le_of_ble_eq_true rfl) ⟨Nat.zero_le _, Nat.zero_le _⟩ dX5_isLimit_37 ?_
        refine lv_if_eq (tgt := 58) hx hb dX5_isLimit_40 (by decide) (fun c6 => ?_) (fun c6 => ?_)
        · replace h := (if_pos c6).symm.trans h
          refine lv_iconst (v := 0) hx hb dX5_isLimit_58 (by decide) ?_
          have h := Option.some.inj h
          exact W.zret (v := 0) hx hb hr rfl (fun t ht hW => ⟨_, rfl, h, ht⟩) t_nil dX5_isLimit_59
        · replace h := (if_neg c6).symm.trans h
          refine lv_iload_n hx hb dX5_isLimit_43 rfl (lv_at hl 2 rfl) ?_
          refine lv_i2l hx hb dX5_isLimit_44 rfl ?_
          refine lv_lconst (v := 1) hx hb dX5_isLimit_45 (by decide) ?_
          refine lv_iload_n hx hb dX5_isLimit_46 rfl (lv_at hl 0 rfl) ?_
          refine lv_i2l hx hb dX5_isLimit_47 rfl ?_
          obtain ⟨r48, hr48, h⟩ := bd_some h
          refine gc_si (As := [.long ((p1).toInt64), .long 1, .long ((4 : Int32).toInt64)]) (rest := []) ⟨hx, hb, hml, hown, hts⟩ hK (kX5_in l D cI cC cZ cQ cJ ((p1).toInt64) 1 ((4 : Int32).toInt64) hr48) (va_cwS 3 hts gX5_isLimit_X5_in rfl rfl rfl (by decide +kernel) ⟨Nat.le_of_ble_eq_true rfl, Nat.le_of_ble_eq_true rfl⟩)  trivial rfl hl.1 rfl (Nat.le_of_ble_eq_true rfl) ⟨Nat.zero_le _, Nat.zero_le _⟩ dX5_isLimit_48 ?_
          refine lv_if_eq (tgt := 58) hx hb dX5_isLimit_51 (by decide) (fun c7 => ?_) (fun c7 => ?_)
          · replace h := (if_pos c7).symm.trans h
            refine lv_iconst (v := 0) hx hb dX5_isLimit_58 (by decide) ?_
            have h := Option.some.inj h
            exact W.zret (v := 0) hx hb hr rfl (fun t ht hW => ⟨_, rfl, h, ht⟩) t_nil dX5_isLimit_59
          · replace h := (if_neg c7).symm.trans h
            refine lv_iconst (v := 1) hx hb dX5_isLimit_54 (by decide) ?_
            refine lv_goto (tgt := 59) hx hb dX5_isLimit_55 (by decide) ?_
            have h := Option.some.inj h
            exact W.zret (v := 1) hx hb hr rfl (fun t ht hW => ⟨_, rfl, h, ht⟩) t_nil dX5_isLimit_59
    · replace h := (if_pos c2).symm.trans h
      refine lv_bipush (v := 50) hx hb dX5_isLimit_14 (by decide) ?_
      refine lv_goto (tgt := 30) hx hb dX5_isLimit_16 (by decide) ?_
      refine lv_istore_n (lv' := [(2, .int 50), (0, .int p0), (1, .int p1)]) hx hb dX5_isLimit_30 rfl hl (by decide) rfl (fun ls hl => ?_)
      refine lv_iload_n hx hb dX5_isLimit_31 rfl (lv_at hl 1 rfl) ?_
      refine lv_i2l hx hb dX5_isLimit_32 rfl ?_
      refine lv_lconst (v := 0) hx hb dX5_isLimit_33 (by decide) ?_
      refine lv_ldc2 (v := 4) hx hb hown (hts (.constantLong RX5 171 (4)) (by decide +kernel)) dX5_isLimit_34 ?_
      obtain ⟨r37, hr37, h⟩ := bd_some h
      refine gc_si (As := [.long ((p0).toInt64), .long 0, .long 4]) (rest := []) ⟨hx, hb, hml, hown, hts⟩ hK (kX5_in l D cI cC cZ cQ cJ ((p0).toInt64) 0 4 hr37) (va_cwS 3 hts gX5_isLimit_X5_in rfl rfl rfl (by decide +kernel) ⟨Nat.le_of_ble_eq_true rfl, Nat.le_of_ble_eq_true rfl⟩)  trivial rfl hl.1 rfl (Nat.le_of_ble_eq_true rfl) ⟨Nat.zero_le _, Nat.zero_le _⟩ dX5_isLimit_37 ?_
      refine lv_if_eq (tgt := 58) hx hb dX5_isLimit_40 (by decide) (fun c8 => ?_) (fun c8 => ?_)
      · replace h := (if_pos c8).symm.trans h
        refine lv_iconst (v := 0) hx hb dX5_isLimit_58 (by decide) ?_
        have h := Option.some.inj h
        exact W.zret (v := 0) hx hb hr rfl (fun t ht hW => ⟨_, rfl, h, ht⟩) t_nil dX5_isLimit_59
      · replace h := (if_neg c8).symm.trans h
        refine lv_iload_n hx hb dX5_isLimit_43 rfl (lv_at hl 2 rfl) ?_
        refine lv_i2l hx hb dX5_isLimit_44 rfl ?_
        refine lv_lconst (v := 1) hx hb dX5_isLimit_45 (by decide) ?_
        refine lv_iload_n hx hb dX5_isLimit_46 rfl (lv_at hl 0 rfl) ?_
        refine lv_i2l hx hb dX5_isLimit_47 rfl ?_
        obtain ⟨r48, hr48, h⟩ := bd_some h
        refine gc_si (As := [.long ((p1).toInt64), .long 1, .long ((50 : Int32).toInt64)]) (rest := []) ⟨hx, hb, hml, hown, hts⟩ hK (kX5_in l D cI cC cZ cQ cJ ((p1).toInt64) 1 ((50 : Int32).toInt64) hr48) (va_cwS 3 hts gX5_isLimit_X5_in rfl rfl rfl (by decide +kernel) ⟨Nat.le_of_ble_eq_true rfl, Nat.le_of_ble_eq_true rfl⟩)  trivial rfl hl.1 rfl (Nat.le_of_ble_eq_true rfl) ⟨Nat.zero_le _, Nat.zero_le _⟩ dX5_isLimit_48 ?_
        refine lv_if_eq (tgt := 58) hx hb dX5_isLimit_51 (by decide) (fun c9 => ?_) (fun c9 => ?_)
        · replace h := (if_pos c9).symm.trans h
          refine lv_iconst (v := 0) hx hb dX5_isLimit_58 (by decide) ?_
          have h := Option.some.inj h
          exact W.zret (v := 0) hx hb hr rfl (fun t ht hW => ⟨_, rfl, h, ht⟩) t_nil dX5_isLimit_59
        · replace h := (if_neg c9).symm.trans h
          refine lv_iconst (v := 1) hx hb dX5_isLimit_54 (by decide) ?_
          refine lv_goto (tgt := 59) hx hb dX5_isLimit_55 (by decide) ?_
          have h := Option.some.inj h
          exact W.zret (v := 1) hx hb hr rfl (fun t ht hW => ⟨_, rfl, h, ht⟩) t_nil dX5_isLimit_59
  · replace h := (if_pos c1).symm.trans h
    refine lv_bipush (v := 99) hx hb dX5_isLimit_4 (by decide) ?_
    refine lv_goto (tgt := 30) hx hb dX5_isLimit_6 (by decide) ?_
    refine lv_istore_n (lv' := [(2, .int 99), (0, .int p0), (1, .int p1)]) hx hb dX5_isLimit_30 rfl hl (by decide) rfl (fun ls hl => ?_)
    refine lv_iload_n hx hb dX5_isLimit_31 rfl (lv_at hl 1 rfl) ?_
    refine lv_i2l hx hb dX5_isLimit_32 rfl ?_
    refine lv_lconst (v := 0) hx hb dX5_isLimit_33 (by decide) ?_
    refine lv_ldc2 (v := 4) hx hb hown (hts (.constantLong RX5 171 (4)) (by decide +kernel)) dX5_isLimit_34 ?_
    obtain ⟨r37, hr37, h⟩ := bd_some h
    refine gc_si (As := [.long ((p0).toInt64), .long 0, .long 4]) (rest := []) ⟨hx, hb, hml, hown, hts⟩ hK (kX5_in l D cI cC cZ cQ cJ ((p0).toInt64) 0 4 hr37) (va_cwS 3 hts gX5_isLimit_X5_in rfl rfl rfl (by decide +kernel) ⟨Nat.le_of_ble_eq_true rfl, Nat.le_of_ble_eq_true rfl⟩)  trivial rfl hl.1 rfl (Nat.le_of_ble_eq_true rfl) ⟨Nat.zero_le _, Nat.zero_le _⟩ dX5_isLimit_37 ?_
    refine lv_if_eq (tgt := 58) hx hb dX5_isLimit_40 (by decide) (fun c10 => ?_) (fun c10 => ?_)
    · replace h := (if_pos c10).symm.trans h
      refine lv_iconst (v := 0) hx hb dX5_isLimit_58 (by decide) ?_
      have h := Option.some.inj h
      exact W.zret (v := 0) hx hb hr rfl (fun t ht hW => ⟨_, rfl, h, ht⟩) t_nil dX5_isLimit_59
    · replace h := (if_neg c10).symm.trans h
      refine lv_iload_n hx hb dX5_isLimit_43 rfl (lv_at hl 2 rfl) ?_
      refine lv_i2l hx hb dX5_isLimit_44 rfl ?_
      refine lv_lconst (v := 1) hx hb dX5_isLimit_45 (by decide) ?_
      refine lv_iload_n hx hb dX5_isLimit_46 rfl (lv_at hl 0 rfl) ?_
      refine lv_i2l hx hb dX5_isLimit_47 rfl ?_
      obtain ⟨r48, hr48, h⟩ := bd_some h
      refine gc_si (As := [.long ((p1).toInt64), .long 1, .long ((99 : Int32).toInt64)]) (rest := []) ⟨hx, hb, hml, hown, hts⟩ hK (kX5_in l D cI cC cZ cQ cJ ((p1).toInt64) 1 ((99 : Int32).toInt64) hr48) (va_cwS 3 hts gX5_isLimit_X5_in rfl rfl rfl (by decide +kernel) ⟨Nat.le_of_ble_eq_true rfl, Nat.le_of_ble_eq_true rfl⟩)  trivial rfl hl.1 rfl (Nat.le_of_ble_eq_true rfl) ⟨Nat.zero_le _, Nat.zero_le _⟩ dX5_isLimit_48 ?_
      refine lv_if_eq (tgt := 58) hx hb dX5_isLimit_51 (by decide) (fun c11 => ?_) (fun c11 => ?_)
      · replace h := (if_pos c11).symm.trans h
        refine lv_iconst (v := 0) hx hb dX5_isLimit_58 (by decide) ?_
        have h := Option.some.inj h
        exact W.zret (v := 0) hx hb hr rfl (fun t ht hW => ⟨_, rfl, h, ht⟩) t_nil dX5_isLimit_59
      · replace h := (if_neg c11).symm.trans h
        refine lv_iconst (v := 1) hx hb dX5_isLimit_54 (by decide) ?_
        refine lv_goto (tgt := 59) hx hb dX5_isLimit_55 (by decide) ?_
        have h := Option.some.inj h
        exact W.zret (v := 1) hx hb hr rfl (fun t ht hW => ⟨_, rfl, h, ht⟩) t_nil dX5_isLimit_59
set_option maxHeartbeats 4000000 in
set_option maxRecDepth 100000 in
theorem kX5_setLimit (l : Launch) (D : va_G) (cI cC cZ cQ cJ : ClassId) (q : Nat) (M : MSt) (p0 : Int32) (p1 : Int32) {R : Int32 × MSt} (h : fX5_setLimit M p0 p1 = some R) : Met l yX5_setLimit wsX5_setLimit ({ frames := 2, cells := 0, slots := 0, locals := 47 } : Room) (va_Pc [.ref q, .int p0, .int p1] (gB D (gTy cI cC cZ cQ cJ) (va_P D vwCl (MW cI cZ q M)))) (va_Qi (fun r (_ : Unit) => r = R.1) (fun _ t => va_P D vwCl (MW cI cZ q R.2) t.heap) (fIv q 10)) 0 0 (fIv q 10) := by
  refine Met.ofW (cc := cX5_setLimit) (maxL := 4) (ret := (some .int)) (by decide) rfl ?_
  intro p e s m args below meth c s₁ B hml hv
  obtain ⟨rfl, hP, hK⟩ := hv
  have hx := B.exec
  have hb := B.bytes
  have hr := B.returns
  have hts := atoms_spec (ws := wsX5_setLimit) B.pre
  have hown : s.vm.findClass RX5 = some m.cls := findClass_of_methodNamed B.named
  have hlocks := B.notSynchronized
  have hinX5 : ∀ w ∈ wsX50, w ∈ wsX5_setLimit := by decide +kernel
  have hf16 := hts (.fieldLink RX5 16 "GripInspectorModel" "now" "[I") (by decide +kernel)
  generalize hRM : (headSpec wsX5_setLimit ({ frames := 2, cells := 0, slots := 0, locals := 47 } : Room)).room = RM
  replace hRM : ({ frames := 2, cells := 0, slots := 0, locals := 47 } : Room) = RM := hRM
  subst hRM
  have hl := lv_entry ([.ref q, .int p0, .int p1]) (n := 4) (Nat.le_of_ble_eq_true rfl)
  rw [lg_entry_eq]
  generalize (lg_sl ([.ref q, .int p0, .int p1]) ++ List.replicate (4 - (lg_sl ([.ref q, .int p0, .int p1])).length) Slot.unset).toArray = ls at hl ⊢
  have hl : lv_has ls 4 [(0, .ref q), (1, .int p0), (2, .int p1)] := hl
  have hS : va_S (fIv q 10) s.heap s.heap [] := va_S.rf
  unfold fX5_setLimit at h
  obtain ⟨H, hH⟩ : ∃ H, H = s.heap := ⟨_, rfl⟩
  obtain ⟨locs, hlz⟩ : ∃ z : List Loc, z = [] := ⟨_, rfl⟩
  have hP : va_P D vwCl (MW cI cZ q M) H := by rw [hH]; exact hP
  have hS : va_S (fIv q 10) s.heap H locs := by rw [hH, hlz]; exact hS
  refine gc_at hH hlz ?_
  refine lv_aload_n hx hb dX5_setLimit_0 rfl (lv_at hl 0 rfl) ?_
  refine lv_iload_n hx hb dX5_setLimit_1 rfl (lv_at hl 1 rfl) ?_
  refine lv_iload_n hx hb dX5_setLimit_2 rfl (lv_at hl 2 rfl) ?_
  obtain ⟨r3, hr3, h⟩ := bd_some h
  refine gc_si (As := [.int p0, .int p1]) (rest := [.ref q]) ⟨hx, hb, hml, hown, hts⟩ hK (kX5_isLimit l D cI cC cZ cQ cJ p0 p1 hr3) (va_cwS 2 hts gX5_setLimit_X5_isLimit rfl rfl rfl (by decide +kernel) ⟨Nat.le_of_ble_eq_true rfl, Nat.le_of_ble_eq_true rfl⟩)  trivial rfl hl.1 rfl (Nat.le_of_ble_eq_true rfl) ⟨Nat.zero_le _, Nat.zero_le _⟩ dX5_setLimit_3 ?_
  refine lv_if_eq (tgt := 13) hx hb dX5_setLimit_6 (by decide) (fun c1 => ?_) (fun c1 => ?_)
  · replace h := (if_pos c1).symm.trans h
    refine lv_iconst (v := 1) hx hb dX5_setLimit_13 (by decide) ?_
    obtain ⟨r14, hr14, h⟩ := bd_some h
    refine gc_wi (As := [.int 1]) (rest := []) ⟨hx, hb, hml, hown, hts⟩ hK (kX5_refused l D cI cC cZ cQ cJ q M 1 hr14) (cwV 1 hts gX5_setLimit_X5_refused rfl rfl rfl (by decide +kernel) ⟨Nat.le_of_ble_eq_true rfl, Nat.le_of_ble_eq_true rfl⟩) (va_recv hK hP (ci := 5) (q0 := 0) rfl rfl) hP hS (fun _ h => h) rfl hl.1 rfl (Nat.le_of_ble_eq_true rfl) ⟨Nat.zero_le _, Nat.zero_le _⟩ dX5_setLimit_14 (fun H locs hP hS _ _ => ?_)
    refine lv_if_eq (tgt := 22) hx hb dX5_setLimit_17 (by decide) (fun c2 => ?_) (fun c2 => ?_)
    · replace h := (if_pos c2).symm.trans h
      refine lv_aload_n hx hb dX5_setLimit_22 rfl (lv_at hl 0 rfl) ?_
      obtain ⟨r23, hr23, h⟩ := bd_some h
      refine gc_wv (As := []) (rest := []) ⟨hx, hb, hml, hown, hts⟩ hK (kX5_note l D cI cC cZ cQ cJ q r14.2 hr23) (cwV 0 hts gX5_setLimit_X5_note rfl rfl rfl (by decide +kernel) ⟨Nat.le_of_ble_eq_true rfl, Nat.le_of_ble_eq_true rfl⟩) (va_recv hK hP (ci := 5) (q0 := 0) rfl rfl) hP hS (fun _ h => h) rfl hl.1 rfl (Nat.le_of_ble_eq_true rfl) ⟨Nat.zero_le _, Nat.zero_le _⟩ dX5_setLimit_23 (fun H locs hP hS _ _ => ?_)
      refine lv_aload_n hx hb dX5_setLimit_26 rfl (lv_at hl 0 rfl) ?_
      refine va_get (D := D) (ci := 5) (v := .ref (q + 3)) (C := RX5) (T := TX5) (N := 15) hx hb hts hinX5 hown hK hP 0 rfl rfl 7 (by decide) hf16 (fun _ h9 => h9) rfl dX5_setLimit_27 ?_
      refine lv_bipush (v := 99) hx hb dX5_setLimit_30 (by decide) ?_
      refine lv_iload_n hx hb dX5_setLimit_32 rfl (lv_at hl 1 rfl) ?_
      refine lv_iadd hx hb dX5_setLimit_33 ?_
      obtain ⟨hg3, h⟩ := gd_some h
      refine g_iald (f := ((mA r23) 3)) (k := ((99 + p0)).toNatClampNeg) hx hb hK hP 3 0 rfl rfl hg3 rfl dX5_setLimit_34 ?_
      refine lv_istore_n (lv' := [(3, .int (((mA r23) 3) ((99 + p0)).toNatClampNeg)), (0, .ref q), (1, .int p0), (2, .int p1)]) hx hb dX5_setLimit_35 rfl hl (by decide) rfl (fun ls hl => ?_)
      refine lv_aload_n hx hb dX5_setLimit_36 rfl (lv_at hl 1 rfl) ?_
      refine va_get (D := D) (ci := 5) (v := .ref (q + 3)) (C := RX5) (T := TX5) (N := 15) hx hb hts hinX5 hown hK hP 0 rfl rfl 7 (by decide) hf16 (fun _ h9 => h9) rfl dX5_setLimit_37 ?_
      refine lv_bipush (v := 99) hx hb dX5_setLimit_40 (by decide) ?_
      refine lv_iload_n hx hb dX5_setLimit_42 rfl (lv_at hl 2 rfl) ?_
      refine lv_iadd hx hb dX5_setLimit_43 ?_
      refine lv_iload_n hx hb dX5_setLimit_44 rfl (lv_at hl 3 rfl) ?_
      refine g_iast (f := ((mA r23) 3)) (k := ((99 + p0)).toNatClampNeg) hx hb hK hP MW_self hS 3 0 rfl rfl hg3 rfl dX5_setLimit_45 (fun H locs hP hS => ?_)
      obtain ⟨a4, ha4, h⟩ := lt_some h
      have hP : va_P D vwCl (MW cI cZ q (a4, (mRef r23), (mSize r23), (mSpot r23), (mRN r23), (mN r23), (mActs r23))) H := by have h9 := hP; rw [MW_s3] at h9; rw [ha4]; exact h9
      refine lv_iload_n hx hb dX5_setLimit_46 rfl (lv_at hl 0 rfl) ?_
      have h := Option.some.inj h
      subst h
      exact W.iret (v := (((mA r23) 3) ((99 + p0)).toNatClampNeg)) hx hb hr (fun t ht hW => ⟨⟨_, (), rfl, rfl, gh ht hP⟩, hS.F ht⟩) hS.2.2 dX5_setLimit_47
    · replace h := (if_neg c2).symm.trans h
      refine lv_iconst (v := 0) hx hb dX5_setLimit_20 (by decide) ?_
      have h := Option.some.inj h
      subst h
      exact W.iret (v := 0) hx hb hr (fun t ht hW => ⟨⟨_, (), rfl, rfl, gh ht hP⟩, hS.F ht⟩) hS.2.2 dX5_setLimit_21
  · replace h := (if_neg c1).symm.trans h
    refine lv_iconst (v := 0) hx hb dX5_setLimit_9 (by decide) ?_
    refine lv_goto (tgt := 14) hx hb dX5_setLimit_10 (by decide) ?_
    obtain ⟨r14, hr14, h⟩ := bd_some h
    refine gc_wi (As := [.int 0]) (rest := []) ⟨hx, hb, hml, hown, hts⟩ hK (kX5_refused l D cI cC cZ cQ cJ q M 0 hr14) (cwV 1 hts gX5_setLimit_X5_refused rfl rfl rfl (by decide +kernel) ⟨Nat.le_of_ble_eq_true rfl, Nat.le_of_ble_eq_true rfl⟩) (va_recv hK hP (ci := 5) (q0 := 0) rfl rfl) hP hS (fun _ h => h) rfl hl.1 rfl (Nat.le_of_ble_eq_true rfl) ⟨Nat.zero_le _, Nat.zero_le _⟩ dX5_setLimit_14 (fun H locs hP hS _ _ => ?_)
    refine lv_if_eq (tgt := 22) hx hb dX5_setLimit_17 (by decide) (fun c5 => ?_) (fun c5 => ?_)
    · replace h := (if_pos c5).symm.trans h
      refine lv_aload_n hx hb dX5_setLimit_22 rfl (lv_at hl 0 rfl) ?_
      obtain ⟨r23, hr23, h⟩ := bd_some h
      refine gc_wv (As := []) (rest := []) ⟨hx, hb, hml, hown, hts⟩ hK (kX5_note l D cI cC cZ cQ cJ q r14.2 hr23) (cwV 0 hts gX5_setLimit_X5_note rfl rfl rfl (by decide +kernel) ⟨Nat.le_of_ble_eq_true rfl, Nat.le_of_ble_eq_true rfl⟩) (va_recv hK hP (ci := 5) (q0 := 0) rfl rfl) hP hS (fun _ h => h) rfl hl.1 rfl (Nat.le_of_ble_eq_true rfl) ⟨Nat.zero_le _, Nat.zero_le _⟩ dX5_setLimit_23 (fun H locs hP hS _ _ => ?_)
      refine lv_aload_n hx hb dX5_setLimit_26 rfl (lv_at hl 0 rfl) ?_
      refine va_get (D := D) (ci := 5) (v := .ref (q + 3)) (C := RX5) (T := TX5) (N := 15) hx hb hts hinX5 hown hK hP 0 rfl rfl 7 (by decide) hf16 (fun _ h9 => h9) rfl dX5_setLimit_27 ?_
      refine lv_bipush (v := 99) hx hb dX5_setLimit_30 (by decide) ?_
      refine lv_iload_n hx hb dX5_setLimit_32 rfl (lv_at hl 1 rfl) ?_
      refine lv_iadd hx hb dX5_setLimit_33 ?_
      obtain ⟨hg6, h⟩ := gd_some h
      refine g_iald (f := ((mA r23) 3)) (k := ((99 + p0)).toNatClampNeg) hx hb hK hP 3 0 rfl rfl hg6 rfl dX5_setLimit_34 ?_
      refine lv_istore_n (lv' := [(3, .int (((mA r23) 3) ((99 + p0)).toNatClampNeg)), (0, .ref q), (1, .int p0), (2, .int p1)]) hx hb dX5_setLimit_35 rfl hl (by decide) rfl (fun ls hl => ?_)
      refine lv_aload_n hx hb dX5_setLimit_36 rfl (lv_at hl 1 rfl) ?_
      refine va_get (D := D) (ci := 5) (v := .ref (q + 3)) (C := RX5) (T := TX5) (N := 15) hx hb hts hinX5 hown hK hP 0 rfl rfl 7 (by decide) hf16 (fun _ h9 => h9) rfl dX5_setLimit_37 ?_
      refine lv_bipush (v := 99) hx hb dX5_setLimit_40 (by decide) ?_
      refine lv_iload_n hx hb dX5_setLimit_42 rfl (lv_at hl 2 rfl) ?_
      refine lv_iadd hx hb dX5_setLimit_43 ?_
      refine lv_iload_n hx hb dX5_setLimit_44 rfl (lv_at hl 3 rfl) ?_
      refine g_iast (f := ((mA r23) 3)) (k := ((99 + p0)).toNatClampNeg) hx hb hK hP MW_self hS 3 0 rfl rfl hg6 rfl dX5_setLimit_45 (fun H locs hP hS => ?_)
      obtain ⟨a7, ha7, h⟩ := lt_some h
      have hP : va_P D vwCl (MW cI cZ q (a7, (mRef r23), (mSize r23), (mSpot r23), (mRN r23), (mN r23), (mActs r23))) H := by have h9 := hP; rw [MW_s3] at h9; rw [ha7]; exact h9
      refine lv_iload_n hx hb dX5_setLimit_46 rfl (lv_at hl 0 rfl) ?_
      have h := Option.some.inj h
      subst h
      exact W.iret (v := (((mA r23) 3) ((99 + p0)).toNatClampNeg)) hx hb hr (fun t ht hW => ⟨⟨_, (), rfl, rfl, gh ht hP⟩, hS.F ht⟩) hS.2.2 dX5_setLimit_47
    · replace h := (if_neg c5).symm.trans h
      refine lv_iconst (v := 0) hx hb dX5_setLimit_20 (by decide) ?_
      have h := Option.some.inj h
      subst h
      exact W.iret (v := 0) hx hb hr (fun t ht hW => ⟨⟨_, (), rfl, rfl, gh ht hP⟩, hS.F ht⟩) hS.2.2 dX5_setLimit_21
set_option maxHeartbeats 4000000 in
set_option maxRecDepth 100000 in
theorem kX5_setRandom (l : Launch) (D : va_G) (cI cC cZ cQ cJ : ClassId) (q : Nat) (M : MSt) (p0 : Int64) {R : Int64 × MSt} (h : fX5_setRandom M p0 = some R) : Met l yX5_setRandom wsX5_setRandom ({ frames := 2, cells := 0, slots := 0, locals := 45 } : Room) (va_Pc [.ref q, .long p0] (gB D (gTy cI cC cZ cQ cJ) (va_P D vwCl (MW cI cZ q M)))) (va_Ql (fun r (_ : Unit) => r = R.1) (fun _ t => va_P D vwCl (MW cI cZ q R.2) t.heap) (fIv q 10)) 0 0 (fIv q 10) := by
  refine Met.ofW (cc := cX5_setRandom) (maxL := 5) (ret := (some .long)) (by decide) rfl ?_
  intro p e s m args below meth c s₁ B hml hv
  obtain ⟨rfl, hP, hK⟩ := hv
  have hx := B.exec
  have hb := B.bytes
  have hr := B.returns
  have hts := atoms_spec (ws := wsX5_setRandom) B.pre
  have hown : s.vm.findClass RX5 = some m.cls := findClass_of_methodNamed B.named
  have hlocks := B.notSynchronized
  have hinX5 : ∀ w ∈ wsX50, w ∈ wsX5_setRandom := by decide +kernel
  have hf42 := hts (.fieldLink RX5 42 "GripInspectorModel" "refusal" "I") (by decide +kernel)
  have hf16 := hts (.fieldLink RX5 16 "GripInspectorModel" "now" "[I") (by decide +kernel)
  generalize hRM : (headSpec wsX5_setRandom ({ frames := 2, cells := 0, slots := 0, locals := 45 } : Room)).room = RM
  replace hRM : ({ frames := 2, cells := 0, slots := 0, locals := 45 } : Room) = RM := hRM
  subst hRM
  have hl := lv_entry ([.ref q, .long p0]) (n := 5) (Nat.le_of_ble_eq_true rfl)
  rw [lg_entry_eq]
  generalize (lg_sl ([.ref q, .long p0]) ++ List.replicate (5 - (lg_sl ([.ref q, .long p0])).length) Slot.unset).toArray = ls at hl ⊢
  have hl : lv_has ls 5 [(0, .ref q), (1, .long p0)] := hl
  have hS : va_S (fIv q 10) s.heap s.heap [] := va_S.rf
  unfold fX5_setRandom at h
  obtain ⟨H, hH⟩ : ∃ H, H = s.heap := ⟨_, rfl⟩
  obtain ⟨locs, hlz⟩ : ∃ z : List Loc, z = [] := ⟨_, rfl⟩
  have hP : va_P D vwCl (MW cI cZ q M) H := by rw [hH]; exact hP
  have hS : va_S (fIv q 10) s.heap H locs := by rw [hH, hlz]; exact hS
  refine gc_at hH hlz ?_
  refine lv_aload_n hx hb dX5_setRandom_0 rfl (lv_at hl 0 rfl) ?_
  refine lv_iconst (v := 0) hx hb dX5_setRandom_1 (by decide) ?_
  refine va_put (D := D) (ci := 5) (v := .int 0) (ty := .int) (C := RX5) (T := TX5) (N := 15) hx hb hts hinX5 tyX5 tyX5_ok nmX5 hown hK hP MW_self hS 0 rfl rfl 0 (by decide) hf42 (fun _ h9 => h9) rfl (by decide +kernel) rfl rfl (Nat.le_of_ble_eq_true rfl) dX5_setRandom_2 (fun H locs hP _ hS => ?_)
  have hP : va_P D vwCl (MW cI cZ q ((mA M), 0, (mSize M), (mSpot M), (mRN M), (mN M), (mActs M))) H := hP
  refine lv_aload_n hx hb dX5_setRandom_5 rfl (lv_at hl 0 rfl) ?_
  obtain ⟨r6, hr6, h⟩ := bd_some h
  refine gc_wv (As := []) (rest := []) ⟨hx, hb, hml, hown, hts⟩ hK (kX5_note l D cI cC cZ cQ cJ q ((mA M), 0, (mSize M), (mSpot M), (mRN M), (mN M), (mActs M)) hr6) (cwV 0 hts gX5_setRandom_X5_note rfl rfl rfl (by decide +kernel) ⟨Nat.le_of_ble_eq_true rfl, Nat.le_of_ble_eq_true rfl⟩) (va_recv hK hP (ci := 5) (q0 := 0) rfl rfl) hP hS (fun _ h => h) rfl hl.1 rfl (Nat.le_of_ble_eq_true rfl) ⟨Nat.zero_le _, Nat.zero_le _⟩ dX5_setRandom_6 (fun H locs hP hS _ _ => ?_)
  refine lv_aload_n hx hb dX5_setRandom_9 rfl (lv_at hl 0 rfl) ?_
  refine va_get (D := D) (ci := 5) (v := .ref (q + 3)) (C := RX5) (T := TX5) (N := 15) hx hb hts hinX5 hown hK hP 0 rfl rfl 7 (by decide) hf16 (fun _ h9 => h9) rfl dX5_setRandom_10 ?_
  obtain ⟨r13, hr13, h⟩ := bd_some h
  refine gc_sl (As := [.ref (q + 3)]) (rest := []) ⟨hx, hb, hml, hown, hts⟩ hK (kX5_randomOf l D cI cC cZ cQ cJ q 3 r6 (Or.inr (Or.inl rfl)) hr13) (va_cwS 1 hts gX5_setRandom_X5_randomOf rfl rfl rfl (by decide +kernel) ⟨Nat.le_of_ble_eq_true rfl, Nat.le_of_ble_eq_true rfl⟩)  hP rfl hl.1 rfl (Nat.le_of_ble_eq_true rfl) ⟨Nat.zero_le _, Nat.zero_le _⟩ dX5_setRandom_13 ?_
  refine lv_lstore_n (lv' := [(3, .long r13), (0, .ref q), (1, .long p0)]) hx hb dX5_setRandom_16 rfl hl (by decide) rfl (fun ls hl => ?_)
  refine lv_aload_n hx hb dX5_setRandom_17 rfl (lv_at hl 1 rfl) ?_
  refine va_get (D := D) (ci := 5) (v := .ref (q + 3)) (C := RX5) (T := TX5) (N := 15) hx hb hts hinX5 hown hK hP 0 rfl rfl 7 (by decide) hf16 (fun _ h9 => h9) rfl dX5_setRandom_18 ?_
  refine lv_lload_n hx hb dX5_setRandom_21 rfl (lv_at hl 2 rfl) ?_
  obtain ⟨r22, hr22, h⟩ := bd_some h
  refine gc_swv (As := [.ref (q + 3), .long p0]) (rest := []) ⟨hx, hb, hml, hown, hts⟩ hK (kX5_setRandomOn l D cI cC cZ cQ cJ q 3 r6 p0 (Or.inr (Or.inl rfl)) hr22) (va_cwS 2 hts gX5_setRandom_X5_setRandomOn rfl rfl rfl (by decide +kernel) ⟨Nat.le_of_ble_eq_true rfl, Nat.le_of_ble_eq_true rfl⟩)  hP hS (fun _ h => h) rfl hl.1 rfl (Nat.le_of_ble_eq_true rfl) ⟨Nat.zero_le _, Nat.zero_le _⟩ dX5_setRandom_22 (fun H locs hP hS _ _ => ?_)
  refine lv_lload_n hx hb dX5_setRandom_25 rfl (lv_at hl 0 rfl) ?_
  have h := Option.some.inj h
  subst h
  exact W.lret (v := r13) hx hb hr (fun t ht hW => ⟨⟨_, (), rfl, rfl, gh ht hP⟩, hS.F ht⟩) hS.2.2 dX5_setRandom_26
set_option maxHeartbeats 4000000 in
set_option maxRecDepth 100000 in
theorem kX5_undo (l : Launch) (D : va_G) (cI cC cZ cQ cJ : ClassId) (q : Nat) (M : MSt) {R : Int32 × MSt} (h : fX5_undo M = some R) : Met l yX5_undo wsX5_undo ({ frames := 1, cells := 0, slots := 0, locals := 25 } : Room) (va_Pc [.ref q] (gB D (gTy cI cC cZ cQ cJ) (va_P D vwCl (MW cI cZ q M)))) (va_Qi (fun r (_ : Unit) => r = R.1) (fun _ t => va_P D vwCl (MW cI cZ q R.2) t.heap) (fIv q 10)) 0 0 (fIv q 10) := by
  refine Met.ofW (cc := cX5_undo) (maxL := 1) (ret := (some .int)) (by decide) rfl ?_
  intro p e s m args below meth c s₁ B hml hv
  obtain ⟨rfl, hP, hK⟩ := hv
  have hx := B.exec
  have hb := B.bytes
  have hr := B.returns
  have hts := atoms_spec (ws := wsX5_undo) B.pre
  have hown : s.vm.findClass RX5 = some m.cls := findClass_of_methodNamed B.named
  have hlocks := B.notSynchronized
  have hinX5 : ∀ w ∈ wsX50, w ∈ wsX5_undo := by decide +kernel
  have hf47 := hts (.fieldLink RX5 47 "GripInspectorModel" "acts" "I") (by decide +kernel)
  have hf22 := hts (.fieldLink RX5 22 "GripInspectorModel" "diary" "[I") (by decide +kernel)
  have hf16 := hts (.fieldLink RX5 16 "GripInspectorModel" "now" "[I") (by decide +kernel)
  generalize hRM : (headSpec wsX5_undo ({ frames := 1, cells := 0, slots := 0, locals := 25 } : Room)).room = RM
  replace hRM : ({ frames := 1, cells := 0, slots := 0, locals := 25 } : Room) = RM := hRM
  subst hRM
  have hl := lv_entry ([.ref q]) (n := 1) (Nat.le_of_ble_eq_true rfl)
  rw [lg_entry_eq]
  generalize (lg_sl ([.ref q]) ++ List.replicate (1 - (lg_sl ([.ref q])).length) Slot.unset).toArray = ls at hl ⊢
  have hl : lv_has ls 1 [(0, .ref q)] := hl
  have hS : va_S (fIv q 10) s.heap s.heap [] := va_S.rf
  unfold fX5_undo at h
  obtain ⟨H, hH⟩ : ∃ H, H = s.heap := ⟨_, rfl⟩
  obtain ⟨locs, hlz⟩ : ∃ z : List Loc, z = [] := ⟨_, rfl⟩
  have hP : va_P D vwCl (MW cI cZ q M) H := by rw [hH]; exact hP
  have hS : va_S (fIv q 10) s.heap H locs := by rw [hH, hlz]; exact hS
  refine gc_at hH hlz ?_
  refine lv_aload_n hx hb dX5_undo_0 rfl (lv_at hl 0 rfl) ?_
  refine lv_aload_n hx hb dX5_undo_1 rfl (lv_at hl 0 rfl) ?_
  refine va_get (D := D) (ci := 5) (v := .int (mActs M)) (C := RX5) (T := TX5) (N := 15) hx hb hts hinX5 hown hK hP 0 rfl rfl 10 (by decide) hf47 (fun _ h9 => h9) rfl dX5_undo_2 ?_
  refine lv_if_ne (tgt := 12) hx hb dX5_undo_5 (by decide) (fun c1 => ?_) (fun c1 => ?_)
  · replace h := (if_neg c1).symm.trans h
    refine lv_iconst (v := 0) hx hb dX5_undo_12 (by decide) ?_
    obtain ⟨r13, hr13, h⟩ := bd_some h
    refine gc_wi (As := [.int 0]) (rest := []) ⟨hx, hb, hml, hown, hts⟩ hK (kX5_refused l D cI cC cZ cQ cJ q M 0 hr13) (cwV 1 hts gX5_undo_X5_refused rfl rfl rfl (by decide +kernel) ⟨Nat.le_of_ble_eq_true rfl, Nat.le_of_ble_eq_true rfl⟩) (va_recv hK hP (ci := 5) (q0 := 0) rfl rfl) hP hS (fun _ h => h) rfl hl.1 rfl (Nat.le_of_ble_eq_true rfl) ⟨Nat.zero_le _, Nat.zero_le _⟩ dX5_undo_13 (fun H locs hP hS _ _ => ?_)
    refine lv_if_eq (tgt := 21) hx hb dX5_undo_16 (by decide) (fun c2 => ?_) (fun c2 => ?_)
    · replace h := (if_pos c2).symm.trans h
      refine lv_aload_n hx hb dX5_undo_21 rfl (lv_at hl 0 rfl) ?_
      refine lv_dup hx hb dX5_undo_22 rfl ?_
      refine va_get (D := D) (ci := 5) (v := .int (mActs r13.2)) (C := RX5) (T := TX5) (N := 15) hx hb hts hinX5 hown hK hP 0 rfl rfl 10 (by decide) hf47 (fun _ h9 => h9) rfl dX5_undo_23 ?_
      refine lv_iconst (v := 1) hx hb dX5_undo_26 (by decide) ?_
      refine lv_isub hx hb dX5_undo_27 ?_
      refine va_put (D := D) (ci := 5) (v := .int ((mActs r13.2) - 1)) (ty := .int) (C := RX5) (T := TX5) (N := 15) hx hb hts hinX5 tyX5 tyX5_ok nmX5 hown hK hP MW_self hS 0 rfl rfl 10 (by decide) hf47 (fun _ h9 => h9) rfl (by decide +kernel) rfl rfl (Nat.le_of_ble_eq_true rfl) dX5_undo_28 (fun H locs hP _ hS => ?_)
      have hP : va_P D vwCl (MW cI cZ q ((mA r13.2), (mRef r13.2), (mSize r13.2), (mSpot r13.2), (mRN r13.2), (mN r13.2), ((mActs r13.2) - 1))) H := hP
      refine lv_aload_n hx hb dX5_undo_31 rfl (lv_at hl 0 rfl) ?_
      refine va_get (D := D) (ci := 5) (v := .ref (q + 5)) (C := RX5) (T := TX5) (N := 15) hx hb hts hinX5 hown hK hP 0 rfl rfl 9 (by decide) hf22 (fun _ h9 => h9) rfl dX5_undo_32 ?_
      refine lv_bipush (v := 106) hx hb dX5_undo_35 (by decide) ?_
      refine lv_aload_n hx hb dX5_undo_37 rfl (lv_at hl 0 rfl) ?_
      refine va_get (D := D) (ci := 5) (v := .int ((mActs r13.2) - 1)) (C := RX5) (T := TX5) (N := 15) hx hb hts hinX5 hown hK hP 0 rfl rfl 10 (by decide) hf47 (fun _ h9 => h9) rfl dX5_undo_38 ?_
      refine lv_imul hx hb dX5_undo_41 ?_
      refine lv_aload_n hx hb dX5_undo_42 rfl (lv_at hl 0 rfl) ?_
      refine va_get (D := D) (ci := 5) (v := .ref (q + 3)) (C := RX5) (T := TX5) (N := 15) hx hb hts hinX5 hown hK hP 0 rfl rfl 7 (by decide) hf16 (fun _ h9 => h9) rfl dX5_undo_43 ?_
      refine lv_iconst (v := 0) hx hb dX5_undo_46 (by decide) ?_
      refine lv_bipush (v := 106) hx hb dX5_undo_47 (by decide) ?_
      obtain ⟨r49, hr49, h⟩ := bd_some h
      refine gc_swv (As := [.ref (q + 5), .int (106 * ((mActs r13.2) - 1)), .ref (q + 3), .int 0, .int 106]) (rest := []) ⟨hx, hb, hml, hown, hts⟩ hK (kX5_copy l D cI cC cZ cQ cJ q 5 3 ((mA r13.2), (mRef r13.2), (mSize r13.2), (mSpot r13.2), (mRN r13.2), (mN r13.2), ((mActs r13.2) - 1)) (106 * ((mActs r13.2) - 1)) 0 106 (Or.inr (Or.inr (Or.inr (Or.inl rfl)))) (Or.inr (Or.inl rfl)) hr49) (va_cwS 5 hts gX5_undo_X5_copy rfl rfl rfl (by decide +kernel) ⟨Nat.le_of_ble_eq_true rfl, Nat.le_of_ble_eq_true rfl⟩)  hP hS (fun _ h => h) rfl hl.1 rfl (Nat.le_of_ble_eq_true rfl) ⟨Nat.zero_le _, Nat.zero_le _⟩ dX5_undo_49 (fun H locs hP hS _ _ => ?_)
      refine lv_aload_n hx hb dX5_undo_52 rfl (lv_at hl 0 rfl) ?_
      refine va_get (D := D) (ci := 5) (v := .int (mActs r49)) (C := RX5) (T := TX5) (N := 15) hx hb hts hinX5 hown hK hP 0 rfl rfl 10 (by decide) hf47 (fun _ h9 => h9) rfl dX5_undo_53 ?_
      have h := Option.some.inj h
      subst h
      exact W.iret (v := (mActs r49)) hx hb hr (fun t ht hW => ⟨⟨_, (), rfl, rfl, gh ht hP⟩, hS.F ht⟩) hS.2.2 dX5_undo_56
    · replace h := (if_neg c2).symm.trans h
      refine lv_iconst (v := 0) hx hb dX5_undo_19 (by decide) ?_
      have h := Option.some.inj h
      subst h
      exact W.iret (v := 0) hx hb hr (fun t ht hW => ⟨⟨_, (), rfl, rfl, gh ht hP⟩, hS.F ht⟩) hS.2.2 dX5_undo_20
  · replace h := (if_pos c1).symm.trans h
    refine lv_iconst (v := 1) hx hb dX5_undo_8 (by decide) ?_
    refine lv_goto (tgt := 13) hx hb dX5_undo_9 (by decide) ?_
    obtain ⟨r13, hr13, h⟩ := bd_some h
    refine gc_wi (As := [.int 1]) (rest := []) ⟨hx, hb, hml, hown, hts⟩ hK (kX5_refused l D cI cC cZ cQ cJ q M 1 hr13) (cwV 1 hts gX5_undo_X5_refused rfl rfl rfl (by decide +kernel) ⟨Nat.le_of_ble_eq_true rfl, Nat.le_of_ble_eq_true rfl⟩) (va_recv hK hP (ci := 5) (q0 := 0) rfl rfl) hP hS (fun _ h => h) rfl hl.1 rfl (Nat.le_of_ble_eq_true rfl) ⟨Nat.zero_le _, Nat.zero_le _⟩ dX5_undo_13 (fun H locs hP hS _ _ => ?_)
    refine lv_if_eq (tgt := 21) hx hb dX5_undo_16 (by decide) (fun c3 => ?_) (fun c3 => ?_)
    · replace h := (if_pos c3).symm.trans h
      refine lv_aload_n hx hb dX5_undo_21 rfl (lv_at hl 0 rfl) ?_
      refine lv_dup hx hb dX5_undo_22 rfl ?_
      refine va_get (D := D) (ci := 5) (v := .int (mActs r13.2)) (C := RX5) (T := TX5) (N := 15) hx hb hts hinX5 hown hK hP 0 rfl rfl 10 (by decide) hf47 (fun _ h9 => h9) rfl dX5_undo_23 ?_
      refine lv_iconst (v := 1) hx hb dX5_undo_26 (by decide) ?_
      refine lv_isub hx hb dX5_undo_27 ?_
      refine va_put (D := D) (ci := 5) (v := .int ((mActs r13.2) - 1)) (ty := .int) (C := RX5) (T := TX5) (N := 15) hx hb hts hinX5 tyX5 tyX5_ok nmX5 hown hK hP MW_self hS 0 rfl rfl 10 (by decide) hf47 (fun _ h9 => h9) rfl (by decide +kernel) rfl rfl (Nat.le_of_ble_eq_true rfl) dX5_undo_28 (fun H locs hP _ hS => ?_)
      have hP : va_P D vwCl (MW cI cZ q ((mA r13.2), (mRef r13.2), (mSize r13.2), (mSpot r13.2), (mRN r13.2), (mN r13.2), ((mActs r13.2) - 1))) H := hP
      refine lv_aload_n hx hb dX5_undo_31 rfl (lv_at hl 0 rfl) ?_
      refine va_get (D := D) (ci := 5) (v := .ref (q + 5)) (C := RX5) (T := TX5) (N := 15) hx hb hts hinX5 hown hK hP 0 rfl rfl 9 (by decide) hf22 (fun _ h9 => h9) rfl dX5_undo_32 ?_
      refine lv_bipush (v := 106) hx hb dX5_undo_35 (by decide) ?_
      refine lv_aload_n hx hb dX5_undo_37 rfl (lv_at hl 0 rfl) ?_
      refine va_get (D := D) (ci := 5) (v := .int ((mActs r13.2) - 1)) (C := RX5) (T := TX5) (N := 15) hx hb hts hinX5 hown hK hP 0 rfl rfl 10 (by decide) hf47 (fun _ h9 => h9) rfl dX5_undo_38 ?_
      refine lv_imul hx hb dX5_undo_41 ?_
      refine lv_aload_n hx hb dX5_undo_42 rfl (lv_at hl 0 rfl) ?_
      refine va_get (D := D) (ci := 5) (v := .ref (q + 3)) (C := RX5) (T := TX5) (N := 15) hx hb hts hinX5 hown hK hP 0 rfl rfl 7 (by decide) hf16 (fun _ h9 => h9) rfl dX5_undo_43 ?_
      refine lv_iconst (v := 0) hx hb dX5_undo_46 (by decide) ?_
      refine lv_bipush (v := 106) hx hb dX5_undo_47 (by decide) ?_
      obtain ⟨r49, hr49, h⟩ := bd_some h
      refine gc_swv (As := [.ref (q + 5), .int (106 * ((mActs r13.2) - 1)), .ref (q + 3), .int 0, .int 106]) (rest := []) ⟨hx, hb, hml, hown, hts⟩ hK (kX5_copy l D cI cC cZ cQ cJ q 5 3 ((mA r13.2), (mRef r13.2), (mSize r13.2), (mSpot r13.2), (mRN r13.2), (mN r13.2), ((mActs r13.2) - 1)) (106 * ((mActs r13.2) - 1)) 0 106 (Or.inr (Or.inr (Or.inr (Or.inl rfl)))) (Or.inr (Or.inl rfl)) hr49) (va_cwS 5 hts gX5_undo_X5_copy rfl rfl rfl (by decide +kernel) ⟨Nat.le_of_ble_eq_true rfl, Nat.le_of_ble_eq_true rfl⟩)  hP hS (fun _ h => h) rfl hl.1 rfl (Nat.le_of_ble_eq_true rfl) ⟨Nat.zero_le _, Nat.zero_le _⟩ dX5_undo_49 (fun H locs hP hS _ _ => ?_)
      refine lv_aload_n hx hb dX5_undo_52 rfl (lv_at hl 0 rfl) ?_
      refine va_get (D := D) (ci := 5) (v := .int (mActs r49)) (C := RX5) (T := TX5) (N := 15) hx hb hts hinX5 hown hK hP 0 rfl rfl 10 (by decide) hf47 (fun _ h9 => h9) rfl dX5_undo_53 ?_
      have h := Option.some.inj h
      subst h
      exact W.iret (v := (mActs r49)) hx hb hr (fun t ht hW => ⟨⟨_, (), rfl, rfl, gh ht hP⟩, hS.F ht⟩) hS.2.2 dX5_undo_56
    · replace h := (if_neg c3).symm.trans h
      refine lv_iconst (v := 0) hx hb dX5_undo_19 (by decide) ?_
      have h := Option.some.inj h
      subst h
      exact W.iret (v := 0) hx hb hr (fun t ht hW => ⟨⟨_, (), rfl, rfl, gh ht hP⟩, hS.F ht⟩) hS.2.2 dX5_undo_20

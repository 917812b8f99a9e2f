set_option maxHeartbeats 4000000 in
set_option maxRecDepth 100000 in
theorem kX0_repairAllBut (l : Launch) (D : va_G) (cI cC cZ cQ cJ : ClassId) (q : Nat) (L : LSt) (p0 : Int32) {R : LSt} (h : fX0_repairAllBut L p0 = some R) : Met l yX0_repairAllBut wsX0_repairAllBut ({ frames := 0, cells := 0, slots := 0, locals := 0 } : Room) (va_Pc [.ref q, .int p0] (gB D (gTy cI cC cZ cQ cJ) (va_P D vwCl (LW cI q L)))) (va_Qv (fun _ : Unit => True) (fun _ t => va_P D vwCl (LW cI q R) t.heap) (fIv q 10)) 0 0 (fIv q 10) := by
  refine Met.ofW (cc := cX0_repairAllBut) (maxL := 3) (ret := none) (by decide) rfl ?_
  intro p e s m args below meth c s₁ B hml hv
  obtain ⟨rfl, hP, hK⟩ := hv
  have hx := B.exec
  have hb := B.bytes
  have hr := B.returns
  have hts := atoms_spec (ws := wsX0_repairAllBut) B.pre
  have hown : s.vm.findClass RX0 = some m.cls := findClass_of_methodNamed B.named
  have hlocks := B.notSynchronized
  have hinX0 : ∀ w ∈ wsX00, w ∈ wsX0_repairAllBut := by decide +kernel
  have hf27 := hts (.fieldLink RX0 27 "GripInspector$Lift" "place" "[I") (by decide +kernel)
  have hf33 := hts (.fieldLink RX0 33 "GripInspector$Lift" "stepsLeft" "[I") (by decide +kernel)
  have hf15 := hts (.fieldLink RX0 15 "GripInspector$Lift" "cycles" "[I") (by decide +kernel)
  have hf18 := hts (.fieldLink RX0 18 "GripInspector$Lift" "wear" "[I") (by decide +kernel)
  generalize hRM : (headSpec wsX0_repairAllBut ({ frames := 0, cells := 0, slots := 0, locals := 0 } : Room)).room = RM
  replace hRM : ({ frames := 0, cells := 0, slots := 0, locals := 0 } : Room) = RM := hRM
  subst hRM
  have hl := lv_entry ([.ref q, .int p0]) (n := 3) (Nat.le_of_ble_eq_true rfl)
  rw [lg_entry_eq]
  generalize (lg_sl ([.ref q, .int p0]) ++ List.replicate (3 - (lg_sl ([.ref q, .int p0])).length) Slot.unset).toArray = ls at hl ⊢
  have hl : lv_has ls 3 [(0, .ref q), (1, .int p0)] := hl
  have hS : va_S (fIv q 10) s.heap s.heap [] := va_S.rf
  have LP2 : ∀ (n : Nat) (S : LSt) (x1 : Int32) (x2 : Int32) (H : Heap) (locs : List Loc) (ls : Array Slot), fX0_repairAllBut_L2 n S x1 x2 = some R → va_P D vwCl (LW cI q S) H → va_S (fIv q 10) s.heap H locs → lv_has ls 3 [(0, .ref q), (1, .int x1), (2, .int x2)] → W p l e ({ frames := 0, cells := 0, slots := 0, locals := 0 } : Room) s m ([.ref q, .int p0] : List Value).toArray below meth c H locs 0 0 (MQ below (va_Qv (fun _ : Unit => True) (fun _ t => va_P D vwCl (LW cI q R) t.heap) (fIv q 10)) ([.ref q, .int p0] : List Value).toArray s 0 0 (fIv q 10)) (F0 m 2 ls []) := by
    intro n
    induction n with
    | zero => intro S x1 x2 H locs ls h hP hS hl; exact no_some h
    | succ n ih =>
      intro S x1 x2 H locs ls h hP hS hl
      rw [fX0_repairAllBut_L2] at h
      refine lv_iload_n hx hb dX0_repairAllBut_2 rfl (lv_at hl 2 rfl) ?_
      refine lv_bipush (v := 12) hx hb dX0_repairAllBut_3 (by decide) ?_
      refine lv_icmp_ge (tgt := 75) hx hb dX0_repairAllBut_5 (by decide) (fun c1 => ?_) (fun c1 => ?_)
      · replace h := (if_pos c1).symm.trans h
        have h := Option.some.inj h
        subst h
        exact W.vret hx hb hr (fun t ht hW => ⟨⟨(), rfl, trivial, gh ht hP⟩, hS.F ht⟩) hS.2.2 dX0_repairAllBut_75
      · replace h := (if_neg c1).symm.trans h
        refine lv_aload_n hx hb dX0_repairAllBut_8 rfl (lv_at hl 0 rfl) ?_
        refine va_get (D := D) (ci := 0) (v := .ref (q + 6)) (C := RX0) (T := TX0) (N := 13) hx hb hts hinX0 hown hK hP 0 rfl rfl 5 (by decide) hf27 (fun _ h9 => h9) rfl dX0_repairAllBut_9 ?_
        refine lv_iload_n hx hb dX0_repairAllBut_12 rfl (lv_at hl 2 rfl) ?_
        obtain ⟨hg2, h⟩ := gd_some h
        refine g_iald (f := (lPl S)) (k := x2.toNatClampNeg) hx hb hK hP 6 0 rfl rfl hg2 rfl dX0_repairAllBut_13 ?_
        refine lv_iconst (v := 2) hx hb dX0_repairAllBut_14 (by decide) ?_
        refine lv_icmp_ne (tgt := 69) hx hb dX0_repairAllBut_15 (by decide) (fun c3 => ?_) (fun c3 => ?_)
        · replace h := (if_neg c3).symm.trans h
          refine lv_iinc (v := (x2 + 1)) (lv' := [(2, .int (x2 + 1)), (0, .ref q), (1, .int x1)]) hx hb dX0_repairAllBut_69 hl (k := 2) rfl rfl (by decide) rfl (fun ls hl => ?_)
          refine lv_goto (tgt := 2) hx hb dX0_repairAllBut_72 (by decide) ?_
          exact ih S x1 (x2 + 1) H locs ls h hP hS (lv_sub hl [1, 2, 0] rfl)
        · replace h := (if_pos c3).symm.trans h
          refine lv_iload_n hx hb dX0_repairAllBut_18 rfl (lv_at hl 2 rfl) ?_
          refine lv_iload_n hx hb dX0_repairAllBut_19 rfl (lv_at hl 1 rfl) ?_
          refine lv_icmp_ne (tgt := 26) hx hb dX0_repairAllBut_20 (by decide) (fun c4 => ?_) (fun c4 => ?_)
          · replace h := (if_neg c4).symm.trans h
            refine lv_aload_n hx hb dX0_repairAllBut_26 rfl (lv_at hl 0 rfl) ?_
            refine va_get (D := D) (ci := 0) (v := .ref (q + 8)) (C := RX0) (T := TX0) (N := 13) hx hb hts hinX0 hown hK hP 0 rfl rfl 7 (by decide) hf33 (fun _ h9 => h9) rfl dX0_repairAllBut_27 ?_
            refine lv_iload_n hx hb dX0_repairAllBut_30 rfl (lv_at hl 2 rfl) ?_
            refine lv_dup2_11 hx hb dX0_repairAllBut_31 rfl rfl ?_
            refine g_iald (f := (lSt S)) (k := x2.toNatClampNeg) hx hb hK hP 8 0 rfl rfl hg2 rfl dX0_repairAllBut_32 ?_
            refine lv_iconst (v := 1) hx hb dX0_repairAllBut_33 (by decide) ?_
            refine lv_isub hx hb dX0_repairAllBut_34 ?_
            refine g_iast (f := (lSt S)) (k := x2.toNatClampNeg) hx hb hK hP LW_self hS 8 0 rfl rfl hg2 rfl dX0_repairAllBut_35 (fun H locs hP hS => ?_)
            have hP : va_P D vwCl (LW cI q ((lWe S), (lCy S), (lWr S), (lPu S), (lSl S), (lPl S), (lSp S), (upd (lSt S) x2.toNatClampNeg (((lSt S) x2.toNatClampNeg) - 1)), (lLi S), (lN_ S), (lStn S), (lClk S), (lRnd S))) H := hP
            refine lv_aload_n hx hb dX0_repairAllBut_36 rfl (lv_at hl 0 rfl) ?_
            refine va_get (D := D) (ci := 0) (v := .ref (q + 8)) (C := RX0) (T := TX0) (N := 13) hx hb hts hinX0 hown hK hP 0 rfl rfl 7 (by decide) hf33 (fun _ h9 => h9) rfl dX0_repairAllBut_37 ?_
            refine lv_iload_n hx hb dX0_repairAllBut_40 rfl (lv_at hl 2 rfl) ?_
            refine g_iald (f := (upd (lSt S) x2.toNatClampNeg (((lSt S) x2.toNatClampNeg) - 1))) (k := x2.toNatClampNeg) hx hb hK hP 8 0 rfl rfl hg2 rfl dX0_repairAllBut_41 ?_
            refine lv_if_le (tgt := 48) hx hb dX0_repairAllBut_42 (by decide) (fun c5 => ?_) (fun c5 => ?_)
            · replace h := (if_pos c5).symm.trans h
              refine lv_aload_n hx hb dX0_repairAllBut_48 rfl (lv_at hl 0 rfl) ?_
              refine va_get (D := D) (ci := 0) (v := .ref (q + 2)) (C := RX0) (T := TX0) (N := 13) hx hb hts hinX0 hown hK hP 0 rfl rfl 1 (by decide) hf15 (fun _ h9 => h9) rfl dX0_repairAllBut_49 ?_
              refine lv_iload_n hx hb dX0_repairAllBut_52 rfl (lv_at hl 2 rfl) ?_
              refine lv_iconst (v := 0) hx hb dX0_repairAllBut_53 (by decide) ?_
              refine g_iast (f := (lCy S)) (k := x2.toNatClampNeg) hx hb hK hP LW_self hS 2 0 rfl rfl hg2 rfl dX0_repairAllBut_54 (fun H locs hP hS => ?_)
              have hP : va_P D vwCl (LW cI q ((lWe S), (upd (lCy S) x2.toNatClampNeg 0), (lWr S), (lPu S), (lSl S), (lPl S), (lSp S), (upd (lSt S) x2.toNatClampNeg (((lSt S) x2.toNatClampNeg) - 1)), (lLi S), (lN_ S), (lStn S), (lClk S), (lRnd S))) H := hP
              refine lv_aload_n hx hb dX0_repairAllBut_55 rfl (lv_at hl 0 rfl) ?_
              refine va_get (D := D) (ci := 0) (v := .ref (q + 3)) (C := RX0) (T := TX0) (N := 13) hx hb hts hinX0 hown hK hP 0 rfl rfl 2 (by decide) hf18 (fun _ h9 => h9) rfl dX0_repairAllBut_56 ?_
              refine lv_iload_n hx hb dX0_repairAllBut_59 rfl (lv_at hl 2 rfl) ?_
              refine lv_iconst (v := 0) hx hb dX0_repairAllBut_60 (by decide) ?_
              refine g_iast (f := (lWr S)) (k := x2.toNatClampNeg) hx hb hK hP LW_self hS 3 0 rfl rfl hg2 rfl dX0_repairAllBut_61 (fun H locs hP hS => ?_)
              have hP : va_P D vwCl (LW cI q ((lWe S), (upd (lCy S) x2.toNatClampNeg 0), (upd (lWr S) x2.toNatClampNeg 0), (lPu S), (lSl S), (lPl S), (lSp S), (upd (lSt S) x2.toNatClampNeg (((lSt S) x2.toNatClampNeg) - 1)), (lLi S), (lN_ S), (lStn S), (lClk S), (lRnd S))) H := hP
              refine lv_aload_n hx hb dX0_repairAllBut_62 rfl (lv_at hl 0 rfl) ?_
              refine va_get (D := D) (ci := 0) (v := .ref (q + 6)) (C := RX0) (T := TX0) (N := 13) hx hb hts hinX0 hown hK hP 0 rfl rfl 5 (by decide) hf27 (fun _ h9 => h9) rfl dX0_repairAllBut_63 ?_
              refine lv_iload_n hx hb dX0_repairAllBut_66 rfl (lv_at hl 2 rfl) ?_
              refine lv_iconst (v := 1) hx hb dX0_repairAllBut_67 (by decide) ?_
              refine g_iast (f := (lPl S)) (k := x2.toNatClampNeg) hx hb hK hP LW_self hS 6 0 rfl rfl hg2 rfl dX0_repairAllBut_68 (fun H locs hP hS => ?_)
              have hP : va_P D vwCl (LW cI q ((lWe S), (upd (lCy S) x2.toNatClampNeg 0), (upd (lWr S) x2.toNatClampNeg 0), (lPu S), (lSl S), (upd (lPl S) x2.toNatClampNeg 1), (lSp S), (upd (lSt S) x2.toNatClampNeg (((lSt S) x2.toNatClampNeg) - 1)), (lLi S), (lN_ S), (lStn S), (lClk S), (lRnd S))) H := hP
              refine lv_iinc (v := (x2 + 1)) (lv' := [(2, .int (x2 + 1)), (0, .ref q), (1, .int x1)]) hx hb dX0_repairAllBut_69 hl (k := 2) rfl rfl (by decide) rfl (fun ls hl => ?_)
              refine lv_goto (tgt := 2) hx hb dX0_repairAllBut_72 (by decide) ?_
              exact ih ((lWe S), (upd (lCy S) x2.toNatClampNeg 0), (upd (lWr S) x2.toNatClampNeg 0), (lPu S), (lSl S), (upd (lPl S) x2.toNatClampNeg 1), (lSp S), (upd (lSt S) x2.toNatClampNeg (((lSt S) x2.toNatClampNeg) - 1)), (lLi S), (lN_ S), (lStn S), (lClk S), (lRnd S)) x1 (x2 + 1) H locs ls h hP hS (lv_sub hl [1, 2, 0] rfl)
            · replace h := (if_neg c5).symm.trans h
              refine lv_goto (tgt := 69) hx hb dX0_repairAllBut_45 (by decide) ?_
              refine lv_iinc (v := (x2 + 1)) (lv' := [(2, .int (x2 + 1)), (0, .ref q), (1, .int x1)]) hx hb dX0_repairAllBut_69 hl (k := 2) rfl rfl (by decide) rfl (fun ls hl => ?_)
              refine lv_goto (tgt := 2) hx hb dX0_repairAllBut_72 (by decide) ?_
              exact ih ((lWe S), (lCy S), (lWr S), (lPu S), (lSl S), (lPl S), (lSp S), (upd (lSt S) x2.toNatClampNeg (((lSt S) x2.toNatClampNeg) - 1)), (lLi S), (lN_ S), (lStn S), (lClk S), (lRnd S)) x1 (x2 + 1) H locs ls h hP hS (lv_sub hl [1, 2, 0] rfl)
          · replace h := (if_pos c4).symm.trans h
            refine lv_goto (tgt := 69) hx hb dX0_repairAllBut_23 (by decide) ?_
            refine lv_iinc (v := (x2 + 1)) (lv' := [(2, .int (x2 + 1)), (0, .ref q), (1, .int x1)]) hx hb dX0_repairAllBut_69 hl (k := 2) rfl rfl (by decide) rfl (fun ls hl => ?_)
            refine lv_goto (tgt := 2) hx hb dX0_repairAllBut_72 (by decide) ?_
            exact ih S x1 (x2 + 1) H locs ls h hP hS (lv_sub hl [1, 2, 0] rfl)
  unfold fX0_repairAllBut at h
  obtain ⟨H, hH⟩ : ∃ H, H = s.heap := ⟨_, rfl⟩
  obtain ⟨locs, hlz⟩ : ∃ z : List Loc, z = [] := ⟨_, rfl⟩
  have hP : va_P D vwCl (LW cI q L) H := by rw [hH]; exact hP
  have hS : va_S (fIv q 10) s.heap H locs := by rw [hH, hlz]; exact hS
  refine gc_at hH hlz ?_
  refine lv_iconst (v := 0) hx hb dX0_repairAllBut_0 (by decide) ?_
  refine lv_istore_n (lv' := [(2, .int 0), (0, .ref q), (1, .int p0)]) hx hb dX0_repairAllBut_1 rfl hl (by decide) rfl (fun ls hl => ?_)
  exact LP2 KF L p0 0 H locs ls h hP hS (lv_sub hl [1, 2, 0] rfl)
set_option maxHeartbeats 4000000 in
set_option maxRecDepth 100000 in
theorem kX0_fillStation (l : Launch) (D : va_G) (cI cC cZ cQ cJ : ClassId) (q : Nat) (L : LSt) {R : Int32 × LSt} (h : fX0_fillStation L = some R) : Met l yX0_fillStation wsX0_fillStation ({ frames := 2, cells := 0, slots := 0, locals := 45 } : Room) (va_Pc [.ref q] (gB D (gTy cI cC cZ cQ cJ) (va_P D vwCl (LW cI q L)))) (va_Qi (fun r (_ : Unit) => r = R.1) (fun _ t => va_P D vwCl (LW cI q R.2) t.heap) (fIv q 10)) 0 0 (fIv q 10) := by
  refine Met.ofW (cc := cX0_fillStation) (maxL := 3) (ret := (some .int)) (by decide) rfl ?_
  intro p e s m args below meth c s₁ B hml hv
  obtain ⟨rfl, hP, hK⟩ := hv
  have hx := B.exec
  have hb := B.bytes
  have hr := B.returns
  have hts := atoms_spec (ws := wsX0_fillStation) B.pre
  have hown : s.vm.findClass RX0 = some m.cls := findClass_of_methodNamed B.named
  have hlocks := B.notSynchronized
  have hinX0 : ∀ w ∈ wsX00, w ∈ wsX0_fillStation := by decide +kernel
  have hf46 := hts (.fieldLink RX0 46 "GripInspector$Lift" "station" "I") (by decide +kernel)
  have hf27 := hts (.fieldLink RX0 27 "GripInspector$Lift" "place" "[I") (by decide +kernel)
  have hf15 := hts (.fieldLink RX0 15 "GripInspector$Lift" "cycles" "[I") (by decide +kernel)
  generalize hRM : (headSpec wsX0_fillStation ({ frames := 2, cells := 0, slots := 0, locals := 45 } : Room)).room = RM
  replace hRM : ({ frames := 2, cells := 0, slots := 0, locals := 45 } : Room) = RM := hRM
  subst hRM
  have hl := lv_entry ([.ref q]) (n := 3) (Nat.le_of_ble_eq_true rfl)
  rw [lg_entry_eq]
  generalize (lg_sl ([.ref q]) ++ List.replicate (3 - (lg_sl ([.ref q])).length) Slot.unset).toArray = ls at hl ⊢
  have hl : lv_has ls 3 [(0, .ref q)] := hl
  have hS : va_S (fIv q 10) s.heap s.heap [] := va_S.rf
  have LP6 : ∀ (n : Nat) (S : LSt) (x1 : Int32) (x2 : Int32) (H : Heap) (locs : List Loc) (ls : Array Slot), fX0_fillStation_L6 n S x1 x2 = some R → va_P D vwCl (LW cI q S) H → va_S (fIv q 10) s.heap H locs → lv_has ls 3 [(0, .ref q), (1, .int x1), (2, .int x2)] → W p l e ({ frames := 2, cells := 0, slots := 0, locals := 45 } : Room) s m ([.ref q] : List Value).toArray below meth c H locs 0 0 (MQ below (va_Qi (fun r (_ : Unit) => r = R.1) (fun _ t => va_P D vwCl (LW cI q R.2) t.heap) (fIv q 10)) ([.ref q] : List Value).toArray s 0 0 (fIv q 10)) (F0 m 6 ls []) := by
    intro n
    induction n with
    | zero => intro S x1 x2 H locs ls h hP hS hl; exact no_some h
    | succ n ih =>
      intro S x1 x2 H locs ls h hP hS hl
      rw [fX0_fillStation_L6] at h
      refine lv_iload_n hx hb dX0_fillStation_6 rfl (lv_at hl 2 rfl) ?_
      refine lv_if_lt (tgt := 50) hx hb dX0_fillStation_7 (by decide) (fun c1 => ?_) (fun c1 => ?_)
      · replace h := (if_pos c1).symm.trans h
        refine lv_iload_n hx hb dX0_fillStation_50 rfl (lv_at hl 1 rfl) ?_
        refine lv_if_lt (tgt := 65) hx hb dX0_fillStation_51 (by decide) (fun c2 => ?_) (fun c2 => ?_)
        · replace h := (if_pos c2).symm.trans h
          refine lv_iconst (v := 0) hx hb dX0_fillStation_65 (by decide) ?_
          have h := Option.some.inj h
          subst h
          exact W.iret (v := 0) hx hb hr (fun t ht hW => ⟨⟨_, (), rfl, rfl, gh ht hP⟩, hS.F ht⟩) hS.2.2 dX0_fillStation_66
        · replace h := (if_neg c2).symm.trans h
          refine lv_aload_n hx hb dX0_fillStation_54 rfl (lv_at hl 0 rfl) ?_
          refine lv_aload_n hx hb dX0_fillStation_55 rfl (lv_at hl 0 rfl) ?_
          refine va_get (D := D) (ci := 0) (v := .int (lStn S)) (C := RX0) (T := TX0) (N := 13) hx hb hts hinX0 hown hK hP 0 rfl rfl 10 (by decide) hf46 (fun _ h9 => h9) rfl dX0_fillStation_56 ?_
          obtain ⟨r59, hr59, h⟩ := bd_some h
          refine gc_ri (As := [.int (lStn S)]) (rest := []) ⟨hx, hb, hml, hown, hts⟩ hK (kX0_isRoomAt l D cI cC cZ cQ cJ q S (lStn S) hr59) (cwV 1 hts gX0_fillStation_X0_isRoomAt rfl rfl rfl (by decide +kernel) ⟨Nat.le_of_ble_eq_true rfl, Nat.le_of_ble_eq_true rfl⟩) (va_recv hK hP (ci := 0) (q0 := 0) rfl rfl) hP rfl hl.1 rfl (Nat.le_of_ble_eq_true rfl) ⟨Nat.zero_le _, Nat.zero_le _⟩ dX0_fillStation_59 ?_
          refine lv_if_ne (tgt := 67) hx hb dX0_fillStation_62 (by decide) (fun c3 => ?_) (fun c3 => ?_)
          · replace h := (if_neg c3).symm.trans h
            refine lv_aload_n hx hb dX0_fillStation_67 rfl (lv_at hl 0 rfl) ?_
            refine lv_iload_n hx hb dX0_fillStation_68 rfl (lv_at hl 1 rfl) ?_
            refine lv_aload_n hx hb dX0_fillStation_69 rfl (lv_at hl 0 rfl) ?_
            refine va_get (D := D) (ci := 0) (v := .int (lStn S)) (C := RX0) (T := TX0) (N := 13) hx hb hts hinX0 hown hK hP 0 rfl rfl 10 (by decide) hf46 (fun _ h9 => h9) rfl dX0_fillStation_70 ?_
            obtain ⟨r73, hr73, h⟩ := bd_some h
            refine gc_wv (As := [.int x1, .int (lStn S)]) (rest := []) ⟨hx, hb, hml, hown, hts⟩ hK (kX0_hang l D cI cC cZ cQ cJ q S x1 (lStn S) hr73) (cwV 2 hts gX0_fillStation_X0_hang rfl rfl rfl (by decide +kernel) ⟨Nat.le_of_ble_eq_true rfl, Nat.le_of_ble_eq_true rfl⟩) (va_recv hK hP (ci := 0) (q0 := 0) rfl rfl) hP hS (fun _ h => h) rfl hl.1 rfl (Nat.le_of_ble_eq_true rfl) ⟨Nat.zero_le _, Nat.zero_le _⟩ dX0_fillStation_73 (fun H locs hP hS _ _ => ?_)
            refine lv_bipush (v := 8) hx hb dX0_fillStation_76 (by decide) ?_
            have h := Option.some.inj h
            subst h
            exact W.iret (v := 8) hx hb hr (fun t ht hW => ⟨⟨_, (), rfl, rfl, gh ht hP⟩, hS.F ht⟩) hS.2.2 dX0_fillStation_78
          · replace h := (if_pos c3).symm.trans h
            refine lv_iconst (v := 0) hx hb dX0_fillStation_65 (by decide) ?_
            have h := Option.some.inj h
            subst h
            exact W.iret (v := 0) hx hb hr (fun t ht hW => ⟨⟨_, (), rfl, rfl, gh ht hP⟩, hS.F ht⟩) hS.2.2 dX0_fillStation_66
      · replace h := (if_neg c1).symm.trans h
        refine lv_aload_n hx hb dX0_fillStation_10 rfl (lv_at hl 0 rfl) ?_
        refine va_get (D := D) (ci := 0) (v := .ref (q + 6)) (C := RX0) (T := TX0) (N := 13) hx hb hts hinX0 hown hK hP 0 rfl rfl 5 (by decide) hf27 (fun _ h9 => h9) rfl dX0_fillStation_11 ?_
        refine lv_iload_n hx hb dX0_fillStation_14 rfl (lv_at hl 2 rfl) ?_
        obtain ⟨hg4, h⟩ := gd_some h
        refine g_iald (f := (lPl S)) (k := x2.toNatClampNeg) hx hb hK hP 6 0 rfl rfl hg4 rfl dX0_fillStation_15 ?_
        refine lv_iconst (v := 1) hx hb dX0_fillStation_16 (by decide) ?_
        refine lv_icmp_eq (tgt := 23) hx hb dX0_fillStation_17 (by decide) (fun c5 => ?_) (fun c5 => ?_)
        · replace h := (if_pos c5).symm.trans h
          refine lv_iload_n hx hb dX0_fillStation_23 rfl (lv_at hl 1 rfl) ?_
          refine lv_if_lt (tgt := 42) hx hb dX0_fillStation_24 (by decide) (fun c6 => ?_) (fun c6 => ?_)
          · replace h := (if_pos c6).symm.trans h
            refine lv_iload_n hx hb dX0_fillStation_42 rfl (lv_at hl 2 rfl) ?_
            refine lv_istore_n (lv' := [(1, .int x2), (0, .ref q), (2, .int x2)]) hx hb dX0_fillStation_43 rfl hl (by decide) rfl (fun ls hl => ?_)
            refine lv_iinc (v := (x2 + (-1))) (lv' := [(2, .int (x2 + (-1))), (1, .int x2), (0, .ref q)]) hx hb dX0_fillStation_44 hl (k := 2) rfl rfl (by decide) rfl (fun ls hl => ?_)
            refine lv_goto (tgt := 6) hx hb dX0_fillStation_47 (by decide) ?_
            exact ih S x2 (x2 + (-1)) H locs ls h hP hS (lv_sub hl [2, 1, 0] rfl)
          · replace h := (if_neg c6).symm.trans h
            refine lv_aload_n hx hb dX0_fillStation_27 rfl (lv_at hl 0 rfl) ?_
            refine va_get (D := D) (ci := 0) (v := .ref (q + 2)) (C := RX0) (T := TX0) (N := 13) hx hb hts hinX0 hown hK hP 0 rfl rfl 1 (by decide) hf15 (fun _ h9 => h9) rfl dX0_fillStation_28 ?_
            refine lv_iload_n hx hb dX0_fillStation_31 rfl (lv_at hl 2 rfl) ?_
            refine g_iald (f := (lCy S)) (k := x2.toNatClampNeg) hx hb hK hP 2 0 rfl rfl hg4 rfl dX0_fillStation_32 ?_
            refine lv_aload_n hx hb dX0_fillStation_33 rfl (lv_at hl 0 rfl) ?_
            refine va_get (D := D) (ci := 0) (v := .ref (q + 2)) (C := RX0) (T := TX0) (N := 13) hx hb hts hinX0 hown hK hP 0 rfl rfl 1 (by decide) hf15 (fun _ h9 => h9) rfl dX0_fillStation_34 ?_
            refine lv_iload_n hx hb dX0_fillStation_37 rfl (lv_at hl 1 rfl) ?_
            obtain ⟨hg7, h⟩ := gd_some h
            refine g_iald (f := (lCy S)) (k := x1.toNatClampNeg) hx hb hK hP 2 0 rfl rfl hg7 rfl dX0_fillStation_38 ?_
            refine lv_icmp_gt (tgt := 44) hx hb dX0_fillStation_39 (by decide) (fun c8 => ?_) (fun c8 => ?_)
            · replace h := (if_pos c8).symm.trans h
              refine lv_iinc (v := (x2 + (-1))) (lv' := [(2, .int (x2 + (-1))), (0, .ref q), (1, .int x1)]) hx hb dX0_fillStation_44 hl (k := 2) rfl rfl (by decide) rfl (fun ls hl => ?_)
              refine lv_goto (tgt := 6) hx hb dX0_fillStation_47 (by decide) ?_
              exact ih S x1 (x2 + (-1)) H locs ls h hP hS (lv_sub hl [1, 2, 0] rfl)
            · replace h := (if_neg c8).symm.trans h
              refine lv_iload_n hx hb dX0_fillStation_42 rfl (lv_at hl 2 rfl) ?_
              refine lv_istore_n (lv' := [(1, .int x2), (0, .ref q), (2, .int x2)]) hx hb dX0_fillStation_43 rfl hl (by decide) rfl (fun ls hl => ?_)
              refine lv_iinc (v := (x2 + (-1))) (lv' := [(2, .int (x2 + (-1))), (1, .int x2), (0, .ref q)]) hx hb dX0_fillStation_44 hl (k := 2) rfl rfl (by decide) rfl (fun ls hl => ?_)
              refine lv_goto (tgt := 6) hx hb dX0_fillStation_47 (by decide) ?_
              exact ih S x2 (x2 + (-1)) H locs ls h hP hS (lv_sub hl [2, 1, 0] rfl)
        · replace h := (if_neg c5).symm.trans h
          refine lv_goto (tgt := 44) hx hb dX0_fillStation_20 (by decide) ?_
          refine lv_iinc (v := (x2 + (-1))) (lv' := [(2, .int (x2 + (-1))), (0, .ref q), (1, .int x1)]) hx hb dX0_fillStation_44 hl (k := 2) rfl rfl (by decide) rfl (fun ls hl => ?_)
          refine lv_goto (tgt := 6) hx hb dX0_fillStation_47 (by decide) ?_
          exact ih S x1 (x2 + (-1)) H locs ls h hP hS (lv_sub hl [1, 2, 0] rfl)
  unfold fX0_fillStation at h
  obtain ⟨H, hH⟩ : ∃ H, H = s.heap := ⟨_, rfl⟩
  obtain ⟨locs, hlz⟩ : ∃ z : List Loc, z = [] := ⟨_, rfl⟩
  have hP : va_P D vwCl (LW cI q L) H := by rw [hH]; exact hP
  have hS : va_S (fIv q 10) s.heap H locs := by rw [hH, hlz]; exact hS
  refine gc_at hH hlz ?_
  refine lv_bipush (v := (-9)) hx hb dX0_fillStation_0 (by decide) ?_
  refine lv_istore_n (lv' := [(1, .int (-9)), (0, .ref q)]) hx hb dX0_fillStation_2 rfl hl (by decide) rfl (fun ls hl => ?_)
  refine lv_bipush (v := 11) hx hb dX0_fillStation_3 (by decide) ?_
  refine lv_istore_n (lv' := [(2, .int 11), (1, .int (-9)), (0, .ref q)]) hx hb dX0_fillStation_5 rfl hl (by decide) rfl (fun ls hl => ?_)
  exact LP6 KF L (-9) 11 H locs ls h hP hS (lv_sub hl [2, 1, 0] rfl)

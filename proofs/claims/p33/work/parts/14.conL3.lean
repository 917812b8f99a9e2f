set_option maxHeartbeats 4000000 in
set_option maxRecDepth 100000 in
theorem kX0_advance (l : Launch) (D : va_G) (cI cC cZ cQ cJ : ClassId) (q : Nat) (L : LSt) {R : Int32 × LSt} (h : fX0_advance L = some R) : Met l yX0_advance wsX0_advance ({ frames := 3, cells := 0, slots := 0, locals := 67 } : Room) (va_Pc [.ref q] (gB D (gTy cI cC cZ cQ cJ) (va_P D vwCl (LW cI q L)))) (va_Qi (fun r (_ : Unit) => r = R.1) (fun _ t => va_P D vwCl (LW cI q R.2) t.heap) (fIv q 10)) 0 0 (fIv q 10) := by
  refine Met.ofW (cc := cX0_advance) (maxL := 3) (ret := (some .int)) (by decide) rfl ?_
  intro p e s m args below meth c s₁ B hml hv
  obtain ⟨rfl, hP, hK⟩ := hv
  have hx := B.exec
  have hb := B.bytes
  have hr := B.returns
  have hts := atoms_spec (ws := wsX0_advance) B.pre
  have hown : s.vm.findClass RX0 = some m.cls := findClass_of_methodNamed B.named
  have hlocks := B.notSynchronized
  have hinX0 : ∀ w ∈ wsX00, w ∈ wsX0_advance := by decide +kernel
  have hf46 := hts (.fieldLink RX0 46 "GripInspector$Lift" "station" "I") (by decide +kernel)
  have hf42 := hts (.fieldLink RX0 42 "GripInspector$Lift" "n" "I") (by decide +kernel)
  have hf52 := hts (.fieldLink RX0 52 "GripInspector$Lift" "randomState" "J") (by decide +kernel)
  have hf49 := hts (.fieldLink RX0 49 "GripInspector$Lift" "clock" "I") (by decide +kernel)
  generalize hRM : (headSpec wsX0_advance ({ frames := 3, cells := 0, slots := 0, locals := 67 } : Room)).room = RM
  replace hRM : ({ frames := 3, cells := 0, slots := 0, locals := 67 } : Room) = RM := hRM
  subst hRM
  have hl := lv_entry ([.ref q]) (n := 3) (Nat.le_of_ble_eq_true rfl)
  rw [lg_entry_eq]
  generalize (lg_sl ([.ref q]) ++ List.replicate (3 - (lg_sl ([.ref q])).length) Slot.unset).toArray = ls at hl ⊢
  have hl : lv_has ls 3 [(0, .ref q)] := hl
  have hS : va_S (fIv q 10) s.heap s.heap [] := va_S.rf
  unfold fX0_advance at h
  obtain ⟨H, hH⟩ : ∃ H, H = s.heap := ⟨_, rfl⟩
  obtain ⟨locs, hlz⟩ : ∃ z : List Loc, z = [] := ⟨_, rfl⟩
  have hP : va_P D vwCl (LW cI q L) H := by rw [hH]; exact hP
  have hS : va_S (fIv q 10) s.heap H locs := by rw [hH, hlz]; exact hS
  refine gc_at hH hlz ?_
  refine lv_aload_n hx hb dX0_advance_0 rfl (lv_at hl 0 rfl) ?_
  refine lv_aload_n hx hb dX0_advance_1 rfl (lv_at hl 0 rfl) ?_
  refine va_get (D := D) (ci := 0) (v := .int (lStn L)) (C := RX0) (T := TX0) (N := 13) hx hb hts hinX0 hown hK hP 0 rfl rfl 10 (by decide) hf46 (fun _ h9 => h9) rfl dX0_advance_2 ?_
  refine lv_iconst (v := 1) hx hb dX0_advance_5 (by decide) ?_
  refine lv_iadd hx hb dX0_advance_6 ?_
  refine lv_aload_n hx hb dX0_advance_7 rfl (lv_at hl 0 rfl) ?_
  refine va_get (D := D) (ci := 0) (v := .int (lN_ L)) (C := RX0) (T := TX0) (N := 13) hx hb hts hinX0 hown hK hP 0 rfl rfl 9 (by decide) hf42 (fun _ h9 => h9) rfl dX0_advance_8 ?_
  refine lv_icmp_ge (tgt := 23) hx hb dX0_advance_11 (by decide) (fun c1 => ?_) (fun c1 => ?_)
  · replace h := (if_pos c1).symm.trans h
    refine lv_iconst (v := 0) hx hb dX0_advance_23 (by decide) ?_
    refine va_put (D := D) (ci := 0) (v := .int 0) (ty := .int) (C := RX0) (T := TX0) (N := 13) hx hb hts hinX0 tyX0 tyX0_ok nmX0 hown hK hP LW_self hS 0 rfl rfl 10 (by decide) hf46 (fun _ h9 => h9) rfl (by decide +kernel) rfl rfl (Nat.le_of_ble_eq_true rfl) dX0_advance_24 (fun H locs hP _ hS => ?_)
    have hP : va_P D vwCl (LW cI q ((lWe L), (lCy L), (lWr L), (lPu L), (lSl L), (lPl L), (lSp L), (lSt L), (lLi L), (lN_ L), 0, (lClk L), (lRnd L))) H := hP
    refine lv_aload_n hx hb dX0_advance_27 rfl (lv_at hl 0 rfl) ?_
    refine lv_aload_n hx hb dX0_advance_28 rfl (lv_at hl 0 rfl) ?_
    refine va_get (D := D) (ci := 0) (v := .long (lRnd L)) (C := RX0) (T := TX0) (N := 13) hx hb hts hinX0 hown hK hP 0 rfl rfl 12 (by decide) hf52 (fun _ h9 => h9) rfl dX0_advance_29 ?_
    refine lv_ldc2 (v := 6364136223846793005) hx hb hown (hts (.constantLong RX0 73 (6364136223846793005)) (by decide +kernel)) dX0_advance_32 ?_
    refine lv_lmul hx hb dX0_advance_35 ?_
    refine lv_ldc2 (v := 1442695040888963407) hx hb hown (hts (.constantLong RX0 75 (1442695040888963407)) (by decide +kernel)) dX0_advance_36 ?_
    refine lv_ladd hx hb dX0_advance_39 ?_
    refine lv_topl (fun yv2 eyv2 => ?_)
    rw [← eyv2] at h
    refine va_put (D := D) (ci := 0) (v := .long yv2) (ty := .long) (C := RX0) (T := TX0) (N := 13) hx hb hts hinX0 tyX0 tyX0_ok nmX0 hown hK hP LW_self hS 0 rfl rfl 12 (by decide) hf52 (fun _ h9 => h9) rfl (by decide +kernel) rfl rfl (Nat.le_of_ble_eq_true rfl) dX0_advance_40 (fun H locs hP _ hS => ?_)
    have hP : va_P D vwCl (LW cI q ((lWe L), (lCy L), (lWr L), (lPu L), (lSl L), (lPl L), (lSp L), (lSt L), (lLi L), (lN_ L), 0, (lClk L), yv2)) H := hP
    refine lv_aload_n hx hb dX0_advance_43 rfl (lv_at hl 0 rfl) ?_
    refine lv_aload_n hx hb dX0_advance_44 rfl (lv_at hl 0 rfl) ?_
    refine va_get (D := D) (ci := 0) (v := .int 0) (C := RX0) (T := TX0) (N := 13) hx hb hts hinX0 hown hK hP 0 rfl rfl 10 (by decide) hf46 (fun _ h9 => h9) rfl dX0_advance_45 ?_
    obtain ⟨r48, hr48, h⟩ := bd_some h
    refine gc_ri (As := [.int 0]) (rest := []) ⟨hx, hb, hml, hown, hts⟩ hK (kX0_gripAt l D cI cC cZ cQ cJ q ((lWe L), (lCy L), (lWr L), (lPu L), (lSl L), (lPl L), (lSp L), (lSt L), (lLi L), (lN_ L), 0, (lClk L), yv2) 0 hr48) (cwV 1 hts gX0_advance_X0_gripAt rfl rfl rfl (by decide +kernel) ⟨Nat.le_of_ble_eq_true rfl, Nat.le_of_ble_eq_true rfl⟩) (va_recv hK hP (ci := 0) (q0 := 0) rfl rfl) hP rfl hl.1 rfl (Nat.le_of_ble_eq_true rfl) ⟨Nat.zero_le _, Nat.zero_le _⟩ dX0_advance_48 ?_
    refine lv_istore_n (lv' := [(1, .int r48), (0, .ref q)]) hx hb dX0_advance_51 rfl hl (by decide) rfl (fun ls hl => ?_)
    refine lv_iload_n hx hb dX0_advance_52 rfl (lv_at hl 0 rfl) ?_
    refine lv_if_ge (tgt := 60) hx hb dX0_advance_53 (by decide) (fun c3 => ?_) (fun c3 => ?_)
    · replace h := (if_pos c3).symm.trans h
      refine lv_aload_n hx hb dX0_advance_60 rfl (lv_at hl 1 rfl) ?_
      refine lv_iload_n hx hb dX0_advance_61 rfl (lv_at hl 0 rfl) ?_
      refine lv_aload_n hx hb dX0_advance_62 rfl (lv_at hl 1 rfl) ?_
      refine va_get (D := D) (ci := 0) (v := .long yv2) (C := RX0) (T := TX0) (N := 13) hx hb hts hinX0 hown hK hP 0 rfl rfl 12 (by decide) hf52 (fun _ h9 => h9) rfl dX0_advance_63 ?_
      refine lv_bipush (v := 33) hx hb dX0_advance_66 (by decide) ?_
      refine lv_lushr hx hb dX0_advance_68 rfl ?_
      refine lv_l2i hx hb dX0_advance_69 rfl ?_
      obtain ⟨r70, hr70, h⟩ := bd_some h
      refine gc_wi (As := [.int r48, .int ((((yv2).toUInt64 >>> (((33 : Int32)).toInt64.toUInt64 &&& Int64.toUInt64 63)).toInt64).toInt32)]) (rest := []) ⟨hx, hb, hml, hown, hts⟩ hK (kX0_pass l D cI cC cZ cQ cJ q ((lWe L), (lCy L), (lWr L), (lPu L), (lSl L), (lPl L), (lSp L), (lSt L), (lLi L), (lN_ L), 0, (lClk L), yv2) r48 ((((yv2).toUInt64 >>> (((33 : Int32)).toInt64.toUInt64 &&& Int64.toUInt64 63)).toInt64).toInt32) hr70) (cwV 2 hts gX0_advance_X0_pass rfl rfl rfl (by decide +kernel) ⟨Nat.le_of_ble_eq_true rfl, Nat.le_of_ble_eq_true rfl⟩) (va_recv hK hP (ci := 0) (q0 := 0) rfl rfl) hP hS (fun _ h => h) rfl hl.1 rfl (Nat.le_of_ble_eq_true rfl) ⟨Nat.zero_le _, Nat.zero_le _⟩ dX0_advance_70 (fun H locs hP hS _ _ => ?_)
      refine lv_istore_n (lv' := [(2, .int r70.1), (1, .int r48), (0, .ref q)]) hx hb dX0_advance_73 rfl hl (by decide) rfl (fun ls hl => ?_)
      refine lv_aload_n hx hb dX0_advance_74 rfl (lv_at hl 2 rfl) ?_
      refine lv_iload_n hx hb dX0_advance_75 rfl (lv_at hl 1 rfl) ?_
      obtain ⟨r76, hr76, h⟩ := bd_some h
      refine gc_wv (As := [.int r48]) (rest := []) ⟨hx, hb, hml, hown, hts⟩ hK (kX0_repairAllBut l D cI cC cZ cQ cJ q r70.2 r48 hr76) (cwV 1 hts gX0_advance_X0_repairAllBut rfl rfl rfl (by decide +kernel) ⟨Nat.le_of_ble_eq_true rfl, Nat.le_of_ble_eq_true rfl⟩) (va_recv hK hP (ci := 0) (q0 := 0) rfl rfl) hP hS (fun _ h => h) rfl hl.1 rfl (Nat.le_of_ble_eq_true rfl) ⟨Nat.zero_le _, Nat.zero_le _⟩ dX0_advance_76 (fun H locs hP hS _ _ => ?_)
      refine lv_iload_n hx hb dX0_advance_79 rfl (lv_at hl 0 rfl) ?_
      refine lv_aload_n hx hb dX0_advance_80 rfl (lv_at hl 2 rfl) ?_
      obtain ⟨r81, hr81, h⟩ := bd_some h
      refine gc_wi (As := []) (rest := [.int r70.1]) ⟨hx, hb, hml, hown, hts⟩ hK (kX0_fillStation l D cI cC cZ cQ cJ q r76 hr81) (cwV 0 hts gX0_advance_X0_fillStation rfl rfl rfl (by decide +kernel) ⟨Nat.le_of_ble_eq_true rfl, Nat.le_of_ble_eq_true rfl⟩) (va_recv hK hP (ci := 0) (q0 := 0) rfl rfl) hP hS (fun _ h => h) rfl hl.1 rfl (Nat.le_of_ble_eq_true rfl) ⟨Nat.zero_le _, Nat.zero_le _⟩ dX0_advance_81 (fun H locs hP hS _ _ => ?_)
      refine lv_ior hx hb dX0_advance_84 ?_
      refine lv_istore_n (lv' := [(2, .int (r70.1 ||| r81.1)), (1, .int r48), (0, .ref q)]) hx hb dX0_advance_85 rfl hl (by decide) rfl (fun ls hl => ?_)
      refine lv_aload_n hx hb dX0_advance_86 rfl (lv_at hl 2 rfl) ?_
      refine lv_dup hx hb dX0_advance_87 rfl ?_
      refine va_get (D := D) (ci := 0) (v := .int (lClk r81.2)) (C := RX0) (T := TX0) (N := 13) hx hb hts hinX0 hown hK hP 0 rfl rfl 11 (by decide) hf49 (fun _ h9 => h9) rfl dX0_advance_88 ?_
      refine lv_iconst (v := 1) hx hb dX0_advance_91 (by decide) ?_
      refine lv_iadd hx hb dX0_advance_92 ?_
      refine va_put (D := D) (ci := 0) (v := .int ((lClk r81.2) + 1)) (ty := .int) (C := RX0) (T := TX0) (N := 13) hx hb hts hinX0 tyX0 tyX0_ok nmX0 hown hK hP LW_self hS 0 rfl rfl 11 (by decide) hf49 (fun _ h9 => h9) rfl (by decide +kernel) rfl rfl (Nat.le_of_ble_eq_true rfl) dX0_advance_93 (fun H locs hP _ hS => ?_)
      have hP : va_P D vwCl (LW cI q ((lWe r81.2), (lCy r81.2), (lWr r81.2), (lPu r81.2), (lSl r81.2), (lPl r81.2), (lSp r81.2), (lSt r81.2), (lLi r81.2), (lN_ r81.2), (lStn r81.2), ((lClk r81.2) + 1), (lRnd r81.2))) H := hP
      refine lv_iload_n hx hb dX0_advance_96 rfl (lv_at hl 0 rfl) ?_
      have h := Option.some.inj h
      subst h
      exact W.iret (v := (r70.1 ||| r81.1)) hx hb hr (fun t ht hW => ⟨⟨_, (), rfl, rfl, gh ht hP⟩, hS.F ht⟩) hS.2.2 dX0_advance_97
    · replace h := (if_neg c3).symm.trans h
      refine lv_iconst (v := 0) hx hb dX0_advance_56 (by decide) ?_
      refine lv_goto (tgt := 73) hx hb dX0_advance_57 (by decide) ?_
      refine lv_istore_n (lv' := [(2, .int 0), (1, .int r48), (0, .ref q)]) hx hb dX0_advance_73 rfl hl (by decide) rfl (fun ls hl => ?_)
      refine lv_aload_n hx hb dX0_advance_74 rfl (lv_at hl 2 rfl) ?_
      refine lv_iload_n hx hb dX0_advance_75 rfl (lv_at hl 1 rfl) ?_
      obtain ⟨r76, hr76, h⟩ := bd_some h
      refine gc_wv (As := [.int r48]) (rest := []) ⟨hx, hb, hml, hown, hts⟩ hK (kX0_repairAllBut l D cI cC cZ cQ cJ q ((lWe L), (lCy L), (lWr L), (lPu L), (lSl L), (lPl L), (lSp L), (lSt L), (lLi L), (lN_ L), 0, (lClk L), yv2) r48 hr76) (cwV 1 hts gX0_advance_X0_repairAllBut rfl rfl rfl (by decide +kernel) ⟨Nat.le_of_ble_eq_true rfl, Nat.le_of_ble_eq_true rfl⟩) (va_recv hK hP (ci := 0) (q0 := 0) rfl rfl) hP hS (fun _ h => h) rfl hl.1 rfl (Nat.le_of_ble_eq_true rfl) ⟨Nat.zero_le _, Nat.zero_le _⟩ dX0_advance_76 (fun H locs hP hS _ _ => ?_)
      refine lv_iload_n hx hb dX0_advance_79 rfl (lv_at hl 0 rfl) ?_
      refine lv_aload_n hx hb dX0_advance_80 rfl (lv_at hl 2 rfl) ?_
      obtain ⟨r81, hr81, h⟩ := bd_some h
      refine gc_wi (As := []) (rest := [.int 0]) ⟨hx, hb, hml, hown, hts⟩ hK (kX0_fillStation l D cI cC cZ cQ cJ q r76 hr81) (cwV 0 hts gX0_advance_X0_fillStation rfl rfl rfl (by decide +kernel) ⟨Nat.le_of_ble_eq_true rfl, Nat.le_of_ble_eq_true rfl⟩) (va_recv hK hP (ci := 0) (q0 := 0) rfl rfl) hP hS (fun _ h => h) rfl hl.1 rfl (Nat.le_of_ble_eq_true rfl) ⟨Nat.zero_le _, Nat.zero_le _⟩ dX0_advance_81 (fun H locs hP hS _ _ => ?_)
      refine lv_ior hx hb dX0_advance_84 ?_
      refine lv_istore_n (lv' := [(2, .int (0 ||| r81.1)), (1, .int r48), (0, .ref q)]) hx hb dX0_advance_85 rfl hl (by decide) rfl (fun ls hl => ?_)
      refine lv_aload_n hx hb dX0_advance_86 rfl (lv_at hl 2 rfl) ?_
      refine lv_dup hx hb dX0_advance_87 rfl ?_
      refine va_get (D := D) (ci := 0) (v := .int (lClk r81.2)) (C := RX0) (T := TX0) (N := 13) hx hb hts hinX0 hown hK hP 0 rfl rfl 11 (by decide) hf49 (fun _ h9 => h9) rfl dX0_advance_88 ?_
      refine lv_iconst (v := 1) hx hb dX0_advance_91 (by decide) ?_
      refine lv_iadd hx hb dX0_advance_92 ?_
      refine va_put (D := D) (ci := 0) (v := .int ((lClk r81.2) + 1)) (ty := .int) (C := RX0) (T := TX0) (N := 13) hx hb hts hinX0 tyX0 tyX0_ok nmX0 hown hK hP LW_self hS 0 rfl rfl 11 (by decide) hf49 (fun _ h9 => h9) rfl (by decide +kernel) rfl rfl (Nat.le_of_ble_eq_true rfl) dX0_advance_93 (fun H locs hP _ hS => ?_)
      have hP : va_P D vwCl (LW cI q ((lWe r81.2), (lCy r81.2), (lWr r81.2), (lPu r81.2), (lSl r81.2), (lPl r81.2), (lSp r81.2), (lSt r81.2), (lLi r81.2), (lN_ r81.2), (lStn r81.2), ((lClk r81.2) + 1), (lRnd r81.2))) H := hP
      refine lv_iload_n hx hb dX0_advance_96 rfl (lv_at hl 0 rfl) ?_
      have h := Option.some.inj h
      subst h
      exact W.iret (v := (0 ||| r81.1)) hx hb hr (fun t ht hW => ⟨⟨_, (), rfl, rfl, gh ht hP⟩, hS.F ht⟩) hS.2.2 dX0_advance_97
  · replace h := (if_neg c1).symm.trans h
    refine lv_aload_n hx hb dX0_advance_14 rfl (lv_at hl 0 rfl) ?_
    refine va_get (D := D) (ci := 0) (v := .int (lStn L)) (C := RX0) (T := TX0) (N := 13) hx hb hts hinX0 hown hK hP 0 rfl rfl 10 (by decide) hf46 (fun _ h9 => h9) rfl dX0_advance_15 ?_
    refine lv_iconst (v := 1) hx hb dX0_advance_18 (by decide) ?_
    refine lv_iadd hx hb dX0_advance_19 ?_
    refine lv_goto (tgt := 24) hx hb dX0_advance_20 (by decide) ?_
    refine va_put (D := D) (ci := 0) (v := .int ((lStn L) + 1)) (ty := .int) (C := RX0) (T := TX0) (N := 13) hx hb hts hinX0 tyX0 tyX0_ok nmX0 hown hK hP LW_self hS 0 rfl rfl 10 (by decide) hf46 (fun _ h9 => h9) rfl (by decide +kernel) rfl rfl (Nat.le_of_ble_eq_true rfl) dX0_advance_24 (fun H locs hP _ hS => ?_)
    have hP : va_P D vwCl (LW cI q ((lWe L), (lCy L), (lWr L), (lPu L), (lSl L), (lPl L), (lSp L), (lSt L), (lLi L), (lN_ L), ((lStn L) + 1), (lClk L), (lRnd L))) H := hP
    refine lv_aload_n hx hb dX0_advance_27 rfl (lv_at hl 0 rfl) ?_
    refine lv_aload_n hx hb dX0_advance_28 rfl (lv_at hl 0 rfl) ?_
    refine va_get (D := D) (ci := 0) (v := .long (lRnd L)) (C := RX0) (T := TX0) (N := 13) hx hb hts hinX0 hown hK hP 0 rfl rfl 12 (by decide) hf52 (fun _ h9 => h9) rfl dX0_advance_29 ?_
    refine lv_ldc2 (v := 6364136223846793005) hx hb hown (hts (.constantLong RX0 73 (6364136223846793005)) (by decide +kernel)) dX0_advance_32 ?_
    refine lv_lmul hx hb dX0_advance_35 ?_
    refine lv_ldc2 (v := 1442695040888963407) hx hb hown (hts (.constantLong RX0 75 (1442695040888963407)) (by decide +kernel)) dX0_advance_36 ?_
    refine lv_ladd hx hb dX0_advance_39 ?_
    refine lv_topl (fun yv4 eyv4 => ?_)
    rw [← eyv4] at h
    refine va_put (D := D) (ci := 0) (v := .long yv4) (ty := .long) (C := RX0) (T := TX0) (N := 13) hx hb hts hinX0 tyX0 tyX0_ok nmX0 hown hK hP LW_self hS 0 rfl rfl 12 (by decide) hf52 (fun _ h9 => h9) rfl (by decide +kernel) rfl rfl (Nat.le_of_ble_eq_true rfl) dX0_advance_40 (fun H locs hP _ hS => ?_)
    have hP : va_P D vwCl (LW cI q ((lWe L), (lCy L), (lWr L), (lPu L), (lSl L), (lPl L), (lSp L), (lSt L), (lLi L), (lN_ L), ((lStn L) + 1), (lClk L), yv4)) H := hP
    refine lv_aload_n hx hb dX0_advance_43 rfl (lv_at hl 0 rfl) ?_
    refine lv_aload_n hx hb dX0_advance_44 rfl (lv_at hl 0 rfl) ?_
    refine va_get (D := D) (ci := 0) (v := .int ((lStn L) + 1)) (C := RX0) (T := TX0) (N := 13) hx hb hts hinX0 hown hK hP 0 rfl rfl 10 (by decide) hf46 (fun _ h9 => h9) rfl dX0_advance_45 ?_
    obtain ⟨r48, hr48, h⟩ := bd_some h
    refine gc_ri (As := [.int ((lStn L) + 1)]) (rest := []) ⟨hx, hb, hml, hown, hts⟩ hK (kX0_gripAt l D cI cC cZ cQ cJ q ((lWe L), (lCy L), (lWr L), (lPu L), (lSl L), (lPl L), (lSp L), (lSt L), (lLi L), (lN_ L), ((lStn L) + 1), (lClk L), yv4) ((lStn L) + 1) hr48) (cwV 1 hts gX0_advance_X0_gripAt rfl rfl rfl (by decide +kernel) ⟨Nat.le_of_ble_eq_true rfl, Nat.le_of_ble_eq_true rfl⟩) (va_recv hK hP (ci := 0) (q0 := 0) rfl rfl) hP rfl hl.1 rfl (Nat.le_of_ble_eq_true rfl) ⟨Nat.zero_le _, Nat.zero_le _⟩ dX0_advance_48 ?_
    refine lv_istore_n (lv' := [(1, .int r48), (0, .ref q)]) hx hb dX0_advance_51 rfl hl (by decide) rfl (fun ls hl => ?_)
    refine lv_iload_n hx hb dX0_advance_52 rfl (lv_at hl 0 rfl) ?_
    refine lv_if_ge (tgt := 60) hx hb dX0_advance_53 (by decide) (fun c5 => ?_) (fun c5 => ?_)
    · replace h := (if_pos c5).symm.trans h
      refine lv_aload_n hx hb dX0_advance_60 rfl (lv_at hl 1 rfl) ?_
      refine lv_iload_n hx hb dX0_advance_61 rfl (lv_at hl 0 rfl) ?_
      refine lv_aload_n hx hb dX0_advance_62 rfl (lv_at hl 1 rfl) ?_
      refine va_get (D := D) (ci := 0) (v := .long yv4) (C := RX0) (T := TX0) (N := 13) hx hb hts hinX0 hown hK hP 0 rfl rfl 12 (by decide) hf52 (fun _ h9 => h9) rfl dX0_advance_63 ?_
      refine lv_bipush (v := 33) hx hb dX0_advance_66 (by decide) ?_
      refine lv_lushr hx hb dX0_advance_68 rfl ?_
      refine lv_l2i hx hb dX0_advance_69 rfl ?_
      obtain ⟨r70, hr70, h⟩ := bd_some h
      refine gc_wi (As := [.int r48, .int ((((yv4).toUInt64 >>> (((33 : Int32)).toInt64.toUInt64 &&& Int64.toUInt64 63)).toInt64).toInt32)]) (rest := []) ⟨hx, hb, hml, hown, hts⟩ hK (kX0_pass l D cI cC cZ cQ cJ q ((lWe L), (lCy L), (lWr L), (lPu L), (lSl L), (lPl L), (lSp L), (lSt L), (lLi L), (lN_ L), ((lStn L) + 1), (lClk L), yv4) r48 ((((yv4).toUInt64 >>> (((33 : Int32)).toInt64.toUInt64 &&& Int64.toUInt64 63)).toInt64).toInt32) hr70) (cwV 2 hts gX0_advance_X0_pass rfl rfl rfl (by decide +kernel) ⟨Nat.le_of_ble_eq_true rfl, Nat.le_of_ble_eq_true rfl⟩) (va_recv hK hP (ci := 0) (q0 := 0) rfl rfl) hP hS (fun _ h => h) rfl hl.1 rfl (Nat.le_of_ble_eq_true rfl) ⟨Nat.zero_le _, Nat.zero_le _⟩ dX0_advance_70 (fun H locs hP hS _ _ => ?_)
      refine lv_istore_n (lv' := [(2, .int r70.1), (1, .int r48), (0, .ref q)]) hx hb dX0_advance_73 rfl hl (by decide) rfl (fun ls hl => ?_)
      refine lv_aload_n hx hb dX0_advance_74 rfl (lv_at hl 2 rfl) ?_
      refine lv_iload_n hx hb dX0_advance_75 rfl (lv_at hl 1 rfl) ?_
      obtain ⟨r76, hr76, h⟩ := bd_some h
      refine gc_wv (As := [.int r48]) (rest := []) ⟨hx, hb, hml, hown, hts⟩ hK (kX0_repairAllBut l D cI cC cZ cQ cJ q r70.2 r48 hr76) (cwV 1 hts gX0_advance_X0_repairAllBut rfl rfl rfl (by decide +kernel) ⟨Nat.le_of_ble_eq_true rfl, Nat.le_of_ble_eq_true rfl⟩) (va_recv hK hP (ci := 0) (q0 := 0) rfl rfl) hP hS (fun _ h => h) rfl hl.1 rfl (Nat.le_of_ble_eq_true rfl) ⟨Nat.zero_le _, Nat.zero_le _⟩ dX0_advance_76 (fun H locs hP hS _ _ => ?_)
      refine lv_iload_n hx hb dX0_advance_79 rfl (lv_at hl 0 rfl) ?_
      refine lv_aload_n hx hb dX0_advance_80 rfl (lv_at hl 2 rfl) ?_
      obtain ⟨r81, hr81, h⟩ := bd_some h
      refine gc_wi (As := []) (rest := [.int r70.1]) ⟨hx, hb, hml, hown, hts⟩ hK (kX0_fillStation l D cI cC cZ cQ cJ q r76 hr81) (cwV 0 hts gX0_advance_X0_fillStation rfl rfl rfl (by decide +kernel) ⟨Nat.le_of_ble_eq_true rfl, Nat.le_of_ble_eq_true rfl⟩) (va_recv hK hP (ci := 0) (q0 := 0) rfl rfl) hP hS (fun _ h => h) rfl hl.1 rfl (Nat.le_of_ble_eq_true rfl) ⟨Nat.zero_le _, Nat.zero_le _⟩ dX0_advance_81 (fun H locs hP hS _ _ => ?_)
      refine lv_ior hx hb dX0_advance_84 ?_
      refine lv_istore_n (lv' := [(2, .int (r70.1 ||| r81.1)), (1, .int r48), (0, .ref q)]) hx hb dX0_advance_85 rfl hl (by decide) rfl (fun ls hl => ?_)
      refine lv_aload_n hx hb dX0_advance_86 rfl (lv_at hl 2 rfl) ?_
      refine lv_dup hx hb dX0_advance_87 rfl ?_
      refine va_get (D := D) (ci := 0) (v := .int (lClk r81.2)) (C := RX0) (T := TX0) (N := 13) hx hb hts hinX0 hown hK hP 0 rfl rfl 11 (by decide) hf49 (fun _ h9 => h9) rfl dX0_advance_88 ?_
      refine lv_iconst (v := 1) hx hb dX0_advance_91 (by decide) ?_
      refine lv_iadd hx hb dX0_advance_92 ?_
      refine va_put (D := D) (ci := 0) (v := .int ((lClk r81.2) + 1)) (ty := .int) (C := RX0) (T := TX0) (N := 13) hx hb hts hinX0 tyX0 tyX0_ok nmX0 hown hK hP LW_self hS 0 rfl rfl 11 (by decide) hf49 (fun _ h9 => h9) rfl (by decide +kernel) rfl rfl (Nat.le_of_ble_eq_true rfl) dX0_advance_93 (fun H locs hP _ hS => ?_)
      have hP : va_P D vwCl (LW cI q ((lWe r81.2), (lCy r81.2), (lWr r81.2), (lPu r81.2), (lSl r81.2), (lPl r81.2), (lSp r81.2), (lSt r81.2), (lLi r81.2), (lN_ r81.2), (lStn r81.2), ((lClk r81.2) + 1), (lRnd r81.2))) H := hP
      refine lv_iload_n hx hb dX0_advance_96 rfl (lv_at hl 0 rfl) ?_
      have h := Option.some.inj h
      subst h
      exact W.iret (v := (r70.1 ||| r81.1)) hx hb hr (fun t ht hW => ⟨⟨_, (), rfl, rfl, gh ht hP⟩, hS.F ht⟩) hS.2.2 dX0_advance_97
    · replace h := (if_neg c5).symm.trans h
      refine lv_iconst (v := 0) hx hb dX0_advance_56 (by decide) ?_
      refine lv_goto (tgt := 73) hx hb dX0_advance_57 (by decide) ?_
      refine lv_istore_n (lv' := [(2, .int 0), (1, .int r48), (0, .ref q)]) hx hb dX0_advance_73 rfl hl (by decide) rfl (fun ls hl => ?_)
      refine lv_aload_n hx hb dX0_advance_74 rfl (lv_at hl 2 rfl) ?_
      refine lv_iload_n hx hb dX0_advance_75 rfl (lv_at hl 1 rfl) ?_
      obtain ⟨r76, hr76, h⟩ := bd_some h
      refine gc_wv (As := [.int r48]) (rest := []) ⟨hx, hb, hml, hown, hts⟩ hK (kX0_repairAllBut l D cI cC cZ cQ cJ q ((lWe L), (lCy L), (lWr L), (lPu L), (lSl L), (lPl L), (lSp L), (lSt L), (lLi L), (lN_ L), ((lStn L) + 1), (lClk L), yv4) r48 hr76) (cwV 1 hts gX0_advance_X0_repairAllBut rfl rfl rfl (by decide +kernel) ⟨Nat.le_of_ble_eq_true rfl, Nat.le_of_ble_eq_true rfl⟩) (va_recv hK hP (ci := 0) (q0 := 0) rfl rfl) hP hS (fun _ h => h) rfl hl.1 rfl (Nat.le_of_ble_eq_true rfl) ⟨Nat.zero_le _, Nat.zero_le _⟩ dX0_advance_76 (fun H locs hP hS _ _ => ?_)
      refine lv_iload_n hx hb dX0_advance_79 rfl (lv_at hl 0 rfl) ?_
      refine lv_aload_n hx hb dX0_advance_80 rfl (lv_at hl 2 rfl) ?_
      obtain ⟨r81, hr81, h⟩ := bd_some h
      refine gc_wi (As := []) (rest := [.int 0]) ⟨hx, hb, hml, hown, hts⟩ hK (kX0_fillStation l D cI cC cZ cQ cJ q r76 hr81) (cwV 0 hts gX0_advance_X0_fillStation rfl rfl rfl (by decide +kernel) ⟨Nat.le_of_ble_eq_true rfl, Nat.le_of_ble_eq_true rfl⟩) (va_recv hK hP (ci := 0) (q0 := 0) rfl rfl) hP hS (fun _ h => h) rfl hl.1 rfl (Nat.le_of_ble_eq_true rfl) ⟨Nat.zero_le _, Nat.zero_le _⟩ dX0_advance_81 (fun H locs hP hS _ _ => ?_)
      refine lv_ior hx hb dX0_advance_84 ?_
      refine lv_istore_n (lv' := [(2, .int (0 ||| r81.1)), (1, .int r48), (0, .ref q)]) hx hb dX0_advance_85 rfl hl (by decide) rfl (fun ls hl => ?_)
      refine lv_aload_n hx hb dX0_advance_86 rfl (lv_at hl 2 rfl) ?_
      refine lv_dup hx hb dX0_advance_87 rfl ?_
      refine va_get (D := D) (ci := 0) (v := .int (lClk r81.2)) (C := RX0) (T := TX0) (N := 13) hx hb hts hinX0 hown hK hP 0 rfl rfl 11 (by decide) hf49 (fun _ h9 => h9) rfl dX0_advance_88 ?_
      refine lv_iconst (v := 1) hx hb dX0_advance_91 (by decide) ?_
      refine lv_iadd hx hb dX0_advance_92 ?_
      refine va_put (D := D) (ci := 0) (v := .int ((lClk r81.2) + 1)) (ty := .int) (C := RX0) (T := TX0) (N := 13) hx hb hts hinX0 tyX0 tyX0_ok nmX0 hown hK hP LW_self hS 0 rfl rfl 11 (by decide) hf49 (fun _ h9 => h9) rfl (by decide +kernel) rfl rfl (Nat.le_of_ble_eq_true rfl) dX0_advance_93 (fun H locs hP _ hS => ?_)
      have hP : va_P D vwCl (LW cI q ((lWe r81.2), (lCy r81.2), (lWr r81.2), (lPu r81.2), (lSl r81.2), (lPl r81.2), (lSp r81.2), (lSt r81.2), (lLi r81.2), (lN_ r81.2), (lStn r81.2), ((lClk r81.2) + 1), (lRnd r81.2))) H := hP
      refine lv_iload_n hx hb dX0_advance_96 rfl (lv_at hl 0 rfl) ?_
      have h := Option.some.inj h
      subst h
      exact W.iret (v := (0 ||| r81.1)) hx hb hr (fun t ht hW => ⟨⟨_, (), rfl, rfl, gh ht hP⟩, hS.F ht⟩) hS.2.2 dX0_advance_97

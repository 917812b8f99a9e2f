set_option maxHeartbeats 8000000 in
set_option maxRecDepth 100000 in
theorem kX0_init (l : Launch) (D : va_G) (cI cC cZ cQ cJ : ClassId) (q : Nat) {R : LSt} (h : fX0_init = some R) : Met l yX0_init wsX0_init ({ frames := 1, cells := 9, slots := 101, locals := 21 } : Room) (va_Pc [.ref q] (gB D (gTy cI cC cZ cQ cJ) (fun H => H.size = q + 1 ∧ va_P D vwCl [(q, .inr (0, [.null, .null, .null, .null, .null, .null, .null, .null, .null, .int 0, .int 0, .int 0, .long 0]))] H))) (va_Qv (fun _ : Unit => True) (fun _ t => t.heap.size = q + 10 ∧ va_P D vwCl (LW cI q R) t.heap) (gGe q)) 9 101 (gGe q) := by
  refine Met.ofW (cc := cX0_init) (maxL := 1) (ret := none) (by decide) rfl ?_
  intro p e s m args below meth c s₁ B hml hv
  obtain ⟨rfl, ⟨hsz, hP⟩, hK⟩ := hv
  have hx := B.exec
  have hb := B.bytes
  have hr9 := B.returns
  have hts := atoms_spec (ws := wsX0_init) B.pre
  have hown : s.vm.findClass RX0 = some m.cls := findClass_of_methodNamed B.named
  have hlocks := B.notSynchronized
  have hin : meth.name = "<init>" := (name_of_methodNamed B.named B.method).1
  have hA0 : ∀ a : Nat, s.heap.size ≤ a → gGe q a := fun a h => by show q ≤ a; omega
  have hl := lv_entry ([.ref q]) (n := 1) (Nat.le_of_ble_eq_true rfl)
  rw [lg_entry_eq]
  generalize (lg_sl ([.ref q]) ++ List.replicate (1 - (lg_sl ([.ref q])).length) Slot.unset).toArray = ls at hl ⊢
  have hl : lv_has ls 1 [(0, .ref q)] := hl
  have hS : va_S (gGe q) s.heap s.heap [] := va_S.rf
  have hD : va_D (gGe q) [(q, .inr (0, [.null, .null, .null, .null, .null, .null, .null, .null, .null, .int 0, .int 0, .int 0, .long 0]))] := gOrd_D (A := gGe q) (l := [(q, .inr (0, [.null, .null, .null, .null, .null, .null, .null, .null, .null, .int 0, .int 0, .int 0, .long 0]))]) (q := q) ⟨rfl, trivial⟩ (fun _ h9 => h9.1)
  obtain ⟨H, hH⟩ : ∃ H, H = s.heap := ⟨_, rfl⟩
  obtain ⟨locs, hlz⟩ : ∃ z : List Loc, z = [] := ⟨_, rfl⟩
  have hP : va_P D vwCl [(q, .inr (0, [.null, .null, .null, .null, .null, .null, .null, .null, .null, .int 0, .int 0, .int 0, .long 0]))] H := by rw [hH]; exact hP
  have hS : va_S (gGe q) s.heap H locs := by rw [hH, hlz]; exact hS
  refine gc_at hH hlz ?_
  have hinX0 : ∀ w ∈ wsX00, w ∈ wsX0_init := by decide +kernel
  have hf42 := hts (.fieldLink RX0 42 "GripInspector$Lift" "n" "I") (by decide +kernel)
  have hf36 := hts (.fieldLink RX0 36 "GripInspector$Lift" "limits" "[I") (by decide +kernel)
  unfold fX0_init at h
  refine lv_aload_n hx hb dX0_init_0 rfl (lv_at hl 0 rfl) ?_
  refine W.objInit hx hb hown (hts (.methodLink RX0 3 objectInit) (by decide +kernel)) (hts (.instanceMethod objectInit) (by decide +kernel)) (hts (.code objectInit ⟨#[0xb1]⟩ 1 none) (by decide +kernel)) rfl (by rw [hml]; exact hl.1) rfl dX0_init_1 (Nat.le_of_ble_eq_true rfl) (Nat.le_of_ble_eq_true rfl) ?_
  refine W.eq (g2 := F0 m 4 ls []) rfl ?_
  refine lv_aload_n hx hb dX0_init_4 rfl (lv_at hl 0 rfl) ?_
  refine lv_bipush (v := 12) hx hb dX0_init_5 (by decide) ?_
  refine va_newa (atype := .int) (ty := .int) (a0 := (12, .inl z0)) (N' := 12) hx hb (hts (.arrayClass .int) (by decide +kernel)) rfl hK hP hD hS hA0 (fun _ => rfl) (by decide) (by decide) (by decide) (Nat.le_of_ble_eq_true rfl) (Nat.le_of_ble_eq_true rfl) dX0_init_7 (fun q9 cA9 H hK9 hP hD hS => ?_)
  obtain rfl : cI = cA9 := g_ci (hK.2 0 _ rfl).2 (hK9.2 4 _ rfl).2
  clear hK9
  refine W.widen (k := 1) (n := 12) (Nat.le_of_ble_eq_true rfl) (Nat.le_of_ble_eq_true rfl) ?_
  refine g_size (fun hz9 => ?_)
  obtain rfl : q9 = q + 1 := g_pin hD ⟨rfl, trivial⟩ rfl hP (by omega)
  have hP : va_P D vwCl [(q, .inr (0, [.null, .null, .null, .null, .null, .null, .null, .null, .null, .int 0, .int 0, .int 0, .long 0])), ((q + 1), .inl (cI, 12, .inl z0))] H := hP
  have hD : va_D (gGe q) [(q, .inr (0, [.null, .null, .null, .null, .null, .null, .null, .null, .null, .int 0, .int 0, .int 0, .long 0])), ((q + 1), .inl (cI, 12, .inl z0))] := gOrd_D (A := gGe q) (l := [(q, .inr (0, [.null, .null, .null, .null, .null, .null, .null, .null, .null, .int 0, .int 0, .int 0, .long 0])), ((q + 1), .inl (cI, 12, .inl z0))]) (q := q) ⟨rfl, rfl, trivial⟩ (fun _ h9 => h9.1)
  refine va_putF (D := D) (ci := 0) (v := .ref (q + 1)) (ty := tyX0 0) (C := RX0) (T := TX0) (N := 13) hx hb hts (by decide +kernel) tyX0 tyX0_ok nmX0 hown hK hP hD hS 0 rfl rfl 0 (by decide) (hts (.fieldLink RX0 9 "GripInspector$Lift" "weight" "[I") (by decide +kernel)) (fun _ h9 => h9) rfl hin rfl (by decide +kernel) rfl rfl (Nat.le_of_ble_eq_true rfl) dX0_init_9 (fun H locs hP hD hS => ?_)
  have hP : va_P D vwCl [(q, .inr (0, [.ref (q + 1), .null, .null, .null, .null, .null, .null, .null, .null, .int 0, .int 0, .int 0, .long 0])), ((q + 1), .inl (cI, 12, .inl z0))] H := hP
  have hD : va_D (gGe q) [(q, .inr (0, [.ref (q + 1), .null, .null, .null, .null, .null, .null, .null, .null, .int 0, .int 0, .int 0, .long 0])), ((q + 1), .inl (cI, 12, .inl z0))] := hD
  refine lv_aload_n hx hb dX0_init_12 rfl (lv_at hl 0 rfl) ?_
  refine lv_bipush (v := 12) hx hb dX0_init_13 (by decide) ?_
  refine va_newa (atype := .int) (ty := .int) (a0 := (12, .inl z0)) (N' := 12) hx hb (hts (.arrayClass .int) (by decide +kernel)) rfl hK hP hD hS hA0 (fun _ => rfl) (by decide) (by decide) (by decide) (Nat.le_of_ble_eq_true rfl) (Nat.le_of_ble_eq_true rfl) dX0_init_15 (fun q9 cA9 H hK9 hP hD hS => ?_)
  obtain rfl : cI = cA9 := g_ci (hK.2 0 _ rfl).2 (hK9.2 4 _ rfl).2
  clear hK9
  refine W.widen (k := 2) (n := 24) (Nat.le_of_ble_eq_true rfl) (Nat.le_of_ble_eq_true rfl) ?_
  refine g_size (fun hz9 => ?_)
  obtain rfl : q9 = q + 2 := g_pin hD ⟨rfl, rfl, trivial⟩ rfl hP (by omega)
  have hP : va_P D vwCl [(q, .inr (0, [.ref (q + 1), .null, .null, .null, .null, .null, .null, .null, .null, .int 0, .int 0, .int 0, .long 0])), ((q + 1), .inl (cI, 12, .inl z0)), ((q + 2), .inl (cI, 12, .inl z0))] H := hP
  have hD : va_D (gGe q) [(q, .inr (0, [.ref (q + 1), .null, .null, .null, .null, .null, .null, .null, .null, .int 0, .int 0, .int 0, .long 0])), ((q + 1), .inl (cI, 12, .inl z0)), ((q + 2), .inl (cI, 12, .inl z0))] := gOrd_D (A := gGe q) (l := [(q, .inr (0, [.ref (q + 1), .null, .null, .null, .null, .null, .null, .null, .null, .int 0, .int 0, .int 0, .long 0])), ((q + 1), .inl (cI, 12, .inl z0)), ((q + 2), .inl (cI, 12, .inl z0))]) (q := q) ⟨rfl, rfl, rfl, trivial⟩ (fun _ h9 => h9.1)
  refine va_putF (D := D) (ci := 0) (v := .ref (q + 2)) (ty := tyX0 1) (C := RX0) (T := TX0) (N := 13) hx hb hts (by decide +kernel) tyX0 tyX0_ok nmX0 hown hK hP hD hS 0 rfl rfl 1 (by decide) (hts (.fieldLink RX0 15 "GripInspector$Lift" "cycles" "[I") (by decide +kernel)) (fun _ h9 => h9) rfl hin rfl (by decide +kernel) rfl rfl (Nat.le_of_ble_eq_true rfl) dX0_init_17 (fun H locs hP hD hS => ?_)
  have hP : va_P D vwCl [(q, .inr (0, [.ref (q + 1), .ref (q + 2), .null, .null, .null, .null, .null, .null, .null, .int 0, .int 0, .int 0, .long 0])), ((q + 1), .inl (cI, 12, .inl z0)), ((q + 2), .inl (cI, 12, .inl z0))] H := hP
  have hD : va_D (gGe q) [(q, .inr (0, [.ref (q + 1), .ref (q + 2), .null, .null, .null, .null, .null, .null, .null, .int 0, .int 0, .int 0, .long 0])), ((q + 1), .inl (cI, 12, .inl z0)), ((q + 2), .inl (cI, 12, .inl z0))] := hD
  refine lv_aload_n hx hb dX0_init_20 rfl (lv_at hl 0 rfl) ?_
  refine lv_bipush (v := 12) hx hb dX0_init_21 (by decide) ?_
  refine va_newa (atype := .int) (ty := .int) (a0 := (12, .inl z0)) (N' := 12) hx hb (hts (.arrayClass .int) (by decide +kernel)) rfl hK hP hD hS hA0 (fun _ => rfl) (by decide) (by decide) (by decide) (Nat.le_of_ble_eq_true rfl) (Nat.le_of_ble_eq_true rfl) dX0_init_23 (fun q9 cA9 H hK9 hP hD hS => ?_)
  obtain rfl : cI = cA9 := g_ci (hK.2 0 _ rfl).2 (hK9.2 4 _ rfl).2
  clear hK9
  refine W.widen (k := 3) (n := 36) (Nat.le_of_ble_eq_true rfl) (Nat.le_of_ble_eq_true rfl) ?_
  refine g_size (fun hz9 => ?_)
  obtain rfl : q9 = q + 3 := g_pin hD ⟨rfl, rfl, rfl, trivial⟩ rfl hP (by omega)
  have hP : va_P D vwCl [(q, .inr (0, [.ref (q + 1), .ref (q + 2), .null, .null, .null, .null, .null, .null, .null, .int 0, .int 0, .int 0, .long 0])), ((q + 1), .inl (cI, 12, .inl z0)), ((q + 2), .inl (cI, 12, .inl z0)), ((q + 3), .inl (cI, 12, .inl z0))] H := hP
  have hD : va_D (gGe q) [(q, .inr (0, [.ref (q + 1), .ref (q + 2), .null, .null, .null, .null, .null, .null, .null, .int 0, .int 0, .int 0, .long 0])), ((q + 1), .inl (cI, 12, .inl z0)), ((q + 2), .inl (cI, 12, .inl z0)), ((q + 3), .inl (cI, 12, .inl z0))] := gOrd_D (A := gGe q) (l := [(q, .inr (0, [.ref (q + 1), .ref (q + 2), .null, .null, .null, .null, .null, .null, .null, .int 0, .int 0, .int 0, .long 0])), ((q + 1), .inl (cI, 12, .inl z0)), ((q + 2), .inl (cI, 12, .inl z0)), ((q + 3), .inl (cI, 12, .inl z0))]) (q := q) ⟨rfl, rfl, rfl, rfl, trivial⟩ (fun _ h9 => h9.1)
  refine va_putF (D := D) (ci := 0) (v := .ref (q + 3)) (ty := tyX0 2) (C := RX0) (T := TX0) (N := 13) hx hb hts (by decide +kernel) tyX0 tyX0_ok nmX0 hown hK hP hD hS 0 rfl rfl 2 (by decide) (hts (.fieldLink RX0 18 "GripInspector$Lift" "wear" "[I") (by decide +kernel)) (fun _ h9 => h9) rfl hin rfl (by decide +kernel) rfl rfl (Nat.le_of_ble_eq_true rfl) dX0_init_25 (fun H locs hP hD hS => ?_)
  have hP : va_P D vwCl [(q, .inr (0, [.ref (q + 1), .ref (q + 2), .ref (q + 3), .null, .null, .null, .null, .null, .null, .int 0, .int 0, .int 0, .long 0])), ((q + 1), .inl (cI, 12, .inl z0)), ((q + 2), .inl (cI, 12, .inl z0)), ((q + 3), .inl (cI, 12, .inl z0))] H := hP
  have hD : va_D (gGe q) [(q, .inr (0, [.ref (q + 1), .ref (q + 2), .ref (q + 3), .null, .null, .null, .null, .null, .null, .int 0, .int 0, .int 0, .long 0])), ((q + 1), .inl (cI, 12, .inl z0)), ((q + 2), .inl (cI, 12, .inl z0)), ((q + 3), .inl (cI, 12, .inl z0))] := hD
  refine lv_aload_n hx hb dX0_init_28 rfl (lv_at hl 0 rfl) ?_
  refine lv_bipush (v := 12) hx hb dX0_init_29 (by decide) ?_
  refine va_newa (atype := .int) (ty := .int) (a0 := (12, .inl z0)) (N' := 12) hx hb (hts (.arrayClass .int) (by decide +kernel)) rfl hK hP hD hS hA0 (fun _ => rfl) (by decide) (by decide) (by decide) (Nat.le_of_ble_eq_true rfl) (Nat.le_of_ble_eq_true rfl) dX0_init_31 (fun q9 cA9 H hK9 hP hD hS => ?_)
  obtain rfl : cI = cA9 := g_ci (hK.2 0 _ rfl).2 (hK9.2 4 _ rfl).2
  clear hK9
  refine W.widen (k := 4) (n := 48) (Nat.le_of_ble_eq_true rfl) (Nat.le_of_ble_eq_true rfl) ?_
  refine g_size (fun hz9 => ?_)
  obtain rfl : q9 = q + 4 := g_pin hD ⟨rfl, rfl, rfl, rfl, trivial⟩ rfl hP (by omega)
  have hP : va_P D vwCl [(q, .inr (0, [.ref (q + 1), .ref (q + 2), .ref (q + 3), .null, .null, .null, .null, .null, .null, .int 0, .int 0, .int 0, .long 0])), ((q + 1), .inl (cI, 12, .inl z0)), ((q + 2), .inl (cI, 12, .inl z0)), ((q + 3), .inl (cI, 12, .inl z0)), ((q + 4), .inl (cI, 12, .inl z0))] H := hP
  have hD : va_D (gGe q) [(q, .inr (0, [.ref (q + 1), .ref (q + 2), .ref (q + 3), .null, .null, .null, .null, .null, .null, .int 0, .int 0, .int 0, .long 0])), ((q + 1), .inl (cI, 12, .inl z0)), ((q + 2), .inl (cI, 12, .inl z0)), ((q + 3), .inl (cI, 12, .inl z0)), ((q + 4), .inl (cI, 12, .inl z0))] := gOrd_D (A := gGe q) (l := [(q, .inr (0, [.ref (q + 1), .ref (q + 2), .ref (q + 3), .null, .null, .null, .null, .null, .null, .int 0, .int 0, .int 0, .long 0])), ((q + 1), .inl (cI, 12, .inl z0)), ((q + 2), .inl (cI, 12, .inl z0)), ((q + 3), .inl (cI, 12, .inl z0)), ((q + 4), .inl (cI, 12, .inl z0))]) (q := q) ⟨rfl, rfl, rfl, rfl, rfl, trivial⟩ (fun _ h9 => h9.1)
  refine va_putF (D := D) (ci := 0) (v := .ref (q + 4)) (ty := tyX0 3) (C := RX0) (T := TX0) (N := 13) hx hb hts (by decide +kernel) tyX0 tyX0_ok nmX0 hown hK hP hD hS 0 rfl rfl 3 (by decide) (hts (.fieldLink RX0 21 "GripInspector$Lift" "pulls" "[I") (by decide +kernel)) (fun _ h9 => h9) rfl hin rfl (by decide +kernel) rfl rfl (Nat.le_of_ble_eq_true rfl) dX0_init_33 (fun H locs hP hD hS => ?_)
  have hP : va_P D vwCl [(q, .inr (0, [.ref (q + 1), .ref (q + 2), .ref (q + 3), .ref (q + 4), .null, .null, .null, .null, .null, .int 0, .int 0, .int 0, .long 0])), ((q + 1), .inl (cI, 12, .inl z0)), ((q + 2), .inl (cI, 12, .inl z0)), ((q + 3), .inl (cI, 12, .inl z0)), ((q + 4), .inl (cI, 12, .inl z0))] H := hP
  have hD : va_D (gGe q) [(q, .inr (0, [.ref (q + 1), .ref (q + 2), .ref (q + 3), .ref (q + 4), .null, .null, .null, .null, .null, .int 0, .int 0, .int 0, .long 0])), ((q + 1), .inl (cI, 12, .inl z0)), ((q + 2), .inl (cI, 12, .inl z0)), ((q + 3), .inl (cI, 12, .inl z0)), ((q + 4), .inl (cI, 12, .inl z0))] := hD
  refine lv_aload_n hx hb dX0_init_36 rfl (lv_at hl 0 rfl) ?_
  refine lv_bipush (v := 12) hx hb dX0_init_37 (by decide) ?_
  refine va_newa (atype := .int) (ty := .int) (a0 := (12, .inl z0)) (N' := 12) hx hb (hts (.arrayClass .int) (by decide +kernel)) rfl hK hP hD hS hA0 (fun _ => rfl) (by decide) (by decide) (by decide) (Nat.le_of_ble_eq_true rfl) (Nat.le_of_ble_eq_true rfl) dX0_init_39 (fun q9 cA9 H hK9 hP hD hS => ?_)
  obtain rfl : cI = cA9 := g_ci (hK.2 0 _ rfl).2 (hK9.2 4 _ rfl).2
  clear hK9
  refine W.widen (k := 5) (n := 60) (Nat.le_of_ble_eq_true rfl) (Nat.le_of_ble_eq_true rfl) ?_
  refine g_size (fun hz9 => ?_)
  obtain rfl : q9 = q + 5 := g_pin hD ⟨rfl, rfl, rfl, rfl, rfl, trivial⟩ rfl hP (by omega)
  have hP : va_P D vwCl [(q, .inr (0, [.ref (q + 1), .ref (q + 2), .ref (q + 3), .ref (q + 4), .null, .null, .null, .null, .null, .int 0, .int 0, .int 0, .long 0])), ((q + 1), .inl (cI, 12, .inl z0)), ((q + 2), .inl (cI, 12, .inl z0)), ((q + 3), .inl (cI, 12, .inl z0)), ((q + 4), .inl (cI, 12, .inl z0)), ((q + 5), .inl (cI, 12, .inl z0))] H := hP
  have hD : va_D (gGe q) [(q, .inr (0, [.ref (q + 1), .ref (q + 2), .ref (q + 3), .ref (q + 4), .null, .null, .null, .null, .null, .int 0, .int 0, .int 0, .long 0])), ((q + 1), .inl (cI, 12, .inl z0)), ((q + 2), .inl (cI, 12, .inl z0)), ((q + 3), .inl (cI, 12, .inl z0)), ((q + 4), .inl (cI, 12, .inl z0)), ((q + 5), .inl (cI, 12, .inl z0))] := gOrd_D (A := gGe q) (l := [(q, .inr (0, [.ref (q + 1), .ref (q + 2), .ref (q + 3), .ref (q + 4), .null, .null, .null, .null, .null, .int 0, .int 0, .int 0, .long 0])), ((q + 1), .inl (cI, 12, .inl z0)), ((q + 2), .inl (cI, 12, .inl z0)), ((q + 3), .inl (cI, 12, .inl z0)), ((q + 4), .inl (cI, 12, .inl z0)), ((q + 5), .inl (cI, 12, .inl z0))]) (q := q) ⟨rfl, rfl, rfl, rfl, rfl, rfl, trivial⟩ (fun _ h9 => h9.1)
  refine va_putF (D := D) (ci := 0) (v := .ref (q + 5)) (ty := tyX0 4) (C := RX0) (T := TX0) (N := 13) hx hb hts (by decide +kernel) tyX0 tyX0_ok nmX0 hown hK hP hD hS 0 rfl rfl 4 (by decide) (hts (.fieldLink RX0 24 "GripInspector$Lift" "lastSlip" "[I") (by decide +kernel)) (fun _ h9 => h9) rfl hin rfl (by decide +kernel) rfl rfl (Nat.le_of_ble_eq_true rfl) dX0_init_41 (fun H locs hP hD hS => ?_)
  have hP : va_P D vwCl [(q, .inr (0, [.ref (q + 1), .ref (q + 2), .ref (q + 3), .ref (q + 4), .ref (q + 5), .null, .null, .null, .null, .int 0, .int 0, .int 0, .long 0])), ((q + 1), .inl (cI, 12, .inl z0)), ((q + 2), .inl (cI, 12, .inl z0)), ((q + 3), .inl (cI, 12, .inl z0)), ((q + 4), .inl (cI, 12, .inl z0)), ((q + 5), .inl (cI, 12, .inl z0))] H := hP
  have hD : va_D (gGe q) [(q, .inr (0, [.ref (q + 1), .ref (q + 2), .ref (q + 3), .ref (q + 4), .ref (q + 5), .null, .null, .null, .null, .int 0, .int 0, .int 0, .long 0])), ((q + 1), .inl (cI, 12, .inl z0)), ((q + 2), .inl (cI, 12, .inl z0)), ((q + 3), .inl (cI, 12, .inl z0)), ((q + 4), .inl (cI, 12, .inl z0)), ((q + 5), .inl (cI, 12, .inl z0))] := hD
  refine lv_aload_n hx hb dX0_init_44 rfl (lv_at hl 0 rfl) ?_
  refine lv_bipush (v := 12) hx hb dX0_init_45 (by decide) ?_
  refine va_newa (atype := .int) (ty := .int) (a0 := (12, .inl z0)) (N' := 12) hx hb (hts (.arrayClass .int) (by decide +kernel)) rfl hK hP hD hS hA0 (fun _ => rfl) (by decide) (by decide) (by decide) (Nat.le_of_ble_eq_true rfl) (Nat.le_of_ble_eq_true rfl) dX0_init_47 (fun q9 cA9 H hK9 hP hD hS => ?_)
  obtain rfl : cI = cA9 := g_ci (hK.2 0 _ rfl).2 (hK9.2 4 _ rfl).2
  clear hK9
  refine W.widen (k := 6) (n := 72) (Nat.le_of_ble_eq_true rfl) (Nat.le_of_ble_eq_true rfl) ?_
  refine g_size (fun hz9 => ?_)
  obtain rfl : q9 = q + 6 := g_pin hD ⟨rfl, rfl, rfl, rfl, rfl, rfl, trivial⟩ rfl hP (by omega)
  have hP : va_P D vwCl [(q, .inr (0, [.ref (q + 1), .ref (q + 2), .ref (q + 3), .ref (q + 4), .ref (q + 5), .null, .null, .null, .null, .int 0, .int 0, .int 0, .long 0])), ((q + 1), .inl (cI, 12, .inl z0)), ((q + 2), .inl (cI, 12, .inl z0)), ((q + 3), .inl (cI, 12, .inl z0)), ((q + 4), .inl (cI, 12, .inl z0)), ((q + 5), .inl (cI, 12, .inl z0)), ((q + 6), .inl (cI, 12, .inl z0))] H := hP
  have hD : va_D (gGe q) [(q, .inr (0, [.ref (q + 1), .ref (q + 2), .ref (q + 3), .ref (q + 4), .ref (q + 5), .null, .null, .null, .null, .int 0, .int 0, .int 0, .long 0])), ((q + 1), .inl (cI, 12, .inl z0)), ((q + 2), .inl (cI, 12, .inl z0)), ((q + 3), .inl (cI, 12, .inl z0)), ((q + 4), .inl (cI, 12, .inl z0)), ((q + 5), .inl (cI, 12, .inl z0)), ((q + 6), .inl (cI, 12, .inl z0))] := gOrd_D (A := gGe q) (l := [(q, .inr (0, [.ref (q + 1), .ref (q + 2), .ref (q + 3), .ref (q + 4), .ref (q + 5), .null, .null, .null, .null, .int 0, .int 0, .int 0, .long 0])), ((q + 1), .inl (cI, 12, .inl z0)), ((q + 2), .inl (cI, 12, .inl z0)), ((q + 3), .inl (cI, 12, .inl z0)), ((q + 4), .inl (cI, 12, .inl z0)), ((q + 5), .inl (cI, 12, .inl z0)), ((q + 6), .inl (cI, 12, .inl z0))]) (q := q) ⟨rfl, rfl, rfl, rfl, rfl, rfl, rfl, trivial⟩ (fun _ h9 => h9.1)
  refine va_putF (D := D) (ci := 0) (v := .ref (q + 6)) (ty := tyX0 5) (C := RX0) (T := TX0) (N := 13) hx hb hts (by decide +kernel) tyX0 tyX0_ok nmX0 hown hK hP hD hS 0 rfl rfl 5 (by decide) (hts (.fieldLink RX0 27 "GripInspector$Lift" "place" "[I") (by decide +kernel)) (fun _ h9 => h9) rfl hin rfl (by decide +kernel) rfl rfl (Nat.le_of_ble_eq_true rfl) dX0_init_49 (fun H locs hP hD hS => ?_)
  have hP : va_P D vwCl [(q, .inr (0, [.ref (q + 1), .ref (q + 2), .ref (q + 3), .ref (q + 4), .ref (q + 5), .ref (q + 6), .null, .null, .null, .int 0, .int 0, .int 0, .long 0])), ((q + 1), .inl (cI, 12, .inl z0)), ((q + 2), .inl (cI, 12, .inl z0)), ((q + 3), .inl (cI, 12, .inl z0)), ((q + 4), .inl (cI, 12, .inl z0)), ((q + 5), .inl (cI, 12, .inl z0)), ((q + 6), .inl (cI, 12, .inl z0))] H := hP
  have hD : va_D (gGe q) [(q, .inr (0, [.ref (q + 1), .ref (q + 2), .ref (q + 3), .ref (q + 4), .ref (q + 5), .ref (q + 6), .null, .null, .null, .int 0, .int 0, .int 0, .long 0])), ((q + 1), .inl (cI, 12, .inl z0)), ((q + 2), .inl (cI, 12, .inl z0)), ((q + 3), .inl (cI, 12, .inl z0)), ((q + 4), .inl (cI, 12, .inl z0)), ((q + 5), .inl (cI, 12, .inl z0)), ((q + 6), .inl (cI, 12, .inl z0))] := hD
  refine lv_aload_n hx hb dX0_init_52 rfl (lv_at hl 0 rfl) ?_
  refine lv_bipush (v := 12) hx hb dX0_init_53 (by decide) ?_
  refine va_newa (atype := .int) (ty := .int) (a0 := (12, .inl z0)) (N' := 12) hx hb (hts (.arrayClass .int) (by decide +kernel)) rfl hK hP hD hS hA0 (fun _ => rfl) (by decide) (by decide) (by decide) (Nat.le_of_ble_eq_true rfl) (Nat.le_of_ble_eq_true rfl) dX0_init_55 (fun q9 cA9 H hK9 hP hD hS => ?_)
  obtain rfl : cI = cA9 := g_ci (hK.2 0 _ rfl).2 (hK9.2 4 _ rfl).2
  clear hK9
  refine W.widen (k := 7) (n := 84) (Nat.le_of_ble_eq_true rfl) (Nat.le_of_ble_eq_true rfl) ?_
  refine g_size (fun hz9 => ?_)
  obtain rfl : q9 = q + 7 := g_pin hD ⟨rfl, rfl, rfl, rfl, rfl, rfl, rfl, trivial⟩ rfl hP (by omega)
  have hP : va_P D vwCl [(q, .inr (0, [.ref (q + 1), .ref (q + 2), .ref (q + 3), .ref (q + 4), .ref (q + 5), .ref (q + 6), .null, .null, .null, .int 0, .int 0, .int 0, .long 0])), ((q + 1), .inl (cI, 12, .inl z0)), ((q + 2), .inl (cI, 12, .inl z0)), ((q + 3), .inl (cI, 12, .inl z0)), ((q + 4), .inl (cI, 12, .inl z0)), ((q + 5), .inl (cI, 12, .inl z0)), ((q + 6), .inl (cI, 12, .inl z0)), ((q + 7), .inl (cI, 12, .inl z0))] H := hP
  have hD : va_D (gGe q) [(q, .inr (0, [.ref (q + 1), .ref (q + 2), .ref (q + 3), .ref (q + 4), .ref (q + 5), .ref (q + 6), .null, .null, .null, .int 0, .int 0, .int 0, .long 0])), ((q + 1), .inl (cI, 12, .inl z0)), ((q + 2), .inl (cI, 12, .inl z0)), ((q + 3), .inl (cI, 12, .inl z0)), ((q + 4), .inl (cI, 12, .inl z0)), ((q + 5), .inl (cI, 12, .inl z0)), ((q + 6), .inl (cI, 12, .inl z0)), ((q + 7), .inl (cI, 12, .inl z0))] := gOrd_D (A := gGe q) (l := [(q, .inr (0, [.ref (q + 1), .ref (q + 2), .ref (q + 3), .ref (q + 4), .ref (q + 5), .ref (q + 6), .null, .null, .null, .int 0, .int 0, .int 0, .long 0])), ((q + 1), .inl (cI, 12, .inl z0)), ((q + 2), .inl (cI, 12, .inl z0)), ((q + 3), .inl (cI, 12, .inl z0)), ((q + 4), .inl (cI, 12, .inl z0)), ((q + 5), .inl (cI, 12, .inl z0)), ((q + 6), .inl (cI, 12, .inl z0)), ((q + 7), .inl (cI, 12, .inl z0))]) (q := q) ⟨rfl, rfl, rfl, rfl, rfl, rfl, rfl, rfl, trivial⟩ (fun _ h9 => h9.1)
  refine va_putF (D := D) (ci := 0) (v := .ref (q + 7)) (ty := tyX0 6) (C := RX0) (T := TX0) (N := 13) hx hb hts (by decide +kernel) tyX0 tyX0_ok nmX0 hown hK hP hD hS 0 rfl rfl 6 (by decide) (hts (.fieldLink RX0 30 "GripInspector$Lift" "spot" "[I") (by decide +kernel)) (fun _ h9 => h9) rfl hin rfl (by decide +kernel) rfl rfl (Nat.le_of_ble_eq_true rfl) dX0_init_57 (fun H locs hP hD hS => ?_)
  have hP : va_P D vwCl [(q, .inr (0, [.ref (q + 1), .ref (q + 2), .ref (q + 3), .ref (q + 4), .ref (q + 5), .ref (q + 6), .ref (q + 7), .null, .null, .int 0, .int 0, .int 0, .long 0])), ((q + 1), .inl (cI, 12, .inl z0)), ((q + 2), .inl (cI, 12, .inl z0)), ((q + 3), .inl (cI, 12, .inl z0)), ((q + 4), .inl (cI, 12, .inl z0)), ((q + 5), .inl (cI, 12, .inl z0)), ((q + 6), .inl (cI, 12, .inl z0)), ((q + 7), .inl (cI, 12, .inl z0))] H := hP
  have hD : va_D (gGe q) [(q, .inr (0, [.ref (q + 1), .ref (q + 2), .ref (q + 3), .ref (q + 4), .ref (q + 5), .ref (q + 6), .ref (q + 7), .null, .null, .int 0, .int 0, .int 0, .long 0])), ((q + 1), .inl (cI, 12, .inl z0)), ((q + 2), .inl (cI, 12, .inl z0)), ((q + 3), .inl (cI, 12, .inl z0)), ((q + 4), .inl (cI, 12, .inl z0)), ((q + 5), .inl (cI, 12, .inl z0)), ((q + 6), .inl (cI, 12, .inl z0)), ((q + 7), .inl (cI, 12, .inl z0))] := hD
  refine lv_aload_n hx hb dX0_init_60 rfl (lv_at hl 0 rfl) ?_
  refine lv_bipush (v := 12) hx hb dX0_init_61 (by decide) ?_
  refine va_newa (atype := .int) (ty := .int) (a0 := (12, .inl z0)) (N' := 12) hx hb (hts (.arrayClass .int) (by decide +kernel)) rfl hK hP hD hS hA0 (fun _ => rfl) (by decide) (by decide) (by decide) (Nat.le_of_ble_eq_true rfl) (Nat.le_of_ble_eq_true rfl) dX0_init_63 (fun q9 cA9 H hK9 hP hD hS => ?_)
  obtain rfl : cI = cA9 := g_ci (hK.2 0 _ rfl).2 (hK9.2 4 _ rfl).2
  clear hK9
  refine W.widen (k := 8) (n := 96) (Nat.le_of_ble_eq_true rfl) (Nat.le_of_ble_eq_true rfl) ?_
  refine g_size (fun hz9 => ?_)
  obtain rfl : q9 = q + 8 := g_pin hD ⟨rfl, rfl, rfl, rfl, rfl, rfl, rfl, rfl, trivial⟩ rfl hP (by omega)
  have hP : va_P D vwCl [(q, .inr (0, [.ref (q + 1), .ref (q + 2), .ref (q + 3), .ref (q + 4), .ref (q + 5), .ref (q + 6), .ref (q + 7), .null, .null, .int 0, .int 0, .int 0, .long 0])), ((q + 1), .inl (cI, 12, .inl z0)), ((q + 2), .inl (cI, 12, .inl z0)), ((q + 3), .inl (cI, 12, .inl z0)), ((q + 4), .inl (cI, 12, .inl z0)), ((q + 5), .inl (cI, 12, .inl z0)), ((q + 6), .inl (cI, 12, .inl z0)), ((q + 7), .inl (cI, 12, .inl z0)), ((q + 8), .inl (cI, 12, .inl z0))] H := hP
  have hD : va_D (gGe q) [(q, .inr (0, [.ref (q + 1), .ref (q + 2), .ref (q + 3), .ref (q + 4), .ref (q + 5), .ref (q + 6), .ref (q + 7), .null, .null, .int 0, .int 0, .int 0, .long 0])), ((q + 1), .inl (cI, 12, .inl z0)), ((q + 2), .inl (cI, 12, .inl z0)), ((q + 3), .inl (cI, 12, .inl z0)), ((q + 4), .inl (cI, 12, .inl z0)), ((q + 5), .inl (cI, 12, .inl z0)), ((q + 6), .inl (cI, 12, .inl z0)), ((q + 7), .inl (cI, 12, .inl z0)), ((q + 8), .inl (cI, 12, .inl z0))] := gOrd_D (A := gGe q) (l := [(q, .inr (0, [.ref (q + 1), .ref (q + 2), .ref (q + 3), .ref (q + 4), .ref (q + 5), .ref (q + 6), .ref (q + 7), .null, .null, .int 0, .int 0, .int 0, .long 0])), ((q + 1), .inl (cI, 12, .inl z0)), ((q + 2), .inl (cI, 12, .inl z0)), ((q + 3), .inl (cI, 12, .inl z0)), ((q + 4), .inl (cI, 12, .inl z0)), ((q + 5), .inl (cI, 12, .inl z0)), ((q + 6), .inl (cI, 12, .inl z0)), ((q + 7), .inl (cI, 12, .inl z0)), ((q + 8), .inl (cI, 12, .inl z0))]) (q := q) ⟨rfl, rfl, rfl, rfl, rfl, rfl, rfl, rfl, rfl, trivial⟩ (fun _ h9 => h9.1)
  refine va_putF (D := D) (ci := 0) (v := .ref (q + 8)) (ty := tyX0 7) (C := RX0) (T := TX0) (N := 13) hx hb hts (by decide +kernel) tyX0 tyX0_ok nmX0 hown hK hP hD hS 0 rfl rfl 7 (by decide) (hts (.fieldLink RX0 33 "GripInspector$Lift" "stepsLeft" "[I") (by decide +kernel)) (fun _ h9 => h9) rfl hin rfl (by decide +kernel) rfl rfl (Nat.le_of_ble_eq_true rfl) dX0_init_65 (fun H locs hP hD hS => ?_)
  have hP : va_P D vwCl [(q, .inr (0, [.ref (q + 1), .ref (q + 2), .ref (q + 3), .ref (q + 4), .ref (q + 5), .ref (q + 6), .ref (q + 7), .ref (q + 8), .null, .int 0, .int 0, .int 0, .long 0])), ((q + 1), .inl (cI, 12, .inl z0)), ((q + 2), .inl (cI, 12, .inl z0)), ((q + 3), .inl (cI, 12, .inl z0)), ((q + 4), .inl (cI, 12, .inl z0)), ((q + 5), .inl (cI, 12, .inl z0)), ((q + 6), .inl (cI, 12, .inl z0)), ((q + 7), .inl (cI, 12, .inl z0)), ((q + 8), .inl (cI, 12, .inl z0))] H := hP
  have hD : va_D (gGe q) [(q, .inr (0, [.ref (q + 1), .ref (q + 2), .ref (q + 3), .ref (q + 4), .ref (q + 5), .ref (q + 6), .ref (q + 7), .ref (q + 8), .null, .int 0, .int 0, .int 0, .long 0])), ((q + 1), .inl (cI, 12, .inl z0)), ((q + 2), .inl (cI, 12, .inl z0)), ((q + 3), .inl (cI, 12, .inl z0)), ((q + 4), .inl (cI, 12, .inl z0)), ((q + 5), .inl (cI, 12, .inl z0)), ((q + 6), .inl (cI, 12, .inl z0)), ((q + 7), .inl (cI, 12, .inl z0)), ((q + 8), .inl (cI, 12, .inl z0))] := hD
  refine lv_aload_n hx hb dX0_init_68 rfl (lv_at hl 0 rfl) ?_
  refine lv_iconst (v := 5) hx hb dX0_init_69 (by decide) ?_
  refine va_newa (atype := .int) (ty := .int) (a0 := (5, .inl z0)) (N' := 5) hx hb (hts (.arrayClass .int) (by decide +kernel)) rfl hK hP hD hS hA0 (fun _ => rfl) (by decide) (by decide) (by decide) (Nat.le_of_ble_eq_true rfl) (Nat.le_of_ble_eq_true rfl) dX0_init_70 (fun q9 cA9 H hK9 hP hD hS => ?_)
  obtain rfl : cI = cA9 := g_ci (hK.2 0 _ rfl).2 (hK9.2 4 _ rfl).2
  clear hK9
  refine W.widen (k := 9) (n := 101) (Nat.le_of_ble_eq_true rfl) (Nat.le_of_ble_eq_true rfl) ?_
  refine g_size (fun hz9 => ?_)
  obtain rfl : q9 = q + 9 := g_pin hD ⟨rfl, rfl, rfl, rfl, rfl, rfl, rfl, rfl, rfl, trivial⟩ rfl hP (by omega)
  have hP : va_P D vwCl [(q, .inr (0, [.ref (q + 1), .ref (q + 2), .ref (q + 3), .ref (q + 4), .ref (q + 5), .ref (q + 6), .ref (q + 7), .ref (q + 8), .null, .int 0, .int 0, .int 0, .long 0])), ((q + 1), .inl (cI, 12, .inl z0)), ((q + 2), .inl (cI, 12, .inl z0)), ((q + 3), .inl (cI, 12, .inl z0)), ((q + 4), .inl (cI, 12, .inl z0)), ((q + 5), .inl (cI, 12, .inl z0)), ((q + 6), .inl (cI, 12, .inl z0)), ((q + 7), .inl (cI, 12, .inl z0)), ((q + 8), .inl (cI, 12, .inl z0)), ((q + 9), .inl (cI, 5, .inl z0))] H := hP
  have hD : va_D (gGe q) [(q, .inr (0, [.ref (q + 1), .ref (q + 2), .ref (q + 3), .ref (q + 4), .ref (q + 5), .ref (q + 6), .ref (q + 7), .ref (q + 8), .null, .int 0, .int 0, .int 0, .long 0])), ((q + 1), .inl (cI, 12, .inl z0)), ((q + 2), .inl (cI, 12, .inl z0)), ((q + 3), .inl (cI, 12, .inl z0)), ((q + 4), .inl (cI, 12, .inl z0)), ((q + 5), .inl (cI, 12, .inl z0)), ((q + 6), .inl (cI, 12, .inl z0)), ((q + 7), .inl (cI, 12, .inl z0)), ((q + 8), .inl (cI, 12, .inl z0)), ((q + 9), .inl (cI, 5, .inl z0))] := gOrd_D (A := gGe q) (l := [(q, .inr (0, [.ref (q + 1), .ref (q + 2), .ref (q + 3), .ref (q + 4), .ref (q + 5), .ref (q + 6), .ref (q + 7), .ref (q + 8), .null, .int 0, .int 0, .int 0, .long 0])), ((q + 1), .inl (cI, 12, .inl z0)), ((q + 2), .inl (cI, 12, .inl z0)), ((q + 3), .inl (cI, 12, .inl z0)), ((q + 4), .inl (cI, 12, .inl z0)), ((q + 5), .inl (cI, 12, .inl z0)), ((q + 6), .inl (cI, 12, .inl z0)), ((q + 7), .inl (cI, 12, .inl z0)), ((q + 8), .inl (cI, 12, .inl z0)), ((q + 9), .inl (cI, 5, .inl z0))]) (q := q) ⟨rfl, rfl, rfl, rfl, rfl, rfl, rfl, rfl, rfl, rfl, trivial⟩ (fun _ h9 => h9.1)
  refine va_putF (D := D) (ci := 0) (v := .ref (q + 9)) (ty := tyX0 8) (C := RX0) (T := TX0) (N := 13) hx hb hts (by decide +kernel) tyX0 tyX0_ok nmX0 hown hK hP hD hS 0 rfl rfl 8 (by decide) (hts (.fieldLink RX0 36 "GripInspector$Lift" "limits" "[I") (by decide +kernel)) (fun _ h9 => h9) rfl hin rfl (by decide +kernel) rfl rfl (Nat.le_of_ble_eq_true rfl) dX0_init_72 (fun H locs hP hD hS => ?_)
  have hP : va_P D vwCl [(q, .inr (0, [.ref (q + 1), .ref (q + 2), .ref (q + 3), .ref (q + 4), .ref (q + 5), .ref (q + 6), .ref (q + 7), .ref (q + 8), .ref (q + 9), .int 0, .int 0, .int 0, .long 0])), ((q + 1), .inl (cI, 12, .inl z0)), ((q + 2), .inl (cI, 12, .inl z0)), ((q + 3), .inl (cI, 12, .inl z0)), ((q + 4), .inl (cI, 12, .inl z0)), ((q + 5), .inl (cI, 12, .inl z0)), ((q + 6), .inl (cI, 12, .inl z0)), ((q + 7), .inl (cI, 12, .inl z0)), ((q + 8), .inl (cI, 12, .inl z0)), ((q + 9), .inl (cI, 5, .inl z0))] H := hP
  have hD : va_D (gGe q) [(q, .inr (0, [.ref (q + 1), .ref (q + 2), .ref (q + 3), .ref (q + 4), .ref (q + 5), .ref (q + 6), .ref (q + 7), .ref (q + 8), .ref (q + 9), .int 0, .int 0, .int 0, .long 0])), ((q + 1), .inl (cI, 12, .inl z0)), ((q + 2), .inl (cI, 12, .inl z0)), ((q + 3), .inl (cI, 12, .inl z0)), ((q + 4), .inl (cI, 12, .inl z0)), ((q + 5), .inl (cI, 12, .inl z0)), ((q + 6), .inl (cI, 12, .inl z0)), ((q + 7), .inl (cI, 12, .inl z0)), ((q + 8), .inl (cI, 12, .inl z0)), ((q + 9), .inl (cI, 5, .inl z0))] := hD
  have hP : va_P D vwCl (LW cI q (z0, z0, z0, z0, z0, z0, z0, z0, z0, 0, 0, 0, 0)) H := hP
  refine lv_aload_n hx hb dX0_init_75 rfl (lv_at hl 0 rfl) ?_
  obtain ⟨r76, hr76, h⟩ := bd_some h
  refine gc_wv (As := []) (rest := []) ⟨hx, hb, hml, hown, hts⟩ hK (kX0_clear l D cI cC cZ cQ cJ q (z0, z0, z0, z0, z0, z0, z0, z0, z0, 0, 0, 0, 0) hr76) (cwV 0 hts gX0_init_X0_clear rfl rfl rfl (by decide +kernel) ⟨Nat.le_of_ble_eq_true rfl, Nat.le_of_ble_eq_true rfl⟩) (va_recv hK hP (ci := 0) (q0 := 0) rfl rfl) hP hS (fun _ h => h.1) rfl hl.1 rfl (Nat.le_of_ble_eq_true rfl) ⟨Nat.le_of_ble_eq_true rfl, Nat.le_of_ble_eq_true rfl⟩ dX0_init_76 (fun H locs hP hS _ _ => ?_)
  refine lv_aload_n hx hb dX0_init_79 rfl (lv_at hl 0 rfl) ?_
  refine lv_bipush (v := 8) hx hb dX0_init_80 (by decide) ?_
  refine va_put (D := D) (ci := 0) (v := .int 8) (ty := .int) (C := RX0) (T := TX0) (N := 13) hx hb hts hinX0 tyX0 tyX0_ok nmX0 hown hK hP (LW_D (A := gGe q) (fun _ h9 => h9.1)) hS 0 rfl rfl 9 (by decide) hf42 (fun _ h9 => h9) rfl (by decide +kernel) rfl rfl (Nat.le_of_ble_eq_true rfl) dX0_init_82 (fun H locs hP _ hS => ?_)
  have hP : va_P D vwCl (LW cI q ((lWe r76), (lCy r76), (lWr r76), (lPu r76), (lSl r76), (lPl r76), (lSp r76), (lSt r76), (lLi r76), 8, (lStn r76), (lClk r76), (lRnd r76))) H := hP
  refine lv_aload_n hx hb dX0_init_85 rfl (lv_at hl 0 rfl) ?_
  refine va_get (D := D) (ci := 0) (v := .ref (q + 9)) (C := RX0) (T := TX0) (N := 13) hx hb hts hinX0 hown hK hP 0 rfl rfl 8 (by decide) hf36 (fun _ h9 => h9) rfl dX0_init_86 ?_
  refine lv_iconst (v := 0) hx hb dX0_init_89 (by decide) ?_
  refine lv_bipush (v := 10) hx hb dX0_init_90 (by decide) ?_
  refine g_iast (f := (lLi r76)) (k := 0) hx hb hK hP (LW_D (A := gGe q) (fun _ h9 => h9.1)) hS 9 0 rfl rfl (vin_lit rfl) rfl dX0_init_92 (fun H locs hP hS => ?_)
  have hP : va_P D vwCl (LW cI q ((lWe r76), (lCy r76), (lWr r76), (lPu r76), (lSl r76), (lPl r76), (lSp r76), (lSt r76), (upd (lLi r76) 0 10), 8, (lStn r76), (lClk r76), (lRnd r76))) H := hP
  refine lv_aload_n hx hb dX0_init_93 rfl (lv_at hl 0 rfl) ?_
  refine va_get (D := D) (ci := 0) (v := .ref (q + 9)) (C := RX0) (T := TX0) (N := 13) hx hb hts hinX0 hown hK hP 0 rfl rfl 8 (by decide) hf36 (fun _ h9 => h9) rfl dX0_init_94 ?_
  refine lv_iconst (v := 1) hx hb dX0_init_97 (by decide) ?_
  refine lv_bipush (v := 20) hx hb dX0_init_98 (by decide) ?_
  refine g_iast (f := (upd (lLi r76) 0 10)) (k := 1) hx hb hK hP (LW_D (A := gGe q) (fun _ h9 => h9.1)) hS 9 0 rfl rfl (vin_lit rfl) rfl dX0_init_100 (fun H locs hP hS => ?_)
  have hP : va_P D vwCl (LW cI q ((lWe r76), (lCy r76), (lWr r76), (lPu r76), (lSl r76), (lPl r76), (lSp r76), (lSt r76), (upd (upd (lLi r76) 0 10) 1 20), 8, (lStn r76), (lClk r76), (lRnd r76))) H := hP
  refine lv_aload_n hx hb dX0_init_101 rfl (lv_at hl 0 rfl) ?_
  refine va_get (D := D) (ci := 0) (v := .ref (q + 9)) (C := RX0) (T := TX0) (N := 13) hx hb hts hinX0 hown hK hP 0 rfl rfl 8 (by decide) hf36 (fun _ h9 => h9) rfl dX0_init_102 ?_
  refine lv_iconst (v := 2) hx hb dX0_init_105 (by decide) ?_
  refine lv_iconst (v := 4) hx hb dX0_init_106 (by decide) ?_
  refine g_iast (f := (upd (upd (lLi r76) 0 10) 1 20)) (k := 2) hx hb hK hP (LW_D (A := gGe q) (fun _ h9 => h9.1)) hS 9 0 rfl rfl (vin_lit rfl) rfl dX0_init_107 (fun H locs hP hS => ?_)
  have hP : va_P D vwCl (LW cI q ((lWe r76), (lCy r76), (lWr r76), (lPu r76), (lSl r76), (lPl r76), (lSp r76), (lSt r76), (upd (upd (upd (lLi r76) 0 10) 1 20) 2 4), 8, (lStn r76), (lClk r76), (lRnd r76))) H := hP
  refine lv_aload_n hx hb dX0_init_108 rfl (lv_at hl 0 rfl) ?_
  refine va_get (D := D) (ci := 0) (v := .ref (q + 9)) (C := RX0) (T := TX0) (N := 13) hx hb hts hinX0 hown hK hP 0 rfl rfl 8 (by decide) hf36 (fun _ h9 => h9) rfl dX0_init_109 ?_
  refine lv_iconst (v := 3) hx hb dX0_init_112 (by decide) ?_
  refine lv_iconst (v := 2) hx hb dX0_init_113 (by decide) ?_
  refine g_iast (f := (upd (upd (upd (lLi r76) 0 10) 1 20) 2 4)) (k := 3) hx hb hK hP (LW_D (A := gGe q) (fun _ h9 => h9.1)) hS 9 0 rfl rfl (vin_lit rfl) rfl dX0_init_114 (fun H locs hP hS => ?_)
  have hP : va_P D vwCl (LW cI q ((lWe r76), (lCy r76), (lWr r76), (lPu r76), (lSl r76), (lPl r76), (lSp r76), (lSt r76), (upd (upd (upd (upd (lLi r76) 0 10) 1 20) 2 4) 3 2), 8, (lStn r76), (lClk r76), (lRnd r76))) H := hP
  refine lv_aload_n hx hb dX0_init_115 rfl (lv_at hl 0 rfl) ?_
  refine va_get (D := D) (ci := 0) (v := .ref (q + 9)) (C := RX0) (T := TX0) (N := 13) hx hb hts hinX0 hown hK hP 0 rfl rfl 8 (by decide) hf36 (fun _ h9 => h9) rfl dX0_init_116 ?_
  refine lv_iconst (v := 4) hx hb dX0_init_119 (by decide) ?_
  refine lv_iconst (v := 3) hx hb dX0_init_120 (by decide) ?_
  refine g_iast (f := (upd (upd (upd (upd (lLi r76) 0 10) 1 20) 2 4) 3 2)) (k := 4) hx hb hK hP (LW_D (A := gGe q) (fun _ h9 => h9.1)) hS 9 0 rfl rfl (vin_lit rfl) rfl dX0_init_121 (fun H locs hP hS => ?_)
  have hP : va_P D vwCl (LW cI q ((lWe r76), (lCy r76), (lWr r76), (lPu r76), (lSl r76), (lPl r76), (lSp r76), (lSt r76), (upd (upd (upd (upd (upd (lLi r76) 0 10) 1 20) 2 4) 3 2) 4 3), 8, (lStn r76), (lClk r76), (lRnd r76))) H := hP
  have h := Option.some.inj h
  subst h
  refine g_size (fun hz9 => ?_)
  have hz8 : q + 9 < H.size := (hP 9 _ rfl).lt
  exact W.vret hx hb hr9 (fun t ht hW => ⟨⟨(), rfl, trivial, gHB (B := fun H => H.size = q + 10 ∧ va_P D vwCl (LW cI q _) H) ht ⟨by omega, hP⟩⟩, hS.F ht⟩) hS.2.2 dX0_init_122

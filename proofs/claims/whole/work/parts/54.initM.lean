set_option maxHeartbeats 8000000 in
set_option maxRecDepth 100000 in
theorem kX5_init (l : Launch) (D : va_G) (cI cC cZ cQ cJ : ClassId) (q : Nat) {R : MSt} (h : fX5_init = some R) : Met l yX5_init wsX5_init ({ frames := 1, cells := 9, slots := 2160, locals := 12 } : Room) (va_Pc [.ref q] (gB D (gTy cI cC cZ cQ cJ) (fun H => H.size = q + 1 ∧ va_P D vwCl [(q, .inr (5, [.int 0, .null, .int 0, .int 0, .int 0, .null, .int 0, .null, .null, .null, .int 0, .null, .null, .null, .null]))] H))) (va_Qv (fun _ : Unit => True) (fun _ t => t.heap.size = q + 10 ∧ va_P D vwCl (MW cI cZ q R) t.heap) (gGe q)) 9 2160 (gGe q) := by
  refine Met.ofW (cc := cX5_init) (maxL := 1) (ret := none) (by decide) rfl ?_
  intro p e s m args below meth c s₁ B hml hv
  obtain ⟨rfl, ⟨hsz, hP⟩, hK⟩ := hv
  have hx := B.exec
  have hb := B.bytes
  have hr9 := B.returns
  have hts := atoms_spec (ws := wsX5_init) B.pre
  have hown : s.vm.findClass RX5 = some m.cls := findClass_of_methodNamed B.named
  have hlocks := B.notSynchronized
  have hin : meth.name = "<init>" := (name_of_methodNamed B.named B.method).1
  have hA0 : ∀ a : Nat, s.heap.size ≤ a → gGe q a := fun a h => by show q ≤ a; omega
  have hl := lv_entry ([.ref q]) (n := 1) (Nat.le_of_ble_eq_true rfl)
  rw [lg_entry_eq]
  generalize (lg_sl ([.ref q]) ++ List.replicate (1 - (lg_sl ([.ref q])).length) Slot.unset).toArray = ls at hl ⊢
  have hl : lv_has ls 1 [(0, .ref q)] := hl
  have hS : va_S (gGe q) s.heap s.heap [] := va_S.rf
  have hD : va_D (gGe q) [(q, .inr (5, [.int 0, .null, .int 0, .int 0, .int 0, .null, .int 0, .null, .null, .null, .int 0, .null, .null, .null, .null]))] := gOrd_D (A := gGe q) (l := [(q, .inr (5, [.int 0, .null, .int 0, .int 0, .int 0, .null, .int 0, .null, .null, .null, .int 0, .null, .null, .null, .null]))]) (q := q) ⟨rfl, trivial⟩ (fun _ h9 => h9.1)
  obtain ⟨H, hH⟩ : ∃ H, H = s.heap := ⟨_, rfl⟩
  obtain ⟨locs, hlz⟩ : ∃ z : List Loc, z = [] := ⟨_, rfl⟩
  have hP : va_P D vwCl [(q, .inr (5, [.int 0, .null, .int 0, .int 0, .int 0, .null, .int 0, .null, .null, .null, .int 0, .null, .null, .null, .null]))] H := by rw [hH]; exact hP
  have hS : va_S (gGe q) s.heap H locs := by rw [hH, hlz]; exact hS
  refine gc_at hH hlz ?_
  have hinX5 : ∀ w ∈ wsX50, w ∈ wsX5_init := by decide +kernel
  have hf38 := hts (.fieldLink RX5 38 "GripInspectorModel" "n" "I") (by decide +kernel)
  have hf16 := hts (.fieldLink RX5 16 "GripInspectorModel" "now" "[I") (by decide +kernel)
  unfold fX5_init at h
  refine lv_aload_n hx hb dX5_init_0 rfl (lv_at hl 0 rfl) ?_
  refine W.objInit hx hb hown (hts (.methodLink RX5 1 objectInit) (by decide +kernel)) (hts (.instanceMethod objectInit) (by decide +kernel)) (hts (.code objectInit ⟨#[0xb1]⟩ 1 none) (by decide +kernel)) rfl (by rw [hml]; exact hl.1) rfl dX5_init_1 (Nat.le_of_ble_eq_true rfl) (Nat.le_of_ble_eq_true rfl) ?_
  refine W.eq (g2 := F0 m 4 ls []) rfl ?_
  refine lv_aload_n hx hb dX5_init_4 rfl (lv_at hl 0 rfl) ?_
  refine lv_bipush (v := 60) hx hb dX5_init_5 (by decide) ?_
  refine va_newa (atype := .int) (ty := .int) (a0 := (60, .inl z0)) (N' := 60) hx hb (hts (.arrayClass .int) (by decide +kernel)) rfl hK hP hD hS hA0 (fun _ => rfl) (by decide) (by decide) (by decide) (Nat.le_of_ble_eq_true rfl) (Nat.le_of_ble_eq_true rfl) dX5_init_7 (fun q9 cA9 H hK9 hP hD hS => ?_)
  obtain rfl : cI = cA9 := g_ci (hK.2 0 _ rfl).2 (hK9.2 5 _ rfl).2
  clear hK9
  refine W.widen (k := 1) (n := 60) (Nat.le_of_ble_eq_true rfl) (Nat.le_of_ble_eq_true rfl) ?_
  refine g_size (fun hz9 => ?_)
  obtain rfl : q9 = q + 1 := g_pin hD ⟨rfl, trivial⟩ rfl hP (by omega)
  have hP : va_P D vwCl [(q, .inr (5, [.int 0, .null, .int 0, .int 0, .int 0, .null, .int 0, .null, .null, .null, .int 0, .null, .null, .null, .null])), ((q + 1), .inl (cI, 60, .inl z0))] H := hP
  have hD : va_D (gGe q) [(q, .inr (5, [.int 0, .null, .int 0, .int 0, .int 0, .null, .int 0, .null, .null, .null, .int 0, .null, .null, .null, .null])), ((q + 1), .inl (cI, 60, .inl z0))] := gOrd_D (A := gGe q) (l := [(q, .inr (5, [.int 0, .null, .int 0, .int 0, .int 0, .null, .int 0, .null, .null, .null, .int 0, .null, .null, .null, .null])), ((q + 1), .inl (cI, 60, .inl z0))]) (q := q) ⟨rfl, rfl, trivial⟩ (fun _ h9 => h9.1)
  refine va_putF (D := D) (ci := 5) (v := .ref (q + 1)) (ty := tyX5 1) (C := RX5) (T := TX5) (N := 15) hx hb hts (by decide +kernel) tyX5 tyX5_ok nmX5 hown hK hP hD hS 0 rfl rfl 1 (by decide) (hts (.fieldLink RX5 7 "GripInspectorModel" "script" "[I") (by decide +kernel)) (fun _ h9 => h9) rfl hin rfl (by decide +kernel) rfl rfl (Nat.le_of_ble_eq_true rfl) dX5_init_9 (fun H locs hP hD hS => ?_)
  have hP : va_P D vwCl [(q, .inr (5, [.int 0, .ref (q + 1), .int 0, .int 0, .int 0, .null, .int 0, .null, .null, .null, .int 0, .null, .null, .null, .null])), ((q + 1), .inl (cI, 60, .inl z0))] H := hP
  have hD : va_D (gGe q) [(q, .inr (5, [.int 0, .ref (q + 1), .int 0, .int 0, .int 0, .null, .int 0, .null, .null, .null, .int 0, .null, .null, .null, .null])), ((q + 1), .inl (cI, 60, .inl z0))] := hD
  refine lv_aload_n hx hb dX5_init_12 rfl (lv_at hl 0 rfl) ?_
  refine lv_bipush (v := 106) hx hb dX5_init_13 (by decide) ?_
  refine va_newa (atype := .int) (ty := .int) (a0 := (106, .inl z0)) (N' := 106) hx hb (hts (.arrayClass .int) (by decide +kernel)) rfl hK hP hD hS hA0 (fun _ => rfl) (by decide) (by decide) (by decide) (Nat.le_of_ble_eq_true rfl) (Nat.le_of_ble_eq_true rfl) dX5_init_15 (fun q9 cA9 H hK9 hP hD hS => ?_)
  obtain rfl : cI = cA9 := g_ci (hK.2 0 _ rfl).2 (hK9.2 5 _ rfl).2
  clear hK9
  refine W.widen (k := 2) (n := 166) (Nat.le_of_ble_eq_true rfl) (Nat.le_of_ble_eq_true rfl) ?_
  refine g_size (fun hz9 => ?_)
  obtain rfl : q9 = q + 2 := g_pin hD ⟨rfl, rfl, trivial⟩ rfl hP (by omega)
  have hP : va_P D vwCl [(q, .inr (5, [.int 0, .ref (q + 1), .int 0, .int 0, .int 0, .null, .int 0, .null, .null, .null, .int 0, .null, .null, .null, .null])), ((q + 1), .inl (cI, 60, .inl z0)), ((q + 2), .inl (cI, 106, .inl z0))] H := hP
  have hD : va_D (gGe q) [(q, .inr (5, [.int 0, .ref (q + 1), .int 0, .int 0, .int 0, .null, .int 0, .null, .null, .null, .int 0, .null, .null, .null, .null])), ((q + 1), .inl (cI, 60, .inl z0)), ((q + 2), .inl (cI, 106, .inl z0))] := gOrd_D (A := gGe q) (l := [(q, .inr (5, [.int 0, .ref (q + 1), .int 0, .int 0, .int 0, .null, .int 0, .null, .null, .null, .int 0, .null, .null, .null, .null])), ((q + 1), .inl (cI, 60, .inl z0)), ((q + 2), .inl (cI, 106, .inl z0))]) (q := q) ⟨rfl, rfl, rfl, trivial⟩ (fun _ h9 => h9.1)
  refine va_putF (D := D) (ci := 5) (v := .ref (q + 2)) (ty := tyX5 5) (C := RX5) (T := TX5) (N := 15) hx hb hts (by decide +kernel) tyX5 tyX5_ok nmX5 hown hK hP hD hS 0 rfl rfl 5 (by decide) (hts (.fieldLink RX5 13 "GripInspectorModel" "readRow" "[I") (by decide +kernel)) (fun _ h9 => h9) rfl hin rfl (by decide +kernel) rfl rfl (Nat.le_of_ble_eq_true rfl) dX5_init_17 (fun H locs hP hD hS => ?_)
  have hP : va_P D vwCl [(q, .inr (5, [.int 0, .ref (q + 1), .int 0, .int 0, .int 0, .ref (q + 2), .int 0, .null, .null, .null, .int 0, .null, .null, .null, .null])), ((q + 1), .inl (cI, 60, .inl z0)), ((q + 2), .inl (cI, 106, .inl z0))] H := hP
  have hD : va_D (gGe q) [(q, .inr (5, [.int 0, .ref (q + 1), .int 0, .int 0, .int 0, .ref (q + 2), .int 0, .null, .null, .null, .int 0, .null, .null, .null, .null])), ((q + 1), .inl (cI, 60, .inl z0)), ((q + 2), .inl (cI, 106, .inl z0))] := hD
  refine lv_aload_n hx hb dX5_init_20 rfl (lv_at hl 0 rfl) ?_
  refine lv_bipush (v := 106) hx hb dX5_init_21 (by decide) ?_
  refine va_newa (atype := .int) (ty := .int) (a0 := (106, .inl z0)) (N' := 106) hx hb (hts (.arrayClass .int) (by decide +kernel)) rfl hK hP hD hS hA0 (fun _ => rfl) (by decide) (by decide) (by decide) (Nat.le_of_ble_eq_true rfl) (Nat.le_of_ble_eq_true rfl) dX5_init_23 (fun q9 cA9 H hK9 hP hD hS => ?_)
  obtain rfl : cI = cA9 := g_ci (hK.2 0 _ rfl).2 (hK9.2 5 _ rfl).2
  clear hK9
  refine W.widen (k := 3) (n := 272) (Nat.le_of_ble_eq_true rfl) (Nat.le_of_ble_eq_true rfl) ?_
  refine g_size (fun hz9 => ?_)
  obtain rfl : q9 = q + 3 := g_pin hD ⟨rfl, rfl, rfl, trivial⟩ rfl hP (by omega)
  have hP : va_P D vwCl [(q, .inr (5, [.int 0, .ref (q + 1), .int 0, .int 0, .int 0, .ref (q + 2), .int 0, .null, .null, .null, .int 0, .null, .null, .null, .null])), ((q + 1), .inl (cI, 60, .inl z0)), ((q + 2), .inl (cI, 106, .inl z0)), ((q + 3), .inl (cI, 106, .inl z0))] H := hP
  have hD : va_D (gGe q) [(q, .inr (5, [.int 0, .ref (q + 1), .int 0, .int 0, .int 0, .ref (q + 2), .int 0, .null, .null, .null, .int 0, .null, .null, .null, .null])), ((q + 1), .inl (cI, 60, .inl z0)), ((q + 2), .inl (cI, 106, .inl z0)), ((q + 3), .inl (cI, 106, .inl z0))] := gOrd_D (A := gGe q) (l := [(q, .inr (5, [.int 0, .ref (q + 1), .int 0, .int 0, .int 0, .ref (q + 2), .int 0, .null, .null, .null, .int 0, .null, .null, .null, .null])), ((q + 1), .inl (cI, 60, .inl z0)), ((q + 2), .inl (cI, 106, .inl z0)), ((q + 3), .inl (cI, 106, .inl z0))]) (q := q) ⟨rfl, rfl, rfl, rfl, trivial⟩ (fun _ h9 => h9.1)
  refine va_putF (D := D) (ci := 5) (v := .ref (q + 3)) (ty := tyX5 7) (C := RX5) (T := TX5) (N := 15) hx hb hts (by decide +kernel) tyX5 tyX5_ok nmX5 hown hK hP hD hS 0 rfl rfl 7 (by decide) (hts (.fieldLink RX5 16 "GripInspectorModel" "now" "[I") (by decide +kernel)) (fun _ h9 => h9) rfl hin rfl (by decide +kernel) rfl rfl (Nat.le_of_ble_eq_true rfl) dX5_init_25 (fun H locs hP hD hS => ?_)
  have hP : va_P D vwCl [(q, .inr (5, [.int 0, .ref (q + 1), .int 0, .int 0, .int 0, .ref (q + 2), .int 0, .ref (q + 3), .null, .null, .int 0, .null, .null, .null, .null])), ((q + 1), .inl (cI, 60, .inl z0)), ((q + 2), .inl (cI, 106, .inl z0)), ((q + 3), .inl (cI, 106, .inl z0))] H := hP
  have hD : va_D (gGe q) [(q, .inr (5, [.int 0, .ref (q + 1), .int 0, .int 0, .int 0, .ref (q + 2), .int 0, .ref (q + 3), .null, .null, .int 0, .null, .null, .null, .null])), ((q + 1), .inl (cI, 60, .inl z0)), ((q + 2), .inl (cI, 106, .inl z0)), ((q + 3), .inl (cI, 106, .inl z0))] := hD
  refine lv_aload_n hx hb dX5_init_28 rfl (lv_at hl 0 rfl) ?_
  refine lv_bipush (v := 106) hx hb dX5_init_29 (by decide) ?_
  refine va_newa (atype := .int) (ty := .int) (a0 := (106, .inl z0)) (N' := 106) hx hb (hts (.arrayClass .int) (by decide +kernel)) rfl hK hP hD hS hA0 (fun _ => rfl) (by decide) (by decide) (by decide) (Nat.le_of_ble_eq_true rfl) (Nat.le_of_ble_eq_true rfl) dX5_init_31 (fun q9 cA9 H hK9 hP hD hS => ?_)
  obtain rfl : cI = cA9 := g_ci (hK.2 0 _ rfl).2 (hK9.2 5 _ rfl).2
  clear hK9
  refine W.widen (k := 4) (n := 378) (Nat.le_of_ble_eq_true rfl) (Nat.le_of_ble_eq_true rfl) ?_
  refine g_size (fun hz9 => ?_)
  obtain rfl : q9 = q + 4 := g_pin hD ⟨rfl, rfl, rfl, rfl, trivial⟩ rfl hP (by omega)
  have hP : va_P D vwCl [(q, .inr (5, [.int 0, .ref (q + 1), .int 0, .int 0, .int 0, .ref (q + 2), .int 0, .ref (q + 3), .null, .null, .int 0, .null, .null, .null, .null])), ((q + 1), .inl (cI, 60, .inl z0)), ((q + 2), .inl (cI, 106, .inl z0)), ((q + 3), .inl (cI, 106, .inl z0)), ((q + 4), .inl (cI, 106, .inl z0))] H := hP
  have hD : va_D (gGe q) [(q, .inr (5, [.int 0, .ref (q + 1), .int 0, .int 0, .int 0, .ref (q + 2), .int 0, .ref (q + 3), .null, .null, .int 0, .null, .null, .null, .null])), ((q + 1), .inl (cI, 60, .inl z0)), ((q + 2), .inl (cI, 106, .inl z0)), ((q + 3), .inl (cI, 106, .inl z0)), ((q + 4), .inl (cI, 106, .inl z0))] := gOrd_D (A := gGe q) (l := [(q, .inr (5, [.int 0, .ref (q + 1), .int 0, .int 0, .int 0, .ref (q + 2), .int 0, .ref (q + 3), .null, .null, .int 0, .null, .null, .null, .null])), ((q + 1), .inl (cI, 60, .inl z0)), ((q + 2), .inl (cI, 106, .inl z0)), ((q + 3), .inl (cI, 106, .inl z0)), ((q + 4), .inl (cI, 106, .inl z0))]) (q := q) ⟨rfl, rfl, rfl, rfl, rfl, trivial⟩ (fun _ h9 => h9.1)
  refine va_putF (D := D) (ci := 5) (v := .ref (q + 4)) (ty := tyX5 8) (C := RX5) (T := TX5) (N := 15) hx hb hts (by decide +kernel) tyX5 tyX5_ok nmX5 hown hK hP hD hS 0 rfl rfl 8 (by decide) (hts (.fieldLink RX5 19 "GripInspectorModel" "trial" "[I") (by decide +kernel)) (fun _ h9 => h9) rfl hin rfl (by decide +kernel) rfl rfl (Nat.le_of_ble_eq_true rfl) dX5_init_33 (fun H locs hP hD hS => ?_)
  have hP : va_P D vwCl [(q, .inr (5, [.int 0, .ref (q + 1), .int 0, .int 0, .int 0, .ref (q + 2), .int 0, .ref (q + 3), .ref (q + 4), .null, .int 0, .null, .null, .null, .null])), ((q + 1), .inl (cI, 60, .inl z0)), ((q + 2), .inl (cI, 106, .inl z0)), ((q + 3), .inl (cI, 106, .inl z0)), ((q + 4), .inl (cI, 106, .inl z0))] H := hP
  have hD : va_D (gGe q) [(q, .inr (5, [.int 0, .ref (q + 1), .int 0, .int 0, .int 0, .ref (q + 2), .int 0, .ref (q + 3), .ref (q + 4), .null, .int 0, .null, .null, .null, .null])), ((q + 1), .inl (cI, 60, .inl z0)), ((q + 2), .inl (cI, 106, .inl z0)), ((q + 3), .inl (cI, 106, .inl z0)), ((q + 4), .inl (cI, 106, .inl z0))] := hD
  refine lv_aload_n hx hb dX5_init_36 rfl (lv_at hl 0 rfl) ?_
  refine lv_sipush (v := 1484) hx hb dX5_init_37 (by decide) ?_
  refine va_newa (atype := .int) (ty := .int) (a0 := (1484, .inl z0)) (N' := 1484) hx hb (hts (.arrayClass .int) (by decide +kernel)) rfl hK hP hD hS hA0 (fun _ => rfl) (by decide) (by decide) (by decide) (Nat.le_of_ble_eq_true rfl) (Nat.le_of_ble_eq_true rfl) dX5_init_40 (fun q9 cA9 H hK9 hP hD hS => ?_)
  obtain rfl : cI = cA9 := g_ci (hK.2 0 _ rfl).2 (hK9.2 5 _ rfl).2
  clear hK9
  refine W.widen (k := 5) (n := 1862) (Nat.le_of_ble_eq_true rfl) (Nat.le_of_ble_eq_true rfl) ?_
  refine g_size (fun hz9 => ?_)
  obtain rfl : q9 = q + 5 := g_pin hD ⟨rfl, rfl, rfl, rfl, rfl, trivial⟩ rfl hP (by omega)
  have hP : va_P D vwCl [(q, .inr (5, [.int 0, .ref (q + 1), .int 0, .int 0, .int 0, .ref (q + 2), .int 0, .ref (q + 3), .ref (q + 4), .null, .int 0, .null, .null, .null, .null])), ((q + 1), .inl (cI, 60, .inl z0)), ((q + 2), .inl (cI, 106, .inl z0)), ((q + 3), .inl (cI, 106, .inl z0)), ((q + 4), .inl (cI, 106, .inl z0)), ((q + 5), .inl (cI, 1484, .inl z0))] H := hP
  have hD : va_D (gGe q) [(q, .inr (5, [.int 0, .ref (q + 1), .int 0, .int 0, .int 0, .ref (q + 2), .int 0, .ref (q + 3), .ref (q + 4), .null, .int 0, .null, .null, .null, .null])), ((q + 1), .inl (cI, 60, .inl z0)), ((q + 2), .inl (cI, 106, .inl z0)), ((q + 3), .inl (cI, 106, .inl z0)), ((q + 4), .inl (cI, 106, .inl z0)), ((q + 5), .inl (cI, 1484, .inl z0))] := gOrd_D (A := gGe q) (l := [(q, .inr (5, [.int 0, .ref (q + 1), .int 0, .int 0, .int 0, .ref (q + 2), .int 0, .ref (q + 3), .ref (q + 4), .null, .int 0, .null, .null, .null, .null])), ((q + 1), .inl (cI, 60, .inl z0)), ((q + 2), .inl (cI, 106, .inl z0)), ((q + 3), .inl (cI, 106, .inl z0)), ((q + 4), .inl (cI, 106, .inl z0)), ((q + 5), .inl (cI, 1484, .inl z0))]) (q := q) ⟨rfl, rfl, rfl, rfl, rfl, rfl, trivial⟩ (fun _ h9 => h9.1)
  refine va_putF (D := D) (ci := 5) (v := .ref (q + 5)) (ty := tyX5 9) (C := RX5) (T := TX5) (N := 15) hx hb hts (by decide +kernel) tyX5 tyX5_ok nmX5 hown hK hP hD hS 0 rfl rfl 9 (by decide) (hts (.fieldLink RX5 22 "GripInspectorModel" "diary" "[I") (by decide +kernel)) (fun _ h9 => h9) rfl hin rfl (by decide +kernel) rfl rfl (Nat.le_of_ble_eq_true rfl) dX5_init_42 (fun H locs hP hD hS => ?_)
  have hP : va_P D vwCl [(q, .inr (5, [.int 0, .ref (q + 1), .int 0, .int 0, .int 0, .ref (q + 2), .int 0, .ref (q + 3), .ref (q + 4), .ref (q + 5), .int 0, .null, .null, .null, .null])), ((q + 1), .inl (cI, 60, .inl z0)), ((q + 2), .inl (cI, 106, .inl z0)), ((q + 3), .inl (cI, 106, .inl z0)), ((q + 4), .inl (cI, 106, .inl z0)), ((q + 5), .inl (cI, 1484, .inl z0))] H := hP
  have hD : va_D (gGe q) [(q, .inr (5, [.int 0, .ref (q + 1), .int 0, .int 0, .int 0, .ref (q + 2), .int 0, .ref (q + 3), .ref (q + 4), .ref (q + 5), .int 0, .null, .null, .null, .null])), ((q + 1), .inl (cI, 60, .inl z0)), ((q + 2), .inl (cI, 106, .inl z0)), ((q + 3), .inl (cI, 106, .inl z0)), ((q + 4), .inl (cI, 106, .inl z0)), ((q + 5), .inl (cI, 1484, .inl z0))] := hD
  refine lv_aload_n hx hb dX5_init_45 rfl (lv_at hl 0 rfl) ?_
  refine lv_sipush (v := 212) hx hb dX5_init_46 (by decide) ?_
  refine va_newa (atype := .int) (ty := .int) (a0 := (212, .inl z0)) (N' := 212) hx hb (hts (.arrayClass .int) (by decide +kernel)) rfl hK hP hD hS hA0 (fun _ => rfl) (by decide) (by decide) (by decide) (Nat.le_of_ble_eq_true rfl) (Nat.le_of_ble_eq_true rfl) dX5_init_49 (fun q9 cA9 H hK9 hP hD hS => ?_)
  obtain rfl : cI = cA9 := g_ci (hK.2 0 _ rfl).2 (hK9.2 5 _ rfl).2
  clear hK9
  refine W.widen (k := 6) (n := 2074) (Nat.le_of_ble_eq_true rfl) (Nat.le_of_ble_eq_true rfl) ?_
  refine g_size (fun hz9 => ?_)
  obtain rfl : q9 = q + 6 := g_pin hD ⟨rfl, rfl, rfl, rfl, rfl, rfl, trivial⟩ rfl hP (by omega)
  have hP : va_P D vwCl [(q, .inr (5, [.int 0, .ref (q + 1), .int 0, .int 0, .int 0, .ref (q + 2), .int 0, .ref (q + 3), .ref (q + 4), .ref (q + 5), .int 0, .null, .null, .null, .null])), ((q + 1), .inl (cI, 60, .inl z0)), ((q + 2), .inl (cI, 106, .inl z0)), ((q + 3), .inl (cI, 106, .inl z0)), ((q + 4), .inl (cI, 106, .inl z0)), ((q + 5), .inl (cI, 1484, .inl z0)), ((q + 6), .inl (cI, 212, .inl z0))] H := hP
  have hD : va_D (gGe q) [(q, .inr (5, [.int 0, .ref (q + 1), .int 0, .int 0, .int 0, .ref (q + 2), .int 0, .ref (q + 3), .ref (q + 4), .ref (q + 5), .int 0, .null, .null, .null, .null])), ((q + 1), .inl (cI, 60, .inl z0)), ((q + 2), .inl (cI, 106, .inl z0)), ((q + 3), .inl (cI, 106, .inl z0)), ((q + 4), .inl (cI, 106, .inl z0)), ((q + 5), .inl (cI, 1484, .inl z0)), ((q + 6), .inl (cI, 212, .inl z0))] := gOrd_D (A := gGe q) (l := [(q, .inr (5, [.int 0, .ref (q + 1), .int 0, .int 0, .int 0, .ref (q + 2), .int 0, .ref (q + 3), .ref (q + 4), .ref (q + 5), .int 0, .null, .null, .null, .null])), ((q + 1), .inl (cI, 60, .inl z0)), ((q + 2), .inl (cI, 106, .inl z0)), ((q + 3), .inl (cI, 106, .inl z0)), ((q + 4), .inl (cI, 106, .inl z0)), ((q + 5), .inl (cI, 1484, .inl z0)), ((q + 6), .inl (cI, 212, .inl z0))]) (q := q) ⟨rfl, rfl, rfl, rfl, rfl, rfl, rfl, trivial⟩ (fun _ h9 => h9.1)
  refine va_putF (D := D) (ci := 5) (v := .ref (q + 6)) (ty := tyX5 11) (C := RX5) (T := TX5) (N := 15) hx hb hts (by decide +kernel) tyX5 tyX5_ok nmX5 hown hK hP hD hS 0 rfl rfl 11 (by decide) (hts (.fieldLink RX5 25 "GripInspectorModel" "kept" "[I") (by decide +kernel)) (fun _ h9 => h9) rfl hin rfl (by decide +kernel) rfl rfl (Nat.le_of_ble_eq_true rfl) dX5_init_51 (fun H locs hP hD hS => ?_)
  have hP : va_P D vwCl [(q, .inr (5, [.int 0, .ref (q + 1), .int 0, .int 0, .int 0, .ref (q + 2), .int 0, .ref (q + 3), .ref (q + 4), .ref (q + 5), .int 0, .ref (q + 6), .null, .null, .null])), ((q + 1), .inl (cI, 60, .inl z0)), ((q + 2), .inl (cI, 106, .inl z0)), ((q + 3), .inl (cI, 106, .inl z0)), ((q + 4), .inl (cI, 106, .inl z0)), ((q + 5), .inl (cI, 1484, .inl z0)), ((q + 6), .inl (cI, 212, .inl z0))] H := hP
  have hD : va_D (gGe q) [(q, .inr (5, [.int 0, .ref (q + 1), .int 0, .int 0, .int 0, .ref (q + 2), .int 0, .ref (q + 3), .ref (q + 4), .ref (q + 5), .int 0, .ref (q + 6), .null, .null, .null])), ((q + 1), .inl (cI, 60, .inl z0)), ((q + 2), .inl (cI, 106, .inl z0)), ((q + 3), .inl (cI, 106, .inl z0)), ((q + 4), .inl (cI, 106, .inl z0)), ((q + 5), .inl (cI, 1484, .inl z0)), ((q + 6), .inl (cI, 212, .inl z0))] := hD
  refine lv_aload_n hx hb dX5_init_54 rfl (lv_at hl 0 rfl) ?_
  refine lv_iconst (v := 2) hx hb dX5_init_55 (by decide) ?_
  refine va_newa (atype := .boolean) (ty := .boolean) (a0 := (2, .inl z0)) (N' := 2) hx hb (hts (.arrayClass .boolean) (by decide +kernel)) rfl hK hP hD hS hA0 (fun _ => rfl) (by decide) (by decide) (by decide) (Nat.le_of_ble_eq_true rfl) (Nat.le_of_ble_eq_true rfl) dX5_init_56 (fun q9 cA9 H hK9 hP hD hS => ?_)
  obtain rfl : cZ = cA9 := g_cz (hK.2 2 _ rfl).2 (hK9.2 5 _ rfl).2
  clear hK9
  refine W.widen (k := 7) (n := 2076) (Nat.le_of_ble_eq_true rfl) (Nat.le_of_ble_eq_true rfl) ?_
  refine g_size (fun hz9 => ?_)
  obtain rfl : q9 = q + 7 := g_pin hD ⟨rfl, rfl, rfl, rfl, rfl, rfl, rfl, trivial⟩ rfl hP (by omega)
  have hP : va_P D vwCl [(q, .inr (5, [.int 0, .ref (q + 1), .int 0, .int 0, .int 0, .ref (q + 2), .int 0, .ref (q + 3), .ref (q + 4), .ref (q + 5), .int 0, .ref (q + 6), .null, .null, .null])), ((q + 1), .inl (cI, 60, .inl z0)), ((q + 2), .inl (cI, 106, .inl z0)), ((q + 3), .inl (cI, 106, .inl z0)), ((q + 4), .inl (cI, 106, .inl z0)), ((q + 5), .inl (cI, 1484, .inl z0)), ((q + 6), .inl (cI, 212, .inl z0)), ((q + 7), .inl (cZ, 2, .inl z0))] H := hP
  have hD : va_D (gGe q) [(q, .inr (5, [.int 0, .ref (q + 1), .int 0, .int 0, .int 0, .ref (q + 2), .int 0, .ref (q + 3), .ref (q + 4), .ref (q + 5), .int 0, .ref (q + 6), .null, .null, .null])), ((q + 1), .inl (cI, 60, .inl z0)), ((q + 2), .inl (cI, 106, .inl z0)), ((q + 3), .inl (cI, 106, .inl z0)), ((q + 4), .inl (cI, 106, .inl z0)), ((q + 5), .inl (cI, 1484, .inl z0)), ((q + 6), .inl (cI, 212, .inl z0)), ((q + 7), .inl (cZ, 2, .inl z0))] := gOrd_D (A := gGe q) (l := [(q, .inr (5, [.int 0, .ref (q + 1), .int 0, .int 0, .int 0, .ref (q + 2), .int 0, .ref (q + 3), .ref (q + 4), .ref (q + 5), .int 0, .ref (q + 6), .null, .null, .null])), ((q + 1), .inl (cI, 60, .inl z0)), ((q + 2), .inl (cI, 106, .inl z0)), ((q + 3), .inl (cI, 106, .inl z0)), ((q + 4), .inl (cI, 106, .inl z0)), ((q + 5), .inl (cI, 1484, .inl z0)), ((q + 6), .inl (cI, 212, .inl z0)), ((q + 7), .inl (cZ, 2, .inl z0))]) (q := q) ⟨rfl, rfl, rfl, rfl, rfl, rfl, rfl, rfl, trivial⟩ (fun _ h9 => h9.1)
  refine va_putF (D := D) (ci := 5) (v := .ref (q + 7)) (ty := tyX5 12) (C := RX5) (T := TX5) (N := 15) hx hb hts (by decide +kernel) tyX5 tyX5_ok nmX5 hown hK hP hD hS 0 rfl rfl 12 (by decide) (hts (.fieldLink RX5 28 "GripInspectorModel" "isKept" "[Z") (by decide +kernel)) (fun _ h9 => h9) rfl hin rfl (by decide +kernel) rfl rfl (Nat.le_of_ble_eq_true rfl) dX5_init_58 (fun H locs hP hD hS => ?_)
  have hP : va_P D vwCl [(q, .inr (5, [.int 0, .ref (q + 1), .int 0, .int 0, .int 0, .ref (q + 2), .int 0, .ref (q + 3), .ref (q + 4), .ref (q + 5), .int 0, .ref (q + 6), .ref (q + 7), .null, .null])), ((q + 1), .inl (cI, 60, .inl z0)), ((q + 2), .inl (cI, 106, .inl z0)), ((q + 3), .inl (cI, 106, .inl z0)), ((q + 4), .inl (cI, 106, .inl z0)), ((q + 5), .inl (cI, 1484, .inl z0)), ((q + 6), .inl (cI, 212, .inl z0)), ((q + 7), .inl (cZ, 2, .inl z0))] H := hP
  have hD : va_D (gGe q) [(q, .inr (5, [.int 0, .ref (q + 1), .int 0, .int 0, .int 0, .ref (q + 2), .int 0, .ref (q + 3), .ref (q + 4), .ref (q + 5), .int 0, .ref (q + 6), .ref (q + 7), .null, .null])), ((q + 1), .inl (cI, 60, .inl z0)), ((q + 2), .inl (cI, 106, .inl z0)), ((q + 3), .inl (cI, 106, .inl z0)), ((q + 4), .inl (cI, 106, .inl z0)), ((q + 5), .inl (cI, 1484, .inl z0)), ((q + 6), .inl (cI, 212, .inl z0)), ((q + 7), .inl (cZ, 2, .inl z0))] := hD
  refine lv_aload_n hx hb dX5_init_61 rfl (lv_at hl 0 rfl) ?_
  refine lv_iconst (v := 4) hx hb dX5_init_62 (by decide) ?_
  refine va_newa (atype := .int) (ty := .int) (a0 := (4, .inl z0)) (N' := 4) hx hb (hts (.arrayClass .int) (by decide +kernel)) rfl hK hP hD hS hA0 (fun _ => rfl) (by decide) (by decide) (by decide) (Nat.le_of_ble_eq_true rfl) (Nat.le_of_ble_eq_true rfl) dX5_init_63 (fun q9 cA9 H hK9 hP hD hS => ?_)
  obtain rfl : cI = cA9 := g_ci (hK.2 0 _ rfl).2 (hK9.2 5 _ rfl).2
  clear hK9
  refine W.widen (k := 8) (n := 2080) (Nat.le_of_ble_eq_true rfl) (Nat.le_of_ble_eq_true rfl) ?_
  refine g_size (fun hz9 => ?_)
  obtain rfl : q9 = q + 8 := g_pin hD ⟨rfl, rfl, rfl, rfl, rfl, rfl, rfl, rfl, trivial⟩ rfl hP (by omega)
  have hP : va_P D vwCl [(q, .inr (5, [.int 0, .ref (q + 1), .int 0, .int 0, .int 0, .ref (q + 2), .int 0, .ref (q + 3), .ref (q + 4), .ref (q + 5), .int 0, .ref (q + 6), .ref (q + 7), .null, .null])), ((q + 1), .inl (cI, 60, .inl z0)), ((q + 2), .inl (cI, 106, .inl z0)), ((q + 3), .inl (cI, 106, .inl z0)), ((q + 4), .inl (cI, 106, .inl z0)), ((q + 5), .inl (cI, 1484, .inl z0)), ((q + 6), .inl (cI, 212, .inl z0)), ((q + 7), .inl (cZ, 2, .inl z0)), ((q + 8), .inl (cI, 4, .inl z0))] H := hP
  have hD : va_D (gGe q) [(q, .inr (5, [.int 0, .ref (q + 1), .int 0, .int 0, .int 0, .ref (q + 2), .int 0, .ref (q + 3), .ref (q + 4), .ref (q + 5), .int 0, .ref (q + 6), .ref (q + 7), .null, .null])), ((q + 1), .inl (cI, 60, .inl z0)), ((q + 2), .inl (cI, 106, .inl z0)), ((q + 3), .inl (cI, 106, .inl z0)), ((q + 4), .inl (cI, 106, .inl z0)), ((q + 5), .inl (cI, 1484, .inl z0)), ((q + 6), .inl (cI, 212, .inl z0)), ((q + 7), .inl (cZ, 2, .inl z0)), ((q + 8), .inl (cI, 4, .inl z0))] := gOrd_D (A := gGe q) (l := [(q, .inr (5, [.int 0, .ref (q + 1), .int 0, .int 0, .int 0, .ref (q + 2), .int 0, .ref (q + 3), .ref (q + 4), .ref (q + 5), .int 0, .ref (q + 6), .ref (q + 7), .null, .null])), ((q + 1), .inl (cI, 60, .inl z0)), ((q + 2), .inl (cI, 106, .inl z0)), ((q + 3), .inl (cI, 106, .inl z0)), ((q + 4), .inl (cI, 106, .inl z0)), ((q + 5), .inl (cI, 1484, .inl z0)), ((q + 6), .inl (cI, 212, .inl z0)), ((q + 7), .inl (cZ, 2, .inl z0)), ((q + 8), .inl (cI, 4, .inl z0))]) (q := q) ⟨rfl, rfl, rfl, rfl, rfl, rfl, rfl, rfl, rfl, trivial⟩ (fun _ h9 => h9.1)
  refine va_putF (D := D) (ci := 5) (v := .ref (q + 8)) (ty := tyX5 13) (C := RX5) (T := TX5) (N := 15) hx hb hts (by decide +kernel) tyX5 tyX5_ok nmX5 hown hK hP hD hS 0 rfl rfl 13 (by decide) (hts (.fieldLink RX5 32 "GripInspectorModel" "counts" "[I") (by decide +kernel)) (fun _ h9 => h9) rfl hin rfl (by decide +kernel) rfl rfl (Nat.le_of_ble_eq_true rfl) dX5_init_65 (fun H locs hP hD hS => ?_)
  have hP : va_P D vwCl [(q, .inr (5, [.int 0, .ref (q + 1), .int 0, .int 0, .int 0, .ref (q + 2), .int 0, .ref (q + 3), .ref (q + 4), .ref (q + 5), .int 0, .ref (q + 6), .ref (q + 7), .ref (q + 8), .null])), ((q + 1), .inl (cI, 60, .inl z0)), ((q + 2), .inl (cI, 106, .inl z0)), ((q + 3), .inl (cI, 106, .inl z0)), ((q + 4), .inl (cI, 106, .inl z0)), ((q + 5), .inl (cI, 1484, .inl z0)), ((q + 6), .inl (cI, 212, .inl z0)), ((q + 7), .inl (cZ, 2, .inl z0)), ((q + 8), .inl (cI, 4, .inl z0))] H := hP
  have hD : va_D (gGe q) [(q, .inr (5, [.int 0, .ref (q + 1), .int 0, .int 0, .int 0, .ref (q + 2), .int 0, .ref (q + 3), .ref (q + 4), .ref (q + 5), .int 0, .ref (q + 6), .ref (q + 7), .ref (q + 8), .null])), ((q + 1), .inl (cI, 60, .inl z0)), ((q + 2), .inl (cI, 106, .inl z0)), ((q + 3), .inl (cI, 106, .inl z0)), ((q + 4), .inl (cI, 106, .inl z0)), ((q + 5), .inl (cI, 1484, .inl z0)), ((q + 6), .inl (cI, 212, .inl z0)), ((q + 7), .inl (cZ, 2, .inl z0)), ((q + 8), .inl (cI, 4, .inl z0))] := hD
  refine lv_aload_n hx hb dX5_init_68 rfl (lv_at hl 0 rfl) ?_
  refine lv_bipush (v := 80) hx hb dX5_init_69 (by decide) ?_
  refine va_newa (atype := .int) (ty := .int) (a0 := (80, .inl z0)) (N' := 80) hx hb (hts (.arrayClass .int) (by decide +kernel)) rfl hK hP hD hS hA0 (fun _ => rfl) (by decide) (by decide) (by decide) (Nat.le_of_ble_eq_true rfl) (Nat.le_of_ble_eq_true rfl) dX5_init_71 (fun q9 cA9 H hK9 hP hD hS => ?_)
  obtain rfl : cI = cA9 := g_ci (hK.2 0 _ rfl).2 (hK9.2 5 _ rfl).2
  clear hK9
  refine W.widen (k := 9) (n := 2160) (Nat.le_of_ble_eq_true rfl) (Nat.le_of_ble_eq_true rfl) ?_
  refine g_size (fun hz9 => ?_)
  obtain rfl : q9 = q + 9 := g_pin hD ⟨rfl, rfl, rfl, rfl, rfl, rfl, rfl, rfl, rfl, trivial⟩ rfl hP (by omega)
  have hP : va_P D vwCl [(q, .inr (5, [.int 0, .ref (q + 1), .int 0, .int 0, .int 0, .ref (q + 2), .int 0, .ref (q + 3), .ref (q + 4), .ref (q + 5), .int 0, .ref (q + 6), .ref (q + 7), .ref (q + 8), .null])), ((q + 1), .inl (cI, 60, .inl z0)), ((q + 2), .inl (cI, 106, .inl z0)), ((q + 3), .inl (cI, 106, .inl z0)), ((q + 4), .inl (cI, 106, .inl z0)), ((q + 5), .inl (cI, 1484, .inl z0)), ((q + 6), .inl (cI, 212, .inl z0)), ((q + 7), .inl (cZ, 2, .inl z0)), ((q + 8), .inl (cI, 4, .inl z0)), ((q + 9), .inl (cI, 80, .inl z0))] H := hP
  have hD : va_D (gGe q) [(q, .inr (5, [.int 0, .ref (q + 1), .int 0, .int 0, .int 0, .ref (q + 2), .int 0, .ref (q + 3), .ref (q + 4), .ref (q + 5), .int 0, .ref (q + 6), .ref (q + 7), .ref (q + 8), .null])), ((q + 1), .inl (cI, 60, .inl z0)), ((q + 2), .inl (cI, 106, .inl z0)), ((q + 3), .inl (cI, 106, .inl z0)), ((q + 4), .inl (cI, 106, .inl z0)), ((q + 5), .inl (cI, 1484, .inl z0)), ((q + 6), .inl (cI, 212, .inl z0)), ((q + 7), .inl (cZ, 2, .inl z0)), ((q + 8), .inl (cI, 4, .inl z0)), ((q + 9), .inl (cI, 80, .inl z0))] := gOrd_D (A := gGe q) (l := [(q, .inr (5, [.int 0, .ref (q + 1), .int 0, .int 0, .int 0, .ref (q + 2), .int 0, .ref (q + 3), .ref (q + 4), .ref (q + 5), .int 0, .ref (q + 6), .ref (q + 7), .ref (q + 8), .null])), ((q + 1), .inl (cI, 60, .inl z0)), ((q + 2), .inl (cI, 106, .inl z0)), ((q + 3), .inl (cI, 106, .inl z0)), ((q + 4), .inl (cI, 106, .inl z0)), ((q + 5), .inl (cI, 1484, .inl z0)), ((q + 6), .inl (cI, 212, .inl z0)), ((q + 7), .inl (cZ, 2, .inl z0)), ((q + 8), .inl (cI, 4, .inl z0)), ((q + 9), .inl (cI, 80, .inl z0))]) (q := q) ⟨rfl, rfl, rfl, rfl, rfl, rfl, rfl, rfl, rfl, rfl, trivial⟩ (fun _ h9 => h9.1)
  refine va_putF (D := D) (ci := 5) (v := .ref (q + 9)) (ty := tyX5 14) (C := RX5) (T := TX5) (N := 15) hx hb hts (by decide +kernel) tyX5 tyX5_ok nmX5 hown hK hP hD hS 0 rfl rfl 14 (by decide) (hts (.fieldLink RX5 35 "GripInspectorModel" "report" "[I") (by decide +kernel)) (fun _ h9 => h9) rfl hin rfl (by decide +kernel) rfl rfl (Nat.le_of_ble_eq_true rfl) dX5_init_73 (fun H locs hP hD hS => ?_)
  have hP : va_P D vwCl [(q, .inr (5, [.int 0, .ref (q + 1), .int 0, .int 0, .int 0, .ref (q + 2), .int 0, .ref (q + 3), .ref (q + 4), .ref (q + 5), .int 0, .ref (q + 6), .ref (q + 7), .ref (q + 8), .ref (q + 9)])), ((q + 1), .inl (cI, 60, .inl z0)), ((q + 2), .inl (cI, 106, .inl z0)), ((q + 3), .inl (cI, 106, .inl z0)), ((q + 4), .inl (cI, 106, .inl z0)), ((q + 5), .inl (cI, 1484, .inl z0)), ((q + 6), .inl (cI, 212, .inl z0)), ((q + 7), .inl (cZ, 2, .inl z0)), ((q + 8), .inl (cI, 4, .inl z0)), ((q + 9), .inl (cI, 80, .inl z0))] H := hP
  have hD : va_D (gGe q) [(q, .inr (5, [.int 0, .ref (q + 1), .int 0, .int 0, .int 0, .ref (q + 2), .int 0, .ref (q + 3), .ref (q + 4), .ref (q + 5), .int 0, .ref (q + 6), .ref (q + 7), .ref (q + 8), .ref (q + 9)])), ((q + 1), .inl (cI, 60, .inl z0)), ((q + 2), .inl (cI, 106, .inl z0)), ((q + 3), .inl (cI, 106, .inl z0)), ((q + 4), .inl (cI, 106, .inl z0)), ((q + 5), .inl (cI, 1484, .inl z0)), ((q + 6), .inl (cI, 212, .inl z0)), ((q + 7), .inl (cZ, 2, .inl z0)), ((q + 8), .inl (cI, 4, .inl z0)), ((q + 9), .inl (cI, 80, .inl z0))] := hD
  have hP : va_P D vwCl (MW cI cZ q ((fun _ => z0), 0, 0, 0, 0, 0, 0)) H := hP
  refine lv_aload_n hx hb dX5_init_76 rfl (lv_at hl 0 rfl) ?_
  refine lv_bipush (v := 8) hx hb dX5_init_77 (by decide) ?_
  refine va_put (D := D) (ci := 5) (v := .int 8) (ty := .int) (C := RX5) (T := TX5) (N := 15) hx hb hts hinX5 tyX5 tyX5_ok nmX5 hown hK hP (MW_D (A := gGe q) (fun _ h9 => h9.1)) hS 0 rfl rfl 6 (by decide) hf38 (fun _ h9 => h9) rfl (by decide +kernel) rfl rfl (Nat.le_of_ble_eq_true rfl) dX5_init_79 (fun H locs hP _ hS => ?_)
  have hP : va_P D vwCl (MW cI cZ q ((mA ((fun _ => z0), 0, 0, 0, 0, 0, 0)), (mRef ((fun _ => z0), 0, 0, 0, 0, 0, 0)), (mSize ((fun _ => z0), 0, 0, 0, 0, 0, 0)), (mSpot ((fun _ => z0), 0, 0, 0, 0, 0, 0)), (mRN ((fun _ => z0), 0, 0, 0, 0, 0, 0)), 8, (mActs ((fun _ => z0), 0, 0, 0, 0, 0, 0)))) H := hP
  refine lv_aload_n hx hb dX5_init_82 rfl (lv_at hl 0 rfl) ?_
  refine va_get (D := D) (ci := 5) (v := .ref (q + 3)) (C := RX5) (T := TX5) (N := 15) hx hb hts hinX5 hown hK hP 0 rfl rfl 7 (by decide) hf16 (fun _ h9 => h9) rfl dX5_init_83 ?_
  refine lv_bipush (v := 99) hx hb dX5_init_86 (by decide) ?_
  refine lv_bipush (v := 10) hx hb dX5_init_88 (by decide) ?_
  refine g_iast (f := ((mA ((fun _ => z0), 0, 0, 0, 0, 0, 0)) 3)) (k := 99) hx hb hK hP (MW_D (A := gGe q) (fun _ h9 => h9.1)) hS 3 0 rfl rfl (vin_lit rfl) rfl dX5_init_90 (fun H locs hP hS => ?_)
  obtain ⟨a1, ha1, h⟩ := lt_some h
  have hP : va_P D vwCl (MW cI cZ q (a1, (mRef ((fun _ => z0), 0, 0, 0, 0, 0, 0)), (mSize ((fun _ => z0), 0, 0, 0, 0, 0, 0)), (mSpot ((fun _ => z0), 0, 0, 0, 0, 0, 0)), (mRN ((fun _ => z0), 0, 0, 0, 0, 0, 0)), 8, (mActs ((fun _ => z0), 0, 0, 0, 0, 0, 0)))) H := by have h9 := hP; rw [MW_s3] at h9; rw [ha1]; exact h9
  refine lv_aload_n hx hb dX5_init_91 rfl (lv_at hl 0 rfl) ?_
  refine va_get (D := D) (ci := 5) (v := .ref (q + 3)) (C := RX5) (T := TX5) (N := 15) hx hb hts hinX5 hown hK hP 0 rfl rfl 7 (by decide) hf16 (fun _ h9 => h9) rfl dX5_init_92 ?_
  refine lv_bipush (v := 100) hx hb dX5_init_95 (by decide) ?_
  refine lv_bipush (v := 20) hx hb dX5_init_97 (by decide) ?_
  refine g_iast (f := (a1 3)) (k := 100) hx hb hK hP (MW_D (A := gGe q) (fun _ h9 => h9.1)) hS 3 0 rfl rfl (vin_lit rfl) rfl dX5_init_99 (fun H locs hP hS => ?_)
  obtain ⟨a2, ha2, h⟩ := lt_some h
  have hP : va_P D vwCl (MW cI cZ q (a2, (mRef ((fun _ => z0), 0, 0, 0, 0, 0, 0)), (mSize ((fun _ => z0), 0, 0, 0, 0, 0, 0)), (mSpot ((fun _ => z0), 0, 0, 0, 0, 0, 0)), (mRN ((fun _ => z0), 0, 0, 0, 0, 0, 0)), 8, (mActs ((fun _ => z0), 0, 0, 0, 0, 0, 0)))) H := by have h9 := hP; rw [MW_s3] at h9; rw [ha2]; exact h9
  refine lv_aload_n hx hb dX5_init_100 rfl (lv_at hl 0 rfl) ?_
  refine va_get (D := D) (ci := 5) (v := .ref (q + 3)) (C := RX5) (T := TX5) (N := 15) hx hb hts hinX5 hown hK hP 0 rfl rfl 7 (by decide) hf16 (fun _ h9 => h9) rfl dX5_init_101 ?_
  refine lv_bipush (v := 101) hx hb dX5_init_104 (by decide) ?_
  refine lv_iconst (v := 4) hx hb dX5_init_106 (by decide) ?_
  refine g_iast (f := (a2 3)) (k := 101) hx hb hK hP (MW_D (A := gGe q) (fun _ h9 => h9.1)) hS 3 0 rfl rfl (vin_lit rfl) rfl dX5_init_107 (fun H locs hP hS => ?_)
  obtain ⟨a3, ha3, h⟩ := lt_some h
  have hP : va_P D vwCl (MW cI cZ q (a3, (mRef ((fun _ => z0), 0, 0, 0, 0, 0, 0)), (mSize ((fun _ => z0), 0, 0, 0, 0, 0, 0)), (mSpot ((fun _ => z0), 0, 0, 0, 0, 0, 0)), (mRN ((fun _ => z0), 0, 0, 0, 0, 0, 0)), 8, (mActs ((fun _ => z0), 0, 0, 0, 0, 0, 0)))) H := by have h9 := hP; rw [MW_s3] at h9; rw [ha3]; exact h9
  refine lv_aload_n hx hb dX5_init_108 rfl (lv_at hl 0 rfl) ?_
  refine va_get (D := D) (ci := 5) (v := .ref (q + 3)) (C := RX5) (T := TX5) (N := 15) hx hb hts hinX5 hown hK hP 0 rfl rfl 7 (by decide) hf16 (fun _ h9 => h9) rfl dX5_init_109 ?_
  refine lv_bipush (v := 102) hx hb dX5_init_112 (by decide) ?_
  refine lv_iconst (v := 2) hx hb dX5_init_114 (by decide) ?_
  refine g_iast (f := (a3 3)) (k := 102) hx hb hK hP (MW_D (A := gGe q) (fun _ h9 => h9.1)) hS 3 0 rfl rfl (vin_lit rfl) rfl dX5_init_115 (fun H locs hP hS => ?_)
  obtain ⟨a4, ha4, h⟩ := lt_some h
  have hP : va_P D vwCl (MW cI cZ q (a4, (mRef ((fun _ => z0), 0, 0, 0, 0, 0, 0)), (mSize ((fun _ => z0), 0, 0, 0, 0, 0, 0)), (mSpot ((fun _ => z0), 0, 0, 0, 0, 0, 0)), (mRN ((fun _ => z0), 0, 0, 0, 0, 0, 0)), 8, (mActs ((fun _ => z0), 0, 0, 0, 0, 0, 0)))) H := by have h9 := hP; rw [MW_s3] at h9; rw [ha4]; exact h9
  refine lv_aload_n hx hb dX5_init_116 rfl (lv_at hl 0 rfl) ?_
  refine va_get (D := D) (ci := 5) (v := .ref (q + 3)) (C := RX5) (T := TX5) (N := 15) hx hb hts hinX5 hown hK hP 0 rfl rfl 7 (by decide) hf16 (fun _ h9 => h9) rfl dX5_init_117 ?_
  refine lv_bipush (v := 103) hx hb dX5_init_120 (by decide) ?_
  refine lv_iconst (v := 3) hx hb dX5_init_122 (by decide) ?_
  refine g_iast (f := (a4 3)) (k := 103) hx hb hK hP (MW_D (A := gGe q) (fun _ h9 => h9.1)) hS 3 0 rfl rfl (vin_lit rfl) rfl dX5_init_123 (fun H locs hP hS => ?_)
  obtain ⟨a5, ha5, h⟩ := lt_some h
  have hP : va_P D vwCl (MW cI cZ q (a5, (mRef ((fun _ => z0), 0, 0, 0, 0, 0, 0)), (mSize ((fun _ => z0), 0, 0, 0, 0, 0, 0)), (mSpot ((fun _ => z0), 0, 0, 0, 0, 0, 0)), (mRN ((fun _ => z0), 0, 0, 0, 0, 0, 0)), 8, (mActs ((fun _ => z0), 0, 0, 0, 0, 0, 0)))) H := by have h9 := hP; rw [MW_s3] at h9; rw [ha5]; exact h9
  have h := Option.some.inj h
  subst h
  refine g_size (fun hz9 => ?_)
  have hz8 : q + 9 < H.size := (hP 9 _ rfl).lt
  exact W.vret hx hb hr9 (fun t ht hW => ⟨⟨(), rfl, trivial, gHB (B := fun H => H.size = q + 10 ∧ va_P D vwCl (MW cI cZ q _) H) ht ⟨by omega, hP⟩⟩, hS.F ht⟩) hS.2.2 dX5_init_124

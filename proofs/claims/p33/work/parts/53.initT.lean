set_option maxHeartbeats 8000000 in
set_option maxRecDepth 100000 in
theorem kX1_init (l : Launch) (D : va_G) (cI cC cZ cQ cJ : ClassId) (q : Nat) {r : LSt} (hr : fX0_init = some r) : Met l yX1_init wsX1_init ({ frames := 2, cells := 12, slots := 176, locals := 41 } : Room) (va_Pc [.ref q] (gBn D (gTy cI cC cZ cQ cJ) (fun H => H.size = q + 1 ∧ va_P D vwCl [(q, .inr (1, [.null, .null, .int 0]))] H))) (va_Qv (fun _ : Unit => True) (fun _ t => t.heap.size = q + 13 ∧ va_P D vwCl (TW cI cC q ((z0, 0), r, 0)) t.heap) (gGe q)) 12 176 (gGe q) := by
  refine Met.ofW (cc := cX1_init) (maxL := 1) (ret := none) (by decide) rfl ?_
  intro p e s m args below meth c s₁ B hml hv
  obtain ⟨rfl, ⟨⟨hsz, hP⟩, hK⟩, hN⟩ := hv
  have hx := B.exec
  have hb := B.bytes
  have hr9 := B.returns
  have hts := atoms_spec (ws := wsX1_init) B.pre
  have hown : s.vm.findClass RX1 = some m.cls := findClass_of_methodNamed B.named
  have hlocks := B.notSynchronized
  have hin : meth.name = "<init>" := (name_of_methodNamed B.named B.method).1
  have hA0 : ∀ a : Nat, s.heap.size ≤ a → gGe q a := fun a h => by show q ≤ a; omega
  have hl := lv_entry ([.ref q]) (n := 1) (Nat.le_of_ble_eq_true rfl)
  rw [lg_entry_eq]
  generalize (lg_sl ([.ref q]) ++ List.replicate (1 - (lg_sl ([.ref q])).length) Slot.unset).toArray = ls at hl ⊢
  have hl : lv_has ls 1 [(0, .ref q)] := hl
  have hS : va_S (gGe q) s.heap s.heap [] := va_S.rf
  have hD : va_D (gGe q) [(q, .inr (1, [.null, .null, .int 0]))] := gOrd_D (A := gGe q) (l := [(q, .inr (1, [.null, .null, .int 0]))]) (q := q) ⟨rfl, trivial⟩ (fun _ h9 => h9.1)
  obtain ⟨H, hH⟩ : ∃ H, H = s.heap := ⟨_, rfl⟩
  obtain ⟨locs, hlz⟩ : ∃ z : List Loc, z = [] := ⟨_, rfl⟩
  have hP : va_P D vwCl [(q, .inr (1, [.null, .null, .int 0]))] H := by rw [hH]; exact hP
  have hS : va_S (gGe q) s.heap H locs := by rw [hH, hlz]; exact hS
  refine gc_at hH hlz ?_
  refine lv_aload_n hx hb dX1_init_0 rfl (lv_at hl 0 rfl) ?_
  refine W.objInit hx hb hown (hts (.methodLink RX1 3 objectInit) (by decide +kernel)) (hts (.instanceMethod objectInit) (by decide +kernel)) (hts (.code objectInit ⟨#[0xb1]⟩ 1 none) (by decide +kernel)) rfl (by rw [hml]; exact hl.1) rfl dX1_init_1 (Nat.le_of_ble_eq_true rfl) (Nat.le_of_ble_eq_true rfl) ?_
  refine W.eq (g2 := F0 m 4 ls []) rfl ?_
  refine lv_aload_n hx hb dX1_init_4 rfl (lv_at hl 0 rfl) ?_
  refine va_new (ci := 3) (fs := [.null, .int 0]) (C := RX3) (T := TX3) (N := 2) hx hb hts (by decide +kernel) tyX3 tyX3_ok hown (hts (.classLink RX1 9 RX3) (by decide +kernel)) (hts (.instantiable RX3 2) (by decide +kernel)) (hts (.initialized RX3) (by decide +kernel)) hK hP hD hS hA0 rfl (fun j hj => by rcases (show j = 0 ∨ j = 1 by omega) with rfl | rfl <;> rfl) (Nat.le_of_ble_eq_true rfl) (Nat.le_of_ble_eq_true rfl) dX1_init_5 (fun q9 H hP hD hS => ?_)
  refine W.widen (k := 1) (n := 2) (Nat.le_of_ble_eq_true rfl) (Nat.le_of_ble_eq_true rfl) ?_
  refine g_size (fun hz9 => ?_)
  obtain rfl : q9 = q + 1 := g_pin hD ⟨rfl, trivial⟩ rfl hP (by omega)
  refine lv_dup hx hb dX1_init_8 rfl ?_
  refine gn_in (As := []) (rest := [.ref (q + 1), .ref q]) (B := fun H => H.size = (q + 1) + 1 ∧ va_P D vwCl [((q + 1), .inr (3, [.null, .int 0]))] H) (B' := fun H => H.size = (q + 1) + 2 ∧ va_P D vwCl (SW cC (q + 1) (z0, 0)) H) (k2 := 2) (n2 := 62) ⟨hx, hb, hml, hown, hts⟩ hK (kX3_init l D cI cC cZ cQ cJ (q + 1)) ⟨va_cnB 0 hts gX1_init_X3_init_n11 rfl rfl rfl hN.1 (hts (.initialized RX3) (by decide +kernel)) (by decide +kernel) ⟨Nat.le_of_ble_eq_true rfl, Nat.le_of_ble_eq_true rfl⟩, rfl, hts (.instanceMethod yX3_init) (by decide +kernel)⟩ ⟨by have h9 : q + 1 < H.size := (gR hP 0 _ rfl).lt; omega, gR hP⟩ hS (fun a9 h9 => Nat.le_trans (Nat.le_add_right _ _) h9) rfl hl.1 rfl (Nat.le_of_ble_eq_true rfl) ⟨Nat.le_of_ble_eq_true rfl, Nat.le_of_ble_eq_true rfl⟩ rfl rfl dX1_init_9 (fun H1 locs hB1 hS _ hk1 => ?_)
  have hP : va_P D vwCl ([(q, .inr (1, [.null, .null, .int 0]))] ++ SW cC (q + 1) (z0, 0)) H1 := va_P.app (gKeep (l := [(q, .inr (1, [.null, .null, .int 0]))]) (n := 1) (q := q) ⟨rfl, trivial⟩ rfl (gL hP) (fun a9 hl9 hi9 => hk1 a9 hl9 (fun z9 => by have b1 := hi9.2; have b2 : q + 1 ≤ a9 := z9; omega))) hB1.2
  generalize H1 = H at hP hS ⊢
  have hD : va_D (gGe q) ([(q, .inr (1, [.null, .null, .int 0]))] ++ SW cC (q + 1) (z0, 0)) := gOrd_D (A := gGe q) (l := ([(q, .inr (1, [.null, .null, .int 0]))] ++ SW cC (q + 1) (z0, 0))) (q := q) (gOrd_app [(q, .inr (1, [.null, .null, .int 0]))] (SW cC (q + 1) (z0, 0)) q ⟨rfl, trivial⟩ (SW_ord cC _ _)) (fun _ h9 => h9.1)
  refine va_putF (D := D) (ci := 1) (v := .ref (q + 1)) (ty := tyX1 0) (C := RX1) (T := TX1) (N := 3) hx hb hts (by decide +kernel) tyX1 tyX1_ok nmX1 hown hK hP hD hS 0 rfl rfl 0 (by decide) (hts (.fieldLink RX1 12 "GripInspector$LiftText" "signs" "LGripInspector$Signs;") (by decide +kernel)) (fun _ h9 => h9) rfl hin rfl (by decide +kernel) rfl rfl (Nat.le_of_ble_eq_true rfl) dX1_init_12 (fun H locs hP hD hS => ?_)
  have hP : va_P D vwCl ([(q, .inr (1, [.ref (q + 1), .null, .int 0]))] ++ SW cC (q + 1) (z0, 0)) H := hP
  have hD : va_D (gGe q) ([(q, .inr (1, [.ref (q + 1), .null, .int 0]))] ++ SW cC (q + 1) (z0, 0)) := hD
  refine lv_aload_n hx hb dX1_init_15 rfl (lv_at hl 0 rfl) ?_
  refine va_new (ci := 0) (fs := [.null, .null, .null, .null, .null, .null, .null, .null, .null, .int 0, .int 0, .int 0, .long 0]) (C := RX0) (T := TX0) (N := 13) hx hb hts (by decide +kernel) tyX0 tyX0_ok hown (hts (.classLink RX1 18 RX0) (by decide +kernel)) (hts (.instantiable RX0 13) (by decide +kernel)) (hts (.initialized RX0) (by decide +kernel)) hK hP hD hS hA0 rfl (fun j hj => by rcases (show j = 0 ∨ j = 1 ∨ j = 2 ∨ j = 3 ∨ j = 4 ∨ j = 5 ∨ j = 6 ∨ j = 7 ∨ j = 8 ∨ j = 9 ∨ j = 10 ∨ j = 11 ∨ j = 12 by omega) with rfl | rfl | rfl | rfl | rfl | rfl | rfl | rfl | rfl | rfl | rfl | rfl | rfl <;> rfl) (Nat.le_of_ble_eq_true rfl) (Nat.le_of_ble_eq_true rfl) dX1_init_16 (fun q9 H hP hD hS => ?_)
  refine W.widen (k := 3) (n := 75) (Nat.le_of_ble_eq_true rfl) (Nat.le_of_ble_eq_true rfl) ?_
  refine g_size (fun hz9 => ?_)
  obtain rfl : q9 = q + 3 := g_pin hD (gOrd_app [(q, .inr (1, [.ref (q + 1), .null, .int 0]))] (SW cC (q + 1) (z0, 0)) q ⟨rfl, trivial⟩ (SW_ord cC _ _)) rfl hP (by omega)
  refine lv_dup hx hb dX1_init_19 rfl ?_
  refine gc_in (As := []) (rest := [.ref (q + 3), .ref q]) (B := fun H => H.size = (q + 3) + 1 ∧ va_P D vwCl [((q + 3), .inr (0, [.null, .null, .null, .null, .null, .null, .null, .null, .null, .int 0, .int 0, .int 0, .long 0]))] H) (B' := fun H => H.size = (q + 3) + 10 ∧ va_P D vwCl (LW cI (q + 3) r) H) (k2 := 12) (n2 := 176) ⟨hx, hb, hml, hown, hts⟩ hK (kX0_init l D cI cC cZ cQ cJ (q + 3) hr) (cwI 0 hts gX1_init_X0_init rfl rfl rfl (hts (.initialized RX0) (by decide +kernel)) (hts (.methodLink RX1 20 yX0_init) (by decide +kernel)) (hts (.instanceMethod yX0_init) (by decide +kernel)) rfl (by decide +kernel) ⟨Nat.le_of_ble_eq_true rfl, Nat.le_of_ble_eq_true rfl⟩) ⟨by have h9 : q + 3 < H.size := (gR hP 0 _ rfl).lt; omega, gR hP⟩ hS (fun a9 h9 => Nat.le_trans (Nat.le_add_right _ _) h9) rfl hl.1 rfl (Nat.le_of_ble_eq_true rfl) ⟨Nat.le_of_ble_eq_true rfl, Nat.le_of_ble_eq_true rfl⟩ rfl rfl dX1_init_20 (fun H1 locs hB1 hS _ hk1 => ?_)
  have hP : va_P D vwCl (([(q, .inr (1, [.ref (q + 1), .null, .int 0]))] ++ SW cC (q + 1) (z0, 0)) ++ LW cI (q + 3) r) H1 := va_P.app (gKeep (l := ([(q, .inr (1, [.ref (q + 1), .null, .int 0]))] ++ SW cC (q + 1) (z0, 0))) (n := 3) (q := q) (gOrd_app [(q, .inr (1, [.ref (q + 1), .null, .int 0]))] (SW cC (q + 1) (z0, 0)) q ⟨rfl, trivial⟩ (SW_ord cC _ _)) rfl (gL hP) (fun a9 hl9 hi9 => hk1 a9 hl9 (fun z9 => by have b1 := hi9.2; have b2 : q + 3 ≤ a9 := z9; omega))) hB1.2
  generalize H1 = H at hP hS ⊢
  have hD : va_D (gGe q) (([(q, .inr (1, [.ref (q + 1), .null, .int 0]))] ++ SW cC (q + 1) (z0, 0)) ++ LW cI (q + 3) r) := gOrd_D (A := gGe q) (l := (([(q, .inr (1, [.ref (q + 1), .null, .int 0]))] ++ SW cC (q + 1) (z0, 0)) ++ LW cI (q + 3) r)) (q := q) (gOrd_app ([(q, .inr (1, [.ref (q + 1), .null, .int 0]))] ++ SW cC (q + 1) (z0, 0)) (LW cI (q + 3) r) q (gOrd_app [(q, .inr (1, [.ref (q + 1), .null, .int 0]))] (SW cC (q + 1) (z0, 0)) q ⟨rfl, trivial⟩ (SW_ord cC _ _)) (LW_ord cI _ _)) (fun _ h9 => h9.1)
  refine va_putF (D := D) (ci := 1) (v := .ref (q + 3)) (ty := tyX1 1) (C := RX1) (T := TX1) (N := 3) hx hb hts (by decide +kernel) tyX1 tyX1_ok nmX1 hown hK hP hD hS 0 rfl rfl 1 (by decide) (hts (.fieldLink RX1 21 "GripInspector$LiftText" "draft" "LGripInspector$Lift;") (by decide +kernel)) (fun _ h9 => h9) rfl hin rfl (by decide +kernel) rfl rfl (Nat.le_of_ble_eq_true rfl) dX1_init_23 (fun H locs hP hD hS => ?_)
  have hP : va_P D vwCl (([(q, .inr (1, [.ref (q + 1), .ref (q + 3), .int 0]))] ++ SW cC (q + 1) (z0, 0)) ++ LW cI (q + 3) r) H := hP
  have hD : va_D (gGe q) (([(q, .inr (1, [.ref (q + 1), .ref (q + 3), .int 0]))] ++ SW cC (q + 1) (z0, 0)) ++ LW cI (q + 3) r) := hD
  have hP : va_P D vwCl (TW cI cC q ((z0, 0), r, 0)) H := hP
  refine g_size (fun hz9 => ?_)
  have hz8 : q + 3 + 9 < H.size := (hP 12 _ rfl).lt
  exact W.vret hx hb hr9 (fun t ht hW => ⟨⟨(), rfl, trivial, gHB (B := fun H => H.size = q + 13 ∧ va_P D vwCl (TW cI cC q ((z0, 0), r, 0)) H) ht ⟨by omega, hP⟩⟩, hS.F ht⟩) hS.2.2 dX1_init_26

set_option maxHeartbeats 4000000 in
set_option maxRecDepth 100000 in
/-- THE LAW, from its entry -/
theorem whole_start {p : Program} {e : Env} {s : State} {m : MethodId} {below : List Frame} {meth : Method} {c : Code} (l : Launch) (hflags : l.flags = flags0) {b L : Nat} {xs : Nat → Int32} (hL : L ≤ 2048) (C0 : lw_At p s m meth c b L xs) : W p l e room_1 s m #[Value.ref b] below meth c s.heap [] 0 0 (lw_Z below #[Value.ref b] s) (entryFrame m ([Value.ref b] : List Value).toArray 7) := by
  obtain ⟨hx, hb, hr, hml, hown, htt, hX, hbl, hlocks, hgv⟩ := id C0
  have hts : ∀ w ∈ wsL_law, w.before #[Value.ref b] s = true := fun w hw => htt w (wsL_law_in w hw)
  have hown : s.vm.findClass RL = some m.cls := hown
  obtain ⟨D, cI, cC, cZ, cQ, cJ, hK⟩ := ev_K htt
  obtain ⟨t, hE⟩ := ev_all htt hgv
  have hN := ev_ns htt
  have hlS : l.stackTraces = false := by unfold Launch.stackTraces; rw [hflags]; decide
  obtain ⟨r, M0, i1, i2, hG⟩ := o_start
  obtain ⟨x0, hx0⟩ : ∃ x0, x0 = s.heap.size := ⟨_, rfl⟩
  have hE : gEnw t x0 s s.heap := by rw [hx0]; exact hE
  have hA0 : ∀ a : Nat, s.heap.size ≤ a → gGe x0 a := fun a h => by show x0 ≤ a; omega
  have hl := lv_entry ([.ref b]) (n := 7) (Nat.le_of_ble_eq_true rfl)
  rw [lg_entry_eq]
  generalize (lg_sl ([.ref b]) ++ List.replicate (7 - (lg_sl ([.ref b])).length) Slot.unset).toArray = ls at hl ⊢
  have hl : lv_has ls 7 [(0, .ref b)] := hl
  have hS : va_S (gGe x0) s.heap s.heap [] := va_S.rf
  have hP : va_P D vwCl [] s.heap := fun k q h => by simp at h
  have hD : va_D (gGe x0) [] := ⟨fun i j p q h => by simp at h, fun k q h => by simp at h⟩
  obtain ⟨H, hH⟩ : ∃ H, H = s.heap := ⟨_, rfl⟩
  obtain ⟨locs, hlz⟩ : ∃ z : List Loc, z = [] := ⟨_, rfl⟩
  have hP : va_P D vwCl [] H := by rw [hH]; exact hP
  have hS : va_S (gGe x0) s.heap H locs := by rw [hH, hlz]; exact hS
  refine gc_at hH hlz ?_
  refine va_new (ci := 4) (fs := [.null, .null, .null, .null, .null, .null, .null, .int 0, .int 0]) (C := RX4) (T := TX4) (N := 9) hx hb hts inlX4 tyX4 tyX4_ok hown (hts (.classLink RL 8 RX4) (List.mem_of_getElem? (i := 0) (by decide +kernel))) (hts (.instantiable RX4 9) (List.mem_of_getElem? (i := 1) (by decide +kernel))) (hts (.initialized RX4) (List.mem_of_getElem? (i := 2) (by decide +kernel))) hK hP hD hS hA0 rfl (fun j hj => by rcases (show j = 0 ∨ j = 1 ∨ j = 2 ∨ j = 3 ∨ j = 4 ∨ j = 5 ∨ j = 6 ∨ j = 7 ∨ j = 8 by omega) with rfl | rfl | rfl | rfl | rfl | rfl | rfl | rfl | rfl <;> rfl) (Nat.le_of_ble_eq_true rfl) (Nat.le_of_ble_eq_true rfl) dL_law_0 (fun q9 H hP hD hS => ?_)
  refine W.widen (k := 1) (n := 9) (Nat.le_of_ble_eq_true rfl) (Nat.le_of_ble_eq_true rfl) ?_
  refine g_size (fun hz9 => ?_)
  obtain rfl : q9 = x0 := g_pin (ws := []) (k := 0) hD trivial rfl hP (by omega)
  have hP : va_P D vwCl [(q9, .inr (4, [.null, .null, .null, .null, .null, .null, .null, .int 0, .int 0]))] H := hP
  refine lv_dup hx hb dL_law_3 rfl ?_
  refine gc_inN (As := []) (rest := [.ref q9]) (B := fun H => H.size = q9 + 1 ∧ va_P D vwCl [(q9, .inr (4, [.null, .null, .null, .null, .null, .null, .null, .int 0, .int 0]))] H) (B' := fun H => H.size = q9 + 201 ∧ va_P D vwCl (GW cI cC cZ cQ q9 (r, r, ((z0, 0), r, 0), (z0, 0), (fun _ => r), (fun _ => r), z0, 0, 0)) H) (k2 := 201) (n2 := 2322) ⟨hx, hb, hml, hown, hts⟩ hN hK (kX4_init l D cI cC cZ cQ cJ q9 i1) (cwI 0 hts gL_law_X4_init rfl rfl rfl (hts (.initialized RX4) (List.mem_of_getElem? (i := 2) (by decide +kernel))) (hts (.methodLink RL 97 yX4_init) (List.mem_of_getElem? (i := 8) (by decide +kernel))) (hts (.instanceMethod yX4_init) (List.mem_of_getElem? (i := 9) (by decide +kernel))) rfl (by decide +kernel) ⟨Nat.le_of_ble_eq_true rfl, Nat.le_of_ble_eq_true rfl⟩) ⟨by have h9 : q9 < H.size := (hP 0 _ rfl).lt; omega, hP⟩ hS (fun a9 h9 => h9) rfl hl.1 rfl (Nat.le_of_ble_eq_true rfl) ⟨Nat.le_of_ble_eq_true rfl, Nat.le_of_ble_eq_true rfl⟩ rfl rfl dL_law_4 (fun H1 locs hB1 hS _ hk1 => ?_)
  obtain ⟨hz1, hP⟩ := hB1
  generalize H1 = H at hz1 hP hS ⊢
  refine lv_astore_n (lv' := [(1, .ref q9), (0, .ref b)]) hx hb dL_law_7 rfl hl (by decide) rfl (fun ls hl => ?_)
  have hD : va_D (gGe q9) (GW cI cC cZ cQ q9 (r, r, ((z0, 0), r, 0), (z0, 0), (fun _ => r), (fun _ => r), z0, 0, 0)) := gOrd_D (GW_ord cI cC cZ cQ q9 _) (fun _ h9 => h9.1)
  refine va_new (ci := 5) (fs := [.int 0, .null, .int 0, .int 0, .int 0, .null, .int 0, .null, .null, .null, .int 0, .null, .null, .null, .null]) (C := RX5) (T := TX5) (N := 15) hx hb hts inlX5 tyX5 tyX5_ok hown (hts (.classLink RL 98 RX5) (List.mem_of_getElem? (i := 3) (by decide +kernel))) (hts (.instantiable RX5 15) (List.mem_of_getElem? (i := 4) (by decide +kernel))) (hts (.initialized RX5) (List.mem_of_getElem? (i := 5) (by decide +kernel))) hK hP hD hS hA0 rfl (fun j hj => by rcases (show j = 0 ∨ j = 1 ∨ j = 2 ∨ j = 3 ∨ j = 4 ∨ j = 5 ∨ j = 6 ∨ j = 7 ∨ j = 8 ∨ j = 9 ∨ j = 10 ∨ j = 11 ∨ j = 12 ∨ j = 13 ∨ j = 14 by omega) with rfl | rfl | rfl | rfl | rfl | rfl | rfl | rfl | rfl | rfl | rfl | rfl | rfl | rfl | rfl <;> rfl) (Nat.le_of_ble_eq_true rfl) (Nat.le_of_ble_eq_true rfl) dL_law_8 (fun q8 H hP hD hS => ?_)
  refine W.widen (k := 202) (n := 2337) (Nat.le_of_ble_eq_true rfl) (Nat.le_of_ble_eq_true rfl) ?_
  refine g_size (fun hz9 => ?_)
  obtain rfl : q8 = q9 + 201 := g_pin hD (GW_ord cI cC cZ cQ q9 _) (GW_len cI cC cZ cQ q9 _) hP (by omega)
  refine lv_dup hx hb dL_law_11 rfl ?_
  refine gc_in (As := []) (rest := [.ref (q9 + 201)]) (B := fun H => H.size = (q9 + 201) + 1 ∧ va_P D vwCl [(q9 + 201, .inr (5, [.int 0, .null, .int 0, .int 0, .int 0, .null, .int 0, .null, .null, .null, .int 0, .null, .null, .null, .null]))] H) (B' := fun H => H.size = (q9 + 201) + 10 ∧ va_P D vwCl (MW cI cZ (q9 + 201) M0) H) (k2 := 211) (n2 := 4497) ⟨hx, hb, hml, hown, hts⟩ hK (kX5_init l D cI cC cZ cQ cJ (q9 + 201) i2) (cwI 0 hts gL_law_X5_init rfl rfl rfl (hts (.initialized RX5) (List.mem_of_getElem? (i := 5) (by decide +kernel))) (hts (.methodLink RL 100 yX5_init) (List.mem_of_getElem? (i := 79) (by decide +kernel))) (hts (.instanceMethod yX5_init) (List.mem_of_getElem? (i := 80) (by decide +kernel))) rfl (by decide +kernel) ⟨Nat.le_of_ble_eq_true rfl, Nat.le_of_ble_eq_true rfl⟩) ⟨by have h9 : q9 + 201 < H.size := (gR hP 0 _ rfl).lt; omega, gR hP⟩ hS (fun a9 h9 => Nat.le_trans (Nat.le_add_right _ _) h9) rfl hl.1 rfl (Nat.le_of_ble_eq_true rfl) ⟨Nat.le_of_ble_eq_true rfl, Nat.le_of_ble_eq_true rfl⟩ rfl rfl dL_law_12 (fun H1 locs hB1 hS _ hk1 => ?_)
  obtain ⟨hz1, hPM⟩ := hB1
  have hP : va_P D vwCl (GW cI cC cZ cQ q9 (r, r, ((z0, 0), r, 0), (z0, 0), (fun _ => r), (fun _ => r), z0, 0, 0)) H1 := gKeep (GW_ord cI cC cZ cQ q9 _) (GW_len cI cC cZ cQ q9 _) (gL hP) (fun a9 hl9 hi9 => hk1 a9 hl9 (fun z9 => by have b1 := hi9.2; have b2 : q9 + 201 ≤ a9 := z9; omega))
  generalize H1 = H at hz1 hP hPM hS ⊢
  refine lv_astore_n (lv' := [(2, .ref (q9 + 201)), (1, .ref q9), (0, .ref b)]) hx hb dL_law_15 rfl hl (by decide) rfl (fun ls hl => ?_)
  refine lv_iconst (v := 1) hx hb dL_law_16 (by decide) ?_
  have hPP : va_P D vwCl (GW cI cC cZ cQ q9 (r, r, ((z0, 0), r, 0), (z0, 0), (fun _ => r), (fun _ => r), z0, 0, 0) ++ MW cI cZ (q9 + 201) M0) H := va_P.app hP hPM
  have hO : gOrd q9 (GW cI cC cZ cQ q9 (r, r, ((z0, 0), r, 0), (z0, 0), (fun _ => r), (fun _ => r), z0, 0, 0) ++ MW cI cZ (q9 + 201) M0) := gOrd_app _ _ _ (GW_ord cI cC cZ cQ q9 _) (by rw [GW_len]; exact MW_ord cI cZ (q9 + 201) M0)
  have hD : va_D (gGe q9) (GW cI cC cZ cQ q9 (r, r, ((z0, 0), r, 0), (z0, 0), (fun _ => r), (fun _ => r), z0, 0, 0) ++ MW cI cZ (q9 + 201) M0) := gOrd_D hO (fun _ h9 => h9.1)
  refine va_newa (atype := .long) (ty := .long) (N' := 1) (a0 := (1, .inr (.inl (fun _ => 0)))) hx hb (hts (.arrayClass .long) (List.mem_of_getElem? (i := 6) (by decide +kernel))) rfl hK hPP hD hS hA0 (fun _ => rfl) (by decide) (by decide) (Nat.le_of_ble_eq_true rfl) (Nat.le_of_ble_eq_true rfl) (Nat.le_of_ble_eq_true rfl) dL_law_17 (fun q7 cA H hK7 hP hD hS => ?_)
  obtain rfl : cA = cJ := by
    have h1 := va_nm_long (hK7.2 5 (cA, .long) rfl).2
    have h2 := va_nm_long (hK.2 4 (cJ, .long) rfl).2
    rw [h1] at h2
    exact Option.some.inj h2
  refine W.widen (k := 212) (n := 4498) (Nat.le_of_ble_eq_true rfl) (Nat.le_of_ble_eq_true rfl) ?_
  refine g_size (fun hz9 => ?_)
  obtain rfl : q7 = q9 + 211 := g_pin hD hO (by rw [List.length_append, GW_len]; rfl) hP (by omega)
  refine lv_astore_n (lv' := [(3, .ref (q9 + 211)), (2, .ref (q9 + 201)), (1, .ref q9), (0, .ref b)]) hx hb dL_law_19 rfl hl (by decide) rfl (fun ls hl => ?_)
  refine lv_iconst (v := 0) hx hb dL_law_20 (by decide) ?_
  refine lv_istore (lv' := [(4, .int 0), (3, .ref (q9 + 211)), (2, .ref (q9 + 201)), (1, .ref q9), (0, .ref b)]) hx hb dL_law_21 hl (by decide) rfl (fun ls hl => ?_)
  have hP1 := gL (w1 := GW cI cC cZ cQ q9 (r, r, ((z0, 0), r, 0), (z0, 0), (fun _ => r), (fun _ => r), z0, 0, 0)) (gL hP)
  have hP2 := gR (w1 := GW cI cC cZ cQ q9 (r, r, ((z0, 0), r, 0), (z0, 0), (fun _ => r), (fun _ => r), z0, 0, 0)) (gL hP)
  exact law_loop (t := t) (D := D) (cI := cI) (cC := cC) (cZ := cZ) (cQ := cQ) (cJ := cA) ⟨C0, hK, hE, hlS, hL, hx0⟩ (L + 1) 0 (Nat.zero_le L) (by omega) _ _ _ _ _ _ ⟨hG, va_P.app hP1 (gR hP), hP2, hS, lv_sub hl [4, 3, 2, 1, 0] rfl⟩

set_option maxHeartbeats 4000000 in
set_option maxRecDepth 100000 in
/-- THE LAW, from its entry -/
theorem whole_start {p : Program} {e : Env} {s : State} {m : MethodId} {below : List Frame} {meth : Method} {c : Code} (l : Launch) (hflags : l.flags = flags0) {b L : Nat} {xs : Nat → Int32} (hL : L ≤ 260) (C0 : lw_At p s m meth c b L xs) : W p l e room_1 s m #[Value.ref b] below meth c s.heap [] 0 0 (lw_Z below #[Value.ref b] s) (entryFrame m ([Value.ref b] : List Value).toArray 7) := by
  obtain ⟨hx, hb, hr, hml, hown, htt, hX, hbl, hlocks, hgv⟩ := id C0
  have hts : ∀ w ∈ wsL_law, w.before #[Value.ref b] s = true := fun w hw => htt w (wsL_law_in w hw)
  have hown : s.vm.findClass RL = some m.cls := hown
  obtain ⟨D, cI, cC, cZ, cQ, cJ, hK⟩ := ev_K htt
  obtain ⟨t, hE⟩ := ev_all htt hgv
  obtain ⟨ca, hCh⟩ := ev_ch htt hgv
  have hN := ev_ns htt
  have hlS : l.stackTraces = false := by unfold Launch.stackTraces; rw [hflags]; decide
  obtain ⟨r, i1, hRR, hx0r⟩ := law_start
  obtain ⟨R, hR⟩ := law_all L xs hRR ⟨hx0r, fun _ _ => hx0r, fun _ _ => hx0r⟩
  obtain ⟨x0, hx0⟩ : ∃ x0, x0 = s.heap.size := ⟨_, rfl⟩
  have hE : gEnw t x0 s s.heap := by rw [hx0]; exact hE
  have hCh : gChr x0 ca s s.heap := by rw [hx0]; exact hCh
  have hA0 : ∀ a : Nat, s.heap.size ≤ a → gGe x0 a := fun a h => by show x0 ≤ a; omega
  have hl := lv_entry ([.ref b]) (n := 7) (Nat.le_of_ble_eq_true rfl)
  rw [lg_entry_eq]
  generalize (lg_sl ([.ref b]) ++ List.replicate (7 - (lg_sl ([.ref b])).length) Slot.unset).toArray = ls at hl ⊢
  have hl : lv_has ls 7 [(0, .ref b)] := hl
  have hS : va_S (gGe x0) s.heap s.heap [] := va_S.rf
  have hP : va_P D vwCl [] s.heap := fun k q h => by simp at h
  have hD : va_D (gGe x0) [] := ⟨fun i j p q h => by simp at h, fun k q h => by simp at h⟩
  obtain ⟨H, hH⟩ : ∃ H, H = s.heap := ⟨_, rfl⟩
  obtain ⟨locs, hlz⟩ : ∃ z : List Loc, z = [] := ⟨_, rfl⟩
  have hP : va_P D vwCl [] H := by rw [hH]; exact hP
  have hS : va_S (gGe x0) s.heap H locs := by rw [hH, hlz]; exact hS
  have hc4 := hts (.classLink RL 10 RX4) (List.mem_of_getElem? (i := 0) (by decide +kernel))
  have hi4 := hts (.instantiable RX4 9) (List.mem_of_getElem? (i := 1) (by decide +kernel))
  have hz4 := hts (.initialized RX4) (List.mem_of_getElem? (i := 2) (by decide +kernel))
  have hm4 := hts (.methodLink RL 241 yX4_init) (List.mem_of_getElem? (i := 4) (by decide +kernel))
  have hn4 := hts (.instanceMethod yX4_init) (List.mem_of_getElem? (i := 5) (by decide +kernel))
  refine gc_at hH hlz ?_
  refine va_new (ci := 4) (fs := [.null, .null, .null, .null, .null, .null, .null, .int 0, .int 0]) (C := RX4) (T := TX4) (N := 9) hx hb hts inlX4 tyX4 tyX4_ok hown hc4 hi4 hz4 hK hP hD hS hA0 rfl (fun j hj => by rcases (show j = 0 ∨ j = 1 ∨ j = 2 ∨ j = 3 ∨ j = 4 ∨ j = 5 ∨ j = 6 ∨ j = 7 ∨ j = 8 by omega) with rfl | rfl | rfl | rfl | rfl | rfl | rfl | rfl | rfl <;> rfl) (Nat.le_of_ble_eq_true rfl) (Nat.le_of_ble_eq_true rfl) dL_law_0 (fun q9 H hP hD hS => ?_)
  refine W.widen (k := 1) (n := 9) (Nat.le_of_ble_eq_true rfl) (Nat.le_of_ble_eq_true rfl) ?_
  refine g_size (fun hz9 => ?_)
  obtain rfl : q9 = x0 := g_pin (ws := []) (k := 0) hD trivial rfl hP (by omega)
  have hP : va_P D vwCl [(q9, .inr (4, [.null, .null, .null, .null, .null, .null, .null, .int 0, .int 0]))] H := hP
  refine lv_dup hx hb dL_law_3 rfl ?_
  refine gc_inN (As := []) (rest := [.ref q9]) (B := fun H => H.size = q9 + 1 ∧ va_P D vwCl [(q9, .inr (4, [.null, .null, .null, .null, .null, .null, .null, .int 0, .int 0]))] H) (B' := fun H => H.size = q9 + 201 ∧ va_P D vwCl (GW cI cC cZ cQ q9 (r, r, ((z0, 0), r, 0), (z0, 0), (fun _ => r), (fun _ => r), z0, 0, 0)) H) (k2 := 201) (n2 := 2322) ⟨hx, hb, hml, hown, hts⟩ hN hK (kX4_init l D cI cC cZ cQ cJ q9 i1) (cwI 0 hts gL_law_X4_init rfl rfl rfl hz4 hm4 hn4 rfl (by decide +kernel) ⟨Nat.le_of_ble_eq_true rfl, Nat.le_of_ble_eq_true rfl⟩) ⟨by have h9 : q9 < H.size := (hP 0 _ rfl).lt; omega, hP⟩ hS (fun a9 h9 => h9) rfl hl.1 rfl (Nat.le_of_ble_eq_true rfl) ⟨Nat.le_of_ble_eq_true rfl, Nat.le_of_ble_eq_true rfl⟩ rfl rfl dL_law_4 (fun H1 locs hB1 hS _ hk1 => ?_)
  obtain ⟨hz1, hP⟩ := hB1
  generalize H1 = H at hz1 hP hS ⊢
  refine lv_astore_n (lv' := [(1, .ref q9), (0, .ref b)]) hx hb dL_law_7 rfl hl (by decide) rfl (fun ls hl => ?_)
  have hD : va_D (gGe q9) (GW cI cC cZ cQ q9 (r, r, ((z0, 0), r, 0), (z0, 0), (fun _ => r), (fun _ => r), z0, 0, 0)) := gOrd_D (GW_ord cI cC cZ cQ q9 _) (fun _ h9 => h9.1)
  refine va_new (ci := 4) (fs := [.null, .null, .null, .null, .null, .null, .null, .int 0, .int 0]) (C := RX4) (T := TX4) (N := 9) hx hb hts inlX4 tyX4 tyX4_ok hown hc4 hi4 hz4 hK hP hD hS hA0 rfl (fun j hj => by rcases (show j = 0 ∨ j = 1 ∨ j = 2 ∨ j = 3 ∨ j = 4 ∨ j = 5 ∨ j = 6 ∨ j = 7 ∨ j = 8 by omega) with rfl | rfl | rfl | rfl | rfl | rfl | rfl | rfl | rfl <;> rfl) (Nat.le_of_ble_eq_true rfl) (Nat.le_of_ble_eq_true rfl) dL_law_8 (fun q8 H hP hD hS => ?_)
  refine W.widen (k := 202) (n := 2331) (Nat.le_of_ble_eq_true rfl) (Nat.le_of_ble_eq_true rfl) ?_
  refine g_size (fun hz9 => ?_)
  obtain rfl : q8 = q9 + 201 := g_pin hD (GW_ord cI cC cZ cQ q9 _) (GW_len cI cC cZ cQ q9 _) hP (by omega)
  refine lv_dup hx hb dL_law_11 rfl ?_
  refine gc_inN (As := []) (rest := [.ref (q9 + 201)]) (B := fun H => H.size = (q9 + 201) + 1 ∧ va_P D vwCl [(q9 + 201, .inr (4, [.null, .null, .null, .null, .null, .null, .null, .int 0, .int 0]))] H) (B' := fun H => H.size = (q9 + 201) + 201 ∧ va_P D vwCl (GW cI cC cZ cQ (q9 + 201) (r, r, ((z0, 0), r, 0), (z0, 0), (fun _ => r), (fun _ => r), z0, 0, 0)) H) (k2 := 402) (n2 := 4644) ⟨hx, hb, hml, hown, hts⟩ hN hK (kX4_init l D cI cC cZ cQ cJ (q9 + 201) i1) (cwI 0 hts gL_law_X4_init rfl rfl rfl hz4 hm4 hn4 rfl (by decide +kernel) ⟨Nat.le_of_ble_eq_true rfl, Nat.le_of_ble_eq_true rfl⟩) ⟨by have h9 : q9 + 201 < H.size := (gR hP 0 _ rfl).lt; omega, gR hP⟩ hS (fun a9 h9 => Nat.le_trans (Nat.le_add_right _ _) h9) rfl hl.1 rfl (Nat.le_of_ble_eq_true rfl) ⟨Nat.le_of_ble_eq_true rfl, Nat.le_of_ble_eq_true rfl⟩ rfl rfl dL_law_12 (fun H1 locs hB1 hS _ hk1 => ?_)
  obtain ⟨hz1, hPQ⟩ := hB1
  have hP : va_P D vwCl (GW cI cC cZ cQ q9 (r, r, ((z0, 0), r, 0), (z0, 0), (fun _ => r), (fun _ => r), z0, 0, 0)) H1 := gKeep (GW_ord cI cC cZ cQ q9 _) (GW_len cI cC cZ cQ q9 _) (gL hP) (fun a9 hl9 hi9 => hk1 a9 hl9 (fun z9 => by have b1 := hi9.2; have b2 : q9 + 201 ≤ a9 := z9; omega))
  generalize H1 = H at hz1 hP hPQ hS ⊢
  refine lv_astore_n (lv' := [(2, .ref (q9 + 201)), (1, .ref q9), (0, .ref b)]) hx hb dL_law_15 rfl hl (by decide) rfl (fun ls hl => ?_)
  exact law_run (t := t) (lo := q9) (ca := ca) (cJ := cJ) C0 hts hK hE hCh hlS (Nat.le_refl _) hx0 (Nat.le_refl _) (by omega) ((r, r, ((z0, 0), r, 0), (z0, 0), (fun _ => r), (fun _ => r), z0, 0, 0), (r, r, ((z0, 0), r, 0), (z0, 0), (fun _ => r), (fun _ => r), z0, 0, 0)) hR H locs ls (va_P.app hP hPQ) hS (lv_sub hl [2, 1, 0] rfl)

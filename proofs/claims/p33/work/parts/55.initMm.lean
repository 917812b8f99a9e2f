/-! Memory's constructor (by hand): a row of k lifts, made one by one -/
def MmV (cI cQ : ClassId) (q k j : Nat) (r : LSt) : va_W := (q, .inr (2, [.ref (q + 1)])) :: (q + 1, .inl (cQ, k, .inr (.inr (.inr (.inr (fun i => if i < j then some (q + 2 + 10 * i) else none)))))) :: (List.range j).flatMap (fun i => LW cI (q + 2 + 10 * i) r)
theorem MmV_ord (cI cQ : ClassId) (q k j : Nat) (r : LSt) : gOrd q (MmV cI cQ q k j r) := ⟨rfl, rfl, gFm_ord cI (q + 2) (fun _ => r) j⟩
theorem MmV_len (cI cQ : ClassId) (q k j : Nat) (r : LSt) : (MmV cI cQ q k j r).length = 2 + 10 * j := by
  show _ + 1 + 1 = _
  rw [gFm_len cI (q + 2) (fun _ => r) j]; omega
theorem MmV_next (cI cQ : ClassId) (q k j : Nat) (r : LSt) : (MmV cI cQ q k j r ++ LW cI (q + 2 + 10 * j) r).set 1 (q + 1, .inl (cQ, k, .inr (.inr (.inr (.inr (va_up (fun i => if i < j then some (q + 2 + 10 * i) else none) j (some (q + 2 + 10 * j)))))))) = MmV cI cQ q k (j + 1) r := by
  have e : va_up (fun i => if i < j then some (q + 2 + 10 * i) else none) j (some (q + 2 + 10 * j)) = fun i => if i < j + 1 then some (q + 2 + 10 * i) else none := by
    funext i
    rcases Nat.lt_trichotomy i j with h | h | h
    · rw [vup_ne _ _ (by omega), if_pos h, if_pos (by omega)]
    · subst h; rw [vup_eq, if_pos (by omega)]
    · rw [vup_ne _ _ (by omega), if_neg (by omega), if_neg (by omega)]
  rw [e]
  unfold MmV
  rw [List.range_succ, List.flatMap_append]
  simp
set_option maxHeartbeats 8000000 in
set_option maxRecDepth 100000 in
theorem kX2_init (l : Launch) (D : va_G) (cI cC cZ cQ cJ : ClassId) (q k : Nat) (hk0 : 0 < k) (hk : k ≤ 14) {r : LSt} (hr : fX0_init = some r) : Met l yX2_init wsX2_init ({ frames := 2, cells := 1 + 10 * k, slots := k + 114 * k, locals := 41 } : Room) (va_Pc [.ref q, .int (nI k)] (gBn D (gTy cI cC cZ cQ cJ) (fun H => H.size = q + 1 ∧ va_P D vwCl [(q, .inr (2, [.null]))] H))) (va_Qv (fun _ : Unit => True) (fun _ t => t.heap.size = q + (2 + 10 * k) ∧ va_P D vwCl (MmW cI cQ q k (fun _ => r)) t.heap) (gGe q)) (1 + 10 * k) (k + 114 * k) (gGe q) := by
  refine Met.ofW (cc := cX2_init) (maxL := 3) (ret := none) (by decide) rfl ?_
  intro p e s m args below meth c s₁ B hml hv
  obtain ⟨rfl, ⟨⟨hsz, hP⟩, hK⟩, hN⟩ := hv
  have hx := B.exec
  have hb := B.bytes
  have hr9 := B.returns
  have hts := atoms_spec (ws := wsX2_init) B.pre
  have hown : s.vm.findClass RX2 = some m.cls := findClass_of_methodNamed B.named
  have hlocks := B.notSynchronized
  have hin : meth.name = "<init>" := (name_of_methodNamed B.named B.method).1
  have hA0 : ∀ a : Nat, s.heap.size ≤ a → gGe q a := fun a h => by show q ≤ a; omega
  have hl := lv_entry ([.ref q, .int (nI k)]) (n := 3) (Nat.le_of_ble_eq_true rfl)
  rw [lg_entry_eq]
  generalize (lg_sl ([.ref q, .int (nI k)]) ++ List.replicate (3 - (lg_sl ([.ref q, .int (nI k)])).length) Slot.unset).toArray = ls at hl ⊢
  have hl : lv_has ls 3 [(0, .ref q), (1, .int (nI k))] := hl
  have hS : va_S (gGe q) s.heap s.heap [] := va_S.rf
  have hD : va_D (gGe q) [(q, .inr (2, [.null]))] := gOrd_D (A := gGe q) (l := [(q, .inr (2, [.null]))]) (q := q) ⟨rfl, trivial⟩ (fun _ h9 => h9.1)
  have hinX2 : ∀ w ∈ wsX20, w ∈ wsX2_init := by decide +kernel
  have hinX0 : ∀ w ∈ wsX00, w ∈ wsX2_init := by decide +kernel
  have hf9 := hts (.fieldLink RX2 9 "GripInspector$Memory" "rows" "[LGripInspector$Lift;") (by decide +kernel)
  have LP : ∀ (n j : Nat) (H : Heap) (locs : List Loc) (ls : Array Slot), j ≤ k → k ≤ j + n → va_P D vwCl (MmV cI cQ q k j r) H → va_S (gGe q) s.heap H locs → lv_has ls 3 [(0, .ref q), (2, .int (nI j))] → W p l e ({ frames := 2, cells := 1 + 10 * k, slots := k + 114 * k, locals := 41 } : Room) s m ([.ref q, .int (nI k)] : List Value).toArray below meth c H locs (1 + 10 * j) (k + 114 * j) (MQ below (va_Qv (fun _ : Unit => True) (fun _ t => t.heap.size = q + (2 + 10 * k) ∧ va_P D vwCl (MmW cI cQ q k (fun _ => r)) t.heap) (gGe q)) ([.ref q, .int (nI k)] : List Value).toArray s (1 + 10 * k) (k + 114 * k) (gGe q)) (F0 m 22 ls []) := by
    intro n
    induction n with
    | zero =>
      intro j H locs ls hj hn hP hS hl
      obtain rfl : k = j := by omega
      refine lv_iload_n hx hb dX2_init_22 rfl (lv_at hl 1 rfl) ?_
      refine lv_aload_n hx hb dX2_init_23 rfl (lv_at hl 0 rfl) ?_
      refine va_get (D := D) (ci := 2) (v := .ref (q + 1)) (C := RX2) (T := TX2) (N := 1) hx hb hts hinX2 hown hK hP 0 rfl rfl 0 (by decide) hf9 (fun _ h9 => h9) rfl dX2_init_24 ?_
      refine va_alen hx hb hK hP 1 3 (x := (k, .inr (.inr (.inr (.inr (fun i => if i < k then some (q + 2 + 10 * i) else none)))))) rfl (ty := .object "GripInspector$Lift") rfl (v := nI k) rfl dX2_init_27 ?_
      refine lv_icmp_ge (tgt := 50) hx hb dX2_init_28 (by decide) (fun _ => ?_) (fun c => absurd (nI_le (Nat.le_refl k) (by omega)) c)
      refine g_size (fun hz9 => ?_)
      have hlen := MmV_len cI cQ q k k r
      have hlast : q + (2 + 10 * k - 1) < H.size := by
        have h5 : (MmV cI cQ q k k r)[2 + 10 * k - 1]? = some ((MmV cI cQ q k k r)[2 + 10 * k - 1]'(by omega)) := List.getElem?_eq_getElem (by omega)
        have h6 := gOrd_at _ q _ _ (MmV_ord cI cQ q k k r) h5
        have h7 := (hP _ _ h5).lt
        omega
      exact W.vret hx hb hr9 (fun t ht hW => ⟨⟨(), rfl, trivial, gHB (B := fun H => H.size = q + (2 + 10 * k) ∧ va_P D vwCl (MmW cI cQ q k (fun _ => r)) H) ht ⟨by omega, hP⟩⟩, hS.F ht⟩) hS.2.2 dX2_init_50
    | succ n ih =>
      intro j H locs ls hj hn hP hS hl
      rcases Nat.lt_or_ge j k with hjk | hjk
      · refine lv_iload_n hx hb dX2_init_22 rfl (lv_at hl 1 rfl) ?_
        refine lv_aload_n hx hb dX2_init_23 rfl (lv_at hl 0 rfl) ?_
        refine va_get (D := D) (ci := 2) (v := .ref (q + 1)) (C := RX2) (T := TX2) (N := 1) hx hb hts hinX2 hown hK hP 0 rfl rfl 0 (by decide) hf9 (fun _ h9 => h9) rfl dX2_init_24 ?_
        refine va_alen hx hb hK hP 1 3 (x := (k, .inr (.inr (.inr (.inr (fun i => if i < j then some (q + 2 + 10 * i) else none)))))) rfl (ty := .object "GripInspector$Lift") rfl (v := nI k) rfl dX2_init_27 ?_
        refine lv_icmp_ge (tgt := 50) hx hb dX2_init_28 (by decide) (fun c => absurd c (nI_ge hjk (by omega))) (fun _ => ?_)
        refine lv_aload_n hx hb dX2_init_31 rfl (lv_at hl 0 rfl) ?_
        refine va_get (D := D) (ci := 2) (v := .ref (q + 1)) (C := RX2) (T := TX2) (N := 1) hx hb hts hinX2 hown hK hP 0 rfl rfl 0 (by decide) hf9 (fun _ h9 => h9) rfl dX2_init_32 ?_
        refine lv_iload_n hx hb dX2_init_35 rfl (lv_at hl 1 rfl) ?_
        have hD : va_D (gGe q) (MmV cI cQ q k j r) := gOrd_D (A := gGe q) (MmV_ord cI cQ q k j r) (fun _ h9 => h9.1)
        have hc1 : 1 + 10 * j + 1 ≤ 1 + 10 * k := by omega
        have hc2 : k + 114 * j + 13 ≤ k + 114 * k := by omega
        refine va_new (ci := 0) (fs := [.null, .null, .null, .null, .null, .null, .null, .null, .null, .int 0, .int 0, .int 0, .long 0]) (C := RX0) (T := TX0) (N := 13) hx hb hts hinX0 tyX0 tyX0_ok hown (hts (.classLink RX2 7 RX0) (by decide +kernel)) (hts (.instantiable RX0 13) (by decide +kernel)) (hts (.initialized RX0) (by decide +kernel)) hK hP hD hS hA0 rfl (fun j hj => by rcases (show j = 0 ∨ j = 1 ∨ j = 2 ∨ j = 3 ∨ j = 4 ∨ j = 5 ∨ j = 6 ∨ j = 7 ∨ j = 8 ∨ j = 9 ∨ j = 10 ∨ j = 11 ∨ j = 12 by omega) with rfl | rfl | rfl | rfl | rfl | rfl | rfl | rfl | rfl | rfl | rfl | rfl | rfl <;> rfl) hc1 hc2 dX2_init_36 (fun q9 H hP hD hS => ?_)
        refine g_size (fun hz9 => ?_)
        have e9 := g_pin hD (MmV_ord cI cQ q k j r) (MmV_len cI cQ q k j r) hP (by omega)
        obtain rfl : q9 = q + 2 + 10 * j := by omega
        refine lv_dup hx hb dX2_init_39 rfl ?_
        have hb9 : q + 2 + 10 * j < H.size := (gR hP 0 _ rfl).lt
        refine gc_in (As := []) (rest := [.ref (q + 2 + 10 * j), .int (nI j), .ref (q + 1)]) (B := fun H => H.size = (q + 2 + 10 * j) + 1 ∧ va_P D vwCl [(q + 2 + 10 * j, .inr (0, [.null, .null, .null, .null, .null, .null, .null, .null, .null, .int 0, .int 0, .int 0, .long 0]))] H) (B' := fun H => H.size = (q + 2 + 10 * j) + 10 ∧ va_P D vwCl (LW cI (q + 2 + 10 * j) r) H) (k2 := 1 + 10 * (j + 1)) (n2 := k + 114 * (j + 1)) ⟨hx, hb, hml, hown, hts⟩ hK (kX0_init l D cI cC cZ cQ cJ (q + 2 + 10 * j) hr) (cwI 0 hts gX2_init_X0_init rfl rfl rfl (hts (.initialized RX0) (by decide +kernel)) (hts (.methodLink RX2 15 yX0_init) (by decide +kernel)) (hts (.instanceMethod yX0_init) (by decide +kernel)) rfl (by decide +kernel) ⟨Nat.le_of_ble_eq_true rfl, Nat.le_of_ble_eq_true rfl⟩) ⟨by omega, gR hP⟩ hS (fun a9 h9 => by have h8 : q + 2 + 10 * j ≤ a9 := h9; show q ≤ a9; omega) rfl hl.1 rfl (Nat.le_of_ble_eq_true rfl) ⟨by show 1 + 10 * j + 1 + 9 ≤ 1 + 10 * k; omega, by show k + 114 * j + 13 + 101 ≤ k + 114 * k; omega⟩ (by omega) (by omega) dX2_init_40 (fun H1 locs hB1 hS _ hk1 => ?_)
        have hP : va_P D vwCl (MmV cI cQ q k j r ++ LW cI (q + 2 + 10 * j) r) H1 := va_P.app (gKeep (l := MmV cI cQ q k j r) (n := 2 + 10 * j) (q := q) (MmV_ord cI cQ q k j r) (MmV_len cI cQ q k j r) (gL hP) (fun a9 hl9 hi9 => hk1 a9 hl9 (fun z9 => by have b1 := hi9.2; have b2 : q + 2 + 10 * j ≤ a9 := z9; omega))) hB1.2
        generalize H1 = H at hP hS ⊢
        have hD : va_D (gGe q) (MmV cI cQ q k j r ++ LW cI (q + 2 + 10 * j) r) := gOrd_D (A := gGe q) (q := q) (gOrd_app _ _ _ (MmV_ord cI cQ q k j r) (by rw [MmV_len]; have h3 := LW_ord cI (q + 2 + 10 * j) r; rw [show q + (2 + 10 * j) = q + 2 + 10 * j by omega]; exact h3)) (fun _ h9 => h9.1)
        have hix : (MmV cI cQ q k j r ++ LW cI (q + 2 + 10 * j) r)[2 + 10 * j]? = some (q + 2 + 10 * j, .inr (0, [.ref (q + 2 + 10 * j + 1), .ref (q + 2 + 10 * j + 2), .ref (q + 2 + 10 * j + 3), .ref (q + 2 + 10 * j + 4), .ref (q + 2 + 10 * j + 5), .ref (q + 2 + 10 * j + 6), .ref (q + 2 + 10 * j + 7), .ref (q + 2 + 10 * j + 8), .ref (q + 2 + 10 * j + 9), .int (lN_ r), .int (lStn r), .int (lClk r), .long (lRnd r)])) := by
          rw [List.getElem?_append_right (by rw [MmV_len]; exact Nat.le_refl _), MmV_len, Nat.sub_self]; rfl
        refine va_astq hx hb hK hP hD hS 1 3 (2 + 10 * j) 0 (r := (RX0, TX0, 13)) (n := k) (f := fun i => if i < j then some (q + 2 + 10 * i) else none) (cA := cQ) rfl rfl hix rfl (i := nI j) (vp_in_nI hjk (by omega)) dX2_init_43 (fun H locs hP _ hS => ?_)
        rw [nI_clamp (show j < 2 ^ 31 by omega), MmV_next] at hP
        refine lv_iinc (v := nI (j + 1)) (lv' := [(2, .int (nI (j + 1))), (0, .ref q)]) hx hb dX2_init_44 hl (k := 1) rfl (nI_succ j).symm (by decide) rfl (fun ls hl => ?_)
        refine lv_goto (tgt := 22) hx hb dX2_init_47 (by decide) ?_
        exact ih (j + 1) H locs ls (by omega) (by omega) hP hS (lv_sub hl [1, 0] rfl)
      · obtain rfl : k = j := by omega
        refine lv_iload_n hx hb dX2_init_22 rfl (lv_at hl 1 rfl) ?_
        refine lv_aload_n hx hb dX2_init_23 rfl (lv_at hl 0 rfl) ?_
        refine va_get (D := D) (ci := 2) (v := .ref (q + 1)) (C := RX2) (T := TX2) (N := 1) hx hb hts hinX2 hown hK hP 0 rfl rfl 0 (by decide) hf9 (fun _ h9 => h9) rfl dX2_init_24 ?_
        refine va_alen hx hb hK hP 1 3 (x := (k, .inr (.inr (.inr (.inr (fun i => if i < k then some (q + 2 + 10 * i) else none)))))) rfl (ty := .object "GripInspector$Lift") rfl (v := nI k) rfl dX2_init_27 ?_
        refine lv_icmp_ge (tgt := 50) hx hb dX2_init_28 (by decide) (fun _ => ?_) (fun c => absurd (nI_le (Nat.le_refl k) (by omega)) c)
        refine g_size (fun hz9 => ?_)
        have hlen := MmV_len cI cQ q k k r
        have hlast : q + (2 + 10 * k - 1) < H.size := by
          have h5 : (MmV cI cQ q k k r)[2 + 10 * k - 1]? = some ((MmV cI cQ q k k r)[2 + 10 * k - 1]'(by omega)) := List.getElem?_eq_getElem (by omega)
          have h6 := gOrd_at _ q _ _ (MmV_ord cI cQ q k k r) h5
          have h7 := (hP _ _ h5).lt
          omega
        exact W.vret hx hb hr9 (fun t ht hW => ⟨⟨(), rfl, trivial, gHB (B := fun H => H.size = q + (2 + 10 * k) ∧ va_P D vwCl (MmW cI cQ q k (fun _ => r)) H) ht ⟨by omega, hP⟩⟩, hS.F ht⟩) hS.2.2 dX2_init_50
  refine lv_aload_n hx hb dX2_init_0 rfl (lv_at hl 0 rfl) ?_
  refine W.objInit hx hb hown (hts (.methodLink RX2 1 objectInit) (by decide +kernel)) (hts (.instanceMethod objectInit) (by decide +kernel)) (hts (.code objectInit ⟨#[0xb1]⟩ 1 none) (by decide +kernel)) rfl (by rw [hml]; exact hl.1) rfl dX2_init_1 (Nat.le_of_ble_eq_true rfl) (Nat.le_of_ble_eq_true rfl) ?_
  refine W.eq (g2 := F0 m 4 ls []) rfl ?_
  refine lv_aload_n hx hb dX2_init_4 rfl (lv_at hl 0 rfl) ?_
  refine lv_iload_n hx hb dX2_init_5 rfl (lv_at hl 1 rfl) ?_
  refine lv_if_le (tgt := 13) hx hb dX2_init_6 (by decide) (fun c => absurd c (nI_nle hk0 (by omega))) (fun _ => ?_)
  refine lv_iload_n hx hb dX2_init_9 rfl (lv_at hl 1 rfl) ?_
  refine lv_goto (tgt := 14) hx hb dX2_init_10 (by decide) ?_
  refine va_newq (C := "GripInspector$Lift") hx hb hown (hts (.classLink RX2 7 RX0) (by decide +kernel)) hN.2.2.2 hK hP hD hS hA0 (N' := k) (nI_pos (by omega)) (nI_clamp (by omega)) (by omega) (by show 0 + 1 ≤ 1 + 10 * k; omega) (by show 0 + k ≤ k + 114 * k; omega) dX2_init_14 (fun q9 cA9 H hK9 hP hD hS => ?_)
  obtain rfl : cQ = cA9 := g_cq (hK.2 3 _ rfl).2 (hK9.2 4 _ rfl).2
  clear hK9
  refine g_size (fun hz9 => ?_)
  obtain rfl : q9 = q + 1 := g_pin hD ⟨rfl, trivial⟩ rfl hP (by omega)
  have hP : va_P D vwCl [(q, .inr (2, [.null])), (q + 1, .inl (cQ, k, .inr (.inr (.inr (.inr (fun _ => none))))))] H := hP
  have hD : va_D (gGe q) [(q, .inr (2, [.null])), (q + 1, .inl (cQ, k, .inr (.inr (.inr (.inr (fun _ => none))))))] := hD
  refine va_putF (D := D) (ci := 2) (v := .ref (q + 1)) (ty := tyX2 0) (C := RX2) (T := TX2) (N := 1) hx hb hts hinX2 tyX2 tyX2_ok nmX2 hown hK hP hD hS 0 rfl rfl 0 (by decide) hf9 (fun _ h9 => h9) rfl hin rfl (by decide +kernel) rfl rfl (Nat.le_of_ble_eq_true rfl) dX2_init_17 (fun H locs hP _ hS => ?_)
  have hP : va_P D vwCl (MmV cI cQ q k 0 r) H := hP
  refine lv_iconst (v := 0) hx hb dX2_init_20 (by decide) ?_
  refine lv_istore_n (lv' := [(2, .int 0), (0, .ref q), (1, .int (nI k))]) hx hb dX2_init_21 rfl hl (by decide) rfl (fun ls hl => ?_)
  refine W.widen (k := 1 + 10 * 0) (n := k + 114 * 0) (Nat.le_refl _) (by omega) ?_
  exact LP k 0 H locs ls (Nat.zero_le _) (by omega) hP hS (lv_sub hl [1, 0] rfl)

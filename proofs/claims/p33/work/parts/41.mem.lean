/-! the kept lifts: rowAt, keep, recall (by hand) -/
set_option maxHeartbeats 4000000 in
set_option maxRecDepth 100000 in
theorem kX2_rowAt (l : Launch) (D : va_G) (cI cC cZ cQ cJ : ClassId) (q k : Nat) (rows : Nat → LSt) (p0 : Int32) (hk : k ≤ 14) (hi : vp_in p0 k) : Met l yX2_rowAt wsX2_rowAt ({ frames := 0, cells := 0, slots := 0, locals := 0 } : Room) (va_Pc [.ref q, .int p0] (gB D (gTy cI cC cZ cQ cJ) (va_P D vwCl (MmW cI cQ q k rows)))) (va_Sr (fun a => a = q + 2 + 10 * p0.toNatClampNeg) (fun a => .ref a)) 0 0 (fun _ => False) := by
  refine Met.ofW (cc := cX2_rowAt) (maxL := 2) (ret := (some (.object "GripInspector$Lift"))) (by decide) rfl ?_
  intro p e s m args below meth c s₁ B hml hv
  obtain ⟨rfl, hP, hK⟩ := hv
  have hx := B.exec
  have hb := B.bytes
  have hr := B.returns
  have hts := atoms_spec (ws := wsX2_rowAt) B.pre
  have hown : s.vm.findClass RX2 = some m.cls := findClass_of_methodNamed B.named
  have hlocks := B.notSynchronized
  have hinX2 : ∀ w ∈ wsX20, w ∈ wsX2_rowAt := by decide +kernel
  have hf9 := hts (.fieldLink RX2 9 "GripInspector$Memory" "rows" "[LGripInspector$Lift;") (by decide +kernel)
  have hl := lv_entry ([.ref q, .int p0]) (n := 2) (Nat.le_of_ble_eq_true rfl)
  rw [lg_entry_eq]
  generalize (lg_sl ([.ref q, .int p0]) ++ List.replicate (2 - (lg_sl ([.ref q, .int p0])).length) Slot.unset).toArray = ls at hl ⊢
  have hl : lv_has ls 2 [(0, .ref q), (1, .int p0)] := hl
  obtain ⟨j, hj, ej⟩ := vp_in_of hi (by omega)
  have hcl : p0.toNatClampNeg = j := by rw [ej]; exact nI_clamp (by omega)
  refine lv_iload_n hx hb dX2_rowAt_0 rfl (lv_at hl 1 rfl) ?_
  refine lv_if_lt (tgt := 22) hx hb dX2_rowAt_1 (by decide) (fun c => absurd c (by rw [ej]; exact nI_pos (by omega))) (fun _ => ?_)
  refine lv_iload_n hx hb dX2_rowAt_4 rfl (lv_at hl 1 rfl) ?_
  refine lv_aload_n hx hb dX2_rowAt_5 rfl (lv_at hl 0 rfl) ?_
  refine va_get (D := D) (ci := 2) (v := .ref (q + 1)) (C := RX2) (T := TX2) (N := 1) hx hb hts hinX2 hown hK hP 0 rfl rfl 0 (by decide) hf9 (fun _ h9 => h9) rfl dX2_rowAt_6 ?_
  refine va_alen hx hb hK hP 1 3 (x := (k, .inr (.inr (.inr (.inr (fun i => if i < k then some (q + 2 + 10 * i) else none)))))) rfl (ty := .object "GripInspector$Lift") rfl (v := nI k) rfl dX2_rowAt_9 ?_
  refine lv_icmp_ge (tgt := 22) hx hb dX2_rowAt_10 (by decide) (fun c => absurd c (by rw [ej]; exact nI_ge hj (by omega))) (fun _ => ?_)
  refine lv_aload_n hx hb dX2_rowAt_13 rfl (lv_at hl 0 rfl) ?_
  refine va_get (D := D) (ci := 2) (v := .ref (q + 1)) (C := RX2) (T := TX2) (N := 1) hx hb hts hinX2 hown hK hP 0 rfl rfl 0 (by decide) hf9 (fun _ h9 => h9) rfl dX2_rowAt_14 ?_
  refine lv_iload_n hx hb dX2_rowAt_17 rfl (lv_at hl 1 rfl) ?_
  refine va_aldq hx hb hK hP 1 3 (C := "GripInspector$Lift") (f := fun i => if i < k then some (q + 2 + 10 * i) else none) rfl rfl hi dX2_rowAt_18 ?_
  have e9 : va_rf ((fun i => if i < k then some (q + 2 + 10 * i) else none) p0.toNatClampNeg) = .ref (q + 2 + 10 * p0.toNatClampNeg) := by
    show va_rf (if p0.toNatClampNeg < k then some (q + 2 + 10 * p0.toNatClampNeg) else none) = _
    rw [if_pos (by rw [hcl]; exact hj)]; rfl
  rw [e9]
  refine lv_goto (tgt := 23) hx hb dX2_rowAt_19 (by decide) ?_
  exact W.aret hx hb hr (Or.inl ⟨_, rfl⟩) (Or.inr ⟨_, rfl⟩) (fun t ht hW => ⟨_, rfl, rfl, ht⟩) t_nil dX2_rowAt_23
theorem gHB {B : Heap → Prop} {t : State} {H : Heap} (ht : t.heap = H) (h : B H) : B t.heap := by rw [ht]; exact h
/-- the picture of kept lifts and one lift apart from them -/
def mkB (D : va_G) (cI cQ : ClassId) (q k z : Nat) (rows : Nat → LSt) (L : LSt) : Heap → Prop := fun H => va_P D vwCl (MmW cI cQ q k rows) H ∧ va_P D vwCl (LW cI z L) H
set_option maxHeartbeats 4000000 in
set_option maxRecDepth 100000 in
theorem kX2_keep (l : Launch) (D : va_G) (cI cC cZ cQ cJ : ClassId) (q k z : Nat) (rows : Nat → LSt) (L : LSt) (p0 : Int32) (hk : k ≤ 14) (hi : vp_in p0 k) (hd : q + (2 + 10 * k) ≤ z ∨ z + 10 ≤ q) : Met l yX2_keep wsX2_keep ({ frames := 2, cells := 0, slots := 0, locals := 61 } : Room) (va_Pc [.ref q, .int p0, .ref z] (gB D (gTy cI cC cZ cQ cJ) (mkB D cI cQ q k z rows L))) (va_Qv (fun _ : Unit => True) (fun _ t => mkB D cI cQ q k z (va_up rows p0.toNatClampNeg (lCopy (rows p0.toNatClampNeg) L)) L t.heap) (gOr (fIv q (2 + 10 * k)) (fIv z 10))) 0 0 (gOr (fIv q (2 + 10 * k)) (fIv z 10)) := by
  refine Met.ofW (cc := cX2_keep) (maxL := 4) (ret := none) (by decide) rfl ?_
  intro p e s m args below meth c s₁ B hml hv
  obtain ⟨rfl, ⟨hP, hP2⟩, hK⟩ := hv
  have hx := B.exec
  have hb := B.bytes
  have hr := B.returns
  have hts := atoms_spec (ws := wsX2_keep) B.pre
  have hown : s.vm.findClass RX2 = some m.cls := findClass_of_methodNamed B.named
  have hlocks := B.notSynchronized
  have hl := lv_entry ([.ref q, .int p0, .ref z]) (n := 4) (Nat.le_of_ble_eq_true rfl)
  rw [lg_entry_eq]
  generalize (lg_sl ([.ref q, .int p0, .ref z]) ++ List.replicate (4 - (lg_sl ([.ref q, .int p0, .ref z])).length) Slot.unset).toArray = ls at hl ⊢
  have hl : lv_has ls 4 [(0, .ref q), (1, .int p0), (2, .ref z)] := hl
  have hS : va_S (gOr (fIv q (2 + 10 * k)) (fIv z 10)) s.heap s.heap [] := va_S.rf
  obtain ⟨j, hj, ej⟩ := vp_in_of hi (by omega)
  have hcl : p0.toNatClampNeg = j := by rw [ej]; exact nI_clamp (by omega)
  refine lv_aload_n hx hb dX2_keep_0 rfl (lv_at hl 0 rfl) ?_
  refine lv_iload_n hx hb dX2_keep_1 rfl (lv_at hl 1 rfl) ?_
  refine va_csr (W.runV (As := [.int p0]) (rest := []) ⟨hx, hb, hml, hown, hts⟩ (kX2_rowAt l D cI cC cZ cQ cJ q k rows p0 hk hi) (cwV 1 hts gX2_keep_X2_rowAt rfl rfl rfl (by decide +kernel) ⟨Nat.le_of_ble_eq_true rfl, Nat.le_of_ble_eq_true rfl⟩) ⟨gB_blind, va_recv hK hP (ci := 2) (q0 := 0) rfl rfl, fun U hU hW => ⟨rfl, by rw [hU]; exact hP, va_K.moved hW.alike hK⟩⟩ rfl rfl hl.1 rfl (lv_room (Nat.le_of_ble_eq_true rfl)) dX2_keep_2 ⟨Nat.zero_le _, Nat.zero_le _⟩) (fun a ha => ?_)
  rw [hcl] at ha
  subst ha
  refine lv_astore_n (lv' := [(3, .ref (q + 2 + 10 * j)), (0, .ref q), (1, .int p0), (2, .ref z)]) hx hb dX2_keep_5 rfl hl (by decide) rfl (fun ls hl => ?_)
  refine lv_aload_n hx hb dX2_keep_6 rfl (lv_at hl 0 rfl) ?_
  refine lv_ifnull hx hb dX2_keep_7 ?_
  refine lv_aload_n hx hb dX2_keep_10 rfl (lv_at hl 0 rfl) ?_
  refine lv_aload_n hx hb dX2_keep_11 rfl (lv_at hl 3 rfl) ?_
  have hPr := MmW_row hP hj
  refine gc_wv (As := [.ref z]) (rest := []) (B := va_P D vwCl (LLW cI (q + 2 + 10 * j) z (rows j, L))) (B' := va_P D vwCl (LLW cI (q + 2 + 10 * j) z (lCopy (rows j) L, L))) ⟨hx, hb, hml, hown, hts⟩ hK (kX0_become l D cI cC cZ cQ cJ (q + 2 + 10 * j) z (rows j, L) (by omega) (become_copy (rows j) L)) (cwV 1 hts gX2_keep_X0_become rfl rfl rfl (by decide +kernel) ⟨Nat.le_of_ble_eq_true rfl, Nat.le_of_ble_eq_true rfl⟩) (va_recv hK hPr (ci := 0) (q0 := 0) rfl rfl) (va_P.app hPr hP2) hS ?_ rfl hl.1 rfl (Nat.le_of_ble_eq_true rfl) ⟨Nat.zero_le _, Nat.zero_le _⟩ dX2_keep_12 (fun H1 locs hB1 hS hz hk1 => ?_)
  · intro a ha
    rcases ha with ha | ha
    · exact (Or.inl ⟨by have := ha.1; omega, by have := ha.2; omega⟩)
    · exact (Or.inr ha)
  have hn := MmW_put hP hj (gL hB1) (fun a hl h1 h2 => hk1 a hl (fun z9 => z9.elim h2 (fun z8 => by have a1 := z8.1; have a2 := z8.2; have a3 := h1.1; have a4 := h1.2; omega)))
  have hm := gR hB1
  rw [← hcl] at hn
  exact W.vret hx hb hr (fun t ht hW => ⟨⟨(), rfl, trivial, gHB (B := mkB D cI cQ q k z (va_up rows p0.toNatClampNeg (lCopy (rows p0.toNatClampNeg) L)) L) ht ⟨hn, hm⟩⟩, hS.F ht⟩) hS.2.2 dX2_keep_15
set_option maxHeartbeats 4000000 in
set_option maxRecDepth 100000 in
theorem kX2_recall (l : Launch) (D : va_G) (cI cC cZ cQ cJ : ClassId) (q k z : Nat) (rows : Nat → LSt) (L : LSt) (p0 : Int32) (hk : k ≤ 14) (hi : vp_in p0 k) (hd : q + (2 + 10 * k) ≤ z ∨ z + 10 ≤ q) : Met l yX2_recall wsX2_recall ({ frames := 2, cells := 0, slots := 0, locals := 61 } : Room) (va_Pc [.ref q, .int p0, .ref z] (gB D (gTy cI cC cZ cQ cJ) (mkB D cI cQ q k z rows L))) (va_Qv (fun _ : Unit => True) (fun _ t => mkB D cI cQ q k z rows (lCopy L (rows p0.toNatClampNeg)) t.heap) (gOr (fIv q (2 + 10 * k)) (fIv z 10))) 0 0 (gOr (fIv q (2 + 10 * k)) (fIv z 10)) := by
  refine Met.ofW (cc := cX2_recall) (maxL := 4) (ret := none) (by decide) rfl ?_
  intro p e s m args below meth c s₁ B hml hv
  obtain ⟨rfl, ⟨hP, hP2⟩, hK⟩ := hv
  have hx := B.exec
  have hb := B.bytes
  have hr := B.returns
  have hts := atoms_spec (ws := wsX2_recall) B.pre
  have hown : s.vm.findClass RX2 = some m.cls := findClass_of_methodNamed B.named
  have hlocks := B.notSynchronized
  have hl := lv_entry ([.ref q, .int p0, .ref z]) (n := 4) (Nat.le_of_ble_eq_true rfl)
  rw [lg_entry_eq]
  generalize (lg_sl ([.ref q, .int p0, .ref z]) ++ List.replicate (4 - (lg_sl ([.ref q, .int p0, .ref z])).length) Slot.unset).toArray = ls at hl ⊢
  have hl : lv_has ls 4 [(0, .ref q), (1, .int p0), (2, .ref z)] := hl
  have hS : va_S (gOr (fIv q (2 + 10 * k)) (fIv z 10)) s.heap s.heap [] := va_S.rf
  obtain ⟨j, hj, ej⟩ := vp_in_of hi (by omega)
  have hcl : p0.toNatClampNeg = j := by rw [ej]; exact nI_clamp (by omega)
  refine lv_aload_n hx hb dX2_recall_0 rfl (lv_at hl 0 rfl) ?_
  refine lv_iload_n hx hb dX2_recall_1 rfl (lv_at hl 1 rfl) ?_
  refine va_csr (W.runV (As := [.int p0]) (rest := []) ⟨hx, hb, hml, hown, hts⟩ (kX2_rowAt l D cI cC cZ cQ cJ q k rows p0 hk hi) (cwV 1 hts gX2_recall_X2_rowAt rfl rfl rfl (by decide +kernel) ⟨Nat.le_of_ble_eq_true rfl, Nat.le_of_ble_eq_true rfl⟩) ⟨gB_blind, va_recv hK hP (ci := 2) (q0 := 0) rfl rfl, fun U hU hW => ⟨rfl, by rw [hU]; exact hP, va_K.moved hW.alike hK⟩⟩ rfl rfl hl.1 rfl (lv_room (Nat.le_of_ble_eq_true rfl)) dX2_recall_2 ⟨Nat.zero_le _, Nat.zero_le _⟩) (fun a ha => ?_)
  rw [hcl] at ha
  subst ha
  refine lv_astore_n (lv' := [(3, .ref (q + 2 + 10 * j)), (0, .ref q), (1, .int p0), (2, .ref z)]) hx hb dX2_recall_5 rfl hl (by decide) rfl (fun ls hl => ?_)
  refine lv_aload_n hx hb dX2_recall_6 rfl (lv_at hl 0 rfl) ?_
  refine lv_ifnull hx hb dX2_recall_7 ?_
  refine lv_aload_n hx hb dX2_recall_10 rfl (lv_at hl 3 rfl) ?_
  refine lv_aload_n hx hb dX2_recall_11 rfl (lv_at hl 0 rfl) ?_
  have hPr := MmW_row hP hj
  refine gc_wv (As := [.ref (q + 2 + 10 * j)]) (rest := []) (B := va_P D vwCl (LLW cI z (q + 2 + 10 * j) (L, rows j))) (B' := va_P D vwCl (LLW cI z (q + 2 + 10 * j) (lCopy L (rows j), rows j))) ⟨hx, hb, hml, hown, hts⟩ hK (kX0_become l D cI cC cZ cQ cJ z (q + 2 + 10 * j) (L, rows j) (by omega) (become_copy L (rows j))) (cwV 1 hts gX2_recall_X0_become rfl rfl rfl (by decide +kernel) ⟨Nat.le_of_ble_eq_true rfl, Nat.le_of_ble_eq_true rfl⟩) (va_recv hK hP2 (ci := 0) (q0 := 0) rfl rfl) (va_P.app hP2 hPr) hS ?_ rfl hl.1 rfl (Nat.le_of_ble_eq_true rfl) ⟨Nat.zero_le _, Nat.zero_le _⟩ dX2_recall_12 (fun H1 locs hB1 hS hz hk1 => ?_)
  · intro a ha
    rcases ha with ha | ha
    · exact (Or.inr ha)
    · exact (Or.inl ⟨by have := ha.1; omega, by have := ha.2; omega⟩)
  have hn := MmW_put hP hj (gR hB1) (fun a hl h1 h2 => hk1 a hl (fun z9 => z9.elim (fun z8 => by have a1 := z8.1; have a2 := z8.2; have a3 := h1.1; have a4 := h1.2; omega) h2))
  have hm := gL hB1
  have hn9 : va_P D vwCl (MmW cI cQ q k rows) H1 := by
    have e : va_up rows j (rows j) = rows := by funext i; by_cases h : i = j
                                                · rw [h, vup_eq]
                                                · rw [vup_ne _ _ h]
    have hn8 : va_P D vwCl (MmW cI cQ q k (va_up rows j (rows j))) H1 := hn
    rw [e] at hn8; exact hn8
  have hm9 : va_P D vwCl (LW cI z (lCopy L (rows p0.toNatClampNeg))) H1 := by rw [hcl]; exact hm
  exact W.vret hx hb hr (fun t ht hW => ⟨⟨(), rfl, trivial, gHB (B := mkB D cI cQ q k z rows (lCopy L (rows p0.toNatClampNeg))) ht ⟨hn9, hm9⟩⟩, hS.F ht⟩) hS.2.2 dX2_recall_15

/-! PURE LEVEL: copies -/
theorem RRel_cong {k n : Nat} {L : LSt} {r r' : RI} (h : RRel k n L r) (hr : ∀ i, i < 106 → r' i = r i) : RRel k n L r' := by
  have hk12 := h.k12
  refine ⟨⟨h.k12, h.n4, h.n20, h.hn, (hr 96 (by decide)).trans h.hk⟩, ?_, h.clk.trans (hr 98 (by decide)).symm, ⟨fun i hi => (hr (99 + i) (by omega)).trans (h.lim i hi), h.limOk⟩, ?_, fun g hg => ?_, h.abs, h.dst⟩
  · obtain ⟨s, h1, h2, h3⟩ := h.stn
    exact ⟨s, h1, h2, (hr 97 (by decide)).trans h3⟩
  · rw [h.rnd]; unfold rOf; rw [hr 104 (by decide), hr 105 (by decide)]
  · have c := h.cell g hg
    unfold CellOk
    rw [hr g (by omega), hr (12 + g) (by omega), hr (24 + g) (by omega), hr (36 + g) (by omega), hr (48 + g) (by omega), hr (60 + g) (by omega), hr (72 + g) (by omega), hr (84 + g) (by omega)]
    exact c
theorem aw_up (A : Nat → RI) (j q : Nat) (f : RI) (x : Int32) : aw (va_up A j f) j q x = va_up A j (upd f q x) := by
  funext c
  unfold aw va_up
  by_cases h : c = j <;> simp [h]
theorem va_up_at {α : Type} (A : Nat → α) (j : Nat) (f : α) : va_up A j f j = f := if_pos rfl
theorem va_up_nx {α : Type} (A : Nat → α) {j c : Nat} (f : α) (h : c ≠ j) : va_up A j f c = A c := if_neg h
theorem va_up_id {α : Type} (A : Nat → α) (j : Nat) : va_up A j (A j) = A := by
  funext c
  unfold va_up
  by_cases h : c = j
  · rw [if_pos h, h]
  · rw [if_neg h]
theorem m_copy (ja jb : Nat) (M : MSt) {a b m : Nat} (hab : ja ≠ jb ∨ b ≤ a) (h1 : a + m ≤ mLen ja) (h2 : b + m ≤ mLen jb) (hl : mLen ja < 2 ^ 31 ∧ mLen jb < 2 ^ 31) (hm : m ≤ 2000) :
    fX5_copy ja jb M (nI a) (nI b) (nI m) = some (va_up (mA M) jb (fb_put (mA M jb) (fun q => mA M ja (a + q)) b m), M.2) := by
  have key := run_up (fun f i => fX5_copy_L3 ja jb f (va_up (mA M) jb (fb_put (mA M jb) (fun q => mA M ja (a + q)) b i), M.2) (nI a) (nI b) (nI m) (nI i)) m (r := some (va_up (mA M) jb (fb_put (mA M jb) (fun q => mA M ja (a + q)) b m), M.2)) (fuel := KF) (fun i f hi => ?_) (fun f => ?_) (by show m < 3000; omega)
  · have e0 : (va_up (mA M) jb (fb_put (mA M jb) (fun q => mA M ja (a + q)) b 0), M.2) = M := by rw [fb_put_0, va_up_id]
    show fX5_copy_L3 ja jb KF M (nI a) (nI b) (nI m) (nI 0) = _
    rw [← key]
    show _ = fX5_copy_L3 ja jb KF (va_up (mA M) jb (fb_put (mA M jb) (fun q => mA M ja (a + q)) b 0), M.2) (nI a) (nI b) (nI m) (nI 0)
    rw [e0]
  · show fX5_copy_L3 ja jb (f + 1) (va_up (mA M) jb (fb_put (mA M jb) (fun q => mA M ja (a + q)) b i), M.2) (nI a) (nI b) (nI m) (nI i) = _
    rw [fX5_copy_L3, if_neg (nI_ge hi (by omega)), nI_add, nI_add, gd_nI (by omega) hl.1, gd_nI (by omega) hl.2, nI_clamp (by omega), nI_clamp (by omega), nI_1]
    have e1 : va_up (mA M) jb (fb_put (mA M jb) (fun q => mA M ja (a + q)) b i) ja (a + i) = mA M ja (a + i) := by
      by_cases q : ja = jb
      · subst q
        rw [va_up_at, fb_put_out (by omega)]
      · rw [va_up_nx _ _ q]
    simp only [lt, mA, e1, aw_up]
    have e2 : upd (fb_put (mA M jb) (fun q => mA M ja (a + q)) b i) (b + i) (mA M ja (a + i)) = fb_put (mA M jb) (fun q => mA M ja (a + q)) b (i + 1) := fb_put_succ _ _ b i
    simp only [mA] at e2
    rw [e2]
  · show fX5_copy_L3 ja jb (f + 1) _ (nI a) (nI b) (nI m) (nI m) = _
    rw [fX5_copy_L3, if_pos (Int32.le_refl _)]
theorem cpy_in (f g : RI) {n i : Nat} (h : i < n) : va_cpy f g 0 0 n i = f i := by
  unfold va_cpy; rw [if_pos ⟨Nat.zero_le _, by omega⟩]; congr 1; omega
theorem RRel_lCopy {k n : Nat} {L X : LSt} {r : RI} (h : RRel k n L r) : RRel k n (lCopy X L) r := by
  have hk12 := h.k12
  have li : ∀ i, i < 5 → lLi (lCopy X L) i = lLi L i := fun i hi => cpy_in _ _ hi
  have pl : ∀ i, i < 12 → lPl (lCopy X L) i = lPl L i := fun i hi => cpy_in _ _ hi
  have sp : ∀ i, i < 12 → lSp (lCopy X L) i = lSp L i := fun i hi => cpy_in _ _ hi
  refine ⟨h.1, h.2.1, h.clk, ⟨fun i hi => (h.lim i hi).trans (li i hi).symm, ?_⟩, h.rnd, fun g hg => ?_, fun g h1 h2 => (pl g h2).trans (h.abs g h1 h2), fun a b ha hb hab pa pb => ?_⟩
  · unfold LimOk
    rw [li 0 (by decide), li 1 (by decide), li 2 (by decide), li 3 (by decide), li 4 (by decide)]
    exact h.limOk
  · have c := h.cell g hg
    unfold CellOk
    rw [pl g (by omega), sp g (by omega), show lWe (lCopy X L) g = lWe L g from cpy_in _ _ (by omega), show lCy (lCopy X L) g = lCy L g from cpy_in _ _ (by omega), show lWr (lCopy X L) g = lWr L g from cpy_in _ _ (by omega), show lPu (lCopy X L) g = lPu L g from cpy_in _ _ (by omega), show lSl (lCopy X L) g = lSl L g from cpy_in _ _ (by omega), show lSt (lCopy X L) g = lSt L g from cpy_in _ _ (by omega)]
    exact c
  · rw [pl a (by omega)] at pa
    rw [pl b (by omega)] at pb
    rw [sp a (by omega), sp b (by omega)]
    exact h.dst a b ha hb hab pa pb

/-! PURE LEVEL of the property: emptyAfter, the best limit, chance -/
section EB
variable {k n : Nat} {L : LSt} {G : GSt}
theorem LOk.cnt0 (h : LOk k n L) : fX0_count L 0 = some (nI (cN L k 0)) := h.count (by decide)
theorem empty_loop {T : LSt} (h : LOk k n T) (a : LSt) (b : TSt) (c : SSt) (d e : Nat → LSt) (f : RI) (x y : Int32) : ∀ (m i fuel : Nat), 151 - i = m → i ≤ 151 → m < fuel → ∃ v T', fX4_emptyAfter_L13 fuel (a, itL T i, b, c, d, e, f, x, y) (nI i) = some (v, (a, T', b, c, d, e, f, x, y)) ∧ (v = -9 ∨ ∃ j, i ≤ j ∧ j ≤ 150 ∧ v = nI j)
  | 0, i, fuel, hm, hi, hf => by
    obtain ⟨fuel, rfl⟩ : ∃ f', fuel = f' + 1 := ⟨fuel - 1, by omega⟩
    obtain rfl : i = 151 := by omega
    exact ⟨-9, itL T 151, by rw [fX4_emptyAfter_L13, if_pos (by decide)], Or.inl rfl⟩
  | m + 1, i, fuel, hm, hi, hf => by
    obtain ⟨fuel, rfl⟩ : ∃ f', fuel = f' + 1 := ⟨fuel - 1, by omega⟩
    rw [fX4_emptyAfter_L13, if_neg (show ¬ (150 : Int32) < nI i from nI_nlt (a := 150) (by omega) (by decide))]
    show ∃ v T', (fX0_count (itL T i) 0).bind _ = _ ∧ _
    rw [(h.it i).cnt0, Option.bind_some]
    have hk := h.k12
    have hc := cN_le (itL T i) k 0
    by_cases q : cN (itL T i) k 0 = 0
    · exact ⟨nI i, itL T i, by rw [if_pos (show nI (cN (itL T i) k 0) = 0 by rw [q]; rfl)], Or.inr ⟨i, Nat.le_refl i, by omega, rfl⟩⟩
    · obtain ⟨v, T', e1, e2⟩ := empty_loop h a b c d e f x y m (i + 1) fuel (by omega) (by omega) (by omega)
      refine ⟨v, T', ?_, e2.imp id (fun z => z.elim fun j hj => ⟨j, by omega, hj.2⟩)⟩
      rw [if_neg (show ¬ nI (cN (itL T i) k 0) = 0 from nI_ne0 (by omega) (by omega))]
      show (fX0_advance (itL T i)).bind _ = _
      rw [(h.it i).adv, Option.bind_some, nI_1]
      exact e1
theorem aem (hL : gLift G = L) (h : LOk k n L) : ∃ v G', fX4_emptyAfter G = some (v, G') ∧ SEq G G' ∧ (v = 0 ↔ cN L k 0 = 0) := by
  subst hL
  have hT := h.copy (gTrial G)
  have hc : cN (lCopy (gTrial G) (gLift G)) k 0 = cN (gLift G) k 0 := NEq_cN (NEq_copy h _) 0
  have hk := h.k12
  have hle := cN_le (gLift G) k 0
  unfold fX4_emptyAfter
  rw [show KF = 2999 + 1 from rfl, fX4_emptyAfter_L13, if_neg (by decide)]
  show ∃ v G', (fX0_count (lCopy (gTrial G) (gLift G)) 0).bind _ = _ ∧ _
  rw [hT.cnt0, Option.bind_some]
  by_cases q : cN (gLift G) k 0 = 0
  · rw [if_pos (show nI (cN (lCopy (gTrial G) (gLift G)) k 0) = 0 by rw [hc, q]; rfl)]
    exact ⟨0, (gLift G, lCopy (gTrial G) (gLift G), gTxt G, gSum G, gHis G, gSav G, gSvd G, gRem G, gNxt G), rfl, ⟨rfl, rfl, rfl, rfl, rfl, rfl, rfl⟩, fun _ => q, fun _ => rfl⟩
  · obtain ⟨v, T', e1, e2⟩ := empty_loop hT (gLift G) (gTxt G) (gSum G) (gHis G) (gSav G) (gSvd G) (gRem G) (gNxt G) 150 1 2999 rfl (by decide) (by decide)
    rw [if_neg (show ¬ nI (cN (lCopy (gTrial G) (gLift G)) k 0) = 0 by rw [hc]; exact nI_ne0 (by omega) (by omega))]
    show ∃ v G', (fX0_advance (itL (lCopy (gTrial G) (gLift G)) 0)).bind _ = _ ∧ _
    rw [(hT.it 0).adv, Option.bind_some]
    refine ⟨v, (gLift G, T', gTxt G, gSum G, gHis G, gSav G, gSvd G, gRem G, gNxt G), e1, ⟨rfl, rfl, rfl, rfl, rfl, rfl, rfl⟩, fun z => ?_, fun z => absurd z q⟩
    rcases e2 with e2 | ⟨j, j1, j2, j3⟩
    · rw [e2] at z; exact absurd z (by decide)
    · rw [j3] at z; exact absurd z (nI_ne0 (by omega) (by omega))
/-- how many slip with the limit v -/
def slp (L : LSt) (v m : Nat) : Int32 := sEv (wLim L (nI v)) 2 m
theorem slp_same {L' : LSt} (h : LOk k n L) (h' : LOk k n L') (he : NEq k L L') {v m : Nat} (h1 : 1 ≤ v) (h9 : v ≤ 99) : slp L' v m = slp L v m :=
  (it_same (LOk_lim h h1 h9) (LOk_lim h' h1 h9) (NEq_lim he (nI v)) m).2 2 (by decide)
theorem best_f {m : Nat} (hm : m ≤ 99) : ∀ (v f : Nat) (G : GSt), LOk k n (gLift G) → v ≤ 99 → v < f → ∃ (r : Int32) (T' : LSt), fX4_bestLimit_L23 f G (nI m) (nI v) = some (0, r, (gLift G, T', gTxt G, gSum G, gHis G, gSav G, gSvd G, gRem G, gNxt G)) ∧ (r = -9 ∨ ∃ u, 1 ≤ u ∧ u ≤ v ∧ r = nI u ∧ slp (gLift G) u m = 0 ∧ ∀ w, u < w → w ≤ v → ¬ slp (gLift G) w m = 0)
  | 0, f, G, h, hv, hf => by
    obtain ⟨f, rfl⟩ : ∃ f', f = f' + 1 := ⟨f - 1, by omega⟩
    exact ⟨-9, gTrial G, by rw [fX4_bestLimit_L23, if_pos (show nI 0 < 1 by decide)], Or.inl rfl⟩
  | v + 1, f, G, h, hv, hf => by
    obtain ⟨f, rfl⟩ : ∃ f', f = f' + 1 := ⟨f - 1, by omega⟩
    have hT := h.copy (gTrial G)
    have p1 : ∀ w, w < 100 → nI (w + 1) + (-1) = nI w := by decide +kernel
    obtain ⟨M, hr, hN⟩ := (LOk_lim hT (v := v + 1) (by omega) hv).m 4
    obtain ⟨T', hc⟩ := c_slipFree hr hN hm (gLift G) (gTxt G) (gSum G) (gHis G) (gSav G) (gSvd G) (gRem G) (gNxt G)
    have eC : fX4_isSlipFree G (nI (v + 1)) (nI m) = _ := hc
    have es : sEv (wLim (lCopy (gTrial G) (gLift G)) (nI (v + 1))) 2 m = slp (gLift G) (v + 1) m := slp_same h hT (NEq_copy h _) (by omega) hv
    rw [fX4_bestLimit_L23, if_neg (show ¬ nI (v + 1) < 1 from nI_nlt (b := 1) (by omega) (by omega)), eC, es, Option.bind_some, p1 v (by omega)]
    by_cases hz : slp (gLift G) (v + 1) m = 0
    · rw [if_pos hz]
      refine ⟨nI (v + 1), T', ?_, Or.inr ⟨v + 1, by omega, Nat.le_refl _, rfl, hz, fun w w1 w2 => by omega⟩⟩
      show (if (1 : Int32) = 0 then _ else _) = _
      rw [if_neg c10]
    · rw [if_neg hz]
      obtain ⟨r, T2, r1, r2⟩ := best_f hm v f (gLift G, T', gTxt G, gSum G, gHis G, gSav G, gSvd G, gRem G, gNxt G) h (by omega) (by omega)
      refine ⟨r, T2, ?_, r2.imp id (fun y => y.elim fun u hu => ⟨u, hu.1, by omega, hu.2.2.1, hu.2.2.2.1, fun w w1 w2 => ?_⟩)⟩
      · show (if (0 : Int32) = 0 then _ else _) = _
        rw [if_pos rfl]
        exact r1
      · by_cases e : w = v + 1
        · rw [e]; exact hz
        · exact hu.2.2.2.2 w w1 (by omega)
theorem abest (hL : gLift G = L) (h : LOk k n L) {m : Nat} (h1 : 1 ≤ m) (h9 : m ≤ 99) : ∃ r G', fL_bestLimit G (nI m) = some (r.toInt64, G') ∧ SEq G G' ∧ (r = -9 ∨ ∃ u, 1 ≤ u ∧ u ≤ 99 ∧ r = nI u ∧ slp L u m = 0 ∧ ∀ w, u < w → w ≤ 99 → ¬ slp L w m = 0) := by
  subst hL
  obtain ⟨r, T', e1, e2⟩ := best_f h9 99 KF G h (Nat.le_refl _) (by decide)
  refine ⟨r, (gLift G, T', gTxt G, gSum G, gHis G, gSav G, gSvd G, gRem G, gNxt G), ?_, ⟨rfl, rfl, rfl, rfl, rfl, rfl, rfl⟩, e2⟩
  unfold fL_bestLimit fX4_bestLimit
  rw [isStepY h1 h9, Option.bind_some, if_neg (by decide)]
  show (fX4_bestLimit_L23 KF G (nI m) (nI 99)).bind _ = _
  rw [e1, Option.bind_some, gm0]
theorem ach3 (hL : gLift G = L) {v : Nat} (h1 : 1 ≤ v) (h9 : v ≤ 9) (hv : lLi L 2 = nI v) : fL_chance G 3 1 = some (((lN v - 1) * (lN v - 1)) * (lN v - 1), G) := by
  have e : ∀ v, v < 10 → 1 ≤ v → (pw (nI v - 1) 3).toInt64 = ((lN v - 1) * (lN v - 1)) * (lN v - 1) := by decide +kernel
  unfold fL_chance fX4_chance
  rw [if_neg (by decide), if_pos (by decide), if_neg (by decide), hL, hv]
  show (fX4_chance_L50 KF G (nI 3) _ 1 0).bind _ = _
  rw [c_pw G _ (m := 3) (by decide), Option.bind_some, gm0, e v (by omega) h1]
theorem ach2 (hL : gLift G = L) {v : Nat} (h1 : 1 ≤ v) (h9 : v ≤ 9) (hv : lLi L 2 = nI v) : fL_chance G 2 0 = some ((if lg_cmp (lN v) 1 = 0 then 1 else lN v * lN v), G) := by
  have e : ∀ v, v < 10 → 1 ≤ v → (pw (nI v) 2).toInt64 = (if lg_cmp (lN v) 1 = 0 then 1 else lN v * lN v) := by decide +kernel
  unfold fL_chance fX4_chance
  rw [if_neg (by decide), if_pos (by decide), if_pos rfl, hL, hv]
  show (fX4_chance_L50 KF G (nI 2) _ 1 0).bind _ = _
  rw [c_pw G _ (m := 2) (by decide), Option.bind_some, gm0, e v (by omega) h1]
/-- the slot is free enough -/
theorem bad_way (h : LOk k n L) {g i a : Nat} (hg : g < k) (hp : lPl L g = 0) (ha : a < n) (hs : lSp L g = nI a) (hi : i < n) {v : Nat} (hv : lLi L 3 = nI v) (v4 : v ≤ 4) : lBad L (nI i) g = true ↔ ((if i ≤ a then a - i else a + n - i) < v ∨ n - (if i ≤ a then a - i else a + n - i) < v) := by
  have hn := h.n20
  have hn4 := h.n4
  unfold lBad
  rw [decide_eq_true_iff, hs, h.hn, hv]
  have e : ∃ d, d ≤ 20 ∧ lDist (nI n) (nI a) (nI i) = nI d ∧ ((if i ≤ a then a - i else a + n - i) = d ∨ n - (if i ≤ a then a - i else a + n - i) = d) ∧ d ≤ (if i ≤ a then a - i else a + n - i) ∧ d ≤ n - (if i ≤ a then a - i else a + n - i) := by
    unfold lDist
    by_cases q : i ≤ a
    · rw [if_pos q]
      by_cases q2 : a ≤ i
      · have e : a = i := by omega
        subst e
        rw [if_pos (Int32.le_refl _), Int32.sub_self, Int32.sub_zero, if_neg (nI_nle (by omega) (by omega))]
        exact ⟨0, by omega, rfl, by omega, by omega, by omega⟩
      · rw [if_neg (nI_ge (by omega) (by omega)), pk_sub q, pk_sub (by omega)]
        by_cases q3 : n - (a - i) ≤ a - i
        · rw [if_pos (nI_le q3 (by omega))]
          exact ⟨n - (a - i), by omega, rfl, by omega, by omega, by omega⟩
        · rw [if_neg (nI_ge (by omega) (by omega))]
          exact ⟨a - i, by omega, rfl, by omega, by omega, by omega⟩
    · rw [if_neg q, if_pos (nI_le (by omega) (by omega)), pk_sub (by omega), pk_sub (by omega)]
      by_cases q3 : n - (i - a) ≤ i - a
      · rw [if_pos (nI_le q3 (by omega))]
        exact ⟨n - (i - a), by omega, rfl, by omega, by omega, by omega⟩
      · rw [if_neg (nI_ge (by omega) (by omega))]
        exact ⟨i - a, by omega, rfl, by omega, by omega, by omega⟩
  obtain ⟨d, d0, d1, d2, d3, d4⟩ := e
  rw [d1, nI_leI (by omega) (by omega)]
  constructor
  · intro z
    have := z.2
    rcases d2 with y | y
    · left; omega
    · right; omega
  · intro z
    exact ⟨hp, by omega⟩
end EB

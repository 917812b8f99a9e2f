/-! PURE LEVEL: the reading loops of a lift -/
theorem s_count (L : LSt) (w : Int32) : fX0_count L w = some (nI (sCt (fun g => decide (lPl L g = w)) 12)) := by
  refine run_up (fun f i => fX0_count_L4 L f w (nI (sCt (fun g => decide (lPl L g = w)) i)) (nI i)) 12 (fun i f hi => ?_) (fun f => ?_) (by decide)
  · show fX0_count_L4 L (f + 1) w _ (nI i) = _
    rw [fX0_count_L4, if_neg (l12 hi), gd_nI hi (by decide), nI_clamp (by omega)]
    by_cases h : lPl L i = w
    · rw [if_pos h, nI_1, nI_1, sCt_yes (decide_eq_true h)]
    · rw [if_neg h, nI_1, sCt_no (decide_eq_false h)]
  · show fX0_count_L4 L (f + 1) w _ (nI 12) = _
    rw [fX0_count_L4, if_pos g12]
theorem s_gripAt_hit (L : LSt) (x : Int32) {g0 : Nat} (h0 : g0 < 12) (h1 : lPl L g0 = 0) (h2 : lSp L g0 = x) (h3 : ∀ g, g < g0 → ¬ (lPl L g = 0 ∧ lSp L g = x)) : fX0_gripAt L x = some (nI g0) := by
  refine run_up (fun f i => fX0_gripAt_L2 L f x (nI i)) g0 (fun i f hi => ?_) (fun f => ?_) (by show g0 < 3000; omega)
  · show fX0_gripAt_L2 L (f + 1) x (nI i) = _
    rw [fX0_gripAt_L2, if_neg (l12 (by omega)), gd_nI (by omega) (by decide), nI_clamp (by omega), nI_1]
    by_cases h : lPl L i = 0
    · rw [if_pos h, if_neg (fun q => h3 i hi ⟨h, q⟩)]
    · rw [if_neg h]
  · show fX0_gripAt_L2 L (f + 1) x (nI g0) = _
    rw [fX0_gripAt_L2, if_neg (l12 h0), gd_nI h0 (by decide), nI_clamp (by omega), if_pos h1, if_pos h2]
theorem s_gripAt_miss (L : LSt) (x : Int32) (h3 : ∀ g, g < 12 → ¬ (lPl L g = 0 ∧ lSp L g = x)) : fX0_gripAt L x = some (-9) := by
  refine run_up (fun f i => fX0_gripAt_L2 L f x (nI i)) 12 (fun i f hi => ?_) (fun f => ?_) (by decide)
  · show fX0_gripAt_L2 L (f + 1) x (nI i) = _
    rw [fX0_gripAt_L2, if_neg (l12 (by omega)), gd_nI (by omega) (by decide), nI_clamp (by omega), nI_1]
    by_cases h : lPl L i = 0
    · rw [if_pos h, if_neg (fun q => h3 i hi ⟨h, q⟩)]
    · rw [if_neg h]
  · show fX0_gripAt_L2 L (f + 1) x (nI 12) = _
    rw [fX0_gripAt_L2, if_pos g12]
def lDist (n a b : Int32) : Int32 := if a ≤ b then (if n - (b - a) ≤ b - a then n - (b - a) else b - a) else (if n - (a - b) ≤ a - b then n - (a - b) else a - b)
theorem s_distance (L : LSt) (a b : Int32) : fX0_distance L a b = some (lDist (lN_ L) a b) := by
  unfold fX0_distance lDist
  by_cases h : a ≤ b
  · rw [if_pos h, if_pos h]; split <;> rfl
  · rw [if_neg h, if_neg h]; split <;> rfl
/-- the grips that are too near -/
def lBad (L : LSt) (i : Int32) (g : Nat) : Bool := decide (lPl L g = 0 ∧ ¬ lLi L 3 ≤ lDist (lN_ L) (lSp L g) i)
theorem s_isRoomAt (L : LSt) (i : Int32) : fX0_isRoomAt L i = some (if sCt (lBad L i) 12 = 0 then 1 else 0) := by
  have step : ∀ j f, j < 12 → lBad L i j = false → fX0_isRoomAt_L2 L (f + 1) i (nI j) = fX0_isRoomAt_L2 L f i (nI (j + 1)) := fun j f hj hb => by
    have hb := of_decide_eq_false hb
    rw [fX0_isRoomAt_L2, if_neg (l12 hj), gd_nI hj (by decide), nI_clamp (by omega), nI_1]
    by_cases h : lPl L j = 0
    · have h2 : lLi L 3 ≤ lDist (lN_ L) (lSp L j) i := Classical.byContradiction fun q => hb ⟨h, q⟩
      rw [if_pos h, s_distance, Option.bind_some, if_pos h2]
    · rw [if_neg h]
  rcases s_first (lBad L i) 12 with h | ⟨g0, h0, h1, h2⟩
  · rw [if_pos (sCt_zero.mpr h)]
    refine run_up (fun f j => fX0_isRoomAt_L2 L f i (nI j)) 12 (fun j f hj => step j f hj (h j hj)) (fun f => ?_) (by decide)
    show fX0_isRoomAt_L2 L (f + 1) i (nI 12) = _
    rw [fX0_isRoomAt_L2, if_pos g12]
  · rw [if_neg (sCt_hit h0 h1)]
    refine run_up (fun f j => fX0_isRoomAt_L2 L f i (nI j)) g0 (fun j f hj => step j f (by omega) (h2 j hj)) (fun f => ?_) (by show g0 < 3000; omega)
    have hb := of_decide_eq_true h1
    show fX0_isRoomAt_L2 L (f + 1) i (nI g0) = _
    rw [fX0_isRoomAt_L2, if_neg (l12 h0), gd_nI h0 (by decide), nI_clamp (by omega), if_pos hb.1, s_distance, Option.bind_some, if_neg hb.2]
theorem s_has (L : LSt) (g : Int32) : fX0_has L g = some (if 0 ≤ g ∧ g < 12 ∧ ¬ lPl L g.toNatClampNeg = -1 then 1 else 0) := by
  unfold fX0_has
  by_cases h : g < 0
  · rw [if_pos h, if_neg (fun q => (fa_of_lt h).2.1 q.1)]
  · rw [if_neg h]
    obtain ⟨j, hj, rfl⟩ := nI_of h
    by_cases h2 : 12 ≤ nI j
    · rw [if_pos h2, if_neg (fun q => (fa_of_lt q.2.1).2.1 h2)]
    · have hj12 : j < 12 := by
        rcases Nat.lt_or_ge j 12 with q | q
        · exact q
        · exact absurd (nI_le q hj) h2
      rw [if_neg h2, gd_nI hj12 (by decide)]
      by_cases h3 : lPl L (nI j).toNatClampNeg = -1
      · rw [if_pos h3, if_neg (fun q => q.2.2 h3)]
      · rw [if_neg h3, if_pos ⟨nI_pos' hj, nI_lt hj12 (by decide), h3⟩]

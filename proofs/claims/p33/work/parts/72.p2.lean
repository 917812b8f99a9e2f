/-! PURE LEVEL: the model's reading loops -/
theorem gz_bit {α : Type} {r : Int32} {k : Option α} (h : r = 0 ∨ r = 1) : gz r k = k := by unfold gz; rw [if_pos h]
theorem lt_k {k i : Nat} (h : i < k) (hk : k ≤ 12) : ¬ nI k ≤ nI i := nI_ge h (by omega)
theorem ge_k (k : Nat) : nI k ≤ nI k := Int32.le_refl _
theorem m_gripAt_hit (j : Nat) (M : MSt) (x : Int32) {k g0 : Nat} (hk : mA M j 96 = nI k) (hk12 : k ≤ 12) (h0 : g0 < k) (h1 : mA M j (60 + g0) = 0) (h2 : mA M j (72 + g0) = x) (h3 : ∀ g, g < g0 → ¬ (mA M j (60 + g) = 0 ∧ mA M j (72 + g) = x)) : fX5_gripAt j M x = some (nI g0) := by
  refine run_up (fun f i => fX5_gripAt_L2 j M f x (nI i)) g0 (fun i f hi => ?_) (fun f => ?_) (by show g0 < 3000; omega)
  · show fX5_gripAt_L2 j M (f + 1) x (nI i) = _
    rw [fX5_gripAt_L2, hk, if_neg (lt_k (by omega) hk12), aI60, gd_nI (by omega) (by decide), nI_clamp (by omega), nI_1]
    by_cases h : mA M j (60 + i) = 0
    · rw [if_pos h, aI72, gd_nI (by omega) (by decide), nI_clamp (by omega), if_neg (fun q => h3 i hi ⟨h, q⟩)]
    · rw [if_neg h]
  · show fX5_gripAt_L2 j M (f + 1) x (nI g0) = _
    rw [fX5_gripAt_L2, hk, if_neg (lt_k h0 hk12), aI60, gd_nI (by omega) (by decide), nI_clamp (by omega), if_pos h1, aI72, gd_nI (by omega) (by decide), nI_clamp (by omega), if_pos h2]
theorem m_gripAt_miss (j : Nat) (M : MSt) (x : Int32) {k : Nat} (hk : mA M j 96 = nI k) (hk12 : k ≤ 12) (h3 : ∀ g, g < k → ¬ (mA M j (60 + g) = 0 ∧ mA M j (72 + g) = x)) : fX5_gripAt j M x = some (-9) := by
  refine run_up (fun f i => fX5_gripAt_L2 j M f x (nI i)) k (fun i f hi => ?_) (fun f => ?_) (by show k < 3000; omega)
  · show fX5_gripAt_L2 j M (f + 1) x (nI i) = _
    rw [fX5_gripAt_L2, hk, if_neg (lt_k (by omega) hk12), aI60, gd_nI (by omega) (by decide), nI_clamp (by omega), nI_1]
    by_cases h : mA M j (60 + i) = 0
    · rw [if_pos h, aI72, gd_nI (by omega) (by decide), nI_clamp (by omega), if_neg (fun q => h3 i hi ⟨h, q⟩)]
    · rw [if_neg h]
  · show fX5_gripAt_L2 j M (f + 1) x (nI k) = _
    rw [fX5_gripAt_L2, hk, if_pos (ge_k k)]
theorem m_count (j : Nat) (M : MSt) (w : Int32) {k : Nat} (hk : mA M j 96 = nI k) (hk12 : k ≤ 12) : fX5_count j M w = some (nI (sCt (fun g => decide (mA M j (60 + g) = w)) k)) := by
  refine run_up (fun f i => fX5_count_L4 j M f w (nI (sCt (fun g => decide (mA M j (60 + g) = w)) i)) (nI i)) k (fun i f hi => ?_) (fun f => ?_) (by show k < 3000; omega)
  · show fX5_count_L4 j M (f + 1) w _ (nI i) = _
    rw [fX5_count_L4, hk, if_neg (lt_k hi hk12), aI60, gd_nI (by omega) (by decide), nI_clamp (by omega)]
    by_cases h : mA M j (60 + i) = w
    · rw [if_pos h, nI_1, nI_1, sCt_yes (decide_eq_true h)]
    · rw [if_neg h, nI_1, Int32.add_zero, sCt_no (decide_eq_false h)]
  · show fX5_count_L4 j M (f + 1) w _ (nI k) = _
    rw [fX5_count_L4, hk, if_pos (ge_k k)]
theorem m_apart (M : MSt) (a b : Int32) : fX5_apart M a b = some (lDist (mN M) b a) := by
  unfold fX5_apart lDist
  by_cases h : b ≤ a
  · rw [if_pos h, if_pos h]; split <;> rfl
  · rw [if_neg h, if_neg h]; split <;> rfl
def mBad (j : Nat) (M : MSt) (i : Int32) (g : Nat) : Bool := decide (mA M j (60 + g) = 0 ∧ ¬ mA M j 102 ≤ lDist (mN M) (mA M j (72 + g)) i)
theorem m_isFree (j : Nat) (M : MSt) (i : Int32) {k : Nat} (hk : mA M j 96 = nI k) (hk12 : k ≤ 12) (hz : ∀ g, g < k → mA M j (60 + g) = 0 → mA M j (72 + g) = i → mBad j M i g = true) : fX5_isFree j M i = some (if sCt (mBad j M i) k = 0 then 1 else 0) := by
  have lp : ∀ (b : Nat → Nat), (∀ q, q < k → b (q + 1) = b q + (if mBad j M i q then 1 else 0)) → fX5_isFree_L19 j M KF i (if b 0 = 0 then 1 else 0) (nI 0) = some (if b k = 0 then 1 else 0) := fun b hb => by
    refine run_up (fun f q => fX5_isFree_L19 j M f i (if b q = 0 then 1 else 0) (nI q)) k (fun q f hq => ?_) (fun f => ?_) (by show k < 3000; omega)
    · show fX5_isFree_L19 j M (f + 1) i _ (nI q) = _
      rw [fX5_isFree_L19, hk, if_neg (lt_k hq hk12), aI60, gd_nI (by omega) (by decide), nI_clamp (by omega), nI_1]
      have e := hb q hq
      by_cases h0 : b q = 0
      · rw [if_pos h0, if_neg (by decide)]
        by_cases h : mA M j (60 + q) = 0
        · rw [if_pos h, aI72, gd_nI (by omega) (by decide), nI_clamp (by omega), m_apart, Option.bind_some]
          by_cases h2 : mA M j 102 ≤ lDist (mN M) (mA M j (72 + q)) i
          · have hf : mBad j M i q = false := decide_eq_false (fun z => z.2 h2)
            rw [hf, h0] at e
            rw [if_neg (fun z => absurd h2 (by rw [fa_le]; rw [fa_lt] at z; omega)), if_pos (show b (q + 1) = 0 by rw [e]; rfl)]
          · have hf : mBad j M i q = true := decide_eq_true ⟨h, h2⟩
            rw [hf, h0] at e
            rw [if_pos (fa_of_nle h2), if_neg (show ¬ b (q + 1) = 0 by rw [e]; decide)]
        · have hf : mBad j M i q = false := decide_eq_false (fun z => h z.1)
          rw [hf, h0] at e
          rw [if_neg h, if_pos (show b (q + 1) = 0 by rw [e]; rfl)]
      · rw [if_neg h0, if_pos rfl, if_neg (show ¬ b (q + 1) = 0 by omega)]
    · show fX5_isFree_L19 j M (f + 1) i _ (nI k) = _
      rw [fX5_isFree_L19, hk, if_pos (ge_k k), gz_bit (by split; exact Or.inr rfl; exact Or.inl rfl)]
  unfold fX5_isFree
  rcases s_first (fun g => decide (mA M j (60 + g) = 0 ∧ mA M j (72 + g) = i)) k with h | ⟨g0, h0, h1, h2⟩
  · rw [m_gripAt_miss j M i hk hk12 (fun g hg z => by have := h g hg; simp [z.1, z.2] at this), Option.bind_some, if_pos rfl]
    exact lp (fun q => sCt (mBad j M i) q) (fun q hq => rfl)
  · have hb := of_decide_eq_true h1
    rw [m_gripAt_hit j M i hk hk12 h0 hb.1 hb.2 (fun g hg z => by have := h2 g hg; simp [z.1, z.2] at this), Option.bind_some, if_neg (by rw [show (-9 : Int32) = -9 from rfl]; intro z; have := nI_pos (n := g0) (by omega); rw [z] at this; exact this (by decide))]
    rw [if_neg (sCt_hit h0 (hz g0 h0 hb.1 hb.2))]
    have := lp (fun q => 1 + sCt (mBad j M i) q) (fun q hq => by rw [sCt]; omega)
    rw [if_neg (by omega), if_neg (by omega)] at this
    exact this

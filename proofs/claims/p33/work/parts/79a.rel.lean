/-! PURE LEVEL: the inspector and the model, which mean the same -/
def TxtOk (Z : SSt) (sz : Int32) (r : RI) : Prop := ∃ len, len ≤ 60 ∧ sLen Z = nI len ∧ sz = nI len ∧ ∀ i, i < len → sRow Z i = r i ∧ ∃ c, c < 256 ∧ r i = nI c
def HisOk (n : Nat) (his : Nat → LSt) (rem nxt acts : Int32) (d : RI) : Prop := ∃ a x, a ≤ 14 ∧ x < 14 ∧ rem = nI a ∧ acts = nI a ∧ nxt = nI x ∧ ∀ i, i < a → ∃ k, RRel k n (his ((x + 14 - a + i) % 14)) (fun q => d (106 * i + q))
def SavOk (n : Nat) (sav : Nat → LSt) (svd isK kept : RI) : Prop := ∀ i, i < 2 → svd i = isK i ∧ (svd i = 0 ∨ svd i = 1 ∧ ∃ k, RRel k n (sav i) (fun q => kept (106 * i + q)))
def GRel (G : GSt) (M : MSt) : Prop := ∃ n, mN M = nI n ∧ (∃ k, RRel k n (gLift G) (mA M 3)) ∧ TxtOk (tSg (gTxt G)) (mSize M) (mA M 1) ∧ HisOk n (gHis G) (gRem G) (gNxt G) (mActs M) (mA M 5) ∧ SavOk n (gSav G) (gSvd G) (mA M 7) (mA M 6)
/-- what an operation that may throw owes: a, b the numbers of what it throws (b is 9 where it throws one thing only) -/
def OpR (a b : Nat) (RC : Option (Nat × Int32 × GSt)) (RM : Option (Int32 × MSt)) : Prop :=
  ∃ k v G' w M', RC = some (k, v, G') ∧ RM = some (w, M') ∧ (k = 0 ∨ k = a ∨ (k = b ∧ b ≠ 9)) ∧ mRef M' = (if k = a then 1 else if k = b then 2 else 0) ∧ (k = 0 → v = w) ∧ GRel G' M'
theorem m_in (a b c : Int64) : fX5_in a b c = some (if b ≤ a ∧ a ≤ c then 1 else 0) := by
  have e1 : (lg_cmp a b < 0) ↔ ¬ b ≤ a := by rw [← lg_cmp_ge a b, fa_lt, fa_le]; omega
  have e2 : (0 < lg_cmp a c) ↔ ¬ a ≤ c := by
    unfold lg_cmp
    simp only [gt_iff_lt, fa_lt64, fa_le64, fa_eq64]
    by_cases h : c.toInt < a.toInt
    · rw [if_pos h]; exact ⟨fun _ => by omega, fun _ => by decide⟩
    · rw [if_neg h]
      by_cases h2 : a.toInt = c.toInt
      · rw [if_pos h2]; exact ⟨fun z => absurd z (by decide), fun z => by omega⟩
      · rw [if_neg h2]; exact ⟨fun z => absurd z (by decide), fun z => by omega⟩
  unfold fX5_in
  by_cases h : b ≤ a
  · rw [if_neg (fun z => e1.mp z h)]
    by_cases h2 : a ≤ c
    · rw [if_neg (fun z => e2.mp z h2), if_pos ⟨h, h2⟩]
    · rw [if_pos (e2.mpr h2), if_neg (fun z => h2 z.2)]
  · rw [if_pos (e1.mpr h), if_neg (fun z => h z.1)]
theorem m_inI (x lo hi : Int32) {b c : Int64} (hb : b = lo.toInt64) (hc : c = hi.toInt64) : fX5_in x.toInt64 b c = some (if lo ≤ x ∧ x ≤ hi then 1 else 0) := by
  rw [m_in, hb, hc]
  simp only [fa_wide_le]
theorem m_refused0 (M : MSt) : fX5_refused M 0 = some (0, (mA M, 0, mSize M, mSpot M, mRN M, mN M, mActs M)) := by unfold fX5_refused; rw [if_pos (by decide)]
theorem m_refused1 (M : MSt) : fX5_refused M 1 = some (1, (mA M, 1, mSize M, mSpot M, mRN M, mN M, mActs M)) := by unfold fX5_refused; rw [if_neg (by decide)]
theorem m_refused2 (M : MSt) : fX5_refused M 2 = some (1, (mA M, 2, mSize M, mSpot M, mRN M, mN M, mActs M)) := by unfold fX5_refused; rw [if_neg (by decide)]
/-- the refusal and the scratch of the reading don't matter -/
theorem GRel.scr {G : GSt} {M : MSt} (h : GRel G M) (a b c : Int32) : GRel G (mA M, a, mSize M, b, c, mN M, mActs M) := h
theorem o_clearText {G : GSt} {M : MSt} (h : GRel G M) : ∃ v G' M', fX4_clearText G = some (v, G') ∧ fX5_clearText M = some (v, M') ∧ GRel G' M' := by
  obtain ⟨n, h1, h2, ⟨len, t1, t2, t3, t4⟩, h4, h5⟩ := h
  refine ⟨sLen (tSg (gTxt G)), _, (mA M, 0, 0, mSpot M, mRN M, mN M, mActs M), rfl, ?_, ⟨n, h1, h2, ⟨0, by decide, rfl, rfl, fun i hi => absurd hi (Nat.not_lt_zero i)⟩, h4, h5⟩⟩
  rw [t2]
  unfold fX5_clearText
  rw [t3]
theorem o_random {G : GSt} {M : MSt} (h : GRel G M) : ∃ v M', fX4_random G = some v ∧ fX5_random M = some (v, M') ∧ GRel G M' := by
  have h' := h
  obtain ⟨n, h1, ⟨k, h2⟩, -⟩ := h'
  refine ⟨lRnd (gLift G), (mA M, 0, mSize M, mSpot M, mRN M, mN M, mActs M), rfl, ?_, h.scr 0 _ _⟩
  rw [h2.rnd]
  rfl
theorem m_isGrip {k n j : Nat} {L : LSt} {M : MSt} (h : RRel k n L (mA M 3)) (g : Int32) : fX5_isGrip M g = some (if 0 ≤ g ∧ g < nI k then 1 else 0) := by
  have hk12 := h.k12
  unfold fX5_isGrip
  rw [h.hk, m_inI g 0 (nI k - 1) (by decide +kernel) rfl, Option.bind_some]
  have e : (g ≤ nI k - 1) ↔ g < nI k := by
    have q : (nI k - 1).toInt = (k : Int) - 1 := by rw [fb_subI] <;> rw [nI_toInt (by omega)] <;> simp <;> omega
    rw [fa_le, fa_lt, q, nI_toInt (by omega)]; omega
  simp only [e]
  rw [gz_bit (by split; exact Or.inr rfl; exact Or.inl rfl)]
theorem c_has {k n j : Nat} {L : LSt} {r : RI} (h : RRel k n L r) (g : Int32) : fX0_has L g = some (if 0 ≤ g ∧ g < nI k then 1 else 0) := by
  have hk12 := h.k12
  rw [s_has]
  congr 1
  by_cases h0 : 0 ≤ g
  · obtain ⟨i, hi, rfl⟩ := nI_of (x := g) (by rw [fa_lt]; rw [fa_le] at h0; omega)
    rw [nI_clamp hi]
    by_cases h1 : i < k
    · rw [if_pos ⟨h0, nI_lt (b := 12) (by omega) (by decide), h.nabs h1⟩, if_pos ⟨h0, nI_lt h1 (by omega)⟩]
    · rw [if_neg (c := 0 ≤ nI i ∧ nI i < nI k) (fun z => h1 ((nI_ltI hi (by omega)).mp z.2)), if_neg (fun z => z.2.2 (h.abs i (by omega) ((nI_ltI (b := 12) hi (by decide)).mp z.2.1)))]
  · rw [if_neg (fun z => h0 z.1), if_neg (fun z => h0 z.1)]

/-! PURE LEVEL: operations, one by one -/
theorem c10 : ¬ (1 : Int32) = 0 := by decide
theorem bit_ne {c : Prop} [Decidable c] : ((if c then (1 : Int32) else 0) = 0) ↔ ¬ c := by
  by_cases h : c
  · rw [if_pos h]; exact ⟨fun z => absurd z (by decide), fun z => absurd h z⟩
  · rw [if_neg h]; exact ⟨fun _ => h, fun _ => rfl⟩
theorem pred_lt {k : Nat} (hk : k ≤ 100) (g : Int32) : (g ≤ nI k - 1) ↔ g < nI k := by
  have q : (nI k - 1).toInt = (k : Int) - 1 := by rw [fb_subI] <;> rw [nI_toInt (by omega)] <;> simp <;> omega
  rw [fa_le, fa_lt, q, nI_toInt (by omega)]; omega
theorem m_isSlot {n : Nat} {M : MSt} (hN : mN M = nI n) (hn : n ≤ 100) (i : Int32) : fX5_isSlot M i = some (if 0 ≤ i ∧ i < nI n then 1 else 0) := by
  unfold fX5_isSlot
  rw [hN, m_inI i 0 (nI n - 1) (by decide +kernel) rfl, Option.bind_some]
  simp only [pred_lt hn i]
  rw [gz_bit (by split; exact Or.inr rfl; exact Or.inl rfl)]
theorem c_hasSlot {n : Nat} {L : LSt} (hN : lN_ L = nI n) (i : Int32) : fX0_hasSlot L i = some (if 0 ≤ i ∧ i < nI n then 1 else 0) := by
  unfold fX0_hasSlot
  rw [hN]
  by_cases h0 : i < 0
  · rw [if_pos h0, if_neg (fun z => (fa_of_lt h0).2.1 z.1)]
  · rw [if_neg h0]
    by_cases h1 : nI n ≤ i
    · rw [if_pos h1, if_neg (fun z => (fa_of_lt z.2).2.1 h1)]
    · rw [if_neg h1, if_pos ⟨fa_of_nlt h0, fa_of_nle h1⟩]
/-- a refused call -/
theorem OpR_no {a b : Nat} {RC : Option (Nat × Int32 × GSt)} {RM : Option (Int32 × MSt)} {G : GSt} {M : MSt} (h : GRel G M) {k : Nat} {c : Int32} (hk : k = a ∨ (k = b ∧ b ≠ 9)) (h0 : k ≠ 0) (hc : c = if k = a then 1 else if k = b then 2 else 0)
    (h1 : RC = some (k, 0, G)) (h2 : RM = some (0, (mA M, c, mSize M, mSpot M, mRN M, mN M, mActs M))) : OpR a b RC RM :=
  ⟨k, 0, G, 0, _, h1, h2, Or.inr hk, hc, fun z => absurd z h0, h⟩
theorem o_slot {G : GSt} {M : MSt} (h : GRel G M) (i : Int32) : OpR 3 9 (fX4_slot G i) (fX5_slot M i) := by
  have h' := h
  obtain ⟨n, h1, ⟨k, h2⟩, -⟩ := h'
  have hn20 := h2.n20
  unfold fX4_slot fX5_slot
  rw [c_hasSlot h2.hn, m_isSlot h1 (by omega), Option.bind_some, Option.bind_some]
  by_cases hc : 0 ≤ i ∧ i < nI n
  · rw [if_pos hc, if_neg (by decide), if_neg (by decide), m_refused0, Option.bind_some, if_pos rfl]
    rcases rc_gripAt (j := 3) (M := (mA M, 0, mSize M, mSpot M, mRN M, mN M, mActs M)) h2 i with ⟨g1, g2, -⟩ | ⟨g0, -, -, -, g1, g2⟩
    · rw [g1, g2]
      exact ⟨0, _, G, _, _, rfl, rfl, Or.inl rfl, rfl, fun _ => rfl, h⟩
    · rw [g1, g2]
      exact ⟨0, _, G, _, _, rfl, rfl, Or.inl rfl, rfl, fun _ => rfl, h⟩
  · rw [if_neg hc, if_pos rfl, if_pos rfl, m_refused1, Option.bind_some, if_neg c10]
    exact OpR_no h (k := 3) (c := 1) (Or.inl rfl) (by decide) rfl rfl rfl
theorem GRel_put {n k : Nat} {G : GSt} {M : MSt} {L' tr : LSt} {t : SSt} {A' : Nat → RI} {d : RI} {his : Nat → LSt} {rem nxt acts ref b c : Int32} (h1 : mN M = nI n) (hr : RRel k n L' (A' 3)) (h3 : TxtOk (tSg (gTxt G)) (mSize M) (mA M 1)) (q3 : HisOk n his rem nxt acts d)
    (h5 : SavOk n (gSav G) (gSvd G) (mA M 7) (mA M 6)) (e1 : A' 1 = mA M 1) (e5 : A' 5 = d) (e6 : A' 6 = mA M 6) (e7 : A' 7 = mA M 7) : GRel (L', tr, gTxt G, t, his, gSav G, gSvd G, rem, nxt) (A', ref, mSize M, b, c, mN M, acts) := by
  refine ⟨n, h1, ⟨k, hr⟩, ?_, ?_, ?_⟩
  · show TxtOk _ _ (A' 1); rw [e1]; exact h3
  · show HisOk n his rem nxt acts (A' 5); rw [e5]; exact q3
  · show SavOk n _ _ (A' 7) (A' 6); rw [e6, e7]; exact h5
theorem o_takeOff {G : GSt} {M : MSt} (h : GRel G M) (g : Int32) : OpR 3 2 (fX4_takeOff G g) (fX5_takeOff M g) := by
  have h' := h
  obtain ⟨n, h1, ⟨k, h2⟩, h3, h4, h5⟩ := h'
  have hk12 := h2.k12
  unfold fX4_takeOff fX5_takeOff
  rw [c_has (j := 3) h2, m_isGrip (j := 3) h2, Option.bind_some, Option.bind_some]
  by_cases hc : 0 ≤ g ∧ g < nI k
  · obtain ⟨i, hi, rfl⟩ := nI_of (x := g) (fun z => (fa_of_lt z).2.1 hc.1)
    have hik : i < k := (nI_ltI hi (by omega)).mp hc.2
    obtain ⟨c0, c1, c2, c3, c4, c5, c6⟩ := h2.cell i hik
    rw [if_pos hc, if_neg c10, if_neg c10]
    unfold fX0_isIn
    rw [gd_nI (by omega) (by decide), aI60, gd_nI (by omega) (by decide), nI_clamp (by omega), nI_clamp (by omega), c5]
    by_cases hp : lPl (gLift G) i = 0
    · rw [if_pos hp, if_pos hp, Option.bind_some, if_neg c10, m_refused0, Option.bind_some, if_pos rfl]
      obtain ⟨his, rem, nxt, acts, d, q1, q2, q3⟩ := o_note (M := (mA M, 0, mSize M, mSpot M, mRN M, mN M, mActs M)) h2 h4
      rw [q1, q2, Option.bind_some, Option.bind_some]
      unfold fX0_move
      simp (disch := omega) only [gd_nI, nI_clamp, Option.bind_some, lt, aI72]
      refine ⟨0, _, _, _, _, rfl, rfl, Or.inl rfl, rfl, fun _ => ?_, GRel_put (k := k) h1 (RRel_cell h2 hik ⟨rfl, rfl, rfl, rfl, rfl⟩ (fun q hq => ?_) (fun q q1 q2 => ?_) ?_ (fun z => ?_)) h3 q3 h5 ?_ ?_ ?_ ?_⟩
      · simp (disch := omega) only [mA, aw_at, upd_ne, va_up_nx]
        exact (c6.sp hp).1.symm
      · refine ⟨?_, ?_, ?_, ?_, ?_, ?_, ?_, ?_⟩ <;> first | rfl | exact upd_ne hq
      · simp (disch := omega) only [mA, aw_at, upd_ne, va_up_nx]
      · unfold CellOk
        simp (disch := omega) only [mA, lWe, lCy, lWr, lPu, lSl, lPl, lSp, lSt, lLi, aw_at, aw_ne, upd_at, upd_ne, va_up_nx, c0, c1, c2, c3, c4, c5]
        exact ⟨trivial, trivial, trivial, trivial, trivial, trivial, Or.inr (Or.inl rfl)⟩
      · rw [show lPl (_ : LSt) i = 1 from upd_at] at z; exact absurd z (by decide)
      · simp (disch := omega) only [mA, aw_ne, va_up_nx]
      · simp (disch := omega) only [mA, aw_ne, va_up_at]
      · simp (disch := omega) only [mA, aw_ne, va_up_nx]
      · simp (disch := omega) only [mA, aw_ne, va_up_nx]
    · rw [if_neg hp, if_neg hp, Option.bind_some, if_pos rfl, m_refused2, Option.bind_some, if_neg c10]
      exact OpR_no h (k := 2) (c := 2) (Or.inr ⟨rfl, by decide⟩) (by decide) rfl rfl rfl
  · rw [if_neg hc, if_pos rfl, if_pos rfl, m_refused1, Option.bind_some, if_neg c10]
    exact OpR_no h (k := 3) (c := 1) (Or.inl rfl) (by decide) rfl rfl rfl

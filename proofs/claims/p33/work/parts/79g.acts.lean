/-! PURE LEVEL: the acts that change the lift -/
/-- a row of the model, and a lift, with one more grip in the garage -/
def addL (L : LSt) (k : Nat) (w : Int32) : LSt := (upd (lWe L) k w, upd (lCy L) k 0, upd (lWr L) k 0, upd (lPu L) k 0, upd (lSl L) k (-9), upd (lPl L) k 1, lSp L, lSt L, lLi L, lN_ L, lStn L, lClk L, lRnd L)
theorem RRel_add {k n : Nat} {L : LSt} {r r' : RI} (h : RRel k n L r) (hk : k < 12) (w : Int32) (h0 : r' k = w) (h1 : r' (12 + k) = 0) (h2 : r' (24 + k) = 0) (h3 : r' (36 + k) = 0) (h4 : r' (48 + k) = -9) (h5 : r' (60 + k) = 1) (h6 : r' 96 = nI (k + 1))
    (hr : ∀ i, i < 106 → i ≠ 96 → (i < 96 → ¬ i % 12 = k) → r' i = r i) : RRel (k + 1) n (addL L k w) r' := by
  refine ⟨⟨by omega, h.n4, h.n20, h.hn, h6⟩, ?_, ?_, ⟨fun i hi => ?_, h.limOk⟩, ?_, fun g hg => ?_, fun g g1 g2 => ?_, fun a b ha hb hab pa pb => ?_⟩
  · obtain ⟨s, s1, s2, s3⟩ := h.stn
    exact ⟨s, s1, s2, (hr 97 (by omega) (by omega) (by omega)).trans s3⟩
  · exact h.clk.trans (hr 98 (by omega) (by omega) (by omega)).symm
  · rw [hr (99 + i) (by omega) (by omega) (by omega)]; exact h.lim i hi
  · refine h.rnd.trans ?_
    unfold rOf; rw [hr 104 (by omega) (by omega) (by omega), hr 105 (by omega) (by omega) (by omega)]
  · by_cases e : g = k
    · subst e
      unfold CellOk addL
      simp only [lWe, lCy, lWr, lPu, lSl, lPl, lSp, lSt, upd_at]
      exact ⟨h0, h1, h2, h3, h4, h5, Or.inr (Or.inl rfl)⟩
    · obtain ⟨b1, b2, b3, b4, b5, b6, b7⟩ := h.cell g (by omega)
      unfold CellOk addL
      simp only [lWe, lCy, lWr, lPu, lSl, lPl, lSp, lSt, upd_ne e]
      rw [hr g (by omega) (by omega) (by omega), hr (12 + g) (by omega) (by omega) (by omega), hr (24 + g) (by omega) (by omega) (by omega), hr (36 + g) (by omega) (by omega) (by omega), hr (48 + g) (by omega) (by omega) (by omega), hr (60 + g) (by omega) (by omega) (by omega), hr (72 + g) (by omega) (by omega) (by omega), hr (84 + g) (by omega) (by omega) (by omega)]
      exact ⟨b1, b2, b3, b4, b5, b6, b7⟩
  · show upd (lPl L) k 1 g = -1
    rw [upd_ne (by omega)]; exact h.abs g (by omega) g2
  · have pa : upd (lPl L) k 1 a = 0 := pa
    have pb : upd (lPl L) k 1 b = 0 := pb
    by_cases e1 : a = k
    · rw [e1, upd_at] at pa; exact absurd pa (by decide)
    · by_cases e2 : b = k
      · rw [e2, upd_at] at pb; exact absurd pb (by decide)
      · rw [upd_ne e1] at pa
        rw [upd_ne e2] at pb
        exact h.dst a b (by omega) (by omega) hab pa pb
theorem c_add {k : Nat} {L : LSt} (hk : k < 12) (hg : fX0_grips L = some (nI k)) (w : Int32) : fX0_add L w = some (addL L k w) := by
  unfold fX0_add
  rw [hg, Option.bind_some, if_pos (show nI k < 12 from nI_lt (b := 12) hk (by decide)), gd_nI hk (by decide), nI_clamp (by omega)]
  rfl
/-- what is left of an act: the lift L' against row 3, all else as it was -/
theorem o_addGrip {G : GSt} {M : MSt} (h : GRel G M) (w : Int32) : OpR 1 2 (fX4_addGrip G w) (fX5_addGrip M w) := by
  have h' := h
  obtain ⟨n, h1, ⟨k, h2⟩, h3, h4, h5⟩ := h'
  have hk12 := h2.k12
  unfold fX4_addGrip fX5_addGrip
  rw [m_inI w 0 3 (by decide +kernel) (by decide +kernel), Option.bind_some]
  have no : (0 ≤ w ∧ w ≤ 3) ∨ w < 0 ∨ (¬ w < 0 ∧ ¬ w ≤ 3) := by
    by_cases q : w < 0
    · exact Or.inr (Or.inl q)
    · by_cases q2 : w ≤ 3
      · exact Or.inl ⟨fa_of_nlt q, q2⟩
      · exact Or.inr (Or.inr ⟨q, q2⟩)
  rcases no with hc | hc | hc
  · rw [if_neg (fun z => (fa_of_lt z).2.1 hc.1), if_pos hc.2, if_pos hc, if_neg c10, rc_isFull h2, Option.bind_some, h2.hk]
    by_cases hk : k = 12
    · rw [if_pos hk, if_neg c10, if_pos (by rw [hk]; rfl), m_refused2, Option.bind_some, if_neg c10]
      exact OpR_no h (k := 2) (c := 2) (Or.inr ⟨rfl, by decide⟩) (by decide) rfl rfl rfl
    · have hk : k < 12 := by omega
      rw [if_neg (show ¬ k = 12 by omega), if_pos rfl, if_neg (show ¬ nI k = 12 from fun z => by have := (nI_eq (a := k) (b := 12) (by omega) (by decide)).mp z; omega), m_refused0, Option.bind_some, if_pos rfl]
      obtain ⟨his, rem, nxt, acts, d, q1, q2, q3⟩ := o_note (M := (mA M, 0, mSize M, mSpot M, mRN M, mN M, mActs M)) h2 h4
      rw [q1, q2, Option.bind_some, Option.bind_some]
      have e9 : fX5_addOn 3 (va_up (mA M) 5 d, (0 : Int32), mSize M, mSpot M, mRN M, mN M, acts) w 1 0 = some (aw (aw (aw (aw (aw (aw (aw (aw (aw (va_up (mA M) 5 d) 3 k w) 3 (12 + k) 0) 3 (24 + k) 0) 3 (36 + k) 0) 3 (48 + k) (-9)) 3 (60 + k) 1) 3 (72 + k) 0) 3 (84 + k) 0) 3 96 (nI (k + 1)), (0 : Int32), mSize M, mSpot M, mRN M, mN M, acts) := by
        unfold fX5_addOn
        have e0 : mA M 3 96 = nI k := h2.hk
        simp (disch := omega) only [mA, lt, aI0, aI12, aI24, aI36, aI48, aI60, aI72, aI84, gd_nI, nI_clamp, aw_at, aw_ne, upd_at, upd_ne, va_up_nx, e0, nI_1]
      have hr : RRel (k + 1) n (addL (gLift G) k w) (mA (aw (aw (aw (aw (aw (aw (aw (aw (aw (va_up (mA M) 5 d) 3 k w) 3 (12 + k) 0) 3 (24 + k) 0) 3 (36 + k) 0) 3 (48 + k) (-9)) 3 (60 + k) 1) 3 (72 + k) 0) 3 (84 + k) 0) 3 96 (nI (k + 1)), (0 : Int32), mSize M, mSpot M, mRN M, mN M, acts) 3) := by
        refine RRel_add h2 hk w ?_ ?_ ?_ ?_ ?_ ?_ ?_ (fun i i1 i2 i3 => ?_) <;> simp (disch := omega) only [mA, aw_at, upd_at, upd_ne, va_up_nx]
      refine ⟨0, nI (k + 1) - 1, (addL (gLift G) k w, gTrial G, gTxt G, gSum G, his, gSav G, gSvd G, rem, nxt), nI (k + 1) - 1, (aw (aw (aw (aw (aw (aw (aw (aw (aw (va_up (mA M) 5 d) 3 k w) 3 (12 + k) 0) 3 (24 + k) 0) 3 (36 + k) 0) 3 (48 + k) (-9)) 3 (60 + k) 1) 3 (72 + k) 0) 3 (84 + k) 0) 3 96 (nI (k + 1)), (0 : Int32), mSize M, mSpot M, mRN M, mN M, acts), ?_, ?_, Or.inl rfl, rfl, fun _ => rfl, GRel_put (k := k + 1) h1 hr h3 q3 h5 ?_ ?_ ?_ ?_⟩
      · show (fX0_add (gLift G) w).bind _ = _
        rw [c_add hk (rc_grips h2), Option.bind_some, rc_grips hr]
        rfl
      · refine (congrArg (fun z => Option.bind z _) e9).trans ?_
        rw [Option.bind_some, hr.hk]
      · simp (disch := omega) only [mA, aw_ne, va_up_nx]
      · simp (disch := omega) only [mA, aw_ne, va_up_at]
      · simp (disch := omega) only [mA, aw_ne, va_up_nx]
      · simp (disch := omega) only [mA, aw_ne, va_up_nx]
  · rw [if_pos hc, if_neg (show ¬ (0 ≤ w ∧ w ≤ 3) from fun z => (fa_of_lt hc).2.1 z.1), if_pos rfl, m_refused1, Option.bind_some, if_neg c10]
    exact OpR_no h (k := 1) (c := 1) (Or.inl rfl) (by decide) rfl rfl rfl
  · rw [if_neg hc.1, if_neg hc.2, if_neg (show ¬ (0 ≤ w ∧ w ≤ 3) from fun z => hc.2 z.2), if_pos rfl, m_refused1, Option.bind_some, if_neg c10]
    exact OpR_no h (k := 1) (c := 1) (Or.inl rfl) (by decide) rfl rfl rfl

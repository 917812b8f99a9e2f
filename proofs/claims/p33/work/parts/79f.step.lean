theorem c_isStep (p : Int32) : fX4_isStepNumber p = some (if 1 ≤ p ∧ p ≤ 99 then 1 else 0) := by
  unfold fX4_isStepNumber
  by_cases h0 : p < 1
  · rw [if_pos h0, if_neg (fun z => (fa_of_lt h0).2.1 z.1)]
  · rw [if_neg h0]
    by_cases h1 : 99 < p
    · rw [if_pos h1, if_neg (fun z => (fa_of_lt h1).2.1 z.2)]
    · rw [if_neg h1, if_pos ⟨fa_of_nlt h0, fa_of_nlt h1⟩]
theorem step_no {p : Int32} (h : 1 ≤ p ∧ p ≤ 99) : ∃ m, m ≤ 99 ∧ 1 ≤ m ∧ p = nI m := by
  have e1 : (1 : Int32).toInt = 1 := by decide
  have e0 : (0 : Int32).toInt = 0 := by decide
  have h1 := h.1
  have h0 : ¬ p < 0 := fun z => by
    rw [fa_lt] at z
    rw [fa_le] at h1
    omega
  obtain ⟨m, hm, rfl⟩ := nI_of h0
  exact ⟨m, (nI_leI (b := 99) hm (by decide)).mp h.2, (nI_leI (a := 1) (by decide) hm).mp h.1, rfl⟩
theorem o_step {G : GSt} {M : MSt} (h : GRel G M) (p : Int32) : OpR 1 9 (fX4_step G p) (fX5_step M p) := by
  have h' := h
  obtain ⟨n, h1, ⟨k, h2⟩, h3, h4, h5⟩ := h'
  unfold fX4_step fX5_step
  rw [c_isStep, m_inI p 1 99 (by decide +kernel) (by decide +kernel), Option.bind_some, Option.bind_some]
  by_cases hc : 1 ≤ p ∧ p ≤ 99
  · obtain ⟨m, hm, hm1, rfl⟩ := step_no hc
    rw [if_pos hc, if_neg c10, if_neg c10, m_refused0, Option.bind_some, if_pos rfl]
    obtain ⟨his, rem, nxt, acts, d, q1, q2, q3⟩ := o_note (M := (mA M, 0, mSize M, mSpot M, mRN M, mN M, mActs M)) h2 h4
    rw [q1, q2, Option.bind_some, Option.bind_some]
    have hr : RRel k n (gLift G) (mA (va_up (mA M) 5 d, (0 : Int32), mSize M, mSpot M, mRN M, mN M, acts) 3) := by
      rw [show mA (va_up (mA M) 5 d, (0 : Int32), mSize M, mSpot M, mRN M, mN M, acts) 3 = mA M 3 from va_up_nx (mA M) (j := 5) (c := 3) d (by decide)]; exact h2
    have a1 := s_advanceBy hr (by decide) h1 (m := m) (by omega)
    have a2 := m_stepsOn hr (by decide) h1 (m := m) (by omega)
    have hz : mN (zM (va_up (mA M) 5 d, (0 : Int32), mSize M, mSpot M, mRN M, mN M, acts)) = nI n := h1
    obtain ⟨b1, b2, b3⟩ := st_it (zM_rel hr (by decide)) (by decide) hz m
    have b4 := (zM_same (j := 3) (va_up (mA M) 5 d, (0 : Int32), mSize M, mSpot M, mRN M, mN M, acts)).trans b2
    obtain ⟨d1, d2⟩ := rc_count b1 (w := 2) (by decide)
    refine ⟨0, nI (sCt (fun g => decide (lPl (itL (gLift G) m) g = 2)) k), (itL (gLift G) m, gTrial G, gTxt G, gSum G, his, gSav G, gSvd G, rem, nxt), nI (sCt (fun g => decide (lPl (itL (gLift G) m) g = 2)) k), itM 3 (zM (va_up (mA M) 5 d, (0 : Int32), mSize M, mSpot M, mRN M, mN M, acts)) m, ?_, ?_, Or.inl rfl, ?_, fun _ => rfl, ?_⟩
    · show (fX0_advanceBy (gLift G) (nI m)).bind _ = _
      rw [a1, Option.bind_some, d1]; rfl
    · refine (congrArg (fun z => Option.bind z _) a2).trans ?_
      rw [Option.bind_some, d2]; rfl
    · show (itM 3 _ m).2.1 = _
      rw [b4.2]; rfl
    · have w1 : ∀ c, c ≠ 3 → c ≠ 8 → c ≠ 5 → mA (itM 3 (zM (va_up (mA M) 5 d, (0 : Int32), mSize M, mSpot M, mRN M, mN M, acts)) m) c = mA M c := fun c c3 c8 c5 => (b4.1 c c3 c8).trans (va_up_nx (mA M) d c5)
      have w5 : mA (itM 3 (zM (va_up (mA M) 5 d, (0 : Int32), mSize M, mSpot M, mRN M, mN M, acts)) m) 5 = d := (b4.1 5 (by decide) (by decide)).trans (va_up_at (mA M) 5 d)
      refine ⟨n, b3, ⟨k, b1⟩, ?_, ?_, ?_⟩
      · rw [w1 1 (by decide) (by decide) (by decide), show mSize (itM 3 (zM (va_up (mA M) 5 d, (0 : Int32), mSize M, mSpot M, mRN M, mN M, acts)) m) = mSize M from by show (itM 3 _ m).2.2.1 = _; rw [b4.2]]
        exact h3
      · rw [w5, show mActs (itM 3 (zM (va_up (mA M) 5 d, (0 : Int32), mSize M, mSpot M, mRN M, mN M, acts)) m) = acts from by show (itM 3 _ m).2.2.2.2.2.2 = _; rw [b4.2]]
        exact q3
      · rw [w1 7 (by decide) (by decide) (by decide), w1 6 (by decide) (by decide) (by decide)]
        exact h5
  · rw [if_neg hc, if_pos rfl, if_pos rfl, m_refused1, Option.bind_some, if_neg c10]
    exact OpR_no h (k := 1) (c := 1) (Or.inl rfl) (by decide) rfl rfl rfl

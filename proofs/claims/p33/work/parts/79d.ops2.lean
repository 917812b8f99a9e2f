theorem o_scrap {G : GSt} {M : MSt} (h : GRel G M) (g : Int32) : OpR 3 2 (fX4_scrap G g) (fX5_scrap M g) := by
  have h' := h
  obtain ⟨n, h1, ⟨k, h2⟩, h3, h4, h5⟩ := h'
  have hk12 := h2.k12
  unfold fX4_scrap fX5_scrap
  rw [c_has (j := 3) h2, m_isGrip (j := 3) h2, Option.bind_some, Option.bind_some]
  by_cases hc : 0 ≤ g ∧ g < nI k
  · obtain ⟨i, hi, rfl⟩ := nI_of (x := g) (fun z => (fa_of_lt z).2.1 hc.1)
    have hik : i < k := (nI_ltI hi (by omega)).mp hc.2
    obtain ⟨c0, c1, c2, c3, c4, c5, c6⟩ := h2.cell i hik
    rw [if_pos hc, if_neg c10, if_neg c10]
    unfold fX0_isIn
    rw [gd_nI (by omega) (by decide), aI60, gd_nI (by omega) (by decide), nI_clamp (by omega), nI_clamp (by omega), c5]
    by_cases hp : lPl (gLift G) i = 3
    · rw [if_pos hp, if_pos hp, Option.bind_some, if_neg c10, m_refused2, Option.bind_some, if_neg c10]
      exact OpR_no h (k := 2) (c := 2) (Or.inr ⟨rfl, by decide⟩) (by decide) rfl rfl rfl
    · rw [if_neg hp, if_neg hp, Option.bind_some, if_pos rfl, m_refused0, Option.bind_some, if_pos rfl]
      obtain ⟨his, rem, nxt, acts, d, q1, q2, q3⟩ := o_note (M := (mA M, 0, mSize M, mSpot M, mRN M, mN M, mActs M)) h2 h4
      rw [q1, q2, Option.bind_some, Option.bind_some]
      unfold fX0_move
      simp (disch := omega) only [gd_nI, nI_clamp, Option.bind_some, lt]
      refine ⟨0, _, _, _, _, rfl, rfl, Or.inl rfl, rfl, fun _ => ?_, GRel_put (k := k) h1 (RRel_cell h2 hik ⟨rfl, rfl, rfl, rfl, rfl⟩ (fun q hq => ?_) (fun q q1 q2 => ?_) ?_ (fun z => ?_)) h3 q3 h5 ?_ ?_ ?_ ?_⟩
      · simp (disch := omega) only [mA, va_up_nx]
        exact c5.symm
      · refine ⟨?_, ?_, ?_, ?_, ?_, ?_, ?_, ?_⟩ <;> first | rfl | exact upd_ne hq
      · simp (disch := omega) only [mA, aw_at, upd_ne, va_up_nx]
      · unfold CellOk
        simp (disch := omega) only [mA, lWe, lCy, lWr, lPu, lSl, lPl, lSp, lSt, lLi, aw_at, aw_ne, upd_at, upd_ne, va_up_nx, c0, c1, c2, c3, c4, c5]
        exact ⟨trivial, trivial, trivial, trivial, trivial, trivial, Or.inr (Or.inr (Or.inr rfl))⟩
      · rw [show lPl (_ : LSt) i = 3 from upd_at] at z; exact absurd z (by decide)
      · simp (disch := omega) only [mA, aw_ne, va_up_nx]
      · simp (disch := omega) only [mA, aw_ne, va_up_at]
      · simp (disch := omega) only [mA, aw_ne, va_up_nx]
      · simp (disch := omega) only [mA, aw_ne, va_up_nx]
  · rw [if_neg hc, if_pos rfl, if_pos rfl, m_refused1, Option.bind_some, if_neg c10]
    exact OpR_no h (k := 3) (c := 1) (Or.inl rfl) (by decide) rfl rfl rfl

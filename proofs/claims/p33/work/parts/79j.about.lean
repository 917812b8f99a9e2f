/-! PURE LEVEL: append, about, grip -/
theorem ch_nar : ∀ c, c < 256 → vp_nar .char (((nI c).toUInt32 % 65536).toInt32) = nI c := by decide +kernel
theorem s_put {Z : SSt} {len : Nat} (hl : sLen Z = nI len) (h : len < 60) (x : Int32) : fX3_put Z x = some (upd (sRow Z) len (vp_nar .char x), nI (len + 1)) := by
  unfold fX3_put
  rw [hl, if_neg (nI_pos (by omega)), if_pos (show nI len < 60 from nI_lt (b := 60) h (by decide)), gd_nI h (by decide), nI_clamp (by omega), nI_1]
theorem o_append {G : GSt} {M : MSt} (h : GRel G M) (x : Int32) : OpR 1 2 (fX4_append G x) (fX5_append M x) := by
  have h' := h
  obtain ⟨n, h1, h2, ⟨len, t1, t2, t3, t4⟩, h4, h5⟩ := h'
  unfold fX4_append fX5_append
  rw [m_inI x 0 255 (by decide +kernel) (by decide +kernel), Option.bind_some]
  have no : (0 ≤ x ∧ x ≤ 255) ∨ x < 0 ∨ (¬ x < 0 ∧ ¬ x ≤ 255) := by
    by_cases q : x < 0
    · exact Or.inr (Or.inl q)
    · by_cases q2 : x ≤ 255
      · exact Or.inl ⟨fa_of_nlt q, q2⟩
      · exact Or.inr (Or.inr ⟨q, q2⟩)
  rcases no with hc | hc | hc
  · rw [if_neg (fun z => (fa_of_lt z).2.1 hc.1), if_pos hc.2, if_pos hc, if_neg c10]
    unfold fX3_isFull
    rw [t2, t3]
    obtain ⟨c, hcc, rfl⟩ := nI_of (x := x) (fun z => (fa_of_lt z).2.1 hc.1)
    have hc2 : c < 256 := by have := (nI_leI (b := 255) hcc (by decide)).mp hc.2; omega
    by_cases hl : len = 60
    · rw [if_neg (by rw [hl]; decide), Option.bind_some, if_neg c10, if_pos (by rw [hl]; rfl), m_refused2, Option.bind_some, if_neg c10]
      exact OpR_no h (k := 2) (c := 2) (Or.inr ⟨rfl, by decide⟩) (by decide) rfl rfl rfl
    · have hl : len < 60 := by omega
      rw [if_pos (show nI len < 60 from nI_lt (b := 60) hl (by decide)), Option.bind_some, if_pos rfl, if_neg (show ¬ nI len = 60 from fun z => by have := (nI_eq (a := len) (b := 60) (by omega) (by decide)).mp z; omega), m_refused0, Option.bind_some, if_pos rfl, s_put t2 hl, Option.bind_some]
      have e0 : ∀ y : Int32, mSize (mA M, (0 : Int32), mSize M, y, mRN M, mN M, mActs M) = nI len := fun _ => t3
      refine ⟨0, nI (len + 1), _, nI (len + 1), (aw (mA M) 1 len (nI c), 0, nI (len + 1), mSpot M, mRN M, mN M, mActs M), rfl, ?_, Or.inl rfl, rfl, fun _ => rfl, ⟨n, h1, ?_, ⟨len + 1, by omega, rfl, rfl, fun i hi => ?_⟩, ?_, ?_⟩⟩
      · show gd (mSize M) 60 _ = _
        rw [t3, gd_nI hl (by decide)]
        show some (nI len + 1, (aw (mA M) 1 (nI len).toNatClampNeg (nI c), 0, nI len + 1, mSpot M, mRN M, mN M, mActs M)) = _
        rw [nI_clamp (by omega), nI_1]
      · show ∃ k, RRel k n (gLift G) (aw (mA M) 1 len (nI c) 3)
        rw [aw_ne (by decide)]; exact h2
      · show upd (sRow (tSg (gTxt G))) len (vp_nar .char _) i = aw (mA M) 1 len (nI c) 1 i ∧ ∃ c', c' < 256 ∧ aw (mA M) 1 len (nI c) 1 i = nI c'
        rw [ch_nar c hc2, aw_at]
        by_cases e : i = len
        · subst e; rw [upd_at, upd_at]; exact ⟨rfl, c, hc2, rfl⟩
        · rw [upd_ne e, upd_ne e]; exact t4 i (by omega)
      · show HisOk n _ _ _ _ (aw (mA M) 1 len (nI c) 5)
        rw [aw_ne (by decide)]; exact h4
      · show SavOk n _ _ (aw (mA M) 1 len (nI c) 7) (aw (mA M) 1 len (nI c) 6)
        rw [aw_ne (by decide), aw_ne (by decide)]; exact h5
  · rw [if_pos hc, if_neg (show ¬ (0 ≤ x ∧ x ≤ 255) from fun z => (fa_of_lt hc).2.1 z.1), if_pos rfl, m_refused1, Option.bind_some, if_neg c10]
    exact OpR_no h (k := 1) (c := 1) (Or.inl rfl) (by decide) rfl rfl rfl
  · rw [if_neg hc.1, if_neg hc.2, if_neg (show ¬ (0 ≤ x ∧ x ≤ 255) from fun z => hc.2 z.2), if_pos rfl, m_refused1, Option.bind_some, if_neg c10]
    exact OpR_no h (k := 1) (c := 1) (Or.inl rfl) (by decide) rfl rfl rfl
theorem in13 {x : Int32} (h : 0 ≤ x ∧ x ≤ 12) : ∃ m, m < 13 ∧ x = nI m := by
  obtain ⟨m, hm, rfl⟩ := nI_of (x := x) (fun z => (fa_of_lt z).2.1 h.1)
  exact ⟨m, by have := (nI_leI (b := 12) hm (by decide)).mp h.2; omega, rfl⟩
theorem o_about {G : GSt} {M : MSt} (h : GRel G M) (x : Int32) : OpR 1 9 (fX4_about G x) (fX5_about M x) := by
  have h' := h
  obtain ⟨n, h1, ⟨k, h2⟩, h3, h4, h5⟩ := h'
  have hM : GRel G (mA M, 0, mSize M, mSpot M, mRN M, mN M, mActs M) := h.scr 0 _ _
  unfold fX4_about fX5_about
  rw [m_inI x 0 12 (by decide +kernel) (by decide +kernel), Option.bind_some]
  by_cases hc : 0 ≤ x ∧ x ≤ 12
  · rw [if_pos hc, if_neg c10, m_refused0, Option.bind_some, if_pos rfl]
    obtain ⟨m, hm, rfl⟩ := in13 hc
    obtain ⟨s, s1, s2, s3⟩ := h2.stn
    have h2' : RRel k n (gLift G) (mA (mA M, (0 : Int32), mSize M, mSpot M, mRN M, mN M, mActs M) 3) := h2
    have : m = 0 ∨ m = 1 ∨ m = 2 ∨ m = 3 ∨ m = 4 ∨ m = 5 ∨ m = 6 ∨ m = 7 ∨ m = 8 ∨ m = 9 ∨ m = 10 ∨ m = 11 ∨ m = 12 := by omega
    rcases this with rfl | rfl | rfl | rfl | rfl | rfl | rfl | rfl | rfl | rfl | rfl | rfl | rfl
    · rw [if_pos (show nI 0 = 0 by decide), if_pos (show nI 0 = 0 by decide)]
      exact ⟨0, _, G, _, _, rfl, rfl, Or.inl rfl, rfl, fun _ => h2.hn.trans h1.symm, hM⟩
    · rw [if_neg (show ¬ nI 1 = 0 by decide), if_pos (show nI 1 = 1 by decide), if_neg (show ¬ nI 1 = 0 by decide), if_pos (show nI 1 = 1 by decide), rc_grips h2, Option.bind_some]
      exact ⟨0, _, G, _, _, rfl, rfl, Or.inl rfl, rfl, fun _ => h2.hk.symm, hM⟩
    · rw [if_neg (show ¬ nI 2 = 0 by decide), if_neg (show ¬ nI 2 = 1 by decide), if_pos (show nI 2 = 2 by decide), if_neg (show ¬ nI 2 = 0 by decide), if_neg (show ¬ nI 2 = 1 by decide), if_pos (show nI 2 = 2 by decide), if_neg (show ¬ (6 : Int32) ≤ nI 2 by decide), show nI 2 - 2 = 0 by decide +kernel]
      obtain ⟨d1, d2⟩ := rc_count h2' (w := 0) (by decide)
      rw [d1, d2, Option.bind_some, Option.bind_some]
      exact ⟨0, _, G, _, _, rfl, rfl, Or.inl rfl, rfl, fun _ => rfl, hM⟩
    · rw [if_neg (show ¬ nI 3 = 0 by decide), if_neg (show ¬ nI 3 = 1 by decide), if_neg (show ¬ nI 3 = 2 by decide), if_pos (show nI 3 = 3 by decide), if_neg (show ¬ nI 3 = 0 by decide), if_neg (show ¬ nI 3 = 1 by decide), if_neg (show ¬ nI 3 = 2 by decide), if_pos (show nI 3 = 3 by decide), if_neg (show ¬ (6 : Int32) ≤ nI 3 by decide), show nI 3 - 2 = 1 by decide +kernel]
      obtain ⟨d1, d2⟩ := rc_count h2' (w := 1) (by decide)
      rw [d1, d2, Option.bind_some, Option.bind_some]
      exact ⟨0, _, G, _, _, rfl, rfl, Or.inl rfl, rfl, fun _ => rfl, hM⟩
    · rw [if_neg (show ¬ nI 4 = 0 by decide), if_neg (show ¬ nI 4 = 1 by decide), if_neg (show ¬ nI 4 = 2 by decide), if_neg (show ¬ nI 4 = 3 by decide), if_pos (show nI 4 = 4 by decide), if_neg (show ¬ nI 4 = 0 by decide), if_neg (show ¬ nI 4 = 1 by decide), if_neg (show ¬ nI 4 = 2 by decide), if_neg (show ¬ nI 4 = 3 by decide), if_pos (show nI 4 = 4 by decide), if_neg (show ¬ (6 : Int32) ≤ nI 4 by decide), show nI 4 - 2 = 2 by decide +kernel]
      obtain ⟨d1, d2⟩ := rc_count h2' (w := 2) (by decide)
      rw [d1, d2, Option.bind_some, Option.bind_some]
      exact ⟨0, _, G, _, _, rfl, rfl, Or.inl rfl, rfl, fun _ => rfl, hM⟩
    · rw [if_neg (show ¬ nI 5 = 0 by decide), if_neg (show ¬ nI 5 = 1 by decide), if_neg (show ¬ nI 5 = 2 by decide), if_neg (show ¬ nI 5 = 3 by decide), if_neg (show ¬ nI 5 = 4 by decide), if_pos (show nI 5 = 5 by decide), if_neg (show ¬ nI 5 = 0 by decide), if_neg (show ¬ nI 5 = 1 by decide), if_neg (show ¬ nI 5 = 2 by decide), if_neg (show ¬ nI 5 = 3 by decide), if_neg (show ¬ nI 5 = 4 by decide), if_pos (show nI 5 = 5 by decide), if_neg (show ¬ (6 : Int32) ≤ nI 5 by decide), show nI 5 - 2 = 3 by decide +kernel]
      obtain ⟨d1, d2⟩ := rc_count h2' (w := 3) (by decide)
      rw [d1, d2, Option.bind_some, Option.bind_some]
      exact ⟨0, _, G, _, _, rfl, rfl, Or.inl rfl, rfl, fun _ => rfl, hM⟩
    · rw [if_neg (show ¬ nI 6 = 0 by decide), if_neg (show ¬ nI 6 = 1 by decide), if_neg (show ¬ nI 6 = 2 by decide), if_neg (show ¬ nI 6 = 3 by decide), if_neg (show ¬ nI 6 = 4 by decide), if_neg (show ¬ nI 6 = 5 by decide), if_pos (show nI 6 = 6 by decide), if_neg (show ¬ nI 6 = 0 by decide), if_neg (show ¬ nI 6 = 1 by decide), if_neg (show ¬ nI 6 = 2 by decide), if_neg (show ¬ nI 6 = 3 by decide), if_neg (show ¬ nI 6 = 4 by decide), if_neg (show ¬ nI 6 = 5 by decide), if_pos (show nI 6 = 6 by decide)]
      exact ⟨0, _, G, _, _, rfl, rfl, Or.inl rfl, rfl, fun _ => s2.trans s3.symm, hM⟩
    · rw [if_neg (show ¬ nI 7 = 0 by decide), if_neg (show ¬ nI 7 = 1 by decide), if_neg (show ¬ nI 7 = 2 by decide), if_neg (show ¬ nI 7 = 3 by decide), if_neg (show ¬ nI 7 = 4 by decide), if_neg (show ¬ nI 7 = 5 by decide), if_neg (show ¬ nI 7 = 6 by decide), if_pos (show nI 7 = 7 by decide), if_neg (show ¬ nI 7 = 0 by decide), if_neg (show ¬ nI 7 = 1 by decide), if_neg (show ¬ nI 7 = 2 by decide), if_neg (show ¬ nI 7 = 3 by decide), if_neg (show ¬ nI 7 = 4 by decide), if_neg (show ¬ nI 7 = 5 by decide), if_neg (show ¬ nI 7 = 6 by decide), if_pos (show nI 7 = 7 by decide)]
      exact ⟨0, _, G, _, _, rfl, rfl, Or.inl rfl, rfl, fun _ => h2.clk, hM⟩
    · rw [if_neg (show ¬ nI 8 = 0 by decide), if_neg (show ¬ nI 8 = 1 by decide), if_neg (show ¬ nI 8 = 2 by decide), if_neg (show ¬ nI 8 = 3 by decide), if_neg (show ¬ nI 8 = 4 by decide), if_neg (show ¬ nI 8 = 5 by decide), if_neg (show ¬ nI 8 = 6 by decide), if_neg (show ¬ nI 8 = 7 by decide), if_pos (show nI 8 = 8 by decide), if_neg (show ¬ nI 8 = 0 by decide), if_neg (show ¬ nI 8 = 1 by decide), if_neg (show ¬ nI 8 = 2 by decide), if_neg (show ¬ nI 8 = 3 by decide), if_neg (show ¬ nI 8 = 4 by decide), if_neg (show ¬ nI 8 = 5 by decide), if_neg (show ¬ nI 8 = 6 by decide), if_neg (show ¬ nI 8 = 7 by decide), if_pos (show (6 : Int32) ≤ nI 8 by decide), show (99 : Int32) + nI 8 - 8 = nI 99 by decide +kernel, gd_nI (by decide) (by decide), nI_clamp (by decide)]
      exact ⟨0, _, G, _, _, rfl, rfl, Or.inl rfl, rfl, fun _ => (h2.lim 0 (by decide)).symm, hM⟩
    · rw [if_neg (show ¬ nI 9 = 0 by decide), if_neg (show ¬ nI 9 = 1 by decide), if_neg (show ¬ nI 9 = 2 by decide), if_neg (show ¬ nI 9 = 3 by decide), if_neg (show ¬ nI 9 = 4 by decide), if_neg (show ¬ nI 9 = 5 by decide), if_neg (show ¬ nI 9 = 6 by decide), if_neg (show ¬ nI 9 = 7 by decide), if_neg (show ¬ nI 9 = 8 by decide), if_pos (show nI 9 = 9 by decide), if_neg (show ¬ nI 9 = 0 by decide), if_neg (show ¬ nI 9 = 1 by decide), if_neg (show ¬ nI 9 = 2 by decide), if_neg (show ¬ nI 9 = 3 by decide), if_neg (show ¬ nI 9 = 4 by decide), if_neg (show ¬ nI 9 = 5 by decide), if_neg (show ¬ nI 9 = 6 by decide), if_neg (show ¬ nI 9 = 7 by decide), if_pos (show (6 : Int32) ≤ nI 9 by decide), show (99 : Int32) + nI 9 - 8 = nI 100 by decide +kernel, gd_nI (by decide) (by decide), nI_clamp (by decide)]
      exact ⟨0, _, G, _, _, rfl, rfl, Or.inl rfl, rfl, fun _ => (h2.lim 1 (by decide)).symm, hM⟩
    · rw [if_neg (show ¬ nI 10 = 0 by decide), if_neg (show ¬ nI 10 = 1 by decide), if_neg (show ¬ nI 10 = 2 by decide), if_neg (show ¬ nI 10 = 3 by decide), if_neg (show ¬ nI 10 = 4 by decide), if_neg (show ¬ nI 10 = 5 by decide), if_neg (show ¬ nI 10 = 6 by decide), if_neg (show ¬ nI 10 = 7 by decide), if_neg (show ¬ nI 10 = 8 by decide), if_neg (show ¬ nI 10 = 9 by decide), if_pos (show nI 10 = 10 by decide), if_neg (show ¬ nI 10 = 0 by decide), if_neg (show ¬ nI 10 = 1 by decide), if_neg (show ¬ nI 10 = 2 by decide), if_neg (show ¬ nI 10 = 3 by decide), if_neg (show ¬ nI 10 = 4 by decide), if_neg (show ¬ nI 10 = 5 by decide), if_neg (show ¬ nI 10 = 6 by decide), if_neg (show ¬ nI 10 = 7 by decide), if_pos (show (6 : Int32) ≤ nI 10 by decide), show (99 : Int32) + nI 10 - 8 = nI 101 by decide +kernel, gd_nI (by decide) (by decide), nI_clamp (by decide)]
      exact ⟨0, _, G, _, _, rfl, rfl, Or.inl rfl, rfl, fun _ => (h2.lim 2 (by decide)).symm, hM⟩
    · rw [if_neg (show ¬ nI 11 = 0 by decide), if_neg (show ¬ nI 11 = 1 by decide), if_neg (show ¬ nI 11 = 2 by decide), if_neg (show ¬ nI 11 = 3 by decide), if_neg (show ¬ nI 11 = 4 by decide), if_neg (show ¬ nI 11 = 5 by decide), if_neg (show ¬ nI 11 = 6 by decide), if_neg (show ¬ nI 11 = 7 by decide), if_neg (show ¬ nI 11 = 8 by decide), if_neg (show ¬ nI 11 = 9 by decide), if_neg (show ¬ nI 11 = 10 by decide), if_pos (show nI 11 = 11 by decide), if_neg (show ¬ nI 11 = 0 by decide), if_neg (show ¬ nI 11 = 1 by decide), if_neg (show ¬ nI 11 = 2 by decide), if_neg (show ¬ nI 11 = 3 by decide), if_neg (show ¬ nI 11 = 4 by decide), if_neg (show ¬ nI 11 = 5 by decide), if_neg (show ¬ nI 11 = 6 by decide), if_neg (show ¬ nI 11 = 7 by decide), if_pos (show (6 : Int32) ≤ nI 11 by decide), show (99 : Int32) + nI 11 - 8 = nI 102 by decide +kernel, gd_nI (by decide) (by decide), nI_clamp (by decide)]
      exact ⟨0, _, G, _, _, rfl, rfl, Or.inl rfl, rfl, fun _ => (h2.lim 3 (by decide)).symm, hM⟩
    · rw [if_neg (show ¬ nI 12 = 0 by decide), if_neg (show ¬ nI 12 = 1 by decide), if_neg (show ¬ nI 12 = 2 by decide), if_neg (show ¬ nI 12 = 3 by decide), if_neg (show ¬ nI 12 = 4 by decide), if_neg (show ¬ nI 12 = 5 by decide), if_neg (show ¬ nI 12 = 6 by decide), if_neg (show ¬ nI 12 = 7 by decide), if_neg (show ¬ nI 12 = 8 by decide), if_neg (show ¬ nI 12 = 9 by decide), if_neg (show ¬ nI 12 = 10 by decide), if_neg (show ¬ nI 12 = 11 by decide), if_pos (show nI 12 = 12 by decide), if_neg (show ¬ nI 12 = 0 by decide), if_neg (show ¬ nI 12 = 1 by decide), if_neg (show ¬ nI 12 = 2 by decide), if_neg (show ¬ nI 12 = 3 by decide), if_neg (show ¬ nI 12 = 4 by decide), if_neg (show ¬ nI 12 = 5 by decide), if_neg (show ¬ nI 12 = 6 by decide), if_neg (show ¬ nI 12 = 7 by decide), if_pos (show (6 : Int32) ≤ nI 12 by decide), show (99 : Int32) + nI 12 - 8 = nI 103 by decide +kernel, gd_nI (by decide) (by decide), nI_clamp (by decide)]
      exact ⟨0, _, G, _, _, rfl, rfl, Or.inl rfl, rfl, fun _ => (h2.lim 4 (by decide)).symm, hM⟩
  · have hx : ∀ m, m < 13 → ¬ x = nI m := fun m hm z => hc (by rw [z]; exact ⟨nI_pos' (by omega), nI_le (a := m) (b := 12) (by omega) (by decide)⟩)
    rw [if_neg (show ¬ x = 0 from hx 0 (by decide)), if_neg (show ¬ x = 1 from hx 1 (by decide)), if_neg (show ¬ x = 2 from hx 2 (by decide)), if_neg (show ¬ x = 3 from hx 3 (by decide)), if_neg (show ¬ x = 4 from hx 4 (by decide)), if_neg (show ¬ x = 5 from hx 5 (by decide)), if_neg (show ¬ x = 6 from hx 6 (by decide)), if_neg (show ¬ x = 7 from hx 7 (by decide)), if_neg (show ¬ x = 8 from hx 8 (by decide)), if_neg (show ¬ x = 9 from hx 9 (by decide)), if_neg (show ¬ x = 10 from hx 10 (by decide)), if_neg (show ¬ x = 11 from hx 11 (by decide)), if_neg (show ¬ x = 12 from hx 12 (by decide))]
    rw [if_neg hc, if_pos rfl, m_refused1, Option.bind_some, if_neg c10]
    exact OpR_no h (k := 1) (c := 1) (Or.inl rfl) (by decide) rfl rfl rfl
theorem rc_number {k n j : Nat} {L : LSt} {M : MSt} (h : RRel k n L (mA M j)) {i m : Nat} (hi : i < k) (hm : m < 8) : ∃ v, fX0_number L (nI i) (nI m) = some v ∧ fX5_detail j M (nI i) (nI m) = some v := by
  have hk12 := h.k12
  obtain ⟨c0, c1, c2, c3, c4, c5, c6⟩ := h.cell i hi
  unfold fX0_number fX5_detail
  have : m = 0 ∨ m = 1 ∨ m = 2 ∨ m = 3 ∨ m = 4 ∨ m = 5 ∨ m = 6 ∨ m = 7 := by omega
  rcases this with rfl | rfl | rfl | rfl | rfl | rfl | rfl | rfl
  · rw [if_pos (show nI 0 = 0 by decide), if_neg (show ¬ nI 0 = 6 by decide), if_neg (show ¬ nI 0 = 7 by decide), show (12 : Int32) * nI 0 = nI 0 by decide +kernel, nI_add, gd_nI (by omega) (by decide), gd_nI (by omega) (by decide), nI_clamp (by omega), nI_clamp (by omega)]
    exact ⟨_, rfl, congrArg some (by rw [Nat.zero_add]; exact c0)⟩
  · rw [if_neg (show ¬ nI 1 = 0 by decide), if_pos (show nI 1 = 1 by decide), if_neg (show ¬ nI 1 = 6 by decide), if_neg (show ¬ nI 1 = 7 by decide), show (12 : Int32) * nI 1 = nI 12 by decide +kernel, nI_add, gd_nI (by omega) (by decide), gd_nI (by omega) (by decide), nI_clamp (by omega), nI_clamp (by omega)]
    exact ⟨_, rfl, congrArg some c1⟩
  · rw [if_neg (show ¬ nI 2 = 0 by decide), if_neg (show ¬ nI 2 = 1 by decide), if_pos (show nI 2 = 2 by decide), if_neg (show ¬ nI 2 = 6 by decide), if_neg (show ¬ nI 2 = 7 by decide), show (12 : Int32) * nI 2 = nI 24 by decide +kernel, nI_add, gd_nI (by omega) (by decide), gd_nI (by omega) (by decide), nI_clamp (by omega), nI_clamp (by omega)]
    exact ⟨_, rfl, congrArg some c2⟩
  · rw [if_neg (show ¬ nI 3 = 0 by decide), if_neg (show ¬ nI 3 = 1 by decide), if_neg (show ¬ nI 3 = 2 by decide), if_pos (show nI 3 = 3 by decide), if_neg (show ¬ nI 3 = 6 by decide), if_neg (show ¬ nI 3 = 7 by decide), show (12 : Int32) * nI 3 = nI 36 by decide +kernel, nI_add, gd_nI (by omega) (by decide), gd_nI (by omega) (by decide), nI_clamp (by omega), nI_clamp (by omega)]
    exact ⟨_, rfl, congrArg some c3⟩
  · rw [if_neg (show ¬ nI 4 = 0 by decide), if_neg (show ¬ nI 4 = 1 by decide), if_neg (show ¬ nI 4 = 2 by decide), if_neg (show ¬ nI 4 = 3 by decide), if_pos (show nI 4 = 4 by decide), if_neg (show ¬ nI 4 = 6 by decide), if_neg (show ¬ nI 4 = 7 by decide), show (12 : Int32) * nI 4 = nI 48 by decide +kernel, nI_add, gd_nI (by omega) (by decide), gd_nI (by omega) (by decide), nI_clamp (by omega), nI_clamp (by omega)]
    exact ⟨_, rfl, congrArg some c4⟩
  · rw [if_neg (show ¬ nI 5 = 0 by decide), if_neg (show ¬ nI 5 = 1 by decide), if_neg (show ¬ nI 5 = 2 by decide), if_neg (show ¬ nI 5 = 3 by decide), if_neg (show ¬ nI 5 = 4 by decide), if_pos (show nI 5 = 5 by decide), if_neg (show ¬ nI 5 = 6 by decide), if_neg (show ¬ nI 5 = 7 by decide), show (12 : Int32) * nI 5 = nI 60 by decide +kernel, nI_add, gd_nI (by omega) (by decide), gd_nI (by omega) (by decide), nI_clamp (by omega), nI_clamp (by omega)]
    exact ⟨_, rfl, congrArg some c5⟩
  · rw [if_neg (show ¬ nI 6 = 0 by decide), if_neg (show ¬ nI 6 = 1 by decide), if_neg (show ¬ nI 6 = 2 by decide), if_neg (show ¬ nI 6 = 3 by decide), if_neg (show ¬ nI 6 = 4 by decide), if_neg (show ¬ nI 6 = 5 by decide), if_pos (show nI 6 = 6 by decide), if_pos (show nI 6 = 6 by decide), aI60, aI72, gd_nI (by omega) (by decide), gd_nI (by omega) (by decide), nI_clamp (by omega), nI_clamp (by omega), c5]
    by_cases hp : lPl L i = 0
    · rw [if_pos hp, if_pos hp, gd_nI (by omega) (by decide), nI_clamp (by omega), (c6.sp hp).1]
      exact ⟨_, rfl, rfl⟩
    · rw [if_neg hp, if_neg hp]
      exact ⟨_, rfl, rfl⟩
  · rw [if_neg (show ¬ nI 7 = 0 by decide), if_neg (show ¬ nI 7 = 1 by decide), if_neg (show ¬ nI 7 = 2 by decide), if_neg (show ¬ nI 7 = 3 by decide), if_neg (show ¬ nI 7 = 4 by decide), if_neg (show ¬ nI 7 = 5 by decide), if_neg (show ¬ nI 7 = 6 by decide), if_neg (show ¬ nI 7 = 6 by decide), if_pos (show nI 7 = 7 by decide), aI60, aI84, gd_nI (by omega) (by decide), gd_nI (by omega) (by decide), nI_clamp (by omega), nI_clamp (by omega), c5]
    by_cases hp : lPl L i = 2
    · rw [if_pos hp, if_pos hp, gd_nI (by omega) (by decide), nI_clamp (by omega), (c6.st hp).1]
      exact ⟨_, rfl, rfl⟩
    · rw [if_neg hp, if_neg hp]
      exact ⟨_, rfl, rfl⟩
theorem in07 (x : Int32) : (0 ≤ x ∧ x ≤ 7) ∨ x < 0 ∨ (¬ x < 0 ∧ 7 < x) := by
  by_cases q : x < 0
  · exact Or.inr (Or.inl q)
  · by_cases q2 : 7 < x
    · exact Or.inr (Or.inr ⟨q, q2⟩)
    · exact Or.inl ⟨fa_of_nlt q, fa_of_nlt q2⟩
theorem c_isGripNumber (x : Int32) : fX4_isGripNumber x = some (if 0 ≤ x ∧ x ≤ 7 then 1 else 0) := by
  unfold fX4_isGripNumber
  rcases in07 x with h | h | h
  · rw [if_pos h, if_neg (fun z => (fa_of_lt z).2.1 h.1), if_neg (fun z => (fa_of_lt z).2.1 h.2)]
  · rw [if_pos h, if_neg (fun z => (fa_of_lt h).2.1 z.1)]
  · rw [if_neg h.1, if_pos h.2, if_neg (fun z => (fa_of_lt h.2).2.1 z.2)]
theorem in8 {x : Int32} (h : 0 ≤ x ∧ x ≤ 7) : ∃ m, m < 8 ∧ x = nI m := by
  obtain ⟨m, hm, rfl⟩ := nI_of (x := x) (fun z => (fa_of_lt z).2.1 h.1)
  exact ⟨m, by have := (nI_leI (b := 7) hm (by decide)).mp h.2; omega, rfl⟩
theorem o_grip {G : GSt} {M : MSt} (h : GRel G M) (g x : Int32) : OpR 3 1 (fX4_grip G g x) (fX5_grip M g x) := by
  have h' := h
  obtain ⟨n, h1, ⟨k, h2⟩, h3, h4, h5⟩ := h'
  have hk12 := h2.k12
  have hM : GRel G (mA M, 0, mSize M, mSpot M, mRN M, mN M, mActs M) := h.scr 0 _ _
  unfold fX4_grip fX5_grip
  rw [c_has (j := 3) h2, m_isGrip (j := 3) h2, Option.bind_some, Option.bind_some]
  by_cases hc : 0 ≤ g ∧ g < nI k
  · obtain ⟨i, hi, rfl⟩ := nI_of (x := g) (fun z => (fa_of_lt z).2.1 hc.1)
    have hik : i < k := (nI_ltI hi (by omega)).mp hc.2
    rw [if_pos hc, if_neg c10, if_neg c10, c_isGripNumber, m_inI x 0 7 (by decide +kernel) (by decide +kernel), Option.bind_some, Option.bind_some]
    by_cases hx : 0 ≤ x ∧ x ≤ 7
    · rw [if_pos hx, if_neg c10, if_neg c10, m_refused0, Option.bind_some, if_pos rfl]
      obtain ⟨m, hm, rfl⟩ := in8 hx
      obtain ⟨v, v1, v2⟩ := rc_number (j := 3) (M := (mA M, 0, mSize M, mSpot M, mRN M, mN M, mActs M)) h2 hik hm
      rw [v1, v2]
      exact ⟨0, _, G, _, _, rfl, rfl, Or.inl rfl, rfl, fun _ => rfl, hM⟩
    · rw [if_neg hx, if_pos rfl, if_pos rfl, m_refused2, Option.bind_some, if_neg c10]
      exact OpR_no h (k := 1) (c := 2) (Or.inr ⟨rfl, by decide⟩) (by decide) rfl rfl rfl
  · rw [if_neg hc, if_pos rfl, if_pos rfl, m_refused1, Option.bind_some, if_neg c10]
    exact OpR_no h (k := 3) (c := 1) (Or.inl rfl) (by decide) rfl rfl rfl

/-! PURE LEVEL: undo, save, restore, append -/
theorem n106' (a : Nat) (h : a < 14) : (106 : Int32) * nI a = nI (106 * a) := n106 a h
theorem pred14 : ∀ a, a < 14 → nI (a + 1) - 1 = nI a := by decide +kernel
theorem pd14 : ∀ x, x < 14 → (if nI x ≤ 0 then (13 : Int32) else nI x - 1) = nI ((x + 13) % 14) := by decide +kernel
theorem o_undo {G : GSt} {M : MSt} (h : GRel G M) : OpR 2 9 (fX4_undo G) (fX5_undo M) := by
  have h' := h
  obtain ⟨n, h1, ⟨k, h2⟩, h3, ⟨a, x, ha, hx, e1, e2, e3, hh⟩, h5⟩ := h'
  unfold fX4_undo fX5_undo
  rw [e1, e2]
  by_cases h0 : a = 0
  · rw [if_pos (by rw [h0]; rfl), if_pos (by rw [h0]; rfl), m_refused1, Option.bind_some, if_neg c10]
    exact OpR_no h (k := 2) (c := 1) (Or.inl rfl) (by decide) rfl rfl rfl
  · obtain ⟨b, rfl⟩ : ∃ b, a = b + 1 := ⟨a - 1, by omega⟩
    rw [if_neg (nI_ne0 (by omega) (by omega)), if_neg (nI_ne0 (by omega) (by omega)), m_refused0, Option.bind_some, if_pos rfl]
    have hx2 := pd14 x hx
    have e8 : nI (b + 1) - 1 = nI b := pred14 b (by omega)
    have cC : fX4_undo G = some (0, nI b, (lCopy (gLift G) (gHis G ((x + 13) % 14)), gTrial G, gTxt G, gSum G, gHis G, gSav G, gSvd G, nI b, nI ((x + 13) % 14))) := by
      unfold fX4_undo
      rw [e1, if_neg (nI_ne0 (by omega) (by omega)), e3, e8]
      by_cases q : nI x ≤ 0
      · rw [if_pos q] at hx2 ⊢
        have hx0 : x = 0 := by
          rw [fa_le, nI_toInt (by omega)] at q
          have : (0 : Int32).toInt = 0 := by decide
          omega
        subst hx0
        rfl
      · rw [if_neg q] at hx2 ⊢
        have hx0 : ¬ x = 0 := fun z => q (by rw [z]; decide)
        rw [hx2, gd_nI (by omega) (by decide), nI_clamp (by omega)]
    unfold fX4_undo at cC
    rw [e1, if_neg (nI_ne0 (by omega) (by omega))] at cC
    have c2 : fX5_copy 5 3 (mA M, (0 : Int32), mSize M, mSpot M, mRN M, mN M, nI b) (nI (106 * b)) 0 106 = some (va_up (mA M) 3 (fb_put (mA M 3) (fun q => mA M 5 (106 * b + q)) 0 106), (0 : Int32), mSize M, mSpot M, mRN M, mN M, nI b) := m_copy 5 3 (mA M, (0 : Int32), mSize M, mSpot M, mRN M, mN M, nI b) (a := 106 * b) (b := 0) (m := 106) (Or.inl (by decide)) (by show 106 * b + 106 ≤ 1484; omega) (by decide) (by decide) (by decide)
    obtain ⟨k', hk'⟩ := hh b (by omega)
    rw [show (x + 14 - (b + 1) + b) % 14 = (x + 13) % 14 by omega] at hk'
    refine ⟨0, nI b, (lCopy (gLift G) (gHis G ((x + 13) % 14)), gTrial G, gTxt G, gSum G, gHis G, gSav G, gSvd G, nI b, nI ((x + 13) % 14)), nI b, (va_up (mA M) 3 (fb_put (mA M 3) (fun q => mA M 5 (106 * b + q)) 0 106), (0 : Int32), mSize M, mSpot M, mRN M, mN M, nI b), cC, ?_, Or.inl rfl, rfl, fun _ => rfl, ⟨n, h1, ⟨k', ?_⟩, ?_, ⟨b, (x + 13) % 14, by omega, Nat.mod_lt _ (by decide), rfl, rfl, rfl, fun i hi => ?_⟩, ?_⟩⟩
    · show (fX5_copy 5 3 (mA M, (0 : Int32), mSize M, mSpot M, mRN M, mN M, mActs M - 1) (106 * (mActs M - 1)) 0 106).bind _ = _
      rw [e2, e8, n106 b (by omega), c2]
      rfl
    · show RRel k' n (lCopy (gLift G) (gHis G ((x + 13) % 14))) (va_up (mA M) 3 (fb_put (mA M 3) (fun q => mA M 5 (106 * b + q)) 0 106) 3)
      rw [va_up_at]
      exact RRel_cong (RRel_lCopy hk') (fun q hq => by rw [fb_put_in (by omega) (by omega)]; rfl)
    · show TxtOk _ _ (va_up (mA M) 3 (fb_put (mA M 3) (fun q => mA M 5 (106 * b + q)) 0 106) 1)
      rw [va_up_nx _ _ (by decide)]; exact h3
    · obtain ⟨k'', q⟩ := hh i (by omega)
      refine ⟨k'', ?_⟩
      show RRel k'' n (gHis G (((x + 13) % 14 + 14 - b + i) % 14)) (fun q => va_up (mA M) 3 (fb_put (mA M 3) (fun q => mA M 5 (106 * b + q)) 0 106) 5 (106 * i + q))
      rw [va_up_nx _ _ (by decide), show ((x + 13) % 14 + 14 - b + i) % 14 = (x + 14 - (b + 1) + i) % 14 by omega]
      exact q
    · show SavOk n _ _ (va_up (mA M) 3 (fb_put (mA M 3) (fun q => mA M 5 (106 * b + q)) 0 106) 7) (va_up (mA M) 3 (fb_put (mA M 3) (fun q => mA M 5 (106 * b + q)) 0 106) 6)
      rw [va_up_nx _ _ (by decide), va_up_nx _ _ (by decide)]
      exact h5
theorem in01 (p : Int32) : (0 ≤ p ∧ p ≤ 1) ∨ p < 0 ∨ (¬ p < 0 ∧ ¬ p < 2) := by
  have e1 : (1 : Int32).toInt = 1 := by decide
  have e2 : (2 : Int32).toInt = 2 := by decide
  have e0 : (0 : Int32).toInt = 0 := by decide
  simp only [fa_le, fa_lt, e0, e1, e2]
  omega
theorem lt2 {p : Int32} (h : p ≤ 1) : p < 2 := by
  have e1 : (1 : Int32).toInt = 1 := by decide
  have e2 : (2 : Int32).toInt = 2 := by decide
  rw [fa_le, e1] at h
  rw [fa_lt, e2]
  omega
theorem n106b : ∀ a, a < 2 → (106 : Int32) * nI a = nI (106 * a) := by decide +kernel
theorem o_save {G : GSt} {M : MSt} (h : GRel G M) (p : Int32) : OpR 3 9 (fX4_save G p) (fX5_save M p) := by
  have h' := h
  obtain ⟨n, h1, ⟨k, h2⟩, h3, h4, h5⟩ := h'
  unfold fX4_save fX5_save
  rw [m_inI p 0 1 (by decide +kernel) (by decide +kernel), Option.bind_some]
  rcases in01 p with hc | hc | hc
  · rw [if_pos hc, if_neg c10, if_neg (fun z => (fa_of_lt z).2.1 hc.1), if_pos (lt2 hc.2), m_refused0, Option.bind_some, if_pos rfl]
    obtain ⟨m, hm, rfl⟩ := nI_of (x := p) (fun z => (fa_of_lt z).2.1 hc.1)
    have hm2 : m < 2 := (nI_ltI (b := 2) hm (by decide)).mp (lt2 hc.2)
    rw [gd_nI hm2 (by decide), gd_nI hm2 (by decide), nI_clamp hm, n106b m hm2]
    have c2 : fX5_copy 3 6 (aw (mA M) 7 m (vp_nar .boolean 1), (0 : Int32), mSize M, mSpot M, mRN M, mN M, mActs M) 0 (nI (106 * m)) 106 = some (va_up (aw (mA M) 7 m (vp_nar .boolean 1)) 6 (fb_put (aw (mA M) 7 m (vp_nar .boolean 1) 6) (fun q => aw (mA M) 7 m (vp_nar .boolean 1) 3 (0 + q)) (106 * m) 106), (0 : Int32), mSize M, mSpot M, mRN M, mN M, mActs M) := m_copy 3 6 (aw (mA M) 7 m (vp_nar .boolean 1), (0 : Int32), mSize M, mSpot M, mRN M, mN M, mActs M) (a := 0) (b := 106 * m) (m := 106) (Or.inl (by decide)) (by decide) (by show 106 * m + 106 ≤ 212; omega) (by decide) (by decide)
    rw [aw_ne (show 6 ≠ 7 by decide), aw_ne (show 3 ≠ 7 by decide)] at c2
    refine ⟨0, lClk (gLift G), (gLift G, gTrial G, gTxt G, gSum G, gHis G, va_up (gSav G) m (lCopy (gSav G m) (gLift G)), upd (gSvd G) m (vp_nar .boolean 1), gRem G, gNxt G), lClk (gLift G), (va_up (aw (mA M) 7 m (vp_nar .boolean 1)) 6 (fb_put (mA M 6) (fun q => mA M 3 (0 + q)) (106 * m) 106), (0 : Int32), mSize M, mSpot M, mRN M, mN M, mActs M), rfl, ?_, Or.inl rfl, ?_, fun _ => rfl, ⟨n, h1, ⟨k, ?_⟩, ?_, ?_, fun i hi => ?_⟩⟩
    · refine (congrArg (fun z => Option.bind z _) c2).trans ?_
      rw [Option.bind_some, h2.clk]
      show some (va_up (aw (mA M) 7 m (vp_nar .boolean 1)) 6 (fb_put (mA M 6) (fun q => mA M 3 (0 + q)) (106 * m) 106) 3 98, _) = _
      rw [va_up_nx _ _ (by decide), aw_ne (by decide)]
    · rfl
    · show RRel k n (gLift G) (va_up (aw (mA M) 7 m (vp_nar .boolean 1)) 6 (fb_put (mA M 6) (fun q => mA M 3 (0 + q)) (106 * m) 106) 3)
      rw [va_up_nx _ _ (by decide), aw_ne (by decide)]; exact h2
    · show TxtOk _ _ (va_up (aw (mA M) 7 m (vp_nar .boolean 1)) 6 (fb_put (mA M 6) (fun q => mA M 3 (0 + q)) (106 * m) 106) 1)
      rw [va_up_nx _ _ (by decide), aw_ne (by decide)]; exact h3
    · show HisOk n _ _ _ _ (va_up (aw (mA M) 7 m (vp_nar .boolean 1)) 6 (fb_put (mA M 6) (fun q => mA M 3 (0 + q)) (106 * m) 106) 5)
      rw [va_up_nx _ _ (by decide), aw_ne (by decide)]; exact h4
    · show upd (gSvd G) m (vp_nar .boolean 1) i = va_up (aw (mA M) 7 m (vp_nar .boolean 1)) 6 (fb_put (mA M 6) (fun q => mA M 3 (0 + q)) (106 * m) 106) 7 i ∧ (upd (gSvd G) m (vp_nar .boolean 1) i = 0 ∨ upd (gSvd G) m (vp_nar .boolean 1) i = 1 ∧ ∃ k, RRel k n (va_up (gSav G) m (lCopy (gSav G m) (gLift G)) i) (fun q => va_up (aw (mA M) 7 m (vp_nar .boolean 1)) 6 (fb_put (mA M 6) (fun q => mA M 3 (0 + q)) (106 * m) 106) 6 (106 * i + q)))
      rw [va_up_nx _ _ (by decide), va_up_at, aw_at]
      by_cases e : i = m
      · subst e
        rw [upd_at, upd_at, va_up_at]
        refine ⟨rfl, Or.inr ⟨by decide +kernel, k, RRel_cong (RRel_lCopy h2) (fun q hq => ?_)⟩⟩
        rw [fb_put_in (by omega) (by omega)]; congr 1; omega
      · rw [upd_ne e, upd_ne e, va_up_nx _ _ e]
        refine ⟨(h5 i hi).1, ?_⟩
        rcases (h5 i hi).2 with z | ⟨z, k', z2⟩
        · exact Or.inl z
        · exact Or.inr ⟨z, k', RRel_cong z2 (fun q hq => fb_put_out (by omega))⟩
  · rw [if_pos hc, if_neg (show ¬ (0 ≤ p ∧ p ≤ 1) from fun z => (fa_of_lt hc).2.1 z.1), if_pos rfl, m_refused1, Option.bind_some, if_neg c10]
    exact OpR_no h (k := 3) (c := 1) (Or.inl rfl) (by decide) rfl rfl rfl
  · rw [if_neg hc.1, if_neg hc.2, if_neg (show ¬ (0 ≤ p ∧ p ≤ 1) from fun z => hc.2 (lt2 z.2)), if_pos rfl, m_refused1, Option.bind_some, if_neg c10]
    exact OpR_no h (k := 3) (c := 1) (Or.inl rfl) (by decide) rfl rfl rfl
theorem o_restore {G : GSt} {M : MSt} (h : GRel G M) (p : Int32) : OpR 3 2 (fX4_restore G p) (fX5_restore M p) := by
  have h' := h
  obtain ⟨n, h1, ⟨k, h2⟩, h3, ⟨a, x, ha, hx, e1, e2, e3, hh⟩, h5⟩ := h'
  unfold fX4_restore fX5_restore
  rw [m_inI p 0 1 (by decide +kernel) (by decide +kernel), Option.bind_some]
  rcases in01 p with hc | hc | hc
  · rw [if_pos hc, if_neg c10, if_neg (fun z => (fa_of_lt z).2.1 hc.1), if_pos (lt2 hc.2)]
    obtain ⟨m, hm, rfl⟩ := nI_of (x := p) (fun z => (fa_of_lt z).2.1 hc.1)
    have hm2 : m < 2 := (nI_ltI (b := 2) hm (by decide)).mp (lt2 hc.2)
    rw [gd_nI hm2 (by decide), gd_nI hm2 (by decide), nI_clamp hm, n106b m hm2]
    obtain ⟨s1, s2⟩ := h5 m hm2
    rw [← s1]
    by_cases hz : gSvd G m = 0
    · rw [if_pos hz, if_pos hz, m_refused2, Option.bind_some, if_neg c10]
      exact OpR_no h (k := 2) (c := 2) (Or.inr ⟨rfl, by decide⟩) (by decide) rfl rfl rfl
    · rw [if_neg hz, if_neg hz, m_refused0, Option.bind_some, if_pos rfl]
      obtain ⟨-, k', hk'⟩ := s2.resolve_left hz
      have c2 : fX5_copy 6 3 (mA M, (0 : Int32), mSize M, mSpot M, mRN M, mN M, mActs M) (nI (106 * m)) 0 106 = some (va_up (mA M) 3 (fb_put (mA M 3) (fun q => mA M 6 (106 * m + q)) 0 106), (0 : Int32), mSize M, mSpot M, mRN M, mN M, mActs M) := m_copy 6 3 (mA M, (0 : Int32), mSize M, mSpot M, mRN M, mN M, mActs M) (a := 106 * m) (b := 0) (m := 106) (Or.inl (by decide)) (by show 106 * m + 106 ≤ 212; omega) (by decide) (by decide) (by decide)
      have hr : RRel k' n (lCopy (gLift G) (gSav G m)) (va_up (mA M) 3 (fb_put (mA M 3) (fun q => mA M 6 (106 * m + q)) 0 106) 3) := by
        rw [va_up_at]
        exact RRel_cong (RRel_lCopy hk') (fun q hq => by rw [fb_put_in (by omega) (by omega)]; rfl)
      refine ⟨0, lClk (lCopy (gLift G) (gSav G m)), (lCopy (gLift G) (gSav G m), gTrial G, gTxt G, gSum G, gHis G, gSav G, gSvd G, 0, gNxt G), lClk (lCopy (gLift G) (gSav G m)), (va_up (mA M) 3 (fb_put (mA M 3) (fun q => mA M 6 (106 * m + q)) 0 106), (0 : Int32), mSize M, mSpot M, mRN M, mN M, (0 : Int32)), rfl, ?_, Or.inl rfl, ?_, fun _ => rfl, ⟨n, h1, ⟨k', hr⟩, ?_, ⟨0, x, by omega, hx, rfl, rfl, e3, fun i hi => by omega⟩, ?_⟩⟩
      · refine (congrArg (fun z => Option.bind z _) c2).trans ?_
        rw [Option.bind_some, hr.clk]
      · rfl
      · show TxtOk _ _ (va_up (mA M) 3 (fb_put (mA M 3) (fun q => mA M 6 (106 * m + q)) 0 106) 1)
        rw [va_up_nx _ _ (by decide)]; exact h3
      · show SavOk n _ _ (va_up (mA M) 3 (fb_put (mA M 3) (fun q => mA M 6 (106 * m + q)) 0 106) 7) (va_up (mA M) 3 (fb_put (mA M 3) (fun q => mA M 6 (106 * m + q)) 0 106) 6)
        rw [va_up_nx _ _ (by decide), va_up_nx _ _ (by decide)]
        exact h5
  · rw [if_pos hc, if_neg (show ¬ (0 ≤ p ∧ p ≤ 1) from fun z => (fa_of_lt hc).2.1 z.1), if_pos rfl, m_refused1, Option.bind_some, if_neg c10]
    exact OpR_no h (k := 3) (c := 1) (Or.inl rfl) (by decide) rfl rfl rfl
  · rw [if_neg hc.1, if_neg hc.2, if_neg (show ¬ (0 ≤ p ∧ p ≤ 1) from fun z => hc.2 (lt2 z.2)), if_pos rfl, m_refused1, Option.bind_some, if_neg c10]
    exact OpR_no h (k := 3) (c := 1) (Or.inl rfl) (by decide) rfl rfl rfl

/-! PURE LEVEL: forecasts, on the other lift and the other row -/
def cpT (M : MSt) : MSt := (va_up (mA M) 4 (fb_put (mA M 4) (fun q => mA M 3 (0 + q)) 0 106), M.2)
theorem m_cpT (M : MSt) : fX5_copy 3 4 M 0 0 106 = some (cpT M) := m_copy 3 4 M (a := 0) (b := 0) (m := 106) (Or.inl (by decide)) (by decide) (by decide) (by decide) (by decide)
theorem cpT_same (M : MSt) : SameBut 4 M (cpT M) := ⟨fun _ h _ => va_up_nx (mA M) _ h, rfl⟩
theorem cpT_at (M : MSt) : mA (cpT M) 4 = fb_put (mA M 4) (fun q => mA M 3 (0 + q)) 0 106 := va_up_at (mA M) 4 _
theorem cpT_rel {k n : Nat} {L X : LSt} {M : MSt} (h : RRel k n L (mA M 3)) : RRel k n (lCopy X L) (mA (cpT M) 4) := by
  rw [cpT_at]
  exact RRel_cong (RRel_lCopy h) (fun q hq => by rw [fb_put_in (by omega) (by omega)]; congr 1; omega)
theorem GRel_try {G : GSt} {M M' : MSt} (h : GRel G M) (hs : SameBut 4 M M') (tr : LSt) (sm : SSt) : GRel (gLift G, tr, gTxt G, sm, gHis G, gSav G, gSvd G, gRem G, gNxt G) M' := by
  obtain ⟨n, h1, ⟨k, h2⟩, h3, h4, h5⟩ := h
  have hA : ∀ c, c ≠ 4 → c ≠ 8 → mA M' c = mA M c := hs.1
  refine ⟨n, hs.n.trans h1, ⟨k, ?_⟩, ?_, ?_, ?_⟩
  · rw [hA 3 (by decide) (by decide)]; exact h2
  · rw [hA 1 (by decide) (by decide), show mSize M' = mSize M from by show M'.2.2.1 = M.2.2.1; rw [hs.2]]; exact h3
  · rw [hA 5 (by decide) (by decide), show mActs M' = mActs M from by show M'.2.2.2.2.2.2 = M.2.2.2.2.2.2; rw [hs.2]]; exact h4
  · rw [hA 7 (by decide) (by decide), hA 6 (by decide) (by decide)]; exact h5
theorem SameBut.ref {j : Nat} {M M' : MSt} (h : SameBut j M M') : mRef M' = mRef M := by show M'.2.1 = M.2.1; rw [h.2]
/-- some steps on the other row -/
theorem try_steps {k n m : Nat} {L : LSt} {M : MSt} (h : RRel k n L (mA M 4)) (hN : mN M = nI n) (hm : m ≤ 2000) :
    fX0_advanceBy L (nI m) = some (itL L m) ∧ fX5_stepsOn 4 M (nI m) = some (itM 4 (zM M) m) ∧ RRel k n (itL L m) (mA (itM 4 (zM M) m) 4) ∧ SameBut 4 M (itM 4 (zM M) m) := by
  have hz : mN (zM M) = nI n := hN
  obtain ⟨b1, b2, b3⟩ := st_it (zM_rel h (by decide)) (by decide) hz m
  exact ⟨s_advanceBy h (by decide) hN hm, m_stepsOn h (by decide) hN hm, b1, (zM_same (j := 4) M).trans b2⟩
theorem in99 (x : Int32) : (0 ≤ x ∧ x ≤ 99) ∨ x < 0 ∨ (¬ x < 0 ∧ ¬ x ≤ 99) := by
  by_cases q : x < 0
  · exact Or.inr (Or.inl q)
  · by_cases q2 : x ≤ 99
    · exact Or.inl ⟨fa_of_nlt q, q2⟩
    · exact Or.inr (Or.inr ⟨q, q2⟩)
theorem o_ahead {G : GSt} {M : MSt} (h : GRel G M) (g p x : Int32) : OpR 3 1 (fX4_ahead G g p x) (fX5_ahead M g p x) := by
  have h' := h
  obtain ⟨n, h1, ⟨k, h2⟩, h3, h4, h5⟩ := h'
  have hk12 := h2.k12
  have hM : GRel G (mA M, 0, mSize M, mSpot M, mRN M, mN M, mActs M) := h.scr 0 _ _
  unfold fX4_ahead fX5_ahead
  rw [c_has (j := 3) h2, m_isGrip (j := 3) h2, Option.bind_some, Option.bind_some]
  by_cases hc : 0 ≤ g ∧ g < nI k
  · obtain ⟨i, hi, rfl⟩ := nI_of (x := g) (fun z => (fa_of_lt z).2.1 hc.1)
    have hik : i < k := (nI_ltI hi (by omega)).mp hc.2
    rw [if_pos hc, if_neg c10, if_neg c10, m_inI p 0 99 (by decide +kernel) (by decide +kernel), Option.bind_some]
    rcases in99 p with hp | hp | hp
    · rw [if_neg (fun z => (fa_of_lt z).2.1 hp.1), if_pos hp.2, if_pos hp, if_neg c10, c_isGripNumber, m_inI x 0 7 (by decide +kernel) (by decide +kernel), Option.bind_some, Option.bind_some]
      by_cases hx : 0 ≤ x ∧ x ≤ 7
      · rw [if_pos hx, if_neg c10, if_neg c10, m_refused0, Option.bind_some, if_pos rfl]
        obtain ⟨m, hm, rfl⟩ := in8 hx
        obtain ⟨q, hq, rfl⟩ := nI_of (x := p) (fun z => (fa_of_lt z).2.1 hp.1)
        have hq99 : q ≤ 99 := (nI_leI (b := 99) hq (by decide)).mp hp.2
        have hT := cpT_rel (X := gTrial G) (M := (mA M, (0 : Int32), mSize M, mSpot M, mRN M, mN M, mActs M)) h2
        obtain ⟨a1, a2, a3, a4⟩ := try_steps hT h1 (m := q) (by omega)
        obtain ⟨v, v1, v2⟩ := rc_number a3 hik hm
        refine ⟨0, v, (gLift G, itL (lCopy (gTrial G) (gLift G)) q, gTxt G, gSum G, gHis G, gSav G, gSvd G, gRem G, gNxt G), v, itM 4 (zM (cpT (mA M, (0 : Int32), mSize M, mSpot M, mRN M, mN M, mActs M))) q, ?_, ?_, Or.inl rfl, ?_, fun _ => rfl, GRel_try hM ((cpT_same _).trans a4) _ _⟩
        · rw [a1, Option.bind_some, v1]; rfl
        · refine (congrArg (fun z => Option.bind z _) (m_cpT _)).trans ?_
          rw [Option.bind_some, a2, Option.bind_some, v2]; rfl
        · exact ((cpT_same _).trans a4).ref
      · rw [if_neg hx, if_pos rfl, if_pos rfl, m_refused2, Option.bind_some, if_neg c10]
        exact OpR_no h (k := 1) (c := 2) (Or.inr ⟨rfl, by decide⟩) (by decide) rfl rfl rfl
    · rw [if_pos hp, if_neg (show ¬ (0 ≤ p ∧ p ≤ 99) from fun z => (fa_of_lt hp).2.1 z.1), if_pos rfl, m_refused2, Option.bind_some, if_neg c10]
      exact OpR_no h (k := 1) (c := 2) (Or.inr ⟨rfl, by decide⟩) (by decide) rfl rfl rfl
    · rw [if_neg hp.1, if_neg hp.2, if_neg (show ¬ (0 ≤ p ∧ p ≤ 99) from fun z => hp.2 z.2), if_pos rfl, m_refused2, Option.bind_some, if_neg c10]
      exact OpR_no h (k := 1) (c := 2) (Or.inr ⟨rfl, by decide⟩) (by decide) rfl rfl rfl
  · rw [if_neg hc, if_pos rfl, if_pos rfl, m_refused1, Option.bind_some, if_neg c10]
    exact OpR_no h (k := 3) (c := 1) (Or.inl rfl) (by decide) rfl rfl rfl
theorem c_happens {k n m w : Nat} {L : LSt} {M : MSt} (h : RRel k n L (mA M 4)) (hN : mN M = nI n) (hm : m ≤ 2000) (a : LSt) (b : TSt) (c : SSt) (d e : Nat → LSt) (f : RI) (x y : Int32) :
    fX4_happens_L42 KF (a, L, b, c, d, e, f, x, y) (nI m) (nI w) 0 0 = some (0, sEv L w m, (a, itL L m, b, c, d, e, f, x, y)) := by
  refine run_up (fun t i => fX4_happens_L42 t (a, itL L i, b, c, d, e, f, x, y) (nI m) (nI w) (sEv L w i) (nI i)) m (fun i t hi => ?_) (fun t => ?_) (by show m < 3000; omega)
  · show fX4_happens_L42 (t + 1) _ (nI m) (nI w) _ (nI i) = _
    obtain ⟨h1, h2, h3⟩ := st_it h (by decide) hN i
    rw [fX4_happens_L42, if_neg (nI_ge hi (by omega))]
    show (fX0_advance (itL L i)).bind _ = _
    rw [(st_one h1 (by decide) h3).1, Option.bind_some, nI_1]
    rfl
  · show fX4_happens_L42 (t + 1) _ (nI m) (nI w) _ (nI m) = _
    rw [fX4_happens_L42, if_pos (Int32.le_refl _)]
theorem in03 (x : Int32) : (0 ≤ x ∧ x ≤ 3) ∨ x < 0 ∨ (¬ x < 0 ∧ ¬ x ≤ 3) := by
  by_cases q : x < 0
  · exact Or.inr (Or.inl q)
  · by_cases q2 : x ≤ 3
    · exact Or.inl ⟨fa_of_nlt q, q2⟩
    · exact Or.inr (Or.inr ⟨q, q2⟩)
theorem o_happens {G : GSt} {M : MSt} (h : GRel G M) (p x : Int32) : OpR 1 9 (fX4_happens G p x) (fX5_happens M p x) := by
  have h' := h
  obtain ⟨n, h1, ⟨k, h2⟩, h3, h4, h5⟩ := h'
  have hM : GRel G (mA M, 0, mSize M, mSpot M, mRN M, mN M, mActs M) := h.scr 0 _ _
  unfold fX4_happens fX5_happens
  rw [c_isStep, m_inI p 1 99 (by decide +kernel) (by decide +kernel), Option.bind_some, Option.bind_some]
  by_cases hc : 1 ≤ p ∧ p ≤ 99
  · obtain ⟨m, hm, hm1, rfl⟩ := step_no hc
    rw [if_pos hc, if_neg c10, if_neg c10, m_inI x 0 3 (by decide +kernel) (by decide +kernel), Option.bind_some]
    rcases in03 x with hx | hx | hx
    · rw [if_neg (fun z => (fa_of_lt z).2.1 hx.1), if_pos hx.2, if_pos hx, if_neg c10, m_refused0, Option.bind_some, if_pos rfl]
      obtain ⟨w, hw, rfl⟩ := nI_of (x := x) (fun z => (fa_of_lt z).2.1 hx.1)
      have hw3 : w ≤ 3 := (nI_leI (b := 3) hw (by decide)).mp hx.2
      have hT := cpT_rel (X := gTrial G) (M := (mA M, (0 : Int32), mSize M, mSpot M, mRN M, mN M, mActs M)) h2
      obtain ⟨a1, a2, a3, a4⟩ := try_steps hT h1 (m := m) (by omega)
      refine ⟨0, sEv (lCopy (gTrial G) (gLift G)) w m, (gLift G, itL (lCopy (gTrial G) (gLift G)) m, gTxt G, gSum G, gHis G, gSav G, gSvd G, gRem G, gNxt G), sEv (lCopy (gTrial G) (gLift G)) w m, itM 4 (zM (cpT (mA M, (0 : Int32), mSize M, mSpot M, mRN M, mN M, mActs M))) m, c_happens hT h1 (by omega) _ _ _ _ _ _ _ _, ?_, Or.inl rfl, ?_, fun _ => rfl, GRel_try hM ((cpT_same _).trans a4) _ _⟩
      · refine (congrArg (fun z => Option.bind z _) (m_cpT _)).trans ?_
        rw [Option.bind_some, a2, Option.bind_some, gd_nI (by omega) (by decide), nI_clamp hw, st_counts hT (by decide) h1 (by omega)]
      · exact ((cpT_same _).trans a4).ref
    · rw [if_pos hx, if_neg (show ¬ (0 ≤ x ∧ x ≤ 3) from fun z => (fa_of_lt hx).2.1 z.1), if_pos rfl, m_refused1, Option.bind_some, if_neg c10]
      exact OpR_no h (k := 1) (c := 1) (Or.inl rfl) (by decide) rfl rfl rfl
    · rw [if_neg hx.1, if_neg hx.2, if_neg (show ¬ (0 ≤ x ∧ x ≤ 3) from fun z => hx.2 z.2), if_pos rfl, m_refused1, Option.bind_some, if_neg c10]
      exact OpR_no h (k := 1) (c := 1) (Or.inl rfl) (by decide) rfl rfl rfl
  · rw [if_neg hc, if_pos rfl, if_pos rfl, m_refused1, Option.bind_some, if_neg c10]
    exact OpR_no h (k := 1) (c := 1) (Or.inl rfl) (by decide) rfl rfl rfl
/-- the sums of pulls -/
def sPul (L : LSt) : Nat → Int32
  | 0 => 0
  | i + 1 => sPul L i + lPu L i
theorem c_allPulls {k n : Nat} {L : LSt} {r : RI} (h : RRel k n L r) : fX0_allPulls L = some (sPul L k) := by
  have hk12 := h.k12
  have e : ∀ d, k + d ≤ 12 → (fun i : Nat => if i ≤ k then sPul L i else sPul L k) (k + d) = sPul L k := fun d _ => by
    show (if k + d ≤ k then sPul L (k + d) else sPul L k) = _
    by_cases q : d = 0
    · rw [q, Nat.add_zero, if_pos (Nat.le_refl _)]
    · rw [if_neg (by omega)]
  have := run_up (fun f i => fX0_allPulls_L4 L f (if i ≤ k then sPul L i else sPul L k) (nI i)) 12 (r := some (sPul L k)) (fuel := KF) (fun i f hi => ?_) (fun f => ?_) (by decide)
  · exact this
  · show fX0_allPulls_L4 L (f + 1) _ (nI i) = _
    rw [fX0_allPulls_L4, if_neg (l12 hi), gd_nI hi (by decide), nI_clamp (by omega), nI_1]
    by_cases q : i < k
    · rw [if_neg (h.nabs q), if_pos (show i ≤ k by omega), if_pos (show i + 1 ≤ k by omega)]; rfl
    · rw [if_pos (h.abs i (by omega) hi), if_neg (show ¬ i + 1 ≤ k by omega)]
      by_cases q2 : i = k
      · rw [q2, if_pos (Nat.le_refl _)]
      · rw [if_neg (by omega)]
  · show fX0_allPulls_L4 L (f + 1) _ (nI 12) = _
    rw [fX0_allPulls_L4, if_pos g12]
    by_cases q : 12 ≤ k
    · rw [if_pos q, show k = 12 by omega]
    · rw [if_neg q]
theorem m_simulate {k n : Nat} {L : LSt} {M : MSt} (h : RRel k n L (mA M 4)) {c : Int32} (hc : fX5_count 4 M 0 = some c) : fX5_simulate_L64 KF M 0 0 = some (100 * sPul L k + c, M) := by
  have hk12 := h.k12
  refine run_up (fun f i => fX5_simulate_L64 f M (sPul L i) (nI i)) k (fun i f hi => ?_) (fun f => ?_) (by show k < 3000; omega)
  · show fX5_simulate_L64 (f + 1) M _ (nI i) = _
    rw [fX5_simulate_L64, h.hk, if_neg (lt_k hi hk12), aI36, gd_nI (by omega) (by decide), nI_clamp (by omega), nI_1, (h.cell i hi).2.2.2.1]
    rfl
  · show fX5_simulate_L64 (f + 1) M _ (nI k) = _
    rw [fX5_simulate_L64, h.hk, if_pos (ge_k k), hc]
    rfl
theorem o_simulate {G : GSt} {M : MSt} (h : GRel G M) (x : Int64) (p : Int32) : OpR 1 9 (fX4_simulate G x p) (fX5_simulate M x p) := by
  have h' := h
  obtain ⟨n, h1, ⟨k, h2⟩, h3, h4, h5⟩ := h'
  have hM : GRel G (mA M, 0, mSize M, mSpot M, mRN M, mN M, mActs M) := h.scr 0 _ _
  unfold fX4_simulate fX5_simulate
  rw [c_isStep, m_inI p 1 99 (by decide +kernel) (by decide +kernel), Option.bind_some, Option.bind_some]
  by_cases hc : 1 ≤ p ∧ p ≤ 99
  · obtain ⟨m, hm, hm1, rfl⟩ := step_no hc
    rw [if_pos hc, if_neg c10, if_neg c10, m_refused0, Option.bind_some, if_pos rfl]
    have hT := cpT_rel (X := gTrial G) (M := (mA M, (0 : Int32), mSize M, mSpot M, mRN M, mN M, mActs M)) h2
    generalize hT0 : lCopy (gTrial G) (gLift G) = T at hT ⊢
    generalize hM0 : cpT (mA M, (0 : Int32), mSize M, mSpot M, mRN M, mN M, mActs M) = M0 at hT ⊢
    have hs0 : SameBut 4 (mA M, (0 : Int32), mSize M, mSpot M, mRN M, mN M, mActs M) M0 := by rw [← hM0]; exact cpT_same _
    have hN0 : mN M0 = nI n := hs0.n.trans h1
    have hS : fX5_setRandomOn 4 M0 x = some (aw (aw (mA M0) 4 104 ((x >>> (((32 : Int32)).toInt64 &&& 63)).toInt32)) 4 105 x.toInt32, M0.2) := rfl
    have hT2 : RRel k n (lWe T, lCy T, lWr T, lPu T, lSl T, lPl T, lSp T, lSt T, lLi T, lN_ T, lStn T, lClk T, x) (mA (aw (aw (mA M0) 4 104 ((x >>> (((32 : Int32)).toInt64 &&& 63)).toInt32)) 4 105 x.toInt32, M0.2) 4) := by
      simp (disch := omega) only [mA, aw_at]
      exact RRel_rnd hT x
    have hs1 : SameBut 4 M0 (aw (aw (mA M0) 4 104 ((x >>> (((32 : Int32)).toInt64 &&& 63)).toInt32)) 4 105 x.toInt32, M0.2) := ⟨fun c c1 c2 => by simp (disch := omega) only [mA, aw_ne], rfl⟩
    generalize eT2 : (lWe T, lCy T, lWr T, lPu T, lSl T, lPl T, lSp T, lSt T, lLi T, lN_ T, lStn T, lClk T, x) = T2 at hT2 ⊢
    obtain ⟨a1, a2, a3, a4⟩ := try_steps hT2 (M := (aw (aw (mA M0) 4 104 ((x >>> (((32 : Int32)).toInt64 &&& 63)).toInt32)) 4 105 x.toInt32, M0.2)) hN0 (m := m) (by omega)
    obtain ⟨d1, d2⟩ := rc_count a3 (w := 0) (by decide)
    refine ⟨0, 100 * sPul (itL T2 m) k + nI (sCt (fun g => decide (lPl (itL T2 m) g = 0)) k), (gLift G, itL T2 m, gTxt G, gSum G, gHis G, gSav G, gSvd G, gRem G, gNxt G), 100 * sPul (itL T2 m) k + nI (sCt (fun g => decide (lPl (itL T2 m) g = 0)) k), itM 4 (zM (aw (aw (mA M0) 4 104 ((x >>> (((32 : Int32)).toInt64 &&& 63)).toInt32)) 4 105 x.toInt32, M0.2)) m, ?_, ?_, Or.inl rfl, ?_, fun _ => rfl, GRel_try hM ((hs0.trans hs1).trans a4) _ _⟩
    · rw [a1, Option.bind_some, c_allPulls a3, Option.bind_some, d1]; rfl
    · refine (congrArg (fun z => Option.bind z _) (m_cpT _)).trans ?_
      rw [Option.bind_some, hM0]
      refine (congrArg (fun z => Option.bind z _) hS).trans ?_
      rw [Option.bind_some, a2, Option.bind_some, m_simulate a3 d2]
    · exact ((hs0.trans hs1).trans a4).ref
  · rw [if_neg hc, if_pos rfl, if_pos rfl, m_refused1, Option.bind_some, if_neg c10]
    exact OpR_no h (k := 1) (c := 1) (Or.inl rfl) (by decide) rfl rfl rfl

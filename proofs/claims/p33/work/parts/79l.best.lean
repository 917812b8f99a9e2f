/-! PURE LEVEL: bestLimit, emptyAfter -/
theorem bt1 : ∀ i, i < 32 → bt 1 i = decide (i = 0) := by decide +kernel
theorem bt4 : ∀ i, i < 32 → bt 4 i = decide (i = 2) := by decide +kernel
theorem eB_2 (e : Int32) : eB e 2 = if e &&& 4 = 0 then 0 else 1 := by
  have hA : eB e 2 = if bt e 2 = true then 1 else 0 := by
    refine b_ext (fun i hi => ?_)
    unfold eB
    rw [b_and, b_sshr 2 (by decide) e hi, bt1 i hi]
    by_cases h0 : i = 0
    · subst h0
      rw [if_pos (by decide), show decide (0 = 0) = true from rfl, Bool.and_true]
      cases hb : bt e 2 with
      | true => rw [if_pos rfl]; decide
      | false => rw [if_neg (by decide)]; decide
    · rw [show decide (i = 0) = false from decide_eq_false h0, Bool.and_false]
      split
      · rw [bt1 i hi, decide_eq_false h0]
      · rw [b_0]
  have hB : e &&& 4 = if bt e 2 = true then 4 else 0 := by
    refine b_ext (fun i hi => ?_)
    rw [b_and, bt4 i hi]
    by_cases h0 : i = 2
    · subst h0
      rw [show decide (2 = 2) = true from rfl, Bool.and_true]
      cases hb : bt e 2 with
      | true => rw [if_pos rfl]; decide
      | false => rw [if_neg (by decide)]; decide
    · rw [decide_eq_false h0, Bool.and_false]
      split
      · rw [bt4 i hi, decide_eq_false h0]
      · rw [b_0]
  rw [hA, hB]
  cases hb : bt e 2 with
  | true => decide
  | false => decide
/-- the steps at which a grip slips -/
def lSlip (L : LSt) (i : Nat) : Bool := decide (¬ advE (itL L i) &&& 4 = 0)
theorem sEv_2 (L : LSt) : ∀ i, sEv L 2 i = nI (sCt (lSlip L) i)
  | 0 => rfl
  | i + 1 => by
    show sEv L 2 i + eB (advE (itL L i)) 2 = _
    rw [sEv_2 L i, eB_2]
    by_cases h : advE (itL L i) &&& 4 = 0
    · rw [if_pos h, Int32.add_zero, sCt_no (decide_eq_false (fun z => z h))]
    · rw [if_neg h, nI_1, sCt_yes (decide_eq_true h)]
theorem c_slipFree {k n m : Nat} {L : LSt} {M : MSt} (h : RRel k n L (mA M 4)) (hN : mN M = nI n) (hm : m ≤ 99) (a : LSt) (b : TSt) (c : SSt) (d e : Nat → LSt) (f : RI) (x y : Int32) :
    ∃ T', fX4_isSlipFree_L23 KF (a, L, b, c, d, e, f, x, y) (nI m) 0 = some (if sEv L 2 m = 0 then 1 else 0, (a, T', b, c, d, e, f, x, y)) := by
  have hz : (sEv L 2 m = 0) ↔ sCt (lSlip L) m = 0 := by
    rw [sEv_2]
    have := sCt_le (lSlip L) m
    exact nI_eq (b := 0) (by omega) (by decide)
  have st : ∀ i t, i < m → lSlip L i = false → fX4_isSlipFree_L23 (t + 1) (a, itL L i, b, c, d, e, f, x, y) (nI m) (nI i) = fX4_isSlipFree_L23 t (a, itL L (i + 1), b, c, d, e, f, x, y) (nI m) (nI (i + 1)) := fun i t hi hb => by
    have hb := of_decide_eq_false hb
    obtain ⟨h1, h2, h3⟩ := st_it h (by decide) hN i
    rw [fX4_isSlipFree_L23, if_neg (nI_ge hi (by omega))]
    show (fX0_advance (itL L i)).bind _ = _
    rw [(st_one h1 (by decide) h3).1, Option.bind_some]
    show (if advE (itL L i) &&& 4 = 0 then _ else _) = _
    rw [if_pos (Classical.byContradiction hb), nI_1]
    rfl
  rcases s_first (lSlip L) m with hs | ⟨i0, h0, h1, h2⟩
  · refine ⟨itL L m, ?_⟩
    rw [if_pos (hz.mpr (sCt_zero.mpr hs))]
    refine run_up (fun t i => fX4_isSlipFree_L23 t (a, itL L i, b, c, d, e, f, x, y) (nI m) (nI i)) m (fun i t hi => st i t hi (hs i hi)) (fun t => ?_) (by show m < 3000; omega)
    show fX4_isSlipFree_L23 (t + 1) _ (nI m) (nI m) = _
    rw [fX4_isSlipFree_L23, if_pos (Int32.le_refl _)]
  · refine ⟨advS (itL L i0), ?_⟩
    rw [if_neg (fun z => sCt_hit h0 h1 (hz.mp z))]
    refine run_up (fun t i => fX4_isSlipFree_L23 t (a, itL L i, b, c, d, e, f, x, y) (nI m) (nI i)) i0 (fun i t hi => st i t (by omega) (h2 i hi)) (fun t => ?_) (by show i0 < 3000; omega)
    show fX4_isSlipFree_L23 (t + 1) (a, itL L i0, b, c, d, e, f, x, y) (nI m) (nI i0) = _
    have hb := of_decide_eq_true h1
    obtain ⟨g1, g2, g3⟩ := st_it h (by decide) hN i0
    rw [fX4_isSlipFree_L23, if_neg (nI_ge h0 (by omega))]
    show (fX0_advance (itL L i0)).bind _ = _
    rw [(st_one g1 (by decide) g3).1, Option.bind_some]
    show (if advE (itL L i0) &&& 4 = 0 then _ else _) = _
    rw [if_neg hb]
/-- the loop over the limits, from v down -/
theorem best_loop {n k m : Nat} (hm : m ≤ 99) : ∀ (v f g : Nat) (G : GSt) (M : MSt), v ≤ 99 → v < f → v < g → mN M = nI n → RRel k n (gLift G) (mA M 3) → ∃ (r : Int32) (T' : LSt) (M' : MSt), fX4_bestLimit_L23 f G (nI m) (nI v) = some (0, r, (gLift G, T', gTxt G, gSum G, gHis G, gSav G, gSvd G, gRem G, gNxt G)) ∧ fX5_bestLimit_L29 g M (nI m) (nI v) = some (r, M') ∧ SameBut 4 M M'
  | 0, f, g, G, M, hv, hf, hg, hN, hr => by
    obtain ⟨f, rfl⟩ : ∃ f', f = f' + 1 := ⟨f - 1, by omega⟩
    obtain ⟨g, rfl⟩ : ∃ g', g = g' + 1 := ⟨g - 1, by omega⟩
    refine ⟨-9, gTrial G, M, ?_, ?_, SameBut.refl 4 M⟩
    · rw [fX4_bestLimit_L23, if_pos (show nI 0 < 1 by decide)]
    · rw [fX5_bestLimit_L29, if_pos (show nI 0 ≤ 0 by decide)]
  | v + 1, f, g, G, M, hv, hf, hg, hN, hr => by
    obtain ⟨f, rfl⟩ : ∃ f', f = f' + 1 := ⟨f - 1, by omega⟩
    obtain ⟨g, rfl⟩ : ∃ g', g = g' + 1 := ⟨g - 1, by omega⟩
    have hT := cpT_rel (X := gTrial G) hr
    have hlim : (1 : Int32) ≤ nI (v + 1) ∧ nI (v + 1) ≤ nI (lMost 0) := ⟨nI_le (a := 1) (by omega) (by omega), nI_le (b := 99) (by omega) (by decide)⟩
    have hL := RRel_lim (m := 0) hT (by decide) hlim
    have e9 : mA (aw (mA (cpT M)) 4 99 (nI (v + 1)), (cpT M).2) 4 = upd (mA (cpT M) 4) (99 + 0) (nI (v + 1)) := by simp (disch := omega) only [mA, aw_at]
    have hL : RRel k n (lWe (lCopy (gTrial G) (gLift G)), lCy (lCopy (gTrial G) (gLift G)), lWr (lCopy (gTrial G) (gLift G)), lPu (lCopy (gTrial G) (gLift G)), lSl (lCopy (gTrial G) (gLift G)), lPl (lCopy (gTrial G) (gLift G)), lSp (lCopy (gTrial G) (gLift G)), lSt (lCopy (gTrial G) (gLift G)), upd (lLi (lCopy (gTrial G) (gLift G))) 0 (nI (v + 1)), lN_ (lCopy (gTrial G) (gLift G)), lStn (lCopy (gTrial G) (gLift G)), lClk (lCopy (gTrial G) (gLift G)), lRnd (lCopy (gTrial G) (gLift G))) (mA (aw (mA (cpT M)) 4 99 (nI (v + 1)), (cpT M).2) 4) := by rw [e9]; exact hL
    have hs1 : SameBut 4 M (aw (mA (cpT M)) 4 99 (nI (v + 1)), (cpT M).2) := (cpT_same M).trans ⟨fun c c1 c2 => by simp (disch := omega) only [mA, aw_ne], rfl⟩
    have hN1 : mN (aw (mA (cpT M)) 4 99 (nI (v + 1)), (cpT M).2) = nI n := hs1.n.trans hN
    obtain ⟨a1, a2, a3, a4⟩ := try_steps hL hN1 (m := m) (by omega)
    have a5 := st_counts hL (by decide) hN1 (w := 2) (by decide) m
    obtain ⟨T', hc⟩ := c_slipFree hL hN1 hm (gLift G) (gTxt G) (gSum G) (gHis G) (gSav G) (gSvd G) (gRem G) (gNxt G)
    have p1 : ∀ w, w < 100 → nI (w + 1) + (-1) = nI w := by decide +kernel
    have eC : fX4_isSlipFree G (nI (v + 1)) (nI m) = _ := hc
    have eM : fX5_bestLimit_L29 (g + 1) M (nI m) (nI (v + 1)) = if mA (itM 4 (zM (aw (mA (cpT M)) 4 99 (nI (v + 1)), (cpT M).2)) m) 8 2 = 0 then some (nI (v + 1), itM 4 (zM (aw (mA (cpT M)) 4 99 (nI (v + 1)), (cpT M).2)) m) else fX5_bestLimit_L29 g (itM 4 (zM (aw (mA (cpT M)) 4 99 (nI (v + 1)), (cpT M).2)) m) (nI m) (nI v) := by
      rw [fX5_bestLimit_L29, if_neg (show ¬ nI (v + 1) ≤ 0 from nI_nle (by omega) (by omega)), m_cpT, Option.bind_some, p1 v (by omega)]
      refine (congrArg (fun z => Option.bind z _) a2).trans ?_
      rw [Option.bind_some]
    rw [fX4_bestLimit_L23, if_neg (show ¬ nI (v + 1) < 1 from fun z => (fa_of_lt z).2.1 hlim.1), eC, Option.bind_some, eM, a5, p1 v (by omega)]
    by_cases hz : sEv (lWe (lCopy (gTrial G) (gLift G)), lCy (lCopy (gTrial G) (gLift G)), lWr (lCopy (gTrial G) (gLift G)), lPu (lCopy (gTrial G) (gLift G)), lSl (lCopy (gTrial G) (gLift G)), lPl (lCopy (gTrial G) (gLift G)), lSp (lCopy (gTrial G) (gLift G)), lSt (lCopy (gTrial G) (gLift G)), upd (lLi (lCopy (gTrial G) (gLift G))) 0 (nI (v + 1)), lN_ (lCopy (gTrial G) (gLift G)), lStn (lCopy (gTrial G) (gLift G)), lClk (lCopy (gTrial G) (gLift G)), lRnd (lCopy (gTrial G) (gLift G))) 2 m = 0
    · rw [if_pos hz, if_pos hz]
      refine ⟨nI (v + 1), T', _, ?_, rfl, hs1.trans a4⟩
      show (if (1 : Int32) = 0 then _ else _) = _
      rw [if_neg c10]
    · rw [if_neg hz, if_neg hz]
      have hs2 := hs1.trans a4
      obtain ⟨r, T2, M2, r1, r2, r3⟩ := best_loop (k := k) hm v f g (gLift G, T', gTxt G, gSum G, gHis G, gSav G, gSvd G, gRem G, gNxt G) (itM 4 (zM (aw (mA (cpT M)) 4 99 (nI (v + 1)), (cpT M).2)) m) (by omega) (by omega) (by omega) (hs2.n.trans hN) (by rw [hs2.1 3 (by decide) (by decide)]; exact hr)
      refine ⟨r, T2, M2, ?_, r2, hs2.trans r3⟩
      show (if (0 : Int32) = 0 then _ else _) = _
      rw [if_pos rfl]
      exact r1
theorem o_bestLimit {G : GSt} {M : MSt} (h : GRel G M) (p : Int32) : OpR 1 9 (fX4_bestLimit G p) (fX5_bestLimit M p) := by
  have h' := h
  obtain ⟨n, h1, ⟨k, h2⟩, h3, h4, h5⟩ := h'
  have hM : GRel G (mA M, 0, mSize M, mSpot M, mRN M, mN M, mActs M) := h.scr 0 _ _
  unfold fX4_bestLimit fX5_bestLimit
  rw [c_isStep, m_inI p 1 99 (by decide +kernel) (by decide +kernel), Option.bind_some, Option.bind_some]
  by_cases hc : 1 ≤ p ∧ p ≤ 99
  · obtain ⟨m, hm, hm1, rfl⟩ := step_no hc
    rw [if_pos hc, if_neg c10, if_neg c10, m_refused0, Option.bind_some, if_pos rfl]
    obtain ⟨r, T', M', r1, r2, r3⟩ := best_loop (n := n) (k := k) hm 99 KF KF G (mA M, 0, mSize M, mSpot M, mRN M, mN M, mActs M) (by decide) (by decide) (by decide) h1 h2
    exact ⟨0, r, _, r, M', r1, r2, Or.inl rfl, r3.ref, fun _ => rfl, GRel_try hM r3 _ _⟩
  · rw [if_neg hc, if_pos rfl, if_pos rfl, m_refused1, Option.bind_some, if_neg c10]
    exact OpR_no h (k := 1) (c := 1) (Or.inl rfl) (by decide) rfl rfl rfl
theorem o_emptyAfter {G : GSt} {M : MSt} (h : GRel G M) : ∃ v G' M', fX4_emptyAfter G = some (v, G') ∧ fX5_emptyAfter M = some (v, M') ∧ GRel G' M' := by
  have h' := h
  obtain ⟨n, h1, ⟨k, h2⟩, h3, h4, h5⟩ := h'
  have hM : GRel G (mA M, 0, mSize M, mSpot M, mRN M, mN M, mActs M) := h.scr 0 _ _
  have hT := cpT_rel (X := gTrial G) (M := (mA M, (0 : Int32), mSize M, mSpot M, mRN M, mN M, mActs M)) h2
  have hN0 : mN (cpT (mA M, (0 : Int32), mSize M, mSpot M, mRN M, mN M, mActs M)) = nI n := h1
  unfold fX4_emptyAfter fX5_emptyAfter
  rw [m_cpT, Option.bind_some]
  generalize hT0 : lCopy (gTrial G) (gLift G) = T at hT ⊢
  have hs0 := cpT_same (mA M, (0 : Int32), mSize M, mSpot M, mRN M, mN M, mActs M)
  generalize cpT (mA M, (0 : Int32), mSize M, mSpot M, mRN M, mN M, mActs M) = M0 at hT hN0 hs0 ⊢
  have cnt : ∀ i, ∃ c, c ≤ 12 ∧ fX0_count (itL T i) 0 = some (nI c) ∧ fX5_count 4 (itM 4 M0 i) 0 = some (nI c) := fun i => by
    obtain ⟨g1, g2, g3⟩ := st_it hT (by decide) hN0 i
    obtain ⟨d1, d2⟩ := rc_count g1 (w := 0) (by decide)
    exact ⟨_, Nat.le_trans (sCt_le _ k) h2.k12, d1, d2⟩
  have stp : ∀ i f, i < 151 → ¬ fX0_count (itL T i) 0 = some (nI 0) → fX4_emptyAfter_L13 (f + 1) (gLift G, itL T i, gTxt G, gSum G, gHis G, gSav G, gSvd G, gRem G, gNxt G) (nI i) = fX4_emptyAfter_L13 f (gLift G, itL T (i + 1), gTxt G, gSum G, gHis G, gSav G, gSvd G, gRem G, gNxt G) (nI (i + 1)) ∧ fX5_emptyAfter_L22 (f + 1) (itM 4 M0 i) (nI i) = fX5_emptyAfter_L22 f (itM 4 M0 (i + 1)) (nI (i + 1)) := fun i f hi hb => by
    obtain ⟨g1, g2, g3⟩ := st_it hT (by decide) hN0 i
    obtain ⟨c, c1, c2, c3⟩ := cnt i
    obtain ⟨q1, q2, -⟩ := st_one g1 (by decide) g3
    have hc0 : ¬ nI c = 0 := nI_ne0 (by
      rcases Nat.eq_zero_or_pos c with z | z
      · rw [z] at c2; exact absurd c2 hb
      · omega) (by omega)
    have hlt : ¬ (150 : Int32) < nI i := fun z => (fa_of_lt z).2.1 (nI_le (a := i) (b := 150) (by omega) (by decide))
    refine ⟨?_, ?_⟩
    · rw [fX4_emptyAfter_L13, if_neg hlt]
      show (fX0_count (itL T i) 0).bind _ = _
      rw [c2, Option.bind_some, if_neg hc0]
      show (fX0_advance (itL T i)).bind _ = _
      rw [q1, Option.bind_some, nI_1]
      rfl
    · rw [fX5_emptyAfter_L22, if_neg hlt, c3, Option.bind_some, if_neg hc0, q2, Option.bind_some, nI_1]
      rfl
  have fin : ∀ i f, i < 151 → fX0_count (itL T i) 0 = some (nI 0) → fX4_emptyAfter_L13 (f + 1) (gLift G, itL T i, gTxt G, gSum G, gHis G, gSav G, gSvd G, gRem G, gNxt G) (nI i) = some (nI i, (gLift G, itL T i, gTxt G, gSum G, gHis G, gSav G, gSvd G, gRem G, gNxt G)) ∧ fX5_emptyAfter_L22 (f + 1) (itM 4 M0 i) (nI i) = some (nI i, itM 4 M0 i) := fun i f hi hb => by
    obtain ⟨c, c1, c2, c3⟩ := cnt i
    have hc0 : nI c = 0 := by rw [hb] at c2; exact (Option.some.inj c2).symm
    have hlt : ¬ (150 : Int32) < nI i := fun z => (fa_of_lt z).2.1 (nI_le (a := i) (b := 150) (by omega) (by decide))
    refine ⟨?_, ?_⟩
    · rw [fX4_emptyAfter_L13, if_neg hlt]
      show (fX0_count (itL T i) 0).bind _ = _
      rw [c2, Option.bind_some, if_pos hc0]
    · rw [fX5_emptyAfter_L22, if_neg hlt, c3, Option.bind_some, if_pos hc0]
  have res : ∀ i, i ≤ 151 → (∀ q, q < i → ¬ fX0_count (itL T q) 0 = some (nI 0)) → ∀ (rC : Option (Int32 × GSt)) (rM : Option (Int32 × MSt)), (∀ f, fX4_emptyAfter_L13 (f + 1) (gLift G, itL T i, gTxt G, gSum G, gHis G, gSav G, gSvd G, gRem G, gNxt G) (nI i) = rC) → (∀ f, fX5_emptyAfter_L22 (f + 1) (itM 4 M0 i) (nI i) = rM) → fX4_emptyAfter_L13 KF (gLift G, T, gTxt G, gSum G, gHis G, gSav G, gSvd G, gRem G, gNxt G) 0 = rC ∧ fX5_emptyAfter_L22 KF M0 0 = rM := fun i hi hq rC rM e1 e2 =>
    ⟨run_up (fun f q => fX4_emptyAfter_L13 f (gLift G, itL T q, gTxt G, gSum G, gHis G, gSav G, gSvd G, gRem G, gNxt G) (nI q)) i (fun q f hq2 => (stp q f (by omega) (hq q hq2)).1) e1 (by show i < 3000; omega),
     run_up (fun f q => fX5_emptyAfter_L22 f (itM 4 M0 q) (nI q)) i (fun q f hq2 => (stp q f (by omega) (hq q hq2)).2) e2 (by show i < 3000; omega)⟩
  rcases s_first (fun i => decide (fX0_count (itL T i) 0 = some (nI 0))) 151 with hs | ⟨i0, b0, b1, b2⟩
  · obtain ⟨r1, r2⟩ := res 151 (Nat.le_refl _) (fun q hq => of_decide_eq_false (hs q hq)) _ _ (fun f => by rw [fX4_emptyAfter_L13, if_pos (show (150 : Int32) < nI 151 by decide)]) (fun f => by rw [fX5_emptyAfter_L22, if_pos (show (150 : Int32) < nI 151 by decide)])
    exact ⟨-9, _, _, r1, r2, GRel_try hM (hs0.trans (st_it hT (by decide) hN0 151).2.1) _ _⟩
  · obtain ⟨r1, r2⟩ := res i0 (by omega) (fun q hq => of_decide_eq_false (b2 q hq)) _ _ (fun f => (fin i0 f b0 (of_decide_eq_true b1)).1) (fun f => (fin i0 f b0 (of_decide_eq_true b1)).2)
    exact ⟨nI i0, _, _, r1, r2, GRel_try hM (hs0.trans (st_it hT (by decide) hN0 i0).2.1) _ _⟩

/-! PURE LEVEL of the property: answers of the reading calls -/
/-- the grip at slot i -/
def gAt (L : LSt) (k i : Nat) : Nat := fa_first (fun g => decide (lPl L g = 0 ∧ lSp L g = nI i)) k
def occ (L : LSt) (k i : Nat) : Prop := ∃ g, g < k ∧ lPl L g = 0 ∧ lSp L g = nI i
section AN2
variable {k n : Nat} {L : LSt} {G : GSt}
theorem as_hit (hL : gLift G = L) (h : LOk k n L) {i g : Nat} (hi : i < n) (hg : g < k) (hp : lPl L g = 0) (hs : lSp L g = nI i) : fL_slot G (nI i) = some (lN g, G) := by
  have hk := h.k12
  have hn := h.n20
  obtain ⟨M, hr, -⟩ := h.m 0
  unfold fL_slot fX4_slot
  rw [hL, h.slotY hi, Option.bind_some, if_neg (by decide)]
  rcases rc_gripAt hr (nI i) with ⟨-, -, g3⟩ | ⟨g0, g1, g2, g3, g4, -⟩
  · exact absurd ⟨hp, hs⟩ (g3 g hg)
  · have e : g0 = g := Classical.byContradiction fun ne => h.dst g0 g g1 hg ne g2 hp (g3.trans hs.symm)
    rw [g4, Option.bind_some, Option.bind_some, gm0, e, nI_l (by omega)]
theorem as_miss (hL : gLift G = L) (h : LOk k n L) {i : Nat} (hi : i < n) (ho : ¬ occ L k i) : fL_slot G (nI i) = some (-9, G) := by
  obtain ⟨M, hr, -⟩ := h.m 0
  unfold fL_slot fX4_slot
  rw [hL, h.slotY hi, Option.bind_some, if_neg (by decide)]
  rcases rc_gripAt hr (nI i) with ⟨g1, -, g3⟩ | ⟨g0, g1, g2, g3, g4, -⟩
  · rw [g1, Option.bind_some, Option.bind_some, gm0, m9L]
  · exact absurd ⟨g0, g1, g2, g3⟩ ho
theorem isInY (h : LOk k n L) {g : Nat} (hg : g < k) (p : Int32) : fX0_isIn L (nI g) p = some (if lPl L g = p then 1 else 0) := by
  have := h.k12
  unfold fX0_isIn
  rw [gd_nI (by omega) (by decide), nI_clamp (by omega)]
  split <;> rfl
theorem agp (hL : gLift G = L) (h : LOk k n L) {g a : Nat} (hg : g < k) (hp : lPl L g = 0) (ha : a < n) (hs : lSp L g = nI a) : fL_gap G (nI g) = some (lN (gMin L n a 12), G) := by
  obtain ⟨r, hr⟩ := id h
  have hn := h.n20
  have hm := (gMin_le L n a 12).1
  unfold fL_gap fX4_gap
  rw [hL, h.hasY hg, Option.bind_some, if_neg (by decide), isInY h hg, if_pos hp, Option.bind_some, if_neg (by decide), c_gapBehind hr hg hp ha hs, Option.bind_some, Option.bind_some, gm0, nI_l (by omega)]
theorem agp_no (hL : gLift G = L) (h : LOk k n L) {g : Nat} (hg : g < k) (hp : ¬ lPl L g = 0) : fL_gap G (nI g) = some (-9, G) := by
  unfold fL_gap fX4_gap
  rw [hL, h.hasY hg, Option.bind_some, if_neg (by decide), isInY h hg, if_neg hp, Option.bind_some, if_pos rfl, Option.bind_some, gm0, m9L]
theorem adu_no (hL : gLift G = L) (h : LOk k n L) {g : Nat} (hg : g < k) (hp : ¬ lPl L g = 0) : fL_dueAfter G (nI g) = some (-9, G) := by
  unfold fL_dueAfter fX4_dueAfter
  rw [hL, h.hasY hg, Option.bind_some, if_neg (by decide), isInY h hg, if_neg hp, Option.bind_some, if_pos rfl, Option.bind_some, gm0, m9L]
/-- dueAfter: the way to the grip, and whole rounds -/
theorem adu (hL : gLift G = L) (h : LOk k n L) {g a s c : Nat} (hg : g < k) (hp : lPl L g = 0) (ha : a < n) (hs : lSp L g = nI a) (hst : lStn L = nI s) (hsn : s < n) (hc : lCy L g = nI c) (hcB : c < 100000) : ∃ q, q ≤ 99 ∧ fL_dueAfter G (nI g) = some (lN (wy n s a + q * n), G) := by
  have hn := h.n20
  have hk := h.k12
  obtain ⟨v, v1, v2, v3⟩ := h.lim.1
  have hw := wy_rng hsn ha
  have e : ∃ q, q ≤ 99 ∧ (if 1 < lLi L 0 - nI c then lLi L 0 - nI c else 1) - 1 = nI q := by
    rw [v3]
    have e1 : (nI v - nI c).toInt = (v : Int) - (c : Int) := by rw [fb_subI] <;> rw [nI_toInt (by omega), nI_toInt (by omega)] <;> omega
    have e2 : (1 : Int32).toInt = 1 := by decide
    by_cases z : (1 : Int32) < nI v - nI c
    · have z' := z
      rw [fa_lt, e1, e2] at z'
      rw [if_pos z, pk_sub (by omega)]
      refine ⟨v - c - 1, by omega, ?_⟩
      rw [show (1 : Int32) = nI 1 from rfl, pk_sub (by omega)]
    · rw [if_neg z]
      exact ⟨0, by omega, by decide⟩
  obtain ⟨q, q1, q2⟩ := e
  refine ⟨q, q1, ?_⟩
  have hq : q * n ≤ 99 * 20 := Nat.mul_le_mul q1 hn
  unfold fL_dueAfter fX4_dueAfter fX0_stepsUntilDue
  rw [hL, h.hasY hg, Option.bind_some, if_neg (by decide), isInY h hg, if_pos hp, Option.bind_some, if_neg (by decide), gd_nI (by omega) (by decide), nI_clamp (by omega), hs, hst, s_slotsOn h.hn hsn ha (by omega), Option.bind_some, hc, q2, h.hn, pk_mul, nI_add, Option.bind_some, Option.bind_some, gm0, nI_l (by omega)]
theorem arm0 (hL : gLift G = L) (h : LOk k n L) : fL_room G 0 = some (lN (sCt (fun i => decide (sCt (lBad L (nI i)) k = 0)) n), G) := by
  obtain ⟨M, hr, hN⟩ := h.m 0
  have hn := h.n20
  have := sCt_le (fun i => decide (sCt (lBad L (nI i)) k = 0)) n
  unfold fL_room fX4_room
  rw [if_pos rfl, hL, c_roomy hr hN, Option.bind_some, Option.bind_some, gm0, nI_l (by omega)]
theorem arm1 (hL : gLift G = L) (h : LOk k n L) : fL_room G 1 = some ((sGap L n k).toInt64, G) := by
  obtain ⟨r, hr⟩ := h
  unfold fL_room fX4_room
  rw [if_neg (by decide), if_pos rfl, hL, c_least hr, Option.bind_some, Option.bind_some, gm0]
theorem arm2 (hL : gLift G = L) (h : LOk k n L) {v : Nat} (h1 : 1 ≤ v) (h4 : v ≤ 4) (hv : lLi L 3 = nI v) : fL_room G 2 = some (lN (n / v), G) := by
  have hn := h.n20
  have : n / v ≤ n := Nat.div_le_self n v
  unfold fL_room fX4_room fX0_capacity
  rw [if_neg (by decide), if_neg (by decide), if_pos rfl, hL, hv, if_neg (nI_nle (by omega) (by omega)), nz, if_neg (nI_ne0 (by omega) (by omega)), h.hn, pk_div (by omega) (by omega) (by omega), Option.bind_some, Option.bind_some, gm0, nI_l (by omega)]
theorem agr_loop (hL : gLift G = L) (h : LOk k n L) (x : Int32) : fX4_groups_L30 KF G x 0 0 (-9) 0 = if x = 0 then some (0, (gSt L k k).1, G) else if x = 1 then some (0, (gSt L k k).2.1, G) else some (0, (gSt L k k).2.2, G) := by
  obtain ⟨r, h2⟩ := h
  have hk12 := h2.k12
  subst hL
  have siz : ∀ g, sCt (lTog (gLift G) g) 12 = sCt (lTog (gLift G) g) k := fun g => sCt_ext hk12 (fun q q1 q2 => by
    have : lGrp (gLift G) q = false := decide_eq_false (fun z => z.1 (h2.abs q q1 q2))
    unfold lTog; rw [this, Bool.and_false, Bool.and_false])
  rw [← gSt_out h2 (12 - k) (by omega), show k + (12 - k) = 12 by omega]
  refine run_up (fun f i => fX4_groups_L30 f G x (gSt (gLift G) k i).1 (gSt (gLift G) k i).2.1 (gSt (gLift G) k i).2.2 (nI i)) 12 (fun i f hi => ?_) (fun f => ?_) (by decide)
  · show fX4_groups_L30 (f + 1) G x _ _ _ (nI i) = fX4_groups_L30 f G x (gSt (gLift G) k (i + 1)).1 (gSt (gLift G) k (i + 1)).2.1 (gSt (gLift G) k (i + 1)).2.2 (nI (i + 1))
    rw [fX4_groups_L30, if_neg (l12 hi), c_opens _ hi, Option.bind_some, nI_1, gSt]
    by_cases e : lGrp (gLift G) i = true ∧ sCt (lTog (gLift G) i) i = 0
    · rw [if_pos e, if_pos e, if_neg c10, c_size _ hi, Option.bind_some, siz]
      by_cases e2 : nI (sCt (lTog (gLift G) i) k) ≤ (gSt (gLift G) k i).2.1
      · rw [if_pos e2, if_pos e2]
      · rw [if_neg e2, if_neg e2]
    · rw [if_neg e, if_neg e, if_pos rfl]
  · show fX4_groups_L30 (f + 1) G x _ _ _ (nI 12) = _
    rw [fX4_groups_L30, if_pos g12]
theorem agr0 (hL : gLift G = L) (h : LOk k n L) : fL_groups G 0 = some ((gSt L k k).1.toInt64, G) := by
  unfold fL_groups fX4_groups
  rw [if_neg (by decide), if_pos (by decide), agr_loop hL h, if_pos rfl, Option.bind_some, gm0]
theorem agr1 (hL : gLift G = L) (h : LOk k n L) : fL_groups G 1 = some ((gSt L k k).2.1.toInt64, G) := by
  unfold fL_groups fX4_groups
  rw [if_neg (by decide), if_pos (by decide), agr_loop hL h, if_neg (by decide), if_pos rfl, Option.bind_some, gm0]
theorem agr2 (hL : gLift G = L) (h : LOk k n L) : fL_groups G 2 = some ((gSt L k k).2.2.toInt64, G) := by
  unfold fL_groups fX4_groups
  rw [if_neg (by decide), if_pos (by decide), agr_loop hL h, if_neg (by decide), if_neg (by decide), Option.bind_some, gm0]
/-- the state behind a forecast, or a report: nothing that is kept has changed -/
def SEq (G G' : GSt) : Prop := gLift G' = gLift G ∧ tSg (gTxt G') = tSg (gTxt G) ∧ gHis G' = gHis G ∧ gSav G' = gSav G ∧ gSvd G' = gSvd G ∧ gRem G' = gRem G ∧ gNxt G' = gNxt G
theorem SEq.rf {G : GSt} : SEq G G := ⟨rfl, rfl, rfl, rfl, rfl, rfl, rfl⟩
theorem SEq.tr {G G' G'' : GSt} (h : SEq G G') (h2 : SEq G' G'') : SEq G G'' := ⟨h2.1.trans h.1, h2.2.1.trans h.2.1, h2.2.2.1.trans h.2.2.1, h2.2.2.2.1.trans h.2.2.2.1, h2.2.2.2.2.1.trans h.2.2.2.2.1, h2.2.2.2.2.2.1.trans h.2.2.2.2.2.1, h2.2.2.2.2.2.2.trans h.2.2.2.2.2.2⟩
theorem SEq.lf {G G' : GSt} (h : SEq G G') (hL : gLift G = L) : gLift G' = L := h.1.trans hL
theorem SEq.rel {G G' : GSt} {M : MSt} (h : SEq G G') (hG : GRel G M) : GRel G' M := by
  obtain ⟨n, h1, h2, h3, h4, h5⟩ := hG
  refine ⟨n, h1, by rw [h.1]; exact h2, by rw [h.2.1]; exact h3, ?_, ?_⟩
  · rw [h.2.2.1, h.2.2.2.2.2.1, h.2.2.2.2.2.2]; exact h4
  · rw [h.2.2.2.1, h.2.2.2.2.1]; exact h5
/-- a copy of a lift -/
theorem LOk.copy (h : LOk k n L) (X : LSt) : LOk k n (lCopy X L) := h.elim fun r h => ⟨r, RRel_lCopy h⟩
theorem LOk.it (h : LOk k n L) (m : Nat) : LOk k n (itL L m) := by
  obtain ⟨M, hr, hN⟩ := h.m 4
  exact ⟨_, (st_it hr (by decide) hN m).1⟩
theorem LOk.adv (h : LOk k n L) : fX0_advance L = some (advE L, advS L) := by
  obtain ⟨M, hr, hN⟩ := h.m 4
  exact (st_one hr (by decide) hN).1
theorem LOk.advBy (h : LOk k n L) {m : Nat} (hm : m ≤ 2000) : fX0_advanceBy L (nI m) = some (itL L m) := by
  obtain ⟨M, hr, hN⟩ := h.m 4
  exact s_advanceBy hr (by decide) hN hm
theorem isStepY {m : Nat} (h1 : 1 ≤ m) (h9 : m ≤ 99) : fX4_isStepNumber (nI m) = some 1 := by
  rw [c_isStep, if_pos ⟨nI_le (a := 1) h1 (by omega), nI_le (b := 99) h9 (by decide)⟩]
theorem ahp (hL : gLift G = L) (h : LOk k n L) {m w : Nat} (h1 : 1 ≤ m) (h9 : m ≤ 99) (hw : w < 4) : ∃ G', fL_happens G (nI m) (nI w) = some ((sEv (lCopy (gTrial G) L) w m).toInt64, G') ∧ SEq G G' := by
  obtain ⟨M, hr, hN⟩ := (h.copy (gTrial G)).m 4
  subst hL
  refine ⟨(gLift G, itL (lCopy (gTrial G) (gLift G)) m, gTxt G, gSum G, gHis G, gSav G, gSvd G, gRem G, gNxt G), ?_, ⟨rfl, rfl, rfl, rfl, rfl, rfl, rfl⟩⟩
  unfold fL_happens fX4_happens
  rw [isStepY h1 h9, Option.bind_some, if_neg (by decide), if_neg (nI_pos (by omega)), if_pos (show nI w ≤ 3 from nI_le (b := 3) (by omega) (by decide)), c_happens hr hN (by omega), Option.bind_some, gm0]
theorem aah (hL : gLift G = L) (h : LOk k n L) {g m w : Nat} (hg : g < k) (h9 : m ≤ 99) (hw : w < 8) : ∃ G', fL_ahead G (nI g) (nI m) (nI w) = some ((nmb (itL (lCopy (gTrial G) L) m) g w).toInt64, G') ∧ SEq G G' := by
  have hT := (h.copy (gTrial G))
  have hI := hT.it m
  subst hL
  refine ⟨(gLift G, itL (lCopy (gTrial G) (gLift G)) m, gTxt G, gSum G, gHis G, gSav G, gSvd G, gRem G, gNxt G), ?_, ⟨rfl, rfl, rfl, rfl, rfl, rfl, rfl⟩⟩
  have e := ag (G := ((itL (lCopy (gTrial G) (gLift G)) m), gTrial G, gTxt G, gSum G, gHis G, gSav G, gSvd G, gRem G, gNxt G)) rfl hI hg hw
  have en : fX0_number (itL (lCopy (gTrial G) (gLift G)) m) (nI g) (nI w) = some (nmb (itL (lCopy (gTrial G) (gLift G)) m) g w) := by
    unfold fL_grip fX4_grip at e
    rw [show gLift ((itL (lCopy (gTrial G) (gLift G)) m), gTrial G, gTxt G, gSum G, gHis G, gSav G, gSvd G, gRem G, gNxt G) = itL (lCopy (gTrial G) (gLift G)) m from rfl, hI.hasY hg, Option.bind_some, if_neg (by decide), c_isGripNumber, if_pos ⟨nI_pos' (by omega), nI_le (b := 7) (by omega) (by decide)⟩, Option.bind_some, if_neg (by decide)] at e
    cases hx : fX0_number (itL (lCopy (gTrial G) (gLift G)) m) (nI g) (nI w) with
    | none => rw [hx] at e; cases e
    | some v =>
      rw [hx, Option.bind_some, Option.bind_some, gm0] at e
      have e1 := congrArg Prod.fst (Option.some.inj e)
      rw [(fa_wide_eq _ _).mp e1]
  unfold fL_ahead fX4_ahead
  rw [h.hasY hg, Option.bind_some, if_neg (by decide), if_neg (nI_pos (by omega)), if_pos (show nI m ≤ 99 from nI_le (b := 99) h9 (by decide)), c_isGripNumber, if_pos ⟨nI_pos' (by omega), nI_le (b := 7) (by omega) (by decide)⟩, Option.bind_some, if_neg (by decide), hT.advBy (by omega), Option.bind_some, en, Option.bind_some, Option.bind_some, gm0]
def wRnd (T : LSt) (x : Int64) : LSt := (lWe T, lCy T, lWr T, lPu T, lSl T, lPl T, lSp T, lSt T, lLi T, lN_ T, lStn T, lClk T, x)
theorem asim (hL : gLift G = L) (h : LOk k n L) {m : Nat} (h1 : 1 ≤ m) (h9 : m ≤ 99) (x : Int64) : ∃ G', fL_simulate G x (nI m) = some ((100 * sPul (itL (wRnd (lCopy (gTrial G) L) x) m) k + nI (cN (itL (wRnd (lCopy (gTrial G) L) x) m) k 0)).toInt64, G') ∧ SEq G G' := by
  have hT : LOk k n (wRnd (lCopy (gTrial G) L) x) := (h.copy (gTrial G)).elim fun r hr => ⟨_, RRel_rnd hr x⟩
  have hI := hT.it m
  subst hL
  refine ⟨(gLift G, itL (wRnd (lCopy (gTrial G) (gLift G)) x) m, gTxt G, gSum G, gHis G, gSav G, gSvd G, gRem G, gNxt G), ?_, ⟨rfl, rfl, rfl, rfl, rfl, rfl, rfl⟩⟩
  unfold fL_simulate fX4_simulate
  rw [isStepY h1 h9, Option.bind_some, if_neg (by decide)]
  show ((fX0_advanceBy (wRnd (lCopy (gTrial G) (gLift G)) x) (nI m)).bind _).bind _ = _
  rw [hT.advBy (by omega), Option.bind_some]
  obtain ⟨r, hr⟩ := id hI
  rw [c_allPulls hr, Option.bind_some, hI.count (by decide), Option.bind_some, Option.bind_some, gm0]
  rfl
end AN2

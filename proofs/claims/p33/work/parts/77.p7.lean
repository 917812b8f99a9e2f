/-! PURE LEVEL: a step of the class is a step of the model -/
set_option maxHeartbeats 4000000 in
theorem st_adv {k n j : Nat} {L : LSt} {M : MSt} (h : RRel k n L (mA M j)) (hj : j ≠ 8) (hN : mN M = nI n) (x r : Int32) (hx : lStn L = x) :
    ∃ e L' M', (fX0_gripAt L x).bind (fun r48 => (if 0 ≤ r48 then (fX0_pass L r48 r).bind (fun r70 => (fX0_repairAllBut r70.2 r48).bind (fun r76 => (fX0_fillStation r76).bind (fun r81 => some ((r70.1 ||| r81.1), ((lWe r81.2), (lCy r81.2), (lWr r81.2), (lPu r81.2), (lSl r81.2), (lPl r81.2), (lSp r81.2), (lSt r81.2), (lLi r81.2), (lN_ r81.2), (lStn r81.2), ((lClk r81.2) + 1), (lRnd r81.2)))))) else (fX0_repairAllBut L r48).bind (fun r76 => (fX0_fillStation r76).bind (fun r81 => some ((0 ||| r81.1), ((lWe r81.2), (lCy r81.2), (lWr r81.2), (lPu r81.2), (lSl r81.2), (lPl r81.2), (lSp r81.2), (lSt r81.2), (lLi r81.2), (lN_ r81.2), (lStn r81.2), ((lClk r81.2) + 1), (lRnd r81.2))))))) = some (e, L') ∧
      (fX5_gripAt j M (((mA M) j) 97)).bind (fun r57 => (if r57 = (-9) then (fX5_stepOn_L88 j KF M (-9) 0) else (fX5_pass j M r57 r).bind (fun r80 => (fX5_stepOn_L88 j KF r80.2 r80.1 0)))) = some M' ∧
      RRel k n L' (mA M' j) ∧ SameBut j M M' ∧ EvR e (mA M 8) (mA M' 8) := by
  have hk12 := h.k12
  obtain ⟨s, s1, s2, s3⟩ := h.stn
  have hxs : x = nI s := hx.symm.trans s2
  subst hxs
  rw [s3]
  rcases rc_gripAt h (nI s) with ⟨g1, g2, g3⟩ | ⟨g0, g1, g2, g3, g4, g5⟩
  · rw [g1, g2, Option.bind_some, Option.bind_some, if_neg (by decide), if_pos rfl]
    obtain ⟨S, T', q1, q2, e, L', q3, q4, q5, q6, q7⟩ := st_repair h hj hN (-9) (-9) (Or.inl rfl)
    rw [q1, Option.bind_some, q3, Option.bind_some]
    exact ⟨_, _, T', rfl, q2, q4, q5, Ev_or (EvR_0 _) q7 (Or.inl rfl) q6⟩
  · rw [g4, g5, Option.bind_some, Option.bind_some, if_pos (nI_pos' (by omega)), if_neg (n9_ne (by omega))]
    obtain ⟨e, L1, w, M1, p1, p2, p3, p4, p5, p6, p7⟩ := st_pass h hj g1 g2 r
    rw [p1, p2, Option.bind_some, Option.bind_some]
    obtain ⟨S, T', q1, q2, d, L', q3, q4, q5, q6, q7⟩ := st_repair p3 hj (p4.n.trans hN) (nI g0) w (by
      rcases p7 with ⟨z1, z2⟩ | ⟨z1, z2⟩
      · exact Or.inl z1.symm
      · exact Or.inr ⟨z1, g0, by omega, rfl, z2⟩)
    rw [q1, Option.bind_some, q3, Option.bind_some]
    exact ⟨_, _, T', rfl, q2, q4, p4.trans q5, Ev_or p6 q7 p5 q6⟩
theorem SameBut_aw {j : Nat} {M : MSt} {i : Nat} {x : Int32} : SameBut j M (aw (mA M) j i x, M.2) := ⟨fun c h _ => aw_ne h, rfl⟩
set_option maxHeartbeats 4000000 in
theorem st_step {k n j : Nat} {L : LSt} {M : MSt} (h : RRel k n L (mA M j)) (hj : j ≠ 8) (hN : mN M = nI n) :
    ∃ e L' M', fX0_advance L = some (e, L') ∧ fX5_stepOn j M = some M' ∧ RRel k n L' (mA M' j) ∧ SameBut j M M' ∧ EvR e (mA M 8) (mA M' 8) := by
  have hj' : 8 ≠ j := fun z => hj z.symm
  have hn4 := h.n4
  have hn20 := h.n20
  obtain ⟨s, s1, s2, s3⟩ := h.stn
  have hrn := h.rnd
  have go : ∀ (s' : Nat) (c d : Int32), s' < n → c = nI s' → d = nI s' → ∃ e L' M', (fX0_gripAt ((lWe L), (lCy L), (lWr L), (lPu L), (lSl L), (lPl L), (lSp L), (lSt L), (lLi L), (lN_ L), c, (lClk L), (((lRnd L) * 6364136223846793005) + 1442695040888963407)) c).bind (fun r48 => (if 0 ≤ r48 then (fX0_pass ((lWe L), (lCy L), (lWr L), (lPu L), (lSl L), (lPl L), (lSp L), (lSt L), (lLi L), (lN_ L), c, (lClk L), (((lRnd L) * 6364136223846793005) + 1442695040888963407)) r48 (((((((lRnd L) * 6364136223846793005) + 1442695040888963407)).toUInt64 >>> (((33 : Int32)).toInt64.toUInt64 &&& Int64.toUInt64 63)).toInt64).toInt32)).bind (fun r70 => (fX0_repairAllBut r70.2 r48).bind (fun r76 => (fX0_fillStation r76).bind (fun r81 => some ((r70.1 ||| r81.1), ((lWe r81.2), (lCy r81.2), (lWr r81.2), (lPu r81.2), (lSl r81.2), (lPl r81.2), (lSp r81.2), (lSt r81.2), (lLi r81.2), (lN_ r81.2), (lStn r81.2), ((lClk r81.2) + 1), (lRnd r81.2)))))) else (fX0_repairAllBut ((lWe L), (lCy L), (lWr L), (lPu L), (lSl L), (lPl L), (lSp L), (lSt L), (lLi L), (lN_ L), c, (lClk L), (((lRnd L) * 6364136223846793005) + 1442695040888963407)) r48).bind (fun r76 => (fX0_fillStation r76).bind (fun r81 => some ((0 ||| r81.1), ((lWe r81.2), (lCy r81.2), (lWr r81.2), (lPu r81.2), (lSl r81.2), (lPl r81.2), (lSp r81.2), (lSt r81.2), (lLi r81.2), (lN_ r81.2), (lStn r81.2), ((lClk r81.2) + 1), (lRnd r81.2))))))) = some (e, L') ∧
      lt (aw (mA M) j 97 d) (fun a34 => (fX5_randomOf j (a34, (mRef M), (mSize M), (mSpot M), (mRN M), (mN M), (mActs M))).bind (fun r28 => (fX5_setRandomOn j (a34, (mRef M), (mSize M), (mSpot M), (mRN M), (mN M), (mActs M)) ((r28 * 6364136223846793005) + 1442695040888963407)).bind (fun r42 => (fX5_gripAt j r42 (((mA r42) j) 97)).bind (fun r57 => (if r57 = (-9) then (fX5_stepOn_L88 j KF r42 (-9) 0) else (fX5_pass j r42 r57 ((((((r28 * 6364136223846793005) + 1442695040888963407)).toUInt64 >>> (((33 : Int32)).toInt64.toUInt64 &&& Int64.toUInt64 63)).toInt64).toInt32)).bind (fun r80 => (fX5_stepOn_L88 j KF r80.2 r80.1 0))))))) = some M' ∧
      RRel k n L' (mA M' j) ∧ SameBut j M M' ∧ EvR e (mA M 8) (mA M' 8) := fun s' c d hs' hc hd => by
    subst hc
    subst hd
    have hr := RRel_sr h hs' ((lRnd L) * 6364136223846793005 + 1442695040888963407)
    have e1 : fX5_randomOf j (aw (mA M) j 97 (nI s'), (mRef M), (mSize M), (mSpot M), (mRN M), (mN M), (mActs M)) = some (lRnd L) := by
      rw [hrn]
      show some (rOf (aw (mA M) j 97 (nI s') j)) = _
      rw [aw_at]; unfold rOf; rw [upd_ne (by decide), upd_ne (by decide)]
    simp only [lt, e1, Option.bind_some]
    generalize lRnd L * 6364136223846793005 + 1442695040888963407 = y at hr ⊢
    simp only [fX5_setRandomOn, lt, Option.bind_some]
    have hr' : RRel k n (lWe L, lCy L, lWr L, lPu L, lSl L, lPl L, lSp L, lSt L, lLi L, lN_ L, nI s', lClk L, y) (mA (aw (aw (aw (mA M) j 97 (nI s')) j 104 ((y >>> (((32 : Int32)).toInt64 &&& 63))).toInt32) j 105 y.toInt32, (mRef M), (mSize M), (mSpot M), (mRN M), (mN M), (mActs M)) j) := by
      simp only [mA, aw_at]; exact hr
    obtain ⟨e, L', M', p1, p2, p3, p4, p5⟩ := st_adv hr' hj (M := (aw (aw (aw (mA M) j 97 (nI s')) j 104 ((y >>> (((32 : Int32)).toInt64 &&& 63))).toInt32) j 105 y.toInt32, (mRef M), (mSize M), (mSpot M), (mRN M), (mN M), (mActs M))) hN (nI s') (((((y)).toUInt64 >>> (((33 : Int32)).toInt64.toUInt64 &&& Int64.toUInt64 63)).toInt64).toInt32) rfl
    refine ⟨e, L', M', p1, p2, p3, ⟨fun q q1 q2 => ?_, p4.2⟩, ?_⟩
    · rw [p4.1 q q1 q2]; simp (disch := omega) only [mA, aw_ne]
    · have e8 : mA (aw (aw (aw (mA M) j 97 (nI s')) j 104 ((y >>> (((32 : Int32)).toInt64 &&& 63))).toInt32) j 105 y.toInt32, (mRef M), (mSize M), (mSpot M), (mRN M), (mN M), (mActs M)) 8 = mA M 8 := by simp (disch := omega) only [mA, aw_ne]
      rw [e8] at p5; exact p5
  unfold fX0_advance fX5_stepOn
  by_cases hc : s + 1 = n
  · rw [if_pos (show lN_ L ≤ lStn L + 1 by rw [h.hn, s2, nI_1, hc]; exact Int32.le_refl _), if_pos (show mA M j 97 + 1 = mN M by rw [hN, s3, nI_1, hc])]
    exact go 0 0 0 (by omega) rfl rfl
  · rw [if_neg (show ¬ lN_ L ≤ lStn L + 1 by rw [h.hn, s2, nI_1]; exact nI_ge (by omega) (by omega)), if_neg (show ¬ mA M j 97 + 1 = mN M by rw [hN, s3, nI_1]; exact fun z => hc ((nI_eq (by omega) (by omega)).mp z))]
    exact go (s + 1) (lStn L + 1) (mA M j 97 + 1) (by omega) (by rw [s2, nI_1]) (by rw [s3, nI_1])

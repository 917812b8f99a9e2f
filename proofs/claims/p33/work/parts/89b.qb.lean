/-! PURE LEVEL of the property: FOLLOWS -/
set_option maxHeartbeats 8000000 in
theorem follows_ok {k n a x B y : Nat} {G : GSt} (h : LOk k n (gLift G)) (hx : Ext B (gLift G)) (hB : B ≤ 5000) (hh : HOk G a x) (hy : y < 2 ^ 31) : ∃ G', fL_follows G (nI y) = some G' ∧ FEnd k n G G' := by
  have hk := h.k12
  have hn := h.n20
  have hn4 := h.n4
  obtain ⟨L, hL⟩ : ∃ L, gLift G = L := ⟨_, rfl⟩
  rw [hL] at h hx
  obtain ⟨m, hm⟩ : ∃ m, m = 1 + y % 50 := ⟨_, rfl⟩
  have m1 : 1 ≤ m := by omega
  have m50 : m ≤ 50 := by omega
  have m9 : m ≤ 99 := by omega
  have e6 : (1 : Int32) + (nI y - nI y / 50 * 50) = nI m := by
    rw [show nI y - nI y / 50 * 50 = nI (y % 50) from pk_rem (d := 50) hy (by decide) (by decide), hm]
    exact nI_add 1 _
  obtain ⟨c, c1, c2⟩ := hx.1
  have hI : FI k n (svG G) L (svG G) := ⟨by show LOk k n (gLift G); rw [hL]; exact h, by show NEq k L (gLift G); rw [hL]; exact NEq.rf, rfl, rfl, rfl, a, x, hh⟩
  have hLv : gLift (svG G) = L := hL
  have hnL := h.hn
  have hpu := hx.pu h (by omega)
  obtain ⟨hx1, hsp1⟩ := it_ext h hx m (by omega)
  have hpu1 : PuOk (itL L m) k := hx1.pu (h.it m) (by omega)
  have hcnt := it_cnt h m
  have s0 := (sN_le h (w := 0) (by decide) m).2
  have s1 := (sN_le h (w := 1) (by decide) m).2
  have s2 := (sN_le h (w := 2) (by decide) m).2
  have s3 := (sN_le h (w := 3) (by decide) m).2
  have hc0 := cN_le L k 0
  have hc1 := cN_le (itL L m) k 0
  unfold fL_follows
  rw [e6]
  refine bE (nw_run hL h) (bE (an_0 hL h) (bE (agr hL h) (bE (an_7 hL) (bE (sv_1 G) (iE (lq (by rw [hL])) (bE (an_2 hLv h) ?_))))))
  refine eE (fl_66 _ hLv h hpu (nI y) _ _ _ _ _) ?_
  obtain ⟨S, e, hI⟩ := hI.ha h m1 m9 (w := 0) (by decide)
  refine bE e ?_
  obtain ⟨S, e, hI⟩ := hI.ha h m1 m9 (w := 1) (by decide)
  refine bE e ?_
  obtain ⟨S, e, hI⟩ := hI.ha h m1 m9 (w := 2) (by decide)
  refine bE e ?_
  obtain ⟨S, e, hI⟩ := hI.ha h m1 m9 (w := 3) (by decide)
  refine bE e ?_
  obtain ⟨ve, S, e, hI, hve⟩ := hI.em
  refine bE e ?_
  obtain ⟨g, hg⟩ : ∃ g, g = if k = 0 then 0 else y / 50 % k := ⟨_, rfl⟩
  have hgk : 0 < k → g < k := fun z => by rw [hg, if_neg (by omega)]; exact Nat.mod_lt _ z
  refine bE (a := nI g) ?_ ?_
  · by_cases k0 : k = 0
    · refine iS (show nI k = 0 by rw [k0]; rfl) ?_
      rw [hg, if_pos k0]; rfl
    · refine iN (show ¬ nI k = 0 from nI_ne0 (by omega) (by omega)) ?_
      show nz (nI k) (some (nI y / 50 - nI y / 50 / nI k * nI k)) = some (nI g)
      unfold nz
      rw [if_neg (nI_ne0 (by omega) (by omega)), show nI y / 50 = nI (y / 50) from pk_div (d := 50) hy (by decide) (by decide), pk_rem (by omega) (by omega) (by omega), hg, if_neg k0]
  have hah : ∀ (w : Nat) (S : GSt), w < 8 → FI k n (svG G) L S → ∃ z S', fL_ahead S (nI g) (nI m) (nI w) = some (z, S') ∧ FI k n (svG G) L S' ∧ (0 < k → z = (nmb (itL L m) g w).toInt64) := fun w S hw hI => by
    by_cases k0 : 0 < k
    · obtain ⟨S', e, hI⟩ := hI.ah h (hgk k0) m9 hw
      exact ⟨_, S', e, hI, fun _ => rfl⟩
    · have e := er_ah3 rfl hI.1 (nI m) (nI w)
      have eg : g = k := by rw [hg, if_pos (by omega)]; omega
      exact ⟨_, S, by rw [eg]; exact e, hI, fun z => absurd z k0⟩
  obtain ⟨z4, S, e, hI, hz4⟩ := hah 4 S (by decide) hI
  refine bE e ?_
  obtain ⟨z1, S, e, hI, hz1⟩ := hah 1 S (by decide) hI
  refine bE e ?_
  refine bE (a := lRnd L) (by show some (lRnd (gLift S)) = _; rw [hI.2.1.2.2.2.1]) ?_
  obtain ⟨S, e, hI⟩ := hI.si h hx hB m1 m9
  refine bE e (iE (lq ?_) ?_)
  · show lN (100 * (SP L k + sN L 0 m) + cN (itL L m) k 0) = (((100 * (lN (SP L k) + lN (sN L 0 m))) + lN (cN L k 0)) - (lN (sN L 1 m) + lN (sN L 2 m))) + lN (sN L 3 m)
    rw [lN_add, lN_add, show (100 : Int64) = lN 100 from rfl, lN_mul, lN_add, jr (by omega)]
    congr 1
    omega
  obtain ⟨hl, he, f3, f4, f5, a', x', hh'⟩ := id hI
  obtain ⟨T, t1, t2⟩ := act_step rfl hl hh' m1 m9
  have hT : gLift T = itL (gLift S) m := t2.1
  have hlT : LOk k n (itL (gLift S) m) := hl.it m
  have heT : NEq k (itL L m) (itL (gLift S) m) := (it_same h hl he m).1
  refine bE t1 (bE (an_4 hT hlT) (iE (lq rfl) (bE (an_2 hT hlT) (iE (lq ?_) (bE (an_7 hT) (iE (lq ?_) (bE (an_6 hT) ?_)))))))
  · show lN (cN (itL (gLift S) m) k 0) = (lN (cN L k 0) - (lN (sN L 1 m) + lN (sN L 2 m))) + lN (sN L 3 m)
    rw [NEq_cN heT, lN_add, jr (by omega)]
    congr 1
    omega
  · show (lClk (itL (gLift S) m)).toInt64 = (lClk L).toInt64 + (nI m).toInt64
    rw [heT.2.2.1, it_clk h, c2, nI_add, nI_l (by omega), nI_l (by omega), nI_l (by omega), lN_add]
  obtain ⟨s, hs1, hs2⟩ := hlT.stn
  refine bE (an_st hT hlT hs2 (by omega) hs1) ?_
  have n4 : ((lN n).toInt32).toInt64 = lN n := by rw [lN_i, nI_l (by omega)]
  refine eE (y := _) (by
    show nzl (((lN n).toInt32).toInt64) _ = _
    rw [n4]
    unfold nzl
    exact if_neg (by intro z; have := congrArg Int64.toInt z; rw [lN_toInt (by omega), l0T] at this; omega)) (iE (lq ?_) ?_)
  · show (lStn (itL (gLift S) m)).toInt64 = ((nI m).toInt64 + stZ (lN n) (lN s) (lN m)) - ((nI m).toInt64 + stZ (lN n) (lN s) (lN m)) / lN n * lN n
    rw [hs2, nI_l (by omega), nI_l (by omega)]
    exact st_mod n (by omega) hn4 s hs1 m (by omega)
  refine bE (a := T) ?_ ?_
  · by_cases k0 : k = 0
    · exact iS (show nI k = 0 by rw [k0]; rfl) rfl
    · have hgk' := hgk (by omega)
      refine iN (show ¬ nI k = 0 from nI_ne0 (by omega) (by omega)) ?_
      have e4 : fL_grip T (nI g) 4 = some ((nmb (itL (gLift S) m) g 4).toInt64, T) := ag hT hlT hgk' (w := 4) (by decide)
      have e1 : fL_grip T (nI g) 1 = some ((nmb (itL (gLift S) m) g 1).toInt64, T) := ag hT hlT hgk' (w := 1) (by decide)
      exact bS e4 (iS (lq (by show (nmb (itL (gLift S) m) g 4).toInt64 = z4; rw [hz4 (by omega), heT.1 g hgk' 4 (by decide)])) (bS e1 (iS (lq (by show (nmb (itL (gLift S) m) g 1).toInt64 = z1; rw [hz1 (by omega), heT.1 g hgk' 1 (by decide)])) rfl)))
  obtain ⟨hpuT, hspT⟩ := hpu1.neq heT
  refine eE (fl_325 _ hT hlT hpuT (nI y) _ _ _ _ _ _ _ _ _) (iE (lq ?_) ?_)
  · show lN (SP (itL (gLift S) m) k) = lN (SP L k) + lN (sN L 0 m)
    rw [hspT, hsp1, lN_add]
  obtain ⟨v, S, u1, u2, hI⟩ := hI.undo t2 hh'.2.1 SEq.rf
  refine bE u1 (iF (lt0 u2) (bE hI.nw (iE (lq rfl) ?_)))
  refine bE (a := if cN L k 0 = 0 then 1 else 0) ?_ (bE (a := if cN L k 0 = 0 then 1 else 0) ?_ (iE rfl ?_))
  · show (if lg_cmp (lN (cN L k 0)) 0 = 0 then some (1 : Int32) else some 0) = _
    by_cases q : cN L k 0 = 0
    · rw [if_pos (lq (by rw [q]; rfl)), if_pos q]
    · rw [if_neg (by rw [lc0]; intro z; have := congrArg Int64.toInt z; rw [lN_toInt (by omega), l0T] at this; omega), if_neg q]
  · show (if ve = 0 then some (1 : Int32) else some 0) = _
    by_cases q : cN L k 0 = 0
    · rw [if_pos (hve.mpr q), if_pos q]
    · rw [if_neg (fun z => q (hve.mp z)), if_neg q]
  obtain ⟨S, hI, cc, hcc, e⟩ := fl_422' (k := k) (n := n) (L := L) _ h hI hgk (nI y) (lN_i n) (nI m) ((lClk L).toInt64)
  refine eE e ?_
  refine bJ (I := fun S => FI k n (svG G) L S) ?_ (fun S hI => ?_)
  · by_cases k0 : k = 0
    · exact iE (show nI k = 0 by rw [k0]; rfl) ⟨_, rfl, hI⟩
    · refine iF (show ¬ nI k = 0 from nI_ne0 (by omega) (by omega)) (bE (arm0 rfl hI.1) (iE (lq ?_) ⟨_, rfl, hI⟩))
      have := sCt_le (roomC L k) n
      have hcc' := hcc (by omega)
      show lN (sCt (fun i => decide (sCt (lBad (gLift S) (nI i)) k = 0)) n) = (nI cc).toInt64
      rw [nI_l (by omega), hcc']
      congr 1
      exact sCt_cong (fun i _ => by show decide (sCt (lBad (gLift S) (nI i)) k = 0) = decide (sCt (lBad L (nI i)) k = 0); rw [NEq_bad h hI.1 hI.2.1])
  refine bJ (I := fun S => FI k n (svG G) L S) ?_ (fun S hI => ?_)
  · by_cases k0 : k = 0
    · refine iF (show ¬ 0 < nI k by rw [k0]; decide) (bE (arm0 rfl hI.1) (iE (lq ?_) ⟨_, rfl, hI⟩))
      show lN (sCt (fun i => decide (sCt (lBad (gLift S) (nI i)) k = 0)) n) = (nI n).toInt64
      rw [nI_l (by omega), sCt_all (fun i _ => by rw [k0]; rfl)]
    · exact iE (show 0 < nI k from nI_lt (a := 0) (by omega) (by omega)) ⟨_, rfl, hI⟩
  refine bJ (I := fun S => FI k n (svG G) L S) ?_ (fun S hI => ?_)
  · by_cases k0 : k = 0
    · exact iE (show nI k ≤ 0 by rw [k0]; decide) ⟨_, rfl, hI⟩
    · have hgk' := hgk (by omega)
      obtain ⟨hl, he, -, -, -, a', x', hh'⟩ := id hI
      have e5 : fL_grip S (nI g) 5 = some ((lPl (gLift S) g).toInt64, S) := ag rfl hl hgk' (w := 5) (by decide)
      refine iF (show ¬ nI k ≤ 0 from nI_nle (by omega) (by omega)) (bE e5 ?_)
      by_cases hp : lPl (gLift S) g = 3
      · have c3 : lg_cmp ((lPl (gLift S) g).toInt64) 3 = 0 := lq (by rw [hp]; rfl)
        have es := act_scrap_no rfl hl hgk' hp
        exact bE es (bE (a := -9000000000000000003) (iS c3 rfl) (iE (lq rfl) (bE e5 (iE c3 (bE es (iE (lq rfl) (bE (a := S) (iS c3 rfl) (bE hI.nw (iE (lq rfl) ⟨_, rfl, hI⟩)))))))))
      · have c3 : ¬ lg_cmp ((lPl (gLift S) g).toInt64) 3 = 0 := by rw [lc0]; intro z; exact hp ((fa_wide_eq _ 3).mp z)
        obtain ⟨T, t1, t2⟩ := act_scrap rfl hl hh' hgk' hp
        have hl3 := LOk_pl hl hgk' (v := 3) (Or.inr rfl)
        have p3 : lPl (wPl (gLift S) g 3) g = 3 := upd_at
        have e5' : fL_grip T (nI g) 5 = some ((lPl (wPl (gLift S) g 3) g).toInt64, T) := ag t2.1 hl3 hgk' (w := 5) (by decide)
        have es' := act_scrap_no t2.1 hl3 hgk' p3
        obtain ⟨v, U, u1, u2, hU⟩ := hI.undo t2 hh'.2.1 SEq.rf
        exact bE t1 (bE (a := (lPl (gLift S) g).toInt64) (iN c3 rfl) (iE (lq rfl) (bE e5' (iE (lq (by rw [p3]; rfl)) (bE es' (iE (lq rfl) (bE (a := U) (iN c3 (bS u1 (iN (lt0 u2) rfl))) (bE hU.nw (iE (lq rfl) ⟨_, rfl, hU⟩)))))))))
  obtain ⟨r, S', e, hs, hr⟩ := abest rfl hI.1 m1 m9
  have hI0 := hI
  have hI := hI.seq hs
  have e8 : fL_about S' 8 = some ((lLi L 0).toInt64, S') := by rw [an_8 rfl, hI.2.1.2.2.2.2 0 (by decide)]
  refine bE e (bE e8 ?_)
  refine bJ (I := fun S => FI k n (svG G) L S) ?_ (fun S hI => ?_)
  · rcases hr with rfl | ⟨u, u1, u9, rfl, q1, q2⟩
    · exact iE (lq m9L) ⟨_, rfl, hI⟩
    · have sl : ∀ w, 1 ≤ w → w ≤ 99 → slp L w m = slp (gLift S) w m := fun w w1 w9 => (slp_same h hI0.1 hI0.2.1 w1 w9).symm
      have try_ : ∀ (w : Nat) (S : GSt), 1 ≤ w → w ≤ 99 → FI k n (svG G) L S → ∃ T T' v U, fL_setLimit S 0 (nI w) = some ((lLi L 0).toInt64, T) ∧ fL_happens T (nI m) 2 = some ((slp L w m).toInt64, T') ∧ fL_undo T' = some (lN v, U) ∧ v < 14 ∧ FI k n (svG G) L U := fun w S w1 w9 hI => by
        obtain ⟨hl, he, -, -, -, a', x', hh'⟩ := id hI
        obtain ⟨T, t1, t2⟩ := act_lim rfl hh' w1 w9
        have hlw := LOk_lim hl w1 w9
        obtain ⟨T', p1, p2⟩ := ahp t2.1 hlw m1 m9 (w := 2) (by decide)
        have q := (it_same hlw (hlw.copy (gTrial T)) (NEq_copy hlw _) m).2 2 (by decide)
        obtain ⟨v, U, r1, r2, r3⟩ := hI.undo t2 hh'.2.1 p2
        refine ⟨T, T', v, U, by rw [t1, he.2.2.2.2 0 (by decide)], ?_, r1, r2, r3⟩
        have p1 : fL_happens T (nI m) 2 = _ := p1
        rw [p1, q]
        show some ((slp (gLift S) w m).toInt64, T') = _
        rw [slp_same h hl he w1 w9]
      have n9 : ¬ lg_cmp ((nI u).toInt64) (-9) = 0 := by
        rw [lc0, nI_l (by omega)]; intro z; have := congrArg Int64.toInt z; rw [lN_toInt (by omega), l9T] at this; omega
      have ui : ((nI u).toInt64).toInt32 = nI u := by rw [nI_l (by omega), lN_i]
      obtain ⟨T, T', v, U, r1, r2, r3, r4, r5⟩ := try_ u S' u1 u9 hI
      refine iF n9 (bE (a := ((lLi L 0).toInt64, T)) (by show fL_setLimit S' 0 (((nI u).toInt64).toInt32) = _; rw [ui]; exact r1) (iE (lq rfl) (bE r2 (iE (lq (by show (slp L u m).toInt64 = 0; rw [sl u u1 u9, q1]; rfl)) (bE r3 (iF (lt0 r4) ?_))))))
      by_cases u99 : u = 99
      · exact bE (a := U) (iS (lq (by rw [u99]; rfl)) rfl) ⟨_, rfl, r5⟩
      · obtain ⟨T2, T2', v2, U2, w1, w2, w3, w4, w5⟩ := try_ (u + 1) U (by omega) (by omega) r5
        have n99 : ¬ lg_cmp ((nI u).toInt64) 99 = 0 := by
          rw [lc0]; intro z
          have := (fa_wide_eq (nI u) 99).mp z
          exact u99 ((nI_eq (b := 99) (by omega) (by decide)).mp this)
        have pos : ¬ lg_cmp ((slp L (u + 1) m).toInt64) 0 ≤ 0 := by
          obtain ⟨y1, y2⟩ := sN_le (LOk_lim h (v := u + 1) (by omega) (by omega)) (w := 2) (by decide) m
          have y0 : ¬ slp L (u + 1) m = 0 := by rw [sl (u + 1) (by omega) (by omega)]; exact q2 (u + 1) (by omega) (by omega)
          have y1 : slp L (u + 1) m = nI (sN (wLim L (nI (u + 1))) 2 m) := y1
          have y3 : sN (wLim L (nI (u + 1))) 2 m ≠ 0 := fun z => y0 (by rw [y1, z]; rfl)
          rw [lcle, y1, nIT (by omega), l0T]
          omega
        refine bE (a := U2) (iN n99 (bS (a := ((lLi L 0).toInt64, T2)) (by show fL_setLimit U 0 (((nI u).toInt64).toInt32 + 1) = _; rw [ui, nI_1]; exact w1) (iS (lq rfl) (bS w2 (iN pos (bS w3 (iN (lt0 w4) rfl))))))) ⟨_, rfl, w5⟩
  obtain ⟨v, v1, v9, hv⟩ := h.lim.2.2.1
  have hv' : lLi (gLift S) 2 = nI v := by rw [hI.2.1.2.2.2.2 2 (by decide), hv]
  have e10 : fL_about S 10 = some (lN v, S) := by rw [an_10 rfl, hv', nI_l (by omega)]
  refine bE e10 (bE (ach3 rfl v1 v9 hv') (iE (lq rfl) (bE (ach2 rfl v1 v9 hv') (bE (a := if lg_cmp (lN v) 1 = 0 then 1 else lN v * lN v) ?_ (iE (lq rfl) ?_)))))
  · show (if lg_cmp (lN v) 1 = 0 then some (1 : Int64) else some (lN v * lN v)) = _
    split <;> rfl
  refine bJ (I := fun S => FI k n (svG G) L S) ?_ (fun S hI => ?_)
  · by_cases k12 : k = 12
    · exact iE (show nI k = 12 by rw [k12]; rfl) ⟨_, rfl, hI⟩
    · obtain ⟨hl, he, -, -, -, a', x', hh'⟩ := id hI
      obtain ⟨T, t1, t2⟩ := act_add rfl hl hh' (by omega)
      have hla := LOk_add hl (by omega) 2
      have e5 : fL_grip T (nI k) 5 = some ((1 : Int32).toInt64, T) := by
        have := ag t2.1 hla (g := k) (by omega) (w := 5) (by decide)
        have this : fL_grip T (nI k) 5 = some ((lPl (addL (gLift S) k 2) k).toInt64, T) := this
        rw [this, show lPl (addL (gLift S) k 2) k = 1 from upd_at]
      have e4 : fL_grip T (nI k) 4 = some ((-9 : Int32).toInt64, T) := by
        have := ag t2.1 hla (g := k) (by omega) (w := 4) (by decide)
        have this : fL_grip T (nI k) 4 = some ((lSl (addL (gLift S) k 2) k).toInt64, T) := this
        rw [this, show lSl (addL (gLift S) k 2) k = -9 from upd_at]
      obtain ⟨v', U, u1, u2, hU⟩ := hI.undo t2 hh'.2.1 SEq.rf
      exact iF (show ¬ nI k = 12 from fun z => k12 ((nI_eq (b := 12) (by omega) (by decide)).mp z)) (bE t1 (iE (lq (nI_l (by omega)).symm) (bE e5 (iE (lq rfl) (bE e4 (iE (lq m9L) (bE u1 (iF (lt0 u2) ⟨_, rfl, hU⟩))))))))
  obtain ⟨hl, he, -, -, -, a', x', hh'⟩ := id hI
  obtain ⟨vr, T, t1, t2⟩ := act_rnd rfl hh' ((nI y).toInt64)
  obtain ⟨v', U, u1, u2, hU⟩ := hI.undo t2 hh'.2.1 SEq.rf
  have eT : fX4_random T = some ((nI y).toInt64) := by
    show some (lRnd (gLift T)) = _
    rw [t2.1]; rfl
  refine bE t1 (iE (lq Int64.mul_zero) (bE eT (iE (lq rfl) (bE u1 (iF (lt0 u2) (bE hU.nw (iE (lq rfl) ?_)))))))
  obtain ⟨hl, he, f3, f4, f5, a', x', hh'⟩ := id hU
  have sv : ¬ gSvd U 1 = 0 := by
    rw [f5]; show ¬ upd (gSvd G) 1 (vp_nar .boolean 1) 1 = 0; rw [upd_at]; decide
  have sg : gSav U 1 = lCopy (gSav G 1) L := by rw [f4]; show va_up (gSav G) 1 (lCopy (gSav G 1) (gLift G)) 1 = _; rw [va_up_at, hL]
  refine bE (rs_1 sv) (iE (lq (by rw [sg]; rfl)) ?_)
  have hc : CL L (lCopy (gLift U) (gSav U 1)) := by rw [sg]; exact (CL.copy _).tr (CL.copy _)
  obtain ⟨d1, d2⟩ := hc k n h
  refine bE (a := (nwV L k n, (lCopy (gLift U) (gSav U 1), gTrial U, gTxt U, gSum U, gHis U, gSav U, gSvd U, 0, gNxt U))) (by rw [← d2.nw]; exact nw_run rfl d1) (iE (lq rfl) (bE (undo_no rfl) (iE (lq rfl) ⟨_, rfl, ?_⟩)))
  refine ⟨d1, by rw [hL]; exact d2, f3, ?_, ?_, ?_, ?_, rfl, x', hh'.2.1, hh'.2.2.2⟩
  · show gSvd U 0 = _; rw [f5]; show upd (gSvd G) 1 (vp_nar .boolean 1) 0 = gSvd G 0; exact upd_ne (by decide)
  · show gSav U 0 = _; rw [f4]; show va_up (gSav G) 1 (lCopy (gSav G 1) (gLift G)) 0 = gSav G 0; exact va_up_nx _ _ (by decide)
  · show gSvd U 1 = _; rw [f5]; show upd (gSvd G) 1 (vp_nar .boolean 1) 1 = 1; rw [upd_at]; decide
  · show CL (gLift G) (gSav U 1); rw [sg, hL]; exact CL.copy _

/-! PURE LEVEL of the property: a grip, checked -/
theorem inY {a b c : Int64} (h1 : b.toInt ≤ a.toInt) (h2 : a.toInt ≤ c.toInt) : fL_in a b c = some 1 := by
  unfold fL_in
  rw [if_neg (by rw [lcl]; omega), if_neg (by rw [lcg]; omega)]
theorem t1T : (1 : Int64).toInt = 1 := by decide +kernel
theorem t3T : (3 : Int64).toInt = 3 := by decide +kernel
theorem t9T : (9 : Int64).toInt = 9 := by decide +kernel
theorem ne9 {a : Nat} (h : a < 2 ^ 31) : ¬ lg_cmp (lN a) (-9) = 0 := by
  rw [lc0]; intro z; have := congrArg Int64.toInt z; rw [lN_toInt h, l9T] at this; omega
theorem cN_succ (L : LSt) (i w : Nat) : cN L (i + 1) w = cN L i w + (if lPl L i = nI w then 1 else 0) := by
  show sCt _ (i + 1) = _
  unfold cN
  rw [sCt]
  congr 1
  by_cases q : lPl L i = nI w
  · rw [if_pos q, if_pos (decide_eq_true q)]
  · rw [if_neg q, if_neg (fun z => q (of_decide_eq_true z))]
theorem where_upd {L : LSt} {F : RI} {i p : Nat} (hF : ∀ w, w < 4 → F w = nI (cN L i w)) (hp : lPl L i = nI p) (p4 : p < 4) : ∀ w, w < 4 → upd F p (F p + 1) w = nI (cN L (i + 1) w) := fun w hw => by
  rw [cN_succ]
  by_cases e : w = p
  · subst e
    rw [upd_at, hF w hw, if_pos hp, nI_1]
  · rw [upd_ne e, hF w hw, if_neg (fun z => e ((nI_eq (by omega) (by omega)).mp (z.symm.trans hp))), Nat.add_zero]
set_option maxHeartbeats 4000000 in
theorem b_head (kk : (GSt × RI) → Int32 → Int32 → Int64 → Int64 → Int32 → Option GSt) (f : Nat) {k n i B : Nat} {L : LSt} {S : GSt} (F : RI) (hL : gLift S = L) (h : LOk k n L) (hx : Ext B L) (hB : B ≤ 90000) (hi : i < k) {x1 : Int32} (hx1 : x1 = nI n) (hF : ∀ w, w < 4 → F w = nI (cN L i w)) : ∃ F', (∀ w, w < 4 → F' w = nI (cN L (i + 1) w)) ∧ fL_built_L33 kk (f + 1) (S, F) x1 (nI k) (lN (fb_sm (gs L n) i)) ((sGap L n i).toInt64) (nI (pos L i)) (nI i) = fB_tail kk f x1 (nI k) (nI (pos L i)) (nI i) (((lPl L i).toInt64).toInt32) ((nmb L i 6).toInt64) ((S, F'), lN (fb_sm (gs L n) (i + 1)), (sGap L n (i + 1)).toInt64) := by
  subst hx1
  have hk := h.k12
  have hn := h.n20
  have hn4 := h.n4
  obtain ⟨w, c, pp, a1, a2, a3, a4, a5, a6, a7, a8⟩ := hx.2 i (by omega) (h.nabs hi)
  have e0 : fL_grip S (nI i) 0 = some ((lWe L i).toInt64, S) := ag hL h hi (w := 0) (by decide)
  have e1 : fL_grip S (nI i) 1 = some ((lCy L i).toInt64, S) := ag hL h hi (w := 1) (by decide)
  have e2 : fL_grip S (nI i) 2 = some ((lWr L i).toInt64, S) := ag hL h hi (w := 2) (by decide)
  have e3 : fL_grip S (nI i) 3 = some ((lPu L i).toInt64, S) := ag hL h hi (w := 3) (by decide)
  have e4 : fL_grip S (nI i) 4 = some ((lSl L i).toInt64, S) := ag hL h hi (w := 4) (by decide)
  have e5 : fL_grip S (nI i) 5 = some ((lPl L i).toInt64, S) := ag hL h hi (w := 5) (by decide)
  have e6 : fL_grip S (nI i) 6 = some ((nmb L i 6).toInt64, S) := ag hL h hi (w := 6) (by decide)
  have e7 : fL_grip S (nI i) 7 = some ((nmb L i 7).toInt64, S) := ag hL h hi (w := 7) (by decide)
  rw [a4, nI_l (by omega)] at e0
  rw [a5, nI_l (by omega)] at e1
  have hcw : c * (1 + w) ≤ 100000 * 4 := Nat.mul_le_mul (by omega) (by omega)
  rw [a6, nI_l (by omega)] at e2
  rw [a7, nI_l (by omega)] at e3
  have n5 : n - 1 < n := by omega
  -- what holds of its place
  have hpl : ∃ p, p < 4 ∧ lPl L i = nI p := by
    rcases h.four hi with z | z | z | z
    · exact ⟨0, by decide, z⟩
    · exact ⟨1, by decide, z⟩
    · exact ⟨2, by decide, z⟩
    · exact ⟨3, by decide, z⟩
  obtain ⟨p, p4, hp⟩ := hpl
  have e48 : ((lPl L i).toInt64).toInt32 = nI p := by rw [hp, nI_l (by omega), lN_i]
  have e48' : (((lPl L i).toInt64).toInt32).toInt64 = lN p := by rw [e48, nI_l (by omega)]
  have epu : (if lg_cmp (lN pp) 0 = 0 then some (1 : Int32) else some 0) = (if lg_cmp ((lSl L i).toInt64) (-9) = 0 then some 1 else some 0) := by
    rcases a8 with ⟨z1, z2⟩ | ⟨z1, v, z2, z3⟩
    · rw [if_pos (lq (by rw [z1]; rfl)), if_pos (lq (by rw [z2, m9L]))]
    · rw [if_neg (by rw [lc0]; intro z; have := congrArg Int64.toInt z; rw [lN_toInt (by omega), l0T] at this; omega), z3, nI_l (by omega), if_neg (ne9 (by omega))]
  obtain ⟨bp, hbp⟩ : ∃ b : Int32, (if lg_cmp (lN pp) 0 = 0 then some (1 : Int32) else some 0) = some b := by split <;> exact ⟨_, rfl⟩
  have hbs : (if lg_cmp ((lSl L i).toInt64) (-9) = 0 then some (1 : Int32) else some 0) = some bp := epu.symm.trans hbp
  refine ⟨upd F p (F p + 1), where_upd hF hp p4, ?_⟩
  have hFu : upd F ((((lPl L i).toInt64).toInt32).toNatClampNeg) (F ((((lPl L i).toInt64).toInt32).toNatClampNeg) + 1) = upd F p (F p + 1) := by rw [e48, nI_clamp (by omega)]
  have hgd : ∀ {α : Type} (z : Option α), gd (((lPl L i).toInt64).toInt32) 4 z = z := fun z => by rw [e48]; exact gd_nI p4 (by decide)
  rw [fL_built_L33]
  refine iN (nI_ge hi (by omega)) (bS e5 (bS e6 (bS (a := 1) (inY (by show (0 : Int64).toInt ≤ ((((lPl L i).toInt64).toInt32).toInt64).toInt; rw [e48', l0T, lN_toInt (by omega)]; omega) (by show ((((lPl L i).toInt64).toInt32).toInt64).toInt ≤ (3 : Int64).toInt; rw [e48', t3T, lN_toInt (by omega)]; omega)) (iN c10 (bS e0 (bS (a := 1) (inY (by show (0 : Int64).toInt ≤ (lN w).toInt; rw [l0T, lN_toInt (by omega)]; omega) (by show (lN w).toInt ≤ (3 : Int64).toInt; rw [t3T, lN_toInt (by omega)]; omega)) (iN c10 ?_)))))))
  refine bS e1 (iN (by rw [lcl]; show ¬ (lN c).toInt < (0 : Int64).toInt; rw [l0T, lN_toInt (by omega)]; omega) (bS e2 (bS e1 (bS e0 (iS (lq (by show lN (c * (1 + w)) = lN c * (1 + lN w); rw [show (1 : Int64) + lN w = lN (1 + w) from lN_add 1 w, lN_mul])) (bS e3 (bS hbp (bS e4 (bS hbs (iS rfl ?_))))))))))
  by_cases p0 : p = 0
  · subst p0
    have hp0 : lPl L i = 0 := hp
    have c0 : ((lPl L i).toInt64).toInt32 = 0 := e48
    obtain ⟨o1, o2, o3⟩ := h.on (by omega) hp0
    obtain ⟨s, hs1, hs2⟩ := h.stn
    obtain ⟨m1, m2, m3⟩ := gMin_le L n (spN L i) 12
    have e6v : (nmb L i 6).toInt64 = lN (spN L i) := by
      show ((if lPl L i = 0 then lSp L i else -9)).toInt64 = _
      rw [if_pos hp0, o3, nI_l (by omega)]
    have mpos : 1 ≤ gMin L n (spN L i) 12 := by
      rcases m3 with q | ⟨j, j1, j2, j3⟩
      · omega
      · have j3 : gMin L n (spN L i) 12 = wy n (spN L i) (spN L j) := j3
        have := (wy_rng o2 (h.on j1 j2).2.1).1
        omega
    have hit : ∃ j, j < k ∧ lPl L j = 0 ∧ lSp L j = nI ((spN L i + gMin L n (spN L i) 12) % n) := by
      rcases m3 with q | ⟨j, j1, j2, j3⟩
      · exact ⟨i, hi, hp0, by rw [q, Nat.add_mod_right, Nat.mod_eq_of_lt o2]; exact o3⟩
      · have j3 : gMin L n (spN L i) 12 = wy n (spN L i) (spN L j) := j3
        have hj := h.on j1 j2
        exact ⟨j, hj.1, j2, by rw [j3, (wy_rng o2 hj.2.1).2.2]; exact hj.2.2⟩
    obtain ⟨j, j1, j2, j3⟩ := hit
    have hmod : (spN L i + gMin L n (spN L i) 12) % n < n := Nat.mod_lt _ (by omega)
    obtain ⟨q, q1, q2⟩ := adu hL h hi hp0 o2 o3 hs2 hs1 a5 (by omega)
    have hw := wy_rng hs1 o2
    have hq : q * n ≤ 99 * 20 := Nat.mul_le_mul q1 hn
    have egp := agp hL h hi hp0 o2 o3
    have esl : fL_slot S (((nmb L i 6).toInt64).toInt32) = some (lN i, S) := by rw [e6v, lN_i]; exact as_hit hL h o2 hi hp0 o3
    have esl2 : fL_slot S (((((nmb L i 6).toInt64 + lN (gMin L n (spN L i) 12))).toInt32) - ((((nmb L i 6).toInt64 + lN (gMin L n (spN L i) 12))).toInt32) / nI n * nI n) = some (lN j, S) := by
      rw [e6v, lN_add, lN_i, pk_rem (by omega) (by omega) (by omega)]
      exact as_hit hL h hmod j1 j2 j3
    have nz1 : ∀ {α : Type} (z : Option α), nz (nI n) z = z := fun z => by unfold nz; rw [if_neg (nI_ne0 (by omega) (by omega))]
    have nz2 : ∀ {α : Type} (z : Option α), nzl ((nI n).toInt64) z = z := fun z => by
      unfold nzl; rw [if_neg]; rw [nI_l (by omega)]; intro y; have := congrArg Int64.toInt y; rw [lN_toInt (by omega), l0T] at this; omega
    have e6s : fL_about S 6 = some (lN s, S) := by rw [an_6 hL, hs2, nI_l (by omega)]
    refine bS (a := (S, F)) (iS c0 (bS (a := 1) (inY (by show (0 : Int64).toInt ≤ ((nmb L i 6).toInt64).toInt; rw [e6v, l0T, lN_toInt (by omega)]; omega) (by show ((nmb L i 6).toInt64).toInt ≤ ((nI n - 1).toInt64).toInt; rw [e6v, show nI n - 1 = nI (n - 1) by rw [← nI_pred (n - 1), show n - 1 + 1 = n by omega], nIT (by omega), lN_toInt (by omega)]; omega)) (iN c10 (bS esl (iS (lq (nI_l (by omega)).symm) rfl))))) ?_
    refine bS (a := (S, F)) (iN (show ¬ ((lPl L i).toInt64).toInt32 = 2 by rw [c0]; decide) (bS e7 (iS (lq (by show (if lPl L i = 2 then lSt L i else -9).toInt64 = -9; rw [if_neg (by rw [hp0]; decide), m9L])) rfl))) ?_
    refine (hgd _).trans ?_
    refine bS egp (bS (a := 0) (iN (ne9 (by omega)) rfl) (bS (a := 0) (iS c0 rfl) (iS rfl (bS q2 (bS (a := 0) (iN (ne9 (by omega)) rfl) (bS (a := 0) (iS c0 rfl) (iS rfl ?_)))))))
    refine bS (a := ((S, upd F 0 (F 0 + 1)), lN (fb_sm (gs L n) (i + 1)), (sGap L n (i + 1)).toInt64)) ?_ rfl
    refine iS c0 (bS (a := 1) (inY (by show (1 : Int64).toInt ≤ (lN (gMin L n (spN L i) 12)).toInt; rw [t1T, lN_toInt (by omega)]; omega) (by show (lN (gMin L n (spN L i) 12)).toInt ≤ ((nI n).toInt64).toInt; rw [nIT (by omega), lN_toInt (by omega)]; omega)) (iN c10 ((nz1 _).trans (bS esl2 (iN (ne9 (by omega)) (bS q2 (iN (by rw [lcl]; show ¬ (lN (wy n s (spN L i) + q * n)).toInt < (1 : Int64).toInt; rw [t1T, lN_toInt (by omega)]; omega) (bS q2 (bS e6s ((nz2 _).trans (iS (lq ?_) ?_)))))))))))
    · show (lN (wy n s (spN L i) + q * n) + lN s) - (lN (wy n s (spN L i) + q * n) + lN s) / (nI n).toInt64 * (nI n).toInt64 = (nmb L i 6).toInt64
      rw [e6v, lN_add, nI_l (by omega), pk_lRem (by omega) (by omega) (by omega)]
      congr 1
      rw [show wy n s (spN L i) + q * n + s = (s + wy n s (spN L i)) + n * q by rw [Nat.mul_comm n q]; omega, Nat.add_mul_mod_self_left]
      exact hw.2.2
    · have hgs : gs L n i = gMin L n (spN L i) 12 := if_pos hp0
      have e9 : ∀ {α : Type} (z : Option α), z.bind (fun a => some a) = z := fun z => by cases z <;> rfl
      have hleast : (if lg_cmp ((sGap L n i).toInt64) (-9) = 0 then some (lN (gMin L n (spN L i) 12)) else (((if 0 ≤ lg_cmp (lN (gMin L n (spN L i) 12)) ((sGap L n i).toInt64) then some ((sGap L n i).toInt64) else some (lN (gMin L n (spN L i) 12))) : Option Int64)).bind (fun a => some a)) = some ((sGap L n (i + 1)).toInt64) := by
        rw [e9, sGap, if_pos hp0]
        show _ = some (Int32.toInt64 (if sGap L n i = -9 then nI (gMin L n (spN L i) 12) else if sGap L n i ≤ nI (gMin L n (spN L i) 12) then sGap L n i else nI (gMin L n (spN L i) 12)))
        by_cases z : sGap L n i = -9
        · rw [if_pos (lq (by rw [z, m9L])), if_pos z, nI_l (by omega)]
        · rw [if_neg (by rw [lc0, ← m9L]; intro y; exact z ((fa_wide_eq _ _).mp y)), if_neg z]
          by_cases y : sGap L n i ≤ nI (gMin L n (spN L i) 12)
          · rw [if_pos y, if_pos (by rw [lcge, ← nI_l (by omega), ← fa_le64, fa_wide_le]; exact y)]
          · rw [if_neg y, if_neg (by rw [lcge, ← nI_l (by omega), ← fa_le64, fa_wide_le]; exact y), nI_l (by omega)]
      refine bS hleast ?_
      rw [fb_sm_succ, hgs, ← lN_add]
      exact congrArg (fun z => some ((S, z), lN (fb_sm (gs L n) i) + lN (gMin L n (spN L i) 12), (sGap L n (i + 1)).toInt64)) hFu
  · have hp0 : ¬ lPl L i = 0 := fun z => p0 ((nI_eq (a := p) (b := 0) (by omega) (by decide)).mp (hp.symm.trans z))
    have c0 : ¬ ((lPl L i).toInt64).toInt32 = 0 := by rw [e48]; exact nI_ne0 (by omega) (by omega)
    have e6v : (nmb L i 6).toInt64 = -9 := by
      show ((if lPl L i = 0 then lSp L i else -9)).toInt64 = _
      rw [if_neg hp0, m9L]
    refine bS (a := (S, F)) (iN c0 (iS (lq e6v) rfl)) ?_
    have hst : (if ((lPl L i).toInt64).toInt32 = 2 then (fL_grip S (nI i) 7).bind (fun r228 => (fL_in r228.1 1 9).bind (fun r235 => (if r235 = 0 then none else some (r228.2, F)))) else (fL_grip S (nI i) 7).bind (fun r249 => (if (lg_cmp r249.1 (-9)) = 0 then some (r249.2, F) else none))) = some (S, F) := by
      by_cases p2 : p = 2
      · have hp2 : lPl L i = 2 := by rw [hp, p2]; rfl
        obtain ⟨b, b1, b9, b2⟩ := h.st hi hp2
        have e7v : (nmb L i 7).toInt64 = lN b := by
          show ((if lPl L i = 2 then lSt L i else -9)).toInt64 = _
          rw [if_pos hp2, b2, nI_l (by omega)]
        exact iS (by rw [e48, p2]; rfl) (bS e7 (bS (a := 1) (inY (by show (1 : Int64).toInt ≤ ((nmb L i 7).toInt64).toInt; rw [e7v, t1T, lN_toInt (by omega)]; omega) (by show ((nmb L i 7).toInt64).toInt ≤ (9 : Int64).toInt; rw [e7v, t9T, lN_toInt (by omega)]; omega)) (iN c10 rfl)))
      · have hp2 : ¬ lPl L i = 2 := fun z => p2 ((nI_eq (a := p) (b := 2) (by omega) (by decide)).mp (hp.symm.trans z))
        exact iN (by rw [e48]; exact fun z => p2 ((nI_eq (a := p) (b := 2) (by omega) (by decide)).mp z)) (bS e7 (iS (lq (by show (if lPl L i = 2 then lSt L i else -9).toInt64 = -9; rw [if_neg hp2, m9L])) rfl))
    refine bS hst ((hgd _).trans ?_)
    refine bS (agp_no hL h hi hp0) (bS (a := 1) (iS (lq rfl) rfl) (bS (a := 1) (iN c0 rfl) (iS rfl (bS (adu_no hL h hi hp0) (bS (a := 1) (iS (lq rfl) rfl) (bS (a := 1) (iN c0 rfl) (iS rfl ?_)))))))
    refine bS (a := ((S, upd F p (F p + 1)), lN (fb_sm (gs L n) (i + 1)), (sGap L n (i + 1)).toInt64)) ?_ rfl
    refine iN c0 ?_
    have hgs : gs L n i = 0 := if_neg hp0
    rw [fb_sm_succ, hgs, Nat.add_zero, sGap, if_neg hp0]
    exact congrArg (fun z => some ((S, z), lN (fb_sm (gs L n) i), (sGap L n i).toInt64)) hFu

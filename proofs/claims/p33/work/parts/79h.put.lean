theorem m_canPut {k n j : Nat} {L : LSt} {M : MSt} (h : RRel k n L (mA M j)) (hN : mN M = nI n) {i : Nat} (hi : i < k) (x : Int32) : fX5_canPut j M (nI i) x = some (if lPl L i = 1 ∧ sCt (lBad L x) k = 0 then 1 else 0) := by
  have hk12 := h.k12
  unfold fX5_canPut
  rw [aI60, gd_nI (by omega) (by decide), nI_clamp (by omega), (h.cell i hi).pl]
  by_cases e : lPl L i = 1
  · rw [if_pos e, (rc_isFree h hN x).2, Option.bind_some]
    by_cases e2 : sCt (lBad L x) k = 0
    · rw [if_pos e2, if_neg c10, if_pos ⟨e, e2⟩]
    · rw [if_neg e2, if_pos rfl, if_neg (fun z => e2 z.2)]
  · rw [if_neg e, if_neg (fun z => e z.1)]
theorem m_putAt {k n j : Nat} {L : LSt} {M : MSt} (h : RRel k n L (mA M j)) {i : Nat} (hi : i < k) (x : Int32) : fX5_putAt j M (nI i) x = some (aw (aw (mA M) j (60 + i) 0) j (72 + i) x, M.2) := by
  have hk12 := h.k12
  unfold fX5_putAt
  simp (disch := omega) only [lt, aI60, aI72, gd_nI, nI_clamp]
theorem o_putOn {G : GSt} {M : MSt} (h : GRel G M) (g x : Int32) : OpR 3 2 (fX4_putOn G g x) (fX5_putOn M g x) := by
  have h' := h
  obtain ⟨n, h1, ⟨k, h2⟩, h3, h4, h5⟩ := h'
  have hk12 := h2.k12
  have hn20 := h2.n20
  unfold fX4_putOn fX5_putOn
  rw [c_has (j := 3) h2, m_isGrip (j := 3) h2, Option.bind_some, Option.bind_some]
  by_cases hc : 0 ≤ g ∧ g < nI k
  · obtain ⟨i, hi, rfl⟩ := nI_of (x := g) (fun z => (fa_of_lt z).2.1 hc.1)
    have hik : i < k := (nI_ltI hi (by omega)).mp hc.2
    rw [if_pos hc, if_neg c10, if_neg c10, c_hasSlot h2.hn, m_isSlot h1 (by omega), Option.bind_some, Option.bind_some]
    by_cases hs : 0 ≤ x ∧ x < nI n
    · obtain ⟨a, ha, rfl⟩ := nI_of (x := x) (fun z => (fa_of_lt z).2.1 hs.1)
      have han : a < n := (nI_ltI ha (by omega)).mp hs.2
      rw [if_pos hs, if_neg c10, if_neg c10, m_canPut h2 h1 hik, Option.bind_some]
      unfold fX0_isIn
      rw [gd_nI (by omega) (by decide), nI_clamp (by omega)]
      by_cases hp : lPl (gLift G) i = 1
      · rw [if_pos hp, Option.bind_some, if_neg c10, (rc_isFree h2 h1 (nI a)).1, Option.bind_some]
        by_cases hb : sCt (lBad (gLift G) (nI a)) k = 0
        · rw [if_pos hb, if_neg c10, if_pos (show lPl (gLift G) i = 1 ∧ sCt (lBad (gLift G) (nI a)) k = 0 from ⟨hp, hb⟩), if_neg c10, m_refused0, Option.bind_some, if_pos rfl]
          obtain ⟨his, rem, nxt, acts, d, q1, q2, q3⟩ := o_note (M := (mA M, 0, mSize M, mSpot M, mRN M, mN M, mActs M)) h2 h4
          rw [q1, q2, Option.bind_some, Option.bind_some]
          have hr0 : RRel k n (gLift G) (mA (va_up (mA M) 5 d, (0 : Int32), mSize M, mSpot M, mRN M, mN M, acts) 3) := by
            rw [show mA (va_up (mA M) 5 d, (0 : Int32), mSize M, mSpot M, mRN M, mN M, acts) 3 = mA M 3 from va_up_nx (mA M) (j := 5) (c := 3) d (by decide)]; exact h2
          have e9 := m_putAt hr0 hik (nI a)
          have hr : RRel k n (lWe (gLift G), lCy (gLift G), lWr (gLift G), lPu (gLift G), lSl (gLift G), upd (lPl (gLift G)) i 0, upd (lSp (gLift G)) i (nI a), lSt (gLift G), lLi (gLift G), lN_ (gLift G), lStn (gLift G), lClk (gLift G), lRnd (gLift G)) (mA (aw (aw (va_up (mA M) 5 d) 3 (60 + i) 0) 3 (72 + i) (nI a), (0 : Int32), mSize M, mSpot M, mRN M, mN M, acts) 3) := by
            simp (disch := omega) only [mA, aw_at, va_up_nx]
            exact RRel_hang h2 hik han hb
          obtain ⟨d1, d2⟩ := rc_count hr (w := 0) (by decide)
          refine ⟨0, nI (sCt (fun g => decide (lPl (lWe (gLift G), lCy (gLift G), lWr (gLift G), lPu (gLift G), lSl (gLift G), upd (lPl (gLift G)) i 0, upd (lSp (gLift G)) i (nI a), lSt (gLift G), lLi (gLift G), lN_ (gLift G), lStn (gLift G), lClk (gLift G), lRnd (gLift G)) g = 0)) k), ((lWe (gLift G), lCy (gLift G), lWr (gLift G), lPu (gLift G), lSl (gLift G), upd (lPl (gLift G)) i 0, upd (lSp (gLift G)) i (nI a), lSt (gLift G), lLi (gLift G), lN_ (gLift G), lStn (gLift G), lClk (gLift G), lRnd (gLift G)), gTrial G, gTxt G, gSum G, his, gSav G, gSvd G, rem, nxt), _, (aw (aw (va_up (mA M) 5 d) 3 (60 + i) 0) 3 (72 + i) (nI a), (0 : Int32), mSize M, mSpot M, mRN M, mN M, acts), ?_, ?_, Or.inl rfl, rfl, fun _ => rfl, GRel_put (k := k) h1 hr h3 q3 h5 ?_ ?_ ?_ ?_⟩
          · show (fX0_hang (gLift G) (nI i) (nI a)).bind _ = _
            unfold fX0_hang
            rw [gd_nI (by omega) (by decide), nI_clamp (by omega), Option.bind_some, d1]
            rfl
          · refine (congrArg (fun z => Option.bind z _) e9).trans ?_
            rw [Option.bind_some]
            refine (congrArg (fun z => Option.bind z _) d2).trans ?_
            rfl
          · simp (disch := omega) only [mA, aw_ne, va_up_nx]
          · simp (disch := omega) only [mA, aw_ne, va_up_at]
          · simp (disch := omega) only [mA, aw_ne, va_up_nx]
          · simp (disch := omega) only [mA, aw_ne, va_up_nx]
        · rw [if_neg hb, if_pos rfl, if_neg (show ¬ (lPl (gLift G) i = 1 ∧ sCt (lBad (gLift G) (nI a)) k = 0) from fun z => hb z.2), if_pos rfl, m_refused2, Option.bind_some, if_neg c10]
          exact OpR_no h (k := 2) (c := 2) (Or.inr ⟨rfl, by decide⟩) (by decide) rfl rfl rfl
      · rw [if_neg hp, Option.bind_some, if_pos rfl, if_neg (show ¬ (lPl (gLift G) i = 1 ∧ sCt (lBad (gLift G) (nI a)) k = 0) from fun z => hp z.1), if_pos rfl, m_refused2, Option.bind_some, if_neg c10]
        exact OpR_no h (k := 2) (c := 2) (Or.inr ⟨rfl, by decide⟩) (by decide) rfl rfl rfl
    · rw [if_neg hs, if_pos rfl, if_pos rfl, m_refused1, Option.bind_some, if_neg c10]
      exact OpR_no h (k := 3) (c := 1) (Or.inl rfl) (by decide) rfl rfl rfl
  · rw [if_neg hc, if_pos rfl, if_pos rfl, m_refused1, Option.bind_some, if_neg c10]
    exact OpR_no h (k := 3) (c := 1) (Or.inl rfl) (by decide) rfl rfl rfl
/-- the limits -/
def lMost (m : Nat) : Nat := if m = 0 then 99 else if m = 1 then 50 else if m = 3 then 4 else 9
theorem c_isLimit (x v : Int32) : fX4_isLimit x v = some (if (0 ≤ x ∧ x < 5) ∧ 1 ≤ v ∧ v ≤ nI (lMost x.toNatClampNeg) then 1 else 0) := by
  unfold fX4_isLimit
  by_cases h0 : x < 0
  · rw [if_pos h0, if_neg (fun z => (fa_of_lt h0).2.1 z.1.1)]
  · rw [if_neg h0]
    by_cases h1 : 5 ≤ x
    · rw [if_pos h1, if_neg (fun z => (fa_of_lt z.1.2).2.1 h1)]
    · rw [if_neg h1]
      obtain ⟨m, hm, rfl⟩ := nI_of h0
      have hm5 : m < 5 := (nI_ltI (b := 5) hm (by decide)).mp (fa_of_nle h1)
      by_cases h2 : v < 1
      · rw [if_pos h2, if_neg (fun z => (fa_of_lt h2).2.1 z.2.1)]
      · rw [if_neg h2, gd_nI hm5 (by decide), nI_clamp hm]
        have e : gGL m = nI (lMost m) := by
          have : m = 0 ∨ m = 1 ∨ m = 2 ∨ m = 3 ∨ m = 4 := by omega
          rcases this with rfl | rfl | rfl | rfl | rfl <;> rfl
        rw [e]
        by_cases h3 : nI (lMost m) < v
        · rw [if_pos h3, if_neg (fun z => (fa_of_lt h3).2.1 z.2.2)]
        · rw [if_neg h3, if_pos ⟨⟨fa_of_nlt h0, fa_of_nle h1⟩, fa_of_nlt h2, fa_of_nlt h3⟩]
theorem lt5 (x : Int32) : (0 ≤ x ∧ x ≤ 4) ↔ (0 ≤ x ∧ x < 5) := by
  have e4 : (4 : Int32).toInt = 4 := by decide
  have e5 : (5 : Int32).toInt = 5 := by decide
  rw [fa_le x 4, fa_lt x 5, e4, e5]
  constructor <;> intro z <;> exact ⟨z.1, by omega⟩
theorem m_isLimit (x v : Int32) : fX5_isLimit x v = some (if (0 ≤ x ∧ x < 5) ∧ 1 ≤ v ∧ v ≤ nI (lMost x.toNatClampNeg) then 1 else 0) := by
  have e : ∀ m : Nat, m < 100 → (fX5_in (x.toInt64) 0 4).bind (fun r37 => (if r37 = 0 then some 0 else (fX5_in (v.toInt64) 1 ((nI m : Int32).toInt64)).bind (fun r48 => (if r48 = 0 then some 0 else some 1)))) = some (if (0 ≤ x ∧ x < 5) ∧ 1 ≤ v ∧ v ≤ nI m then (1 : Int32) else 0) := fun m hm => by
    rw [m_inI x 0 4 (by decide +kernel) (by decide +kernel), Option.bind_some, m_inI v 1 (nI m) (by decide +kernel) rfl, Option.bind_some]
    simp only [lt5]
    by_cases h : 0 ≤ x ∧ x < 5
    · rw [if_pos h, if_neg c10]
      by_cases h2 : 1 ≤ v ∧ v ≤ nI m
      · rw [if_pos h2, if_neg c10, if_pos (show (0 ≤ x ∧ x < 5) ∧ 1 ≤ v ∧ v ≤ nI m from ⟨h, h2⟩)]
      · rw [if_neg h2, if_pos rfl, if_neg (show ¬ ((0 ≤ x ∧ x < 5) ∧ 1 ≤ v ∧ v ≤ nI m) from fun z => h2 z.2)]
    · rw [if_neg h, if_pos rfl, if_neg (show ¬ ((0 ≤ x ∧ x < 5) ∧ 1 ≤ v ∧ v ≤ nI m) from fun z => h z.1)]
  unfold fX5_isLimit
  by_cases h0 : x = 0
  · rw [if_pos h0]
    refine (e 99 (by decide)).trans ?_
    rw [h0]; rfl
  · rw [if_neg h0]
    by_cases h1 : x = 1
    · rw [if_pos h1]
      refine (e 50 (by decide)).trans ?_
      rw [h1]; rfl
    · rw [if_neg h1]
      by_cases h3 : x = 3
      · rw [if_pos h3]
        refine (e 4 (by decide)).trans ?_
        rw [h3]; rfl
      · rw [if_neg h3]
        refine (e 9 (by decide)).trans ?_
        by_cases hx : 0 ≤ x ∧ x < 5
        · obtain ⟨m, hm, rfl⟩ := nI_of (x := x) (fun z => (fa_of_lt z).2.1 hx.1)
          have hm5 : m < 5 := (nI_ltI (b := 5) hm (by decide)).mp hx.2
          have : lMost m = 9 := by
            have : m = 0 ∨ m = 1 ∨ m = 2 ∨ m = 3 ∨ m = 4 := by omega
            rcases this with rfl | rfl | rfl | rfl | rfl
            · exact absurd rfl h0
            · exact absurd rfl h1
            · rfl
            · exact absurd rfl h3
            · rfl
          rw [nI_clamp hm, this]
        · rw [if_neg (show ¬ ((0 ≤ x ∧ x < 5) ∧ 1 ≤ v ∧ v ≤ nI 9) from fun z => hx z.1), if_neg (show ¬ ((0 ≤ x ∧ x < 5) ∧ 1 ≤ v ∧ v ≤ nI (lMost x.toNatClampNeg)) from fun z => hx z.1)]
theorem RRel_lim {k n m : Nat} {L : LSt} {r : RI} (h : RRel k n L r) (hm : m < 5) {v : Int32} (hv : 1 ≤ v ∧ v ≤ nI (lMost m)) : RRel k n (lWe L, lCy L, lWr L, lPu L, lSl L, lPl L, lSp L, lSt L, upd (lLi L) m v, lN_ L, lStn L, lClk L, lRnd L) (upd r (99 + m) v) := by
  have hk12 := h.k12
  have hmm : lMost m ≤ 99 := by unfold lMost; (repeat' split) <;> omega
  have e1 : (1 : Int32).toInt = 1 := by decide
  have e0 : (0 : Int32).toInt = 0 := by decide
  have hv1 := hv.1
  obtain ⟨c, hc, rfl⟩ := nI_of (x := v) (fun z => by rw [fa_lt] at z; rw [fa_le] at hv1; omega)
  have c1 : 1 ≤ c := (nI_leI (a := 1) (by decide) hc).mp hv.1
  have c2 : c ≤ lMost m := (nI_leI hc (by omega)).mp hv.2
  refine ⟨⟨h.k12, h.n4, h.n20, h.hn, (upd_ne (by omega)).trans h.hk⟩, ?_, h.clk.trans (upd_ne (by omega)).symm, ⟨fun i hi => ?_, ?_⟩, ?_, fun g hg => ?_, h.abs, h.dst⟩
  · obtain ⟨s, s1, s2, s3⟩ := h.stn
    exact ⟨s, s1, s2, (upd_ne (by omega)).trans s3⟩
  · show upd r (99 + m) (nI c) (99 + i) = upd (lLi L) m (nI c) i
    by_cases e : i = m
    · subst e; rw [upd_at, upd_at]
    · rw [upd_ne (by omega), upd_ne e]; exact h.lim i hi
  · show LimOk (upd (lLi L) m (nI c))
    obtain ⟨l0, l1, l2, l3, l4⟩ := h.limOk
    have : m = 0 ∨ m = 1 ∨ m = 2 ∨ m = 3 ∨ m = 4 := by omega
    rcases this with rfl | rfl | rfl | rfl | rfl <;> unfold LimOk <;> simp (disch := decide) only [upd_at, upd_ne]
    · exact ⟨⟨c, c1, c2, rfl⟩, l1, l2, l3, l4⟩
    · exact ⟨l0, ⟨c, c1, c2, rfl⟩, l2, l3, l4⟩
    · exact ⟨l0, l1, ⟨c, c1, c2, rfl⟩, l3, l4⟩
    · exact ⟨l0, l1, l2, ⟨c, c1, c2, rfl⟩, l4⟩
    · exact ⟨l0, l1, l2, l3, ⟨c, c1, c2, rfl⟩⟩
  · refine h.rnd.trans ?_
    unfold rOf; rw [upd_ne (by omega), upd_ne (by omega)]
  · have c := h.cell g hg
    unfold CellOk
    rw [upd_ne (by omega), upd_ne (by omega), upd_ne (by omega), upd_ne (by omega), upd_ne (by omega), upd_ne (by omega), upd_ne (by omega), upd_ne (by omega)]
    exact c
theorem aI99' (i : Nat) : (99 : Int32) + nI i = nI (99 + i) := nI_add 99 i
theorem o_setLimit {G : GSt} {M : MSt} (h : GRel G M) (x v : Int32) : OpR 1 9 (fX4_setLimit G x v) (fX5_setLimit M x v) := by
  have h' := h
  obtain ⟨n, h1, ⟨k, h2⟩, h3, h4, h5⟩ := h'
  unfold fX4_setLimit fX5_setLimit
  rw [c_isLimit, m_isLimit, Option.bind_some, Option.bind_some]
  by_cases hc : (0 ≤ x ∧ x < 5) ∧ 1 ≤ v ∧ v ≤ nI (lMost x.toNatClampNeg)
  · rw [if_pos hc, if_neg c10, if_neg c10, m_refused0, Option.bind_some, if_pos rfl]
    obtain ⟨m, hm, rfl⟩ := nI_of (x := x) (fun z => (fa_of_lt z).2.1 hc.1.1)
    have hm5 : m < 5 := (nI_ltI (b := 5) hm (by decide)).mp hc.1.2
    rw [nI_clamp hm] at hc
    obtain ⟨his, rem, nxt, acts, d, q1, q2, q3⟩ := o_note (M := (mA M, 0, mSize M, mSpot M, mRN M, mN M, mActs M)) h2 h4
    rw [q1, q2, Option.bind_some, Option.bind_some, aI99, gd_nI (by omega) (by decide), gd_nI (by omega) (by decide), nI_clamp (by omega), nI_clamp (by omega)]
    refine ⟨0, lLi (gLift G) m, ((lWe (gLift G), lCy (gLift G), lWr (gLift G), lPu (gLift G), lSl (gLift G), lPl (gLift G), lSp (gLift G), lSt (gLift G), upd (lLi (gLift G)) m v, lN_ (gLift G), lStn (gLift G), lClk (gLift G), lRnd (gLift G)), gTrial G, gTxt G, gSum G, his, gSav G, gSvd G, rem, nxt), va_up (mA M) 5 d 3 (99 + m), (aw (va_up (mA M) 5 d) 3 (99 + m) v, (0 : Int32), mSize M, mSpot M, mRN M, mN M, acts), rfl, rfl, Or.inl rfl, rfl, fun _ => ?_, GRel_put (k := k) (A' := aw (va_up (mA M) 5 d) 3 (99 + m) v) h1 ?_ h3 q3 h5 ?_ ?_ ?_ ?_⟩
    · show lLi (gLift G) m = va_up (mA M) 5 d 3 (99 + m)
      rw [va_up_nx _ _ (by decide)]; exact (h2.lim m hm5).symm
    · simp (disch := omega) only [aw_at, va_up_nx]
      exact RRel_lim h2 hm5 hc.2
    · simp (disch := omega) only [mA, aw_ne, va_up_nx]
    · simp (disch := omega) only [mA, aw_ne, va_up_at]
    · simp (disch := omega) only [mA, aw_ne, va_up_nx]
    · simp (disch := omega) only [mA, aw_ne, va_up_nx]
  · rw [if_neg hc, if_pos rfl, if_pos rfl, m_refused1, Option.bind_some, if_neg c10]
    exact OpR_no h (k := 1) (c := 1) (Or.inl rfl) (by decide) rfl rfl rfl

theorem RRel_rnd {k n : Nat} {L : LSt} {r : RI} (h : RRel k n L r) (x : Int64) : RRel k n (lWe L, lCy L, lWr L, lPu L, lSl L, lPl L, lSp L, lSt L, lLi L, lN_ L, lStn L, lClk L, x) (upd (upd r 104 ((x >>> (((32 : Int32)).toInt64 &&& 63)).toInt32)) 105 (x.toInt32)) := by
  obtain ⟨s, s1, s2, s3⟩ := h.stn
  have q := RRel_sr h s1 x
  rw [← s2] at q
  refine RRel_cong q (fun i hi => ?_)
  by_cases e : i = 97
  · subst e; simp (disch := omega) only [upd_ne, upd_at]; rw [s3, s2]
  · by_cases e1 : i = 105
    · subst e1; rw [upd_at, upd_at]
    · by_cases e2 : i = 104
      · subst e2; simp (disch := omega) only [upd_ne, upd_at]
      · simp (disch := omega) only [upd_ne]
theorem o_setRandom {G : GSt} {M : MSt} (h : GRel G M) (x : Int64) : ∃ v G' M', fX4_setRandom G x = some (v, G') ∧ fX5_setRandom M x = some (v, M') ∧ GRel G' M' := by
  have h' := h
  obtain ⟨n, h1, ⟨k, h2⟩, h3, h4, h5⟩ := h'
  obtain ⟨his, rem, nxt, acts, d, q1, q2, q3⟩ := o_note (M := (mA M, 0, mSize M, mSpot M, mRN M, mN M, mActs M)) h2 h4
  unfold fX4_setRandom fX5_setRandom
  rw [q1, q2, Option.bind_some, Option.bind_some]
  have e1 : fX5_randomOf 3 (va_up (mA (mA M, 0, mSize M, mSpot M, mRN M, mN M, mActs M)) 5 d, mRef (mA M, 0, mSize M, mSpot M, mRN M, mN M, mActs M), mSize M, mSpot M, mRN M, mN M, acts) = some (lRnd (gLift G)) := by
    rw [h2.rnd]
    show some (rOf (va_up (mA M) 5 d 3)) = _
    rw [va_up_nx (mA M) (j := 5) (c := 3) d (by decide)]
  refine ⟨lRnd (gLift G), _, (aw (aw (va_up (mA M) 5 d) 3 104 ((x >>> (((32 : Int32)).toInt64 &&& 63)).toInt32)) 3 105 x.toInt32, 0, mSize M, mSpot M, mRN M, mN M, acts), rfl, ?_, ?_⟩
  · exact (congrArg (fun z => Option.bind z _) e1)
  · refine GRel_put (k := k) h1 ?_ h3 q3 h5 ?_ ?_ ?_ ?_
    · simp (disch := omega) only [aw_at, aw_ne, va_up_nx]
      exact RRel_rnd h2 x
    · simp (disch := omega) only [mA, aw_ne, va_up_nx]
    · simp (disch := omega) only [mA, aw_ne, va_up_at]
    · simp (disch := omega) only [mA, aw_ne, va_up_nx]
    · simp (disch := omega) only [mA, aw_ne, va_up_nx]

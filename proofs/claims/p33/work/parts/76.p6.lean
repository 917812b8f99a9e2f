/-! PURE LEVEL: repairs, the random state, the step whole -/
theorem bv_j (y : BitVec 64) : ((y.sshiftRight 32).signExtend 32).signExtend 64 <<< 32 ||| ((y.signExtend 32).signExtend 64 &&& 4294967295#64) = y := by
  have e3 : (4294967295#64) = BitVec.setWidth 64 (BitVec.allOnes 32) := by decide +kernel
  rw [e3]
  apply BitVec.eq_of_getLsbD_eq
  intro i hi
  rw [BitVec.getLsbD_or, BitVec.getLsbD_and, BitVec.getLsbD_shiftLeft, BitVec.getLsbD_setWidth, BitVec.getLsbD_allOnes, BitVec.getLsbD_signExtend, BitVec.getLsbD_signExtend, BitVec.getLsbD_signExtend, BitVec.getLsbD_signExtend, BitVec.getLsbD_sshiftRight]
  by_cases h : i < 32
  · simp [h, hi, show i < 64 from hi]
  · have h1 : ¬ i < 32 := h
    have h2 : i - 32 < 32 := by omega
    have h3 : i - 32 < 64 := by omega
    have h4 : 32 + (i - 32) = i := by omega
    simp [h1, hi, h2, h3, h4]
theorem rnd_join (x : Int64) : (((x >>> (((32 : Int32)).toInt64 &&& 63)).toInt32).toInt64 <<< (((32 : Int32)).toInt64 &&& 63)) ||| ((x.toInt32).toInt64 &&& 4294967295) = x := by
  have e : ((32 : Int32)).toInt64 &&& 63 = 32 := by decide +kernel
  rw [e]
  apply Int64.toBitVec_inj.mp
  rw [Int64.toBitVec_or, Int64.toBitVec_and, Int64.toBitVec_shiftLeft, Int32.toBitVec_toInt64, Int32.toBitVec_toInt64, Int64.toBitVec_toInt32, Int64.toBitVec_toInt32, Int64.toBitVec_shiftRight]
  have s1 : (32 : Int64).toBitVec.smod 64 = 32#64 := by decide +kernel
  have s2 : (4294967295 : Int64).toBitVec = 4294967295#64 := by decide +kernel
  rw [s1, s2, BitVec.shiftLeft_eq', BitVec.sshiftRight_eq', show (32#64).toNat = 32 from rfl]
  exact bv_j x.toBitVec
theorem RRel_sr {k n s : Nat} {L : LSt} {r : RI} (h : RRel k n L r) (hs : s < n) (x : Int64) : RRel k n (lWe L, lCy L, lWr L, lPu L, lSl L, lPl L, lSp L, lSt L, lLi L, lN_ L, nI s, lClk L, x) (upd (upd (upd r 97 (nI s)) 104 ((x >>> (((32 : Int32)).toInt64 &&& 63)).toInt32)) 105 (x.toInt32)) := by
  have hk12 := h.k12
  refine ⟨⟨h.k12, h.n4, h.n20, h.hn, ?_⟩, ⟨s, hs, rfl, ?_⟩, ?_, ⟨fun i hi => ?_, h.limOk⟩, ?_, fun g hg => ?_, h.abs, h.dst⟩
  · simp (disch := omega) only [upd_ne]; exact h.hk
  · simp (disch := omega) only [upd_ne, upd_at]
  · simp (disch := omega) only [upd_ne]; exact h.clk
  · simp (disch := omega) only [upd_ne]; exact h.lim i hi
  · unfold rOf
    simp (disch := omega) only [upd_ne, upd_at]
    exact (rnd_join x).symm
  · have c := h.cell g hg
    unfold CellOk
    simp (disch := omega) only [upd_ne]
    exact c
theorem n9_ne {g : Nat} (h : g < 2 ^ 31) : ¬ nI g = -9 := fun z => by have q := nI_pos h; rw [z] at q; exact q (by decide)
set_option maxHeartbeats 4000000 in
theorem st_repair {k n j : Nat} {L : LSt} {M : MSt} (h : RRel k n L (mA M j)) (hj : j ≠ 8) (hN : mN M = nI n) (p w : Int32) (hpw : p = w ∨ (w = -9 ∧ ∃ g0, g0 < 12 ∧ p = nI g0 ∧ lPl L g0 = 0)) :
    ∃ S T', fX0_repairAllBut L p = some S ∧ fX5_stepOn_L88 j KF M w 0 = some T' ∧ ∃ e L', fX0_fillStation S = some (e, L') ∧
      RRel k n (lWe L', lCy L', lWr L', lPu L', lSl L', lPl L', lSp L', lSt L', lLi L', lN_ L', lStn L', lClk L' + 1, lRnd L') (mA T' j) ∧ SameBut j M T' ∧ (e = 0 ∨ e = 8) ∧ EvR e (mA M 8) (mA T' 8) := by
  have hj' : 8 ≠ j := fun z => hj z.symm
  have hk12 := h.k12
  refine run_two (fun f s i => fX0_repairAllBut_L2 f s p (nI i)) (fun f t i => fX5_stepOn_L88 j f t w (nI i))
    (fun i s t => RRel k n s (mA t j) ∧ SameBut j M t ∧ mA t 8 = mA M 8 ∧ (p = w ∨ (w = -9 ∧ ∃ g0, g0 < 12 ∧ p = nI g0 ∧ lPl s g0 = 0)))
    (fun S T' => ∃ e L', fX0_fillStation S = some (e, L') ∧ RRel k n (lWe L', lCy L', lWr L', lPu L', lSl L', lPl L', lSp L', lSt L', lLi L', lN_ L', lStn L', lClk L' + 1, lRnd L') (mA T' j) ∧ SameBut j M T' ∧ (e = 0 ∨ e = 8) ∧ EvR e (mA M 8) (mA T' 8))
    k (fun i f g s t hi hI => ?_) (fun f g s t hf hg hI => ?_) k 0 KF KF L M rfl (Nat.zero_le k) (by show k + 100 ≤ 3000; omega) (by show k + 100 ≤ 3000; omega) ⟨h, SameBut.refl j M, rfl, hpw⟩
  · obtain ⟨h, hsb, h8, hpw⟩ := hI
    show ∃ s' t', _ ∧ fX0_repairAllBut_L2 (f + 1) s p (nI i) = fX0_repairAllBut_L2 f s' p (nI (i + 1)) ∧ fX5_stepOn_L88 j (g + 1) t w (nI i) = fX5_stepOn_L88 j g t' w (nI (i + 1))
    obtain ⟨c0, c1, c2, c3, c4, c5, c6⟩ := h.cell i hi
    rw [fX0_repairAllBut_L2, if_neg (l12 (by omega)), gd_nI (by omega) (by decide), nI_clamp (by omega), fX5_stepOn_L88, h.hk, if_neg (lt_k hi hk12), aI60, gd_nI (by omega) (by decide), nI_clamp (by omega), c5, nI_1]
    by_cases h2 : lPl s i = 2
    · rw [if_pos h2, if_pos h2]
      by_cases hx : nI i = p
      · have hw : nI i = w := by
          rcases hpw with q | ⟨q, g0, g1, g2, g3⟩
          · exact hx.trans q
          · have : i = g0 := (nI_eq (by omega) (by omega)).mp (hx.trans g2)
            rw [← this, h2] at g3; exact absurd g3 (by decide)
        rw [if_pos hx, if_pos hw]
        exact ⟨s, t, ⟨h, hsb, h8, hpw⟩, rfl, rfl⟩
      · have hw : ¬ nI i = w := by
          rcases hpw with q | ⟨q, _⟩
          · rw [← q]; exact hx
          · rw [q]; exact n9_ne (by omega)
        rw [if_neg hx, if_neg hw]
        obtain ⟨d1, a, a1, a2, a3⟩ := c6.st h2
        have e1 : lSt s i - 1 = nI (a - 1) := by rw [a3, ← nI_pred (a - 1)]; congr 2; omega
        simp (disch := omega) only [lt, aI12, aI24, aI84, gd_nI, nI_clamp, aw_at, aw_ne, upd_at, upd_ne, d1, e1]
        by_cases ha : a = 1
        · have z1 : nI (a - 1) = 0 := by rw [ha]; rfl
          simp only [z1, if_pos (Int32.le_refl (0 : Int32)), if_true]
          refine ⟨_, _, ?_, rfl, rfl⟩
          refine ⟨RRel_cell h hi ⟨rfl, rfl, rfl, rfl, rfl⟩ (fun q hq => ?_) (fun q q1 q2 => ?_) ?_ (fun z => ?_), ⟨fun c hc1 hc2 => ?_, hsb.2⟩, ?_, ?_⟩
          · refine ⟨?_, ?_, ?_, ?_, ?_, ?_, ?_, ?_⟩ <;> first | rfl | exact upd_ne hq
          · simp (disch := omega) only [mA, aw_at, aw_ne, upd_ne]
          · unfold CellOk
            simp (disch := omega) only [mA, lWe, lCy, lWr, lPu, lSl, lPl, lSp, lSt, lLi, aw_at, aw_ne, upd_at, upd_ne, c0, c1, c2, c3, c4, c5]
            exact ⟨trivial, trivial, trivial, trivial, trivial, trivial, Or.inr (Or.inl rfl)⟩
          · rw [show lPl (_ : LSt) i = 1 from upd_at] at z; exact absurd z (by decide)
          · simp (disch := omega) only [mA, aw_ne]; exact hsb.1 c hc1 hc2
          · simp (disch := omega) only [mA, aw_ne]; exact h8
          · rcases hpw with q | ⟨q, g0, g1, g2, g3⟩
            · exact Or.inl q
            · refine Or.inr ⟨q, g0, g1, g2, (upd_ne (fun z => ?_)).trans g3⟩
              rw [z, h2] at g3; exact absurd g3 (by decide)
        · have z1 : ¬ nI (a - 1) ≤ 0 := nI_nle (by omega) (by omega)
          have z2 : ¬ nI (a - 1) = 0 := nI_ne0 (by omega) (by omega)
          simp only [if_neg z1, if_neg z2]
          refine ⟨_, _, ?_, rfl, rfl⟩
          refine ⟨RRel_cell h hi ⟨rfl, rfl, rfl, rfl, rfl⟩ (fun q hq => ?_) (fun q q1 q2 => ?_) ?_ (fun z => ?_), ⟨fun c hc1 hc2 => ?_, hsb.2⟩, ?_, ?_⟩
          · refine ⟨?_, ?_, ?_, ?_, ?_, ?_, ?_, ?_⟩ <;> first | rfl | exact upd_ne hq
          · simp (disch := omega) only [mA, aw_at, aw_ne, upd_ne]
          · unfold CellOk
            simp (disch := omega) only [mA, lWe, lCy, lWr, lPu, lSl, lPl, lSp, lSt, lLi, aw_at, aw_ne, upd_at, upd_ne, c0, c1, c2, c3, c4, c5]
            exact ⟨trivial, trivial, trivial, trivial, trivial, trivial, Or.inr (Or.inr (Or.inl ⟨h2, rfl, a - 1, by omega, by omega, rfl⟩))⟩
          · exact absurd (h2.symm.trans z) (by decide)
          · simp (disch := omega) only [mA, aw_ne]; exact hsb.1 c hc1 hc2
          · simp (disch := omega) only [mA, aw_ne]; exact h8
          · exact hpw
    · rw [if_neg h2, if_neg h2]
      exact ⟨s, t, ⟨h, hsb, h8, hpw⟩, rfl, rfl⟩
  · obtain ⟨h, hsb, h8, hpw⟩ := hI
    obtain ⟨e, L', T', q1, q2, q3, q4, q5, q6⟩ := st_fill h hj (hsb.n.trans hN)
    obtain ⟨g, rfl⟩ : ∃ g', g = g' + 1 := ⟨g - 1, by omega⟩
    refine ⟨s, T', ?_, ?_, e, L', q1, q3, hsb.trans q4, q5, by rw [← h8]; exact q6⟩
    · refine run_up (fun f i => fX0_repairAllBut_L2 f s p (nI (k + i))) (12 - k) (fun i f hi => ?_) (fun f => ?_) (by omega)
      · show fX0_repairAllBut_L2 (f + 1) s p (nI (k + i)) = fX0_repairAllBut_L2 f s p (nI (k + i + 1))
        rw [fX0_repairAllBut_L2, if_neg (l12 (by omega)), gd_nI (by omega) (by decide), nI_clamp (by omega), nI_1, h.abs (k + i) (by omega) (by omega), if_neg (by decide)]
      · show fX0_repairAllBut_L2 (f + 1) s p (nI (k + (12 - k))) = _
        rw [show k + (12 - k) = 12 by omega, fX0_repairAllBut_L2, if_pos g12]
    · show fX5_stepOn_L88 j (g + 1) t w (nI k) = _
      rw [fX5_stepOn_L88, h.hk, if_pos (ge_k k)]
      exact q2

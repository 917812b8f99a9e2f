/-! PURE LEVEL: many steps -/
def advS (L : LSt) : LSt := match fX0_advance L with | some x => x.2 | none => L
def advE (L : LSt) : Int32 := match fX0_advance L with | some x => x.1 | none => 0
def stpS (j : Nat) (M : MSt) : MSt := match fX5_stepOn j M with | some x => x | none => M
def itL (L : LSt) : Nat → LSt
  | 0 => L
  | i + 1 => advS (itL L i)
def itM (j : Nat) (M : MSt) : Nat → MSt
  | 0 => M
  | i + 1 => stpS j (itM j M i)
theorem st_one {k n j : Nat} {L : LSt} {M : MSt} (h : RRel k n L (mA M j)) (hj : j ≠ 8) (hN : mN M = nI n) :
    fX0_advance L = some (advE L, advS L) ∧ fX5_stepOn j M = some (stpS j M) ∧ RRel k n (advS L) (mA (stpS j M) j) ∧ SameBut j M (stpS j M) ∧ EvR (advE L) (mA M 8) (mA (stpS j M) 8) := by
  obtain ⟨e, L', M', h1, h2, h3, h4, h5⟩ := st_step h hj hN
  have a1 : advS L = L' := by unfold advS; rw [h1]
  have a2 : advE L = e := by unfold advE; rw [h1]
  have a3 : stpS j M = M' := by unfold stpS; rw [h2]
  rw [a1, a2, a3]
  exact ⟨h1, h2, h3, h4, h5⟩
theorem st_it {k n j : Nat} {L : LSt} {M : MSt} (h : RRel k n L (mA M j)) (hj : j ≠ 8) (hN : mN M = nI n) : ∀ i, RRel k n (itL L i) (mA (itM j M i) j) ∧ SameBut j M (itM j M i) ∧ mN (itM j M i) = nI n
  | 0 => ⟨h, SameBut.refl j M, hN⟩
  | i + 1 => by
    obtain ⟨h1, h2, h3⟩ := st_it h hj hN i
    obtain ⟨-, -, q3, q4, -⟩ := st_one h1 hj h3
    exact ⟨q3, h2.trans q4, q4.n.trans h3⟩
theorem s_advanceBy {k n j : Nat} {L : LSt} {M : MSt} (h : RRel k n L (mA M j)) (hj : j ≠ 8) (hN : mN M = nI n) {m : Nat} (hm : m ≤ 2000) : fX0_advanceBy L (nI m) = some (itL L m) := by
  refine run_up (fun f i => fX0_advanceBy_L2 f (itL L i) (nI m) (nI i)) m (fun i f hi => ?_) (fun f => ?_) (by show m < 3000; omega)
  · show fX0_advanceBy_L2 (f + 1) (itL L i) (nI m) (nI i) = _
    obtain ⟨h1, h2, h3⟩ := st_it h hj hN i
    rw [fX0_advanceBy_L2, if_neg (nI_ge hi (by omega)), (st_one h1 hj h3).1, Option.bind_some, nI_1]
    rfl
  · show fX0_advanceBy_L2 (f + 1) (itL L m) (nI m) (nI m) = _
    rw [fX0_advanceBy_L2, if_pos (Int32.le_refl _)]
/-- the counts set to 0 -/
def zC (A : Nat → RI) : Nat → (Nat → RI)
  | 0 => A
  | i + 1 => aw (zC A i) 8 i 0
def zM (M : MSt) : MSt := (zC (mA M) 4, M.2)
theorem zC_ne (A : Nat → RI) {c : Nat} (hc : c ≠ 8) : ∀ i, zC A i c = A c
  | 0 => rfl
  | i + 1 => by rw [zC, aw_ne hc, zC_ne A hc i]
theorem zC_8 (A : Nat → RI) : ∀ i, i < 4 → zC A 4 8 i = 0 := i4 (by simp (disch := omega) only [zC, aw_at, upd_at, upd_ne]) (by simp (disch := omega) only [zC, aw_at, upd_at, upd_ne]) (by simp (disch := omega) only [zC, aw_at, upd_at, upd_ne]) (by simp (disch := omega) only [zC, aw_at, upd_at, upd_ne])
theorem zM_same {j : Nat} (M : MSt) : SameBut j M (zM M) := ⟨fun c _ h => zC_ne _ h 4, rfl⟩
theorem zM_rel {k n j : Nat} {L : LSt} {M : MSt} (h : RRel k n L (mA M j)) (hj : j ≠ 8) : RRel k n L (mA (zM M) j) := by
  rw [show mA (zM M) j = mA M j from zC_ne _ hj 4]; exact h
theorem m_stepsOn {k n j : Nat} {L : LSt} {M : MSt} (h : RRel k n L (mA M j)) (hj : j ≠ 8) (hN : mN M = nI n) {m : Nat} (hm : m ≤ 2000) : fX5_stepsOn j M (nI m) = some (itM j (zM M) m) := by
  have hz : mN (zM M) = nI n := hN
  refine run_up (fun f i => fX5_stepsOn_L2 j f (zC (mA M) i, M.2) (nI m) (nI i)) 4 (fun i f hi => ?_) (fun f => ?_) (by decide)
  · show fX5_stepsOn_L2 j (f + 1) (zC (mA M) i, M.2) (nI m) (nI i) = _
    rw [fX5_stepsOn_L2, if_neg (show ¬ (4 : Int32) ≤ nI i from nI_ge (b := 4) hi (by decide)), gd_nI hi (by decide), nI_clamp (by omega), nI_1]
    rfl
  · show fX5_stepsOn_L2 j (f + 1) (zM M) (nI m) (nI 4) = _
    rw [fX5_stepsOn_L2, if_pos (show (4 : Int32) ≤ nI 4 by decide)]
    refine run_up (fun f i => fX5_stepsOn_L22 j f (itM j (zM M) i) (nI m) (nI i)) m (fun i f hi => ?_) (fun f => ?_) (by show m < 3000; omega)
    · show fX5_stepsOn_L22 j (f + 1) (itM j (zM M) i) (nI m) (nI i) = _
      obtain ⟨h1, h2, h3⟩ := st_it (zM_rel h hj) hj hz i
      rw [fX5_stepsOn_L22, if_neg (nI_ge hi (by omega)), (st_one h1 hj h3).2.1, Option.bind_some, nI_1]
      rfl
    · show fX5_stepsOn_L22 j (f + 1) (itM j (zM M) m) (nI m) (nI m) = _
      rw [fX5_stepsOn_L22, if_pos (Int32.le_refl _)]
/-- the sums of what happened -/
def sEv (L : LSt) (w : Nat) : Nat → Int32
  | 0 => 0
  | i + 1 => sEv L w i + eB (advE (itL L i)) w
theorem st_counts {k n j : Nat} {L : LSt} {M : MSt} (h : RRel k n L (mA M j)) (hj : j ≠ 8) (hN : mN M = nI n) {w : Nat} (hw : w < 4) : ∀ i, mA (itM j (zM M) i) 8 w = sEv L w i
  | 0 => zC_8 _ w hw
  | i + 1 => by
    have hz : mN (zM M) = nI n := hN
    obtain ⟨h1, h2, h3⟩ := st_it (zM_rel h hj) hj hz i
    have := (st_one h1 hj h3).2.2.2.2 w hw
    show mA (stpS j (itM j (zM M) i)) 8 w = _
    rw [this, st_counts h hj hN hw i]
    rfl

/-! PURE LEVEL: a step -/
def SameBut (j : Nat) (M M' : MSt) : Prop := (∀ c, c ≠ j → c ≠ 8 → mA M' c = mA M c) ∧ M'.2 = M.2
theorem SameBut.refl (j : Nat) (M : MSt) : SameBut j M M := ⟨fun _ _ _ => rfl, rfl⟩
theorem SameBut.trans {j : Nat} {M M' M'' : MSt} (h : SameBut j M M') (h2 : SameBut j M' M'') : SameBut j M M'' := ⟨fun c a b => (h2.1 c a b).trans (h.1 c a b), h2.2.trans h.2⟩
theorem SameBut.n {j : Nat} {M M' : MSt} (h : SameBut j M M') : mN M' = mN M := by show M'.2.2.2.2.2.1 = M.2.2.2.2.2.1; rw [h.2]
/-- the bit of what happened -/
def eB (e : Int32) (i : Nat) : Int32 := (e >>> (nI i &&& 31)) &&& 1
def EvR (e : Int32) (A A' : RI) : Prop := ∀ i, i < 4 → A' i = A i + eB e i
theorem i4 {P : Nat → Prop} (h0 : P 0) (h1 : P 1) (h2 : P 2) (h3 : P 3) : ∀ i, i < 4 → P i := fun i hi => by
  have : i = 0 ∨ i = 1 ∨ i = 2 ∨ i = 3 := by omega
  rcases this with rfl | rfl | rfl | rfl <;> assumption
theorem EvR_0 (A : RI) : EvR 0 A A := i4 (Int32.add_zero _).symm (Int32.add_zero _).symm (Int32.add_zero _).symm (Int32.add_zero _).symm
def Ev1 (e : Int32) : Prop := e = 0 ∨ e = 1 ∨ e = 1 ||| 2 ∨ e = 1 ||| 4
theorem Ev_or {e d : Int32} {A A' A'' : RI} (h : EvR e A A') (h2 : EvR d A' A'') (he : Ev1 e) (hd : d = 0 ∨ d = 8) : EvR (e ||| d) A A'' := fun i hi => by
  rw [h2 i hi, h i hi, Int32.add_assoc]
  congr 1
  revert i
  rcases he with rfl | rfl | rfl | rfl <;> rcases hd with rfl | rfl <;> exact i4 (by decide +kernel) (by decide +kernel) (by decide +kernel) (by decide +kernel)
set_option maxHeartbeats 4000000 in
theorem st_pass {k n j g : Nat} {L : LSt} {M : MSt} (h : RRel k n L (mA M j)) (hj : j ≠ 8) (hg : g < k) (hp : lPl L g = 0) (r : Int32) :
    ∃ e L' w M', fX0_pass L (nI g) r = some (e, L') ∧ fX5_pass j M (nI g) r = some (w, M') ∧ RRel k n L' (mA M' j) ∧ SameBut j M M' ∧ Ev1 e ∧ EvR e (mA M 8) (mA M' 8) ∧ ((w = nI g ∧ lPl L' g = 2) ∨ (w = -9 ∧ lPl L' g = 0)) := by
  have hk12 := h.k12
  have hj' : 8 ≠ j := fun z => hj z.symm
  obtain ⟨c0, c1, c2, c3, c4, c5, c6⟩ := h.cell g hg
  have hsp := c6.sp hp
  obtain ⟨v, v1, v2, v3⟩ := h.limOk.2.2.1
  have n2 : ¬ lLi L 2 ≤ 0 := by rw [v3]; exact nI_nle (by omega) (by omega)
  have z2 : ∀ {α : Type} (k : Option α), nz (lLi L 2) k = k := fun k => by unfold nz; rw [if_neg]; rw [v3]; exact nI_ne0 (by omega) (by omega)
  unfold fX0_pass fX5_pass
  rw [gd_nI (by omega) (by decide)]
  simp (disch := omega) only [lt, aI0, aI12, aI24, aI36, aI48, aI60, aI84, gd_nI, nI_clamp, aw_at, aw_ne, upd_at, upd_ne, h.l0, h.l1, h.l2, h.l4, c0, c1, c2, c3, c4, if_neg n2, z2]
  by_cases h1 : lCy L g + 1 < lLi L 0
  · by_cases h2 : r - r / lLi L 2 * lLi L 2 = 0
    · by_cases h3 : lLi L 1 < (lWr L g + (1 + lWe L g)) / 4 + (r / 16 - r / 16 / 5 * 5)
      · simp only [if_pos h1, if_pos h2, if_pos h3]
        refine ⟨_, _, _, _, rfl, rfl, RRel_cell h hg ⟨rfl, rfl, rfl, rfl, rfl⟩ (fun i hi => ?_) (fun i q1 q2 => ?_) ?_ ?_, ⟨fun c hc1 hc2 => ?_, rfl⟩, Or.inr (Or.inr (Or.inr rfl)), ?_, Or.inl ⟨rfl, upd_at⟩⟩
        · refine ⟨?_, ?_, ?_, ?_, ?_, ?_, ?_, ?_⟩ <;> first | rfl | exact upd_ne hi
        · simp (disch := omega) only [mA, aw_at, aw_ne, upd_ne]
        · unfold CellOk
          simp (disch := omega) only [mA, lWe, lCy, lWr, lPu, lSl, lPl, lSp, lSt, lLi, aw_at, aw_ne, upd_at, upd_ne, c0, c1, c2, c3, c4, c5]
          exact ⟨trivial, trivial, trivial, trivial, trivial, trivial, Or.inr (Or.inr (Or.inl ⟨rfl, rfl, h.limOk.2.2.2.2⟩))⟩
        · intro z; rw [show lPl (_ : LSt) g = 2 from upd_at] at z; exact absurd z (by decide)
        · simp (disch := omega) only [mA, aw_ne]
        · refine i4 ?_ ?_ ?_ ?_ <;> simp (disch := omega) only [mA, aw_at, aw_ne, upd_at, upd_ne] <;> first | exact congrArg (HAdd.hAdd _) (by decide +kernel) | exact (Int32.add_zero _).symm.trans (congrArg (HAdd.hAdd _) (by decide +kernel))
      · simp only [if_pos h1, if_pos h2, if_neg h3]
        refine ⟨_, _, _, _, rfl, rfl, RRel_cell h hg ⟨rfl, rfl, rfl, rfl, rfl⟩ (fun i hi => ?_) (fun i q1 q2 => ?_) ?_ ?_, ⟨fun c hc1 hc2 => ?_, rfl⟩, Or.inr (Or.inl rfl), ?_, Or.inr ⟨rfl, hp⟩⟩
        · refine ⟨?_, ?_, ?_, ?_, ?_, ?_, ?_, ?_⟩ <;> first | rfl | exact upd_ne hi
        · simp (disch := omega) only [mA, aw_at, aw_ne, upd_ne]
        · unfold CellOk
          simp (disch := omega) only [mA, lWe, lCy, lWr, lPu, lSl, lPl, lSp, lSt, lLi, aw_at, aw_ne, upd_at, upd_ne, c0, c1, c2, c3, c4, c5]
          exact ⟨trivial, trivial, trivial, trivial, trivial, trivial, c6⟩
        · exact fun _ i hi hne hp2 => h.dst i g hi hg hne hp2 hp
        · simp (disch := omega) only [mA, aw_ne]
        · refine i4 ?_ ?_ ?_ ?_ <;> simp (disch := omega) only [mA, aw_at, aw_ne, upd_at, upd_ne] <;> first | exact congrArg (HAdd.hAdd _) (by decide +kernel) | exact (Int32.add_zero _).symm.trans (congrArg (HAdd.hAdd _) (by decide +kernel))
    · simp only [if_pos h1, if_neg h2]
      refine ⟨_, _, _, _, rfl, rfl, RRel_cell h hg ⟨rfl, rfl, rfl, rfl, rfl⟩ (fun i hi => ?_) (fun i q1 q2 => ?_) ?_ ?_, ⟨fun c hc1 hc2 => ?_, rfl⟩, Or.inl rfl, ?_, Or.inr ⟨rfl, hp⟩⟩
      · refine ⟨?_, ?_, ?_, ?_, ?_, ?_, ?_, ?_⟩ <;> first | rfl | exact upd_ne hi
      · simp (disch := omega) only [mA, aw_at, aw_ne, upd_ne]
      · unfold CellOk
        simp (disch := omega) only [mA, lWe, lCy, lWr, lPu, lSl, lPl, lSp, lSt, lLi, aw_at, aw_ne, upd_at, upd_ne, c0, c1, c2, c3, c4, c5]
        exact ⟨trivial, trivial, trivial, trivial, trivial, trivial, c6⟩
      · exact fun _ i hi hne hp2 => h.dst i g hi hg hne hp2 hp
      · simp (disch := omega) only [mA, aw_ne]
      · simp (disch := omega) only [mA, aw_ne]; exact EvR_0 _
  · have e9 : ∀ (c : Prop) [Decidable c] {α : Type} (x : α), (if c then x else x) = x := fun c _ _ x => by split <;> rfl
    simp only [if_neg h1, e9]
    refine ⟨_, _, _, _, rfl, rfl, RRel_cell h hg ⟨rfl, rfl, rfl, rfl, rfl⟩ (fun i hi => ?_) (fun i q1 q2 => ?_) ?_ ?_, ⟨fun c hc1 hc2 => ?_, rfl⟩, Or.inr (Or.inr (Or.inl rfl)), ?_, Or.inl ⟨rfl, upd_at⟩⟩
    · refine ⟨?_, ?_, ?_, ?_, ?_, ?_, ?_, ?_⟩ <;> first | rfl | exact upd_ne hi
    · simp (disch := omega) only [mA, aw_at, aw_ne, upd_ne]
    · unfold CellOk
      simp (disch := omega) only [mA, lWe, lCy, lWr, lPu, lSl, lPl, lSp, lSt, lLi, aw_at, aw_ne, upd_at, upd_ne, c0, c1, c2, c3, c4, c5]
      exact ⟨trivial, trivial, trivial, trivial, trivial, trivial, Or.inr (Or.inr (Or.inl ⟨rfl, rfl, h.limOk.2.2.2.2⟩))⟩
    · intro z; rw [show lPl (_ : LSt) g = 2 from upd_at] at z; exact absurd z (by decide)
    · simp (disch := omega) only [mA, aw_ne]
    · refine i4 ?_ ?_ ?_ ?_ <;> simp (disch := omega) only [mA, aw_at, aw_ne, upd_at, upd_ne] <;> first | exact congrArg (HAdd.hAdd _) (by decide +kernel) | exact (Int32.add_zero _).symm.trans (congrArg (HAdd.hAdd _) (by decide +kernel))

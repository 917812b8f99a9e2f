/-! PURE LEVEL: filling the station; the clock -/
theorem RRel_clk {k n : Nat} {L : LSt} {r : RI} (h : RRel k n L r) {c c' : Int32} (hc : c = c') : RRel k n (lWe L, lCy L, lWr L, lPu L, lSl L, lPl L, lSp L, lSt L, lLi L, lN_ L, lStn L, c, lRnd L) (upd r 98 c') := by
  subst hc
  have hk12 := h.k12
  refine ⟨⟨h.k12, h.n4, h.n20, h.hn, (upd_ne (by decide)).trans h.hk⟩, ?_, upd_at.symm, ⟨fun i hi => (upd_ne (by omega)).trans (h.lim i hi), h.limOk⟩, ?_, fun g hg => ?_, h.abs, h.dst⟩
  · obtain ⟨s, h1, h2, h3⟩ := h.stn
    exact ⟨s, h1, h2, (upd_ne (by decide)).trans h3⟩
  · refine h.rnd.trans ?_
    unfold rOf; rw [upd_ne (by decide), upd_ne (by decide)]
  · have c := h.cell g hg
    unfold CellOk
    rw [upd_ne (by omega), upd_ne (by omega), upd_ne (by omega), upd_ne (by omega), upd_ne (by omega), upd_ne (by omega), upd_ne (by omega), upd_ne (by omega)]
    exact c
theorem RRel_hang {k n g a : Nat} {L : LSt} {r : RI} (h : RRel k n L r) (hg : g < k) (ha : a < n) (hroom : sCt (lBad L (nI a)) k = 0) :
    RRel k n (lWe L, lCy L, lWr L, lPu L, lSl L, upd (lPl L) g 0, upd (lSp L) g (nI a), lSt L, lLi L, lN_ L, lStn L, lClk L, lRnd L) (upd (upd r (60 + g) 0) (72 + g) (nI a)) := by
  have hk12 := h.k12
  have hn4 := h.n4
  have hn20 := h.n20
  obtain ⟨c0, c1, c2, c3, c4, c5, c6⟩ := h.cell g hg
  refine RRel_cell h hg ⟨rfl, rfl, rfl, rfl, rfl⟩ (fun i hi => ?_) (fun i q1 q2 => ?_) ?_ (fun _ i hi hne hp2 e => ?_)
  · refine ⟨?_, ?_, ?_, ?_, ?_, ?_, ?_, ?_⟩ <;> first | rfl | exact upd_ne hi
  · simp (disch := omega) only [upd_ne]
  · unfold CellOk
    simp (disch := omega) only [lWe, lCy, lWr, lPu, lSl, lPl, lSp, lSt, lLi, upd_at, upd_ne, c0, c1, c2, c3, c4]
    exact ⟨trivial, trivial, trivial, trivial, trivial, trivial, Or.inl ⟨rfl, rfl, a, ha, rfl⟩⟩
  · rw [show lSp (_ : LSt) g = nI a from upd_at] at e
    have := sCt_zero.mp hroom i hi
    have this := of_decide_eq_false this
    refine this ⟨hp2, ?_⟩
    rw [h.hn, e, lDist_self (by omega) (by omega)]
    obtain ⟨v, v1, v2, v3⟩ := h.limOk.2.2.2.1
    rw [v3]
    exact nI_nle (by omega) (by omega)
/-- a loop, and what is so of its answer -/
theorem run_P {A S : Type} (F : Nat → S → Nat → A) (I : Nat → S → Prop) (P : A → Prop) (N : Nat) (h : ∀ i f s, i < N → I i s → ∃ s', I (i + 1) s' ∧ F (f + 1) s i = F f s' (i + 1)) (hN : ∀ f s, I N s → P (F (f + 1) s N)) :
    ∀ (d i fuel : Nat) (s : S), N - i = d → i ≤ N → d < fuel → I i s → P (F fuel s i)
  | 0, i, fuel, s, hd, hi, hf, hI => by
    obtain ⟨f, rfl⟩ : ∃ f, fuel = f + 1 := ⟨fuel - 1, by omega⟩
    obtain rfl : i = N := by omega
    exact hN f s hI
  | d + 1, i, fuel, s, hd, hi, hf, hI => by
    obtain ⟨f, rfl⟩ : ∃ f, fuel = f + 1 := ⟨fuel - 1, by omega⟩
    obtain ⟨s', h1, h2⟩ := h i f s (by omega) hI
    rw [h2]; exact run_P F I P N h hN d (i + 1) f s' (by omega) (by omega) (by omega) h1
/-- what has been chosen out of some -/
def Ch (P : Nat → Prop) (cy : RI) (x : Int32) : Prop := (x = -9 ∧ ∀ g, ¬ P g) ∨ ∃ c, c < 12 ∧ x = nI c ∧ P c ∧ ∀ g, P g → (cy c).toInt ≤ (cy g).toInt ∧ (g < c → (cy c).toInt < (cy g).toInt)
theorem Ch_one {P Q : Nat → Prop} {cy dy : RI} {x y : Int32} (hPQ : ∀ g, P g ↔ Q g) (hcy : ∀ g, P g → cy g = dy g) (h : Ch P cy x) (h2 : Ch Q dy y) : x = y := by
  rcases h with ⟨rfl, h⟩ | ⟨c, c1, rfl, c2, c3⟩
  · rcases h2 with ⟨rfl, h2⟩ | ⟨d, d1, rfl, d2, d3⟩
    · rfl
    · exact absurd ((hPQ d).mpr d2) (h d)
  · rcases h2 with ⟨rfl, h2⟩ | ⟨d, d1, rfl, d2, d3⟩
    · exact absurd ((hPQ c).mp c2) (h2 c)
    · have a1 := c3 d ((hPQ d).mpr d2)
      have a2 := d3 c ((hPQ c).mp c2)
      rw [← hcy d ((hPQ d).mpr d2), ← hcy c c2] at a2
      congr 1
      rcases Nat.lt_or_ge c d with q | q
      · have := a2.2 q; omega
      · rcases Nat.lt_or_ge d c with q' | q'
        · have := a1.2 q'; omega
        · omega
def dn (i : Nat) : Int32 := if i < 12 then nI (11 - i) else -1
theorem dn_succ : ∀ i, i < 12 → dn i + (-1) = dn (i + 1) := by decide +kernel
set_option maxHeartbeats 1000000 in
theorem s_fill (S : LSt) : ∃ x, Ch (fun g => g < 12 ∧ lPl S g = 1) (lCy S) x ∧ fX0_fillStation S = if x < 0 then some (0, S) else (fX0_isRoomAt S (lStn S)).bind (fun r59 => (if r59 = 0 then some (0, S) else (fX0_hang S x (lStn S)).bind (fun r73 => some (8, r73)))) := by
  have main := run_P (fun f x i => fX0_fillStation_L6 f S x (dn i)) (fun i x => Ch (fun g => 12 - i ≤ g ∧ g < 12 ∧ lPl S g = 1) (lCy S) x)
    (fun o => ∃ x, Ch (fun g => g < 12 ∧ lPl S g = 1) (lCy S) x ∧ o = if x < 0 then some (0, S) else (fX0_isRoomAt S (lStn S)).bind (fun r59 => (if r59 = 0 then some (0, S) else (fX0_hang S x (lStn S)).bind (fun r73 => some (8, r73))))) 12 (fun i f x hi hI => ?_) (fun f x hI => ?_) 12 0 KF (-9) rfl (by decide) (by decide) (Or.inl ⟨rfl, fun g hg => by omega⟩)
  · exact main
  · have hd : dn i = nI (11 - i) := if_pos hi
    show ∃ s', _ ∧ fX0_fillStation_L6 (f + 1) S x (dn i) = fX0_fillStation_L6 f S s' (dn (i + 1))
    rw [← dn_succ i hi, fX0_fillStation_L6, hd, if_neg (nI_pos (by omega)), gd_nI (by omega) (by decide), nI_clamp (by omega)]
    by_cases h : lPl S (11 - i) = 1
    · rw [if_pos h]
      rcases hI with ⟨rfl, hI⟩ | ⟨c, c1, rfl, c2, c3⟩
      · refine ⟨nI (11 - i), Or.inr ⟨11 - i, by omega, rfl, ⟨by omega, by omega, h⟩, fun g hg => ?_⟩, by rw [if_pos (show (-9 : Int32) < 0 by decide)]⟩
        by_cases e : g = 11 - i
        · subst e; exact ⟨Int.le_refl _, fun q => absurd q (Nat.lt_irrefl _)⟩
        · exact absurd ⟨by omega, hg.2⟩ (hI g)
      · rw [if_neg (nI_pos (by omega)), gd_nI c1 (by decide), nI_clamp (by omega)]
        by_cases h2 : lCy S c < lCy S (11 - i)
        · refine ⟨nI c, Or.inr ⟨c, c1, rfl, ⟨by omega, c2.2⟩, fun g hg => ?_⟩, by rw [if_pos h2]⟩
          by_cases e : g = 11 - i
          · subst e
            rw [fa_lt] at h2
            exact ⟨by omega, fun _ => h2⟩
          · exact c3 g ⟨by omega, hg.2⟩
        · refine ⟨nI (11 - i), Or.inr ⟨11 - i, by omega, rfl, ⟨by omega, by omega, h⟩, fun g hg => ?_⟩, by rw [if_neg h2]⟩
          rw [fa_lt] at h2
          by_cases e : g = 11 - i
          · subst e; exact ⟨Int.le_refl _, fun q => absurd q (Nat.lt_irrefl _)⟩
          · have := c3 g ⟨by omega, hg.2⟩
            exact ⟨by omega, fun q => by omega⟩
    · rw [if_neg h]
      refine ⟨x, ?_, rfl⟩
      have e : ∀ g, (12 - (i + 1) ≤ g ∧ g < 12 ∧ lPl S g = 1) ↔ (12 - i ≤ g ∧ g < 12 ∧ lPl S g = 1) := fun g => ⟨fun z => by
        by_cases e : g = 11 - i
        · subst e; exact absurd z.2.2 h
        · exact ⟨by omega, z.2⟩, fun z => ⟨by omega, z.2⟩⟩
      simp only [e]; exact hI
  · refine ⟨x, ?_, ?_⟩
    · simpa using hI
    · show fX0_fillStation_L6 (f + 1) S x (dn 12) = _
      rw [fX0_fillStation_L6, if_pos (show dn 12 < 0 by decide)]
def mFin (j : Nat) (S : MSt) (x : Int32) : Option MSt := (if x = (-9) then lt (aw (mA S) j 98 ((((mA S) j) 98) + 1)) (fun a10 => some (a10, (mRef S), (mSize S), (mSpot S), (mRN S), (mN S), (mActs S))) else gd (60 + x) 106 (lt (aw (mA S) j (((60 + x)).toNatClampNeg) 0) (fun a12 => gd (72 + x) 106 (lt (aw a12 j (((72 + x)).toNatClampNeg) ((a12 j) 97)) (fun a14 => lt (aw a14 8 3 (((a14 8) 3) + 1)) (fun a15 => lt (aw a15 j 98 (((a15 j) 98) + 1)) (fun a16 => some (a16, (mRef S), (mSize S), (mSpot S), (mRN S), (mN S), (mActs S)))))))))
set_option maxHeartbeats 1000000 in
theorem m_fill (j : Nat) (S : MSt) {k : Nat} (hk : mA S j 96 = nI k) (hk12 : k ≤ 12) : ∃ x, Ch (fun g => g < k ∧ mA S j (60 + g) = 1) (fun g => mA S j (12 + g)) x ∧ fX5_stepOn_L185 j KF S (-9) 0 = mFin j S x := by
  refine run_P (fun f x i => fX5_stepOn_L185 j f S x (nI i)) (fun i x => Ch (fun g => g < i ∧ mA S j (60 + g) = 1) (fun g => mA S j (12 + g)) x) (fun o => ∃ x, Ch (fun g => g < k ∧ mA S j (60 + g) = 1) (fun g => mA S j (12 + g)) x ∧ o = mFin j S x) k (fun i f x hi hI => ?_) (fun f x hI => ?_) k 0 KF (-9) rfl (Nat.zero_le k) (by show k < 3000; omega) (Or.inl ⟨rfl, fun g hg => by omega⟩)
  · show ∃ s', _ ∧ fX5_stepOn_L185 j (f + 1) S x (nI i) = fX5_stepOn_L185 j f S s' (nI (i + 1))
    rw [fX5_stepOn_L185, hk, if_neg (lt_k hi hk12), aI60, gd_nI (by omega) (by decide), nI_clamp (by omega), nI_1]
    by_cases h : mA S j (60 + i) = 1
    · rw [if_pos h]
      rcases hI with ⟨rfl, hI⟩ | ⟨c, c1, rfl, c2, c3⟩
      · refine ⟨nI i, Or.inr ⟨i, by omega, rfl, ⟨by omega, h⟩, fun g hg => ?_⟩, by rw [if_pos rfl]⟩
        by_cases e : g = i
        · subst e; exact ⟨Int.le_refl _, fun q => absurd q (Nat.lt_irrefl _)⟩
        · exact absurd ⟨by omega, hg.2⟩ (hI g)
      · rw [if_neg (fun z => by have q := nI_pos (n := c) (by omega); rw [z] at q; exact q (by decide)), aI12, aI12, gd_nI (by omega) (by decide), gd_nI (by omega) (by decide), nI_clamp (by omega), nI_clamp (by omega)]
        by_cases h2 : mA S j (12 + c) ≤ mA S j (12 + i)
        · refine ⟨nI c, Or.inr ⟨c, c1, rfl, ⟨by omega, c2.2⟩, fun g hg => ?_⟩, by rw [if_pos h2]⟩
          by_cases e : g = i
          · subst e
            rw [fa_le] at h2
            exact ⟨h2, fun q => by omega⟩
          · exact c3 g ⟨by omega, hg.2⟩
        · refine ⟨nI i, Or.inr ⟨i, by omega, rfl, ⟨by omega, h⟩, fun g hg => ?_⟩, by rw [if_neg h2]⟩
          rw [fa_le] at h2
          by_cases e : g = i
          · subst e; exact ⟨Int.le_refl _, fun q => absurd q (Nat.lt_irrefl _)⟩
          · have := c3 g ⟨by omega, hg.2⟩
            show (mA S j (12 + i)).toInt ≤ (mA S j (12 + g)).toInt ∧ (g < i → (mA S j (12 + i)).toInt < (mA S j (12 + g)).toInt)
            have t1 : (mA S j (12 + c)).toInt ≤ (mA S j (12 + g)).toInt := this.1
            exact ⟨by omega, fun q => by omega⟩
    · rw [if_neg h]
      refine ⟨x, ?_, rfl⟩
      have e : ∀ g, (g < i + 1 ∧ mA S j (60 + g) = 1) ↔ (g < i ∧ mA S j (60 + g) = 1) := fun g => ⟨fun z => by
        by_cases e : g = i
        · subst e; exact absurd z.2 h
        · exact ⟨by omega, z.2⟩, fun z => ⟨by omega, z.2⟩⟩
      simp only [e]; exact hI
  · refine ⟨x, hI, ?_⟩
    show fX5_stepOn_L185 j (f + 1) S x (nI k) = _
    rw [fX5_stepOn_L185, hk, if_pos (ge_k k)]
    rfl
set_option maxHeartbeats 4000000 in
/-- after the repairs: the station is filled, the clock goes on -/
theorem st_fill {k n j : Nat} {S : LSt} {T : MSt} (h : RRel k n S (mA T j)) (hj : j ≠ 8) (hN : mN T = nI n) :
    ∃ e L' T', fX0_fillStation S = some (e, L') ∧ (fX5_isFree j T (((mA T) j) 97)).bind (fun r172 => (if r172 = 0 then lt (aw (mA T) j 98 ((((mA T) j) 98) + 1)) (fun a7 => some (a7, (mRef T), (mSize T), (mSpot T), (mRN T), (mN T), (mActs T))) else (fX5_stepOn_L185 j KF T (-9) 0))) = some T' ∧
      RRel k n (lWe L', lCy L', lWr L', lPu L', lSl L', lPl L', lSp L', lSt L', lLi L', lN_ L', lStn L', lClk L' + 1, lRnd L') (mA T' j) ∧ SameBut j T T' ∧ (e = 0 ∨ e = 8) ∧ EvR e (mA T 8) (mA T' 8) := by
  have hj' : 8 ≠ j := fun z => hj z.symm
  have hk12 := h.k12
  obtain ⟨s, hs, hs1, hs2⟩ := h.stn
  obtain ⟨f1, f2⟩ := rc_isFree h hN (nI s)
  obtain ⟨x, x1, x2⟩ := s_fill S
  obtain ⟨y, y1, y2⟩ := m_fill j T h.hk h.k12
  have hxy : x = y := by
    refine Ch_one (fun g => ⟨fun z => ?_, fun z => ?_⟩) (fun g hg => ?_) x1 y1
    · have hg : g < k := by
        rcases Nat.lt_or_ge g k with q | q
        · exact q
        · have := h.abs g q z.1; rw [this] at z; exact absurd z.2 (by decide)
      exact ⟨hg, (h.cell g hg).pl.trans z.2⟩
    · exact ⟨by omega, (h.cell g z.1).pl.symm.trans z.2⟩
    · have hgk : g < k := by
        rcases Nat.lt_or_ge g k with q | q
        · exact q
        · have := h.abs g q hg.1; rw [this] at hg; exact absurd hg.2 (by decide)
      exact (h.cell g hgk).2.1.symm
  subst hxy
  have e98 := h.clk
  have no : fX0_fillStation S = some (0, S) → (fX5_isFree j T (((mA T) j) 97)).bind (fun r172 => (if r172 = 0 then lt (aw (mA T) j 98 ((((mA T) j) 98) + 1)) (fun a7 => some (a7, (mRef T), (mSize T), (mSpot T), (mRN T), (mN T), (mActs T))) else (fX5_stepOn_L185 j KF T (-9) 0))) = some (aw (mA T) j 98 ((((mA T) j) 98) + 1), (mRef T), (mSize T), (mSpot T), (mRN T), (mN T), (mActs T)) → ∃ e L' T', fX0_fillStation S = some (e, L') ∧ (fX5_isFree j T (((mA T) j) 97)).bind (fun r172 => (if r172 = 0 then lt (aw (mA T) j 98 ((((mA T) j) 98) + 1)) (fun a7 => some (a7, (mRef T), (mSize T), (mSpot T), (mRN T), (mN T), (mActs T))) else (fX5_stepOn_L185 j KF T (-9) 0))) = some T' ∧
      RRel k n (lWe L', lCy L', lWr L', lPu L', lSl L', lPl L', lSp L', lSt L', lLi L', lN_ L', lStn L', lClk L' + 1, lRnd L') (mA T' j) ∧ SameBut j T T' ∧ (e = 0 ∨ e = 8) ∧ EvR e (mA T 8) (mA T' 8) := fun q1 q2 => by
    refine ⟨0, S, _, q1, q2, ?_, ⟨fun c c1 c2 => ?_, rfl⟩, Or.inl rfl, ?_⟩
    · simp only [mA, aw_at]
      exact RRel_clk h (by rw [e98])
    · simp (disch := omega) only [mA, aw_ne]
    · simp (disch := omega) only [mA, aw_ne]; exact EvR_0 _
  rw [hs1, f1, Option.bind_some] at x2
  by_cases hb : sCt (lBad S (nI s)) k = 0
  · rw [if_pos hb] at f2 x2
    rw [if_neg (show ¬ (1 : Int32) = 0 by decide)] at x2
    have em : (fX5_isFree j T (((mA T) j) 97)).bind (fun r172 => (if r172 = 0 then lt (aw (mA T) j 98 ((((mA T) j) 98) + 1)) (fun a7 => some (a7, (mRef T), (mSize T), (mSpot T), (mRN T), (mN T), (mActs T))) else (fX5_stepOn_L185 j KF T (-9) 0))) = mFin j T x := by
      rw [hs2, f2, Option.bind_some, if_neg (by decide), y2]
    rcases x1 with ⟨rfl, _⟩ | ⟨c, c1, rfl, c2, c3⟩
    · refine no ?_ ?_
      · rw [x2, if_pos (by decide)]
      · rw [em]; unfold mFin lt; rw [if_pos rfl]
    · have hc : c < k := by
        rcases Nat.lt_or_ge c k with q | q
        · exact q
        · have := h.abs c q c1; rw [this] at c2; exact absurd c2.2 (by decide)
      rw [if_neg (nI_pos (by omega))] at x2
      unfold fX0_hang at x2
      rw [gd_nI c1 (by decide), nI_clamp (by omega), Option.bind_some] at x2
      unfold mFin at em
      rw [if_neg (fun z => by have q := nI_pos (n := c) (by omega); rw [z] at q; exact q (by decide))] at em
      simp (disch := omega) only [lt, aI60, aI72, gd_nI, nI_clamp, aw_at, aw_ne, upd_at, upd_ne] at em
      refine ⟨_, _, _, x2, em, ?_, ⟨fun q q1 q2 => ?_, rfl⟩, Or.inr rfl, ?_⟩
      · have hh := RRel_hang h hc hs hb
        have hcl := RRel_clk hh (c := lClk S + 1) (c' := (mA T j) 98 + 1) (by rw [e98])
        simp (disch := omega) only [mA, aw_at, aw_ne, hs2]
        rw [← hs2]
        rw [← hs2] at hcl
        exact hcl
      · simp (disch := omega) only [mA, aw_ne]
      · refine i4 ?_ ?_ ?_ ?_ <;> simp (disch := omega) only [mA, aw_at, aw_ne, upd_at, upd_ne] <;> first | exact congrArg (HAdd.hAdd _) (by decide +kernel) | exact (Int32.add_zero _).symm.trans (congrArg (HAdd.hAdd _) (by decide +kernel))
  · rw [if_neg hb] at f2 x2
    refine no ?_ ?_
    · rw [x2, if_pos rfl]; split <;> rfl
    · rw [hs2, f2, Option.bind_some, if_pos rfl]; rfl

/-! PURE LEVEL: one lift and one row of the model, which mean the same -/
def GOk (n : Nat) (p s t s' t' : Int32) : Prop := (p = 0 ∧ s' = s ∧ ∃ a, a < n ∧ s = nI a) ∨ p = 1 ∨ (p = 2 ∧ t' = t ∧ ∃ a, 1 ≤ a ∧ a ≤ 9 ∧ t = nI a) ∨ p = 3
def InR (lo hi : Nat) (x : Int32) : Prop := ∃ a, lo ≤ a ∧ a ≤ hi ∧ x = nI a
def LimOk (li : RI) : Prop := InR 1 99 (li 0) ∧ InR 1 50 (li 1) ∧ InR 1 9 (li 2) ∧ InR 1 4 (li 3) ∧ InR 1 9 (li 4)
def rOf (r : RI) : Int64 := (((r 104).toInt64) <<< (((32 : Int32)).toInt64 &&& 63)) ||| (((r 105).toInt64) &&& 4294967295)
def CellOk (n g : Nat) (L : LSt) (r : RI) : Prop := r g = lWe L g ∧ r (12 + g) = lCy L g ∧ r (24 + g) = lWr L g ∧ r (36 + g) = lPu L g ∧ r (48 + g) = lSl L g ∧ r (60 + g) = lPl L g ∧ GOk n (lPl L g) (lSp L g) (lSt L g) (r (72 + g)) (r (84 + g))
def RRel (k n : Nat) (L : LSt) (r : RI) : Prop :=
  (k ≤ 12 ∧ 4 ≤ n ∧ n ≤ 20 ∧ lN_ L = nI n ∧ r 96 = nI k) ∧ (∃ s, s < n ∧ lStn L = nI s ∧ r 97 = nI s) ∧ lClk L = r 98 ∧
  ((∀ i, i < 5 → r (99 + i) = lLi L i) ∧ LimOk (lLi L)) ∧ lRnd L = rOf r ∧ (∀ g, g < k → CellOk n g L r) ∧ (∀ g, k ≤ g → g < 12 → lPl L g = -1) ∧
  (∀ g h, g < k → h < k → g ≠ h → lPl L g = 0 → lPl L h = 0 → lSp L g ≠ lSp L h)
section RR
variable {k n : Nat} {L : LSt} {r : RI}
theorem RRel.k12 (h : RRel k n L r) : k ≤ 12 := h.1.1
theorem RRel.n4 (h : RRel k n L r) : 4 ≤ n := h.1.2.1
theorem RRel.n20 (h : RRel k n L r) : n ≤ 20 := h.1.2.2.1
theorem RRel.hn (h : RRel k n L r) : lN_ L = nI n := h.1.2.2.2.1
theorem RRel.hk (h : RRel k n L r) : r 96 = nI k := h.1.2.2.2.2
theorem RRel.stn (h : RRel k n L r) : ∃ s, s < n ∧ lStn L = nI s ∧ r 97 = nI s := h.2.1
theorem RRel.clk (h : RRel k n L r) : lClk L = r 98 := h.2.2.1
theorem RRel.lim (h : RRel k n L r) : ∀ i, i < 5 → r (99 + i) = lLi L i := h.2.2.2.1.1
theorem RRel.limOk (h : RRel k n L r) : LimOk (lLi L) := h.2.2.2.1.2
theorem RRel.rnd (h : RRel k n L r) : lRnd L = rOf r := h.2.2.2.2.1
theorem RRel.cell (h : RRel k n L r) : ∀ g, g < k → CellOk n g L r := h.2.2.2.2.2.1
theorem RRel.abs (h : RRel k n L r) : ∀ g, k ≤ g → g < 12 → lPl L g = -1 := h.2.2.2.2.2.2.1
theorem RRel.dst (h : RRel k n L r) : ∀ g h, g < k → h < k → g ≠ h → lPl L g = 0 → lPl L h = 0 → lSp L g ≠ lSp L h := h.2.2.2.2.2.2.2
theorem RRel.l0 (h : RRel k n L r) : r 99 = lLi L 0 := h.lim 0 (by decide)
theorem RRel.l1 (h : RRel k n L r) : r 100 = lLi L 1 := h.lim 1 (by decide)
theorem RRel.l2 (h : RRel k n L r) : r 101 = lLi L 2 := h.lim 2 (by decide)
theorem RRel.l3 (h : RRel k n L r) : r 102 = lLi L 3 := h.lim 3 (by decide)
theorem RRel.l4 (h : RRel k n L r) : r 103 = lLi L 4 := h.lim 4 (by decide)
theorem CellOk.pl {g : Nat} (h : CellOk n g L r) : r (60 + g) = lPl L g := h.2.2.2.2.2.1
theorem CellOk.ok {g : Nat} (h : CellOk n g L r) : GOk n (lPl L g) (lSp L g) (lSt L g) (r (72 + g)) (r (84 + g)) := h.2.2.2.2.2.2
theorem GOk.sp {p s t s' t' : Int32} (h : GOk n p s t s' t') (h0 : p = 0) : s' = s ∧ ∃ a, a < n ∧ s = nI a := by
  subst h0
  rcases h with h | h | h | h
  · exact h.2
  · exact absurd h (by decide)
  · exact absurd h.1 (by decide)
  · exact absurd h (by decide)
theorem GOk.st {p s t s' t' : Int32} (h : GOk n p s t s' t') (h0 : p = 2) : t' = t ∧ ∃ a, 1 ≤ a ∧ a ≤ 9 ∧ t = nI a := by
  subst h0
  rcases h with h | h | h | h
  · exact absurd h.1 (by decide)
  · exact absurd h (by decide)
  · exact h.2
  · exact absurd h (by decide)
theorem GOk.nabs {p s t s' t' : Int32} (h : GOk n p s t s' t') : ¬ p = -1 := by
  intro h0
  subst h0
  rcases h with h | h | h | h
  · exact absurd h.1 (by decide)
  · exact absurd h (by decide)
  · exact absurd h.1 (by decide)
  · exact absurd h (by decide)
theorem RRel.nabs (h : RRel k n L r) {g : Nat} (hg : g < k) : ¬ lPl L g = -1 := (h.cell g hg).ok.nabs
theorem RRel_cell {g : Nat} {L' : LSt} {r' : RI} (h : RRel k n L r) (hg : g < k) (hS : lLi L' = lLi L ∧ lN_ L' = lN_ L ∧ lStn L' = lStn L ∧ lClk L' = lClk L ∧ lRnd L' = lRnd L)
    (hL : ∀ i, i ≠ g → lWe L' i = lWe L i ∧ lCy L' i = lCy L i ∧ lWr L' i = lWr L i ∧ lPu L' i = lPu L i ∧ lSl L' i = lSl L i ∧ lPl L' i = lPl L i ∧ lSp L' i = lSp L i ∧ lSt L' i = lSt L i)
    (hr : ∀ i, i < 106 → (i < 96 → ¬ i % 12 = g) → r' i = r i) (hc : CellOk n g L' r') (hd : lPl L' g = 0 → ∀ i, i < k → i ≠ g → lPl L i = 0 → lSp L i ≠ lSp L' g) : RRel k n L' r' := by
  have hk12 := h.k12
  refine ⟨⟨h.k12, h.n4, h.n20, hS.2.1.trans h.hn, (hr 96 (by omega) (by omega)).trans h.hk⟩, ?_, ?_, ⟨fun i hi => ?_, ?_⟩, ?_, fun i hi => ?_, fun i h1 h2 => ?_, fun a b ha hb hab pa pb => ?_⟩
  · obtain ⟨s, h1, h2, h3⟩ := h.stn
    exact ⟨s, h1, hS.2.2.1.trans h2, (hr 97 (by omega) (by omega)).trans h3⟩
  · rw [hS.2.2.2.1, hr 98 (by omega) (by omega)]; exact h.clk
  · rw [hS.1, hr (99 + i) (by omega) (by omega)]; exact h.lim i hi
  · rw [hS.1]; exact h.limOk
  · rw [hS.2.2.2.2, h.rnd]; unfold rOf; rw [hr 104 (by omega) (by omega), hr 105 (by omega) (by omega)]
  · by_cases e : i = g
    · subst e; exact hc
    · obtain ⟨a1, a2, a3, a4, a5, a6, a7, a8⟩ := hL i e
      obtain ⟨b1, b2, b3, b4, b5, b6, b7⟩ := h.cell i hi
      unfold CellOk
      rw [a1, a2, a3, a4, a5, a6, a7, a8, hr i (by omega) (by omega), hr (12 + i) (by omega) (by omega), hr (24 + i) (by omega) (by omega), hr (36 + i) (by omega) (by omega), hr (48 + i) (by omega) (by omega), hr (60 + i) (by omega) (by omega), hr (72 + i) (by omega) (by omega), hr (84 + i) (by omega) (by omega)]
      exact ⟨b1, b2, b3, b4, b5, b6, b7⟩
  · rw [(hL i (by omega)).2.2.2.2.2.1]; exact h.abs i h1 h2
  · by_cases e1 : a = g
    · subst e1
      have e2 := hL b (fun z => hab z.symm)
      rw [e2.2.2.2.2.2.2.1]
      rw [e2.2.2.2.2.2.1] at pb
      exact fun z => hd pa b hb (fun z => hab z.symm) pb z.symm
    · have e2 := hL a e1
      rw [e2.2.2.2.2.2.1] at pa
      rw [e2.2.2.2.2.2.2.1]
      by_cases e3 : b = g
      · subst e3; exact hd pb a ha e1 pa
      · have e4 := hL b e3
        rw [e4.2.2.2.2.2.1] at pb
        rw [e4.2.2.2.2.2.2.1]
        exact h.dst a b ha hb hab pa pb
end RR
section RC
variable {k n j : Nat} {L : LSt} {M : MSt}
theorem rc_count (h : RRel k n L (mA M j)) {w : Int32} (hw : ¬ w = -1) : fX0_count L w = some (nI (sCt (fun g => decide (lPl L g = w)) k)) ∧ fX5_count j M w = some (nI (sCt (fun g => decide (lPl L g = w)) k)) := by
  refine ⟨?_, ?_⟩
  · rw [s_count, sCt_ext h.k12 (fun g h1 h2 => decide_eq_false (fun z => hw (z.symm.trans (h.abs g h1 h2))))]
  · rw [m_count j M w h.hk h.k12, sCt_cong (fun g hg => by rw [(h.cell g hg).pl])]
theorem rc_abs (h : RRel k n L (mA M j)) : fX0_count L (-1) = some (nI (12 - k)) := by
  have e : ∀ d, k + d ≤ 12 → sCt (fun g => decide (lPl L g = -1)) (k + d) = d := fun d => by
    induction d with
    | zero => intro _; exact sCt_zero.mpr (fun g hg => decide_eq_false (h.nabs hg))
    | succ d ih => intro hd; rw [show k + (d + 1) = (k + d) + 1 from rfl, sCt_yes (decide_eq_true (h.abs (k + d) (by omega) (by omega))), ih (by omega)]
  have := e (12 - k) (by have := h.k12; omega)
  rw [show k + (12 - k) = 12 by have := h.k12; omega] at this
  rw [s_count, this]
theorem rc_grips (h : RRel k n L (mA M j)) : fX0_grips L = some (nI k) := by
  unfold fX0_grips
  rw [rc_abs h, Option.bind_some]
  congr 1
  have e : nI (12 - k) + nI k = nI 12 := by rw [nI_add]; congr 1; have := h.k12; omega
  rw [show (12 : Int32) = nI 12 from rfl, ← e, Int32.add_comm, Int32.add_sub_cancel]
theorem rc_isFull (h : RRel k n L (mA M j)) : fX0_isFull L = some (if k = 12 then 1 else 0) := by
  unfold fX0_isFull
  rw [rc_abs h, Option.bind_some]
  have := h.k12
  by_cases e : k = 12
  · rw [if_pos e, if_pos (by rw [e]; rfl)]
  · rw [if_neg e, if_neg (nI_ne0 (by omega) (by omega))]
theorem rc_gripAt (h : RRel k n L (mA M j)) (x : Int32) : (fX0_gripAt L x = some (-9) ∧ fX5_gripAt j M x = some (-9) ∧ ∀ g, g < k → ¬ (lPl L g = 0 ∧ lSp L g = x)) ∨ ∃ g0, g0 < k ∧ lPl L g0 = 0 ∧ lSp L g0 = x ∧ fX0_gripAt L x = some (nI g0) ∧ fX5_gripAt j M x = some (nI g0) := by
  have tr : ∀ g, g < k → (mA M j (60 + g) = 0 ∧ mA M j (72 + g) = x) → lPl L g = 0 ∧ lSp L g = x := fun g hg z => by
    have c := h.cell g hg
    rw [c.pl] at z
    exact ⟨z.1, (c.ok.sp z.1).1.symm.trans z.2⟩
  have hk12 := h.k12
  rcases s_first (fun g => decide (lPl L g = 0 ∧ lSp L g = x)) k with q | ⟨g0, h0, h1, h2⟩
  · have q' : ∀ g, g < k → ¬ (lPl L g = 0 ∧ lSp L g = x) := fun g hg z => by have := q g hg; simp [z.1, z.2] at this
    refine Or.inl ⟨s_gripAt_miss L x (fun g hg z => ?_), m_gripAt_miss j M x h.hk h.k12 (fun g hg z => q' g hg (tr g hg z)), q'⟩
    by_cases e : g < k
    · exact q' g e z
    · have := h.abs g (by omega) hg
      rw [this] at z; exact absurd z.1 (by decide)
  · have hb := of_decide_eq_true h1
    have h2' : ∀ g, g < g0 → ¬ (lPl L g = 0 ∧ lSp L g = x) := fun g hg z => by have := h2 g hg; simp [z.1, z.2] at this
    have c := h.cell g0 h0
    exact Or.inr ⟨g0, h0, hb.1, hb.2, s_gripAt_hit L x (by omega) hb.1 hb.2 h2', m_gripAt_hit j M x h.hk h.k12 h0 (c.pl.trans hb.1) ((c.ok.sp hb.1).1.trans hb.2) (fun g hg z => h2' g hg (tr g (by omega) z))⟩
theorem lDist_self {n a : Nat} (hn : 0 < n) (h : n < 2 ^ 31) : lDist (nI n) (nI a) (nI a) = 0 := by
  unfold lDist
  rw [if_pos (Int32.le_refl _), Int32.sub_self, Int32.sub_zero, if_neg (nI_nle hn h)]
theorem rc_isFree (h : RRel k n L (mA M j)) (hN : mN M = nI n) (i : Int32) : fX0_isRoomAt L i = some (if sCt (lBad L i) k = 0 then 1 else 0) ∧ fX5_isFree j M i = some (if sCt (lBad L i) k = 0 then 1 else 0) := by
  have e : ∀ g, g < k → mBad j M i g = lBad L i g := fun g hg => by
    have c := h.cell g hg
    unfold mBad lBad
    by_cases z : lPl L g = 0
    · rw [c.pl, h.l3, hN, h.hn, (c.ok.sp z).1]
    · rw [c.pl, decide_eq_false (fun q => z q.1), decide_eq_false (fun q => z q.1)]
  have hn4 := h.n4
  have hn20 := h.n20
  refine ⟨?_, ?_⟩
  · rw [s_isRoomAt, sCt_ext (p := lBad L i) h.k12 (fun g h1 h2 => decide_eq_false (fun z => absurd ((h.abs g h1 h2).symm.trans z.1) (by decide)))]
  · rw [m_isFree j M i h.hk h.k12, sCt_cong e]
    intro g hg h1 h2
    rw [e g hg]
    have c := h.cell g hg
    rw [c.pl] at h1
    obtain ⟨e1, a, ha, e2⟩ := c.ok.sp h1
    have e3 : i = nI a := h2.symm.trans (e1.trans e2)
    refine decide_eq_true ⟨h1, ?_⟩
    rw [h.hn, e2, e3, lDist_self (by omega) (by omega)]
    obtain ⟨v, v1, v2, v3⟩ := h.limOk.2.2.2.1
    rw [v3]
    exact nI_nle (by omega) (by omega)
end RC

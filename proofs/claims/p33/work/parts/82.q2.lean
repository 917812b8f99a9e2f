/-! PURE LEVEL of the property: what a step changes: the grips' numbers, pulls, the line -/
def EG (B : Nat) (we cy wr pu sl : Int32) : Prop := ∃ w c p, w ≤ 3 ∧ c ≤ B ∧ p ≤ B ∧ we = nI w ∧ cy = nI c ∧ wr = nI (c * (1 + w)) ∧ pu = nI p ∧ ((p = 0 ∧ sl = -9) ∨ (1 ≤ p ∧ ∃ v, v ≤ B + 5 ∧ sl = nI v))
def Ext (B : Nat) (L : LSt) : Prop := (∃ c, c ≤ B ∧ lClk L = nI c) ∧ ∀ g, g < 12 → ¬ lPl L g = -1 → EG B (lWe L g) (lCy L g) (lWr L g) (lPu L g) (lSl L g)
theorem EG.mono {B B' : Nat} {we cy wr pu sl : Int32} (h : EG B we cy wr pu sl) (hB : B ≤ B') : EG B' we cy wr pu sl := by
  obtain ⟨w, c, p, h1, h2, h3, h4, h5, h6, h7, h8⟩ := h
  exact ⟨w, c, p, h1, by omega, by omega, h4, h5, h6, h7, h8.imp id (fun z => ⟨z.1, z.2.elim fun v hv => ⟨v, by omega, hv.2⟩⟩)⟩
theorem Ext.mono {B B' : Nat} {L : LSt} (h : Ext B L) (hB : B ≤ B') : Ext B' L := ⟨h.1.elim fun c hc => ⟨c, by omega, hc.2⟩, fun g hg hp => (h.2 g hg hp).mono hB⟩
theorem sCt_one {p q : Nat → Bool} {i : Nat} : ∀ {n : Nat}, i < n → (∀ j, j < n → j ≠ i → p j = q j) → sCt q n + (if p i then 1 else 0) = sCt p n + (if q i then 1 else 0)
  | 0, h, _ => absurd h (Nat.not_lt_zero i)
  | n + 1, h, hpq => by
    rw [sCt, sCt]
    by_cases e : i = n
    · subst e
      rw [sCt_cong (p := p) (q := q) (fun j hj => hpq j (by omega) (by omega))]
      omega
    · have := sCt_one (n := n) (by omega) (fun j hj hne => hpq j (by omega) hne)
      rw [hpq n (by omega) (fun z => e z.symm)]
      omega
theorem sm_one {f g : Nat → Nat} {i : Nat} : ∀ {n : Nat}, i < n → (∀ j, j < n → j ≠ i → f j = g j) → fb_sm g n + f i = fb_sm f n + g i
  | 0, h, _ => absurd h (Nat.not_lt_zero i)
  | n + 1, h, hfg => by
    rw [fb_sm_succ, fb_sm_succ]
    by_cases e : i = n
    · subst e
      rw [fb_sm_cong (f := f) (g := g) (fun j hj => hfg j (by omega) (by omega))]
      omega
    · have := sm_one (n := n) (by omega) (fun j hj hne => hfg j (by omega) hne)
      rw [hfg n (by omega) (fun z => e z.symm)]
      omega
def PassF (g : Nat) (r : Int32) (L : LSt) (e : Int32) (L' : LSt) : Prop :=
  (∀ i, i ≠ g → lWe L' i = lWe L i ∧ lCy L' i = lCy L i ∧ lWr L' i = lWr L i ∧ lPu L' i = lPu L i ∧ lSl L' i = lSl L i ∧ lPl L' i = lPl L i) ∧ lClk L' = lClk L ∧ lStn L' = lStn L ∧ lWe L' g = lWe L g ∧ lCy L' g = lCy L g + 1 ∧ lWr L' g = lWr L g + (1 + lWe L g) ∧
  ((e = 0 ∧ lPu L' g = lPu L g ∧ lSl L' g = lSl L g ∧ lPl L' g = 0) ∨ (e = 1 ∧ lPu L' g = lPu L g + 1 ∧ lSl L' g = (lWr L g + (1 + lWe L g)) / 4 + (r / 16 - r / 16 / 5 * 5) ∧ lPl L' g = 0) ∨ ((e = 1 ||| 2 ∨ e = 1 ||| 4) ∧ lPu L' g = lPu L g + 1 ∧ lSl L' g = (lWr L g + (1 + lWe L g)) / 4 + (r / 16 - r / 16 / 5 * 5) ∧ lPl L' g = 2))
set_option maxHeartbeats 2000000 in
theorem f_pass {k n g : Nat} {L : LSt} (h : LOk k n L) (hg : g < k) (hp : lPl L g = 0) (r : Int32) : ∃ e L', fX0_pass L (nI g) r = some (e, L') ∧ PassF g r L e L' := by
  have hk12 := h.k12
  obtain ⟨v, v1, v2, v3⟩ := h.lim.2.2.1
  have n2 : ¬ lLi L 2 ≤ 0 := by rw [v3]; exact nI_nle (by omega) (by omega)
  have z2 : ∀ {α : Type} (k : Option α), nz (lLi L 2) k = k := fun k => by unfold nz; rw [if_neg]; rw [v3]; exact nI_ne0 (by omega) (by omega)
  unfold fX0_pass
  rw [gd_nI (by omega) (by decide)]
  simp (disch := omega) only [nI_clamp, upd_at, if_neg n2, z2]
  have oth : ∀ (i : Nat), i ≠ g → ∀ (f : RI) (x : Int32), upd f g x i = f i := fun i hi f x => upd_ne hi
  by_cases h1 : lCy L g + 1 < lLi L 0
  · by_cases h2 : r - r / lLi L 2 * lLi L 2 = 0
    · by_cases h3 : lLi L 1 < (lWr L g + (1 + lWe L g)) / 4 + (r / 16 - r / 16 / 5 * 5)
      · simp only [if_pos h1, if_pos h2, if_pos h3]
        exact ⟨_, _, rfl, fun i hi => ⟨rfl, upd_ne hi, upd_ne hi, upd_ne hi, upd_ne hi, upd_ne hi⟩, rfl, rfl, rfl, upd_at, upd_at, Or.inr (Or.inr ⟨Or.inr rfl, upd_at, upd_at, upd_at⟩)⟩
      · simp only [if_pos h1, if_pos h2, if_neg h3]
        exact ⟨_, _, rfl, fun i hi => ⟨rfl, upd_ne hi, upd_ne hi, upd_ne hi, upd_ne hi, rfl⟩, rfl, rfl, rfl, upd_at, upd_at, Or.inr (Or.inl ⟨rfl, upd_at, upd_at, hp⟩)⟩
    · simp only [if_pos h1, if_neg h2]
      exact ⟨_, _, rfl, fun i hi => ⟨rfl, upd_ne hi, upd_ne hi, rfl, rfl, rfl⟩, rfl, rfl, rfl, upd_at, upd_at, Or.inl ⟨rfl, rfl, rfl, hp⟩⟩
  · have e9 : ∀ (c : Prop) [Decidable c] {α : Type} (x : α), (if c then x else x) = x := fun c _ _ x => by split <;> rfl
    simp only [if_neg h1, e9]
    exact ⟨_, _, rfl, fun i hi => ⟨rfl, upd_ne hi, upd_ne hi, upd_ne hi, upd_ne hi, upd_ne hi⟩, rfl, rfl, rfl, upd_at, upd_at, Or.inr (Or.inr ⟨Or.inl rfl, upd_at, upd_at, upd_at⟩)⟩
def RepF (L S : LSt) : Prop := lWe S = lWe L ∧ lPu S = lPu L ∧ lSl S = lSl L ∧ lClk S = lClk L ∧ lStn S = lStn L ∧ ∀ g, (lPl S g = lPl L g ∧ lCy S g = lCy L g ∧ lWr S g = lWr L g) ∨ (lPl L g = 2 ∧ lPl S g = 1 ∧ lCy S g = 0 ∧ lWr S g = 0)
theorem RepF.rf (L : LSt) : RepF L L := ⟨rfl, rfl, rfl, rfl, rfl, fun _ => Or.inl ⟨rfl, rfl, rfl⟩⟩
set_option maxHeartbeats 1000000 in
theorem f_repair (L : LSt) (p : Int32) : ∃ S, fX0_repairAllBut L p = some S ∧ RepF L S := by
  refine run_inv (fun f s i => fX0_repairAllBut_L2 f s p (nI i)) (fun _ s => RepF L s) (RepF L) 12 (fun i f s hi hI => ?_) (fun f s hI => ⟨s, ?_, hI⟩) 12 0 KF L rfl (by decide) (by decide) (RepF.rf L)
  · show ∃ s', RepF L s' ∧ fX0_repairAllBut_L2 (f + 1) s p (nI i) = fX0_repairAllBut_L2 f s' p (nI (i + 1))
    rw [fX0_repairAllBut_L2, if_neg (l12 hi), gd_nI hi (by decide), nI_clamp (by omega), nI_1]
    obtain ⟨q1, q2, q3, q4, q5, q6⟩ := id hI
    by_cases h2 : lPl s i = 2
    · rw [if_pos h2]
      by_cases hx : nI i = p
      · rw [if_pos hx]; exact ⟨s, hI, rfl⟩
      · rw [if_neg hx]
        by_cases h3 : upd (lSt s) i (lSt s i - 1) i ≤ 0
        · rw [if_pos h3]
          refine ⟨_, ?_, rfl⟩
          refine ⟨q1, q2, q3, q4, q5, fun g => ?_⟩
          by_cases e : g = i
          · subst e
            refine Or.inr ⟨?_, upd_at, upd_at, upd_at⟩
            rcases q6 g with z | z
            · exact z.1.symm.trans h2
            · exact z.1
          · rcases q6 g with z | z
            · exact Or.inl ⟨(upd_ne e).trans z.1, (upd_ne e).trans z.2.1, (upd_ne e).trans z.2.2⟩
            · exact Or.inr ⟨z.1, (upd_ne e).trans z.2.1, (upd_ne e).trans z.2.2.1, (upd_ne e).trans z.2.2.2⟩
        · rw [if_neg h3]
          refine ⟨_, ?_, rfl⟩
          exact ⟨q1, q2, q3, q4, q5, q6⟩
    · rw [if_neg h2]; exact ⟨s, hI, rfl⟩
  · show fX0_repairAllBut_L2 (f + 1) s p (nI 12) = _
    rw [fX0_repairAllBut_L2, if_pos g12]
theorem f_fill (S : LSt) : ∃ e L', fX0_fillStation S = some (e, L') ∧ ((e = 0 ∧ L' = S) ∨ (e = 8 ∧ ∃ c, c < 12 ∧ lPl S c = 1 ∧ L' = (lWe S, lCy S, lWr S, lPu S, lSl S, upd (lPl S) c 0, upd (lSp S) c (lStn S), lSt S, lLi S, lN_ S, lStn S, lClk S, lRnd S))) := by
  obtain ⟨x, x1, x2⟩ := s_fill S
  rcases x1 with ⟨rfl, _⟩ | ⟨c, c1, rfl, c2, -⟩
  · exact ⟨0, S, by rw [x2, if_pos (by decide)], Or.inl ⟨rfl, rfl⟩⟩
  · rw [if_neg (nI_pos (by omega)), s_isRoomAt, Option.bind_some] at x2
    by_cases hb : sCt (lBad S (lStn S)) 12 = 0
    · rw [if_pos hb, if_neg (by decide)] at x2
      unfold fX0_hang at x2
      rw [gd_nI c1 (by decide), nI_clamp (by omega), Option.bind_some] at x2
      exact ⟨8, _, x2, Or.inr ⟨rfl, c, c1, c2.2, rfl⟩⟩
    · rw [if_neg hb, if_pos rfl] at x2
      exact ⟨0, S, x2, Or.inl ⟨rfl, rfl⟩⟩
def bN (e : Int32) (w : Nat) : Nat := (eB e w).toNatClampNeg
def pN (L : LSt) (g : Nat) : Nat := (lPu L g).toNatClampNeg
def SP (L : LSt) (k : Nat) : Nat := fb_sm (pN L) k
/-- what a step does to the sums -/
def StepF (k : Nat) (L : LSt) (e : Int32) (L' : LSt) : Prop := (∀ w, w < 4 → eB e w = nI (bN e w) ∧ bN e w ≤ 1) ∧ cN L' k 0 + bN e 1 + bN e 2 = cN L k 0 + bN e 3 ∧ (∀ B, B ≤ 100000 → Ext B L → Ext (B + 1) L' ∧ SP L' k = SP L k + bN e 0) ∧ lClk L' = lClk L + 1
theorem ev_bits {e d : Int32} (he : Ev1 e) (hd : d = 0 ∨ d = 8) : (∀ w, w < 4 → eB (e ||| d) w = nI (bN (e ||| d) w) ∧ bN (e ||| d) w ≤ 1) ∧ bN (e ||| d) 0 = (if e = 0 then 0 else 1) ∧ bN (e ||| d) 1 + bN (e ||| d) 2 = (if e = 0 ∨ e = 1 then 0 else 1) ∧ bN (e ||| d) 3 = (if d = 0 then 0 else 1) := by
  rcases he with rfl | rfl | rfl | rfl <;> rcases hd with rfl | rfl <;> exact ⟨i4 (by decide +kernel) (by decide +kernel) (by decide +kernel) (by decide +kernel), by decide +kernel, by decide +kernel, by decide +kernel⟩
def PreF (k : Nat) (L : LSt) (e1 : Int32) (L1 : LSt) : Prop := Ev1 e1 ∧ cN L1 k 0 + (if e1 = 0 ∨ e1 = 1 then 0 else 1) = cN L k 0 ∧ (∀ g, k ≤ g → g < 12 → lPl L1 g = -1) ∧ lClk L1 = lClk L ∧ (∀ B, B ≤ 100000 → Ext B L → (∀ g, g < 12 → ¬ lPl L1 g = -1 → EG (B + 1) (lWe L1 g) (lCy L1 g) (lWr L1 g) (lPu L1 g) (lSl L1 g)) ∧ SP L1 k = SP L k + (if e1 = 0 then 0 else 1))
theorem EG.zero {B : Nat} {we cy wr pu sl : Int32} (h : EG B we cy wr pu sl) : EG B we 0 0 pu sl := by
  obtain ⟨w, c, p, h1, h2, h3, h4, h5, h6, h7, h8⟩ := h
  exact ⟨w, 0, p, h1, Nat.zero_le _, h3, h4, rfl, by rw [Nat.zero_mul]; rfl, h7, h8⟩
set_option maxHeartbeats 1000000 in
theorem f_tail {k : Nat} (hk : k ≤ 12) {L L1 : LSt} {e1 : Int32} (h : PreF k L e1 L1) (p : Int32) : ∃ S e2 L2, fX0_repairAllBut L1 p = some S ∧ fX0_fillStation S = some (e2, L2) ∧ StepF k L (e1 ||| e2) (lWe L2, lCy L2, lWr L2, lPu L2, lSl L2, lPl L2, lSp L2, lSt L2, lLi L2, lN_ L2, lStn L2, lClk L2 + 1, lRnd L2) := by
  obtain ⟨hE, hC, hA, hclk, hX⟩ := h
  obtain ⟨S, s1, s2⟩ := f_repair L1 p
  obtain ⟨e2, L2, t1, t2⟩ := f_fill S
  refine ⟨S, e2, L2, s1, t1, ?_⟩
  obtain ⟨r1, r2, r3, r4, -, r6⟩ := s2
  have he2 : e2 = 0 ∨ e2 = 8 := t2.imp And.left And.left
  obtain ⟨b0, b1, b2, b3⟩ := ev_bits hE he2
  have cS : cN S k 0 = cN L1 k 0 := sCt_cong (fun g hg => by
    rcases r6 g with z | z
    · show decide (lPl S g = nI 0) = decide (lPl L1 g = nI 0); rw [z.1]
    · show decide (lPl S g = nI 0) = decide (lPl L1 g = nI 0); rw [z.1, z.2.1]; decide)
  have absS : ∀ g, k ≤ g → g < 12 → lPl S g = -1 := fun g h1 h2 => by
    rcases r6 g with z | z
    · exact z.1.trans (hA g h1 h2)
    · exact absurd (z.1.symm.trans (hA g h1 h2)) (by decide)
  have exS : ∀ B, B ≤ 100000 → Ext B L → (∀ g, g < 12 → ¬ lPl S g = -1 → EG (B + 1) (lWe S g) (lCy S g) (lWr S g) (lPu S g) (lSl S g)) ∧ SP S k = SP L k + (if e1 = 0 then 0 else 1) := fun B hB hx => by
    obtain ⟨y1, y2⟩ := hX B hB hx
    refine ⟨fun g hg hp => ?_, ?_⟩
    · rw [r1, r2, r3]
      rcases r6 g with z | z
      · rw [z.2.1, z.2.2]; exact y1 g hg (by rw [← z.1]; exact hp)
      · rw [z.2.2.1, z.2.2.2]; exact (y1 g hg (by rw [z.1]; decide)).zero
    · rw [← y2]; unfold SP; exact fb_sm_cong (fun g _ => by unfold pN; rw [r2])
  have clk9 : ∀ B, Ext B L → ∃ c, c ≤ B + 1 ∧ lClk S + 1 = nI c := fun B hx => by
    obtain ⟨c, c1, c2⟩ := hx.1
    exact ⟨c + 1, by omega, by rw [r4, hclk, c2, nI_1]⟩
  rcases t2 with ⟨rfl, rfl⟩ | ⟨rfl, c, c1, c2, rfl⟩
  · refine ⟨b0, ?_, fun B hB hx => ⟨⟨clk9 B hx, fun g hg hp => (exS B hB hx).1 g hg hp⟩, ?_⟩, by show lClk L2 + 1 = _; rw [r4, hclk]⟩
    · have : bN (e1 ||| 0) 3 = 0 := by rw [b3]; rfl
      show cN L2 k 0 + _ + _ = _
      rw [this, cS]
      omega
    · show SP L2 k = _
      rw [(exS B hB hx).2, b1]
  · have hck : c < k := by
      rcases Nat.lt_or_ge c k with q | q
      · exact q
      · have := absS c q c1; rw [this] at c2; exact absurd c2 (by decide)
    refine ⟨b0, ?_, fun B hB hx => ⟨⟨clk9 B hx, fun g hg hp => ?_⟩, ?_⟩, by show lClk S + 1 = _; rw [r4, hclk]⟩
    · have h8 : bN (e1 ||| 8) 3 = 1 := by rw [b3]; rfl
      have := sCt_one (p := fun g => decide (lPl S g = nI 0)) (q := fun g => decide (upd (lPl S) c 0 g = nI 0)) hck (fun j hj hne => by show decide (lPl S j = nI 0) = decide (upd (lPl S) c 0 j = nI 0); rw [upd_ne hne])
      rw [if_neg (show ¬ decide (lPl S c = nI 0) = true by rw [c2]; decide), if_pos (show decide (upd (lPl S) c 0 c = nI 0) = true by rw [upd_at]; decide)] at this
      show sCt (fun g => decide (upd (lPl S) c 0 g = nI 0)) k + _ + _ = _
      rw [h8]
      have e9 : sCt (fun g => decide (upd (lPl S) c 0 g = nI 0)) k + 0 = cN S k 0 + 1 := this
      omega
    · have hp : ¬ upd (lPl S) c 0 g = -1 := hp
      refine (exS B hB hx).1 g hg ?_
      by_cases q : g = c
      · rw [q, c2]; decide
      · rw [upd_ne q] at hp; exact hp
    · show SP S k = _
      rw [(exS B hB hx).2, b1]
theorem div4 {a : Nat} (h : a < 2 ^ 31) : nI a / 4 = nI (a / 4) := pk_div (d := 4) h (by decide) (by decide)
theorem rem5 {ρ : Nat} (h : ρ < 2 ^ 31) : nI ρ / 16 - nI ρ / 16 / 5 * 5 = nI (ρ / 16 % 5) := by
  rw [show nI ρ / 16 = nI (ρ / 16) from pk_div (d := 16) h (by decide) (by decide)]
  exact pk_rem (d := 5) (by omega) (by decide) (by decide)
set_option maxHeartbeats 1000000 in
theorem f_pre {k n g ρ : Nat} {L L1 : LSt} {e1 : Int32} (h : LOk k n L) (hg : g < k) (hp : lPl L g = 0) (hρ : ρ < 2 ^ 31) (hF : PassF g (nI ρ) L e1 L1) : PreF k L e1 L1 := by
  have hk := h.k12
  obtain ⟨o, f1, -, f2, f3, f4, f5⟩ := hF
  have cnt := sCt_one (p := fun i => decide (lPl L i = nI 0)) (q := fun i => decide (lPl L1 i = nI 0)) hg (fun j hj hne => by show decide (lPl L j = nI 0) = decide (lPl L1 j = nI 0); rw [(o j hne).2.2.2.2.2])
  rw [if_pos (show decide (lPl L g = nI 0) = true by rw [hp]; decide)] at cnt
  have cnt : cN L1 k 0 + 1 = cN L k 0 + (if decide (lPl L1 g = nI 0) = true then 1 else 0) := cnt
  refine ⟨?_, ?_, fun i h1 h2 => ((o i (by omega)).2.2.2.2.2).trans (h.abs i h1 h2), f1, fun B hB hx => ?_⟩
  · rcases f5 with z | z | z
    · exact Or.inl z.1
    · exact Or.inr (Or.inl z.1)
    · exact Or.inr (Or.inr z.1)
  · rcases f5 with ⟨rfl, -, -, z⟩ | ⟨rfl, -, -, z⟩ | ⟨z0, -, -, z⟩
    · rw [if_pos (by rw [z]; decide)] at cnt; rw [if_pos (Or.inl rfl)]; omega
    · rw [if_pos (by rw [z]; decide)] at cnt; rw [if_pos (Or.inr rfl)]; omega
    · rw [if_neg (by rw [z]; decide)] at cnt
      rw [if_neg (by rcases z0 with rfl | rfl <;> decide)]; omega
  · obtain ⟨w, c, p, a1, a2, a3, a4, a5, a6, a7, a8⟩ := hx.2 g (by omega) (by rw [hp]; decide)
    have ew : lWr L g + (1 + lWe L g) = nI ((c + 1) * (1 + w)) := by
      rw [a6, a4, show (1 : Int32) + nI w = nI (1 + w) from nI_add 1 w, nI_add, Nat.add_mul, Nat.one_mul]
    have hb : (c + 1) * (1 + w) ≤ (B + 1) * 4 := Nat.mul_le_mul (by omega) (by omega)
    have hd : (c + 1) * (1 + w) / 4 ≤ B + 1 := by omega
    have hr5 : ρ / 16 % 5 < 5 := Nat.mod_lt _ (by decide)
    have esl : (lWr L g + (1 + lWe L g)) / 4 + (nI ρ / 16 - nI ρ / 16 / 5 * 5) = nI ((c + 1) * (1 + w) / 4 + ρ / 16 % 5) := by
      rw [ew, div4 (by omega), rem5 hρ, nI_add]
    have hpu : pN L g = p := by unfold pN; rw [a7, nI_clamp (by omega)]
    have spo : ∀ j, j < k → j ≠ g → pN L j = pN L1 j := fun j hj hne => by unfold pN; rw [(o j hne).2.2.2.1]
    have spg := sm_one (f := pN L) (g := pN L1) hg spo
    have oth : ∀ i, i < 12 → ¬ lPl L1 i = -1 → i ≠ g → EG (B + 1) (lWe L1 i) (lCy L1 i) (lWr L1 i) (lPu L1 i) (lSl L1 i) := fun i hi hpi hne => by
      obtain ⟨b1, b2, b3, b4, b5, b6⟩ := o i hne
      rw [b1, b2, b3, b4, b5]
      exact (hx.2 i hi (by rw [← b6]; exact hpi)).mono (by omega)
    rcases f5 with ⟨rfl, y1, y2, -⟩ | ⟨rfl, y1, y2, -⟩ | ⟨z0, y1, y2, -⟩
    · refine ⟨fun i hi hpi => ?_, ?_⟩
      · by_cases e : i = g
        · subst e
          rw [f2, f3, f4, y1, y2, ew, a5, nI_1]
          exact ⟨w, c + 1, p, a1, by omega, by omega, a4, rfl, rfl, a7, a8.imp id (fun z => ⟨z.1, z.2.elim fun v hv => ⟨v, by omega, hv.2⟩⟩)⟩
        · exact oth i hi hpi e
      · rw [if_pos rfl]
        have : pN L1 g = pN L g := by unfold pN; rw [y1]
        unfold SP; omega
    · refine ⟨fun i hi hpi => ?_, ?_⟩
      · by_cases e : i = g
        · subst e
          rw [f2, f3, f4, y1, y2, esl, ew, a5, a7, nI_1, nI_1]
          exact ⟨w, c + 1, p + 1, a1, by omega, by omega, a4, rfl, rfl, rfl, Or.inr ⟨by omega, _, by omega, rfl⟩⟩
        · exact oth i hi hpi e
      · rw [if_neg (by decide)]
        have : pN L1 g = p + 1 := by unfold pN; rw [y1, a7, nI_1, nI_clamp (by omega)]
        unfold SP; omega
    · refine ⟨fun i hi hpi => ?_, ?_⟩
      · by_cases e : i = g
        · subst e
          rw [f2, f3, f4, y1, y2, esl, ew, a5, a7, nI_1, nI_1]
          exact ⟨w, c + 1, p + 1, a1, by omega, by omega, a4, rfl, rfl, rfl, Or.inr ⟨by omega, _, by omega, rfl⟩⟩
        · exact oth i hi hpi e
      · rw [if_neg (by rcases z0 with rfl | rfl <;> decide)]
        have : pN L1 g = p + 1 := by unfold pN; rw [y1, a7, nI_1, nI_clamp (by omega)]
        unfold SP; omega
def fCore (L : LSt) (x r : Int32) : Option (Int32 × LSt) := (fX0_gripAt L x).bind (fun r48 => (if 0 ≤ r48 then (fX0_pass L r48 r).bind (fun r70 => (fX0_repairAllBut r70.2 r48).bind (fun r76 => (fX0_fillStation r76).bind (fun r81 => some ((r70.1 ||| r81.1), ((lWe r81.2), (lCy r81.2), (lWr r81.2), (lPu r81.2), (lSl r81.2), (lPl r81.2), (lSp r81.2), (lSt r81.2), (lLi r81.2), (lN_ r81.2), (lStn r81.2), ((lClk r81.2) + 1), (lRnd r81.2)))))) else (fX0_repairAllBut L r48).bind (fun r76 => (fX0_fillStation r76).bind (fun r81 => some ((0 ||| r81.1), ((lWe r81.2), (lCy r81.2), (lWr r81.2), (lPu r81.2), (lSl r81.2), (lPl r81.2), (lSp r81.2), (lSt r81.2), (lLi r81.2), (lN_ r81.2), (lStn r81.2), ((lClk r81.2) + 1), (lRnd r81.2)))))))
theorem f_core {k n ρ : Nat} {L : LSt} (h : LOk k n L) (x : Int32) (hρ : ρ < 2 ^ 31) : ∃ e L', fCore L x (nI ρ) = some (e, L') ∧ StepF k L e L' := by
  have hk := h.k12
  obtain ⟨M, hr, -⟩ := h.m 0
  unfold fCore
  rcases rc_gripAt hr x with ⟨g1, -, -⟩ | ⟨g0, g1, g2, g3, g4, -⟩
  · have hP : PreF k L 0 L := ⟨Or.inl rfl, by rw [if_pos (Or.inl rfl)]; rfl, h.abs, rfl, fun B _ hx => ⟨fun g hg hp => (hx.2 g hg hp).mono (by omega), rfl⟩⟩
    obtain ⟨S, e2, L2, s1, s2, s3⟩ := f_tail hk hP (-9)
    rw [g1, Option.bind_some, if_neg (by decide), s1, Option.bind_some, s2, Option.bind_some]
    exact ⟨_, _, rfl, s3⟩
  · obtain ⟨e1, L1, p1, p2⟩ := f_pass h g1 g2 (nI ρ)
    have hP := f_pre h g1 g2 hρ p2
    obtain ⟨S, e2, L2, s1, s2, s3⟩ := f_tail hk hP (nI g0)
    rw [g4, Option.bind_some, if_pos (nI_pos' (by omega)), p1, Option.bind_some, s1, Option.bind_some, s2, Option.bind_some]
    exact ⟨_, _, rfl, s3⟩
theorem rnd31 (y : Int64) : ∃ ρ, ρ < 2 ^ 31 ∧ ((((y).toUInt64 >>> (((33 : Int32)).toInt64.toUInt64 &&& Int64.toUInt64 63)).toInt64).toInt32) = nI ρ := by
  obtain ⟨m, hm, rfl⟩ := wb_of y
  refine ⟨m / 2 ^ 33, by omega, ?_⟩
  have := wb_shr (n := m) (k := 33) hm (by decide)
  rw [show ((33 : Int32)) = nI 33 from rfl, this, lN_i]
/-- a lift with another station and random state -/
theorem LOk.sr {k n s : Nat} {L : LSt} (h : LOk k n L) (hs : s < n) (x : Int64) : LOk k n (lWe L, lCy L, lWr L, lPu L, lSl L, lPl L, lSp L, lSt L, lLi L, lN_ L, nI s, lClk L, x) := h.elim fun r hr => ⟨_, RRel_sr hr hs x⟩
theorem StepF.of {k : Nat} {L L0 : LSt} {e : Int32} {L' : LSt} (h : StepF k L0 e L') (e1 : lPl L0 = lPl L) (e2 : lPu L0 = lPu L) (e3 : ∀ B, Ext B L → Ext B L0) (e4 : lClk L0 = lClk L) : StepF k L e L' := by
  obtain ⟨h1, h2, h3, h4⟩ := h
  refine ⟨h1, ?_, fun B hB hx => ?_, by rw [h4, e4]⟩
  · rw [h2]; unfold cN; rw [e1]
  · obtain ⟨y1, y2⟩ := h3 B hB (e3 B hx)
    refine ⟨y1, y2.trans ?_⟩
    unfold SP
    rw [fb_sm_cong (f := pN L0) (g := pN L) (fun g _ => by unfold pN; rw [e2])]
def rOfY (y : Int64) : Int32 := ((((y).toUInt64 >>> (((33 : Int32)).toInt64.toUInt64 &&& Int64.toUInt64 63)).toInt64).toInt32)
def srL (L : LSt) (c : Int32) (y : Int64) : LSt := (lWe L, lCy L, lWr L, lPu L, lSl L, lPl L, lSp L, lSt L, lLi L, lN_ L, c, lClk L, y)
theorem adv_if (L : LSt) (y : Int64) (hy : lRnd L * 6364136223846793005 + 1442695040888963407 = y) : fX0_advance L = if lN_ L ≤ lStn L + 1 then fCore (srL L 0 y) 0 (rOfY y) else fCore (srL L (lStn L + 1) y) (lStn L + 1) (rOfY y) := by
  unfold fX0_advance
  rw [hy]
  rfl
theorem step_go {k n : Nat} {L : LSt} (h : LOk k n L) {s' : Nat} {c : Int32} {y : Int64} (hs : s' < n) (hc : c = nI s') (e : fCore (srL L c y) c (rOfY y) = some (advE L, advS L)) : StepF k L (advE L) (advS L) := by
  subst hc
  obtain ⟨ρ, ρ1, ρ2⟩ := rnd31 y
  obtain ⟨e', L', q1, q2⟩ := f_core (L := srL L (nI s') y) (h.sr hs y) (nI s') ρ1
  rw [show rOfY y = nI ρ from ρ2, q1] at e
  have e1 := congrArg Prod.fst (Option.some.inj e)
  have e2 := congrArg Prod.snd (Option.some.inj e)
  have e1 : e' = advE L := e1
  have e2 : L' = advS L := e2
  rw [e1, e2] at q2
  exact q2.of rfl rfl (fun B hx => hx) rfl
/-- ONE STEP -/
theorem step_f {k n : Nat} {L : LSt} (h : LOk k n L) : StepF k L (advE L) (advS L) := by
  have hn4 := h.n4
  have hn20 := h.n20
  have ha := h.adv
  obtain ⟨s, s1, s2⟩ := h.stn
  obtain ⟨y, hy⟩ : ∃ y, lRnd L * 6364136223846793005 + 1442695040888963407 = y := ⟨_, rfl⟩
  rw [adv_if L y hy] at ha
  by_cases hc : s + 1 = n
  · rw [if_pos (show lN_ L ≤ lStn L + 1 by rw [h.hn, s2, nI_1, hc]; exact Int32.le_refl _)] at ha
    exact step_go h (s' := 0) (by omega) rfl ha
  · rw [if_neg (show ¬ lN_ L ≤ lStn L + 1 by rw [h.hn, s2, nI_1]; exact nI_ge (by omega) (by omega))] at ha
    exact step_go h (s' := s + 1) (by omega) (by rw [s2, nI_1]) ha
-- many steps
def sN (L : LSt) (w : Nat) : Nat → Nat
  | 0 => 0
  | i + 1 => sN L w i + bN (advE (itL L i)) w
theorem sN_le {k n : Nat} {L : LSt} (h : LOk k n L) {w : Nat} (hw : w < 4) : ∀ i, sEv L w i = nI (sN L w i) ∧ sN L w i ≤ i
  | 0 => ⟨rfl, Nat.le_refl 0⟩
  | i + 1 => by
    obtain ⟨h1, h2⟩ := sN_le h hw i
    obtain ⟨q1, q2⟩ := (step_f (h.it i)).1 w hw
    refine ⟨?_, ?_⟩
    · show sEv L w i + eB (advE (itL L i)) w = nI (sN L w i + bN (advE (itL L i)) w)
      rw [h1, q1, nI_add]
    · show sN L w i + bN (advE (itL L i)) w ≤ i + 1
      omega
theorem it_cnt {k n : Nat} {L : LSt} (h : LOk k n L) : ∀ i, cN (itL L i) k 0 + sN L 1 i + sN L 2 i = cN L k 0 + sN L 3 i
  | 0 => rfl
  | i + 1 => by
    have h1 := it_cnt h i
    have h2 := (step_f (h.it i)).2.1
    show cN (advS (itL L i)) k 0 + (sN L 1 i + bN (advE (itL L i)) 1) + (sN L 2 i + bN (advE (itL L i)) 2) = cN L k 0 + (sN L 3 i + bN (advE (itL L i)) 3)
    omega
theorem it_ext {k n B : Nat} {L : LSt} (h : LOk k n L) (hx : Ext B L) : ∀ i, B + i ≤ 100000 → Ext (B + i) (itL L i) ∧ SP (itL L i) k = SP L k + sN L 0 i
  | 0, _ => ⟨hx, rfl⟩
  | i + 1, hB => by
    obtain ⟨h1, h2⟩ := it_ext h hx i (by omega)
    obtain ⟨q1, q2⟩ := (step_f (h.it i)).2.2.1 (B + i) (by omega) h1
    refine ⟨q1, ?_⟩
    show SP (advS (itL L i)) k = SP L k + (sN L 0 i + bN (advE (itL L i)) 0)
    omega
theorem sPul_SP {k B : Nat} {L : LSt} (hk : k ≤ 12) (hB : B < 2 ^ 31) (hx : Ext B L) (hab : ∀ g, g < k → ¬ lPl L g = -1) : ∀ i, i ≤ k → sPul L i = nI (SP L i) ∧ SP L i ≤ i * B
  | 0, _ => ⟨rfl, by show 0 ≤ 0 * B; omega⟩
  | i + 1, hi => by
    obtain ⟨h1, h2⟩ := sPul_SP hk hB hx hab i (by omega)
    obtain ⟨w, c, p, a1, a2, a3, a4, a5, a6, a7, a8⟩ := hx.2 i (by omega) (hab i (by omega))
    have hp : pN L i = p := by unfold pN; rw [a7, nI_clamp (by omega)]
    refine ⟨?_, ?_⟩
    · show sPul L i + lPu L i = nI (SP L i + pN L i)
      rw [h1, hp, a7, nI_add]
    · show SP L i + pN L i ≤ (i + 1) * B
      rw [Nat.add_mul, Nat.one_mul]; omega
theorem it_clk {k n : Nat} {L : LSt} (h : LOk k n L) : ∀ i, lClk (itL L i) = lClk L + nI i
  | 0 => by show lClk L = lClk L + 0; rw [Int32.add_zero]
  | i + 1 => by
    have h1 := it_clk h i
    have hs := (step_f (h.it i)).2.2.2
    show lClk (advS (itL L i)) = _
    rw [hs, h1, ← nI_1 i, Int32.add_assoc]

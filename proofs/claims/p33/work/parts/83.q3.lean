/-! PURE LEVEL of the property: all that is told of what is kept -/
/-- two lifts of k grips that tell the same -/
def NEq (k : Nat) (L L' : LSt) : Prop := (∀ g, g < k → ∀ w, w < 8 → nmb L' g w = nmb L g w) ∧ lStn L' = lStn L ∧ lClk L' = lClk L ∧ lRnd L' = lRnd L ∧ ∀ i, i < 5 → lLi L' i = lLi L i
theorem NEq.rf {k : Nat} {L : LSt} : NEq k L L := ⟨fun _ _ _ _ => rfl, rfl, rfl, rfl, fun _ _ => rfl⟩
theorem NEq.tr {k : Nat} {L L' L'' : LSt} (h : NEq k L L') (h2 : NEq k L' L'') : NEq k L L'' := ⟨fun g hg w hw => (h2.1 g hg w hw).trans (h.1 g hg w hw), h2.2.1.trans h.2.1, h2.2.2.1.trans h.2.2.1, h2.2.2.2.1.trans h.2.2.2.1, fun i hi => (h2.2.2.2.2 i hi).trans (h.2.2.2.2 i hi)⟩
theorem NEq.sm {k : Nat} {L L' : LSt} (h : NEq k L L') : NEq k L' L := ⟨fun g hg w hw => (h.1 g hg w hw).symm, h.2.1.symm, h.2.2.1.symm, h.2.2.2.1.symm, fun i hi => (h.2.2.2.2 i hi).symm⟩
theorem nmb_row {k n : Nat} {L : LSt} {r : RI} (h : RRel k n L r) {g w : Nat} (hg : g < k) (hw : w < 8) : nmb L g w = if w < 6 then r (12 * w + g) else if w = 6 then (if r (60 + g) = 0 then r (72 + g) else -9) else (if r (60 + g) = 2 then r (84 + g) else -9) := by
  obtain ⟨c0, c1, c2, c3, c4, c5, c6⟩ := h.cell g hg
  have hw' : w = 0 ∨ w = 1 ∨ w = 2 ∨ w = 3 ∨ w = 4 ∨ w = 5 ∨ w = 6 ∨ w = 7 := by omega
  rcases hw' with rfl | rfl | rfl | rfl | rfl | rfl | rfl | rfl
  · show lWe L g = r (12 * 0 + g); rw [Nat.mul_zero, Nat.zero_add]; exact c0.symm
  · exact c1.symm
  · exact c2.symm
  · exact c3.symm
  · exact c4.symm
  · exact c5.symm
  · show (if lPl L g = 0 then lSp L g else -9) = if r (60 + g) = 0 then r (72 + g) else -9
    rw [c5]
    by_cases z : lPl L g = 0
    · rw [if_pos z, if_pos z, (c6.sp z).1]
    · rw [if_neg z, if_neg z]
  · show (if lPl L g = 2 then lSt L g else -9) = if r (60 + g) = 2 then r (84 + g) else -9
    rw [c5]
    by_cases z : lPl L g = 2
    · rw [if_pos z, if_pos z, (c6.st z).1]
    · rw [if_neg z, if_neg z]
theorem NEq.of {k n : Nat} {L L' : LSt} {r : RI} (h : RRel k n L r) (h' : RRel k n L' r) : NEq k L L' := by
  refine ⟨fun g hg w hw => by rw [nmb_row h hg hw, nmb_row h' hg hw], ?_, h'.clk.trans h.clk.symm, h'.rnd.trans h.rnd.symm, fun i hi => (h'.lim i hi).symm.trans (h.lim i hi)⟩
  obtain ⟨s, -, s1, s2⟩ := h.stn
  obtain ⟨t, -, t1, t2⟩ := h'.stn
  rw [s1, t1, ← s2, ← t2]
theorem NEq.pl {k : Nat} {L L' : LSt} (h : NEq k L L') {g : Nat} (hg : g < k) : lPl L' g = lPl L g := h.1 g hg 5 (by decide)
theorem NEq.sp {k : Nat} {L L' : LSt} (h : NEq k L L') {g : Nat} (hg : g < k) (hp : lPl L g = 0) : lSp L' g = lSp L g := by
  have := h.1 g hg 6 (by decide)
  have e : (if lPl L' g = 0 then lSp L' g else -9) = (if lPl L g = 0 then lSp L g else -9) := this
  rw [if_pos hp, if_pos ((h.pl hg).trans hp)] at e
  exact e
theorem NEq.st {k : Nat} {L L' : LSt} (h : NEq k L L') {g : Nat} (hg : g < k) (hp : lPl L g = 2) : lSt L' g = lSt L g := by
  have := h.1 g hg 7 (by decide)
  have e : (if lPl L' g = 2 then lSt L' g else -9) = (if lPl L g = 2 then lSt L g else -9) := this
  rw [if_pos hp, if_pos ((h.pl hg).trans hp)] at e
  exact e
/-- what one row says it says of the other -/
theorem RRel_tr {k n : Nat} {L L' : LSt} {r : RI} (h : RRel k n L r) (hl : LOk k n L') (he : NEq k L L') : RRel k n L' r := by
  obtain ⟨e1, e2, e3, e4, e5⟩ := id he
  refine ⟨⟨h.k12, h.n4, h.n20, hl.hn, h.hk⟩, ?_, e3.trans h.clk, ⟨fun i hi => (h.lim i hi).trans (e5 i hi).symm, hl.lim⟩, e4.trans h.rnd, fun g hg => ?_, hl.abs, hl.dst⟩
  · obtain ⟨s, s0, s1, s2⟩ := h.stn
    exact ⟨s, s0, e2.trans s1, s2⟩
  · obtain ⟨c0, c1, c2, c3, c4, c5, c6⟩ := h.cell g hg
    have p := he.pl hg
    refine ⟨c0.trans (e1 g hg 0 (by decide)).symm, c1.trans (e1 g hg 1 (by decide)).symm, c2.trans (e1 g hg 2 (by decide)).symm, c3.trans (e1 g hg 3 (by decide)).symm, c4.trans (e1 g hg 4 (by decide)).symm, c5.trans p.symm, ?_⟩
    rw [p]
    rcases c6 with ⟨z1, z2, z3⟩ | z | ⟨z1, z2, z3⟩ | z
    · rw [z1]
      exact Or.inl ⟨rfl, z2.trans (he.sp hg z1).symm, by rw [he.sp hg z1]; exact z3⟩
    · exact Or.inr (Or.inl z)
    · rw [z1]
      exact Or.inr (Or.inr (Or.inl ⟨rfl, z2.trans (he.st hg z1).symm, by rw [he.st hg z1]; exact z3⟩))
    · exact Or.inr (Or.inr (Or.inr z))
theorem NEq_copy {k n : Nat} {L : LSt} (h : LOk k n L) (X : LSt) : NEq k L (lCopy X L) := by
  obtain ⟨r, hr⟩ := h
  exact NEq.of hr (RRel_lCopy hr)
theorem LOk.one {k n k' n' : Nat} {L : LSt} (h : LOk k n L) (h' : LOk k' n' L) : k = k' ∧ n = n' := by
  have a1 := h.k12
  have a2 := h'.k12
  have a3 := h.n20
  have a4 := h'.n20
  refine ⟨?_, (nI_eq (by omega) (by omega)).mp (h.hn.symm.trans h'.hn)⟩
  rcases Nat.lt_trichotomy k k' with q | q | q
  · exact absurd (h.abs k (Nat.le_refl k) (by omega)) (h'.nabs q)
  · exact q
  · exact absurd (h'.abs k' (Nat.le_refl k') (by omega)) (h.nabs q)
/-- whatever the one is, the other is, and tells the same -/
def CL (L L' : LSt) : Prop := ∀ k n, LOk k n L → LOk k n L' ∧ NEq k L L'
theorem CL.rf {L : LSt} : CL L L := fun _ _ h => ⟨h, NEq.rf⟩
theorem CL.tr {L L' L'' : LSt} (h : CL L L') (h2 : CL L' L'') : CL L L'' := fun k n hl => ⟨(h2 k n (h k n hl).1).1, (h k n hl).2.tr (h2 k n (h k n hl).1).2⟩
theorem CL.copy {L : LSt} (X : LSt) : CL L (lCopy X L) := fun _ _ h => ⟨h.copy X, NEq_copy h X⟩
theorem CL.of {k n : Nat} {L L' : LSt} {r : RI} (h : RRel k n L r) (h' : RRel k n L' r) : CL L L' := fun k' n' hl => by
  obtain ⟨rfl, rfl⟩ := LOk.one ⟨r, h⟩ hl
  exact ⟨⟨r, h'⟩, NEq.of h h'⟩
theorem CL.sm {k n : Nat} {L L' : LSt} (hl : LOk k n L) (h : CL L L') : CL L' L := fun k' n' hl' => by
  obtain ⟨h1, h2⟩ := h k n hl
  obtain ⟨rfl, rfl⟩ := LOk.one h1 hl'
  exact ⟨hl, h2.sm⟩
-- the digest
def aX (L : LSt) (k n c : Nat) : Int64 := if c = 0 then lN n else if c = 1 then lN k else if c < 6 then lN (cN L k (c - 2)) else if c = 6 then (lStn L).toInt64 else if c = 7 then (lClk L).toInt64 else (lLi L (c - 8)).toInt64
theorem an_x {k n c : Nat} {L : LSt} {G : GSt} (hL : gLift G = L) (h : LOk k n L) (hc : c < 13) : fL_about G (nI c) = some (aX L k n c, G) := by
  have : c = 0 ∨ c = 1 ∨ (2 ≤ c ∧ c < 6) ∨ c = 6 ∨ c = 7 ∨ c = 8 ∨ c = 9 ∨ c = 10 ∨ c = 11 ∨ c = 12 := by omega
  rcases this with rfl | rfl | z | rfl | rfl | rfl | rfl | rfl | rfl | rfl
  · exact an_0 hL h
  · exact an_1 hL h
  · have := an_c hL h (w := c - 2) (by omega)
    rw [show 2 + (c - 2) = c by omega] at this
    rw [this]; unfold aX; rw [if_neg (by omega), if_neg (by omega), if_pos (by omega)]
  · exact an_6 hL
  · exact an_7 hL
  · exact an_8 hL
  · subst hL; rfl
  · exact an_10 hL
  · exact an_11 hL
  · subst hL; rfl
theorem NEq_cN {k : Nat} {L L' : LSt} (h : NEq k L L') (w : Nat) : cN L' k w = cN L k w := sCt_cong (fun g hg => by show decide (lPl L' g = nI w) = decide (lPl L g = nI w); rw [h.pl hg])
theorem NEq_aX {k : Nat} {L L' : LSt} (h : NEq k L L') {n c : Nat} (hc : c < 13) : aX L' k n c = aX L k n c := by
  unfold aX
  rw [NEq_cN h, h.2.1, h.2.2.1]
  by_cases q : c < 8
  · split
    · rfl
    · split
      · rfl
      · split
        · rfl
        · split
          · rfl
          · rw [if_pos (by omega), if_pos (by omega)]
  · rw [h.2.2.2.2 (c - 8) (by omega)]
def nwA (r : Int64) (a : Nat → Int64) : Nat → Int64
  | 0 => r
  | i + 1 => ((1009 * nwA r a i) + a i) - ((1009 * nwA r a i) + a i) / 1000000007 * 1000000007
def nwB (r : Int64) (b : Nat → Int64) : Nat → Int64
  | 0 => r
  | i + 1 => (((1009 * nwB r b i) + b i) + 20) - (((1009 * nwB r b i) + b i) + 20) / 1000000007 * 1000000007
def nwC (r : Int64) (b : Nat → Nat → Int64) : Nat → Int64
  | 0 => r
  | g + 1 => nwB (nwC r b g) (b g) 8
theorem nwA_cong {r : Int64} {a a' : Nat → Int64} : ∀ {n : Nat}, (∀ c, c < n → a c = a' c) → nwA r a n = nwA r a' n
  | 0, _ => rfl
  | n + 1, h => by rw [nwA, nwA, nwA_cong (n := n) (fun c hc => h c (by omega)), h n (by omega)]
theorem nwB_cong {r : Int64} {a a' : Nat → Int64} : ∀ {n : Nat}, (∀ c, c < n → a c = a' c) → nwB r a n = nwB r a' n
  | 0, _ => rfl
  | n + 1, h => by rw [nwB, nwB, nwB_cong (n := n) (fun c hc => h c (by omega)), h n (by omega)]
theorem nwC_cong {r : Int64} {a a' : Nat → Nat → Int64} : ∀ {n : Nat}, (∀ g, g < n → ∀ w, w < 8 → a g w = a' g w) → nwC r a n = nwC r a' n
  | 0, _ => rfl
  | n + 1, h => by rw [nwC, nwC, nwC_cong (n := n) (fun g hg => h g (by omega)), nwB_cong (fun w hw => h n (by omega) w hw)]
/-- the digest of a lift -/
def nwV (L : LSt) (k n : Nat) : Int64 := nwC (nwA (53 + (lRnd L - lRnd L / 1000003 * 1000003)) (aX L k n) 13) (fun g w => (nmb L g w).toInt64) k
theorem NEq.nw {k n : Nat} {L L' : LSt} (h : NEq k L L') : nwV L' k n = nwV L k n := by
  unfold nwV
  rw [h.2.2.2.1, nwA_cong (a := aX L' k n) (a' := aX L k n) (fun c hc => NEq_aX h hc)]
  exact nwC_cong (fun g hg w hw => by rw [h.1 g hg w hw])
theorem nw_run {k n : Nat} {L : LSt} {G : GSt} (hL : gLift G = L) (h : LOk k n L) : fL_now G = some (nwV L k n, G) := by
  have hk := h.k12
  have hr : fX4_random G = some (lRnd L) := by unfold fX4_random; rw [hL]
  unfold fL_now
  rw [hr, Option.bind_some]
  generalize hr0 : (53 : Int64) + (lRnd L - lRnd L / 1000003 * 1000003) = r0
  have two : ∀ s, fL_now_L45 (fun S y1 => some (y1, S)) 13 G s 0 = some (nwC s (fun g w => (nmb L g w).toInt64) k, G) := fun s => by
    refine run_up (fun f i => fL_now_L45 (fun S y1 => some (y1, S)) f G (nwC s (fun g w => (nmb L g w).toInt64) i) (nI i)) k (fun i f hi => ?_) (fun f => ?_) (by omega)
    · show fL_now_L45 _ (f + 1) G (nwC s (fun g w => (nmb L g w).toInt64) i) (nI i) = fL_now_L45 _ f G (nwC s (fun g w => (nmb L g w).toInt64) (i + 1)) (nI (i + 1))
      rw [fL_now_L45, agr hL h, Option.bind_some, if_neg (nI_ge hi (by omega)), nwC]
      generalize nwC s (fun g w => (nmb L g w).toInt64) i = t
      refine (run_up (fun f' w => fL_now_L56 (fun S y1 y3 => fL_now_L45 (fun S y1 => some (y1, S)) f S y1 (y3 + 1)) f' G (nwB t (fun w => (nmb L i w).toInt64) w) (nI i) (nI w)) 8 (r := fL_now_L45 (fun S y1 => some (y1, S)) f G (nwB t (fun w => (nmb L i w).toInt64) 8) (nI i + 1)) (fuel := 9) (fun w f' hw => ?_) (fun f' => ?_) (by decide)).trans ?_
      · show fL_now_L56 _ (f' + 1) G (nwB t (fun w => (nmb L i w).toInt64) w) (nI i) (nI w) = fL_now_L56 _ f' G (nwB t (fun w => (nmb L i w).toInt64) (w + 1)) (nI i) (nI (w + 1))
        rw [fL_now_L56, if_neg (show ¬ (8 : Int32) ≤ nI w from nI_ge (b := 8) hw (by decide)), ag hL h hi hw, Option.bind_some, nI_1]
        rfl
      · show fL_now_L56 _ (f' + 1) G _ (nI i) (nI 8) = _
        rw [fL_now_L56, if_pos (show (8 : Int32) ≤ nI 8 by decide)]
      · rw [nI_1]
    · show fL_now_L45 _ (f + 1) G _ (nI k) = _
      rw [fL_now_L45, agr hL h, Option.bind_some, if_pos (Int32.le_refl _)]
  refine (run_up (fun f i => fL_now_L15 (fun S y1 => fL_now_L45 (fun S y1 => some (y1, S)) 13 S y1 0) f G (nwA r0 (aX L k n) i) (nI i)) 13 (r := some (nwV L k n, G)) (fuel := 14) (fun i f hi => ?_) (fun f => ?_) (by decide))
  · show fL_now_L15 _ (f + 1) G (nwA r0 (aX L k n) i) (nI i) = fL_now_L15 _ f G (nwA r0 (aX L k n) (i + 1)) (nI (i + 1))
    rw [fL_now_L15, if_neg (show ¬ (13 : Int32) ≤ nI i from nI_ge (b := 13) hi (by decide)), an_x hL h hi, Option.bind_some, nI_1]
    rfl
  · show fL_now_L15 _ (f + 1) G _ (nI 13) = _
    rw [fL_now_L15, if_pos (show (13 : Int32) ≤ nI 13 by decide), two]
    unfold nwV
    rw [hr0]

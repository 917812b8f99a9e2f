/-! PURE LEVEL of the property: the gaps fill the ring -/
theorem sm_zero0 {f : Nat → Nat} : ∀ {n : Nat}, (∀ k, k < n → f k = 0) → fb_sm f n = 0
  | 0, _ => rfl
  | n + 1, h => by rw [fb_sm_succ, sm_zero0 (fun k hk => h k (by omega)), h n (by omega)]
theorem sm_single (f : Nat → Nat) {a : Nat} : ∀ {n : Nat}, a < n → fb_sm (fun s => if s = a then f s else 0) n = f a
  | 0, h => absurd h (Nat.not_lt_zero a)
  | n + 1, h => by
    rw [fb_sm_succ]
    by_cases e : a = n
    · subst e
      rw [if_pos rfl, sm_zero0 (fun k hk => if_neg (by omega)), Nat.zero_add]
    · rw [if_neg (by omega), sm_single f (n := n) (by omega), Nat.add_zero]
theorem sm_shift (f : Nat → Nat) {n : Nat} (hn : 0 < n) : fb_sm (fun s => f ((s + 1) % n)) n = fb_sm f n := by
  obtain ⟨m, rfl⟩ : ∃ m, n = m + 1 := ⟨n - 1, by omega⟩
  have e : ∀ i, i ≤ m → fb_sm (fun s => f ((s + 1) % (m + 1))) i + f 0 = fb_sm f (i + 1) := fun i => by
    induction i with
    | zero => intro _; show 0 + f 0 = 0 + f 0; rfl
    | succ i ih =>
      intro hi
      rw [fb_sm_succ, fb_sm_succ f (i + 1), ← ih (by omega), Nat.mod_eq_of_lt (show i + 1 < m + 1 by omega)]
      omega
  rw [fb_sm_succ, Nat.mod_self]
  exact e m (Nat.le_refl m)
theorem sCt_le1 {p : Nat → Bool} : ∀ {n : Nat}, (∀ i j, i < n → j < n → p i = true → p j = true → i = j) → sCt p n ≤ 1
  | 0, _ => Nat.zero_le 1
  | n + 1, h => by
    rw [sCt]
    by_cases e : p n = true
    · have : sCt p n = 0 := sCt_zero.mpr (fun i hi => by
        cases hp : p i with
        | false => rfl
        | true => have := h i n (by omega) (by omega) hp e; omega)
      rw [if_pos e, this]; exact Nat.le_refl 1
    · rw [if_neg e]; exact sCt_le1 (fun i j hi hj => h i j (by omega) (by omega))
def spN (L : LSt) (g : Nat) : Nat := (lSp L g).toNatClampNeg
def gs (L : LSt) (n g : Nat) : Nat := if lPl L g = 0 then gMin L n (spN L g) 12 else 0
def qs (L : LSt) (s g : Nat) : Bool := decide (lPl L g = 0 ∧ spN L g = s)
theorem wy_next {n s b : Nat} (hs : s < n) (hb : b < n) : (b = (s + 1) % n → wy n s b = 1) ∧ (b ≠ (s + 1) % n → wy n s b = wy n ((s + 1) % n) b + 1 ∧ wy n ((s + 1) % n) b < n) := by
  by_cases q : s + 1 < n
  · rw [Nat.mod_eq_of_lt q]
    unfold wy
    refine ⟨fun e => ?_, fun e => ⟨?_, ?_⟩⟩
    · rw [if_neg (by omega)]; omega
    · by_cases z : b ≤ s
      · rw [if_pos z, if_pos (by omega)]; omega
      · rw [if_neg z, if_neg (by omega)]; omega
    · by_cases z : b ≤ s
      · rw [if_pos (by omega)]; omega
      · rw [if_neg (by omega)]; omega
  · have e0 : s + 1 = n := by omega
    rw [e0, Nat.mod_self]
    unfold wy
    refine ⟨fun e => ?_, fun e => ⟨?_, ?_⟩⟩
    · rw [if_pos (by omega)]; omega
    · rw [if_pos (by omega), if_neg (by omega)]; omega
    · rw [if_neg (by omega)]; omega
section GP
variable {k n : Nat} {L : LSt}
theorem LOk.on (h : LOk k n L) {g : Nat} (hg : g < 12) (hp : lPl L g = 0) : g < k ∧ spN L g < n ∧ lSp L g = nI (spN L g) := by
  obtain ⟨r, hr⟩ := h
  obtain ⟨h1, a, h2, h3, -⟩ := hr.on hg hp
  have := hr.n20
  have e : spN L g = a := by unfold spN; rw [h3, nI_clamp (by omega)]
  exact ⟨h1, by omega, by rw [e]; exact h3⟩
theorem gMin_next (h : LOk k n L) (hex : ∃ g, g < k ∧ lPl L g = 0) {s : Nat} (hs : s < n) : gMin L n s 12 = (if sCt (qs L ((s + 1) % n)) k = 0 then gMin L n ((s + 1) % n) 12 else 0) + 1 := by
  have hk := h.k12
  have hn := h.n4
  obtain ⟨a1, a2, a3⟩ := gMin_le L n s 12
  obtain ⟨b1, b2, b3⟩ := gMin_le L n ((s + 1) % n) 12
  have hs' : (s + 1) % n < n := Nat.mod_lt _ (by omega)
  by_cases q : sCt (qs L ((s + 1) % n)) k = 0
  · rw [if_pos q]
    have hne : ∀ g, g < 12 → lPl L g = 0 → spN L g ≠ (s + 1) % n := fun g hg hp e => by
      have := sCt_zero.mp q g (h.on hg hp).1
      have this := of_decide_eq_false this
      exact this ⟨hp, e⟩
    have w : ∀ g, g < 12 → lPl L g = 0 → wy n s (spN L g) = wy n ((s + 1) % n) (spN L g) + 1 ∧ wy n ((s + 1) % n) (spN L g) < n := fun g hg hp => (wy_next hs (h.on hg hp).2.1).2 (hne g hg hp)
    obtain ⟨g0, hg0, hp0⟩ := hex
    have b2' := b2 g0 (by omega) hp0
    have w0 := w g0 (by omega) hp0
    have b2' : gMin L n ((s + 1) % n) 12 ≤ wy n ((s + 1) % n) (spN L g0) := b2'
    rcases b3 with b3 | ⟨g, g1, g2, g3⟩
    · omega
    · have g3 : gMin L n ((s + 1) % n) 12 = wy n ((s + 1) % n) (spN L g) := g3
      have w1 := w g g1 g2
      have a2' : gMin L n s 12 ≤ wy n s (spN L g) := a2 g g1 g2
      rcases a3 with a3 | ⟨j, j1, j2, j3⟩
      · omega
      · have j3 : gMin L n s 12 = wy n s (spN L j) := j3
        have w2 := w j j1 j2
        have b2j : gMin L n ((s + 1) % n) 12 ≤ wy n ((s + 1) % n) (spN L j) := b2 j j1 j2
        omega
  · rw [if_neg q]
    have hit : ∃ g, g < k ∧ lPl L g = 0 ∧ spN L g = (s + 1) % n := Classical.byContradiction fun z => q (sCt_zero.mpr (fun g hg => decide_eq_false (fun y => z ⟨g, hg, y.1, y.2⟩)))
    obtain ⟨g, hg, hp, e⟩ := hit
    have a2' : gMin L n s 12 ≤ wy n s (spN L g) := a2 g (by omega) hp
    rw [(wy_next hs (h.on (by omega) hp).2.1).1 e] at a2'
    have pos : 1 ≤ gMin L n s 12 := by
      rcases a3 with a3 | ⟨j, j1, j2, j3⟩
      · omega
      · have j3 : gMin L n s 12 = wy n s (spN L j) := j3
        have := (wy_rng hs (h.on j1 j2).2.1).1
        omega
    omega
theorem gs_slots (h : LOk k n L) : ∀ i, i ≤ k → fb_sm (gs L n) i = fb_sm (fun s => sCt (qs L s) i * gMin L n s 12) n
  | 0, _ => by
    rw [sm_zero0 (f := fun s => sCt (qs L s) 0 * gMin L n s 12) (fun s _ => Nat.zero_mul _)]; rfl
  | i + 1, hi => by
    have hk := h.k12
    rw [fb_sm_succ, gs_slots h i (by omega)]
    have e : fb_sm (fun s => sCt (qs L s) (i + 1) * gMin L n s 12) n = fb_sm (fun s => sCt (qs L s) i * gMin L n s 12 + (if qs L s i = true then gMin L n s 12 else 0)) n := fb_sm_cong (fun s _ => by
      show (sCt (qs L s) i + (if qs L s i then 1 else 0)) * gMin L n s 12 = _
      rw [Nat.add_mul]
      congr 1
      split
      · rw [Nat.one_mul]
      · rw [Nat.zero_mul])
    rw [e, fb_sm_add]
    congr 1
    unfold gs
    by_cases hp : lPl L i = 0
    · rw [if_pos hp]
      have ho := h.on (by omega) hp
      rw [← sm_single (fun s => gMin L n s 12) ho.2.1]
      refine fb_sm_cong (fun s _ => ?_)
      show (if s = spN L i then gMin L n s 12 else 0) = if qs L s i = true then gMin L n s 12 else 0
      by_cases q : s = spN L i
      · rw [if_pos q, if_pos (show qs L s i = true from decide_eq_true ⟨hp, q.symm⟩)]
      · rw [if_neg q, if_neg (show ¬ qs L s i = true from fun z => q (of_decide_eq_true z).2.symm)]
    · rw [if_neg hp, sm_zero0 (fun s _ => if_neg (fun z => hp (of_decide_eq_true z).1))]
/-- THE GAPS FILL THE RING -/
theorem gap_sum (h : LOk k n L) (hex : ∃ g, g < k ∧ lPl L g = 0) : fb_sm (gs L n) k = n := by
  have hn := h.n4
  have hk := h.k12
  rw [gs_slots h k (Nat.le_refl k)]
  have c1 : ∀ s, sCt (qs L s) k ≤ 1 := fun s => sCt_le1 (fun i j hi hj pi pj => Classical.byContradiction fun ne => by
    obtain ⟨i1, i2⟩ := of_decide_eq_true pi
    obtain ⟨j1, j2⟩ := of_decide_eq_true pj
    refine h.dst i j hi hj ne i1 j1 ?_
    rw [(h.on (by omega) i1).2.2, (h.on (by omega) j1).2.2, i2, j2])
  have e1 : fb_sm (fun s => sCt (qs L s) k * gMin L n s 12) n + fb_sm (fun s => if sCt (qs L s) k = 0 then gMin L n s 12 else 0) n = fb_sm (fun s => gMin L n s 12) n := by
    rw [← fb_sm_add]
    refine fb_sm_cong (fun s _ => ?_)
    by_cases q : sCt (qs L s) k = 0
    · rw [if_pos q, q, Nat.zero_mul, Nat.zero_add]
    · have := c1 s
      rw [if_neg q, show sCt (qs L s) k = 1 by omega, Nat.one_mul, Nat.add_zero]
  have e2 : fb_sm (fun s => gMin L n s 12) n = fb_sm (fun s => (fun t => if sCt (qs L t) k = 0 then gMin L n t 12 else 0) ((s + 1) % n) + 1) n := fb_sm_cong (fun s hs => gMin_next h hex hs)
  rw [fb_sm_add (fun s => (fun t => if sCt (qs L t) k = 0 then gMin L n t 12 else 0) ((s + 1) % n)) (fun _ => 1), fb_sm_const, sm_shift (fun t => if sCt (qs L t) k = 0 then gMin L n t 12 else 0) (by omega)] at e2
  omega
theorem gap_none (hex : ¬ ∃ g, g < k ∧ lPl L g = 0) : fb_sm (gs L n) k = 0 := sm_zero0 (fun g hg => if_neg (fun z => hex ⟨g, hg, z⟩))
theorem gs_le (h : LOk k n L) : ∀ i, i ≤ k → fb_sm (gs L n) i ≤ i * n
  | 0, _ => Nat.zero_le _
  | i + 1, hi => by
    have h1 := gs_le h i (by omega)
    have h2 : gs L n i ≤ n := by
      unfold gs
      split
      · exact (gMin_le L n _ 12).1
      · exact Nat.zero_le n
    rw [fb_sm_succ, Nat.add_mul, Nat.one_mul]
    omega
end GP

/-! PURE LEVEL: dueAfter, chance, gap, room, groups -/
theorem due_eq (D N : Int32) : ((if 1 < D then D else 1) - 1) * N = if 1 ≤ D then N * (D - 1) else N * 0 := by
  by_cases h : 1 < D
  · rw [if_pos h, if_pos (fa_of_lt h).1, Int32.mul_comm]
  · rw [if_neg h, Int32.mul_comm]
    by_cases h2 : 1 ≤ D
    · have : D = 1 := by
        rcases fa_three 1 D with q | q | q
        · exact absurd q h
        · exact q.symm
        · exact absurd h2 (fa_of_lt q).2.1
      rw [if_pos h2, this]
    · rw [if_neg h2]; rfl
theorem o_dueAfter {G : GSt} {M : MSt} (h : GRel G M) (g : Int32) : OpR 3 9 (fX4_dueAfter G g) (fX5_dueAfter M g) := by
  have h' := h
  obtain ⟨n, h1, ⟨k, h2⟩, h3, h4, h5⟩ := h'
  have hk12 := h2.k12
  have hn20 := h2.n20
  have hM : GRel G (mA M, 0, mSize M, mSpot M, mRN M, mN M, mActs M) := h.scr 0 _ _
  unfold fX4_dueAfter fX5_dueAfter
  rw [c_has (j := 3) h2, m_isGrip (j := 3) h2, Option.bind_some, Option.bind_some]
  by_cases hc : 0 ≤ g ∧ g < nI k
  · obtain ⟨i, hi, rfl⟩ := nI_of (x := g) (fun z => (fa_of_lt z).2.1 hc.1)
    have hik : i < k := (nI_ltI hi (by omega)).mp hc.2
    obtain ⟨c0, c1, c2, c3, c4, c5, c6⟩ := h2.cell i hik
    rw [if_pos hc, if_neg c10, if_neg c10, m_refused0, Option.bind_some, if_pos rfl]
    unfold fX0_isIn
    simp (disch := omega) only [aI60, aI72, aI12, gd_nI, nI_clamp]
    show OpR 3 9 _ (if mA M 3 (60 + i) = 0 then (if 0 < mA M 3 (72 + i) - mA M 3 97 then (if 1 ≤ mA M 3 99 - mA M 3 (12 + i) then some (mA M 3 (72 + i) - mA M 3 97 + mN M * (mA M 3 99 - mA M 3 (12 + i) - 1), _) else some (mA M 3 (72 + i) - mA M 3 97 + mN M * 0, _)) else (if 1 ≤ mA M 3 99 - mA M 3 (12 + i) then some (mA M 3 (72 + i) - mA M 3 97 + mN M + mN M * (mA M 3 99 - mA M 3 (12 + i) - 1), _) else some (mA M 3 (72 + i) - mA M 3 97 + mN M + mN M * 0, _))) else some (-9, _))
    rw [c5]
    by_cases hp : lPl (gLift G) i = 0
    · obtain ⟨e1, a, ha, e2⟩ := c6.sp hp
      obtain ⟨s, hs, s1, s2⟩ := h2.stn
      rw [if_pos hp, if_pos hp, Option.bind_some, if_neg c10, e1, s2, c1, h2.l0, h1]
      rw [h1] at hM
      unfold fX0_stepsUntilDue fX0_slotsOn
      rw [gd_nI (by omega) (by decide), nI_clamp (by omega), s1, h2.hn, due_eq, e2]
      have hz : (0 < nI a - nI s) ↔ ¬ nI a ≤ nI s := by
        have e0 : (0 : Int32).toInt = 0 := by decide
        rw [fa_lt, fa_le, e0, pk_sub_toInt (by omega) (by omega), nI_toInt (by omega), nI_toInt (by omega)]
        omega
      by_cases q : nI a ≤ nI s
      · rw [if_pos q, if_neg (fun z => hz.mp z q), Option.bind_some, Option.bind_some]
        by_cases q2 : 1 ≤ lLi (gLift G) 0 - lCy (gLift G) i
        · rw [if_pos q2, if_pos q2]
          exact ⟨0, _, G, _, _, rfl, rfl, Or.inl rfl, rfl, fun _ => rfl, hM⟩
        · rw [if_neg q2, if_neg q2]
          exact ⟨0, _, G, _, _, rfl, rfl, Or.inl rfl, rfl, fun _ => rfl, hM⟩
      · rw [if_neg q, if_pos (hz.mpr q), Option.bind_some, Option.bind_some]
        by_cases q2 : 1 ≤ lLi (gLift G) 0 - lCy (gLift G) i
        · rw [if_pos q2, if_pos q2]
          exact ⟨0, _, G, _, _, rfl, rfl, Or.inl rfl, rfl, fun _ => rfl, hM⟩
        · rw [if_neg q2, if_neg q2]
          exact ⟨0, _, G, _, _, rfl, rfl, Or.inl rfl, rfl, fun _ => rfl, hM⟩
    · rw [if_neg hp, if_neg hp, Option.bind_some, if_pos rfl]
      exact ⟨0, _, G, _, _, rfl, rfl, Or.inl rfl, rfl, fun _ => rfl, hM⟩
  · rw [if_neg hc, if_pos rfl, if_pos rfl, m_refused1, Option.bind_some, if_neg c10]
    exact OpR_no h (k := 3) (c := 1) (Or.inl rfl) (by decide) rfl rfl rfl
def pw (b : Int32) : Nat → Int32
  | 0 => 1
  | i + 1 => pw b i * b
theorem in19 (x : Int32) : (1 ≤ x ∧ x ≤ 9) ∨ x < 1 ∨ (¬ x < 1 ∧ ¬ x ≤ 9) := by
  by_cases q : x < 1
  · exact Or.inr (Or.inl q)
  · by_cases q2 : x ≤ 9
    · exact Or.inl ⟨fa_of_nlt q, q2⟩
    · exact Or.inr (Or.inr ⟨q, q2⟩)
theorem c_pw (G : GSt) (b : Int32) {m : Nat} (hm : m ≤ 9) : fX4_chance_L50 KF G (nI m) b 1 0 = some (0, pw b m, G) := by
  refine run_up (fun f i => fX4_chance_L50 f G (nI m) b (pw b i) (nI i)) m (fun i f hi => ?_) (fun f => ?_) (by show m < 3000; omega)
  · show fX4_chance_L50 (f + 1) G (nI m) b (pw b i) (nI i) = _
    rw [fX4_chance_L50, if_neg (nI_ge hi (by omega)), nI_1]; rfl
  · show fX4_chance_L50 (f + 1) G (nI m) b (pw b m) (nI m) = _
    rw [fX4_chance_L50, if_pos (Int32.le_refl _)]
theorem m_pw (M : MSt) (x c : Int32) {m : Nat} (hm : m ≤ 9) : fX5_chance_L40 KF M (nI m) x c 1 0 = some (pw (if x = 0 then c else c - 1) m, M) := by
  refine run_up (fun f i => fX5_chance_L40 f M (nI m) x c (pw (if x = 0 then c else c - 1) i) (nI i)) m (fun i f hi => ?_) (fun f => ?_) (by show m < 3000; omega)
  · show fX5_chance_L40 (f + 1) M (nI m) x c (pw _ i) (nI i) = fX5_chance_L40 f M (nI m) x c (pw _ i * _) (nI (i + 1))
    rw [fX5_chance_L40, if_neg (nI_ge hi (by omega)), nI_1]
    by_cases h : x = 0
    · rw [if_pos h, if_pos h]
    · rw [if_neg h, if_neg h]
  · show fX5_chance_L40 (f + 1) M (nI m) x c (pw _ m) (nI m) = _
    rw [fX5_chance_L40, if_pos (Int32.le_refl _)]
theorem o_chance {G : GSt} {M : MSt} (h : GRel G M) (p x : Int32) : OpR 1 9 (fX4_chance G p x) (fX5_chance M p x) := by
  have h' := h
  obtain ⟨n, h1, ⟨k, h2⟩, h3, h4, h5⟩ := h'
  have hM : GRel G (mA M, 0, mSize M, mSpot M, mRN M, mN M, mActs M) := h.scr 0 _ _
  unfold fX4_chance fX5_chance
  rw [m_inI p 1 9 (by decide +kernel) (by decide +kernel), Option.bind_some]
  have e1 : (1 : Int32).toInt = 1 := by decide
  have e0 : (0 : Int32).toInt = 0 := by decide
  rcases in19 p with hc | hc | hc
  · rw [if_neg (fun z => (fa_of_lt z).2.1 hc.1), if_pos hc.2, if_pos hc, if_neg c10, m_refused0, Option.bind_some, if_pos rfl]
    have hc1 := hc.1
    obtain ⟨m, hm, rfl⟩ := nI_of (x := p) (fun z => by rw [fa_lt] at z; rw [fa_le] at hc1; omega)
    have hm9 : m ≤ 9 := (nI_leI (b := 9) hm (by decide)).mp hc.2
    refine ⟨0, pw (if x = 0 then lLi (gLift G) 2 else lLi (gLift G) 2 - 1) m, G, _, _, ?_, m_pw _ x _ hm9, Or.inl rfl, rfl, fun _ => ?_, hM⟩
    · by_cases q : x = 0
      · rw [if_pos q, if_pos q, c_pw G _ hm9]
      · rw [if_neg q, if_neg q, c_pw G _ hm9]
    · show pw (if x = 0 then lLi (gLift G) 2 else lLi (gLift G) 2 - 1) m = pw (if x = 0 then mA M 3 101 else mA M 3 101 - 1) m
      rw [h2.l2]
  · rw [if_pos hc, if_neg (show ¬ (1 ≤ p ∧ p ≤ 9) from fun z => (fa_of_lt hc).2.1 z.1), if_pos rfl, m_refused1, Option.bind_some, if_neg c10]
    exact OpR_no h (k := 1) (c := 1) (Or.inl rfl) (by decide) rfl rfl rfl
  · rw [if_neg hc.1, if_neg hc.2, if_neg (show ¬ (1 ≤ p ∧ p ≤ 9) from fun z => hc.2 z.2), if_pos rfl, m_refused1, Option.bind_some, if_neg c10]
    exact OpR_no h (k := 1) (c := 1) (Or.inl rfl) (by decide) rfl rfl rfl
/-- the way from slot a on to slot b -/
def wy (n a b : Nat) : Nat := if b ≤ a then b + n - a else b - a
theorem wy_rng {n a b : Nat} (ha : a < n) (hb : b < n) : 1 ≤ wy n a b ∧ wy n a b ≤ n ∧ (a + wy n a b) % n = b := by
  unfold wy
  by_cases h : b ≤ a
  · rw [if_pos h]
    refine ⟨by omega, by omega, ?_⟩
    rw [show a + (b + n - a) = b + n by omega, Nat.add_mod_right, Nat.mod_eq_of_lt hb]
  · rw [if_neg h]
    refine ⟨by omega, by omega, ?_⟩
    rw [show a + (b - a) = b by omega, Nat.mod_eq_of_lt hb]
theorem wy_one {n a w : Nat} (ha : a < n) (h1 : 1 ≤ w) (h2 : w ≤ n) : wy n a ((a + w) % n) = w := by
  unfold wy
  by_cases h : a + w < n
  · rw [Nat.mod_eq_of_lt h, if_neg (by omega)]; omega
  · rw [Nat.mod_eq_sub_mod (by omega), Nat.mod_eq_of_lt (by omega), if_pos (by omega)]; omega
theorem s_slotsOn {n a b : Nat} {L : LSt} (hN : lN_ L = nI n) (ha : a < n) (hb : b < n) (hn : n ≤ 100) : fX0_slotsOn L (nI a) (nI b) = some (nI (wy n a b)) := by
  unfold fX0_slotsOn wy
  rw [hN]
  by_cases h : b ≤ a
  · rw [if_pos (nI_le h (by omega)), if_pos h]
    congr 1
    rw [Int32.sub_eq_add_neg, Int32.add_assoc, Int32.add_comm (-nI a), ← Int32.add_assoc, ← Int32.sub_eq_add_neg, nI_add, pk_sub (by omega)]
  · rw [if_neg (nI_ge (by omega) (by omega)), if_neg h, pk_sub (by omega)]
/-- the least way from a to a grip on the line -/
def gMin (L : LSt) (n a : Nat) : Nat → Nat
  | 0 => n
  | i + 1 => if lPl L i = 0 ∧ wy n a (lSp L i).toNatClampNeg < gMin L n a i then wy n a (lSp L i).toNatClampNeg else gMin L n a i
theorem gMin_le (L : LSt) (n a : Nat) : ∀ i, gMin L n a i ≤ n ∧ (∀ g, g < i → lPl L g = 0 → gMin L n a i ≤ wy n a (lSp L g).toNatClampNeg) ∧ (gMin L n a i = n ∨ ∃ g, g < i ∧ lPl L g = 0 ∧ gMin L n a i = wy n a (lSp L g).toNatClampNeg)
  | 0 => ⟨Nat.le_refl n, fun g hg => absurd hg (Nat.not_lt_zero g), Or.inl rfl⟩
  | i + 1 => by
    obtain ⟨h1, h2, h3⟩ := gMin_le L n a i
    rw [gMin]
    by_cases q : lPl L i = 0 ∧ wy n a (lSp L i).toNatClampNeg < gMin L n a i
    · rw [if_pos q]
      refine ⟨by omega, fun g hg hp => ?_, Or.inr ⟨i, by omega, q.1, rfl⟩⟩
      by_cases e : g = i
      · rw [e]; exact Nat.le_refl _
      · have := h2 g (by omega) hp; omega
    · rw [if_neg q]
      refine ⟨h1, fun g hg hp => ?_, ?_⟩
      · by_cases e : g = i
        · subst e
          have : ¬ wy n a (lSp L g).toNatClampNeg < gMin L n a g := fun z => q ⟨hp, z⟩
          omega
        · exact h2 g (by omega) hp
      · rcases h3 with h3 | ⟨g, g1, g2, g3⟩
        · exact Or.inl h3
        · exact Or.inr ⟨g, by omega, g2, g3⟩
theorem RRel.on {k n : Nat} {L : LSt} {r : RI} (h : RRel k n L r) {g : Nat} (hg : g < 12) (hp : lPl L g = 0) : g < k ∧ ∃ a, a < n ∧ lSp L g = nI a ∧ r (72 + g) = nI a := by
  have hgk : g < k := by
    rcases Nat.lt_or_ge g k with q | q
    · exact q
    · have := h.abs g q hg; rw [this] at hp; exact absurd hp (by decide)
  obtain ⟨e1, a, ha, e2⟩ := (h.cell g hgk).ok.sp hp
  exact ⟨hgk, a, ha, e2, e1.trans e2⟩
theorem c_gapBehind {k n i a : Nat} {L : LSt} {r : RI} (h : RRel k n L r) (hi : i < k) (hp : lPl L i = 0) (ha : a < n) (hs : lSp L i = nI a) : fX0_gapBehind L (nI i) = some (nI (gMin L n a 12)) := by
  have hk12 := h.k12
  have hn20 := h.n20
  unfold fX0_gapBehind
  rw [h.hn]
  refine run_up (fun f q => fX0_gapBehind_L7 L f (nI i) (nI (gMin L n a q)) (nI q)) 12 (fun q f hq => ?_) (fun f => ?_) (by decide)
  · show fX0_gapBehind_L7 L (f + 1) (nI i) (nI (gMin L n a q)) (nI q) = _
    rw [fX0_gapBehind_L7, if_neg (l12 hq), gd_nI hq (by decide), gd_nI (by omega) (by decide), nI_clamp (by omega), nI_clamp (by omega), nI_1, hs]
    show _ = fX0_gapBehind_L7 L f (nI i) (nI (gMin L n a (q + 1))) (nI (q + 1))
    by_cases e : lPl L q = 0
    · obtain ⟨-, b, hb, b1, -⟩ := h.on hq e
      have hw := wy_rng ha hb
      have hg := (gMin_le L n a q).1
      rw [if_pos e, b1, s_slotsOn h.hn ha hb (by omega), Option.bind_some, gMin, b1, nI_clamp (by omega)]
      by_cases z : wy n a b < gMin L n a q
      · rw [if_pos (nI_lt z (by omega)), if_pos ⟨e, z⟩]
      · rw [if_neg (nI_nlt (by omega) (by omega)), if_neg (fun y => z y.2)]
    · rw [if_neg e, gMin, if_neg (fun y => e y.1)]
  · show fX0_gapBehind_L7 L (f + 1) (nI i) _ (nI 12) = _
    rw [fX0_gapBehind_L7, if_pos g12]
theorem m_gapOf {k n i a : Nat} {L : LSt} {M : MSt} (h : RRel k n L (mA M 3)) (hN : mN M = nI n) (hi : i < k) (hp : lPl L i = 0) (ha : a < n) (hs : lSp L i = nI a) : fX5_gapOf M (nI i) = some (nI (gMin L n a 12)) := by
  have hk12 := h.k12
  have hn20 := h.n20
  obtain ⟨m1, m2, m3⟩ := gMin_le L n a 12
  have hr : mA M 3 (72 + i) = nI a := ((h.cell i hi).ok.sp hp).1.trans hs
  have z : ∀ {α : Type} (k : Option α), nz (nI n) k = k := fun k => by unfold nz; rw [if_neg (nI_ne0 (by omega) (by omega))]
  have hpos : 1 ≤ gMin L n a 12 := by
    rcases m3 with q | ⟨g, g1, g2, g3⟩
    · omega
    · obtain ⟨-, b, hb, b1, -⟩ := h.on g1 g2
      rw [g3, b1, nI_clamp (by omega)]
      exact (wy_rng ha hb).1
  generalize hw : gMin L n a 12 = w at m1 m2 m3 hpos ⊢
  have stp : ∀ q f, q < 100 → fX5_gapOf_L2 M (f + 1) (nI i) (nI (1 + q)) = (fX5_gripAt 3 M (nI ((a + (1 + q)) % n))).bind (fun r22 => (if r22 = (-9) then (fX5_gapOf_L2 M f (nI i) (nI (1 + (q + 1)))) else some (nI (1 + q)))) := fun q f hq => by
    rw [fX5_gapOf_L2, aI72, gd_nI (by omega) (by decide), nI_clamp (by omega), hr, hN, z, nI_add, nI_1]
    rw [pk_rem (by omega) (by omega) (by omega)]
    rfl
  unfold fX5_gapOf
  refine run_up (fun f q => fX5_gapOf_L2 M f (nI i) (nI (1 + q))) (w - 1) (fun q f hq => ?_) (fun f => ?_) (by show w - 1 < 3000; omega)
  · show fX5_gapOf_L2 M (f + 1) (nI i) (nI (1 + q)) = _
    rw [stp q f (by omega)]
    rcases rc_gripAt h (nI ((a + (1 + q)) % n)) with ⟨-, g2, -⟩ | ⟨g0, g1, g2, g3, -, -⟩
    · rw [g2, Option.bind_some, if_pos rfl]
    · have := m2 g0 (by omega) g2
      have hlt : (a + (1 + q)) % n < n := Nat.mod_lt _ (by omega)
      rw [g3, nI_clamp (by omega), wy_one ha (by omega) (by omega)] at this
      omega
  · show fX5_gapOf_L2 M (f + 1) (nI i) (nI (1 + (w - 1))) = _
    rw [stp (w - 1) f (by omega), show 1 + (w - 1) = w by omega]
    have hit : ∃ g, g < k ∧ lPl L g = 0 ∧ lSp L g = nI ((a + w) % n) := by
      rcases m3 with q | ⟨g, g1, g2, g3⟩
      · exact ⟨i, hi, hp, by rw [hs, q, Nat.add_mod_right, Nat.mod_eq_of_lt ha]⟩
      · obtain ⟨gk, b, hb, b1, -⟩ := h.on g1 g2
        rw [b1, nI_clamp (by omega)] at g3
        exact ⟨g, gk, g2, by rw [b1, g3, (wy_rng ha hb).2.2]⟩
    obtain ⟨g, q1, q2, q3⟩ := hit
    rcases rc_gripAt h (nI ((a + w) % n)) with ⟨-, -, g3⟩ | ⟨g0, g1, -, -, -, g2⟩
    · exact absurd ⟨q2, q3⟩ (g3 g q1)
    · rw [g2, Option.bind_some, if_neg (fun z => by have q := nI_pos (n := g0) (by omega); rw [z] at q; exact q (by decide))]
theorem o_gap {G : GSt} {M : MSt} (h : GRel G M) (g : Int32) : OpR 3 9 (fX4_gap G g) (fX5_gap M g) := by
  have h' := h
  obtain ⟨n, h1, ⟨k, h2⟩, h3, h4, h5⟩ := h'
  have hk12 := h2.k12
  have hM : GRel G (mA M, 0, mSize M, mSpot M, mRN M, mN M, mActs M) := h.scr 0 _ _
  unfold fX4_gap fX5_gap
  rw [c_has (j := 3) h2, m_isGrip (j := 3) h2, Option.bind_some, Option.bind_some]
  by_cases hc : 0 ≤ g ∧ g < nI k
  · obtain ⟨i, hi, rfl⟩ := nI_of (x := g) (fun z => (fa_of_lt z).2.1 hc.1)
    have hik : i < k := (nI_ltI hi (by omega)).mp hc.2
    obtain ⟨c0, c1, c2, c3, c4, c5, c6⟩ := h2.cell i hik
    rw [if_pos hc, if_neg c10, if_neg c10, m_refused0, Option.bind_some, if_pos rfl]
    unfold fX0_isIn
    rw [gd_nI (by omega) (by decide), nI_clamp (by omega), aI60, gd_nI (by omega) (by decide), nI_clamp (by omega)]
    show OpR 3 9 _ (if mA M 3 (60 + i) = 0 then _ else _)
    rw [c5]
    by_cases hp : lPl (gLift G) i = 0
    · obtain ⟨e1, a, ha, e2⟩ := c6.sp hp
      rw [if_pos hp, if_pos hp, Option.bind_some, if_neg c10, c_gapBehind h2 hik hp ha e2, m_gapOf (M := (mA M, (0 : Int32), mSize M, mSpot M, mRN M, mN M, mActs M)) h2 h1 hik hp ha e2]
      exact ⟨0, _, G, _, _, rfl, rfl, Or.inl rfl, rfl, fun _ => rfl, hM⟩
    · rw [if_neg hp, if_neg hp, Option.bind_some, if_pos rfl]
      exact ⟨0, _, G, _, _, rfl, rfl, Or.inl rfl, rfl, fun _ => rfl, hM⟩
  · rw [if_neg hc, if_pos rfl, if_pos rfl, m_refused1, Option.bind_some, if_neg c10]
    exact OpR_no h (k := 3) (c := 1) (Or.inl rfl) (by decide) rfl rfl rfl

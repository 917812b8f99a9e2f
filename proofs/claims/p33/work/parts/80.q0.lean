/-! PURE LEVEL of the property: numbers; what the law's wrappers answer of a lift -/
theorem lg3 (a b : Int64) : (b.toInt < a.toInt ∧ lg_cmp a b = 1) ∨ (a.toInt = b.toInt ∧ lg_cmp a b = 0) ∨ (a.toInt < b.toInt ∧ lg_cmp a b = -1) := by
  unfold lg_cmp
  simp only [gt_iff_lt, fa_lt64, fa_eq64]
  by_cases h : b.toInt < a.toInt
  · rw [if_pos h]; exact Or.inl ⟨h, rfl⟩
  · rw [if_neg h]
    by_cases h2 : a.toInt = b.toInt
    · rw [if_pos h2]; exact Or.inr (Or.inl ⟨h2, rfl⟩)
    · rw [if_neg h2]; exact Or.inr (Or.inr ⟨by omega, rfl⟩)
theorem lc0 (a b : Int64) : (lg_cmp a b = 0) ↔ a = b := by
  rw [fa_eq64]
  rcases lg3 a b with ⟨h, e⟩ | ⟨h, e⟩ | ⟨h, e⟩ <;> rw [e]
  · exact ⟨fun z => absurd z (by decide), fun z => by omega⟩
  · exact ⟨fun _ => h, fun _ => rfl⟩
  · exact ⟨fun z => absurd z (by decide), fun z => by omega⟩
theorem lcl (a b : Int64) : (lg_cmp a b < 0) ↔ a.toInt < b.toInt := by
  rcases lg3 a b with ⟨h, e⟩ | ⟨h, e⟩ | ⟨h, e⟩ <;> rw [e]
  · exact ⟨fun z => absurd z (by decide), fun z => by omega⟩
  · exact ⟨fun z => absurd z (by decide), fun z => by omega⟩
  · exact ⟨fun _ => h, fun _ => by decide⟩
theorem lcg (a b : Int64) : (0 < lg_cmp a b) ↔ b.toInt < a.toInt := by
  rcases lg3 a b with ⟨h, e⟩ | ⟨h, e⟩ | ⟨h, e⟩ <;> rw [e]
  · exact ⟨fun _ => h, fun _ => by decide⟩
  · exact ⟨fun z => absurd z (by decide), fun z => by omega⟩
  · exact ⟨fun z => absurd z (by decide), fun z => by omega⟩
theorem lcle (a b : Int64) : (lg_cmp a b ≤ 0) ↔ a.toInt ≤ b.toInt := by
  rcases lg3 a b with ⟨h, e⟩ | ⟨h, e⟩ | ⟨h, e⟩ <;> rw [e]
  · exact ⟨fun z => absurd z (by decide), fun z => by omega⟩
  · exact ⟨fun _ => by omega, fun _ => by decide⟩
  · exact ⟨fun _ => by omega, fun _ => by decide⟩
theorem lcge (a b : Int64) : (0 ≤ lg_cmp a b) ↔ b.toInt ≤ a.toInt := by
  rcases lg3 a b with ⟨h, e⟩ | ⟨h, e⟩ | ⟨h, e⟩ <;> rw [e]
  · exact ⟨fun _ => by omega, fun _ => by decide⟩
  · exact ⟨fun _ => by omega, fun _ => by decide⟩
  · exact ⟨fun z => absurd z (by decide), fun z => by omega⟩
theorem m9L : (-9 : Int32).toInt64 = (-9 : Int64) := by decide +kernel
theorem m9T : ((-9 : Int32).toInt64).toInt = -9 := by decide +kernel
theorem l9T : (-9 : Int64).toInt = -9 := by decide +kernel
theorem l0T : (0 : Int64).toInt = 0 := by decide +kernel
theorem nIT {a : Nat} (h : a < 2 ^ 31) : ((nI a).toInt64).toInt = (a : Int) := by rw [nI_l h, lN_toInt h]
theorem gm0 (a b : Nat) (v : Int32) (G : GSt) : gmx a b (0, v, G) = some (v.toInt64, G) := rfl
theorem gmA {a b : Nat} (h : a ≠ 0) (v : Int32) (G : GSt) : gmx a b (a, v, G) = some (gxc a, G) := by unfold gmx; rw [if_neg h, if_pos (Or.inl rfl)]
theorem gmB {a b : Nat} (h : b ≠ 0) (h9 : b ≠ 9) (v : Int32) (G : GSt) : gmx a b (b, v, G) = some (gxc b, G) := by unfold gmx; rw [if_neg h, if_pos (Or.inr ⟨rfl, h9⟩)]
/-- a lift that is one -/
def LOk (k n : Nat) (L : LSt) : Prop := ∃ r, RRel k n L r
def mkM (n : Nat) (r : RI) : MSt := (fun _ => r, 0, 0, 0, 0, nI n, 0)
section LO
variable {k n : Nat} {L : LSt}
theorem LOk.m (h : LOk k n L) (j : Nat) : ∃ M : MSt, RRel k n L (mA M j) ∧ mN M = nI n := by
  obtain ⟨r, h⟩ := h
  exact ⟨mkM n r, h, rfl⟩
theorem LOk.k12 (h : LOk k n L) : k ≤ 12 := h.elim fun _ h => h.k12
theorem LOk.n4 (h : LOk k n L) : 4 ≤ n := h.elim fun _ h => h.n4
theorem LOk.n20 (h : LOk k n L) : n ≤ 20 := h.elim fun _ h => h.n20
theorem LOk.hn (h : LOk k n L) : lN_ L = nI n := h.elim fun _ h => h.hn
theorem LOk.stn (h : LOk k n L) : ∃ s, s < n ∧ lStn L = nI s := by
  obtain ⟨r, h⟩ := h
  obtain ⟨s, h1, h2, -⟩ := h.stn
  exact ⟨s, h1, h2⟩
theorem LOk.lim (h : LOk k n L) : LimOk (lLi L) := h.elim fun _ h => h.limOk
theorem LOk.abs (h : LOk k n L) : ∀ g, k ≤ g → g < 12 → lPl L g = -1 := h.elim fun _ h => h.abs
theorem LOk.nabs (h : LOk k n L) {g : Nat} (hg : g < k) : ¬ lPl L g = -1 := h.elim fun _ h => h.nabs hg
theorem LOk.dst (h : LOk k n L) : ∀ g h, g < k → h < k → g ≠ h → lPl L g = 0 → lPl L h = 0 → lSp L g ≠ lSp L h := h.elim fun _ h => h.dst
theorem LOk.four (h : LOk k n L) {g : Nat} (hg : g < k) : lPl L g = 0 ∨ lPl L g = 1 ∨ lPl L g = 2 ∨ lPl L g = 3 := by
  obtain ⟨r, h⟩ := h
  rcases (h.cell g hg).ok with z | z | z | z
  · exact Or.inl z.1
  · exact Or.inr (Or.inl z)
  · exact Or.inr (Or.inr (Or.inl z.1))
  · exact Or.inr (Or.inr (Or.inr z))
theorem LOk.sp (h : LOk k n L) {g : Nat} (hg : g < k) (hp : lPl L g = 0) : ∃ a, a < n ∧ lSp L g = nI a := by
  obtain ⟨r, h⟩ := h
  exact ((h.cell g hg).ok.sp hp).2
theorem LOk.st (h : LOk k n L) {g : Nat} (hg : g < k) (hp : lPl L g = 2) : ∃ a, 1 ≤ a ∧ a ≤ 9 ∧ lSt L g = nI a := by
  obtain ⟨r, h⟩ := h
  exact ((h.cell g hg).ok.st hp).2
theorem LOk.has (h : LOk k n L) (g : Int32) : fX0_has L g = some (if 0 ≤ g ∧ g < nI k then 1 else 0) := h.elim fun _ h => c_has (j := 0) h g
theorem LOk.hasY (h : LOk k n L) {g : Nat} (hg : g < k) : fX0_has L (nI g) = some 1 := by
  have := h.k12
  rw [h.has, if_pos ⟨nI_pos' (by omega), nI_lt hg (by omega)⟩]
theorem LOk.hasN (h : LOk k n L) : fX0_has L (nI k) = some 0 := by
  rw [h.has, if_neg (fun z => Int32.lt_irrefl z.2)]
theorem LOk.slotY (h : LOk k n L) {i : Nat} (hi : i < n) : fX0_hasSlot L (nI i) = some 1 := by
  have := h.n20
  rw [c_hasSlot h.hn, if_pos ⟨nI_pos' (by omega), nI_lt hi (by omega)⟩]
theorem LOk.slotN (h : LOk k n L) : fX0_hasSlot L (nI n) = some 0 := by
  rw [c_hasSlot h.hn, if_neg (fun z => Int32.lt_irrefl z.2)]
theorem LOk.count (h : LOk k n L) {w : Int32} (hw : ¬ w = -1) : fX0_count L w = some (nI (sCt (fun g => decide (lPl L g = w)) k)) := by
  obtain ⟨M, h, -⟩ := h.m 0
  exact (rc_count h hw).1
theorem LOk.grips (h : LOk k n L) : fX0_grips L = some (nI k) := by
  obtain ⟨M, h, -⟩ := h.m 0
  exact rc_grips h
end LO
-- how many grips are there
def cN (L : LSt) (k w : Nat) : Nat := sCt (fun g => decide (lPl L g = nI w)) k
theorem cN_le (L : LSt) (k w : Nat) : cN L k w ≤ k := sCt_le _ k
/-- the number w of grip g -/
def nmb (L : LSt) (g w : Nat) : Int32 := if w = 0 then lWe L g else if w = 1 then lCy L g else if w = 2 then lWr L g else if w = 3 then lPu L g else if w = 4 then lSl L g else if w = 5 then lPl L g else if w = 6 then (if lPl L g = 0 then lSp L g else -9) else (if lPl L g = 2 then lSt L g else -9)
section AN
variable {k n : Nat} {L : LSt} {G : GSt}
theorem an_0 (hL : gLift G = L) (h : LOk k n L) : fL_about G 0 = some (lN n, G) := by
  unfold fL_about fX4_about
  have := h.n20
  rw [if_pos rfl, Option.bind_some, gm0, hL, h.hn, nI_l (by omega)]
theorem an_1 (hL : gLift G = L) (h : LOk k n L) : fL_about G 1 = some (lN k, G) := by
  unfold fL_about fX4_about
  have := h.k12
  rw [if_neg (by decide), if_pos rfl, hL, h.grips, Option.bind_some, Option.bind_some, gm0, nI_l (by omega)]
theorem an_c (hL : gLift G = L) (h : LOk k n L) {w : Nat} (hw : w < 4) : fL_about G (nI (2 + w)) = some (lN (cN L k w), G) := by
  unfold fL_about fX4_about
  have := h.k12
  have h2 := cN_le L k w
  have hw : w = 0 ∨ w = 1 ∨ w = 2 ∨ w = 3 := by omega
  rw [hL]
  rcases hw with rfl | rfl | rfl | rfl
  · rw [if_neg (by decide), if_neg (by decide), if_pos (by decide), h.count (by decide), Option.bind_some, Option.bind_some, gm0, nI_l (by exact Nat.lt_of_le_of_lt h2 (by omega))]; rfl
  · rw [if_neg (by decide), if_neg (by decide), if_neg (by decide), if_pos (by decide), h.count (by decide), Option.bind_some, Option.bind_some, gm0, nI_l (by exact Nat.lt_of_le_of_lt h2 (by omega))]; rfl
  · rw [if_neg (by decide), if_neg (by decide), if_neg (by decide), if_neg (by decide), if_pos (by decide), h.count (by decide), Option.bind_some, Option.bind_some, gm0, nI_l (by exact Nat.lt_of_le_of_lt h2 (by omega))]; rfl
  · rw [if_neg (by decide), if_neg (by decide), if_neg (by decide), if_neg (by decide), if_neg (by decide), if_pos (by decide), h.count (by decide), Option.bind_some, Option.bind_some, gm0, nI_l (by exact Nat.lt_of_le_of_lt h2 (by omega))]; rfl
theorem an_6 (hL : gLift G = L) : fL_about G 6 = some ((lStn L).toInt64, G) := by
  unfold fL_about fX4_about
  rw [hL]; rfl
theorem an_7 (hL : gLift G = L) : fL_about G 7 = some ((lClk L).toInt64, G) := by
  unfold fL_about fX4_about
  rw [hL]; rfl
theorem an_8 (hL : gLift G = L) : fL_about G 8 = some ((lLi L 0).toInt64, G) := by
  unfold fL_about fX4_about
  rw [hL]; rfl
theorem an_10 (hL : gLift G = L) : fL_about G 10 = some ((lLi L 2).toInt64, G) := by
  unfold fL_about fX4_about
  rw [hL]; rfl
theorem an_11 (hL : gLift G = L) : fL_about G 11 = some ((lLi L 3).toInt64, G) := by
  unfold fL_about fX4_about
  rw [hL]; rfl
theorem an_any (hL : gLift G = L) (h : LOk k n L) {c : Nat} (hc : c < 13) : ∃ v, fL_about G (nI c) = some (v, G) := by
  have : c = 0 ∨ c = 1 ∨ (2 ≤ c ∧ c < 6) ∨ c = 6 ∨ c = 7 ∨ c = 8 ∨ c = 9 ∨ c = 10 ∨ c = 11 ∨ c = 12 := by omega
  rcases this with rfl | rfl | z | rfl | rfl | rfl | rfl | rfl | rfl | rfl
  · exact ⟨_, an_0 hL h⟩
  · exact ⟨_, an_1 hL h⟩
  · have := an_c hL h (w := c - 2) (by omega)
    rw [show 2 + (c - 2) = c by omega] at this
    exact ⟨_, this⟩
  · exact ⟨_, an_6 rfl⟩
  · exact ⟨_, an_7 rfl⟩
  · exact ⟨_, an_8 rfl⟩
  · exact ⟨_, rfl⟩
  · exact ⟨_, an_10 rfl⟩
  · exact ⟨_, an_11 rfl⟩
  · exact ⟨_, rfl⟩
theorem ag (hL : gLift G = L) (h : LOk k n L) {g w : Nat} (hg : g < k) (hw : w < 8) : fL_grip G (nI g) (nI w) = some ((nmb L g w).toInt64, G) := by
  have hk := h.k12
  have e : fX0_number L (nI g) (nI w) = some (nmb L g w) := by
    have hw' : w = 0 ∨ w = 1 ∨ w = 2 ∨ w = 3 ∨ w = 4 ∨ w = 5 ∨ w = 6 ∨ w = 7 := by omega
    unfold fX0_number
    rw [gd_nI (by omega) (by decide), gd_nI (by omega) (by decide), gd_nI (by omega) (by decide), gd_nI (by omega) (by decide), gd_nI (by omega) (by decide), gd_nI (by omega) (by decide), gd_nI (by omega) (by decide), gd_nI (by omega) (by decide), nI_clamp (by omega)]
    rcases hw' with rfl | rfl | rfl | rfl | rfl | rfl | rfl | rfl
    · rfl
    · rfl
    · rfl
    · rfl
    · rfl
    · rfl
    · show (if lPl L g = 0 then some (lSp L g) else some (-9)) = some (if lPl L g = 0 then lSp L g else -9)
      split <;> rfl
    · show (if lPl L g = 2 then some (lSt L g) else some (-9)) = some (if lPl L g = 2 then lSt L g else -9)
      split <;> rfl
  unfold fL_grip fX4_grip
  rw [hL, h.hasY hg, Option.bind_some, if_neg (by decide), c_isGripNumber, if_pos ⟨nI_pos' (by omega), nI_le (b := 7) (by omega) (by decide)⟩, Option.bind_some, if_neg (by decide), e, Option.bind_some, Option.bind_some, gm0]
theorem agr (hL : gLift G = L) (h : LOk k n L) : fL_grips G = some (nI k, G) := by
  unfold fL_grips
  rw [an_1 hL h, Option.bind_some, lN_i]
end AN

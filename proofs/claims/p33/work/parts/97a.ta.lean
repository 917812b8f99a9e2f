/-! PURE LEVEL of the property: TELLS, one: the text that is told -/
/-- only the text differs, which is F's first p signs -/
def TXL (G G' : GSt) (F : Nat → Nat) (p : Nat) : Prop := gLift G' = gLift G ∧ gHis G' = gHis G ∧ gSav G' = gSav G ∧ gSvd G' = gSvd G ∧ gRem G' = gRem G ∧ gNxt G' = gNxt G ∧ sLen (tSg (gTxt G')) = nI p ∧ ∀ i, i < p → sRow (tSg (gTxt G')) i = nI (F i)
def TF (F : Nat → Nat) (n l0 l1 l2 l3 l4 ln gr : Nat) (w v sl : Nat → Nat) : Prop :=
  (F 0 = 76 ∧ F 1 = 48 + n / 10 ∧ F 2 = 48 + n % 10 ∧ F 3 = 48 + l0 / 10 ∧ F 4 = 48 + l0 % 10 ∧ F 5 = 48 + l1 / 10 ∧ F 6 = 48 + l1 % 10 ∧ F 7 = 48 + l2 ∧ F 8 = 48 + l3 ∧ F 9 = 48 + l4) ∧
  (∀ j, j < ln → F (10 + 4 * j) = 103 ∧ F (10 + 4 * j + 1) = 48 + w j ∧ F (10 + 4 * j + 2) = 48 + sl j / 10 ∧ F (10 + 4 * j + 3) = 48 + sl j % 10) ∧
  ∀ j, j < gr → F (10 + 4 * ln + 2 * j) = 104 ∧ F (10 + 4 * ln + 2 * j + 1) = 48 + v j
theorem TF_ex (n l0 l1 l2 l3 l4 ln gr : Nat) (w v sl : Nat → Nat) : ∃ F, TF F n l0 l1 l2 l3 l4 ln gr w v sl := by
  refine ⟨fun q => if q = 0 then 76 else if q = 1 then 48 + n / 10 else if q = 2 then 48 + n % 10 else if q = 3 then 48 + l0 / 10 else if q = 4 then 48 + l0 % 10 else if q = 5 then 48 + l1 / 10 else if q = 6 then 48 + l1 % 10 else if q = 7 then 48 + l2 else if q = 8 then 48 + l3 else if q = 9 then 48 + l4 else if q < 10 + 4 * ln then (if (q - 10) % 4 = 0 then 103 else if (q - 10) % 4 = 1 then 48 + w ((q - 10) / 4) else if (q - 10) % 4 = 2 then 48 + sl ((q - 10) / 4) / 10 else 48 + sl ((q - 10) / 4) % 10) else if (q - 10 - 4 * ln) % 2 = 0 then 104 else 48 + v ((q - 10 - 4 * ln) / 2), ⟨rfl, rfl, rfl, rfl, rfl, rfl, rfl, rfl, rfl, rfl⟩, fun j hj => ?_, fun j hj => ?_⟩
  · have a0 : (10 + 4 * j - 10) % 4 = 0 := by omega
    have a1 : (10 + 4 * j + 1 - 10) % 4 = 1 := by omega
    have a2 : (10 + 4 * j + 2 - 10) % 4 = 2 := by omega
    have a3 : (10 + 4 * j + 3 - 10) % 4 = 3 := by omega
    have b1 : (10 + 4 * j + 1 - 10) / 4 = j := by omega
    have b2 : (10 + 4 * j + 2 - 10) / 4 = j := by omega
    have b3 : (10 + 4 * j + 3 - 10) / 4 = j := by omega
    refine ⟨?_, ?_, ?_, ?_⟩
    · dsimp only
      rw [if_neg (by omega), if_neg (by omega), if_neg (by omega), if_neg (by omega), if_neg (by omega), if_neg (by omega), if_neg (by omega), if_neg (by omega), if_neg (by omega), if_neg (by omega), if_pos (by omega), if_pos a0]
    · dsimp only
      rw [if_neg (by omega), if_neg (by omega), if_neg (by omega), if_neg (by omega), if_neg (by omega), if_neg (by omega), if_neg (by omega), if_neg (by omega), if_neg (by omega), if_neg (by omega), if_pos (by omega), if_neg (by omega), if_pos a1, b1]
    · dsimp only
      rw [if_neg (by omega), if_neg (by omega), if_neg (by omega), if_neg (by omega), if_neg (by omega), if_neg (by omega), if_neg (by omega), if_neg (by omega), if_neg (by omega), if_neg (by omega), if_pos (by omega), if_neg (by omega), if_neg (by omega), if_pos a2, b2]
    · dsimp only
      rw [if_neg (by omega), if_neg (by omega), if_neg (by omega), if_neg (by omega), if_neg (by omega), if_neg (by omega), if_neg (by omega), if_neg (by omega), if_neg (by omega), if_neg (by omega), if_pos (by omega), if_neg (by omega), if_neg (by omega), if_neg (by omega), b3]
  · have a0 : (10 + 4 * ln + 2 * j - 10 - 4 * ln) % 2 = 0 := by omega
    have a1 : ¬ (10 + 4 * ln + 2 * j + 1 - 10 - 4 * ln) % 2 = 0 := by omega
    have b1 : (10 + 4 * ln + 2 * j + 1 - 10 - 4 * ln) / 2 = j := by omega
    refine ⟨?_, ?_⟩
    · dsimp only
      rw [if_neg (by omega), if_neg (by omega), if_neg (by omega), if_neg (by omega), if_neg (by omega), if_neg (by omega), if_neg (by omega), if_neg (by omega), if_neg (by omega), if_neg (by omega), if_neg (by omega), if_pos a0]
    · dsimp only
      rw [if_neg (by omega), if_neg (by omega), if_neg (by omega), if_neg (by omega), if_neg (by omega), if_neg (by omega), if_neg (by omega), if_neg (by omega), if_neg (by omega), if_neg (by omega), if_neg (by omega), if_neg a1, b1]
section TA
variable {G G' : GSt} {F : Nat → Nat} {p : Nat}
theorem tx_add (h : TXL G G' F p) (hp : p < 60) {c : Nat} (hc : c < 256) (hF : F p = c) : ∃ G'', fL_append G' (nI c) = some (lN (p + 1), G'') ∧ TXL G G'' F (p + 1) := by
  obtain ⟨h1, h2, h3, h4, h5, h6, h7, h8⟩ := h
  unfold fL_append fX4_append fX3_isFull
  rw [if_neg (nI_pos (by omega)), if_pos (show nI c ≤ 255 from nI_le (b := 255) (by omega) (by decide)), h7, if_pos (show nI p < 60 from nI_lt (b := 60) hp (by decide)), Option.bind_some, if_pos rfl, s_put h7 hp, Option.bind_some, ch_nar c hc]
  refine ⟨(gLift G', gTrial G', ((upd (sRow (tSg (gTxt G'))) p (nI c), nI (p + 1)), tD (gTxt G'), tAt (gTxt G')), gSum G', gHis G', gSav G', gSvd G', gRem G', gNxt G'), ?_, h1, h2, h3, h4, h5, h6, rfl, fun i hi => ?_⟩
  · show gmx 1 2 (0, nI (p + 1), _) = _
    rw [gm0, nI_l (by omega)]
  show upd (sRow (tSg (gTxt G'))) p (nI c) i = nI (F i)
  by_cases e : i = p
  · subst e; rw [upd_at, hF]
  · rw [upd_ne e]; exact h8 i (by omega)
theorem tx_pos (p : Nat) (hp : p < 1000) : ¬ lg_cmp (lN (p + 1)) 0 ≤ 0 := fun z => by
  have z := (lcle _ _).mp z
  rw [lN_toInt (show p + 1 < 2 ^ 31 by omega), l0T] at z
  omega
theorem n48 (a : Nat) : 48 + nI a = nI (48 + a) := nI_add 48 a
/-- two signs -/
theorem tx_two (h : TXL G G' F p) (hp : p < 59) {v : Nat} (hv : v < 100) (h1 : F p = 48 + v / 10) (h2 : F (p + 1) = 48 + v % 10) : ∃ G'', fL_two G' (nI v) = some G'' ∧ TXL G G'' F (p + 2) := by
  have e1 : nI v / 10 = nI (v / 10) := pk_div (d := 10) (by omega) (by decide) (by decide)
  have e2 : nI v - nI v / 10 * 10 = nI (v % 10) := pk_rem (d := 10) (by omega) (by decide) (by decide)
  unfold fL_two
  rw [e2, e1, n48, n48]
  obtain ⟨G1, a1, t1⟩ := tx_add h (by omega) (c := 48 + v / 10) (by omega) h1
  obtain ⟨G2, a2, t2⟩ := tx_add t1 (by omega) (c := 48 + v % 10) (by omega) h2
  rw [a1, Option.bind_some]
  show ∃ G'', (if lg_cmp (lN (p + 1)) 0 ≤ 0 then none else (fL_append G1 (nI (48 + v % 10))).bind _) = some G'' ∧ _
  rw [if_neg (tx_pos p (by omega)), a2, Option.bind_some]
  show ∃ G'', (if lg_cmp (lN (p + 1 + 1)) 0 ≤ 0 then none else _) = some G'' ∧ _
  rw [if_neg (tx_pos (p + 1) (by omega))]
  exact ⟨G2, rfl, t2⟩
end TA
/-- the signs read: F's -/
def ZF (Z : SSt) (len : Nat) (F : Nat → Nat) : Prop := sLen Z = nI len ∧ len ≤ 60 ∧ ∀ i, i < len → sRow Z i = nI (F i)
section TB
variable {Z : SSt} {len p : Nat} {F : Nat → Nat} {D : LSt}
theorem ZF.ch1 (h : ZF Z len F) (hp : p < len) : chr Z len p = nI (F p) := by
  unfold chr; rw [if_pos hp]; exact h.2.2 p hp
theorem ZF.dv1 (h : ZF Z len F) (hp : p < len) {d : Nat} (hd : F p = 48 + d) : dv Z len p = nI d := by
  unfold dv; rw [h.ch1 hp, hd, show (48 : Int32) = nI 48 from rfl, pk_sub (by omega), Nat.add_sub_cancel_left]
theorem z_digit (h : ZF Z len F) (hp : p < len) {d lo hi : Nat} (hd : F p = 48 + d) (h1 : lo ≤ d) (h2 : d ≤ hi) (hh : hi < 100) : fX1_readDigit (Z, D, nI p) (nI lo) (nI hi) = some (nI d, (Z, D, nI (p + 1))) := by
  rw [c_digit h.1 h.2.1 (by have := h.2.1; omega), h.dv1 hp hd, if_pos ⟨nI_le h1 (by omega), nI_le h2 (by omega)⟩]
theorem z_pair (h : ZF Z len F) (hp : p + 1 < len) {v : Nat} (hv : v < 100) (h1 : F p = 48 + v / 10) (h2 : F (p + 1) = 48 + v % 10) {lo hi fr : Int32} {P : Int32 → Bool} (hP : ∀ q y, fX1_isAllowed (Z, D, q) y lo hi fr = some (if P y = true then 1 else 0)) (hy : P (nI v) = true) : fX1_readPair (Z, D, nI p) lo hi fr = some (nI v, (Z, D, nI (p + 2))) := by
  have e : nI (v / 10) * 10 + nI (v % 10) = nI v := by
    rw [show (10 : Int32) = nI 10 from rfl, pk_mul, nI_add]
    exact congrArg nI (by omega)
  have hl := h.2.1
  rw [c_pair h.1 h.2.1 (by omega) hP, h.dv1 (p := p) (by omega) h1, h.dv1 (p := p + 1) hp h2, if_neg (sCt_hit (i := v % 10) (by omega) (by show P (nI (v / 10) * 10 + nI (v % 10)) = true; rw [e]; exact hy)), e, if_pos ⟨⟨nI_pos' (by omega), nI_le (b := 9) (by omega) (by decide)⟩, hy⟩]
theorem inP_y {lo hi v : Nat} (h1 : lo ≤ v) (h2 : v ≤ hi) (hh : hi < 100) : inP lo hi (nI v) = true := decide_eq_true ⟨nI_le h1 (by omega), nI_le h2 (by omega)⟩
theorem m1n {v : Nat} (h : v < 2 ^ 31) : ¬ nI v = -1 := (neg1 (x := nI v) (nI_pos' h)).1
end TB

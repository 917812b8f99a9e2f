/-! PURE LEVEL: the report -/
def pl_ (f : RI) (s : Nat) : List Int32 → RI
  | [] => f
  | x :: xs => pl_ (upd f s x) (s + 1) xs
theorem pl_same : ∀ (xs : List Int32) (f f' : RI) (s : Nat), (∀ i, i < s → f i = f' i) → ∀ i, i < s + xs.length → pl_ f s xs i = pl_ f' s xs i
  | [], f, f', s, h, i, hi => h i hi
  | x :: xs, f, f', s, h, i, hi => pl_same xs _ _ (s + 1) (fun j hj => by
      by_cases e : j = s
      · subst e; rw [upd_at, upd_at]
      · rw [upd_ne e, upd_ne e]; exact h j (by omega)) i (by rw [List.length_cons] at hi; omega)
theorem aI97 (i : Nat) : (97 : Int32) + nI i = nI (97 + i) := nI_add 97 i
theorem nIa1 (i : Nat) : nI i + 1 = nI (i + 1) := nI_1 i
theorem nIa2 (i : Nat) : nI i + 2 = nI (i + 2) := nI_add i 2
theorem dig_lo {a : Nat} (h : a < 100) : (48 : Int32) + (nI a - nI a / 10 * 10) = nI (48 + a % 10) := by
  rw [show nI a - nI a / 10 * 10 = nI (a % 10) from pk_rem (d := 10) (by omega) (by decide) (by decide)]; exact nI_add 48 _
theorem dig_hi {a : Nat} (h : a < 100) : (48 : Int32) + nI a / 10 = nI (48 + a / 10) := by
  rw [show nI a / 10 = nI (a / 10) from pk_div (d := 10) (by omega) (by decide) (by decide)]; exact nI_add 48 _
theorem put_c {f : RI} {s c : Nat} (h : s < 60) (hc : c < 256) : fX3_put (f, nI s) (((nI c).toUInt32 % 65536).toInt32) = some (upd f s (nI c), nI (s + 1)) := by
  rw [s_put (Z := (f, nI s)) rfl h, ch_nar c hc]
theorem put_l {f : RI} {s : Nat} (h : s < 60) : (fX3_put (f, nI s) 32 = some (upd f s 32, nI (s + 1)) ∧ fX3_put (f, nI s) 64 = some (upd f s 64, nI (s + 1)) ∧ fX3_put (f, nI s) 103 = some (upd f s 103, nI (s + 1))) ∧ fX3_put (f, nI s) 119 = some (upd f s 119, nI (s + 1)) ∧ fX3_put (f, nI s) 120 = some (upd f s 120, nI (s + 1)) := by
  refine ⟨⟨?_, ?_, ?_⟩, ?_, ?_⟩ <;> rw [s_put (Z := (f, nI s)) rfl h] <;> rfl
theorem put_n1 {f : RI} {s a : Nat} (h : s < 60) (ha : a ≤ 9) : fX3_putNumber (f, nI s) (nI a) = some (upd f s (nI (48 + a % 10)), nI (s + 1)) := by
  unfold fX3_putNumber
  rw [if_pos (show nI a ≤ 9 from nI_le (b := 9) ha (by decide)), dig_lo (by omega), put_c h (by omega), Option.bind_some]
theorem put_n2 {f : RI} {s a : Nat} (h : s < 59) (ha : 9 < a) (ha2 : a < 100) : fX3_putNumber (f, nI s) (nI a) = some (upd (upd f s (nI (48 + a / 10))) (s + 1) (nI (48 + a % 10)), nI (s + 2)) := by
  unfold fX3_putNumber
  rw [if_neg (show ¬ nI a ≤ 9 from nI_ge (b := a) (a := 9) ha (by omega)), dig_hi ha2, put_c (by omega) (by omega), Option.bind_some, dig_lo ha2, put_c (by omega) (by omega), Option.bind_some]
/-- what a grip adds -/
def RepOk (k n g s : Nat) (L : LSt) (S : MSt) (Z : SSt) : Prop := ∃ (xs : List Int32) (A' : Nat → RI), 1 ≤ xs.length ∧ xs.length ≤ 5 ∧ (g = 0 → xs.length ≤ 4) ∧ fX0_describeGrip (L, Z) (nI g) = some (L, (pl_ (sRow Z) s xs, nI (s + xs.length))) ∧ (∀ f, fX5_layReport_L4 (f + 1) S (nI s) (nI g) = fX5_layReport_L4 f (A', S.2) (nI (s + xs.length)) (nI (g + 1))) ∧ A' 9 = pl_ (mA S 9) s xs ∧ ∀ c, c ≠ 9 → A' c = mA S c
set_option maxHeartbeats 1000000 in
theorem rep_0_l1 {k n g s : Nat} {L : LSt} {S : MSt} {row : RI} (hkg : g < k) (hk12 : k ≤ 12) (hk : mA S 3 96 = nI k) (hm : mA S 3 (60 + g) = lPl L g) {a : Nat} (hp : lPl L g = 0) (hx : lSp L g = nI a) (hy : mA S 3 (72 + g) = nI a) (ha : a ≤ 9) (hg0 : g = 0) (hs0 : s = 0) : RepOk k n g s L S (row, nI s) := by
  refine ⟨[nI (97 + g), 64, nI (48 + a % 10)], aw (aw (aw (mA S) 9 (s) (nI (97 + g))) 9 (s + 1) 64) 9 (s + 2) (nI (48 + a % 10)), by show 1 ≤ 3; decide, by show 3 ≤ 5; decide, fun z => by show 3 ≤ 4; decide, ?_, fun f => ?_, ?_, fun c hc => ?_⟩
  · show fX0_describeGrip (L, (row, nI s)) (nI g) = some (L, (pl_ row s [nI (97 + g), 64, nI (48 + a % 10)], nI (s + 3)))
    unfold fX0_describeGrip
    simp only [hL, hZ, sLen, aI97]
    rw [if_pos (show nI s ≤ 0 by rw [hs0]; decide), put_c (by omega) (by omega), Option.bind_some]
    rw [gd_nI (by omega) (by decide), nI_clamp (by omega), hp, if_pos rfl]
    rw [show nI (s + 1) = nI (s + 1) from rfl, (put_l (f := upd row s (nI (97 + g))) (s := s + 1) (by omega)).1.2.1, Option.bind_some]
    rw [hx, put_n1 (by omega) ha, Option.bind_some]
    rfl
  · show _ = fX5_layReport_L4 f (aw (aw (aw (mA S) 9 (s) (nI (97 + g))) 9 (s + 1) 64) 9 (s + 2) (nI (48 + a % 10)), S.2) (nI (s + 3)) (nI (g + 1))
    rw [fX5_layReport_L4, hk, if_neg (lt_k hkg hk12), if_pos (show nI g ≤ 0 by rw [hg0]; decide)]
    simp (disch := omega) only [lt, nIa1, nIa2, aI97, aI60, aI72, aI84, gd_nI, nI_clamp, aw_ne, hm, hp, show (9 : Nat) ≠ 3 by decide, show (3 : Nat) ≠ 9 by decide, hy]
    rw [if_pos trivial]
    rw [if_pos (show nI a ≤ 9 from nI_le (b := 9) ha (by decide)), if_neg (nI_pos (by omega)), dig_lo (by omega)]
  · show (aw (aw (aw (mA S) 9 (s) (nI (97 + g))) 9 (s + 1) 64) 9 (s + 2) (nI (48 + a % 10))) 9 = pl_ (mA S 9) s [nI (97 + g), 64, nI (48 + a % 10)]
    simp only [aw_at, pl_]
  · simp (disch := omega) only [aw_ne]
set_option maxHeartbeats 1000000 in
theorem rep_0_l2 {k n g s : Nat} {L : LSt} {S : MSt} {row : RI} (hkg : g < k) (hk12 : k ≤ 12) (hk : mA S 3 96 = nI k) (hm : mA S 3 (60 + g) = lPl L g) {a : Nat} (hp : lPl L g = 0) (hx : lSp L g = nI a) (hy : mA S 3 (72 + g) = nI a) (ha : 9 < a) (ha2 : a < 100) (hg0 : g = 0) (hs0 : s = 0) : RepOk k n g s L S (row, nI s) := by
  refine ⟨[nI (97 + g), 64, nI (48 + a / 10), nI (48 + a % 10)], aw (aw (aw (aw (mA S) 9 (s) (nI (97 + g))) 9 (s + 1) 64) 9 (s + 2) (nI (48 + a / 10))) 9 (s + 3) (nI (48 + a % 10)), by show 1 ≤ 4; decide, by show 4 ≤ 5; decide, fun z => by show 4 ≤ 4; decide, ?_, fun f => ?_, ?_, fun c hc => ?_⟩
  · show fX0_describeGrip (L, (row, nI s)) (nI g) = some (L, (pl_ row s [nI (97 + g), 64, nI (48 + a / 10), nI (48 + a % 10)], nI (s + 4)))
    unfold fX0_describeGrip
    simp only [hL, hZ, sLen, aI97]
    rw [if_pos (show nI s ≤ 0 by rw [hs0]; decide), put_c (by omega) (by omega), Option.bind_some]
    rw [gd_nI (by omega) (by decide), nI_clamp (by omega), hp, if_pos rfl]
    rw [show nI (s + 1) = nI (s + 1) from rfl, (put_l (f := upd row s (nI (97 + g))) (s := s + 1) (by omega)).1.2.1, Option.bind_some]
    rw [hx, put_n2 (by omega) ha ha2, Option.bind_some]
    rfl
  · show _ = fX5_layReport_L4 f (aw (aw (aw (aw (mA S) 9 (s) (nI (97 + g))) 9 (s + 1) 64) 9 (s + 2) (nI (48 + a / 10))) 9 (s + 3) (nI (48 + a % 10)), S.2) (nI (s + 4)) (nI (g + 1))
    rw [fX5_layReport_L4, hk, if_neg (lt_k hkg hk12), if_pos (show nI g ≤ 0 by rw [hg0]; decide)]
    simp (disch := omega) only [lt, nIa1, nIa2, aI97, aI60, aI72, aI84, gd_nI, nI_clamp, aw_ne, hm, hp, show (9 : Nat) ≠ 3 by decide, show (3 : Nat) ≠ 9 by decide, hy]
    rw [if_pos trivial]
    rw [if_neg (show ¬ nI a ≤ 9 from nI_ge (b := a) (a := 9) ha (by omega)), if_neg (nI_pos (by omega)), dig_hi ha2, dig_lo ha2]
  · show (aw (aw (aw (aw (mA S) 9 (s) (nI (97 + g))) 9 (s + 1) 64) 9 (s + 2) (nI (48 + a / 10))) 9 (s + 3) (nI (48 + a % 10))) 9 = pl_ (mA S 9) s [nI (97 + g), 64, nI (48 + a / 10), nI (48 + a % 10)]
    simp only [aw_at, pl_]
  · simp (disch := omega) only [aw_ne]
set_option maxHeartbeats 1000000 in
theorem rep_0_g {k n g s : Nat} {L : LSt} {S : MSt} {row : RI} (hkg : g < k) (hk12 : k ≤ 12) (hk : mA S 3 96 = nI k) (hm : mA S 3 (60 + g) = lPl L g) (hp : lPl L g = 1) (hg0 : g = 0) (hs0 : s = 0) : RepOk k n g s L S (row, nI s) := by
  refine ⟨[nI (97 + g), 103], aw (aw (mA S) 9 (s) (nI (97 + g))) 9 (s + 1) 103, by show 1 ≤ 2; decide, by show 2 ≤ 5; decide, fun z => by show 2 ≤ 4; decide, ?_, fun f => ?_, ?_, fun c hc => ?_⟩
  · show fX0_describeGrip (L, (row, nI s)) (nI g) = some (L, (pl_ row s [nI (97 + g), 103], nI (s + 2)))
    unfold fX0_describeGrip
    simp only [hL, hZ, sLen, aI97]
    rw [if_pos (show nI s ≤ 0 by rw [hs0]; decide), put_c (by omega) (by omega), Option.bind_some]
    rw [gd_nI (by omega) (by decide), nI_clamp (by omega), hp, if_neg (show ¬ (1 : Int32) = 0 by decide), if_pos rfl]
    rw [show nI (s + 1) = nI (s + 1) from rfl, (put_l (f := upd row s (nI (97 + g))) (s := s + 1) (by omega)).1.2.2, Option.bind_some]
    rfl
  · show _ = fX5_layReport_L4 f (aw (aw (mA S) 9 (s) (nI (97 + g))) 9 (s + 1) 103, S.2) (nI (s + 2)) (nI (g + 1))
    rw [fX5_layReport_L4, hk, if_neg (lt_k hkg hk12), if_pos (show nI g ≤ 0 by rw [hg0]; decide)]
    simp (disch := omega) only [lt, nIa1, nIa2, aI97, aI60, aI72, aI84, gd_nI, nI_clamp, aw_ne, hm, hp, show (9 : Nat) ≠ 3 by decide, show (3 : Nat) ≠ 9 by decide]
    rw [if_neg (show ¬ (1 : Int32) = 0 by decide), if_pos trivial, if_neg (show ¬ (1 : Int32) = 2 by decide)]
  · show (aw (aw (mA S) 9 (s) (nI (97 + g))) 9 (s + 1) 103) 9 = pl_ (mA S 9) s [nI (97 + g), 103]
    simp only [aw_at, pl_]
  · simp (disch := omega) only [aw_ne]
set_option maxHeartbeats 1000000 in
theorem rep_0_w {k n g s : Nat} {L : LSt} {S : MSt} {row : RI} (hkg : g < k) (hk12 : k ≤ 12) (hk : mA S 3 96 = nI k) (hm : mA S 3 (60 + g) = lPl L g) {a : Nat} (hp : lPl L g = 2) (hx : lSt L g = nI a) (hy : mA S 3 (84 + g) = nI a) (ha : a ≤ 9) (hg0 : g = 0) (hs0 : s = 0) : RepOk k n g s L S (row, nI s) := by
  refine ⟨[nI (97 + g), 119, nI (48 + a % 10)], aw (aw (aw (mA S) 9 (s) (nI (97 + g))) 9 (s + 1) 119) 9 (s + 2) (nI (48 + a % 10)), by show 1 ≤ 3; decide, by show 3 ≤ 5; decide, fun z => by show 3 ≤ 4; decide, ?_, fun f => ?_, ?_, fun c hc => ?_⟩
  · show fX0_describeGrip (L, (row, nI s)) (nI g) = some (L, (pl_ row s [nI (97 + g), 119, nI (48 + a % 10)], nI (s + 3)))
    unfold fX0_describeGrip
    simp only [hL, hZ, sLen, aI97]
    rw [if_pos (show nI s ≤ 0 by rw [hs0]; decide), put_c (by omega) (by omega), Option.bind_some]
    rw [gd_nI (by omega) (by decide), nI_clamp (by omega), hp, if_neg (show ¬ (2 : Int32) = 0 by decide), if_neg (show ¬ (2 : Int32) = 1 by decide), if_pos rfl]
    rw [show nI (s + 1) = nI (s + 1) from rfl, (put_l (f := upd row s (nI (97 + g))) (s := s + 1) (by omega)).2.1, Option.bind_some]
    rw [hx, put_n1 (by omega) ha, Option.bind_some]
    rfl
  · show _ = fX5_layReport_L4 f (aw (aw (aw (mA S) 9 (s) (nI (97 + g))) 9 (s + 1) 119) 9 (s + 2) (nI (48 + a % 10)), S.2) (nI (s + 3)) (nI (g + 1))
    rw [fX5_layReport_L4, hk, if_neg (lt_k hkg hk12), if_pos (show nI g ≤ 0 by rw [hg0]; decide)]
    simp (disch := omega) only [lt, nIa1, nIa2, aI97, aI60, aI72, aI84, gd_nI, nI_clamp, aw_ne, hm, hp, show (9 : Nat) ≠ 3 by decide, show (3 : Nat) ≠ 9 by decide, hy]
    rw [if_neg (show ¬ (2 : Int32) = 0 by decide), if_neg (show ¬ (2 : Int32) = 1 by decide), if_pos trivial]
    rw [if_pos (show nI a ≤ 9 from nI_le (b := 9) ha (by decide)), if_neg (nI_pos (by omega)), dig_lo (by omega)]
  · show (aw (aw (aw (mA S) 9 (s) (nI (97 + g))) 9 (s + 1) 119) 9 (s + 2) (nI (48 + a % 10))) 9 = pl_ (mA S 9) s [nI (97 + g), 119, nI (48 + a % 10)]
    simp only [aw_at, pl_]
  · simp (disch := omega) only [aw_ne]
set_option maxHeartbeats 1000000 in
theorem rep_0_x {k n g s : Nat} {L : LSt} {S : MSt} {row : RI} (hkg : g < k) (hk12 : k ≤ 12) (hk : mA S 3 96 = nI k) (hm : mA S 3 (60 + g) = lPl L g) (hp : lPl L g = 3) (hg0 : g = 0) (hs0 : s = 0) : RepOk k n g s L S (row, nI s) := by
  refine ⟨[nI (97 + g), 120], aw (aw (mA S) 9 (s) (nI (97 + g))) 9 (s + 1) 120, by show 1 ≤ 2; decide, by show 2 ≤ 5; decide, fun z => by show 2 ≤ 4; decide, ?_, fun f => ?_, ?_, fun c hc => ?_⟩
  · show fX0_describeGrip (L, (row, nI s)) (nI g) = some (L, (pl_ row s [nI (97 + g), 120], nI (s + 2)))
    unfold fX0_describeGrip
    simp only [hL, hZ, sLen, aI97]
    rw [if_pos (show nI s ≤ 0 by rw [hs0]; decide), put_c (by omega) (by omega), Option.bind_some]
    rw [gd_nI (by omega) (by decide), nI_clamp (by omega), hp, if_neg (show ¬ (3 : Int32) = 0 by decide), if_neg (show ¬ (3 : Int32) = 1 by decide), if_neg (show ¬ (3 : Int32) = 2 by decide)]
    rw [show nI (s + 1) = nI (s + 1) from rfl, (put_l (f := upd row s (nI (97 + g))) (s := s + 1) (by omega)).2.2, Option.bind_some]
    rfl
  · show _ = fX5_layReport_L4 f (aw (aw (mA S) 9 (s) (nI (97 + g))) 9 (s + 1) 120, S.2) (nI (s + 2)) (nI (g + 1))
    rw [fX5_layReport_L4, hk, if_neg (lt_k hkg hk12), if_pos (show nI g ≤ 0 by rw [hg0]; decide)]
    simp (disch := omega) only [lt, nIa1, nIa2, aI97, aI60, aI72, aI84, gd_nI, nI_clamp, aw_ne, hm, hp, show (9 : Nat) ≠ 3 by decide, show (3 : Nat) ≠ 9 by decide]
    rw [if_neg (show ¬ (3 : Int32) = 0 by decide), if_neg (show ¬ (3 : Int32) = 1 by decide), if_neg (show ¬ (3 : Int32) = 2 by decide)]
  · show (aw (aw (mA S) 9 (s) (nI (97 + g))) 9 (s + 1) 120) 9 = pl_ (mA S 9) s [nI (97 + g), 120]
    simp only [aw_at, pl_]
  · simp (disch := omega) only [aw_ne]
set_option maxHeartbeats 1000000 in
theorem rep_1_l1 {k n g s : Nat} {L : LSt} {S : MSt} {row : RI} (hkg : g < k) (hk12 : k ≤ 12) (hk : mA S 3 96 = nI k) (hm : mA S 3 (60 + g) = lPl L g) {a : Nat} (hp : lPl L g = 0) (hx : lSp L g = nI a) (hy : mA S 3 (72 + g) = nI a) (ha : a ≤ 9) (hg0 : 0 < g) (hs0 : 1 ≤ s) (hs1 : s ≤ 54) : RepOk k n g s L S (row, nI s) := by
  refine ⟨[32, nI (97 + g), 64, nI (48 + a % 10)], aw (aw (aw (aw (mA S) 9 (s) 32) 9 (s + 1) (nI (97 + g))) 9 (s + 2) 64) 9 (s + 3) (nI (48 + a % 10)), by show 1 ≤ 4; decide, by show 4 ≤ 5; decide, fun z => by show 4 ≤ 4; decide, ?_, fun f => ?_, ?_, fun c hc => ?_⟩
  · show fX0_describeGrip (L, (row, nI s)) (nI g) = some (L, (pl_ row s [32, nI (97 + g), 64, nI (48 + a % 10)], nI (s + 4)))
    unfold fX0_describeGrip
    simp only [hL, hZ, sLen, aI97]
    rw [if_neg (nI_nle (by omega) (by omega)), (put_l (f := row) (s := s) (by omega)).1.1, Option.bind_some, put_c (by omega) (by omega), Option.bind_some]
    rw [gd_nI (by omega) (by decide), nI_clamp (by omega), hp, if_pos rfl]
    rw [show nI (s + 1 + 1) = nI (s + 2) from rfl, (put_l (f := upd (upd row s 32) (s + 1) (nI (97 + g))) (s := s + 2) (by omega)).1.2.1, Option.bind_some]
    rw [hx, put_n1 (by omega) ha, Option.bind_some]
    rfl
  · show _ = fX5_layReport_L4 f (aw (aw (aw (aw (mA S) 9 (s) 32) 9 (s + 1) (nI (97 + g))) 9 (s + 2) 64) 9 (s + 3) (nI (48 + a % 10)), S.2) (nI (s + 4)) (nI (g + 1))
    rw [fX5_layReport_L4, hk, if_neg (lt_k hkg hk12), if_neg (nI_nle (by omega) (by omega))]
    simp (disch := omega) only [lt, nIa1, nIa2, aI97, aI60, aI72, aI84, gd_nI, nI_clamp, aw_ne, hm, hp, show (9 : Nat) ≠ 3 by decide, show (3 : Nat) ≠ 9 by decide, hy]
    rw [if_pos trivial]
    rw [if_pos (show nI a ≤ 9 from nI_le (b := 9) ha (by decide)), if_neg (nI_pos (by omega)), dig_lo (by omega)]
  · show (aw (aw (aw (aw (mA S) 9 (s) 32) 9 (s + 1) (nI (97 + g))) 9 (s + 2) 64) 9 (s + 3) (nI (48 + a % 10))) 9 = pl_ (mA S 9) s [32, nI (97 + g), 64, nI (48 + a % 10)]
    simp only [aw_at, pl_]
  · simp (disch := omega) only [aw_ne]
set_option maxHeartbeats 1000000 in
theorem rep_1_l2 {k n g s : Nat} {L : LSt} {S : MSt} {row : RI} (hkg : g < k) (hk12 : k ≤ 12) (hk : mA S 3 96 = nI k) (hm : mA S 3 (60 + g) = lPl L g) {a : Nat} (hp : lPl L g = 0) (hx : lSp L g = nI a) (hy : mA S 3 (72 + g) = nI a) (ha : 9 < a) (ha2 : a < 100) (hg0 : 0 < g) (hs0 : 1 ≤ s) (hs1 : s ≤ 54) : RepOk k n g s L S (row, nI s) := by
  refine ⟨[32, nI (97 + g), 64, nI (48 + a / 10), nI (48 + a % 10)], aw (aw (aw (aw (aw (mA S) 9 (s) 32) 9 (s + 1) (nI (97 + g))) 9 (s + 2) 64) 9 (s + 3) (nI (48 + a / 10))) 9 (s + 4) (nI (48 + a % 10)), by show 1 ≤ 5; decide, by show 5 ≤ 5; decide, fun z => by show 5 ≤ 4; omega, ?_, fun f => ?_, ?_, fun c hc => ?_⟩
  · show fX0_describeGrip (L, (row, nI s)) (nI g) = some (L, (pl_ row s [32, nI (97 + g), 64, nI (48 + a / 10), nI (48 + a % 10)], nI (s + 5)))
    unfold fX0_describeGrip
    simp only [hL, hZ, sLen, aI97]
    rw [if_neg (nI_nle (by omega) (by omega)), (put_l (f := row) (s := s) (by omega)).1.1, Option.bind_some, put_c (by omega) (by omega), Option.bind_some]
    rw [gd_nI (by omega) (by decide), nI_clamp (by omega), hp, if_pos rfl]
    rw [show nI (s + 1 + 1) = nI (s + 2) from rfl, (put_l (f := upd (upd row s 32) (s + 1) (nI (97 + g))) (s := s + 2) (by omega)).1.2.1, Option.bind_some]
    rw [hx, put_n2 (by omega) ha ha2, Option.bind_some]
    rfl
  · show _ = fX5_layReport_L4 f (aw (aw (aw (aw (aw (mA S) 9 (s) 32) 9 (s + 1) (nI (97 + g))) 9 (s + 2) 64) 9 (s + 3) (nI (48 + a / 10))) 9 (s + 4) (nI (48 + a % 10)), S.2) (nI (s + 5)) (nI (g + 1))
    rw [fX5_layReport_L4, hk, if_neg (lt_k hkg hk12), if_neg (nI_nle (by omega) (by omega))]
    simp (disch := omega) only [lt, nIa1, nIa2, aI97, aI60, aI72, aI84, gd_nI, nI_clamp, aw_ne, hm, hp, show (9 : Nat) ≠ 3 by decide, show (3 : Nat) ≠ 9 by decide, hy]
    rw [if_pos trivial]
    rw [if_neg (show ¬ nI a ≤ 9 from nI_ge (b := a) (a := 9) ha (by omega)), if_neg (nI_pos (by omega)), dig_hi ha2, dig_lo ha2]
  · show (aw (aw (aw (aw (aw (mA S) 9 (s) 32) 9 (s + 1) (nI (97 + g))) 9 (s + 2) 64) 9 (s + 3) (nI (48 + a / 10))) 9 (s + 4) (nI (48 + a % 10))) 9 = pl_ (mA S 9) s [32, nI (97 + g), 64, nI (48 + a / 10), nI (48 + a % 10)]
    simp only [aw_at, pl_]
  · simp (disch := omega) only [aw_ne]
set_option maxHeartbeats 1000000 in
theorem rep_1_g {k n g s : Nat} {L : LSt} {S : MSt} {row : RI} (hkg : g < k) (hk12 : k ≤ 12) (hk : mA S 3 96 = nI k) (hm : mA S 3 (60 + g) = lPl L g) (hp : lPl L g = 1) (hg0 : 0 < g) (hs0 : 1 ≤ s) (hs1 : s ≤ 54) : RepOk k n g s L S (row, nI s) := by
  refine ⟨[32, nI (97 + g), 103], aw (aw (aw (mA S) 9 (s) 32) 9 (s + 1) (nI (97 + g))) 9 (s + 2) 103, by show 1 ≤ 3; decide, by show 3 ≤ 5; decide, fun z => by show 3 ≤ 4; decide, ?_, fun f => ?_, ?_, fun c hc => ?_⟩
  · show fX0_describeGrip (L, (row, nI s)) (nI g) = some (L, (pl_ row s [32, nI (97 + g), 103], nI (s + 3)))
    unfold fX0_describeGrip
    simp only [hL, hZ, sLen, aI97]
    rw [if_neg (nI_nle (by omega) (by omega)), (put_l (f := row) (s := s) (by omega)).1.1, Option.bind_some, put_c (by omega) (by omega), Option.bind_some]
    rw [gd_nI (by omega) (by decide), nI_clamp (by omega), hp, if_neg (show ¬ (1 : Int32) = 0 by decide), if_pos rfl]
    rw [show nI (s + 1 + 1) = nI (s + 2) from rfl, (put_l (f := upd (upd row s 32) (s + 1) (nI (97 + g))) (s := s + 2) (by omega)).1.2.2, Option.bind_some]
    rfl
  · show _ = fX5_layReport_L4 f (aw (aw (aw (mA S) 9 (s) 32) 9 (s + 1) (nI (97 + g))) 9 (s + 2) 103, S.2) (nI (s + 3)) (nI (g + 1))
    rw [fX5_layReport_L4, hk, if_neg (lt_k hkg hk12), if_neg (nI_nle (by omega) (by omega))]
    simp (disch := omega) only [lt, nIa1, nIa2, aI97, aI60, aI72, aI84, gd_nI, nI_clamp, aw_ne, hm, hp, show (9 : Nat) ≠ 3 by decide, show (3 : Nat) ≠ 9 by decide]
    rw [if_neg (show ¬ (1 : Int32) = 0 by decide), if_pos trivial, if_neg (show ¬ (1 : Int32) = 2 by decide)]
  · show (aw (aw (aw (mA S) 9 (s) 32) 9 (s + 1) (nI (97 + g))) 9 (s + 2) 103) 9 = pl_ (mA S 9) s [32, nI (97 + g), 103]
    simp only [aw_at, pl_]
  · simp (disch := omega) only [aw_ne]
set_option maxHeartbeats 1000000 in
theorem rep_1_w {k n g s : Nat} {L : LSt} {S : MSt} {row : RI} (hkg : g < k) (hk12 : k ≤ 12) (hk : mA S 3 96 = nI k) (hm : mA S 3 (60 + g) = lPl L g) {a : Nat} (hp : lPl L g = 2) (hx : lSt L g = nI a) (hy : mA S 3 (84 + g) = nI a) (ha : a ≤ 9) (hg0 : 0 < g) (hs0 : 1 ≤ s) (hs1 : s ≤ 54) : RepOk k n g s L S (row, nI s) := by
  refine ⟨[32, nI (97 + g), 119, nI (48 + a % 10)], aw (aw (aw (aw (mA S) 9 (s) 32) 9 (s + 1) (nI (97 + g))) 9 (s + 2) 119) 9 (s + 3) (nI (48 + a % 10)), by show 1 ≤ 4; decide, by show 4 ≤ 5; decide, fun z => by show 4 ≤ 4; decide, ?_, fun f => ?_, ?_, fun c hc => ?_⟩
  · show fX0_describeGrip (L, (row, nI s)) (nI g) = some (L, (pl_ row s [32, nI (97 + g), 119, nI (48 + a % 10)], nI (s + 4)))
    unfold fX0_describeGrip
    simp only [hL, hZ, sLen, aI97]
    rw [if_neg (nI_nle (by omega) (by omega)), (put_l (f := row) (s := s) (by omega)).1.1, Option.bind_some, put_c (by omega) (by omega), Option.bind_some]
    rw [gd_nI (by omega) (by decide), nI_clamp (by omega), hp, if_neg (show ¬ (2 : Int32) = 0 by decide), if_neg (show ¬ (2 : Int32) = 1 by decide), if_pos rfl]
    rw [show nI (s + 1 + 1) = nI (s + 2) from rfl, (put_l (f := upd (upd row s 32) (s + 1) (nI (97 + g))) (s := s + 2) (by omega)).2.1, Option.bind_some]
    rw [hx, put_n1 (by omega) ha, Option.bind_some]
    rfl
  · show _ = fX5_layReport_L4 f (aw (aw (aw (aw (mA S) 9 (s) 32) 9 (s + 1) (nI (97 + g))) 9 (s + 2) 119) 9 (s + 3) (nI (48 + a % 10)), S.2) (nI (s + 4)) (nI (g + 1))
    rw [fX5_layReport_L4, hk, if_neg (lt_k hkg hk12), if_neg (nI_nle (by omega) (by omega))]
    simp (disch := omega) only [lt, nIa1, nIa2, aI97, aI60, aI72, aI84, gd_nI, nI_clamp, aw_ne, hm, hp, show (9 : Nat) ≠ 3 by decide, show (3 : Nat) ≠ 9 by decide, hy]
    rw [if_neg (show ¬ (2 : Int32) = 0 by decide), if_neg (show ¬ (2 : Int32) = 1 by decide), if_pos trivial]
    rw [if_pos (show nI a ≤ 9 from nI_le (b := 9) ha (by decide)), if_neg (nI_pos (by omega)), dig_lo (by omega)]
  · show (aw (aw (aw (aw (mA S) 9 (s) 32) 9 (s + 1) (nI (97 + g))) 9 (s + 2) 119) 9 (s + 3) (nI (48 + a % 10))) 9 = pl_ (mA S 9) s [32, nI (97 + g), 119, nI (48 + a % 10)]
    simp only [aw_at, pl_]
  · simp (disch := omega) only [aw_ne]
set_option maxHeartbeats 1000000 in
theorem rep_1_x {k n g s : Nat} {L : LSt} {S : MSt} {row : RI} (hkg : g < k) (hk12 : k ≤ 12) (hk : mA S 3 96 = nI k) (hm : mA S 3 (60 + g) = lPl L g) (hp : lPl L g = 3) (hg0 : 0 < g) (hs0 : 1 ≤ s) (hs1 : s ≤ 54) : RepOk k n g s L S (row, nI s) := by
  refine ⟨[32, nI (97 + g), 120], aw (aw (aw (mA S) 9 (s) 32) 9 (s + 1) (nI (97 + g))) 9 (s + 2) 120, by show 1 ≤ 3; decide, by show 3 ≤ 5; decide, fun z => by show 3 ≤ 4; decide, ?_, fun f => ?_, ?_, fun c hc => ?_⟩
  · show fX0_describeGrip (L, (row, nI s)) (nI g) = some (L, (pl_ row s [32, nI (97 + g), 120], nI (s + 3)))
    unfold fX0_describeGrip
    simp only [hL, hZ, sLen, aI97]
    rw [if_neg (nI_nle (by omega) (by omega)), (put_l (f := row) (s := s) (by omega)).1.1, Option.bind_some, put_c (by omega) (by omega), Option.bind_some]
    rw [gd_nI (by omega) (by decide), nI_clamp (by omega), hp, if_neg (show ¬ (3 : Int32) = 0 by decide), if_neg (show ¬ (3 : Int32) = 1 by decide), if_neg (show ¬ (3 : Int32) = 2 by decide)]
    rw [show nI (s + 1 + 1) = nI (s + 2) from rfl, (put_l (f := upd (upd row s 32) (s + 1) (nI (97 + g))) (s := s + 2) (by omega)).2.2, Option.bind_some]
    rfl
  · show _ = fX5_layReport_L4 f (aw (aw (aw (mA S) 9 (s) 32) 9 (s + 1) (nI (97 + g))) 9 (s + 2) 120, S.2) (nI (s + 3)) (nI (g + 1))
    rw [fX5_layReport_L4, hk, if_neg (lt_k hkg hk12), if_neg (nI_nle (by omega) (by omega))]
    simp (disch := omega) only [lt, nIa1, nIa2, aI97, aI60, aI72, aI84, gd_nI, nI_clamp, aw_ne, hm, hp, show (9 : Nat) ≠ 3 by decide, show (3 : Nat) ≠ 9 by decide]
    rw [if_neg (show ¬ (3 : Int32) = 0 by decide), if_neg (show ¬ (3 : Int32) = 1 by decide), if_neg (show ¬ (3 : Int32) = 2 by decide)]
  · show (aw (aw (aw (mA S) 9 (s) 32) 9 (s + 1) (nI (97 + g))) 9 (s + 2) 120) 9 = pl_ (mA S 9) s [32, nI (97 + g), 120]
    simp only [aw_at, pl_]
  · simp (disch := omega) only [aw_ne]
theorem rep_one {k n g s : Nat} {L : LSt} {S : MSt} {Z : SSt} (h : RRel k n L (mA S 3)) (hg : g < k) (hz : sLen Z = nI s) (hs : (g = 0 ∧ s = 0) ∨ (0 < g ∧ 1 ≤ s ∧ s + 1 ≤ 5 * g)) : RepOk k n g s L S Z := by
  obtain ⟨row, len⟩ := Z
  have hz : len = nI s := hz
  subst hz
  have hk12 := h.k12
  have hn20 := h.n20
  obtain ⟨c0, c1, c2, c3, c4, c5, c6⟩ := h.cell g hg
  rcases c6.pl with hp | hp | hp | hp
  · obtain ⟨e1, a, ha, e2⟩ := c6.sp hp
    by_cases q : a ≤ 9
    · rcases hs with ⟨g0, s0⟩ | ⟨g0, s0, s1⟩
      · exact rep_0_l1 hg hk12 h.hk c5 hp e2 (e1.trans e2) q g0 s0
      · exact rep_1_l1 hg hk12 h.hk c5 hp e2 (e1.trans e2) q g0 s0 (by omega)
    · rcases hs with ⟨g0, s0⟩ | ⟨g0, s0, s1⟩
      · exact rep_0_l2 hg hk12 h.hk c5 hp e2 (e1.trans e2) (by omega) (by omega) g0 s0
      · exact rep_1_l2 hg hk12 h.hk c5 hp e2 (e1.trans e2) (by omega) (by omega) g0 s0 (by omega)
  · rcases hs with ⟨g0, s0⟩ | ⟨g0, s0, s1⟩
    · exact rep_0_g hg hk12 h.hk c5 hp g0 s0
    · exact rep_1_g hg hk12 h.hk c5 hp g0 s0 (by omega)
  · obtain ⟨e1, a, ha1, ha2, e2⟩ := c6.st hp
    rcases hs with ⟨g0, s0⟩ | ⟨g0, s0, s1⟩
    · exact rep_0_w hg hk12 h.hk c5 hp e2 (e1.trans e2) ha2 g0 s0
    · exact rep_1_w hg hk12 h.hk c5 hp e2 (e1.trans e2) ha2 g0 s0 (by omega)
  · rcases hs with ⟨g0, s0⟩ | ⟨g0, s0, s1⟩
    · exact rep_0_x hg hk12 h.hk c5 hp g0 s0
    · exact rep_1_x hg hk12 h.hk c5 hp g0 s0 (by omega)
theorem run_lo {A : Type} {F : Nat → Nat → A} {N g : Nat} {r : A} (h : ∀ i f, g ≤ i → i < N → F (f + 1) i = F f (i + 1)) (hN : ∀ f, F (f + 1) N = r) : ∀ (d i fuel : Nat), N - i = d → g ≤ i → i ≤ N → d < fuel → F fuel i = r
  | 0, i, fuel, hd, hgi, hi, hf => by
    obtain ⟨f, rfl⟩ : ∃ f, fuel = f + 1 := ⟨fuel - 1, by omega⟩
    rw [show i = N by omega]; exact hN f
  | d + 1, i, fuel, hd, hgi, hi, hf => by
    obtain ⟨f, rfl⟩ : ∃ f, fuel = f + 1 := ⟨fuel - 1, by omega⟩
    rw [h i f hgi (by omega)]; exact run_lo h hN d (i + 1) f (by omega) (by omega) (by omega) (by omega)
theorem run_up2 {A : Type} (F : Nat → Nat → A) (N g : Nat) {r : A} {fuel : Nat} (h : ∀ i f, g ≤ i → i < N → F (f + 1) i = F f (i + 1)) (hN : ∀ f, F (f + 1) N = r) (hg : g ≤ N) (hf : N < fuel) : F fuel g = r := run_lo h hN (N - g) g fuel rfl (Nat.le_refl g) hg (by omega)
theorem lay_loop {k n : Nat} {L : LSt} : ∀ (d g f1 f2 s : Nat) (Z : SSt) (S : MSt), k - g = d → g ≤ k → d + 13 < f1 → d < f2 → sLen Z = nI s → (∀ i, i < s → sRow Z i = mA S 9 i) → ((g = 0 ∧ s = 0) ∨ (0 < g ∧ 1 ≤ s ∧ s + 1 ≤ 5 * g)) → RRel k n L (mA S 3) →
    ∃ (s' : Nat) (Z' : SSt) (S' : MSt), fX0_describe_L6 f1 (L, Z) (nI g) = some (L, Z') ∧ fX5_layReport_L4 f2 S (nI s) (nI g) = some (nI s', S') ∧ sLen Z' = nI s' ∧ s' ≤ 59 ∧ (∀ i, i < s' → sRow Z' i = mA S' 9 i) ∧ (∀ c, c ≠ 9 → mA S' c = mA S c) ∧ S'.2 = S.2
  | 0, g, f1, f2, s, Z, S, hd, hgk, hf1, hf2, hz, hrow, hs, h => by
    obtain rfl : g = k := by omega
    have hk12 := h.k12
    obtain ⟨f2, rfl⟩ : ∃ f', f2 = f' + 1 := ⟨f2 - 1, by omega⟩
    refine ⟨s, Z, S, ?_, ?_, hz, by omega, hrow, fun _ _ => rfl, rfl⟩
    · refine run_up2 (fun f i => fX0_describe_L6 f (L, Z) (nI i)) 12 g (fun i f hgi hi => ?_) (fun f => ?_) hk12 (by omega)
      · show fX0_describe_L6 (f + 1) (L, Z) (nI i) = fX0_describe_L6 f (L, Z) (nI (i + 1))
        rw [fX0_describe_L6, if_neg (l12 hi), gd_nI hi (by decide), nI_clamp (by omega), nI_1]
        show (if lPl L i = -1 then _ else _) = _
        rw [if_pos (h.abs i hgi hi)]
      · show fX0_describe_L6 (f + 1) (L, Z) (nI 12) = _
        rw [fX0_describe_L6, if_pos g12]
    · rw [fX5_layReport_L4, h.hk, if_pos (ge_k g)]
  | d + 1, g, f1, f2, s, Z, S, hd, hgk, hf1, hf2, hz, hrow, hs, h => by
    have hk12 := h.k12
    have hg : g < k := by omega
    obtain ⟨f1, rfl⟩ : ∃ f', f1 = f' + 1 := ⟨f1 - 1, by omega⟩
    obtain ⟨f2, rfl⟩ : ∃ f', f2 = f' + 1 := ⟨f2 - 1, by omega⟩
    obtain ⟨xs, A', x1, x2, x3, r1, r2, r3, r4⟩ := rep_one (n := n) h hg hz hs
    have hr : RRel k n L (mA (A', S.2) 3) := by
      show RRel k n L (A' 3); rw [r4 3 (by decide)]; exact h
    obtain ⟨s', Z', S', q1, q2, q3, q4, q5, q6, q7⟩ := lay_loop d (g + 1) f1 f2 (s + xs.length) (pl_ (sRow Z) s xs, nI (s + xs.length)) (A', S.2) (by omega) (by omega) (by omega) (by omega) rfl (fun i hi => by
      show pl_ (sRow Z) s xs i = A' 9 i
      rw [r3]; exact pl_same xs _ _ s hrow i hi) (Or.inr ⟨by omega, by omega, hs.elim (fun z => by have := x3 z.1; omega) (fun z => by omega)⟩) hr
    refine ⟨s', Z', S', ?_, ?_, q3, q4, q5, fun c hc => (q6 c hc).trans (r4 c hc), q7⟩
    · rw [fX0_describe_L6, if_neg (l12 (by omega)), gd_nI (by omega) (by decide), nI_clamp (by omega)]
      show (if lPl L g = -1 then _ else _) = _
      rw [if_neg (h.nabs hg), r1, Option.bind_some, nI_1]
      exact q1
    · rw [r2, q2]
theorem o_report {G : GSt} {M : MSt} (h : GRel G M) (x : Int32) : OpR 1 9 (fX4_report G x) (fX5_report M x) := by
  have h' := h
  obtain ⟨n, h1, ⟨k, h2⟩, h3, h4, h5⟩ := h'
  have hk12 := h2.k12
  unfold fX4_report fX5_report
  by_cases hc : 0 ≤ x
  · rw [if_pos hc, if_pos hc, m_refused0, Option.bind_some, if_pos rfl]
    obtain ⟨i, hi, rfl⟩ := nI_of (x := x) (fun z => (fa_of_lt z).2.1 hc)
    obtain ⟨s', Z', S', q1, q2, q3, q4, q5, q6, q7⟩ := lay_loop (n := n) (k := k) (L := gLift G) k 0 KF KF 0 (sRow (gSum G), 0) (mA M, (0 : Int32), mSize M, mSpot M, mRN M, mN M, mActs M) (by omega) (by omega) (by show k + 13 < 3000; omega) (by show k < 3000; omega) rfl (fun i hi => absurd hi (Nat.not_lt_zero i)) (Or.inl ⟨rfl, rfl⟩) h2
    have eC : fX0_describe (gLift G, gSum G) = some (gLift G, Z') := by
      unfold fX0_describe fX3_clear
      rw [Option.bind_some]
      exact q1
    have eM : fX5_layReport (mA M, (0 : Int32), mSize M, mSpot M, mRN M, mN M, mActs M) = some (nI s', S') := q2
    have hG : GRel (gLift G, gTrial G, gTxt G, Z', gHis G, gSav G, gSvd G, gRem G, gNxt G) S' := by
      have hA : ∀ c, c ≠ 9 → mA S' c = mA M c := q6
      refine ⟨n, ?_, ⟨k, ?_⟩, ?_, ?_, ?_⟩
      · show S'.2.2.2.2.2.1 = _; rw [q7]; exact h1
      · rw [hA 3 (by decide)]; exact h2
      · rw [hA 1 (by decide), show mSize S' = mSize M from by show S'.2.2.1 = _; rw [q7]]; exact h3
      · rw [hA 5 (by decide), show mActs S' = mActs M from by show S'.2.2.2.2.2.2 = _; rw [q7]]; exact h4
      · rw [hA 7 (by decide), hA 6 (by decide)]; exact h5
    have hRf : mRef S' = 0 := by show S'.2.1 = _; rw [q7]
    rw [eC, eM, Option.bind_some, Option.bind_some]
    show OpR 1 9 ((fX3_at Z' (nI i)).bind _) (if nI s' ≤ nI i then some (-9, S') else gd (nI i) 80 (some (mA S' 9 (nI i).toNatClampNeg, S')))
    unfold fX3_at
    rw [if_neg (nI_pos hi), q3]
    by_cases hl : s' ≤ i
    · rw [if_pos (nI_le hl hi), if_pos (nI_le hl hi), Option.bind_some]
      exact ⟨0, _, _, _, _, rfl, rfl, Or.inl rfl, hRf, fun _ => rfl, hG⟩
    · rw [if_neg (nI_ge (by omega) (by omega)), if_neg (nI_ge (by omega) (by omega)), if_pos (show nI i < 60 from nI_lt (b := 60) (by omega) (by decide)), gd_nI (by omega) (by decide), gd_nI (by omega) (by decide), nI_clamp hi, Option.bind_some, q5 i (by omega)]
      exact ⟨0, _, _, _, _, rfl, rfl, Or.inl rfl, hRf, fun _ => rfl, hG⟩
  · rw [if_neg hc, if_neg hc, m_refused1, Option.bind_some, if_neg c10]
    exact OpR_no h (k := 1) (c := 1) (Or.inl rfl) (by decide) rfl rfl rfl

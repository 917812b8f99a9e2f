/-! PURE LEVEL of the property: the report, sign by sign -/
def nbr (L : LSt) (g : Nat) : Option Nat := if lPl L g = 0 then some (lSp L g).toNatClampNeg else if lPl L g = 2 then some (lSt L g).toNatClampNeg else none
def dgs : Option Nat → List Int32
  | none => []
  | some a => if a ≤ 9 then [nI (48 + a % 10)] else [nI (48 + a / 10), nI (48 + a % 10)]
theorem dgs1 {a : Nat} (h : a ≤ 9) : dgs (some a) = [nI (48 + a % 10)] := if_pos h
theorem dgs2 {a : Nat} (h : ¬ a ≤ 9) : dgs (some a) = [nI (48 + a / 10), nI (48 + a % 10)] := if_neg h
def sgn (L : LSt) (g : Nat) : Int32 := if lPl L g = 0 then 64 else if lPl L g = 1 then 103 else if lPl L g = 2 then 119 else 120
def xsB (L : LSt) (g : Nat) : List Int32 := nI (97 + g) :: sgn L g :: dgs (nbr L g)
def xsG (L : LSt) (g : Nat) : List Int32 := if g = 0 then xsB L g else 32 :: xsB L g
def pos (L : LSt) (g : Nat) : Nat := fb_sm (fun h => (xsB L h).length + 1) g
def rS (L : LSt) (g : Nat) : Nat := if g = 0 then 0 else pos L g - 1
theorem dgs_len (o : Option Nat) : (dgs o).length ≤ 2 := by
  cases o with
  | none => exact Nat.zero_le _
  | some a =>
    by_cases q : a ≤ 9
    · rw [dgs1 q]; exact Nat.le_of_ble_eq_true rfl
    · rw [dgs2 q]; exact Nat.le_of_ble_eq_true rfl
theorem xsB_len (L : LSt) (g : Nat) : 2 ≤ (xsB L g).length ∧ (xsB L g).length ≤ 4 := by
  have := dgs_len (nbr L g)
  unfold xsB
  rw [List.length_cons, List.length_cons]
  omega
theorem pos_le (L : LSt) : ∀ g, pos L g ≤ 5 * g
  | 0 => Nat.le_refl 0
  | g + 1 => by
    have h1 := pos_le L g
    have h2 := xsB_len L g
    show pos L g + ((xsB L g).length + 1) ≤ 5 * (g + 1)
    omega
theorem pos_ge (L : LSt) : ∀ g, 3 * g ≤ pos L g
  | 0 => Nat.le_refl 0
  | g + 1 => by
    have h1 := pos_ge L g
    have h2 := xsB_len L g
    show 3 * (g + 1) ≤ pos L g + ((xsB L g).length + 1)
    omega
theorem rS_succ (L : LSt) (g : Nat) : rS L (g + 1) = rS L g + (xsG L g).length := by
  have h1 := pos_ge L g
  unfold rS xsG
  rw [if_neg (Nat.succ_ne_zero g)]
  have e : pos L (g + 1) = pos L g + ((xsB L g).length + 1) := rfl
  by_cases q : g = 0
  · subst q
    rw [if_pos rfl, if_pos rfl, e]
    show 0 + _ - 1 = _
    omega
  · rw [if_neg q, if_neg q, List.length_cons, e]
    omega
theorem rS_pos (L : LSt) (g : Nat) : rS L g + (if g = 0 then 0 else 1) = pos L g := by
  have h1 := pos_ge L g
  unfold rS
  by_cases q : g = 0
  · subst q; rfl
  · rw [if_neg q, if_neg q]; omega
theorem pl_at : ∀ (xs : List Int32) (f : RI) (s i : Nat), (i < s → pl_ f s xs i = f i) ∧ (∀ t, t < xs.length → pl_ f s xs (s + t) = xs.getD t 0)
  | [], f, s, i => ⟨fun _ => rfl, fun t ht => absurd ht (Nat.not_lt_zero t)⟩
  | x :: xs, f, s, i => by
    refine ⟨fun hi => ?_, fun t ht => ?_⟩
    · show pl_ (upd f s x) (s + 1) xs i = f i
      rw [(pl_at xs (upd f s x) (s + 1) i).1 (by omega), upd_ne (by omega)]
    · show pl_ (upd f s x) (s + 1) xs (s + t) = (x :: xs).getD t 0
      cases t with
      | zero =>
        rw [(pl_at xs (upd f s x) (s + 1) (s + 0)).1 (by omega)]
        show upd f s x s = x
        exact upd_at
      | succ t =>
        have := (pl_at xs (upd f s x) (s + 1) 0).2 t (by rw [List.length_cons] at ht; omega)
        rw [show s + (t + 1) = s + 1 + t by omega, this]
        rfl
set_option maxHeartbeats 1000000 in
theorem dg_0_l1 {g s : Nat} {L : LSt} {row : RI} {a : Nat} (hp : lPl L g = 0) (hx : lSp L g = nI a) (ha : a ≤ 9) (hg : g < 12) (hs0 : s = 0) : fX0_describeGrip (L, (row, nI s)) (nI g) = some (L, (pl_ row s [nI (97 + g), 64, nI (48 + a % 10)], nI (s + 3))) := by
  unfold fX0_describeGrip
  simp only [hL, hZ, sLen, aI97]
  rw [if_pos (show nI s ≤ 0 by rw [hs0]; decide), put_c (by omega) (by omega), Option.bind_some]
  rw [gd_nI (by omega) (by decide), nI_clamp (by omega), hp, if_pos rfl]
  rw [show nI (s + 1) = nI (s + 1) from rfl, (put_l (f := upd row s (nI (97 + g))) (s := s + 1) (by omega)).1.2.1, Option.bind_some]
  rw [hx, put_n1 (by omega) ha, Option.bind_some]
  rfl
set_option maxHeartbeats 1000000 in
theorem dg_0_l2 {g s : Nat} {L : LSt} {row : RI} {a : Nat} (hp : lPl L g = 0) (hx : lSp L g = nI a) (ha : 9 < a) (ha2 : a < 100) (hg : g < 12) (hs0 : s = 0) : fX0_describeGrip (L, (row, nI s)) (nI g) = some (L, (pl_ row s [nI (97 + g), 64, nI (48 + a / 10), nI (48 + a % 10)], nI (s + 4))) := by
  unfold fX0_describeGrip
  simp only [hL, hZ, sLen, aI97]
  rw [if_pos (show nI s ≤ 0 by rw [hs0]; decide), put_c (by omega) (by omega), Option.bind_some]
  rw [gd_nI (by omega) (by decide), nI_clamp (by omega), hp, if_pos rfl]
  rw [show nI (s + 1) = nI (s + 1) from rfl, (put_l (f := upd row s (nI (97 + g))) (s := s + 1) (by omega)).1.2.1, Option.bind_some]
  rw [hx, put_n2 (by omega) ha ha2, Option.bind_some]
  rfl
set_option maxHeartbeats 1000000 in
theorem dg_0_g {g s : Nat} {L : LSt} {row : RI} (hp : lPl L g = 1) (hg : g < 12) (hs0 : s = 0) : fX0_describeGrip (L, (row, nI s)) (nI g) = some (L, (pl_ row s [nI (97 + g), 103], nI (s + 2))) := by
  unfold fX0_describeGrip
  simp only [hL, hZ, sLen, aI97]
  rw [if_pos (show nI s ≤ 0 by rw [hs0]; decide), put_c (by omega) (by omega), Option.bind_some]
  rw [gd_nI (by omega) (by decide), nI_clamp (by omega), hp, if_neg (show ¬ (1 : Int32) = 0 by decide), if_pos rfl]
  rw [show nI (s + 1) = nI (s + 1) from rfl, (put_l (f := upd row s (nI (97 + g))) (s := s + 1) (by omega)).1.2.2, Option.bind_some]
  rfl
set_option maxHeartbeats 1000000 in
theorem dg_0_w {g s : Nat} {L : LSt} {row : RI} {a : Nat} (hp : lPl L g = 2) (hx : lSt L g = nI a) (ha : a ≤ 9) (hg : g < 12) (hs0 : s = 0) : fX0_describeGrip (L, (row, nI s)) (nI g) = some (L, (pl_ row s [nI (97 + g), 119, nI (48 + a % 10)], nI (s + 3))) := by
  unfold fX0_describeGrip
  simp only [hL, hZ, sLen, aI97]
  rw [if_pos (show nI s ≤ 0 by rw [hs0]; decide), put_c (by omega) (by omega), Option.bind_some]
  rw [gd_nI (by omega) (by decide), nI_clamp (by omega), hp, if_neg (show ¬ (2 : Int32) = 0 by decide), if_neg (show ¬ (2 : Int32) = 1 by decide), if_pos rfl]
  rw [show nI (s + 1) = nI (s + 1) from rfl, (put_l (f := upd row s (nI (97 + g))) (s := s + 1) (by omega)).2.1, Option.bind_some]
  rw [hx, put_n1 (by omega) ha, Option.bind_some]
  rfl
set_option maxHeartbeats 1000000 in
theorem dg_0_x {g s : Nat} {L : LSt} {row : RI} (hp : lPl L g = 3) (hg : g < 12) (hs0 : s = 0) : fX0_describeGrip (L, (row, nI s)) (nI g) = some (L, (pl_ row s [nI (97 + g), 120], nI (s + 2))) := by
  unfold fX0_describeGrip
  simp only [hL, hZ, sLen, aI97]
  rw [if_pos (show nI s ≤ 0 by rw [hs0]; decide), put_c (by omega) (by omega), Option.bind_some]
  rw [gd_nI (by omega) (by decide), nI_clamp (by omega), hp, if_neg (show ¬ (3 : Int32) = 0 by decide), if_neg (show ¬ (3 : Int32) = 1 by decide), if_neg (show ¬ (3 : Int32) = 2 by decide)]
  rw [show nI (s + 1) = nI (s + 1) from rfl, (put_l (f := upd row s (nI (97 + g))) (s := s + 1) (by omega)).2.2, Option.bind_some]
  rfl
set_option maxHeartbeats 1000000 in
theorem dg_1_l1 {g s : Nat} {L : LSt} {row : RI} {a : Nat} (hp : lPl L g = 0) (hx : lSp L g = nI a) (ha : a ≤ 9) (hg : g < 12) (hs0 : 1 ≤ s) (hs1 : s ≤ 54) : fX0_describeGrip (L, (row, nI s)) (nI g) = some (L, (pl_ row s [32, nI (97 + g), 64, nI (48 + a % 10)], nI (s + 4))) := by
  unfold fX0_describeGrip
  simp only [hL, hZ, sLen, aI97]
  rw [if_neg (nI_nle (by omega) (by omega)), (put_l (f := row) (s := s) (by omega)).1.1, Option.bind_some, put_c (by omega) (by omega), Option.bind_some]
  rw [gd_nI (by omega) (by decide), nI_clamp (by omega), hp, if_pos rfl]
  rw [show nI (s + 1 + 1) = nI (s + 2) from rfl, (put_l (f := upd (upd row s 32) (s + 1) (nI (97 + g))) (s := s + 2) (by omega)).1.2.1, Option.bind_some]
  rw [hx, put_n1 (by omega) ha, Option.bind_some]
  rfl
set_option maxHeartbeats 1000000 in
theorem dg_1_l2 {g s : Nat} {L : LSt} {row : RI} {a : Nat} (hp : lPl L g = 0) (hx : lSp L g = nI a) (ha : 9 < a) (ha2 : a < 100) (hg : g < 12) (hs0 : 1 ≤ s) (hs1 : s ≤ 54) : fX0_describeGrip (L, (row, nI s)) (nI g) = some (L, (pl_ row s [32, nI (97 + g), 64, nI (48 + a / 10), nI (48 + a % 10)], nI (s + 5))) := by
  unfold fX0_describeGrip
  simp only [hL, hZ, sLen, aI97]
  rw [if_neg (nI_nle (by omega) (by omega)), (put_l (f := row) (s := s) (by omega)).1.1, Option.bind_some, put_c (by omega) (by omega), Option.bind_some]
  rw [gd_nI (by omega) (by decide), nI_clamp (by omega), hp, if_pos rfl]
  rw [show nI (s + 1 + 1) = nI (s + 2) from rfl, (put_l (f := upd (upd row s 32) (s + 1) (nI (97 + g))) (s := s + 2) (by omega)).1.2.1, Option.bind_some]
  rw [hx, put_n2 (by omega) ha ha2, Option.bind_some]
  rfl
set_option maxHeartbeats 1000000 in
theorem dg_1_g {g s : Nat} {L : LSt} {row : RI} (hp : lPl L g = 1) (hg : g < 12) (hs0 : 1 ≤ s) (hs1 : s ≤ 54) : fX0_describeGrip (L, (row, nI s)) (nI g) = some (L, (pl_ row s [32, nI (97 + g), 103], nI (s + 3))) := by
  unfold fX0_describeGrip
  simp only [hL, hZ, sLen, aI97]
  rw [if_neg (nI_nle (by omega) (by omega)), (put_l (f := row) (s := s) (by omega)).1.1, Option.bind_some, put_c (by omega) (by omega), Option.bind_some]
  rw [gd_nI (by omega) (by decide), nI_clamp (by omega), hp, if_neg (show ¬ (1 : Int32) = 0 by decide), if_pos rfl]
  rw [show nI (s + 1 + 1) = nI (s + 2) from rfl, (put_l (f := upd (upd row s 32) (s + 1) (nI (97 + g))) (s := s + 2) (by omega)).1.2.2, Option.bind_some]
  rfl
set_option maxHeartbeats 1000000 in
theorem dg_1_w {g s : Nat} {L : LSt} {row : RI} {a : Nat} (hp : lPl L g = 2) (hx : lSt L g = nI a) (ha : a ≤ 9) (hg : g < 12) (hs0 : 1 ≤ s) (hs1 : s ≤ 54) : fX0_describeGrip (L, (row, nI s)) (nI g) = some (L, (pl_ row s [32, nI (97 + g), 119, nI (48 + a % 10)], nI (s + 4))) := by
  unfold fX0_describeGrip
  simp only [hL, hZ, sLen, aI97]
  rw [if_neg (nI_nle (by omega) (by omega)), (put_l (f := row) (s := s) (by omega)).1.1, Option.bind_some, put_c (by omega) (by omega), Option.bind_some]
  rw [gd_nI (by omega) (by decide), nI_clamp (by omega), hp, if_neg (show ¬ (2 : Int32) = 0 by decide), if_neg (show ¬ (2 : Int32) = 1 by decide), if_pos rfl]
  rw [show nI (s + 1 + 1) = nI (s + 2) from rfl, (put_l (f := upd (upd row s 32) (s + 1) (nI (97 + g))) (s := s + 2) (by omega)).2.1, Option.bind_some]
  rw [hx, put_n1 (by omega) ha, Option.bind_some]
  rfl
set_option maxHeartbeats 1000000 in
theorem dg_1_x {g s : Nat} {L : LSt} {row : RI} (hp : lPl L g = 3) (hg : g < 12) (hs0 : 1 ≤ s) (hs1 : s ≤ 54) : fX0_describeGrip (L, (row, nI s)) (nI g) = some (L, (pl_ row s [32, nI (97 + g), 120], nI (s + 3))) := by
  unfold fX0_describeGrip
  simp only [hL, hZ, sLen, aI97]
  rw [if_neg (nI_nle (by omega) (by omega)), (put_l (f := row) (s := s) (by omega)).1.1, Option.bind_some, put_c (by omega) (by omega), Option.bind_some]
  rw [gd_nI (by omega) (by decide), nI_clamp (by omega), hp, if_neg (show ¬ (3 : Int32) = 0 by decide), if_neg (show ¬ (3 : Int32) = 1 by decide), if_neg (show ¬ (3 : Int32) = 2 by decide)]
  rw [show nI (s + 1 + 1) = nI (s + 2) from rfl, (put_l (f := upd (upd row s 32) (s + 1) (nI (97 + g))) (s := s + 2) (by omega)).2.2, Option.bind_some]
  rfl
theorem dg_one {k n g s : Nat} {L : LSt} {row : RI} (h : LOk k n L) (hg : g < k) (hs : (g = 0 ∧ s = 0) ∨ (0 < g ∧ 1 ≤ s ∧ s ≤ 54)) : fX0_describeGrip (L, (row, nI s)) (nI g) = some (L, (pl_ row s (xsG L g), nI (s + (xsG L g).length))) := by
  have hk := h.k12
  have hn := h.n20
  rcases h.four hg with hp | hp | hp | hp
  · obtain ⟨a, ha, e⟩ := h.sp hg hp
    have hb : xsB L g = nI (97 + g) :: 64 :: dgs (some a) := by
      unfold xsB sgn nbr; rw [if_pos hp, if_pos hp, e, nI_clamp (by omega)]
    by_cases q : a ≤ 9
    · have hb : xsB L g = [nI (97 + g), 64, nI (48 + a % 10)] := by rw [hb, dgs1 q]
      rcases hs with ⟨g0, s0⟩ | ⟨g0, s1, s2⟩
      · unfold xsG; rw [if_pos g0, hb]; exact dg_0_l1 hp e q (by omega) s0
      · unfold xsG; rw [if_neg (by omega), hb]; exact dg_1_l1 hp e q (by omega) s1 s2
    · have hb : xsB L g = [nI (97 + g), 64, nI (48 + a / 10), nI (48 + a % 10)] := by rw [hb, dgs2 q]
      rcases hs with ⟨g0, s0⟩ | ⟨g0, s1, s2⟩
      · unfold xsG; rw [if_pos g0, hb]; exact dg_0_l2 hp e (by omega) (by omega) (by omega) s0
      · unfold xsG; rw [if_neg (by omega), hb]; exact dg_1_l2 hp e (by omega) (by omega) (by omega) s1 s2
  · have hb : xsB L g = [nI (97 + g), 103] := by
      unfold xsB sgn nbr; rw [hp, if_neg (by decide), if_pos rfl, if_neg (by decide), if_neg (by decide)]; rfl
    rcases hs with ⟨g0, s0⟩ | ⟨g0, s1, s2⟩
    · unfold xsG; rw [if_pos g0, hb]; exact dg_0_g hp (by omega) s0
    · unfold xsG; rw [if_neg (by omega), hb]; exact dg_1_g hp (by omega) s1 s2
  · obtain ⟨a, a1, a9, e⟩ := h.st hg hp
    have hb : xsB L g = [nI (97 + g), 119, nI (48 + a % 10)] := by
      unfold xsB sgn nbr; rw [hp, if_neg (by decide), if_neg (by decide), if_pos rfl, if_neg (by decide), if_pos rfl, e, nI_clamp (by omega), dgs1 a9]
    rcases hs with ⟨g0, s0⟩ | ⟨g0, s1, s2⟩
    · unfold xsG; rw [if_pos g0, hb]; exact dg_0_w hp e a9 (by omega) s0
    · unfold xsG; rw [if_neg (by omega), hb]; exact dg_1_w hp e a9 (by omega) s1 s2
  · have hb : xsB L g = [nI (97 + g), 120] := by
      unfold xsB sgn nbr; rw [hp, if_neg (by decide), if_neg (by decide), if_neg (by decide), if_neg (by decide), if_neg (by decide)]; rfl
    rcases hs with ⟨g0, s0⟩ | ⟨g0, s1, s2⟩
    · unfold xsG; rw [if_pos g0, hb]; exact dg_0_x hp (by omega) s0
    · unfold xsG; rw [if_neg (by omega), hb]; exact dg_1_x hp (by omega) s1 s2
/-- what stands in the row as far as grip g -/
def RowOk (L : LSt) (g : Nat) (row : RI) : Prop := ∀ h, h < g → ∀ t, t < (xsG L h).length → row (rS L h + t) = (xsG L h).getD t 0
theorem rS_mono {L : LSt} {h g : Nat} (hg : h < g) : rS L h + (xsG L h).length ≤ rS L g := by
  induction g with
  | zero => exact absurd hg (Nat.not_lt_zero h)
  | succ g ih =>
    rw [rS_succ]
    by_cases e : h = g
    · rw [e]; exact Nat.le_refl _
    · have := ih (by omega); omega
theorem rep_loop {k n : Nat} {L : LSt} (h : LOk k n L) : ∀ (d g f : Nat) (row : RI), k - g = d → g ≤ k → d + 13 < f → RowOk L g row → ∃ row', fX0_describe_L6 f (L, (row, nI (rS L g))) (nI g) = some (L, (row', nI (rS L k))) ∧ RowOk L k row'
  | 0, g, f, row, hd, hg, hf, hr => by
    obtain rfl : g = k := by omega
    have hk12 := h.k12
    refine ⟨row, ?_, hr⟩
    refine run_up2 (fun f i => fX0_describe_L6 f (L, (row, nI (rS L g))) (nI i)) 12 g (fun i f hgi hi => ?_) (fun f => ?_) hk12 (by omega)
    · show fX0_describe_L6 (f + 1) (L, (row, nI (rS L g))) (nI i) = fX0_describe_L6 f (L, (row, nI (rS L g))) (nI (i + 1))
      rw [fX0_describe_L6, if_neg (l12 hi), gd_nI hi (by decide), nI_clamp (by omega), nI_1]
      show (if lPl L i = -1 then _ else _) = _
      rw [if_pos (h.abs i hgi hi)]
    · show fX0_describe_L6 (f + 1) (L, (row, nI (rS L g))) (nI 12) = _
      rw [fX0_describe_L6, if_pos g12]
  | d + 1, g, f, row, hd, hg, hf, hr => by
    have hk12 := h.k12
    have hgk : g < k := by omega
    obtain ⟨f, rfl⟩ : ∃ f', f = f' + 1 := ⟨f - 1, by omega⟩
    have p1 := pos_le L g
    have p2 := pos_ge L g
    have e := dg_one (row := row) (s := rS L g) h hgk (by
      unfold rS
      by_cases q : g = 0
      · exact Or.inl ⟨q, if_pos q⟩
      · rw [if_neg q]; exact Or.inr ⟨by omega, by omega, by omega⟩)
    rw [← rS_succ] at e
    obtain ⟨row', r1, r2⟩ := rep_loop h d (g + 1) f (pl_ row (rS L g) (xsG L g)) (by omega) (by omega) (by omega) (fun q hq t ht => by
      by_cases e : q = g
      · subst e
        exact (pl_at (xsG L q) row (rS L q) 0).2 t ht
      · have := rS_mono (L := L) (h := q) (g := g) (by omega)
        rw [(pl_at (xsG L g) row (rS L g) (rS L q + t)).1 (by omega)]
        exact hr q (by omega) t ht)
    refine ⟨row', ?_, r2⟩
    rw [fX0_describe_L6, if_neg (l12 (by omega)), gd_nI (by omega) (by decide), nI_clamp (by omega)]
    show (if lPl L g = -1 then _ else _) = _
    rw [if_neg (h.nabs hgk), e, Option.bind_some, nI_1]
    exact r1
theorem rS_le {k n : Nat} {L : LSt} (h : LOk k n L) : rS L k ≤ 59 := by
  have := h.k12
  have := pos_le L k
  unfold rS
  split <;> omega
theorem are {k n : Nat} {L : LSt} {S : GSt} (hL : gLift S = L) (h : LOk k n L) : ∃ row, RowOk L k row ∧ ∀ j, j < 2 ^ 31 → ∃ S', fL_report S (nI j) = some ((if j < rS L k then row j else -9).toInt64, S') ∧ SEq S S' := by
  subst hL
  have hk := h.k12
  have hl := rS_le h
  obtain ⟨row, r1, r2⟩ := rep_loop h k 0 KF (sRow (gSum S)) rfl (Nat.zero_le k) (by show k + 13 < 3000; omega) (fun q hq => absurd hq (Nat.not_lt_zero q))
  refine ⟨row, r2, fun j hj => ⟨(gLift S, gTrial S, gTxt S, (row, nI (rS (gLift S) k)), gHis S, gSav S, gSvd S, gRem S, gNxt S), ?_, ⟨rfl, rfl, rfl, rfl, rfl, rfl, rfl⟩⟩⟩
  have eC : fX0_describe (gLift S, gSum S) = some (gLift S, (row, nI (rS (gLift S) k))) := by
    unfold fX0_describe fX3_clear
    rw [Option.bind_some]
    exact r1
  unfold fL_report fX4_report
  rw [if_pos (nI_pos' hj), eC, Option.bind_some]
  show ((fX3_at (row, nI (rS (gLift S) k)) (nI j)).bind _).bind _ = _
  unfold fX3_at
  rw [if_neg (nI_pos hj)]
  show ((if nI (rS (gLift S) k) ≤ nI j then _ else _ : Option Int32).bind _).bind _ = _
  by_cases q : j < rS (gLift S) k
  · rw [if_neg (nI_ge q (by omega)), if_pos (show nI j < 60 from nI_lt (b := 60) (by omega) (by decide)), gd_nI (by omega) (by decide), nI_clamp hj, Option.bind_some, Option.bind_some, gm0, if_pos q]
  · rw [if_pos (nI_le (by omega) hj), Option.bind_some, Option.bind_some, gm0, if_neg q]
/-- the sign t of what grip g adds -/
theorem are_at {k n g t : Nat} {L : LSt} {S : GSt} (hL : gLift S = L) (h : LOk k n L) (hg : g < k) (ht : t < (xsG L g).length) : ∃ S', fL_report S (nI (rS L g + t)) = some (((xsG L g).getD t 0).toInt64, S') ∧ SEq S S' := by
  have hl := rS_le h
  have hm := rS_mono (L := L) hg
  obtain ⟨row, r1, r2⟩ := are hL h
  obtain ⟨S', e1, e2⟩ := r2 (rS L g + t) (by omega)
  rw [if_pos (by omega), r1 g hg t ht] at e1
  exact ⟨S', e1, e2⟩
theorem are_end {k n : Nat} {L : LSt} {S : GSt} (hL : gLift S = L) (h : LOk k n L) : ∃ S', fL_report S (nI (rS L k)) = some (-9, S') ∧ SEq S S' := by
  have hl := rS_le h
  obtain ⟨row, r1, r2⟩ := are hL h
  obtain ⟨S', e1, e2⟩ := r2 (rS L k) (by omega)
  rw [if_neg (Nat.lt_irrefl _), m9L] at e1
  exact ⟨S', e1, e2⟩

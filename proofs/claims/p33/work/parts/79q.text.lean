/-! PURE LEVEL: reading the text -/
def chr (Z : SSt) (len p : Nat) : Int32 := if p < len then sRow Z p else -9
def dv (Z : SSt) (len p : Nat) : Int32 := chr Z len p - 48
theorem c_at {Z : SSt} {len p : Nat} (hl : sLen Z = nI len) (h60 : len ≤ 60) (hp : p < 100) : fX3_at Z (nI p) = some (chr Z len p) := by
  unfold fX3_at chr
  rw [if_neg (nI_pos (by omega)), hl]
  by_cases h : p < len
  · rw [if_neg (nI_ge h (by omega)), if_pos (show nI p < 60 from nI_lt (b := 60) (by omega) (by decide)), gd_nI (by omega) (by decide), nI_clamp (by omega), if_pos h]
  · rw [if_pos (nI_le (by omega) (by omega)), if_neg h]
/-- the text's signs are bytes -/
def BytOk (Z : SSt) (len : Nat) : Prop := ∀ i, i < len → ∃ c, c < 256 ∧ sRow Z i = nI c
theorem dv_rng {Z : SSt} {len : Nat} (h : BytOk Z len) (p : Nat) : -57 ≤ (dv Z len p).toInt ∧ (dv Z len p).toInt ≤ 207 ∧ (len ≤ p → (dv Z len p).toInt = -57) := by
  unfold dv chr
  by_cases q : p < len
  · obtain ⟨c, hc, e⟩ := h p q
    rw [if_pos q, e, show (48 : Int32) = nI 48 from rfl, pk_sub_toInt (by omega) (by omega)]
    exact ⟨by omega, by omega, fun z => by omega⟩
  · rw [if_neg q]
    exact ⟨by decide, by decide, fun _ => by decide⟩
theorem c_digit {Z : SSt} {len p : Nat} (hl : sLen Z = nI len) (h60 : len ≤ 60) (hp : p < 100) (D : LSt) (lo hi : Int32) : fX1_readDigit (Z, D, nI p) lo hi = some (if lo ≤ dv Z len p ∧ dv Z len p ≤ hi then (dv Z len p, (Z, D, nI (p + 1))) else (-1, (Z, D, nI p))) := by
  unfold fX1_readDigit
  show (fX3_at Z (nI p)).bind _ = _
  rw [c_at hl h60 hp, Option.bind_some]
  show (if dv Z len p < lo then _ else if dv Z len p ≤ hi then some (dv Z len p, (Z, D, nI p + 1)) else _) = _
  rw [nI_1]
  by_cases h : dv Z len p < lo
  · rw [if_pos h, if_neg (fun z => (fa_of_lt h).2.1 z.1)]
  · rw [if_neg h]
    by_cases h2 : dv Z len p ≤ hi
    · rw [if_pos h2, if_pos ⟨fa_of_nlt h, h2⟩]
    · rw [if_neg h2, if_neg (fun z => h2 z.2)]
theorem m9 (lo hi : Int32) (h0 : 0 ≤ lo) : ¬ (lo ≤ (-9 : Int32) ∧ (-9 : Int32) ≤ hi) := fun z => by
  have z1 := z.1
  have e9 : (-9 : Int32).toInt = -9 := by decide
  have e0 : (0 : Int32).toInt = 0 := by decide
  rw [fa_le, e9] at z1
  rw [fa_le, e0] at h0
  omega
theorem m_digit {Z : SSt} {len p : Nat} {A : Nat → RI} (hb : BytOk Z len) (h60 : len ≤ 60) (hp : p < 100) (hrow : ∀ i, i < len → sRow Z i = A 1 i) (rf rn nn ac : Int32) {lo hi : Int32} (h0 : 0 ≤ lo) :
    fX5_digit (A, rf, nI len, nI p, rn, nn, ac) lo hi = some (if lo ≤ dv Z len p ∧ dv Z len p ≤ hi then (dv Z len p, (A, rf, nI len, nI (p + 1), rn, nn, ac)) else (-9, (A, rf, nI len, nI p, rn, nn, ac))) := by
  unfold fX5_digit
  show (if nI len ≤ nI p then _ else _) = _
  by_cases h : p < len
  · rw [if_neg (nI_ge h (by omega))]
    show gd (nI p) 60 ((fX5_in ((A 1 (nI p).toNatClampNeg - 48).toInt64) lo.toInt64 hi.toInt64).bind (fun r35 => (if r35 = 0 then some (-9, _) else some (A 1 (nI p).toNatClampNeg - 48, (A, rf, nI len, nI p + 1, rn, nn, ac))))) = _
    rw [gd_nI (by omega) (by decide), nI_clamp (by omega), ← hrow p h, show sRow Z p - 48 = dv Z len p from by unfold dv chr; rw [if_pos h], m_inI _ lo hi rfl rfl, Option.bind_some, nI_1]
    by_cases q : lo ≤ dv Z len p ∧ dv Z len p ≤ hi
    · rw [if_pos q, if_neg c10, if_pos q]
    · rw [if_neg q, if_pos rfl, if_neg q]
  · rw [if_pos (nI_le (by omega) (by omega)), m_inI _ lo hi rfl rfl, Option.bind_some, if_neg (m9 lo hi h0), if_pos rfl, if_neg]
    intro z
    have := (dv_rng hb p).2.2 (by omega)
    have e0 : (0 : Int32).toInt = 0 := by decide
    rw [fa_le, e0] at h0
    have z1 := z.1
    rw [fa_le] at z1
    omega
/-- the pair reading of the class, over what it allows -/
theorem c_isBegin {T : TSt} {lo hi fr : Int32} {P : Int32 → Bool} (hP : ∀ y, fX1_isAllowed T y lo hi fr = some (if P y = true then 1 else 0)) (x : Int32) : fX1_isBegin T x lo hi fr = some (if sCt (fun o => P (x * 10 + nI o)) 10 = 0 then 0 else 1) := by
  have stp : ∀ o f, o < 10 → P (x * 10 + nI o) = false → fX1_isBegin_L3 T (f + 1) x lo hi fr (nI o) = fX1_isBegin_L3 T f x lo hi fr (nI (o + 1)) := fun o f ho hb => by
    rw [fX1_isBegin_L3, if_neg (show ¬ (9 : Int32) < nI o from nI_nlt (a := 9) (by omega) (by decide)), hP, Option.bind_some, hb, if_neg (show ¬ false = true by decide), if_pos rfl, nI_1]
  rcases s_first (fun o => P (x * 10 + nI o)) 10 with h | ⟨o0, h0, h1, h2⟩
  · rw [if_pos (sCt_zero.mpr h)]
    refine run_up (fun f o => fX1_isBegin_L3 T f x lo hi fr (nI o)) 10 (fun o f ho => stp o f ho (h o ho)) (fun f => ?_) (by decide)
    show fX1_isBegin_L3 T (f + 1) x lo hi fr (nI 10) = _
    rw [fX1_isBegin_L3, if_pos (show (9 : Int32) < nI 10 by decide)]
  · rw [if_neg (sCt_hit h0 h1)]
    refine run_up (fun f o => fX1_isBegin_L3 T f x lo hi fr (nI o)) o0 (fun o f ho => stp o f (by omega) (h2 o ho)) (fun f => ?_) (by show o0 < 3000; omega)
    show fX1_isBegin_L3 T (f + 1) x lo hi fr (nI o0) = _
    have h1 : P (x * 10 + nI o0) = true := h1
    rw [fX1_isBegin_L3, if_neg (show ¬ (9 : Int32) < nI o0 from nI_nlt (a := 9) (by omega) (by decide)), hP, Option.bind_some, h1, if_pos rfl, if_neg c10]
theorem c_pair {Z : SSt} {len p : Nat} (hl : sLen Z = nI len) (h60 : len ≤ 60) (hp : p < 90) {D : LSt} {lo hi fr : Int32} {P : Int32 → Bool} (hP : ∀ q y, fX1_isAllowed (Z, D, q) y lo hi fr = some (if P y = true then 1 else 0)) :
    fX1_readPair (Z, D, nI p) lo hi fr = some (if sCt (fun o => P (dv Z len p * 10 + nI o)) 10 = 0 then (-1, (Z, D, nI p)) else if (0 ≤ dv Z len (p + 1) ∧ dv Z len (p + 1) ≤ 9) ∧ P (dv Z len p * 10 + dv Z len (p + 1)) = true then (dv Z len p * 10 + dv Z len (p + 1), (Z, D, nI (p + 2))) else (-1, (Z, D, nI (p + 1)))) := by
  unfold fX1_readPair
  show (fX3_at Z (nI p)).bind _ = _
  rw [c_at hl h60 (by omega), Option.bind_some]
  show (fX1_isBegin (Z, D, nI p) (dv Z len p) lo hi fr).bind _ = _
  rw [c_isBegin (hP (nI p)), Option.bind_some]
  by_cases h : sCt (fun o => P (dv Z len p * 10 + nI o)) 10 = 0
  · rw [if_pos h, if_pos rfl, if_pos h]
  · rw [if_neg h, if_neg c10, if_neg h]
    show (fX3_at Z (nI p + 1)).bind _ = _
    rw [nI_1, c_at hl h60 (by omega), Option.bind_some]
    show (if dv Z len (p + 1) < 0 then some (-1, (Z, D, nI (p + 1))) else if 9 < dv Z len (p + 1) then some (-1, (Z, D, nI (p + 1))) else (fX1_isAllowed (Z, D, nI (p + 1)) (dv Z len p * 10 + dv Z len (p + 1)) lo hi fr).bind (fun r80 => if r80 = 0 then some (-1, (Z, D, nI (p + 1))) else some (dv Z len p * 10 + dv Z len (p + 1), (Z, D, nI (p + 1) + 1)))) = _
    rw [nI_1, hP, Option.bind_some]
    by_cases q1 : dv Z len (p + 1) < 0
    · rw [if_pos q1, if_neg (fun z => (fa_of_lt q1).2.1 z.1.1)]
    · rw [if_neg q1]
      by_cases q2 : 9 < dv Z len (p + 1)
      · rw [if_pos q2, if_neg (fun z => (fa_of_lt q2).2.1 z.1.2)]
      · rw [if_neg q2]
        by_cases q3 : P (dv Z len p * 10 + dv Z len (p + 1)) = true
        · rw [if_pos q3, if_neg c10, if_pos ⟨⟨fa_of_nlt q1, fa_of_nlt q2⟩, q3⟩]
        · rw [if_neg q3, if_pos rfl, if_neg (fun z => q3 z.2)]
def inP (lo hi : Nat) (y : Int32) : Bool := decide (nI lo ≤ y ∧ y ≤ nI hi)
theorem c_allow0 (T : TSt) (lo hi : Nat) (y : Int32) : fX1_isAllowed T y (nI lo) (nI hi) 0 = some (if inP lo hi y = true then 1 else 0) := by
  unfold fX1_isAllowed inP
  by_cases h : y < nI lo
  · rw [if_pos h, decide_eq_false (fun z => (fa_of_lt h).2.1 z.1), if_neg (by decide)]
  · rw [if_neg h]
    by_cases h2 : nI hi < y
    · rw [if_pos h2, decide_eq_false (fun z => (fa_of_lt h2).2.1 z.2), if_neg (by decide)]
    · rw [if_neg h2, if_pos rfl, decide_eq_true ⟨fa_of_nlt h, fa_of_nlt h2⟩, if_pos rfl]
theorem ten_toInt {x y : Int32} (h1 : -57 ≤ x.toInt) (h2 : x.toInt ≤ 207) (h3 : -57 ≤ y.toInt) (h4 : y.toInt ≤ 207) : (x * 10 + y).toInt = 10 * x.toInt + y.toInt := by
  have e10 : (10 : Int32).toInt = 10 := by decide
  have e : (x * 10).toInt = 10 * x.toInt := by
    rw [fb_mulI] <;> rw [e10] <;> omega
  rw [fb_addI] <;> rw [e] <;> omega
theorem inP_iff {lo hi : Nat} (hhi : hi < 100) (hlo : lo < 100) {x y : Int32} (h1 : -57 ≤ x.toInt) (h2 : x.toInt ≤ 207) (h3 : -57 ≤ y.toInt) (h4 : y.toInt ≤ 207) : (inP lo hi (x * 10 + y) = true) ↔ ((lo : Int) ≤ 10 * x.toInt + y.toInt ∧ 10 * x.toInt + y.toInt ≤ (hi : Int)) := by
  unfold inP
  rw [decide_eq_true_iff, fa_le, fa_le, ten_toInt h1 h2 h3 h4, nI_toInt (by omega), nI_toInt (by omega)]
theorem nI_small {o : Nat} (h : o < 100) : -57 ≤ (nI o).toInt ∧ (nI o).toInt ≤ 207 ∧ (nI o).toInt = (o : Int) := by
  rw [nI_toInt (by omega)]; omega
/-- with which tens a pair begins -/
theorem beg0 {lo hi : Nat} (hlh : lo ≤ hi) (hhi : hi < 100) {x : Int32} (h1 : -57 ≤ x.toInt) (h2 : x.toInt ≤ 207) : sCt (fun o => inP lo hi (x * 10 + nI o)) 10 = 0 ↔ ¬ (nI (lo / 10) ≤ x ∧ x ≤ nI (hi / 10)) := by
  rw [fa_le, fa_le, nI_toInt (by omega), nI_toInt (by omega), sCt_zero]
  constructor
  · intro h z
    by_cases e : x.toInt = ((lo / 10 : Nat) : Int)
    · have := h (lo % 10) (by omega)
      obtain ⟨s1, s2, s3⟩ := nI_small (o := lo % 10) (by omega)
      have q : inP lo hi (x * 10 + nI (lo % 10)) = true := (inP_iff hhi (by omega) h1 h2 s1 s2).mpr (by rw [s3]; omega)
      rw [q] at this; cases this
    · have := h 0 (by omega)
      obtain ⟨s1, s2, s3⟩ := nI_small (o := 0) (by omega)
      have q : inP lo hi (x * 10 + nI 0) = true := (inP_iff hhi (by omega) h1 h2 s1 s2).mpr (by rw [s3]; omega)
      rw [q] at this; cases this
  · intro h o ho
    cases q : inP lo hi (x * 10 + nI o) with
    | false => rfl
    | true =>
      obtain ⟨s1, s2, s3⟩ := nI_small (o := o) (by omega)
      have := (inP_iff hhi (by omega) h1 h2 s1 s2).mp q
      rw [s3] at this
      exact absurd (show _ ∧ _ by constructor <;> omega) h
theorem m_two {Z : SSt} {len p : Nat} {A : Nat → RI} (hb : BytOk Z len) (h60 : len ≤ 60) (hp : p < 90) (hrow : ∀ i, i < len → sRow Z i = A 1 i) (rf rn nn ac : Int32) {lo hi : Nat} (hlh : lo ≤ hi) (hhi : hi < 100) :
    fX5_two (A, rf, nI len, nI p, rn, nn, ac) (nI lo) (nI hi) = some (if sCt (fun o => inP lo hi (dv Z len p * 10 + nI o)) 10 = 0 then (-9, (A, rf, nI len, nI p, rn, nn, ac)) else if (0 ≤ dv Z len (p + 1) ∧ dv Z len (p + 1) ≤ 9) ∧ inP lo hi (dv Z len p * 10 + dv Z len (p + 1)) = true then (dv Z len p * 10 + dv Z len (p + 1), (A, rf, nI len, nI (p + 2), rn, nn, ac)) else (-9, (A, rf, nI len, nI (p + 1), rn, nn, ac))) := by
  have e1 : nI lo / 10 = nI (lo / 10) := pk_div (d := 10) (by omega) (by decide) (by decide)
  have e2 : nI hi / 10 = nI (hi / 10) := pk_div (d := 10) (by omega) (by decide) (by decide)
  have e3 : nI lo - nI lo / 10 * 10 = nI (lo % 10) := pk_rem (d := 10) (by omega) (by decide) (by decide)
  have e4 : nI hi - nI hi / 10 * 10 = nI (hi % 10) := pk_rem (d := 10) (by omega) (by decide) (by decide)
  obtain ⟨t1, t2, t3⟩ := dv_rng hb p
  obtain ⟨u1, u2, u3⟩ := dv_rng hb (p + 1)
  have hbg := beg0 hlh hhi t1 t2
  unfold fX5_two
  rw [e3, e4, e1, e2, m_digit hb h60 (by omega) hrow rf rn nn ac (nI_pos' (by omega)), Option.bind_some]
  by_cases h : nI (lo / 10) ≤ dv Z len p ∧ dv Z len p ≤ nI (hi / 10)
  · rw [if_pos h, if_neg (c := sCt _ 10 = 0) (fun z => hbg.mp z h)]
    have hn9 : ¬ dv Z len p = -9 := fun z => by
      have := h.1
      rw [z] at this
      exact m9 _ (-9) (nI_pos' (n := lo / 10) (by omega)) ⟨this, Int32.le_refl _⟩
    show (if dv Z len p = -9 then _ else _) = _
    rw [if_neg hn9]
    show (if dv Z len p = nI (lo / 10) then (if dv Z len p = nI (hi / 10) then (fX5_digit (A, rf, nI len, nI (p + 1), rn, nn, ac) (nI (lo % 10)) (nI (hi % 10))).bind (fun r58 => (if r58.1 = (-9) then some ((-9), r58.2) else some (((10 * dv Z len p) + r58.1), r58.2))) else (fX5_digit (A, rf, nI len, nI (p + 1), rn, nn, ac) (nI (lo % 10)) (nI 9)).bind (fun r58 => (if r58.1 = (-9) then some ((-9), r58.2) else some (((10 * dv Z len p) + r58.1), r58.2)))) else (if dv Z len p = nI (hi / 10) then (fX5_digit (A, rf, nI len, nI (p + 1), rn, nn, ac) (nI 0) (nI (hi % 10))).bind (fun r58 => (if r58.1 = (-9) then some ((-9), r58.2) else some (((10 * dv Z len p) + r58.1), r58.2))) else (fX5_digit (A, rf, nI len, nI (p + 1), rn, nn, ac) (nI 0) (nI 9)).bind (fun r58 => (if r58.1 = (-9) then some ((-9), r58.2) else some (((10 * dv Z len p) + r58.1), r58.2))))) = _
    have fin : ∀ a b : Nat, a < 10 → b < 10 → ((nI a ≤ dv Z len (p + 1) ∧ dv Z len (p + 1) ≤ nI b) ↔ ((0 ≤ dv Z len (p + 1) ∧ dv Z len (p + 1) ≤ 9) ∧ inP lo hi (dv Z len p * 10 + dv Z len (p + 1)) = true)) → (fX5_digit (A, rf, nI len, nI (p + 1), rn, nn, ac) (nI a) (nI b)).bind (fun r58 => (if r58.1 = (-9) then some ((-9), r58.2) else some (((10 * dv Z len p) + r58.1), r58.2))) = some (if (0 ≤ dv Z len (p + 1) ∧ dv Z len (p + 1) ≤ 9) ∧ inP lo hi (dv Z len p * 10 + dv Z len (p + 1)) = true then (dv Z len p * 10 + dv Z len (p + 1), (A, rf, nI len, nI (p + 2), rn, nn, ac)) else (-9, (A, rf, nI len, nI (p + 1), rn, nn, ac))) := fun a b ha hb2 hab => by
      rw [m_digit hb h60 (by omega) hrow rf rn nn ac (nI_pos' (by omega)), Option.bind_some]
      by_cases q : nI a ≤ dv Z len (p + 1) ∧ dv Z len (p + 1) ≤ nI b
      · rw [if_pos q, if_pos (hab.mp q)]
        show (if dv Z len (p + 1) = -9 then _ else _) = _
        rw [if_neg (fun z => by
          have := q.1
          rw [z] at this
          exact m9 _ (-9) (nI_pos' (n := a) (by omega)) ⟨this, Int32.le_refl _⟩), Int32.mul_comm]
      · rw [if_neg q, if_neg (fun z => q (hab.mpr z))]
        show (if (-9 : Int32) = -9 then _ else _) = _
        rw [if_pos rfl]
    have e0 : (0 : Int32).toInt = 0 := by decide
    have e9 : (9 : Int32).toInt = 9 := by decide
    have hi1 := (fa_le _ _).mp h.1
    have hi2 := (fa_le _ _).mp h.2
    rw [nI_toInt (by omega)] at hi1 hi2
    have cond : ∀ a b : Nat, a < 10 → b < 10 → (((a : Int) ≤ (dv Z len (p + 1)).toInt ∧ (dv Z len (p + 1)).toInt ≤ (b : Int)) ↔ ((0 ≤ (dv Z len (p + 1)).toInt ∧ (dv Z len (p + 1)).toInt ≤ 9) ∧ ((lo : Int) ≤ 10 * (dv Z len p).toInt + (dv Z len (p + 1)).toInt ∧ 10 * (dv Z len p).toInt + (dv Z len (p + 1)).toInt ≤ (hi : Int)))) → ((nI a ≤ dv Z len (p + 1) ∧ dv Z len (p + 1) ≤ nI b) ↔ ((0 ≤ dv Z len (p + 1) ∧ dv Z len (p + 1) ≤ 9) ∧ inP lo hi (dv Z len p * 10 + dv Z len (p + 1)) = true)) := fun a b ha hb2 hab => by
      rw [inP_iff hhi (by omega) t1 t2 u1 u2, fa_le, fa_le, fa_le, fa_le, nI_toInt (by omega), nI_toInt (by omega), e0, e9]
      exact hab
    by_cases q1 : dv Z len p = nI (lo / 10)
    · have q1' := congrArg Int32.toInt q1
      rw [nI_toInt (by omega)] at q1'
      rw [if_pos q1]
      by_cases q2 : dv Z len p = nI (hi / 10)
      · have q2' := congrArg Int32.toInt q2
        rw [nI_toInt (by omega)] at q2'
        rw [if_pos q2]
        exact fin _ _ (by omega) (by omega) (cond _ _ (by omega) (by omega) (by constructor <;> intro z <;> refine ⟨?_, ?_⟩ <;> omega))
      · have q2' : ¬ (dv Z len p).toInt = ((hi / 10 : Nat) : Int) := fun z => q2 ((fa_eq _ _).mpr (by rw [z, nI_toInt (by omega)]))
        rw [if_neg q2]
        exact fin _ _ (by omega) (by omega) (cond _ _ (by omega) (by omega) (by constructor <;> intro z <;> refine ⟨?_, ?_⟩ <;> omega))
    · have q1' : ¬ (dv Z len p).toInt = ((lo / 10 : Nat) : Int) := fun z => q1 ((fa_eq _ _).mpr (by rw [z, nI_toInt (by omega)]))
      rw [if_neg q1]
      by_cases q2 : dv Z len p = nI (hi / 10)
      · have q2' := congrArg Int32.toInt q2
        rw [nI_toInt (by omega)] at q2'
        rw [if_pos q2]
        exact fin _ _ (by omega) (by omega) (cond _ _ (by omega) (by omega) (by constructor <;> intro z <;> refine ⟨?_, ?_⟩ <;> omega))
      · have q2' : ¬ (dv Z len p).toInt = ((hi / 10 : Nat) : Int) := fun z => q2 ((fa_eq _ _).mpr (by rw [z, nI_toInt (by omega)]))
        rw [if_neg q2]
        exact fin _ _ (by omega) (by omega) (cond _ _ (by omega) (by omega) (by constructor <;> intro z <;> refine ⟨?_, ?_⟩ <;> omega))
  · rw [if_neg h, if_pos (hbg.mpr h)]
    show (if (-9 : Int32) = -9 then _ else _) = _
    rw [if_pos rfl]

/-! PURE LEVEL: the whole text -/
def TxR (Z : SSt) (M0 : MSt) (RC : Option (Int32 × TSt)) (RM : Option (Int32 × MSt)) : Prop := ∃ e T' M', RC = some (e, T') ∧ RM = some (e, M') ∧ tSg T' = Z ∧ ((∀ c, c ≠ 2 → mA M' c = mA M0 c) ∧ mRef M' = mRef M0 ∧ mSize M' = mSize M0 ∧ mN M' = mN M0 ∧ mActs M' = mActs M0) ∧ ((e = -9 ∧ ∃ k n, mRN M' = nI n ∧ RRel k n (tD T') (mA M' 2)) ∨ ∃ p, p < 100 ∧ e = nI p)
theorem RRel_hangD {k n g a : Nat} {L : LSt} {r : RI} (h : RRel k n L r) (hg : g < k) (ha : a < n) (hd : ∀ i, i < k → i ≠ g → lPl L i = 0 → lSp L i ≠ nI a) :
    RRel k n (lWe L, lCy L, lWr L, lPu L, lSl L, upd (lPl L) g 0, upd (lSp L) g (nI a), lSt L, lLi L, lN_ L, lStn L, lClk L, lRnd L) (upd (upd r (60 + g) 0) (72 + g) (nI a)) := by
  have hk12 := h.k12
  obtain ⟨c0, c1, c2, c3, c4, c5, c6⟩ := h.cell g hg
  refine RRel_cell h hg ⟨rfl, rfl, rfl, rfl, rfl⟩ (fun i hi => ?_) (fun i q1 q2 => ?_) ?_ (fun _ i hi hne hp2 e => ?_)
  · refine ⟨?_, ?_, ?_, ?_, ?_, ?_, ?_, ?_⟩ <;> first | rfl | exact upd_ne hi
  · simp (disch := omega) only [upd_ne]
  · unfold CellOk
    simp (disch := omega) only [lWe, lCy, lWr, lPu, lSl, lPl, lSp, lSt, lLi, upd_at, upd_ne, c0, c1, c2, c3, c4]
    exact ⟨trivial, trivial, trivial, trivial, trivial, trivial, Or.inl ⟨rfl, rfl, a, ha, rfl⟩⟩
  · rw [show lSp (_ : LSt) g = nI a from upd_at] at e
    exact hd i hi hne hp2 e
/-- a slot that is allowed -/
def frP (D : LSt) (n : Nat) (y : Int32) : Bool := decide (0 ≤ y ∧ y ≤ nI n - 1) && decide (fX0_gripAt D y = some (-9))
theorem c_allow1 {k n : Nat} {D : LSt} {M : MSt} (h : RRel k n D (mA M 2)) (Z : SSt) (q y : Int32) : fX1_isAllowed (Z, D, q) y 0 (nI n - 1) 1 = some (if frP D n y = true then 1 else 0) := by
  unfold fX1_isAllowed frP
  by_cases h0 : y < 0
  · rw [if_pos h0, decide_eq_false (p := 0 ≤ y ∧ y ≤ nI n - 1) (fun z => (fa_of_lt h0).2.1 z.1)]; rfl
  · rw [if_neg h0]
    by_cases h1 : nI n - 1 < y
    · rw [if_pos h1, decide_eq_false (p := 0 ≤ y ∧ y ≤ nI n - 1) (fun z => (fa_of_lt h1).2.1 z.2)]; rfl
    · rw [if_neg h1, if_neg c10, decide_eq_true (p := 0 ≤ y ∧ y ≤ nI n - 1) ⟨fa_of_nlt h0, fa_of_nlt h1⟩, Bool.true_and]
      show (fX0_gripAt D y).bind _ = _
      rcases rc_gripAt h y with ⟨g1, -, -⟩ | ⟨g0, k0, -, -, g1, -⟩
      · rw [g1, Option.bind_some, if_pos rfl, decide_eq_true (p := (some (-9 : Int32)) = some (-9)) rfl, if_pos rfl]
      · have hk12 := h.k12
        have hne : ¬ nI g0 = -9 := fun z => by have q := nI_pos (n := g0) (by omega); rw [z] at q; exact q (by decide)
        rw [g1, Option.bind_some, if_neg hne, decide_eq_false (p := some (nI g0) = some (-9 : Int32)) (fun z => hne (Option.some.inj z)), if_neg (by decide)]
theorem m_mayHang {k n : Nat} {D : LSt} {M : MSt} (h : RRel k n D (mA M 2)) (hN : mRN M = nI n) (y : Int32) : fX5_mayHang M y = some (if frP D n y = true then 1 else 0) := by
  unfold fX5_mayHang frP
  rw [hN, m_inI y 0 (nI n - 1) (by decide +kernel) rfl, Option.bind_some]
  by_cases h0 : 0 ≤ y ∧ y ≤ nI n - 1
  · rw [if_pos h0, if_neg c10, decide_eq_true h0, Bool.true_and]
    rcases rc_gripAt h y with ⟨g1, g2, -⟩ | ⟨g0, k0, -, -, g1, g2⟩
    · rw [g2, Option.bind_some, if_pos rfl, g1, decide_eq_true (p := (some (-9 : Int32)) = some (-9)) rfl, if_pos rfl]
    · have hk12 := h.k12
      have hne : ¬ nI g0 = -9 := fun z => by have q := nI_pos (n := g0) (by omega); rw [z] at q; exact q (by decide)
      rw [g2, Option.bind_some, if_neg hne, g1, decide_eq_false (p := some (nI g0) = some (-9 : Int32)) (fun z => hne (Option.some.inj z)), if_neg (by decide)]
  · rw [if_neg h0, if_pos rfl, decide_eq_false h0]; rfl
theorem frP_rng {n : Nat} (hn : 1 ≤ n) (hn20 : n ≤ 20) {D : LSt} {x y : Int32} (h1 : -57 ≤ x.toInt) (h2 : x.toInt ≤ 207) (h3 : -57 ≤ y.toInt) (h4 : y.toInt ≤ 207) (h : frP D n (x * 10 + y) = true) : 0 ≤ 10 * x.toInt + y.toInt ∧ 10 * x.toInt + y.toInt < (n : Int) ∧ fX0_gripAt D (x * 10 + y) = some (-9) := by
  unfold frP at h
  rw [Bool.and_eq_true, decide_eq_true_iff, decide_eq_true_iff] at h
  have e0 : (0 : Int32).toInt = 0 := by decide
  have e1 : nI n - 1 = nI (n - 1) := by rw [show (1 : Int32) = nI 1 from rfl, pk_sub hn]
  obtain ⟨⟨a1, a2⟩, a3⟩ := h
  rw [e1] at a2
  have a1 := (fa_le _ _).mp a1
  have a2 := (fa_le _ _).mp a2
  rw [e0, ten_toInt h1 h2 h3 h4] at a1
  rw [ten_toInt h1 h2 h3 h4, nI_toInt (by omega)] at a2
  exact ⟨a1, by omega, a3⟩
section TX
variable {Z : SSt} {len : Nat}
/-- the slot's reading -/
theorem m_readSlot {k n p : Nat} {D : LSt} {A : Nat → RI} (hb : BytOk Z len) (h60 : len ≤ 60) (hp : p < 90) (hrow : ∀ i, i < len → sRow Z i = A 1 i) (rf nn ac : Int32) (h : RRel k n D (A 2)) :
    fX5_readSlot (A, rf, nI len, nI p, nI n, nn, ac) = some (if sCt (fun o => frP D n (dv Z len p * 10 + nI o)) 10 = 0 then (-9, (A, rf, nI len, nI p, nI n, nn, ac)) else if (0 ≤ dv Z len (p + 1) ∧ dv Z len (p + 1) ≤ 9) ∧ frP D n (dv Z len p * 10 + dv Z len (p + 1)) = true then (dv Z len p * 10 + dv Z len (p + 1), (A, rf, nI len, nI (p + 2), nI n, nn, ac)) else (-9, (A, rf, nI len, nI (p + 1), nI n, nn, ac))) := by
  have hn4 := h.n4
  have hn20 := h.n20
  obtain ⟨t1, t2, t3⟩ := dv_rng hb p
  obtain ⟨u1, u2, u3⟩ := dv_rng hb (p + 1)
  have e0 : (0 : Int32).toInt = 0 := by decide
  have e9 : (9 : Int32).toInt = 9 := by decide
  have out : ¬ (0 ≤ dv Z len p ∧ dv Z len p ≤ 9) → sCt (fun o => frP D n (dv Z len p * 10 + nI o)) 10 = 0 := fun hz => sCt_zero.mpr (fun o ho => by
    cases q : frP D n (dv Z len p * 10 + nI o) with
    | false => rfl
    | true =>
      obtain ⟨s1, s2, s3⟩ := nI_small (o := o) (by omega)
      obtain ⟨f1, f2, -⟩ := frP_rng (by omega) hn20 t1 t2 s1 s2 q
      rw [s3] at f1 f2
      exact absurd (show _ ∧ _ by rw [fa_le, fa_le, e0, e9]; constructor <;> omega) hz)
  have tail : ∀ x2 : Int32, ∀ f, fX5_readSlot_L33 (f + 1) (A, rf, nI len, nI p, nI n, nn, ac) (dv Z len p) x2 10 = if x2 = 0 then some (-9, (A, rf, nI len, nI p, nI n, nn, ac)) else some (if (0 ≤ dv Z len (p + 1) ∧ dv Z len (p + 1) ≤ 9) ∧ frP D n (dv Z len p * 10 + dv Z len (p + 1)) = true then (dv Z len p * 10 + dv Z len (p + 1), (A, rf, nI len, nI (p + 2), nI n, nn, ac)) else (-9, (A, rf, nI len, nI (p + 1), nI n, nn, ac))) := fun x2 f => by
    rw [fX5_readSlot_L33, if_pos (show (10 : Int32) ≤ 10 by decide)]
    by_cases hx : x2 = 0
    · rw [if_pos hx, if_pos hx]
    · rw [if_neg hx, if_neg hx]
      show (if nI len ≤ nI p + 1 then _ else gd (nI p + 1) 60 ((fX5_in ((A 1 (nI p + 1).toNatClampNeg - 48).toInt64) 0 9).bind (fun r132 => (if r132 = 0 then some (-9, (A, rf, nI len, nI p + 1, nI n, nn, ac)) else (fX5_mayHang (A, rf, nI len, nI p + 1, nI n, nn, ac) ((10 * dv Z len p) + (A 1 (nI p + 1).toNatClampNeg - 48))).bind (fun r145 => (if r145 = 0 then some (-9, (A, rf, nI len, nI p + 1, nI n, nn, ac)) else some (((10 * dv Z len p) + (A 1 (nI p + 1).toNatClampNeg - 48)), (A, rf, nI len, nI p + 1 + 1, nI n, nn, ac)))))))) = _
      rw [nI_1, nI_1, Int32.mul_comm 10]
      by_cases hl : p + 1 < len
      · rw [if_neg (nI_ge hl (by omega)), gd_nI (by omega) (by decide), nI_clamp (by omega), ← hrow (p + 1) hl, show sRow Z (p + 1) - 48 = dv Z len (p + 1) from by unfold dv chr; rw [if_pos hl], m_inI _ 0 9 (by decide +kernel) (by decide +kernel), Option.bind_some, m_mayHang (M := (A, rf, nI len, nI (p + 1), nI n, nn, ac)) h rfl, Option.bind_some]
        by_cases q1 : 0 ≤ dv Z len (p + 1) ∧ dv Z len (p + 1) ≤ 9
        · rw [if_pos q1, if_neg c10]
          by_cases q2 : frP D n (dv Z len p * 10 + dv Z len (p + 1)) = true
          · rw [if_pos q2, if_neg c10, if_pos (show (0 ≤ dv Z len (p + 1) ∧ dv Z len (p + 1) ≤ 9) ∧ frP D n (dv Z len p * 10 + dv Z len (p + 1)) = true from ⟨q1, q2⟩)]
          · rw [if_neg q2, if_pos rfl, if_neg (show ¬ ((0 ≤ dv Z len (p + 1) ∧ dv Z len (p + 1) ≤ 9) ∧ frP D n (dv Z len p * 10 + dv Z len (p + 1)) = true) from fun z => q2 z.2)]
        · rw [if_neg q1, if_pos rfl, if_neg (show ¬ ((0 ≤ dv Z len (p + 1) ∧ dv Z len (p + 1) ≤ 9) ∧ frP D n (dv Z len p * 10 + dv Z len (p + 1)) = true) from fun z => q1 z.1)]
      · have q1 : ¬ (0 ≤ dv Z len (p + 1) ∧ dv Z len (p + 1) ≤ 9) := fun z => by
          have := u3 (by omega)
          have z1 := (fa_le _ _).mp z.1
          rw [e0] at z1
          omega
        rw [if_pos (nI_le (by omega) (by omega)), m_inI _ 0 9 (by decide +kernel) (by decide +kernel), Option.bind_some, if_neg (show ¬ ((0 : Int32) ≤ -9 ∧ (-9 : Int32) ≤ 9) by decide), if_pos rfl, if_neg (show ¬ ((0 ≤ dv Z len (p + 1) ∧ dv Z len (p + 1) ≤ 9) ∧ frP D n (dv Z len p * 10 + dv Z len (p + 1)) = true) from fun z => q1 z.1)]
  unfold fX5_readSlot
  show (if nI len ≤ nI p then _ else gd (nI p) 60 (fX5_readSlot_L33 KF _ (A 1 (nI p).toNatClampNeg - 48) 0 0)) = _
  by_cases hl : p < len
  · rw [if_neg (nI_ge hl (by omega)), gd_nI (by omega) (by decide), nI_clamp (by omega), ← hrow p hl, show sRow Z p - 48 = dv Z len p from by unfold dv chr; rw [if_pos hl]]
    by_cases hin : 0 ≤ dv Z len p ∧ dv Z len p ≤ 9
    · have key := run_up (fun f o => fX5_readSlot_L33 f (A, rf, nI len, nI p, nI n, nn, ac) (dv Z len p) (if sCt (fun o => frP D n (dv Z len p * 10 + nI o)) o = 0 then 0 else 1) (nI o)) 10 (fuel := KF) (r := if (if sCt (fun o => frP D n (dv Z len p * 10 + nI o)) 10 = 0 then (0 : Int32) else 1) = 0 then some (-9, (A, rf, nI len, nI p, nI n, nn, ac)) else some (if (0 ≤ dv Z len (p + 1) ∧ dv Z len (p + 1) ≤ 9) ∧ frP D n (dv Z len p * 10 + dv Z len (p + 1)) = true then (dv Z len p * 10 + dv Z len (p + 1), (A, rf, nI len, nI (p + 2), nI n, nn, ac)) else (-9, (A, rf, nI len, nI (p + 1), nI n, nn, ac)))) (fun o f ho => ?_) (fun f => ?_) (by decide)
      · have key : fX5_readSlot_L33 KF (A, rf, nI len, nI p, nI n, nn, ac) (dv Z len p) 0 0 = _ := key
        rw [key]
        by_cases hz : sCt (fun o => frP D n (dv Z len p * 10 + nI o)) 10 = 0
        · rw [if_pos hz, if_pos rfl, if_pos hz]
        · rw [if_neg hz, if_neg c10, if_neg hz]
      · show fX5_readSlot_L33 (f + 1) (A, rf, nI len, nI p, nI n, nn, ac) (dv Z len p) (if sCt (fun o => frP D n (dv Z len p * 10 + nI o)) o = 0 then 0 else 1) (nI o) = fX5_readSlot_L33 f (A, rf, nI len, nI p, nI n, nn, ac) (dv Z len p) (if sCt (fun o => frP D n (dv Z len p * 10 + nI o)) (o + 1) = 0 then 0 else 1) (nI (o + 1))
        rw [fX5_readSlot_L33, if_neg (show ¬ (10 : Int32) ≤ nI o from nI_ge (b := 10) ho (by decide)), m_inI _ 0 9 (by decide +kernel) (by decide +kernel), Option.bind_some, if_pos hin, if_neg c10, nI_1, Int32.mul_comm 10, m_mayHang (M := (A, rf, nI len, nI p, nI n, nn, ac)) h rfl, Option.bind_some]
        by_cases hz : sCt (fun o => frP D n (dv Z len p * 10 + nI o)) o = 0
        · rw [if_pos hz, if_pos rfl]
          by_cases q : frP D n (dv Z len p * 10 + nI o) = true
          · rw [if_pos q, if_neg c10, if_neg (show ¬ sCt (fun o => frP D n (dv Z len p * 10 + nI o)) (o + 1) = 0 by rw [sCt_yes (p := fun o => frP D n (dv Z len p * 10 + nI o)) q]; exact Nat.succ_ne_zero _)]
          · have q' : (fun o => frP D n (dv Z len p * 10 + nI o)) o = false := by
              cases e : frP D n (dv Z len p * 10 + nI o) with
              | true => exact absurd e q
              | false => exact e
            rw [if_neg q, if_pos rfl, sCt_no q', if_pos hz]
        · rw [if_neg hz, if_neg c10, if_neg (show ¬ sCt (fun o => frP D n (dv Z len p * 10 + nI o)) (o + 1) = 0 by rw [sCt]; omega)]
      · exact tail _ f
    · rw [if_pos (out hin)]
      show fX5_readSlot_L33 (2999 + 1) _ _ 0 0 = _
      rw [fX5_readSlot_L33, if_neg (show ¬ (10 : Int32) ≤ 0 by decide), m_inI _ 0 9 (by decide +kernel) (by decide +kernel), Option.bind_some, if_neg hin, if_pos rfl, if_pos rfl]
  · have hin : ¬ (0 ≤ dv Z len p ∧ dv Z len p ≤ 9) := fun z => by
      have := t3 (by omega)
      have z1 := (fa_le _ _).mp z.1
      rw [e0] at z1
      omega
    rw [if_pos (nI_le (by omega) (by omega)), if_pos (out hin)]
    show fX5_readSlot_L33 (2999 + 1) _ (-9) 0 0 = _
    rw [fX5_readSlot_L33, if_neg (show ¬ (10 : Int32) ≤ 0 by decide), m_inI _ 0 9 (by decide +kernel) (by decide +kernel), Option.bind_some, if_neg (show ¬ ((0 : Int32) ≤ -9 ∧ (-9 : Int32) ≤ 9) by decide), if_pos rfl, if_pos rfl]
/-- an item -/
def ItR (Z : SSt) (len k n p : Nat) (A : Nat → RI) (rf nn ac : Int32) (RC : Option (Int32 × TSt)) (RM : Option (Int32 × MSt)) : Prop := ∃ b p' D' A', RC = some (b, (Z, D', nI p')) ∧ RM = some (b, (A', rf, nI len, nI p', nI n, nn, ac)) ∧ p' ≤ p + 4 ∧ (∀ c, c ≠ 2 → A' c = A c) ∧ (b = 0 ∨ (b = 1 ∧ k < 12 ∧ RRel (k + 1) n D' (A' 2)))
theorem It_no {k n p p' : Nat} {A : Nat → RI} {rf nn ac : Int32} {D : LSt} {RC : Option (Int32 × TSt)} {RM : Option (Int32 × MSt)} (hp : p' ≤ p + 4) (h1 : RC = some (0, (Z, D, nI p'))) (h2 : RM = some (0, (A, rf, nI len, nI p', nI n, nn, ac))) : ItR Z len k n p A rf nn ac RC RM := ⟨0, p', D, A, h1, h2, hp, fun _ _ => rfl, Or.inl rfl⟩
def addA (A : Nat → RI) (k : Nat) (w pl s : Int32) : Nat → RI := aw (aw (aw (aw (aw (aw (aw (aw (aw A 2 k w) 2 (12 + k) 0) 2 (24 + k) 0) 2 (36 + k) 0) 2 (48 + k) (-9)) 2 (60 + k) pl) 2 (72 + k) s) 2 (84 + k) 0) 2 96 (nI (k + 1))
theorem m_addOn {k : Nat} {A : Nat → RI} (hk : k < 12) (hA : A 2 96 = nI k) (rf sz sp rn nn ac w pl s : Int32) : fX5_addOn 2 (A, rf, sz, sp, rn, nn, ac) w pl s = some (addA A k w pl s, rf, sz, sp, rn, nn, ac) := by
  unfold fX5_addOn addA
  simp (disch := omega) only [mA, lt, aI0, aI12, aI24, aI36, aI48, aI60, aI72, aI84, gd_nI, nI_clamp, aw_at, aw_ne, upd_at, upd_ne, hA, nI_1]
theorem addA_ne {A : Nat → RI} {k c : Nat} {w pl s : Int32} (hc : c ≠ 2) : addA A k w pl s c = A c := by
  unfold addA; simp (disch := omega) only [aw_ne]
theorem RRel_addG {k n : Nat} {D : LSt} {A : Nat → RI} (h : RRel k n D (A 2)) (hk : k < 12) (w : Int32) : RRel (k + 1) n (addL D k w) (addA A k w 1 0 2) := by
  refine RRel_add h hk w ?_ ?_ ?_ ?_ ?_ ?_ ?_ (fun i i1 i2 i3 => ?_) <;> unfold addA <;> simp (disch := omega) only [aw_at, upd_at, upd_ne]
theorem RRel_addL {k n a : Nat} {D : LSt} {A : Nat → RI} (h : RRel k n D (A 2)) (hk : k < 12) (w : Int32) (ha : a < n) (hd : ∀ i, i < k → ¬ (lPl D i = 0 ∧ lSp D i = nI a)) : RRel (k + 1) n (lWe (addL D k w), lCy (addL D k w), lWr (addL D k w), lPu (addL D k w), lSl (addL D k w), upd (lPl (addL D k w)) k 0, upd (lSp (addL D k w)) k (nI a), lSt (addL D k w), lLi (addL D k w), lN_ (addL D k w), lStn (addL D k w), lClk (addL D k w), lRnd (addL D k w)) (addA A k w 0 (nI a) 2) := by
  have h1 := RRel_hangD (RRel_addG h hk w) (g := k) (a := a) (by omega) ha (fun i hi hne hp e => by
    have hp : upd (lPl D) k 1 i = 0 := hp
    rw [upd_ne hne] at hp
    exact hd i (by omega) ⟨hp, e⟩)
  refine RRel_cong h1 (fun i hi => ?_)
  by_cases e1 : i = 60 + k
  · subst e1; unfold addA; simp (disch := omega) only [aw_at, upd_at, upd_ne]
  · by_cases e2 : i = 72 + k
    · subst e2; unfold addA; simp (disch := omega) only [aw_at, upd_at, upd_ne]
    · rw [upd_ne e2, upd_ne e1]
      unfold addA
      simp only [aw_at]
      by_cases e3 : i = 96
      · subst e3; rw [upd_at, upd_at]
      · rw [upd_ne e3, upd_ne e3]
        by_cases e4 : i = 84 + k
        · subst e4; rw [upd_at, upd_at]
        · rw [upd_ne e4, upd_ne e4, upd_ne e2, upd_ne e2, upd_ne e1, upd_ne e1]
theorem neg1 {x : Int32} (h : 0 ≤ x) : ¬ x = -1 ∧ ¬ x = -9 := by
  have e0 : (0 : Int32).toInt = 0 := by decide
  have h := (fa_le _ _).mp h
  rw [e0] at h
  refine ⟨fun z => ?_, fun z => ?_⟩
  · rw [z] at h; exact absurd h (by decide)
  · rw [z] at h; exact absurd h (by decide)
set_option maxHeartbeats 1000000 in
theorem o_item {k n p : Nat} {D : LSt} {A : Nat → RI} (hl : sLen Z = nI len) (h60 : len ≤ 60) (hb : BytOk Z len) (hp : p < len) (hrow : ∀ i, i < len → sRow Z i = A 1 i) (rf nn ac : Int32) (h : RRel k n D (A 2)) :
    ItR Z len k n p A rf nn ac (fX1_readItem (Z, D, nI p)) (fX5_readItem (A, rf, nI len, nI p, nI n, nn, ac)) := by
  have hk12 := h.k12
  have hn4 := h.n4
  have hn20 := h.n20
  have h' : RRel k n D (mA (A, rf, nI len, nI p, nI n, nn, ac) 2) := h
  have e0 : (0 : Int32).toInt = 0 := by decide
  obtain ⟨t1, t2, t3⟩ := dv_rng hb (p + 2)
  obtain ⟨u1, u2, u3⟩ := dv_rng hb (p + 3)
  have gr : fX0_grips D = some (nI k) := rc_grips h'
  have cD := fun D' => c_digit (Z := Z) (len := len) (p := p + 1) hl h60 (by omega) D' 0 3
  have mD := m_digit (p := p + 1) hb h60 (by omega) hrow rf (nI n) nn ac (lo := 0) (hi := 3) (Int32.le_refl 0)
  have chp : chr Z len p = A 1 p := by unfold chr; rw [if_pos hp]; exact hrow p hp
  have hC : fX1_readDigit (tSg (Z, D, nI p), tD (Z, D, nI p), nI (p + 1)) 0 3 = some (if 0 ≤ dv Z len (p + 1) ∧ dv Z len (p + 1) ≤ 3 then (dv Z len (p + 1), (Z, D, nI (p + 1 + 1))) else (-1, (Z, D, nI (p + 1)))) := cD D
  unfold fX1_readItem fX5_readItem
  show ItR Z len k n p A rf nn ac ((fX3_at Z (nI p)).bind _) (gd (nI p) 60 (if A 1 (nI p).toNatClampNeg = 103 then _ else _))
  rw [c_at hl h60 (by omega), Option.bind_some, gd_nI (by omega) (by decide), nI_clamp (by omega), chp]
  have k12 : (nI k = 12) ↔ k = 12 := nI_eq (b := 12) (by omega) (by decide)
  have e96 : mA (A, rf, nI len, nI p, nI n, nn, ac) 2 96 = nI k := h.hk
  have e1p : nI p + 1 = nI (p + 1) := nI_1 p
  by_cases hg : A 1 p = 103
  · rw [if_pos hg, if_pos hg]
    obtain ⟨d1, d2⟩ := rc_count h' (w := 0) (by decide)
    have hct := sCt_le (fun g => decide (lPl D g = 0)) k
    rw [d2, Option.bind_some]
    show ItR Z len k n p A rf nn ac ((fX0_grips D).bind _) (if nI n ≤ nI (sCt (fun g => decide (lPl D g = 0)) k) then (if A 2 96 = 12 then some (0, (A, rf, nI len, nI p, nI n, nn, ac)) else (if A 1 p = 104 then _ else some (0, (A, rf, nI len, nI p, nI n, nn, ac)))) else (if A 2 96 = 12 then some (0, (A, rf, nI len, nI p, nI n, nn, ac)) else (fX5_digit (A, rf, nI len, nI p + 1, nI n, nn, ac) 0 3).bind _))
    rw [gr, Option.bind_some, hg, if_neg (show ¬ (103 : Int32) = 104 by decide), show A 2 96 = nI k from h.hk, e1p]
    by_cases hk : k = 12
    · have hkk : (12 : Int32) ≤ nI k := by rw [hk]; decide
      rw [if_pos hkk, if_pos (k12.mpr hk), if_pos (k12.mpr hk)]
      exact It_no (p' := p) (by omega) rfl (by split <;> rfl)
    · rw [if_neg (show ¬ (12 : Int32) ≤ nI k from nI_ge (b := 12) (by omega) (by decide)), if_neg (fun z => hk (k12.mp z)), if_neg (fun z => hk (k12.mp z))]
      show ItR Z len k n p A rf nn ac ((fX0_count D 0).bind _) _
      rw [d1, Option.bind_some]
      show ItR Z len k n p A rf nn ac (if nI (sCt (fun g => decide (lPl D g = 0)) k) < lN_ D then _ else _) _
      rw [h.hn]
      by_cases hfull : n ≤ sCt (fun g => decide (lPl D g = 0)) k
      · rw [if_neg (nI_nlt hfull (by omega)), if_pos (nI_le hfull (by omega))]
        exact It_no (p' := p) (by omega) rfl rfl
      · rw [if_pos (nI_lt (by omega) (by omega)), if_neg (nI_ge (by omega) (by omega)), mD]
        rw [hC, Option.bind_some, Option.bind_some]
        by_cases hw : 0 ≤ dv Z len (p + 1) ∧ dv Z len (p + 1) ≤ 3
        · rw [if_pos hw, if_pos hw]
          obtain ⟨w1, w9⟩ := neg1 hw.1
          show ItR Z len k n p A rf nn ac (if dv Z len (p + 1) = -1 then _ else (fX1_readPair (Z, D, nI (p + 2)) 0 (lN_ D - 1) 1).bind (fun r116 => (if r116.1 = (-1) then some (0, r116.2) else (fX0_add (tD r116.2) (dv Z len (p + 1))).bind (fun r139 => (fX0_hang r139 (nI k) r116.1).bind (fun r153 => some (1, ((tSg r116.2), r153, (tAt r116.2)))))))) (if dv Z len (p + 1) = -9 then _ else (fX5_readSlot (A, rf, nI len, nI (p + 2), nI n, nn, ac)).bind (fun r91 => (if r91.1 = (-9) then some (0, r91.2) else (fX5_addOn 2 r91.2 (dv Z len (p + 1)) 0 r91.1).bind (fun r125 => some (1, r125)))))
          rw [if_neg w1, if_neg w9, h.hn, c_pair (p := p + 2) hl h60 (by omega) (fun q y => c_allow1 h' Z q y), m_readSlot (p := p + 2) hb h60 (by omega) hrow rf nn ac h, Option.bind_some, Option.bind_some]
          by_cases hz : sCt (fun o => frP D n (dv Z len (p + 2) * 10 + nI o)) 10 = 0
          · rw [if_pos hz, if_pos hz]
            show ItR Z len k n p A rf nn ac (if (-1 : Int32) = -1 then _ else _) (if (-9 : Int32) = -9 then _ else _)
            rw [if_pos rfl, if_pos rfl]
            exact It_no (p' := p + 2) (by omega) rfl rfl
          · rw [if_neg hz, if_neg hz]
            by_cases hok : (0 ≤ dv Z len (p + 2 + 1) ∧ dv Z len (p + 2 + 1) ≤ 9) ∧ frP D n (dv Z len (p + 2) * 10 + dv Z len (p + 2 + 1)) = true
            · rw [if_pos hok, if_pos hok]
              obtain ⟨f1, f2, f3⟩ := frP_rng (by omega) hn20 t1 t2 u1 u2 hok.2
              have hy : ∃ a, a < n ∧ dv Z len (p + 2) * 10 + dv Z len (p + 2 + 1) = nI a := by
                have := ten_toInt t1 t2 u1 u2
                obtain ⟨a, ha, ea⟩ := nI_of (x := dv Z len (p + 2) * 10 + dv Z len (p + 3)) (fun z => by
                  have z := (fa_lt _ _).mp z
                  rw [this, e0] at z
                  omega)
                rw [ea, nI_toInt ha] at this
                exact ⟨a, by omega, ea⟩
              obtain ⟨a, ha, ea⟩ := hy
              rw [ea]
              obtain ⟨y1, y9⟩ := neg1 (x := nI a) (nI_pos' (by omega))
              have f3 : fX0_gripAt D (nI a) = some (-9) := by rw [← ea]; exact f3
              have hd : ∀ i, i < k → ¬ (lPl D i = 0 ∧ lSp D i = nI a) := by
                rcases rc_gripAt h' (nI a) with ⟨-, -, g3⟩ | ⟨g0, k0, -, -, g1, -⟩
                · exact g3
                · rw [f3] at g1
                  have := (Option.some.inj g1)
                  exact fun _ _ _ => (neg1 (x := nI g0) (nI_pos' (by omega))).2 this.symm
              show ItR Z len k n p A rf nn ac (if nI a = -1 then _ else (fX0_add D (dv Z len (p + 1))).bind (fun r139 => (fX0_hang r139 (nI k) (nI a)).bind (fun r153 => some (1, (Z, r153, nI (p + 2 + 2)))))) (if nI a = -9 then _ else (fX5_addOn 2 (A, rf, nI len, nI (p + 2 + 2), nI n, nn, ac) (dv Z len (p + 1)) 0 (nI a)).bind _)
              rw [if_neg y1, if_neg y9, c_add (by omega) gr, Option.bind_some, m_addOn (by omega) h.hk, Option.bind_some]
              unfold fX0_hang
              rw [gd_nI (by omega) (by decide), nI_clamp (by omega), Option.bind_some]
              exact ⟨1, p + 4, _, _, rfl, rfl, Nat.le_refl _, fun c hc => addA_ne hc, Or.inr ⟨rfl, by omega, RRel_addL h (by omega) _ ha hd⟩⟩
            · rw [if_neg hok, if_neg hok]
              show ItR Z len k n p A rf nn ac (if (-1 : Int32) = -1 then _ else _) (if (-9 : Int32) = -9 then _ else _)
              rw [if_pos rfl, if_pos rfl]
              exact It_no (p' := p + 3) (by omega) rfl rfl
        · rw [if_neg hw, if_neg hw]
          show ItR Z len k n p A rf nn ac (if (-1 : Int32) = -1 then _ else _) (if (-9 : Int32) = -9 then _ else _)
          rw [if_pos rfl, if_pos rfl]
          exact It_no (p' := p + 1) (by omega) rfl rfl
  · rw [if_neg hg, if_neg hg]
    show ItR Z len k n p A rf nn ac ((fX0_grips D).bind _) (if A 2 96 = 12 then some (0, (A, rf, nI len, nI p, nI n, nn, ac)) else (if A 1 p = 104 then (fX5_digit (A, rf, nI len, nI p + 1, nI n, nn, ac) 0 3).bind _ else some (0, (A, rf, nI len, nI p, nI n, nn, ac))))
    rw [gr, Option.bind_some, show A 2 96 = nI k from h.hk, e1p]
    by_cases hk : k = 12
    · have hkk : (12 : Int32) ≤ nI k := by rw [hk]; decide
      rw [if_pos hkk, if_pos (k12.mpr hk)]
      exact It_no (p' := p) (by omega) rfl rfl
    · rw [if_neg (show ¬ (12 : Int32) ≤ nI k from nI_ge (b := 12) (by omega) (by decide)), if_neg (fun z => hk (k12.mp z))]
      by_cases hh : A 1 p = 104
      · rw [if_pos hh, if_pos hh, mD]
        rw [hC, Option.bind_some, Option.bind_some]
        by_cases hw : 0 ≤ dv Z len (p + 1) ∧ dv Z len (p + 1) ≤ 3
        · rw [if_pos hw, if_pos hw]
          obtain ⟨w1, w9⟩ := neg1 hw.1
          show ItR Z len k n p A rf nn ac (if dv Z len (p + 1) = -1 then _ else (fX0_add D (dv Z len (p + 1))).bind (fun r139 => some (1, (Z, r139, nI (p + 1 + 1))))) (if dv Z len (p + 1) = -9 then _ else (fX5_addOn 2 (A, rf, nI len, nI (p + 1 + 1), nI n, nn, ac) (dv Z len (p + 1)) 1 0).bind _)
          rw [if_neg w1, if_neg w9, c_add (by omega) gr, Option.bind_some, m_addOn (by omega) h.hk, Option.bind_some]
          exact ⟨1, p + 2, _, _, rfl, rfl, by omega, fun c hc => addA_ne hc, Or.inr ⟨rfl, by omega, RRel_addG h (by omega) _⟩⟩
        · rw [if_neg hw, if_neg hw]
          show ItR Z len k n p A rf nn ac (if (-1 : Int32) = -1 then _ else _) (if (-9 : Int32) = -9 then _ else _)
          rw [if_pos rfl, if_pos rfl]
          exact It_no (p' := p + 1) (by omega) rfl rfl
      · rw [if_neg hh, if_neg hh]
        exact It_no (p' := p) (by omega) rfl rfl
theorem items_one {n : Nat} {A0 : Nat → RI} (hl : sLen Z = nI len) (h60 : len ≤ 60) (hb : BytOk Z len) (hrow : ∀ i, i < len → sRow Z i = A0 1 i) (rf s0 r0 nn ac : Int32) {k f g p : Nat} {D : LSt} {A : Nat → RI} (hk : k ≤ 12) (hf : 1 < f) (hg : 1 < g) (hp : p < 100) (h : RRel k n D (A 2)) (hA : ∀ c, c ≠ 2 → A c = A0 c)
    (ih : k < 12 → ∀ (p' : Nat) (D' : LSt) (A' : Nat → RI), p' < 100 → RRel (k + 1) n D' (A' 2) → (∀ c, c ≠ 2 → A' c = A0 c) → TxR Z (A0, rf, nI len, s0, r0, nn, ac) (fX1_findError_L19 (f - 1) (Z, D', nI p') 1 (nI (k + 1))) (fX5_readText_L153 (g - 1) (A', rf, nI len, nI p', nI n, nn, ac))) :
    TxR Z (A0, rf, nI len, s0, r0, nn, ac) (fX1_findError_L19 f (Z, D, nI p) 1 (nI k)) (fX5_readText_L153 g (A, rf, nI len, nI p, nI n, nn, ac)) := by
  obtain ⟨f, rfl⟩ : ∃ f', f = f' + 2 := ⟨f - 2, by omega⟩
  obtain ⟨g, rfl⟩ : ∃ g', g = g' + 2 := ⟨g - 2, by omega⟩
  rw [fX1_findError_L19, fX5_readText_L153, if_neg c10]
  show TxR _ _ (if sLen Z ≤ nI p then some (-9, (Z, D, nI p)) else if 12 < nI k then _ else _) (if nI len ≤ nI p then some (-9, (A, rf, nI len, nI p, nI n, nn, ac)) else _)
  rw [hl]
  by_cases hq : p < len
  · rw [if_neg (nI_ge hq (by omega)), if_neg (nI_ge hq (by omega)), if_neg (show ¬ (12 : Int32) < nI k from nI_nlt (a := 12) hk (by decide)), nI_1]
    obtain ⟨b, p', D', A', i1, i2, i3, i4, i5⟩ := o_item hl h60 hb hq (fun i hi => (hrow i hi).trans (by rw [hA 1 (by decide)])) rf nn ac h
    rw [i1, i2, Option.bind_some, Option.bind_some]
    rcases i5 with rfl | ⟨rfl, hk12, h2⟩
    · show TxR _ _ (fX1_findError_L19 (f + 1) (Z, D', nI p') 0 (nI (k + 1))) (if (0 : Int32) = 0 then some (nI p', (A', rf, nI len, nI p', nI n, nn, ac)) else _)
      rw [fX1_findError_L19, if_pos rfl, if_pos rfl]
      exact ⟨nI p', _, _, rfl, rfl, rfl, ⟨fun c hc => (i4 c hc).trans (hA c hc), rfl, rfl, rfl, rfl⟩, Or.inr ⟨p', by omega, rfl⟩⟩
    · show TxR _ _ (fX1_findError_L19 (f + 1) (Z, D', nI p') 1 (nI (k + 1))) (if (1 : Int32) = 0 then _ else fX5_readText_L153 (g + 1) (A', rf, nI len, nI p', nI n, nn, ac))
      rw [if_neg c10]
      exact ih hk12 p' D' A' (by omega) h2 (fun c hc => (i4 c hc).trans (hA c hc))
  · rw [if_pos (nI_le (by omega) (by omega)), if_pos (nI_le (by omega) (by omega))]
    exact ⟨-9, _, _, rfl, rfl, rfl, ⟨hA, rfl, rfl, rfl, rfl⟩, Or.inl ⟨rfl, k, n, rfl, h⟩⟩
theorem items_loop {n : Nat} {A0 : Nat → RI} (hl : sLen Z = nI len) (h60 : len ≤ 60) (hb : BytOk Z len) (hrow : ∀ i, i < len → sRow Z i = A0 1 i) (rf s0 r0 nn ac : Int32) : ∀ (d k f g p : Nat) (D : LSt) (A : Nat → RI), 12 - k = d → k ≤ 12 → d + 1 < f → d + 1 < g → p < 100 → RRel k n D (A 2) → (∀ c, c ≠ 2 → A c = A0 c) →
    TxR Z (A0, rf, nI len, s0, r0, nn, ac) (fX1_findError_L19 f (Z, D, nI p) 1 (nI k)) (fX5_readText_L153 g (A, rf, nI len, nI p, nI n, nn, ac)) := by
  intro d
  induction d with
  | zero =>
    intro k f g p D A hd hk hf hg hp h hA
    exact items_one hl h60 hb hrow rf s0 r0 nn ac hk (by omega) (by omega) hp h hA (fun hk' => by omega)
  | succ d ih =>
    intro k f g p D A hd hk hf hg hp h hA
    exact items_one hl h60 hb hrow rf s0 r0 nn ac hk (by omega) (by omega) hp h hA (fun hk' p' D' A' hp' h' hA' => ih (k + 1) (f - 1) (g - 1) p' D' A' (by omega) (by omega) (by omega) (by omega) hp' h' hA')
end TX

/-! PURE LEVEL of the property: what is told ahead comes; put on, taken off, scrapped; and back: the loops -/
theorem eE {β : Type} {P : β → Prop} {x y : Option β} (h : x = y) (hy : ∃ r, y = some r ∧ P r) : ∃ r, x = some r ∧ P r := by rw [h]; exact hy
/-- a loop over states -/
theorem run_st {A S : Type} (F : Nat → S → Nat → A) (I : Nat → S → Prop) (N : Nat) (h : ∀ i f s, i < N → I i s → ∃ s', I (i + 1) s' ∧ F (f + 1) s i = F f s' (i + 1)) : ∀ (d i fuel : Nat) (s : S), N - i = d → i ≤ N → d < fuel → I i s → ∃ s' f', I N s' ∧ F fuel s i = F (f' + 1) s' N
  | 0, i, fuel, s, hd, hi, hf, hI => by
    obtain ⟨f, rfl⟩ : ∃ f, fuel = f + 1 := ⟨fuel - 1, by omega⟩
    obtain rfl : i = N := by omega
    exact ⟨s, f, hI, rfl⟩
  | d + 1, i, fuel, s, hd, hi, hf, hI => by
    obtain ⟨f, rfl⟩ : ∃ f, fuel = f + 1 := ⟨fuel - 1, by omega⟩
    obtain ⟨s', h1, h2⟩ := h i f s (by omega) hI
    rw [h2]; exact run_st F I N h d (i + 1) f s' (by omega) (by omega) (by omega) h1
/-- nothing that counts has changed since -/
def FI (k n : Nat) (G0 : GSt) (L : LSt) (S : GSt) : Prop := LOk k n (gLift S) ∧ NEq k L (gLift S) ∧ tSg (gTxt S) = tSg (gTxt G0) ∧ gSav S = gSav G0 ∧ gSvd S = gSvd G0 ∧ ∃ a x, HOk S a x
theorem FI.seq {k n : Nat} {G0 S S' : GSt} {L : LSt} (h : FI k n G0 L S) (hs : SEq S S') : FI k n G0 L S' := by
  obtain ⟨h1, h2, h3, h4, h5, a, x, h6⟩ := h
  obtain ⟨b1, b2, b3, b4, b5, b6, b7⟩ := hs
  exact ⟨by rw [b1]; exact h1, by rw [b1]; exact h2, b2.trans h3, b4.trans h4, b5.trans h5, a, x, h6.1, h6.2.1, b6.trans h6.2.2.1, b7.trans h6.2.2.2⟩
theorem FI.undo {k n x : Nat} {G0 S S1 S' : GSt} {L L' : LSt} (h : FI k n G0 L S) (hA : Act S S1 L' x) (hx : x < 14) (hs : SEq S1 S') : ∃ v U, fL_undo S' = some (lN v, U) ∧ v < 14 ∧ FI k n G0 L U := by
  obtain ⟨h1, h2, h3, h4, h5, -⟩ := h
  obtain ⟨v, U, u1, u2, u3, u4, u5, u6, -, a', -, u7⟩ := act_undo hA hx hs
  obtain ⟨c1, c2⟩ := u3 k n h1
  exact ⟨v, U, u1, u2, c1, h2.tr c2, u4.trans h3, u5.trans h4, u6.trans h5, a', x, u7⟩
theorem FI.nw {k n : Nat} {G0 S : GSt} {L : LSt} (h : FI k n G0 L S) : fL_now S = some (nwV L k n, S) := by rw [nw_run rfl h.1, h.2.1.nw]
theorem lt0 {v : Nat} (h : v < 14) : ¬ lg_cmp (lN v) 0 < 0 := by rw [lcl, lN_toInt (by omega), l0T]; omega
/-- pulls told one by one -/
def PuOk (L : LSt) (k : Nat) : Prop := ∀ g, g < k → lPu L g = nI (pN L g) ∧ pN L g < 2 ^ 31
theorem Ext.pu {B k n : Nat} {L : LSt} (h : Ext B L) (hl : LOk k n L) (hB : B < 2 ^ 31) : PuOk L k := fun g hg => by
  have hk := hl.k12
  obtain ⟨w, c, p, a1, a2, a3, a4, a5, a6, a7, a8⟩ := h.2 g (by omega) (hl.nabs hg)
  have : pN L g = p := by unfold pN; rw [a7, nI_clamp (by omega)]
  rw [this]; exact ⟨a7, by omega⟩
theorem fl_66 (kk : GSt → Int32 → Int64 → Int32 → Int32 → Int32 → Int64 → Int64 → Int64 → Option GSt) {k n : Nat} {L : LSt} {S : GSt} (hL : gLift S = L) (h : LOk k n L) (hp : PuOk L k) (x1 : Int32) (x2 : Int64) (x4 x6 : Int32) (x7 x10 : Int64) : fL_follows_L66 kk 13 S x1 x2 x4 (nI k) x6 x7 x10 0 0 = kk S x1 x2 x4 (nI k) x6 x7 x10 (lN (SP L k)) := by
  have hk := h.k12
  refine run_up (fun f i => fL_follows_L66 kk f S x1 x2 x4 (nI k) x6 x7 x10 (lN (SP L i)) (nI i)) k (fun i f hi => ?_) (fun f => ?_) (by omega)
  · show fL_follows_L66 kk (f + 1) S x1 x2 x4 (nI k) x6 x7 x10 (lN (SP L i)) (nI i) = fL_follows_L66 kk f S x1 x2 x4 (nI k) x6 x7 x10 (lN (SP L (i + 1))) (nI (i + 1))
    have e : fL_grip S (nI i) 3 = some ((lPu L i).toInt64, S) := ag hL h hi (w := 3) (by decide)
    rw [fL_follows_L66, if_neg (nI_ge hi (by omega)), e, Option.bind_some, (hp i hi).1, nI_l (hp i hi).2, lN_add, nI_1]
    rfl
  · show fL_follows_L66 kk (f + 1) S x1 x2 x4 (nI k) x6 x7 x10 (lN (SP L k)) (nI k) = _
    rw [fL_follows_L66, if_pos (Int32.le_refl _)]
theorem fl_325 (kk : GSt → Int32 → Int64 → Int32 → Int32 → Int32 → Int64 → Int64 → Int64 → Int64 → Int32 → Int32 → Int64 → Option GSt) {k n : Nat} {L : LSt} {S : GSt} (hL : gLift S = L) (h : LOk k n L) (hp : PuOk L k) (x1 : Int32) (x2 : Int64) (x4 x6 : Int32) (x7 x10 x12 x14 : Int64) (x20 x21 : Int32) : fL_follows_L325 kk 13 S x1 x2 x4 (nI k) x6 x7 x10 x12 x14 x20 x21 0 0 = kk S x1 x2 x4 (nI k) x6 x7 x10 x12 x14 x20 x21 (lN (SP L k)) := by
  have hk := h.k12
  refine run_up (fun f i => fL_follows_L325 kk f S x1 x2 x4 (nI k) x6 x7 x10 x12 x14 x20 x21 (lN (SP L i)) (nI i)) k (fun i f hi => ?_) (fun f => ?_) (by omega)
  · show fL_follows_L325 kk (f + 1) S x1 x2 x4 (nI k) x6 x7 x10 x12 x14 x20 x21 (lN (SP L i)) (nI i) = fL_follows_L325 kk f S x1 x2 x4 (nI k) x6 x7 x10 x12 x14 x20 x21 (lN (SP L (i + 1))) (nI (i + 1))
    have e : fL_grip S (nI i) 3 = some ((lPu L i).toInt64, S) := ag hL h hi (w := 3) (by decide)
    rw [fL_follows_L325, if_neg (nI_ge hi (by omega)), e, Option.bind_some, (hp i hi).1, nI_l (hp i hi).2, lN_add, nI_1]
    rfl
  · show fL_follows_L325 kk (f + 1) S x1 x2 x4 (nI k) x6 x7 x10 x12 x14 x20 x21 (lN (SP L k)) (nI k) = _
    rw [fL_follows_L325, if_pos (Int32.le_refl _)]
/-- may a grip be put at slot i, as far as the first h grips say -/
def mayv (L : LSt) (i : Int32) (b : Bool) (h : Nat) : Int32 := if b = true ∧ sCt (lBad L i) h = 0 then 1 else 0
theorem fl_462 (kk : GSt → Int32 → Int64 → Int32 → Int32 → Int32 → Int64 → Int64 → Int32 → Int32 → Int32 → Int32 → Option GSt) {k n i : Nat} {L : LSt} {S : GSt} (hL : gLift S = L) (h : LOk k n L) (hi : i < n) (b : Bool) (x1 : Int32) (x2 : Int64) {x4 : Int32} (h4 : x4 = nI n) (x6 : Int32) (x7 x10 : Int64) (x21 x28 : Int32) {x30 : Int32} (h30 : x30 = mayv L (nI i) b 0) : fL_follows_L462 kk 13 S x1 x2 x4 (nI k) x6 x7 x10 x21 x28 (nI i) x30 0 = kk S x1 x2 x4 (nI k) x6 x7 x10 x21 x28 (nI i) (mayv L (nI i) b k) := by
  subst h4
  subst h30
  have hk := h.k12
  have hn := h.n20
  obtain ⟨v, v1, v4, hv⟩ := h.lim.2.2.2.1
  have e11 : fL_about S 11 = some (lN v, S) := by rw [an_11 hL, hv, nI_l (by omega)]
  refine run_up (fun f j => fL_follows_L462 kk f S x1 x2 (nI n) (nI k) x6 x7 x10 x21 x28 (nI i) (mayv L (nI i) b j) (nI j)) k (fun j f hj => ?_) (fun f => ?_) (by omega)
  · show fL_follows_L462 kk (f + 1) S x1 x2 (nI n) (nI k) x6 x7 x10 x21 x28 (nI i) (mayv L (nI i) b j) (nI j) = fL_follows_L462 kk f S x1 x2 (nI n) (nI k) x6 x7 x10 x21 x28 (nI i) (mayv L (nI i) b (j + 1)) (nI (j + 1))
    have e6 : fL_grip S (nI j) 6 = some ((if lPl L j = 0 then lSp L j else -9).toInt64, S) := ag hL h hj (w := 6) (by decide)
    have e5 : fL_grip S (nI j) 5 = some ((lPl L j).toInt64, S) := ag hL h hj (w := 5) (by decide)
    have fin : ∀ (a501 : Int64) (val : Int32), val = mayv L (nI i) b (j + 1) → (fL_follows_L462 kk f S x1 x2 (nI n) (nI k) x6 x7 x10 x21 x28 (nI i) val (nI j + 1)) = fL_follows_L462 kk f S x1 x2 (nI n) (nI k) x6 x7 x10 x21 x28 (nI i) (mayv L (nI i) b (j + 1)) (nI (j + 1)) := fun _ val e => by rw [e, nI_1]
    rw [fL_follows_L462]
    refine iN (nI_ge hj (by omega)) (bS e6 ?_)
    by_cases hp : lPl L j = 0
    · obtain ⟨a, ha, hs⟩ := h.sp hj hp
      have hbad := bad_way h hj hp ha hs hi hv v4
      have hw : ∃ w, w ≤ 20 ∧ w ≤ n ∧ (if i ≤ a then a - i else a + n - i) = w := ⟨_, by split <;> omega, by split <;> omega, rfl⟩
      obtain ⟨w, w1, w2, w3⟩ := hw
      rw [w3] at hbad
      refine bS (a := lN w) ?_ ?_
      · show (if 0 ≤ lg_cmp ((if lPl L j = 0 then lSp L j else -9).toInt64 - (nI i).toInt64) 0 then some ((if lPl L j = 0 then lSp L j else -9).toInt64 - (nI i).toInt64) else some ((if lPl L j = 0 then lSp L j else -9).toInt64 - (nI i).toInt64 + (nI n).toInt64)) = some (lN w)
        rw [if_pos hp, hs, nI_l (by omega), nI_l (by omega), nI_l (by omega)]
        by_cases q : i ≤ a
        · rw [if_pos q] at w3
          rw [lN_sub q, if_pos (by rw [lcge, lN_toInt (by omega), l0T]; omega), w3]
        · rw [if_neg q] at w3
          have e1 : (lN a - lN i).toInt = (a : Int) - (i : Int) := by rw [fb_subL] <;> rw [lN_toInt (by omega), lN_toInt (by omega)] <;> omega
          rw [if_neg (by rw [lcge, e1, l0T]; omega)]
          congr 1
          rw [fa_eq64, fb_addL] <;> rw [e1, lN_toInt (by omega)] <;> (try rw [lN_toInt (by omega)]) <;> omega
      · refine bS (a := (S, mayv L (nI i) b (j + 1))) ?_ (fin 0 _ rfl)
        unfold mayv
        by_cases hb : b = true ∧ sCt (lBad L (nI i)) j = 0
        · rw [if_pos hb]
          refine iN (show ¬ (1 : Int32) = 0 by decide) (bS e5 (bS (a := (S, if b = true ∧ sCt (lBad L (nI i)) (j + 1) = 0 then 1 else 0)) ?_ rfl))
          refine iS (lq (by rw [hp]; rfl)) (bS e11 (bS (a := (S, if b = true ∧ sCt (lBad L (nI i)) (j + 1) = 0 then 1 else 0)) ?_ rfl))
          by_cases q1 : w < v
          · refine iS (by rw [lcl, lN_toInt (by omega), lN_toInt (by omega)]; omega) ?_
            rw [sCt_yes (hbad.mpr (Or.inl q1)), if_neg (fun z => by have := z.2; omega)]
          · refine iN (by rw [lcl, lN_toInt (by omega), lN_toInt (by omega)]; omega) (bS e11 (bS (a := if b = true ∧ sCt (lBad L (nI i)) (j + 1) = 0 then 1 else 0) ?_ rfl))
            have e2 : (nI n).toInt64 - lN w = lN (n - w) := by rw [nI_l (by omega), lN_sub w2]
            show (if lg_cmp ((nI n).toInt64 - lN w) (lN v) < 0 then some (0 : Int32) else some 1) = _
            rw [e2]
            by_cases q2 : n - w < v
            · rw [if_pos (by rw [lcl, lN_toInt (by omega), lN_toInt (by omega)]; omega), sCt_yes (hbad.mpr (Or.inr q2)), if_neg (fun z => by have := z.2; omega)]
            · rw [if_neg (by rw [lcl, lN_toInt (by omega), lN_toInt (by omega)]; omega), sCt_no (p := lBad L (nI i)) (n := j) (by
                cases hz : lBad L (nI i) j with
                | false => rfl
                | true => exact absurd (hbad.mp hz) (by omega)), if_pos hb]
        · rw [if_neg hb]
          refine iS rfl ?_
          show some (S, (0 : Int32)) = some (S, if b = true ∧ sCt (lBad L (nI i)) (j + 1) = 0 then 1 else 0)
          rw [if_neg (show ¬ (b = true ∧ sCt (lBad L (nI i)) (j + 1) = 0) from fun z => hb ⟨z.1, by have := z.2; rw [sCt] at this; omega⟩)]
    · have hnb : lBad L (nI i) j = false := decide_eq_false (fun z => hp z.1)
      have h5 : ¬ lg_cmp ((lPl L j).toInt64) 0 = 0 := by
        rw [lc0]
        intro z
        exact hp ((fa_wide_eq (lPl L j) 0).mp z)
      have any : ∀ (c : Prop) [Decidable c] (x y : Int64), ∃ z, (if c then some x else some y) = some z := fun c _ x y => by split <;> exact ⟨_, rfl⟩
      obtain ⟨y, hy⟩ := any (0 ≤ lg_cmp ((if lPl L j = 0 then lSp L j else -9).toInt64 - (nI i).toInt64) 0) ((if lPl L j = 0 then lSp L j else -9).toInt64 - (nI i).toInt64) ((if lPl L j = 0 then lSp L j else -9).toInt64 - (nI i).toInt64 + (nI n).toInt64)
      refine bS (a := y) hy (bS (a := (S, mayv L (nI i) b (j + 1))) ?_ (fin 0 _ rfl))
      unfold mayv
      rw [sCt_no hnb]
      by_cases hb : b = true ∧ sCt (lBad L (nI i)) j = 0
      · rw [if_pos hb]
        exact iN (show ¬ (1 : Int32) = 0 by decide) (bS e5 (bS (a := (S, 1)) (iN h5 rfl) rfl))
      · rw [if_neg hb]
        exact iS rfl rfl
  · show fL_follows_L462 kk (f + 1) S x1 x2 (nI n) (nI k) x6 x7 x10 x21 x28 (nI i) (mayv L (nI i) b k) (nI k) = _
    rw [fL_follows_L462, if_pos (Int32.le_refl _)]
theorem NEq_bad {k n : Nat} {L L' : LSt} (h : LOk k n L) (h' : LOk k n L') (he : NEq k L L') (i : Int32) : sCt (lBad L' i) k = sCt (lBad L i) k := sCt_cong (fun g hg => by
  unfold lBad
  by_cases hp : lPl L g = 0
  · rw [he.pl hg, he.sp hg hp, he.2.2.2.2 3 (by decide), h.hn, h'.hn]
  · rw [decide_eq_false (fun z => hp ((he.pl hg).symm.trans z.1)), decide_eq_false (fun z => hp z.1)])
theorem occ_bad {k n i : Nat} {L : LSt} (h : LOk k n L) (hi : i < n) (ho : occ L k i) : ¬ sCt (lBad L (nI i)) k = 0 := fun z => by
  obtain ⟨g, hg, hp, hs⟩ := ho
  obtain ⟨v, v1, v4, hv⟩ := h.lim.2.2.2.1
  have := sCt_zero.mp z g hg
  have hb := (bad_way h hg hp hi hs hi hv v4).mpr (Or.inl (by rw [if_pos (Nat.le_refl i)]; omega))
  rw [hb] at this; cases this

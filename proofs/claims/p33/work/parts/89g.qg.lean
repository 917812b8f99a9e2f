/-! PURE LEVEL of the property: BUILT -/
section BU
variable {k n : Nat} {L : LSt}
theorem fb_33 (kk : (GSt × RI) → Int32 → Int32 → Int64 → Int64 → Int32 → Option GSt) {B : Nat} {S : GSt} (hL : gLift S = L) (h : LOk k n L) (hx : Ext B L) (hB : B ≤ 90000) {x1 : Int32} (hx1 : x1 = nI n) : ∃ T : GSt × RI, SEq S (bI T) ∧ (∀ w, w < 4 → bF T w = nI (cN L k w)) ∧ fL_built_L33 kk 13 (S, fun _ => 0) x1 (nI k) 0 (-9) 0 0 = kk T x1 (nI k) (lN (fb_sm (gs L n) k)) ((sGap L n k).toInt64) (nI (pos L k)) := by
  have hk := h.k12
  have st : ∀ (i f : Nat) (T : GSt × RI), i < k → (SEq S (bI T) ∧ ∀ w, w < 4 → bF T w = nI (cN L i w)) → ∃ T', (SEq S (bI T') ∧ ∀ w, w < 4 → bF T' w = nI (cN L (i + 1) w)) ∧ fL_built_L33 kk (f + 1) T x1 (nI k) (lN (fb_sm (gs L n) i)) ((sGap L n i).toInt64) (nI (pos L i)) (nI i) = fL_built_L33 kk f T' x1 (nI k) (lN (fb_sm (gs L n) (i + 1))) ((sGap L n (i + 1)).toInt64) (nI (pos L (i + 1))) (nI (i + 1)) := by
    intro i f T hi hI
    obtain ⟨T, F⟩ := T
    obtain ⟨h1, h2⟩ := hI
    have h1 : SEq S T := h1
    obtain ⟨F', f1, f2⟩ := b_head kk f F (h1.lf hL) h hx hB hi hx1 h2
    have hpl : ((lPl L i).toInt64).toInt32 = lPl L i := by
      rcases h.four hi with z | z | z | z <;> rw [z] <;> decide +kernel
    obtain ⟨T', t1, t2⟩ := b_tail kk f F' (h1.lf hL) h hi x1 (nI k) (((lPl L i).toInt64).toInt32) hpl ((nmb L i 6).toInt64) (fun z => by show (if lPl L i = 0 then lSp L i else -9).toInt64 = _; rw [if_pos z]) (lN (fb_sm (gs L n) (i + 1))) ((sGap L n (i + 1)).toInt64)
    exact ⟨(T', F'), ⟨h1.tr t1, f1⟩, f2.trans t2⟩
  obtain ⟨T, f', hT, e⟩ := run_st (fun f T i => fL_built_L33 kk f T x1 (nI k) (lN (fb_sm (gs L n) i)) ((sGap L n i).toInt64) (nI (pos L i)) (nI i)) (fun i T => SEq S (bI T) ∧ ∀ w, w < 4 → bF T w = nI (cN L i w)) k st k 0 13 (S, fun _ => 0) rfl (Nat.zero_le k) (by omega) ⟨SEq.rf, fun w _ => rfl⟩
  refine ⟨T, hT.1, hT.2, ?_⟩
  rw [show (-9 : Int64) = (sGap L n 0).toInt64 from m9L.symm]
  refine e.trans ?_
  show fL_built_L33 kk (f' + 1) T x1 (nI k) _ _ _ (nI k) = _
  rw [fL_built_L33, if_pos (Int32.le_refl _)]
theorem fb_769 (kk : (GSt × RI) → Int32 → Int32 → Option GSt) {T : GSt × RI} (hL : gLift (bI T) = L) (h : LOk k n L) (hF : ∀ w, w < 4 → bF T w = nI (cN L k w)) (x1 x2 : Int32) : fL_built_L769 kk 5 T x1 x2 0 = kk T x1 x2 := by
  obtain ⟨S, F⟩ := T
  have hk := h.k12
  refine run_up (fun f i => fL_built_L769 kk f (S, F) x1 x2 (nI i)) 4 (fun i f hi => ?_) (fun f => ?_) (by decide)
  · show fL_built_L769 kk (f + 1) (S, F) x1 x2 (nI i) = fL_built_L769 kk f (S, F) x1 x2 (nI (i + 1))
    have hc := cN_le L k i
    have e : fL_about S (2 + nI i) = some (lN (cN L k i), S) := by rw [show (2 : Int32) + nI i = nI (2 + i) from nI_add 2 i]; exact an_c hL h hi
    rw [fL_built_L769]
    refine iN (show ¬ (4 : Int32) ≤ nI i from nI_ge (b := 4) hi (by decide)) (bS e ((gd_nI hi (by decide)).trans (iS (lq ?_) ?_)))
    · show lN (cN L k i) = (F (nI i).toNatClampNeg).toInt64
      rw [nI_clamp (by omega), show F i = nI (cN L k i) from hF i hi, nI_l (by omega)]
    · rw [nI_1]
  · show fL_built_L769 kk (f + 1) (S, F) x1 x2 (nI 4) = _
    rw [fL_built_L769, if_pos (show (4 : Int32) ≤ nI 4 by decide)]
theorem tog_f {g h : Nat} (hk : LOk k n L) (hg : g < k) (hh : h < k) (hgg : lGrp L g = true) : lTog L g h = (decide (¬ lPl L h = 3) && decide (lWe L h = lWe L g ∧ lCy L h / 10 = lCy L g / 10)) := by
  have e : lGrp L h = decide (¬ lPl L h = 3) := by
    unfold lGrp
    by_cases q : lPl L h = 3
    · rw [decide_eq_false (fun z => z.2 q), decide_eq_false (fun z => z q)]
    · rw [decide_eq_true ⟨hk.nabs hh, q⟩, decide_eq_true q]
  unfold lTog
  rw [hgg, Bool.true_and, e, Bool.and_comm]
  congr 1
  by_cases q : lWe L g = lWe L h ∧ lCy L g / 10 = lCy L h / 10
  · rw [decide_eq_true q, decide_eq_true ⟨q.1.symm, q.2.symm⟩]
  · rw [decide_eq_false q, decide_eq_false (fun z => q ⟨z.1.symm, z.2.symm⟩)]
theorem div10 (a b : Nat) (ha : a < 2 ^ 31) (hb : b < 2 ^ 31) : (lN a / 10 = lN b / 10) ↔ (nI a / 10 = nI b / 10) := by
  rw [show lN a / 10 = lN (a / 10) from pk_lDiv (b := 10) (by omega) (by decide) (by decide), show lN b / 10 = lN (b / 10) from pk_lDiv (b := 10) (by omega) (by decide) (by decide), show nI a / 10 = nI (a / 10) from pk_div (d := 10) ha (by decide) (by decide), show nI b / 10 = nI (b / 10) from pk_div (d := 10) hb (by decide) (by decide), lN_eq (by omega) (by omega), nI_eq (by omega) (by omega)]
set_option maxHeartbeats 1000000 in
theorem fb_861 (kk : (GSt × RI) → Int32 → Int32 → Int32 → Int32 → Int32 → Int32 → Int32 → Int32 → Option GSt) {B : Nat} {T : GSt × RI} (hL : gLift (bI T) = L) (h : LOk k n L) (hx : Ext B L) (hB : B ≤ 90000) {g : Nat} (hg : g < k) (hgg : lGrp L g = true) (x1 x10 x11 x12 : Int32) : ∀ (d j f : Nat), k - j = d → j ≤ k → d < f → (∀ q, q < j → q < g → lTog L g q = false) → ∃ sz b, fL_built_L861 kk f T x1 (nI k) x10 x11 x12 (nI g) (nI (sCt (lTog L g) j)) 1 (nI j) = kk T x1 (nI k) x10 x11 x12 (nI g) sz b ∧ ((b = 1 ∧ sz = nI (sCt (lTog L g) k) ∧ sCt (lTog L g) g = 0) ∨ (b = 0 ∧ ¬ sCt (lTog L g) g = 0))
  | 0, j, f, hd, hj, hf, hq => by
    obtain ⟨f, rfl⟩ : ∃ f', f = f' + 1 := ⟨f - 1, by omega⟩
    obtain rfl : j = k := by omega
    refine ⟨_, 1, ?_, Or.inl ⟨rfl, rfl, sCt_zero.mpr (fun q hq' => hq q (by omega) hq')⟩⟩
    rw [fL_built_L861, if_pos (Int32.le_refl _)]
  | d + 1, j, f, hd, hj, hf, hq => by
    obtain ⟨f, rfl⟩ : ∃ f', f = f' + 1 := ⟨f - 1, by omega⟩
    obtain ⟨S, F⟩ := T
    have hk := h.k12
    have hjk : j < k := by omega
    have q1 : k - (j + 1) = d := by omega
    have q2 : j + 1 ≤ k := by omega
    have q3' : d < f := by omega
    have e5 : fL_grip S (nI j) 5 = some ((lPl L j).toInt64, S) := ag hL h hjk (w := 5) (by decide)
    have e0 : fL_grip S (nI j) 0 = some ((lWe L j).toInt64, S) := ag hL h hjk (w := 0) (by decide)
    have g0 : fL_grip S (nI g) 0 = some ((lWe L g).toInt64, S) := ag hL h hg (w := 0) (by decide)
    have e1 : fL_grip S (nI j) 1 = some ((lCy L j).toInt64, S) := ag hL h hjk (w := 1) (by decide)
    have g1 : fL_grip S (nI g) 1 = some ((lCy L g).toInt64, S) := ag hL h hg (w := 1) (by decide)
    obtain ⟨w, c, p, a1, a2, a3, a4, a5, a6, a7, a8⟩ := hx.2 j (by omega) (h.nabs hjk)
    obtain ⟨w', c', p', b1, b2, b3, b4, b5, b6, b7, b8⟩ := hx.2 g (by omega) (h.nabs hg)
    have t := tog_f h hg hjk hgg
    have like : (((if (lg_cmp ((lPl L j).toInt64) 3) = 0 then some ((S, F), (0 : Int32)) else (fL_grip S (nI j) 0).bind (fun r890 => (fL_grip r890.2 (nI g) 0).bind (fun r897 => (((if (lg_cmp r890.1 r897.1) = 0 then (fL_grip r897.2 (nI j) 1).bind (fun r908 => (fL_grip r908.2 (nI g) 1).bind (fun r919 => (((if (lg_cmp (r908.1 / 10) (r919.1 / 10)) = 0 then some 1 else some 0) : Option Int32)).bind (fun (a935_88 : Int32) => some ((r919.2, F), a935_88)))) else some ((r897.2, F), 0)) : Option ((GSt × RI) × Int32))).bind (fun (a935_89 : (GSt × RI) × Int32) => some (a935_89.1, a935_89.2))))) : Option ((GSt × RI) × Int32))) = some ((S, F), if lTog L g j = true then 1 else 0) := by
      rw [t]
      by_cases q3 : lPl L j = 3
      · refine iS (lq (by rw [q3]; rfl)) ?_
        rw [decide_eq_false (fun z => z q3), Bool.false_and]; rfl
      · refine iN (by rw [lc0]; intro z; exact q3 ((fa_wide_eq _ 3).mp z)) (bS e0 (bS g0 ?_))
        rw [decide_eq_true q3, Bool.true_and]
        by_cases qw : lWe L j = lWe L g
        · refine bS (a := ((S, F), if lCy L j / 10 = lCy L g / 10 then 1 else 0)) (iS (lq (by show (lWe L j).toInt64 = (lWe L g).toInt64; rw [qw])) (bS e1 (bS g1 (bS (a := if lCy L j / 10 = lCy L g / 10 then 1 else 0) ?_ rfl)))) ?_
          · show (if lg_cmp ((lCy L j).toInt64 / 10) ((lCy L g).toInt64 / 10) = 0 then some (1 : Int32) else some 0) = _
            by_cases qc : lCy L j / 10 = lCy L g / 10
            · rw [if_pos (lq (by rw [a5, b5, nI_l (by omega), nI_l (by omega)]; rw [a5, b5] at qc; exact (div10 c c' (by omega) (by omega)).mpr qc)), if_pos qc]
            · rw [if_neg (by rw [lc0, a5, b5, nI_l (by omega), nI_l (by omega)]; rw [a5, b5] at qc; exact fun z => qc ((div10 c c' (by omega) (by omega)).mp z)), if_neg qc]
          · by_cases qc : lCy L j / 10 = lCy L g / 10
            · rw [if_pos qc, decide_eq_true ⟨qw, qc⟩]; rfl
            · rw [if_neg qc, decide_eq_false (fun z => qc z.2)]; rfl
        · refine bS (a := ((S, F), 0)) (iN (by rw [lc0]; intro z; exact qw ((fa_wide_eq _ _).mp z)) rfl) ?_
          rw [decide_eq_false (fun z => qw z.1)]; rfl
    have gj : ¬ nI k ≤ nI j := nI_ge hjk (by omega)
    by_cases ht : lTog L g j = true
    · rw [if_pos ht] at like
      by_cases hjg : j < g
      · obtain ⟨f, rfl⟩ : ∃ f', f = f' + 1 := ⟨f - 1, by omega⟩
        refine ⟨nI (sCt (lTog L g) j) + 1, 0, ?_, Or.inr ⟨rfl, fun z => by have := sCt_zero.mp z j hjg; rw [ht] at this; cases this⟩⟩
        rw [fL_built_L861]
        refine iN gj (iN c10 (bS e5 (bS like (bS (a := 0) (iN c10 (bS (a := 0) (iS (nI_lt hjg (by omega)) rfl) rfl)) (bS (a := 1) (iN c10 rfl) ?_)))))
        show fL_built_L861 kk (f + 1) (S, F) x1 (nI k) x10 x11 x12 (nI g) (nI (sCt (lTog L g) j) + 1) 0 (nI j + 1) = _
        rw [fL_built_L861]
        by_cases z : nI k ≤ nI j + 1
        · rw [if_pos z]
        · rw [if_neg z, if_pos rfl]
      · obtain ⟨sz, b, r1, r2⟩ := fb_861 kk (T := (S, F)) hL h hx hB hg hgg x1 x10 x11 x12 d (j + 1) f q1 q2 q3' (fun q h1 h2 => hq q (by omega) h2)
        refine ⟨sz, b, ?_, r2⟩
        rw [← r1, fL_built_L861, sCt_yes ht, ← nI_1, ← nI_1]
        exact iN gj (iN c10 (bS e5 (bS like (bS (a := 1) (iN c10 (bS (a := 1) (iN (nI_nlt (by omega) (by omega)) rfl) rfl)) (bS (a := 1) (iN c10 rfl) rfl)))))
    · rw [if_neg ht] at like
      have htf : lTog L g j = false := by
        cases hz : lTog L g j with
        | false => rfl
        | true => exact absurd hz ht
      obtain ⟨sz, b, r1, r2⟩ := fb_861 kk (T := (S, F)) hL h hx hB hg hgg x1 x10 x11 x12 d (j + 1) f q1 q2 q3' (fun q h1 h2 => by
        by_cases e : q = j
        · rw [e]; exact htf
        · exact hq q (by omega) h2)
      refine ⟨sz, b, ?_, r2⟩
      rw [← r1, fL_built_L861, sCt_no htf, ← nI_1 j]
      refine iN gj (iN c10 (bS e5 (bS like (bS (a := 1) (iS rfl rfl) (bS (a := 0) (iS rfl rfl) ?_)))))
      show fL_built_L861 kk f (S, F) x1 (nI k) x10 x11 x12 (nI g) (nI (sCt (lTog L g) j) + 0) 1 (nI j + 1) = _
      rw [Int32.add_zero]
theorem fb_823 (kk : (GSt × RI) → Int32 → Int32 → Int32 → Int32 → Option GSt) {B : Nat} {T : GSt × RI} (hL : gLift (bI T) = L) (h : LOk k n L) (hx : Ext B L) (hB : B ≤ 90000) (x1 : Int32) : fL_built_L823 kk 13 T x1 (nI k) 0 0 (-9) 0 = kk T x1 (gSt L k k).1 (gSt L k k).2.1 (gSt L k k).2.2 := by
  obtain ⟨S, F⟩ := T
  have hk := h.k12
  refine run_up (fun f g => fL_built_L823 kk f (S, F) x1 (nI k) (gSt L k g).1 (gSt L k g).2.1 (gSt L k g).2.2 (nI g)) k (fun g f hg => ?_) (fun f => ?_) (by omega)
  · show fL_built_L823 kk (f + 1) (S, F) x1 (nI k) (gSt L k g).1 (gSt L k g).2.1 (gSt L k g).2.2 (nI g) = fL_built_L823 kk f (S, F) x1 (nI k) (gSt L k (g + 1)).1 (gSt L k (g + 1)).2.1 (gSt L k (g + 1)).2.2 (nI (g + 1))
    have e5 : fL_grip S (nI g) 5 = some ((lPl L g).toInt64, S) := ag hL h hg (w := 5) (by decide)
    rw [fL_built_L823]
    refine iN (nI_ge hg (by omega)) (bS e5 ?_)
    by_cases hgg : lGrp L g = true
    · have n3 : ¬ lg_cmp ((lPl L g).toInt64) 3 = 0 := by
        rw [lc0]; intro z; exact (of_decide_eq_true hgg).2 ((fa_wide_eq _ 3).mp z)
      refine bS (a := 1) (iN n3 rfl) ?_
      have E := fun kk2 => fb_861 (k := k) (n := n) kk2 (T := (S, F)) hL h hx hB hg hgg x1 (gSt L k g).1 (gSt L k g).2.1 (gSt L k g).2.2 k 0 13 (by omega) (Nat.zero_le k) (by omega) (fun q hq => absurd hq (Nat.not_lt_zero q))
      obtain ⟨sz, b, r1, r2⟩ := E _
      refine (r1 : _ = _).trans ?_
      rcases r2 with ⟨rfl, rfl, z⟩ | ⟨rfl, z⟩
      · have hc : lGrp L g = true ∧ sCt (lTog L g) g = 0 := ⟨hgg, z⟩
        refine bS (a := 1) (iN c10 rfl) ?_
        by_cases le : nI (sCt (lTog L g) k) ≤ (gSt L k g).2.1
        · refine bS (a := (gSt L k g).2.2) (iN c10 (bS (a := (gSt L k g).2.2) (iS le rfl) rfl)) (bS (a := (gSt L k g).2.1) (iN c10 (bS (a := (gSt L k g).2.1) (iS le rfl) rfl)) ?_)
          rw [gSt, if_pos hc, if_pos le, ← nI_1]
        · refine bS (a := nI g) (iN c10 (bS (a := nI g) (iN le rfl) rfl)) (bS (a := nI (sCt (lTog L g) k)) (iN c10 (bS (a := nI (sCt (lTog L g) k)) (iN le rfl) rfl)) ?_)
          rw [gSt, if_pos hc, if_neg le, ← nI_1]
      · refine bS (a := 0) (iS rfl rfl) (bS (a := (gSt L k g).2.2) (iS rfl rfl) (bS (a := (gSt L k g).2.1) (iS rfl rfl) ?_))
        rw [gSt, if_neg (fun y => z y.2), ← nI_1]
        show fL_built_L823 kk f (S, F) x1 (nI k) ((gSt L k g).1 + 0) _ _ _ = _
        rw [Int32.add_zero]
    · have p3 : lPl L g = 3 := Classical.byContradiction fun z => hgg (decide_eq_true ⟨h.nabs hg, z⟩)
      refine bS (a := 0) (iS (lq (by rw [p3]; rfl)) rfl) ?_
      rw [show (13 : Nat) = 12 + 1 from rfl, fL_built_L861]
      have stop : ∀ {α : Type} (x : α), (if nI k ≤ (0 : Int32) then x else if (0 : Int32) = 0 then x else x) = x := fun x => by split <;> rfl
      have k0 : ¬ nI k ≤ 0 := nI_nle (by omega) (by omega)
      refine iN k0 (iS rfl ?_)
      refine bS (a := 0) (iS rfl rfl) (bS (a := (gSt L k g).2.2) (iS rfl rfl) (bS (a := (gSt L k g).2.1) (iS rfl rfl) ?_))
      rw [gSt, if_neg (fun y => hgg y.1), ← nI_1]
      show fL_built_L823 kk f (S, F) x1 (nI k) ((gSt L k g).1 + 0) _ _ _ = _
      rw [Int32.add_zero]
  · show fL_built_L823 kk (f + 1) (S, F) x1 (nI k) _ _ _ (nI k) = _
    rw [fL_built_L823, if_pos (Int32.le_refl _)]
set_option maxHeartbeats 2000000 in
/-- BUILT -/
theorem built_ok {B : Nat} {G : GSt} (hL : gLift G = L) (h : LOk k n L) (hx : Ext B L) (hB : B ≤ 90000) : ∃ G', fL_built G = some G' ∧ SEq G G' := by
  have hk := h.k12
  have hn := h.n20
  have hn4 := h.n4
  have hl := rS_le h
  have hpos := pos_ge L k
  unfold fL_built
  obtain ⟨T, t1, t2, e⟩ := fb_33 (k := k) (n := n) (L := L) _ hL h hx hB (lN_i n)
  refine bE (an_0 hL h) (bE (agr hL h) (eE e ?_))
  obtain ⟨S, F⟩ := T
  have t1 : SEq G S := t1
  have hLS := t1.lf hL
  refine bE (a := nI (rS L k)) ?_ ?_
  · by_cases k0 : k = 0
    · refine iS (show nI k = 0 by rw [k0]; rfl) ?_
      rw [k0]; rfl
    · refine iN (show ¬ nI k = 0 from nI_ne0 (by omega) (by omega)) ?_
      unfold rS
      rw [if_neg k0, ← nI_pred (pos L k - 1), show pos L k - 1 + 1 = pos L k by omega]
  obtain ⟨S1, r1, s1⟩ := are_end hLS h
  have hL1 := s1.lf hLS
  refine bE r1 (iE (lq rfl) (bE (a := ()) ?_ ?_))
  · show (if F 0 = 0 then (if lg_cmp (lN (fb_sm (gs L n) k)) 0 = 0 then some () else none) else (if lg_cmp (lN (fb_sm (gs L n) k)) (((lN n).toInt32).toInt64) = 0 then some () else none)) = some ()
    have f0 : F 0 = nI (cN L k 0) := t2 0 (by decide)
    have hc := cN_le L k 0
    by_cases hex : ∃ g, g < k ∧ lPl L g = 0
    · have c0 : cN L k 0 ≠ 0 := fun z => by
        obtain ⟨g, g1, g2⟩ := hex
        have := sCt_zero.mp z g g1
        exact of_decide_eq_false this g2
      rw [if_neg (by rw [f0]; exact nI_ne0 (by omega) (by omega)), gap_sum h hex, if_pos (lq (by rw [lN_i, nI_l (by omega)]))]
    · have c0 : cN L k 0 = 0 := sCt_zero.mpr (fun g hg => decide_eq_false (fun z => hex ⟨g, hg, z⟩))
      rw [if_pos (by rw [f0, c0]; rfl), gap_none hex, if_pos (show lg_cmp (lN 0) 0 = 0 from lq rfl)]
  obtain ⟨v, v1, v4, hv⟩ := h.lim.2.2.2.1
  refine bE (arm1 hL1 h) (iE (lq rfl) (bE (arm2 hL1 h v1 v4 hv) (bE (a := (lN v, S1)) (by show fL_about S1 11 = _; rw [an_11 hL1, hv, nI_l (by omega)]) ?_)))
  refine eE (y := _) (by
    show nzl (lN v) _ = _
    unfold nzl
    exact if_neg (by intro z; have := congrArg Int64.toInt z; rw [lN_toInt (by omega), l0T] at this; omega)) (iE (lq ?_) ?_)
  · show lN (n / v) = ((lN n).toInt32).toInt64 / lN v
    rw [lN_i, nI_l (by omega), pk_lDiv (by omega) (by omega) (by omega)]
  refine eE (fb_769 _ (T := (S1, F)) hL1 h t2 _ _) (eE (fb_823 _ (T := (S1, F)) hL1 h hx hB _) ?_)
  obtain ⟨s, hs1, hs2⟩ := h.stn
  refine bE (agr0 hL1 h) (iE (lq rfl) (bE (agr1 hL1 h) (iE (lq rfl) (bE (agr2 hL1 h) (iE (lq rfl) (bE (an_6 hL1) (bE (a := 1) (inY ?_ ?_) (iF c10 ⟨_, rfl, t1.tr s1⟩))))))))
  · show (0 : Int64).toInt ≤ ((lStn L).toInt64).toInt
    rw [hs2, nIT (by omega), l0T]; omega
  · show ((lStn L).toInt64).toInt ≤ (((lN n).toInt32 - 1).toInt64).toInt
    rw [lN_i, hs2, nIT (by omega), show nI n - 1 = nI (n - 1) by rw [← nI_pred (n - 1), show n - 1 + 1 = n by omega], nIT (by omega)]; omega
end BU

/-! PURE LEVEL of the property: a grip's part of the report, checked -/
def fB_tail (kk : (GSt × RI) → Int32 → Int32 → Int64 → Int64 → Int32 → Option GSt) (f : Nat) (x1 x2 x8 x10 p : Int32) (v6 : Int64) (T : (GSt × RI) × Int64 × Int64) : Option GSt := (((if x10 = 0 then some T.1 else (fL_report (bI T.1) (x8 - 1)).bind (fun r482 => (if (lg_cmp r482.1 32) = 0 then some (r482.2, (bF T.1)) else none))) : Option (GSt × RI))).bind (fun (a492_48 : (GSt × RI)) => (fL_report (bI a492_48) x8).bind (fun r495 => (if (lg_cmp r495.1 (((97 + x10)).toInt64)) = 0 then (fL_report r495.2 (x8 + 1)).bind (fun r513 => (fL_char p).bind (fun r520 => (if (lg_cmp r513.1 ((r520).toInt64)) = 0 then (((if p = 0 then some ((r513.2, (bF a492_48)), v6) else (((if p = 2 then (fL_grip r513.2 x10 7).bind (fun r556 => some ((r556.2, (bF a492_48)), r556.1)) else some ((r513.2, (bF a492_48)), (-9))) : Option ((GSt × RI) × Int64))).bind (fun (a565_53 : (GSt × RI) × Int64) => some (a565_53.1, a565_53.2))) : Option ((GSt × RI) × Int64))).bind (fun (a565_54 : (GSt × RI) × Int64) => (((if 0 ≤ (lg_cmp a565_54.2 0) then (((if 0 ≤ (lg_cmp a565_54.2 10) then some 4 else some 3) : Option Int32)).bind (fun (a594_57 : Int32) => some a594_57) else some 2) : Option Int32)).bind (fun (a594_58 : Int32) => (((if (lg_cmp a565_54.2 0) < 0 then some a565_54.1 else (fL_report (bI a565_54.1) ((x8 + a594_58) - 1)).bind (fun r614 => (if (lg_cmp r614.1 (48 + (a565_54.2 - a565_54.2 / 10 * 10))) = 0 then some (r614.2, (bF a565_54.1)) else none))) : Option (GSt × RI))).bind (fun (a631_62 : (GSt × RI)) => (((if (lg_cmp a565_54.2 10) < 0 then some a631_62 else (fL_report (bI a631_62) ((x8 + a594_58) - 2)).bind (fun r645 => (if (lg_cmp r645.1 (48 + (a565_54.2 / 10))) = 0 then some (r645.2, (bF a631_62)) else none))) : Option (GSt × RI))).bind (fun (a662_66 : (GSt × RI)) => (fL_built_L33 kk f a662_66 x1 x2 T.2.1 T.2.2 ((x8 + a594_58) + 1) (x10 + 1)))))) else none))) else none)))
theorem xsG_len (L : LSt) (g : Nat) : (xsG L g).length = (if g = 0 then 0 else 1) + (xsB L g).length := by
  unfold xsG
  by_cases q : g = 0
  · rw [if_pos q, if_pos q, Nat.zero_add]
  · rw [if_neg q, if_neg q, List.length_cons]; omega
theorem xsG_get (L : LSt) (g j : Nat) : (xsG L g).getD ((if g = 0 then 0 else 1) + j) 0 = (xsB L g).getD j 0 := by
  unfold xsG
  by_cases q : g = 0
  · rw [if_pos q, if_pos q, Nat.zero_add]
  · rw [if_neg q, if_neg q, Nat.add_comm]; rfl
theorem are_b {k n g j : Nat} {L : LSt} {S : GSt} (hL : gLift S = L) (h : LOk k n L) (hg : g < k) (hj : j < (xsB L g).length) : ∃ S', fL_report S (nI (pos L g + j)) = some (((xsB L g).getD j 0).toInt64, S') ∧ SEq S S' := by
  have := are_at (t := (if g = 0 then 0 else 1) + j) hL h hg (by rw [xsG_len]; omega)
  rw [xsG_get, show rS L g + ((if g = 0 then 0 else 1) + j) = pos L g + j by rw [← rS_pos L g]; omega] at this
  exact this
theorem are_sp {k n g : Nat} {L : LSt} {S : GSt} (hL : gLift S = L) (h : LOk k n L) (hg : g < k) (h0 : 0 < g) : ∃ S', fL_report S (nI (pos L g) - 1) = some (32, S') ∧ SEq S S' := by
  have hp := pos_ge L g
  have := are_at (t := 0) hL h hg (by rw [xsG_len, if_neg (by omega)]; omega)
  have e : xsG L g = 32 :: xsB L g := if_neg (by omega)
  have e1 : rS L g + 0 = pos L g - 1 := by unfold rS; rw [if_neg (by omega)]; rfl
  rw [e, e1] at this
  rw [show nI (pos L g) - 1 = nI (pos L g - 1) by rw [← nI_pred (pos L g - 1), show pos L g - 1 + 1 = pos L g by omega]]
  exact this
def nbV : Option Nat → Int64
  | none => -9
  | some a => lN a
theorem nbr_lt {k n g : Nat} {L : LSt} (h : LOk k n L) (hg : g < k) : ∀ a, nbr L g = some a → a < 20 := fun a e => by
  have hn := h.n20
  have hk := h.k12
  unfold nbr at e
  by_cases p0 : lPl L g = 0
  · rw [if_pos p0] at e
    have := (h.on (by omega) p0).2.1
    have e : spN L g = a := Option.some.inj e
    omega
  · rw [if_neg p0] at e
    by_cases p2 : lPl L g = 2
    · rw [if_pos p2] at e
      obtain ⟨b, b1, b9, b2⟩ := h.st hg p2
      rw [b2, nI_clamp (by omega)] at e
      have := Option.some.inj e
      omega
    · rw [if_neg p2] at e; cases e
theorem len_r (p m : Nat) (h : 1 ≤ p + m) : nI p + nI m - 1 = nI (p + m - 1) := by
  rw [nI_add, ← nI_pred (p + m - 1), show p + m - 1 + 1 = p + m by omega]
theorem len_r2 (p m : Nat) (h : 2 ≤ p + m) : nI p + nI m - 2 = nI (p + m - 2) := by
  rw [nI_add, show (2 : Int32) = nI 2 from rfl, pk_sub h]
set_option maxHeartbeats 2000000 in
theorem b_tail (kk : (GSt × RI) → Int32 → Int32 → Int64 → Int64 → Int32 → Option GSt) (f : Nat) {k n i : Nat} {L : LSt} {S : GSt} (F : RI) (hL : gLift S = L) (h : LOk k n L) (hi : i < k) (x1 x2 p : Int32) (hp : p = lPl L i) (v6 : Int64) (hv6 : lPl L i = 0 → v6 = (lSp L i).toInt64) (x4 x6 : Int64) : ∃ S', SEq S S' ∧ fB_tail kk f x1 x2 (nI (pos L i)) (nI i) p v6 ((S, F), x4, x6) = fL_built_L33 kk f (S', F) x1 x2 x4 x6 (nI (pos L (i + 1))) (nI (i + 1)) := by
  subst hp
  have hk := h.k12
  have hn := h.n20
  have hlen := xsB_len L i
  have hpos := pos_le L i
  have hpos3 := pos_ge L i
  have ep : pos L (i + 1) = pos L i + (xsB L i).length + 1 := rfl
  obtain ⟨S1, s1, e1⟩ : ∃ S1, SEq S S1 ∧ (if nI i = 0 then some (S, F) else (fL_report S (nI (pos L i) - 1)).bind (fun r482 => (if (lg_cmp r482.1 32) = 0 then some (r482.2, F) else none))) = some (S1, F) := by
    by_cases q : i = 0
    · exact ⟨S, SEq.rf, iS (show nI i = 0 by rw [q]; rfl) rfl⟩
    · obtain ⟨S1, r1, r2⟩ := are_sp hL h hi (by omega)
      exact ⟨S1, r2, iN (show ¬ nI i = 0 from nI_ne0 (by omega) (by omega)) (bS r1 (iS (lq rfl) rfl))⟩
  obtain ⟨S2, r2, s2⟩ := are_b (j := 0) (s1.lf hL) h hi (by omega)
  obtain ⟨S3, r3, s3⟩ := are_b (j := 1) (s2.lf (s1.lf hL)) h hi (by omega)
  have L3 := s3.lf (s2.lf (s1.lf hL))
  have S03 := (s1.tr s2).tr s3
  have g0 : (xsB L i).getD 0 0 = nI (97 + i) := rfl
  have g1 : (xsB L i).getD 1 0 = sgn L i := rfl
  rw [g0] at r2
  rw [g1] at r3
  have hch : fL_char (lPl L i) = some (sgn L i) := by
    unfold sgn
    rcases h.four hi with z | z | z | z <;> rw [z] <;> rfl
  -- the number
  have hnum : (if lPl L i = 0 then some ((S3, F), v6) else (((if lPl L i = 2 then (fL_grip S3 (nI i) 7).bind (fun r556 => some ((r556.2, F), r556.1)) else some ((S3, F), (-9))) : Option ((GSt × RI) × Int64))).bind (fun (a565_53 : (GSt × RI) × Int64) => some (a565_53.1, a565_53.2))) = some ((S3, F), nbV (nbr L i)) := by
    unfold nbr
    by_cases p0 : lPl L i = 0
    · rw [if_pos p0, if_pos p0, hv6 p0]
      have ho := h.on (by omega) p0
      rw [ho.2.2, nI_l (by omega), nI_clamp (by omega)]; rfl
    · rw [if_neg p0, if_neg p0]
      by_cases p2 : lPl L i = 2
      · rw [if_pos p2, if_pos p2]
        have e7 : fL_grip S3 (nI i) 7 = some ((if lPl L i = 2 then lSt L i else -9).toInt64, S3) := ag L3 h hi (w := 7) (by decide)
        rw [if_pos p2] at e7
        obtain ⟨b, b1, b9, b2⟩ := h.st hi p2
        rw [e7, Option.bind_some, Option.bind_some, b2, nI_l (by omega), nI_clamp (by omega)]; rfl
      · rw [if_neg p2, if_neg p2]; rfl
  have hnl := nbr_lt h hi
  rw [Nat.add_zero] at r2
  rw [← nI_1] at r3
  have hB : xsB L i = nI (97 + i) :: sgn L i :: dgs (nbr L i) := rfl
  generalize nbr L i = o at hnum hnl hB
  cases o with
  | none =>
    have hl2 : (xsB L i).length = 2 := by rw [hB]; rfl
    refine ⟨S3, S03, ?_⟩
    unfold fB_tail
    refine bS e1 (bS r2 (iS (lq (by show (nI (97 + i)).toInt64 = ((97 : Int32) + nI i).toInt64; rw [aI97])) (bS r3 (bS hch (iS (lq rfl) (bS hnum ?_))))))
    refine bS (a := 2) (iN (by rw [lcge]; show ¬ (0 : Int64).toInt ≤ (-9 : Int64).toInt; rw [l0T, l9T]; omega) rfl) (bS (a := (S3, F)) (iS (by rw [lcl]; show (-9 : Int64).toInt < (0 : Int64).toInt; rw [l0T, l9T]; omega) rfl) (bS (a := (S3, F)) (iS (by rw [lcl]; show (-9 : Int64).toInt < (10 : Int64).toInt; rw [l9T, show (10 : Int64).toInt = 10 by decide +kernel]; omega) rfl) ?_))
    show fL_built_L33 kk f (S3, F) x1 x2 x4 x6 (nI (pos L i) + 2 + 1) (nI i + 1) = _
    rw [ep, hl2, show (2 : Int32) = nI 2 from rfl, nI_add, nI_1, nI_1]
  | some a =>
    have ha := hnl a rfl
    have va : (lN a).toInt = (a : Int) := lN_toInt (by omega)
    have t10 : (10 : Int64).toInt = 10 := by decide +kernel
    have erem : (48 : Int64) + (lN a - lN a / 10 * 10) = lN (48 + a % 10) := by
      rw [show lN a - lN a / 10 * 10 = lN (a % 10) from pk_lRem (b := 10) (by omega) (by decide) (by decide)]; exact lN_add 48 _
    have ediv : (48 : Int64) + lN a / 10 = lN (48 + a / 10) := by
      rw [show lN a / 10 = lN (a / 10) from pk_lDiv (b := 10) (by omega) (by decide) (by decide)]; exact lN_add 48 _
    by_cases q : a ≤ 9
    · have hB : xsB L i = [nI (97 + i), sgn L i, nI (48 + a % 10)] := by rw [hB, dgs1 q]
      have hl3 : (xsB L i).length = 3 := by rw [hB]; rfl
      obtain ⟨S4, r4, s4⟩ := are_b (j := 2) L3 h hi (by omega)
      rw [show (xsB L i).getD 2 0 = nI (48 + a % 10) by rw [hB]; rfl, show pos L i + 2 = pos L i + 3 - 1 by omega, ← len_r (pos L i) 3 (by omega), nI_l (by omega)] at r4
      refine ⟨S4, S03.tr s4, ?_⟩
      unfold fB_tail
      refine bS e1 (bS r2 (iS (lq (by show (nI (97 + i)).toInt64 = ((97 : Int32) + nI i).toInt64; rw [aI97])) (bS r3 (bS hch (iS (lq rfl) (bS hnum ?_))))))
      refine bS (a := 3) (iS (by rw [lcge]; show (0 : Int64).toInt ≤ (lN a).toInt; rw [l0T, va]; omega) (bS (a := 3) (iN (by rw [lcge]; show ¬ (10 : Int64).toInt ≤ (lN a).toInt; rw [t10, va]; omega) rfl) rfl)) (bS (a := (S4, F)) (iN (by rw [lcl]; show ¬ (lN a).toInt < (0 : Int64).toInt; rw [l0T, va]; omega) (bS r4 (iS (lq erem.symm) rfl))) (bS (a := (S4, F)) (iS (by rw [lcl]; show (lN a).toInt < (10 : Int64).toInt; rw [t10, va]; omega) rfl) ?_))
      show fL_built_L33 kk f (S4, F) x1 x2 x4 x6 (nI (pos L i) + 3 + 1) (nI i + 1) = _
      rw [ep, hl3, show (3 : Int32) = nI 3 from rfl, nI_add, nI_1, nI_1]
    · have hB : xsB L i = [nI (97 + i), sgn L i, nI (48 + a / 10), nI (48 + a % 10)] := by rw [hB, dgs2 q]
      have hl4 : (xsB L i).length = 4 := by rw [hB]; rfl
      obtain ⟨S4, r4, s4⟩ := are_b (j := 3) L3 h hi (by omega)
      obtain ⟨S5, r5, s5⟩ := are_b (j := 2) (s4.lf L3) h hi (by omega)
      rw [show (xsB L i).getD 3 0 = nI (48 + a % 10) by rw [hB]; rfl, show pos L i + 3 = pos L i + 4 - 1 by omega, ← len_r (pos L i) 4 (by omega), nI_l (by omega)] at r4
      rw [show (xsB L i).getD 2 0 = nI (48 + a / 10) by rw [hB]; rfl, show pos L i + 2 = pos L i + 4 - 2 by omega, ← len_r2 (pos L i) 4 (by omega), nI_l (by omega)] at r5
      refine ⟨S5, (S03.tr s4).tr s5, ?_⟩
      unfold fB_tail
      refine bS e1 (bS r2 (iS (lq (by show (nI (97 + i)).toInt64 = ((97 : Int32) + nI i).toInt64; rw [aI97])) (bS r3 (bS hch (iS (lq rfl) (bS hnum ?_))))))
      refine bS (a := 4) (iS (by rw [lcge]; show (0 : Int64).toInt ≤ (lN a).toInt; rw [l0T, va]; omega) (bS (a := 4) (iS (by rw [lcge]; show (10 : Int64).toInt ≤ (lN a).toInt; rw [t10, va]; omega) rfl) rfl)) (bS (a := (S4, F)) (iN (by rw [lcl]; show ¬ (lN a).toInt < (0 : Int64).toInt; rw [l0T, va]; omega) (bS r4 (iS (lq erem.symm) rfl))) (bS (a := (S5, F)) (iN (by rw [lcl]; show ¬ (lN a).toInt < (10 : Int64).toInt; rw [t10, va]; omega) (bS r5 (iS (lq ediv.symm) rfl))) ?_))
      show fL_built_L33 kk f (S5, F) x1 x2 x4 x6 (nI (pos L i) + 4 + 1) (nI i + 1) = _
      rw [ep, hl4, show (4 : Int32) = nI 4 from rfl, nI_add, nI_1, nI_1]

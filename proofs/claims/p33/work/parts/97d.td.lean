/-! PURE LEVEL of the property: TELLS, four: the whole of it -/
theorem Ext_copy {B : Nat} {L : LSt} (h : Ext B L) (X : LSt) : Ext B (lCopy X L) := by
  have cp : ∀ (a b : RI) (i : Nat), i < 12 → va_cpy a b 0 0 12 i = a i := fun a b i hi => cpy_in _ _ hi
  refine ⟨h.1, fun g hg hp => ?_⟩
  have hp : ¬ va_cpy (lPl L) (lPl X) 0 0 12 g = -1 := hp
  rw [cp _ _ g hg] at hp
  show EG B (va_cpy (lWe L) (lWe X) 0 0 12 g) (va_cpy (lCy L) (lCy X) 0 0 12 g) (va_cpy (lWr L) (lWr X) 0 0 12 g) (va_cpy (lPu L) (lPu X) 0 0 12 g) (va_cpy (lSl L) (lSl X) 0 0 12 g)
  rw [cp _ _ g hg, cp _ _ g hg, cp _ _ g hg, cp _ _ g hg, cp _ _ g hg]
  exact h.2 g hg hp
def HX (B : Nat) (G : GSt) : Prop := Ext B (gLift G) ∧ (∀ i, i < 14 → Ext B (gHis G i)) ∧ ∀ i, i < 2 → Ext B (gSav G i)
theorem HX.mono {B B' : Nat} {G : GSt} (h : HX B G) (hB : B ≤ B') : HX B' G := ⟨h.1.mono hB, fun i hi => (h.2.1 i hi).mono hB, fun i hi => (h.2.2 i hi).mono hB⟩
theorem HX.seq {B : Nat} {G G' : GSt} (h : HX B G) (hs : SEq G G') : HX B G' := by
  obtain ⟨s1, -, s3, s4, -⟩ := hs
  unfold HX
  rw [s1, s3, s4]; exact h
theorem garage_cnt {n a k : Nat} {D : LSt} (h : IT n a k D) (hak : a ≤ k) : cN D k 1 = k - a := by
  obtain ⟨-, h2, h3, -⟩ := h
  have z : cN D a 1 = 0 := sCt_zero.mpr (fun i hi => by rw [h2 i hi]; decide)
  have st : ∀ m, a + m ≤ k → cN D (a + m) 1 = m := by
    intro m
    induction m with
    | zero => intro _; exact z
    | succ m ih =>
      intro hm
      have e : cN D (a + m + 1) 1 = cN D (a + m) 1 + 1 := sCt_yes (by rw [h3 (a + m) (by omega) (by omega)]; decide)
      rw [ih (by omega)] at e
      exact e
  have := st (k - a) (by omega)
  rwa [show a + (k - a) = k by omega] at this
theorem mod_inj {b i j n : Nat} (hi : i < n) (hj : j < n) (e : (b + i) % n = (b + j) % n) : i = j := by
  rcases Nat.le_total i j with h | h
  · have h1 : (b + j - (b + i)) % n = 0 := Nat.sub_mod_eq_zero_of_mod_eq e.symm
    rw [show b + j - (b + i) = j - i by omega, Nat.mod_eq_of_lt (by omega)] at h1
    omega
  · have h1 : (b + i - (b + j)) % n = 0 := Nat.sub_mod_eq_zero_of_mod_eq e
    rw [show b + i - (b + j) = i - j by omega, Nat.mod_eq_of_lt (by omega)] at h1
    omega
section TE
variable {G : GSt} {n l0 l1 l2 l3 l4 ln gr x y : Nat} {w v sl F : Nat → Nat}
theorem t_gs (hF : TF F n l0 l1 l2 l3 l4 ln gr w v sl) (hw : ∀ j, w j < 4 ∧ (nI y >>> (nI j &&& 31)) &&& 3 = nI (w j)) (hs : ∀ j, sl j = (y / 2000 + j) % n) (hy : y < 2 ^ 31) (hln : ln ≤ 4) (hn4 : 4 ≤ n) (hn20 : n ≤ 20) (kk : GSt → Int32 → Int32 → Int32 → Int32 → Option GSt) (X1 X6 : Int32) : ∀ (m j f : Nat) (S : GSt), j + m = ln → TXL G S F (10 + 4 * j) → ∃ S', TXL G S' F (10 + 4 * ln) ∧ fL_tells_L143 kk (f + m + 1) S X1 (nI y) (nI n) (nI ln) X6 (nI j) = kk S' X1 (nI n) (nI ln) X6 := by
  intro m
  induction m with
  | zero =>
    intro j f S hj hT
    obtain rfl : j = ln := hj
    exact ⟨S, hT, by rw [fL_tells_L143, if_pos (Int32.le_refl _)]⟩
  | succ m ih =>
    intro j f S hj hT
    obtain ⟨f0, f1, f2, f3⟩ := hF.2.1 j (by omega)
    obtain ⟨w4, hwj⟩ := hw j
    obtain ⟨G1, a1, t1⟩ := tx_add hT (by omega) (c := 103) (by decide) f0
    obtain ⟨G2, a2, t2⟩ := tx_add t1 (by omega) (c := 48 + w j) (by omega) f1
    have hsj : sl j < n := by rw [hs]; exact Nat.mod_lt _ (by omega)
    obtain ⟨G3, a3, t3⟩ := tx_two t2 (by omega) (v := sl j) (by omega) f2 f3
    have e1 : nI y / 2000 = nI (y / 2000) := pk_div (d := 2000) hy (by decide) (by decide)
    have e2 : (nI y / 2000 + nI j) - (nI y / 2000 + nI j) / nI n * nI n = nI (sl j) := by rw [e1, nI_add, pk_rem (by omega) (by omega) (by omega), hs]
    obtain ⟨S', s1, s2⟩ := ih (j + 1) f G3 (by omega) t3
    refine ⟨S', s1, ?_⟩
    show fL_tells_L143 kk (f + m + 1 + 1) S X1 (nI y) (nI n) (nI ln) X6 (nI j) = _
    rw [fL_tells_L143]
    refine iN (show ¬ nI ln ≤ nI j from nI_ge (by omega) (by omega)) (iN (show ¬ nI n ≤ nI j from nI_ge (by omega) (by omega)) (bS (a := (lN (10 + 4 * j + 1), G1)) a1 (iN (tx_pos (10 + 4 * j) (by omega)) (bS (a := (lN (10 + 4 * j + 1 + 1), G2)) (by rw [hwj, n48]; exact a2) (iN (tx_pos (10 + 4 * j + 1) (by omega)) ?_)))))
    show nz (nI n) _ = _
    unfold nz
    rw [if_neg (nI_ne0 (by omega) (by omega)), nI_1, e2]
    exact bS a3 s2
theorem t_hs (hF : TF F n l0 l1 l2 l3 l4 ln gr w v sl) (hv : ∀ j, v j < 4 ∧ (nI x >>> (nI j &&& 31)) &&& 3 = nI (v j)) (hln : ln ≤ 4) (hgr : gr ≤ 4) (kk : GSt → Int32 → Int32 → Int32 → Option GSt) (X3 X5 : Int32) : ∀ (m j f : Nat) (S : GSt), j + m = gr → TXL G S F (10 + 4 * ln + 2 * j) → ∃ S', TXL G S' F (10 + 4 * ln + 2 * gr) ∧ fL_tells_L223 kk (f + m + 1) S (nI x) X3 X5 (nI gr) (nI j) = kk S' X3 X5 (nI gr) := by
  intro m
  induction m with
  | zero =>
    intro j f S hj hT
    obtain rfl : j = gr := hj
    exact ⟨S, hT, by rw [fL_tells_L223, if_pos (Int32.le_refl _)]⟩
  | succ m ih =>
    intro j f S hj hT
    obtain ⟨f0, f1⟩ := hF.2.2 j (by omega)
    obtain ⟨w4, hwj⟩ := hv j
    obtain ⟨G1, a1, t1⟩ := tx_add hT (by omega) (c := 104) (by decide) f0
    obtain ⟨G2, a2, t2⟩ := tx_add t1 (by omega) (c := 48 + v j) (by omega) f1
    obtain ⟨S', s1, s2⟩ := ih (j + 1) f G2 (by omega) t2
    refine ⟨S', s1, ?_⟩
    show fL_tells_L223 kk (f + m + 1 + 1) S (nI x) X3 X5 (nI gr) (nI j) = _
    rw [fL_tells_L223, nI_1]
    exact iN (show ¬ nI gr ≤ nI j from nI_ge (by omega) (by omega)) (bS (a := (lN (10 + 4 * ln + 2 * j + 1), G1)) a1 (iN (tx_pos (10 + 4 * ln + 2 * j) (by omega)) (bS (a := (lN (10 + 4 * ln + 2 * j + 1 + 1), G2)) (by rw [hwj, n48]; exact a2) (iN (tx_pos (10 + 4 * ln + 2 * j + 1) (by omega)) s2))))
def tEnd (S : GSt) (y3 y5 y6 : Int32) : Option GSt := (fX4_errorPosition S).bind (fun r283 => (if r283.1 = (-9) then (fL_load r283.2).bind (fun r292 => (((if y3 ≤ y5 then some y3 else some y5) : Option Int32)).bind (fun (a307_15 : Int32) => (if (lg_cmp r292.1 (((a307_15 + y6)).toInt64)) = 0 then (fL_about r292.2 3).bind (fun r317 => (if (lg_cmp r317.1 ((y6).toInt64)) = 0 then (fL_about r317.2 6).bind (fun r330 => (if (lg_cmp r330.1 0) = 0 then (fX4_random r330.2).bind (fun r339 => (if (lg_cmp r339 0) = 0 then (fL_undo r330.2).bind (fun r348 => (if (lg_cmp r348.1 (-9000000000000000003)) = 0 then some r348.2 else none)) else none)) else none)) else none)) else none))) else none))
theorem load_ok {S : GSt} {D : LSt} {Z : SSt} {k n : Nat} {q : Int32} (h : LOk k n D) (e : fX1_findError (gTxt S) = some (-9, (Z, D, q))) : fL_load S = some (lN k, (lCopy (gLift S) D, gTrial S, (Z, D, q), gSum S, gHis S, gSav S, upd (upd (gSvd S) 0 (vp_nar .boolean 0)) 1 (vp_nar .boolean 0), 0, gNxt S)) := by
  have hk := h.k12
  have hcl : fX4_load_L43 KF (lCopy (gLift S) D, gTrial S, (Z, D, q), gSum S, gHis S, gSav S, gSvd S, 0, gNxt S) 0 = some (0, nI k, (lCopy (gLift S) D, gTrial S, (Z, D, q), gSum S, gHis S, gSav S, upd (upd (gSvd S) 0 (vp_nar .boolean 0)) 1 (vp_nar .boolean 0), 0, gNxt S)) := by
    show fX4_load_L43 (2997 + 1 + 1 + 1) _ (nI 0) = _
    rw [fX4_load_L43, if_neg (show ¬ (2 : Int32) ≤ nI 0 by decide), gd_nI (by decide) (by decide), nI_clamp (by decide), nI_1, fX4_load_L43, if_neg (show ¬ (2 : Int32) ≤ nI (0 + 1) by decide), gd_nI (by decide) (by decide), nI_clamp (by decide), nI_1, fX4_load_L43, if_pos (show (2 : Int32) ≤ nI (0 + 1 + 1) by decide)]
    exact bS (h.copy (gLift S)).grips rfl
  unfold fL_load
  refine bS (a := (0, nI k, (lCopy (gLift S) D, gTrial S, (Z, D, q), gSum S, gHis S, gSav S, upd (upd (gSvd S) 0 (vp_nar .boolean 0)) 1 (vp_nar .boolean 0), 0, gNxt S))) ?_ ?_
  · unfold fX4_load
    exact bS e (iS (show (-9 : Int32) = -9 from rfl) hcl)
  · rw [gm0, nI_l (by omega)]
theorem t_end {S : GSt} (hT : TXL G S F (10 + 4 * ln + 2 * gr)) (hF : TF F n l0 l1 l2 l3 l4 ln gr w v sl) (hn4 : 4 ≤ n) (hn20 : n ≤ 20) (h0 : 1 ≤ l0 ∧ l0 ≤ 12) (h1 : 1 ≤ l1 ∧ l1 ≤ 12) (h2 : 1 ≤ l2 ∧ l2 ≤ 9) (h3 : 1 ≤ l3 ∧ l3 ≤ 4) (h4 : 1 ≤ l4 ∧ l4 ≤ 9) (hw : ∀ j, w j < 4) (hv : ∀ j, v j < 4) (hs : ∀ j, j < ln → sl j < n) (hi : ∀ i j, i < ln → j < ln → i ≠ j → sl i ≠ sl j) (hln : ln ≤ 4) (hgr : gr ≤ 4) :
    ∃ G', tEnd S (nI n) (nI ln) (nI gr) = some G' ∧ ∀ B, HX B G → HX B G' := by
  obtain ⟨t1, t2, t3, t4, t5, t6, t7, t8⟩ := hT
  have hZ : ZF (tSg (gTxt S)) (10 + 4 * ln + 2 * gr) F := ⟨t7, by omega, t8⟩
  have hw3 : ∀ j, j < ln → w j ≤ 3 := fun j _ => by have := hw j; omega
  have hv3 : ∀ j, j < gr → v j ≤ 3 := fun j _ => by have := hv j; omega
  obtain ⟨D1, d1, -⟩ := z_all hZ hF hn4 hn20 h0 h1 h2 h3 h4 hw3 hv3 hs hi hln hgr rfl (tD (gTxt S)) (tAt (gTxt S))
  obtain ⟨D2, d2, hI⟩ := z_all hZ hF hn4 hn20 h0 h1 h2 h3 h4 hw3 hv3 hs hi hln hgr rfl D1 (nI (10 + 4 * ln + 2 * gr))
  obtain ⟨S1, hS1⟩ : ∃ S1 : GSt, S1 = (gLift S, gTrial S, (tSg (gTxt S), D1, nI (10 + 4 * ln + 2 * gr)), gSum S, gHis S, gSav S, gSvd S, gRem S, gNxt S) := ⟨_, rfl⟩
  have e1 : fX4_errorPosition S = some (-9, S1) := by unfold fX4_errorPosition; rw [hS1]; exact bS d1 rfl
  have e2 := load_ok (S := S1) hI.1 (by rw [hS1]; exact d2)
  obtain ⟨S2, hS2⟩ : ∃ S2 : GSt, S2 = (lCopy (gLift S1) D2, gTrial S1, (tSg (gTxt S), D2, nI (10 + 4 * ln + 2 * gr)), gSum S1, gHis S1, gSav S1, upd (upd (gSvd S1) 0 (vp_nar .boolean 0)) 1 (vp_nar .boolean 0), 0, gNxt S1) := ⟨_, rfl⟩
  rw [← hS2] at e2
  have hL2 : gLift S2 = lCopy (gLift S1) D2 := by rw [hS2]
  have hk := hI.1.copy (gLift S1)
  have e3 : fL_about S2 3 = some (lN gr, S2) := by
    have := an_c hL2 hk (w := 1) (by decide)
    rw [NEq_cN (NEq_copy hI.1 (gLift S1)) 1, garage_cnt hI (Nat.le_add_right _ _), Nat.add_sub_cancel_left] at this
    exact this
  have e4 : fL_about S2 6 = some (0, S2) := by
    rw [an_6 hL2]
    show some ((lStn D2).toInt64, S2) = _
    rw [hI.2.2.2.2.1]; rfl
  have e5 : fX4_random S2 = some 0 := by
    unfold fX4_random
    rw [hL2]
    show some (lRnd D2) = _
    rw [hI.2.2.2.2.2.2]
  have e6 : fL_undo S2 = some (-9000000000000000003, S2) := undo_no (by rw [hS2])
  obtain ⟨mn, hm1, hm2⟩ : ∃ mn : Int32, ((if nI n ≤ nI ln then some (nI n) else some (nI ln)) : Option Int32) = some mn ∧ mn = nI ln := by
    by_cases q : nI n ≤ nI ln
    · have := (nI_leI (by omega) (by omega)).mp q
      exact ⟨_, if_pos q, congrArg nI (by omega)⟩
    · exact ⟨_, if_neg q, rfl⟩
  refine ⟨S2, ?_, fun B hB => ?_⟩
  · unfold tEnd
    refine bS (a := (-9, S1)) e1 (iS (show (-9 : Int32) = -9 from rfl) (bS e2 (bS hm1 (iS (lq (by rw [hm2, nI_add, nI_l (by omega)])) (bS e3 (iS (lq (by rw [nI_l (by omega)])) (bS e4 (iS (lq rfl) (bS e5 (iS (lq rfl) (bS e6 (iS (lq rfl) rfl))))))))))))
  · rw [hS2]
    refine ⟨(Ext_copy hI.2.2.2.1 (gLift S1)).mono (Nat.zero_le _), ?_, ?_⟩
    · show ∀ i, i < 14 → Ext B (gHis S1 i)
      rw [hS1]
      show ∀ i, i < 14 → Ext B (gHis S i)
      rw [t2]; exact hB.2.1
    · show ∀ i, i < 2 → Ext B (gSav S1 i)
      rw [hS1]
      show ∀ i, i < 2 → Ext B (gSav S i)
      rw [t3]; exact hB.2.2
set_option maxHeartbeats 1000000 in
/-- TELLS, on one inspector -/
theorem tells_one (hx : x < 2 ^ 31) (hy : y < 2 ^ 31) {len : Nat} (hlen : len ≤ 60) (hl : sLen (tSg (gTxt G)) = nI len) : ∃ G', fL_tells G (nI x) (nI y) = some G' ∧ ∀ B, HX B G → HX B G' := by
  have pw : ∀ j, ∃ a, a < 4 ∧ (nI y >>> (nI j &&& 31)) &&& 3 = nI a := fun j => pk_andE _ (m := 3) 2 (by decide)
  have pv : ∀ j, ∃ a, a < 4 ∧ (nI x >>> (nI j &&& 31)) &&& 3 = nI a := fun j => pk_andE _ (m := 3) 2 (by decide)
  obtain ⟨w, hw⟩ := Classical.axiomOfChoice pw
  obtain ⟨v, hv⟩ := Classical.axiomOfChoice pv
  have e1 : 4 + (nI x - nI x / 17 * 17) = nI (4 + x % 17) := by rw [show nI x - nI x / 17 * 17 = nI (x % 17) from pk_rem (d := 17) hx (by decide) (by decide)]; exact nI_add 4 _
  have e17 : nI x / 17 = nI (x / 17) := pk_div (d := 17) hx (by decide) (by decide)
  have e204 : nI x / 204 = nI (x / 204) := pk_div (d := 204) hx (by decide) (by decide)
  have e2 : 1 + ((nI x / 17) - (nI x / 17) / 12 * 12) = nI (1 + x / 17 % 12) := by rw [e17, show nI (x / 17) - nI (x / 17) / 12 * 12 = nI (x / 17 % 12) from pk_rem (d := 12) (by omega) (by decide) (by decide)]; exact nI_add 1 _
  have e3 : 1 + ((nI x / 204) - (nI x / 204) / 12 * 12) = nI (1 + x / 204 % 12) := by rw [e204, show nI (x / 204) - nI (x / 204) / 12 * 12 = nI (x / 204 % 12) from pk_rem (d := 12) (by omega) (by decide) (by decide)]; exact nI_add 1 _
  have e4 : 49 + (nI y - nI y / 5 * 5) = nI (48 + (1 + y % 5)) := by rw [show nI y - nI y / 5 * 5 = nI (y % 5) from pk_rem (d := 5) hy (by decide) (by decide)]; exact (nI_add 49 _).trans (congrArg nI (by omega))
  have d5 : nI y / 5 = nI (y / 5) := pk_div (d := 5) hy (by decide) (by decide)
  have d20 : nI y / 20 = nI (y / 20) := pk_div (d := 20) hy (by decide) (by decide)
  have d80 : nI y / 80 = nI (y / 80) := pk_div (d := 80) hy (by decide) (by decide)
  have d400 : nI y / 400 = nI (y / 400) := pk_div (d := 400) hy (by decide) (by decide)
  have e5 : 49 + ((nI y / 5) - (nI y / 5) / 4 * 4) = nI (48 + (1 + y / 5 % 4)) := by rw [d5, show nI (y / 5) - nI (y / 5) / 4 * 4 = nI (y / 5 % 4) from pk_rem (d := 4) (by omega) (by decide) (by decide)]; exact (nI_add 49 _).trans (congrArg nI (by omega))
  have e6 : 49 + ((nI y / 20) - (nI y / 20) / 4 * 4) = nI (48 + (1 + y / 20 % 4)) := by rw [d20, show nI (y / 20) - nI (y / 20) / 4 * 4 = nI (y / 20 % 4) from pk_rem (d := 4) (by omega) (by decide) (by decide)]; exact (nI_add 49 _).trans (congrArg nI (by omega))
  have e7 : (nI y / 80) - (nI y / 80) / 5 * 5 = nI (y / 80 % 5) := by rw [d80]; exact pk_rem (d := 5) (by omega) (by decide) (by decide)
  have e8 : (nI y / 400) - (nI y / 400) / 5 * 5 = nI (y / 400 % 5) := by rw [d400]; exact pk_rem (d := 5) (by omega) (by decide) (by decide)
  have hn := Nat.mod_lt x (show 0 < 17 by decide)
  have hm1 := Nat.mod_lt (x / 17) (show 0 < 12 by decide)
  have hm2 := Nat.mod_lt (x / 204) (show 0 < 12 by decide)
  have hm3 := Nat.mod_lt y (show 0 < 5 by decide)
  have hm4 := Nat.mod_lt (y / 5) (show 0 < 4 by decide)
  have hm5 := Nat.mod_lt (y / 20) (show 0 < 4 by decide)
  have hm6 := Nat.mod_lt (y / 80) (show 0 < 5 by decide)
  have hm7 := Nat.mod_lt (y / 400) (show 0 < 5 by decide)
  unfold fL_tells
  rw [e1, e2, e3, e4, e5, e6, e7, e8]
  generalize x % 17 = xn at hn ⊢
  generalize x / 17 % 12 = x0 at hm1 ⊢
  generalize x / 204 % 12 = x1 at hm2 ⊢
  generalize y % 5 = y2 at hm3 ⊢
  generalize y / 5 % 4 = y3 at hm4 ⊢
  generalize y / 20 % 4 = y4 at hm5 ⊢
  generalize y / 80 % 5 = ln at hm6 ⊢
  generalize y / 400 % 5 = gr at hm7 ⊢
  obtain ⟨F, hF⟩ := TF_ex (4 + xn) (1 + x0) (1 + x1) (1 + y2) (1 + y3) (1 + y4) ln gr w v (fun j => (y / 2000 + j) % (4 + xn))
  obtain ⟨⟨f0, f1, f2, f3, f4, f5, f6, f7, f8, f9⟩, -, -⟩ := id hF
  obtain ⟨G0, hG0⟩ : ∃ G0 : GSt, G0 = (gLift G, gTrial G, ((sRow (tSg (gTxt G)), (0 : Int32)), tD (gTxt G), tAt (gTxt G)), gSum G, gHis G, gSav G, gSvd G, gRem G, gNxt G) := ⟨_, rfl⟩
  have c0 : fX4_clearText G = some (nI len, G0) := by rw [hG0, ← hl]; rfl
  have t0 : TXL G G0 F 0 := by rw [hG0]; exact ⟨rfl, rfl, rfl, rfl, rfl, rfl, rfl, fun i hi => absurd hi (Nat.not_lt_zero i)⟩
  obtain ⟨G1, a1, t1⟩ := tx_add t0 (by decide) (c := 76) (by decide) f0
  obtain ⟨G2, a2, t2⟩ := tx_two t1 (by decide) (v := 4 + xn) (by omega) f1 f2
  obtain ⟨G3, a3, t3⟩ := tx_two t2 (by decide) (v := 1 + x0) (by omega) f3 f4
  obtain ⟨G4, a4, t4⟩ := tx_two t3 (by decide) (v := 1 + x1) (by omega) f5 f6
  obtain ⟨G5, a5, t5⟩ := tx_add t4 (by decide) (c := 48 + (1 + y2)) (by omega) f7
  obtain ⟨G6, a6, t6⟩ := tx_add t5 (by decide) (c := 48 + (1 + y3)) (by omega) f8
  obtain ⟨G7, a7, t7⟩ := tx_add t6 (by decide) (c := 48 + (1 + y4)) (by omega) f9
  obtain ⟨G8, t8, a8⟩ := t_gs hF hw (fun j => rfl) hy (by omega) (by omega) (by omega) (fun (S : GSt) (y1 : Int32) (y3 : Int32) (y5 : Int32) (y6 : Int32) => (fL_tells_L223 (fun (S : GSt) (y3 : Int32) (y5 : Int32) (y6 : Int32) => tEnd S y3 y5 y6) 5 S y1 y3 y5 y6 0)) (nI x) (nI gr) ln 0 (4 - ln) G7 (Nat.zero_add _) t7
  obtain ⟨G9, t9, a9⟩ := t_hs (x := x) hF hv (by omega) (by omega) (fun (S : GSt) (y3 : Int32) (y5 : Int32) (y6 : Int32) => tEnd S y3 y5 y6) (nI (4 + xn)) (nI ln) gr 0 (4 - gr) G8 (Nat.zero_add _) t8
  have q1 : 4 - ln + ln + 1 = 5 := by omega
  have q2 : 4 - gr + gr + 1 = 5 := by omega
  rw [q1] at a8
  rw [q2] at a9
  obtain ⟨G', g1, g2⟩ := t_end t9 hF (by omega) (by omega) ⟨by omega, by omega⟩ ⟨by omega, by omega⟩ ⟨by omega, by omega⟩ ⟨by omega, by omega⟩ ⟨by omega, by omega⟩ (fun j => (hw j).1) (fun j => (hv j).1) (fun j _ => Nat.mod_lt _ (by omega)) (fun i j hi hj hne e => by
    have e : (y / 2000 + i) % (4 + xn) = (y / 2000 + j) % (4 + xn) := e
    exact hne (mod_inj (by omega) (by omega) e)) (by omega) (by omega)
  refine ⟨G', ?_, g2⟩
  exact bS (a := (nI len, G0)) c0 (iN (nI_pos (by omega)) (bS (a := (lN (0 + 1), G1)) a1 (iS (lq (show lN (0 + 1) = 1 by decide +kernel)) (bS a2 (bS a3 (bS a4 (bS (a := (lN (7 + 1), G5)) a5 (iN (tx_pos 7 (by decide)) (bS (a := (lN (8 + 1), G6)) a6 (iN (tx_pos 8 (by decide)) (bS (a := (lN (9 + 1), G7)) a7 (iN (tx_pos 9 (by decide)) (a8.trans (a9.trans g1))))))))))))))
end TE

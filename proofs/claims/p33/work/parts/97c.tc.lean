/-! PURE LEVEL of the property: TELLS, three: the items -/
theorem LOk_hangD {k n g a : Nat} {L : LSt} (h : LOk k n L) (hg : g < k) (ha : a < n) (hd : ∀ i, i < k → i ≠ g → lPl L i = 0 → lSp L i ≠ nI a) : LOk k n (wHang L g (nI a)) := h.elim fun r q => ⟨_, RRel_hangD q hg ha hd⟩
theorem EG_new {w : Nat} (hw : w ≤ 3) : EG 0 (nI w) 0 0 0 (-9) := ⟨w, 0, 0, hw, Nat.le_refl 0, Nat.le_refl 0, rfl, rfl, by rw [Nat.zero_mul]; rfl, rfl, Or.inl ⟨rfl, rfl⟩⟩
theorem Ext_add {B k w : Nat} {L : LSt} (hx : Ext B L) (hw : w ≤ 3) : Ext B (addL L k (nI w)) := by
  refine ⟨hx.1, fun g hg hp => ?_⟩
  by_cases e : g = k
  · subst e
    show EG B (upd (lWe L) g (nI w) g) (upd (lCy L) g 0 g) (upd (lWr L) g 0 g) (upd (lPu L) g 0 g) (upd (lSl L) g (-9) g)
    rw [upd_at, upd_at, upd_at, upd_at, upd_at]
    exact (EG_new hw).mono (Nat.zero_le _)
  · have hp : ¬ upd (lPl L) k 1 g = -1 := hp
    rw [upd_ne e] at hp
    show EG B (upd (lWe L) k (nI w) g) (upd (lCy L) k 0 g) (upd (lWr L) k 0 g) (upd (lPu L) k 0 g) (upd (lSl L) k (-9) g)
    rw [upd_ne e, upd_ne e, upd_ne e, upd_ne e, upd_ne e]
    exact hx.2 g hg hp
theorem Ext_hang {B g : Nat} {L : LSt} (hx : Ext B L) (hp : ¬ lPl L g = -1) (i : Int32) : Ext B (wHang L g i) := by
  refine ⟨hx.1, fun j hj hq => ?_⟩
  by_cases e : j = g
  · subst e; exact hx.2 j hj hp
  · have hq : ¬ upd (lPl L) g 0 j = -1 := hq
    rw [upd_ne e] at hq
    exact hx.2 j hj hq
section TD
variable {Z : SSt} {len n l0 l1 l2 l3 l4 ln gr : Nat} {w v sl F : Nat → Nat}
theorem IT_g {k a b : Nat} {D : LSt} (h : IT n k k D) (hk : k < 12) (ha : a < n) (hw : b ≤ 3) (hf : ∀ i, i < k → ¬ (lPl D i = 0 ∧ lSp D i = nI a)) : IT n (k + 1) (k + 1) (wHang (addL D k (nI b)) k (nI a)) ∧ (∀ i, i < k → lSp (wHang (addL D k (nI b)) k (nI a)) i = lSp D i) ∧ lSp (wHang (addL D k (nI b)) k (nI a)) k = nI a := by
  obtain ⟨h1, h2, h3, h4, h5, h6, h7⟩ := h
  refine ⟨⟨LOk_hangD (LOk_add h1 hk (nI b)) (by omega) ha (fun i hi hne hp e => ?_), fun i hi => ?_, fun i i1 i2 => by omega, Ext_hang (Ext_add h4 hw) (by show ¬ upd (lPl D) k 1 k = -1; rw [upd_at]; decide) _, h5, h6, h7⟩, fun i hi => upd_ne (by omega), upd_at⟩
  · have hp : upd (lPl D) k 1 i = 0 := hp
    rw [upd_ne hne] at hp
    exact hf i (by omega) ⟨hp, e⟩
  · show upd (upd (lPl D) k 1) k 0 i = 0
    by_cases e : i = k
    · subst e; exact upd_at
    · rw [upd_ne e, upd_ne e]; exact h2 i (by omega)
theorem IT_h {a k b : Nat} {D : LSt} (h : IT n a k D) (hak : a ≤ k) (hk : k < 12) (hw : b ≤ 3) : IT n a (k + 1) (addL D k (nI b)) := by
  obtain ⟨h1, h2, h3, h4, h5, h6, h7⟩ := h
  refine ⟨LOk_add h1 hk (nI b), fun i hi => ?_, fun i i1 i2 => ?_, Ext_add h4 hw, h5, h6, h7⟩
  · show upd (lPl D) k 1 i = 0
    rw [upd_ne (by omega)]; exact h2 i hi
  · show upd (lPl D) k 1 i = 1
    by_cases e : i = k
    · subst e; exact upd_at
    · rw [upd_ne e]; exact h3 i i1 (by omega)
theorem L19_step {f : Nat} {D D' : LSt} {p p' j : Nat} (h : ZF Z len F) (hp : p < len) (hj : j ≤ 12) (e : fX1_readItem (Z, D, nI p) = some (1, (Z, D', nI p'))) : fX1_findError_L19 (f + 1) (Z, D, nI p) 1 (nI j) = fX1_findError_L19 f (Z, D', nI p') 1 (nI (j + 1)) := by
  have hl := h.2.1
  rw [fX1_findError_L19, nI_1]
  exact iN (show ¬ (1 : Int32) = 0 by decide) (iN (show ¬ sLen Z ≤ nI p by rw [h.1]; exact nI_ge hp (by omega)) (iN (show ¬ (12 : Int32) < nI j from nI_nlt (a := 12) hj (by decide)) (bS (a := (1, (Z, D', nI p'))) e rfl)))
theorem z_gs (h : ZF Z len F) (hF : TF F n l0 l1 l2 l3 l4 ln gr w v sl) (hw : ∀ j, j < ln → w j ≤ 3) (hs : ∀ j, j < ln → sl j < n) (hi : ∀ i j, i < ln → j < ln → i ≠ j → sl i ≠ sl j) (h4 : ln ≤ 4) (hn4 : 4 ≤ n) (hlen : 10 + 4 * ln ≤ len) : ∀ (m j f : Nat) (D : LSt), j + m = ln → IT n j j D → (∀ i, i < j → lSp D i = nI (sl i)) → ∃ D', fX1_findError_L19 (f + m) (Z, D, nI (10 + 4 * j)) 1 (nI j) = fX1_findError_L19 f (Z, D', nI (10 + 4 * ln)) 1 (nI ln) ∧ IT n ln ln D' := by
  intro m
  induction m with
  | zero =>
    intro j f D hj hI _
    obtain rfl : j = ln := hj
    exact ⟨D, rfl, hI⟩
  | succ m ih =>
    intro j f D hj hI hsp
    obtain ⟨f0, f1, f2, f3⟩ := hF.2.1 j (by omega)
    have hn20 := hI.1.n20
    have sle : ∀ i, i < ln → sl i < 2 ^ 31 := fun i q => by have := hs i q; omega
    have hfr : ∀ i, i < j → ¬ (lPl D i = 0 ∧ lSp D i = nI (sl j)) := fun i q z => by
      have e := z.2
      rw [hsp i q] at e
      exact hi i j (by omega) (by omega) (by omega) ((nI_eq (sle i (by omega)) (sle j (by omega))).mp e)
    have hc : cN D j 0 < n := Nat.lt_of_le_of_lt (cN_le D j 0) (by omega)
    have st := z_g h hI.1 (show j < 12 by omega) hc (hs j (by omega)) hfr (by omega) (hw j (by omega)) f0 f1 f2 f3
    obtain ⟨hI', s1, s2⟩ := IT_g hI (show j < 12 by omega) (hs j (by omega)) (hw j (by omega)) hfr
    obtain ⟨D', d1, d2⟩ := ih (j + 1) f _ (by omega) hI' (fun i q => by
      by_cases e : i = j
      · subst e; exact s2
      · exact (s1 i (by omega)).trans (hsp i (by omega)))
    exact ⟨D', (L19_step (f := f + m) h (by omega) (by omega) st).trans d1, d2⟩
theorem z_hs (h : ZF Z len F) (hF : TF F n l0 l1 l2 l3 l4 ln gr w v sl) (hv : ∀ j, j < gr → v j ≤ 3) (h4 : ln ≤ 4) (g4 : gr ≤ 4) (hlen : len = 10 + 4 * ln + 2 * gr) : ∀ (m j f : Nat) (D : LSt), j + m = gr → IT n ln (ln + j) D → ∃ D', fX1_findError_L19 (f + m) (Z, D, nI (10 + 4 * ln + 2 * j)) 1 (nI (ln + j)) = fX1_findError_L19 f (Z, D', nI len) 1 (nI (ln + gr)) ∧ IT n ln (ln + gr) D' := by
  intro m
  induction m with
  | zero =>
    intro j f D hj hI
    obtain rfl : j = gr := hj
    exact ⟨D, by rw [hlen]; rfl, hI⟩
  | succ m ih =>
    intro j f D hj hI
    obtain ⟨f0, f1⟩ := hF.2.2 j (by omega)
    have st := z_h h hI.1 (show ln + j < 12 by omega) (by omega) (hv j (by omega)) f0 f1
    obtain ⟨D', d1, d2⟩ := ih (j + 1) f _ (by omega) (IT_h (k := ln + j) hI (Nat.le_add_right _ _) (show ln + j < 12 by omega) (hv j (by omega)))
    exact ⟨D', (L19_step (f := f + m) h (by omega) (by omega) st).trans d1, d2⟩
/-- the whole reading -/
theorem z_all (h : ZF Z len F) (hF : TF F n l0 l1 l2 l3 l4 ln gr w v sl) (hn4 : 4 ≤ n) (hn20 : n ≤ 20) (h0 : 1 ≤ l0 ∧ l0 ≤ 12) (h1 : 1 ≤ l1 ∧ l1 ≤ 12) (h2 : 1 ≤ l2 ∧ l2 ≤ 9) (h3 : 1 ≤ l3 ∧ l3 ≤ 4) (h4 : 1 ≤ l4 ∧ l4 ≤ 9) (hw : ∀ j, j < ln → w j ≤ 3) (hv : ∀ j, j < gr → v j ≤ 3) (hs : ∀ j, j < ln → sl j < n) (hi : ∀ i j, i < ln → j < ln → i ≠ j → sl i ≠ sl j) (hln : ln ≤ 4) (hgr : gr ≤ 4) (hlen : len = 10 + 4 * ln + 2 * gr) (D : LSt) (q : Int32) :
    ∃ D', fX1_findError (Z, D, q) = some (-9, (Z, D', nI len)) ∧ IT n ln (ln + gr) D' := by
  obtain ⟨D0, a1, a2⟩ := z_head h hF (by omega) hn4 hn20 h0 h1 h2 h3 h4 D q
  obtain ⟨D1, b1, b2⟩ := z_gs h hF hw hs hi hln hn4 (by omega) ln 0 (3000 - ln) D0 (Nat.zero_add _) a2 (fun i hi => absurd hi (Nat.not_lt_zero i))
  obtain ⟨D2, c1, c2⟩ := z_hs h hF hv hln hgr hlen gr 0 (2999 - ln - gr + 1) D1 (Nat.zero_add _) b2
  have e1 : 3000 - ln + ln = KF := by show _ = 3000; omega
  have e2 : 2999 - ln - gr + 1 + gr = 3000 - ln := by omega
  rw [e1] at b1
  rw [e2] at c1
  refine ⟨D2, a1.trans (b1.trans (c1.trans ?_)), c2⟩
  rw [fX1_findError_L19]
  exact iN (show ¬ (1 : Int32) = 0 by decide) (iS (show sLen Z ≤ nI len by rw [h.1]; exact Int32.le_refl _) rfl)
end TD

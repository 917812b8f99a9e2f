/-! PURE LEVEL of the property: TELLS, two: the reading of what was told -/
section TC
variable {Z : SSt} {len p k n : Nat} {F : Nat → Nat} {D : LSt}
theorem z_free (hk : LOk k n D) {a : Nat} (ha : a < n) (hf : ∀ i, i < k → ¬ (lPl D i = 0 ∧ lSp D i = nI a)) : frP D n (nI a) = true := by
  have hn := hk.n20
  obtain ⟨M, hM, -⟩ := hk.m 2
  have e1 : nI n - 1 = nI (n - 1) := by rw [show (1 : Int32) = nI 1 from rfl, pk_sub (by omega)]
  have e2 : fX0_gripAt D (nI a) = some (-9) := by
    rcases rc_gripAt hM (nI a) with ⟨g1, -, -⟩ | ⟨g0, k0, q1, q2, -, -⟩
    · exact g1
    · exact absurd ⟨q1, q2⟩ (hf g0 k0)
  unfold frP
  rw [e1, e2, decide_eq_true (show 0 ≤ nI a ∧ nI a ≤ nI (n - 1) from ⟨nI_pos' (by omega), nI_le (by omega) (by omega)⟩), decide_eq_true rfl]
  rfl
theorem z_g (h : ZF Z len F) (hk : LOk k n D) (hk12 : k < 12) (hc : cN D k 0 < n) {a w : Nat} (ha : a < n) (hf : ∀ i, i < k → ¬ (lPl D i = 0 ∧ lSp D i = nI a)) (hp : p + 3 < len) (hw : w ≤ 3) (f0 : F p = 103) (f1 : F (p + 1) = 48 + w) (f2 : F (p + 2) = 48 + a / 10) (f3 : F (p + 3) = 48 + a % 10) :
    fX1_readItem (Z, D, nI p) = some (1, (Z, wHang (addL D k (nI w)) k (nI a), nI (p + 4))) := by
  have hl := h.2.1
  have hn := hk.n20
  obtain ⟨M, hM, -⟩ := hk.m 2
  have e1 : fX3_at Z (nI p) = some 103 := by rw [c_at h.1 h.2.1 (by omega), h.ch1 (by omega), f0]; rfl
  have e2 : fX0_grips D = some (nI k) := hk.grips
  have e3 : fX0_count D 0 = some (nI (cN D k 0)) := hk.count (by decide)
  have e4 : fX1_readDigit (Z, D, nI p + 1) 0 3 = some (nI w, (Z, D, nI (p + 1 + 1))) := by rw [nI_1]; exact z_digit (p := p + 1) h (by omega) (lo := 0) (hi := 3) f1 (Nat.zero_le _) hw (by decide)
  have e5 : fX1_readPair (Z, D, nI (p + 1 + 1)) 0 (lN_ D - 1) 1 = some (nI a, (Z, D, nI (p + 2 + 2))) := by rw [hk.hn]; exact z_pair (p := p + 2) h (by omega) (by omega) f2 f3 (fun q y => c_allow1 hM Z q y) (z_free hk ha hf)
  have e6 : fX0_add D (nI w) = some (addL D k (nI w)) := c_add hk12 e2 _
  have e7 : fX0_hang (addL D k (nI w)) (nI k) (nI a) = some (wHang (addL D k (nI w)) k (nI a)) := by unfold fX0_hang; rw [gd_nI (by omega) (by decide), nI_clamp (by omega)]; rfl
  unfold fX1_readItem
  exact bS (a := 103) e1 (iS (show (103 : Int32) = 103 from rfl) (bS (a := nI k) e2 (iN (show ¬ (12 : Int32) ≤ nI k from nI_ge (b := 12) (by omega) (by decide)) (bS (a := nI (cN D k 0)) e3 (iS (show nI (cN D k 0) < lN_ D by rw [hk.hn]; exact nI_lt hc (by omega)) (bS (a := (nI w, (Z, D, nI (p + 1 + 1)))) e4 (iN (show ¬ nI w = -1 from m1n (by omega)) (bS (a := (nI a, (Z, D, nI (p + 2 + 2)))) e5 (iN (show ¬ nI a = -1 from m1n (by omega)) (bS e6 (bS e7 rfl)))))))))))
theorem z_h (h : ZF Z len F) (hk : LOk k n D) (hk12 : k < 12) {w : Nat} (hp : p + 1 < len) (hw : w ≤ 3) (f0 : F p = 104) (f1 : F (p + 1) = 48 + w) :
    fX1_readItem (Z, D, nI p) = some (1, (Z, addL D k (nI w), nI (p + 2))) := by
  have hl := h.2.1
  have e1 : fX3_at Z (nI p) = some 104 := by rw [c_at h.1 h.2.1 (by omega), h.ch1 (by omega), f0]; rfl
  have e2 : fX0_grips D = some (nI k) := hk.grips
  have e4 : fX1_readDigit (Z, D, nI p + 1) 0 3 = some (nI w, (Z, D, nI (p + 1 + 1))) := by rw [nI_1]; exact z_digit (p := p + 1) h (by omega) (lo := 0) (hi := 3) f1 (Nat.zero_le _) hw (by decide)
  have e6 : fX0_add D (nI w) = some (addL D k (nI w)) := c_add hk12 e2 _
  unfold fX1_readItem
  exact bS (a := 104) e1 (iN (show ¬ (104 : Int32) = 103 by decide) (bS (a := nI k) e2 (iN (show ¬ (12 : Int32) ≤ nI k from nI_ge (b := 12) (by omega) (by decide)) (iS (show (104 : Int32) = 104 from rfl) (bS (a := (nI w, (Z, D, nI (p + 1 + 1)))) e4 (iN (show ¬ nI w = -1 from m1n (by omega)) (bS e6 rfl)))))))
def wLi (D : LSt) (x : Nat) (v : Int32) : LSt := (lWe D, lCy D, lWr D, lPu D, lSl D, lPl D, lSp D, lSt D, upd (lLi D) x v, lN_ D, lStn D, lClk D, lRnd D)
theorem z_lp (h : ZF Z len F) {x v mx : Nat} (hx : x < 5) (hm : gGL x = nI mx) (h9 : 9 < mx) (hm9 : mx < 100) (h1 : 1 ≤ v) (h2 : v ≤ mx) (hp : p + 1 < len) (f1 : F p = 48 + v / 10) (f2 : F (p + 1) = 48 + v % 10) (f : Nat) : fX1_readHead_L54 (f + 1) (Z, D, nI p) (nI x) = fX1_readHead_L54 f (Z, wLi D x (nI v), nI (p + 2)) (nI (x + 1)) := by
  have e5 : fX1_readPair (Z, D, nI p) 1 (gGL x) 0 = some (nI v, (Z, D, nI (p + 2))) := by rw [hm]; exact z_pair h hp (by omega) f1 f2 (fun q y => c_allow0 (Z, D, q) 1 mx y) (inP_y h1 h2 hm9)
  rw [fX1_readHead_L54, if_neg (show ¬ (5 : Int32) ≤ nI x from nI_ge (b := 5) hx (by decide)), gd_nI hx (by decide), nI_clamp (by omega), nI_1]
  exact iN (show ¬ gGL x ≤ 9 by rw [hm]; exact nI_ge (a := 9) h9 (by omega)) (bS (a := (nI v, (Z, D, nI (p + 2)))) e5 (iN (show ¬ nI v = -1 from m1n (by omega)) rfl))
theorem z_ld (h : ZF Z len F) {x v mx : Nat} (hx : x < 5) (hm : gGL x = nI mx) (h9 : mx ≤ 9) (h1 : 1 ≤ v) (h2 : v ≤ mx) (hp : p < len) (f1 : F p = 48 + v) (f : Nat) : fX1_readHead_L54 (f + 1) (Z, D, nI p) (nI x) = fX1_readHead_L54 f (Z, wLi D x (nI v), nI (p + 1)) (nI (x + 1)) := by
  have e5 : fX1_readDigit (Z, D, nI p) 1 (gGL x) = some (nI v, (Z, D, nI (p + 1))) := by rw [hm]; exact z_digit h hp f1 h1 h2 (by omega)
  rw [fX1_readHead_L54, if_neg (show ¬ (5 : Int32) ≤ nI x from nI_ge (b := 5) hx (by decide)), gd_nI hx (by decide), nI_clamp (by omega), nI_1]
  exact iS (show gGL x ≤ 9 by rw [hm]; exact nI_le (b := 9) h9 (by decide)) (bS (a := (nI v, (Z, D, nI (p + 1)))) e5 (iN (show ¬ nI v = -1 from m1n (by omega)) rfl))
end TC
def IT (n a k : Nat) (D : LSt) : Prop := LOk k n D ∧ (∀ i, i < a → lPl D i = 0) ∧ (∀ i, a ≤ i → i < k → lPl D i = 1) ∧ Ext 0 D ∧ lStn D = 0 ∧ lClk D = 0 ∧ lRnd D = 0
theorem z_head {Z : SSt} {len n l0 l1 l2 l3 l4 ln gr : Nat} {w v sl F : Nat → Nat} (h : ZF Z len F) (hF : TF F n l0 l1 l2 l3 l4 ln gr w v sl) (hlen : 10 ≤ len) (hn4 : 4 ≤ n) (hn20 : n ≤ 20) (h0 : 1 ≤ l0 ∧ l0 ≤ 12) (h1 : 1 ≤ l1 ∧ l1 ≤ 12) (h2 : 1 ≤ l2 ∧ l2 ≤ 9) (h3 : 1 ≤ l3 ∧ l3 ≤ 4) (h4 : 1 ≤ l4 ∧ l4 ≤ 9) (D : LSt) (q : Int32) :
    ∃ D0, fX1_findError (Z, D, q) = fX1_findError_L19 KF (Z, D0, nI 10) 1 (nI 0) ∧ IT n 0 0 D0 := by
  obtain ⟨⟨f0, f1, f2, f3, f4, f5, f6, f7, f8, f9⟩, -, -⟩ := hF
  obtain ⟨C, hC⟩ : ∃ C : LSt, C = (lWe D, lCy D, lWr D, lPu D, lSl D, clP D 12, lSp D, lSt D, lLi D, lN_ D, (0 : Int32), (0 : Int32), (0 : Int64)) := ⟨_, rfl⟩
  have c1 : ∀ g, g < 12 → lPl C g = -1 := by rw [hC]; exact clP_1 D 12
  have c2 : lStn C = 0 ∧ lClk C = 0 ∧ lRnd C = 0 := by rw [hC]; exact ⟨rfl, rfl, rfl⟩
  have ec : fX0_clear D = some C := by rw [c_clear, hC]
  obtain ⟨C1, hC1⟩ : ∃ C1 : LSt, C1 = (lWe C, lCy C, lWr C, lPu C, lSl C, lPl C, lSp C, lSt C, lLi C, nI n, lStn C, lClk C, lRnd C) := ⟨_, rfl⟩
  have hI0 : HInv 0 n C1 (fun _ => 0) := by rw [hC1]; exact ⟨⟨rfl, hn4, hn20⟩, c2, c1, ⟨rfl, rfl, rfl, rfl, rfl⟩, fun i hi => absurd hi (Nat.not_lt_zero i)⟩
  have hI1 := HInv_step hI0 (by decide) (v := nI l0) ⟨l0, h0.1, by show l0 ≤ 99; omega, rfl⟩
  have hI2 := HInv_step hI1 (by decide) (v := nI l1) ⟨l1, h1.1, by show l1 ≤ 50; omega, rfl⟩
  have hI3 := HInv_step hI2 (by decide) (v := nI l2) ⟨l2, h2.1, h2.2, rfl⟩
  have hI4 := HInv_step hI3 (by decide) (v := nI l3) ⟨l3, h3.1, h3.2, rfl⟩
  have hI5 := HInv_step hI4 (by decide) (v := nI l4) ⟨l4, h4.1, h4.2, rfl⟩
  have e1 : fX3_at Z (nI 0) = some 76 := by rw [c_at h.1 h.2.1 (by omega), h.ch1 (by omega), f0]; rfl
  have e2 : fX1_readPair (Z, C, nI 0 + 1) 4 20 0 = some (nI n, (Z, C, nI (1 + 2))) := z_pair (p := 1) h (by omega) (by omega) f1 f2 (fun q y => c_allow0 (Z, C, q) 4 20 y) (inP_y hn4 hn20 (by decide))
  have eh : fX1_readHead (Z, C, nI 0) = some (1, (Z, wLi (wLi (wLi (wLi (wLi C1 0 (nI l0)) 1 (nI l1)) 2 (nI l2)) 3 (nI l3)) 4 (nI l4), nI 10)) := by
    unfold fX1_readHead
    refine bS (a := 76) e1 (iS (show (76 : Int32) = 76 from rfl) (bS (a := (nI n, (Z, C, nI (1 + 2)))) e2 (iN (show ¬ nI n = -1 from m1n (by omega)) ?_)))
    rw [hC1]
    show fX1_readHead_L54 (2994 + 1 + 1 + 1 + 1 + 1 + 1) (Z, (lWe C, lCy C, lWr C, lPu C, lSl C, lPl C, lSp C, lSt C, lLi C, nI n, lStn C, lClk C, lRnd C), nI 3) (nI 0) = _
    rw [z_lp h (by decide) (mx := 99) (by decide) (by decide) (by decide) h0.1 (by omega) (by omega) f3 f4, z_lp (p := 5) h (by decide) (mx := 50) (by decide) (by decide) (by decide) h1.1 (by omega) (by omega) f5 f6, z_ld (p := 7) h (by decide) (mx := 9) (by decide) (by decide) h2.1 h2.2 (by omega) f7, z_ld (p := 8) h (by decide) (mx := 4) (by decide) (by decide) h3.1 h3.2 (by omega) f8, z_ld (p := 9) h (by decide) (mx := 9) (by decide) (by decide) h4.1 h4.2 (by omega) f9, fX1_readHead_L54, if_pos (show (5 : Int32) ≤ nI (4 + 1) by decide)]
  refine ⟨_, ?_, ⟨_, HInv_rel hI5⟩, fun i hi => absurd hi (Nat.not_lt_zero i), fun i _ hi => absurd hi (Nat.not_lt_zero i), ⟨⟨0, Nat.le_refl 0, hI5.2.1.2.1⟩, fun g hg hp => absurd (hI5.2.2.1 g hg) hp⟩, hI5.2.1.1, hI5.2.1.2.1, hI5.2.1.2.2⟩
  unfold fX1_findError
  exact bS ec (bS eh rfl)

/-! PURE LEVEL of the property: what is told ahead comes; and back -/
theorem bJ {α β : Type} {I : α → Prop} {P : β → Prop} {o : Option α} {k : α → Option β} (h : ∃ a, o = some a ∧ I a) (hk : ∀ a, I a → ∃ r, k a = some r ∧ P r) : ∃ r, o.bind k = some r ∧ P r := by
  obtain ⟨a, h1, h2⟩ := h
  rw [h1]; exact hk a h2
theorem jr {a b c : Nat} (h : b ≤ a + c) : lN a - lN b + lN c = lN (a + c - b) := by
  rw [Int64.sub_eq_add_neg, Int64.add_assoc, Int64.add_comm (-lN b), ← Int64.add_assoc, ← Int64.sub_eq_add_neg, lN_add, lN_sub h]
def stZ (n s m : Int64) : Int64 := ((((s - m) - (s - m) / n * n) + n) - (((s - m) - (s - m) / n * n) + n) / n * n)
theorem st_mod : ∀ n, n < 21 → 4 ≤ n → ∀ s, s < n → ∀ m, m < 51 → lN s = (lN m + stZ (lN n) (lN s) (lN m)) - (lN m + stZ (lN n) (lN s) (lN m)) / lN n * lN n := by decide +kernel
section FO
variable {k n : Nat} {L : LSt} {G : GSt}
theorem an_2 (hL : gLift G = L) (h : LOk k n L) : fL_about G 2 = some (lN (cN L k 0), G) := an_c hL h (w := 0) (by decide)
theorem an_4 (hL : gLift G = L) (h : LOk k n L) : fL_about G 4 = some (lN (cN L k 2), G) := an_c hL h (w := 2) (by decide)
theorem an_3 (hL : gLift G = L) (h : LOk k n L) : fL_about G 3 = some (lN (cN L k 1), G) := an_c hL h (w := 1) (by decide)
theorem an_st (hL : gLift G = L) (h : LOk k n L) {s m : Nat} (hs : lStn L = nI s) (hm : m < 2 ^ 31) (hs2 : s < n) : fL_aboutStation G (nI m) = some (stZ (lN n) (lN s) (lN m), G) := by
  have hn := h.n20
  have hn4 := h.n4
  unfold fL_aboutStation
  refine bS (an_0 hL h) (bS (an_6 hL) ?_)
  show nzl (lN n) _ = _
  unfold nzl
  rw [if_neg (by intro z; have := congrArg Int64.toInt z; rw [lN_toInt (by omega), l0T] at this; omega), hs, nI_l (by omega), nI_l hm]
  rfl
theorem FI.ha {G0 S : GSt} (h : LOk k n L) (hI : FI k n G0 L S) {m w : Nat} (h1 : 1 ≤ m) (h9 : m ≤ 99) (hw : w < 4) : ∃ S', fL_happens S (nI m) (nI w) = some (lN (sN L w m), S') ∧ FI k n G0 L S' := by
  obtain ⟨S', e1, e2⟩ := ahp rfl hI.1 h1 h9 hw
  refine ⟨S', ?_, hI.seq e2⟩
  have q := (it_same h (hI.1.copy (gTrial S)) (hI.2.1.tr (NEq_copy hI.1 _)) m).2 w hw
  obtain ⟨q1, q2⟩ := sN_le h hw m
  rw [e1, q, q1, nI_l (by omega)]
theorem FI.ah {G0 S : GSt} (h : LOk k n L) (hI : FI k n G0 L S) {g m w : Nat} (hg : g < k) (h9 : m ≤ 99) (hw : w < 8) : ∃ S', fL_ahead S (nI g) (nI m) (nI w) = some ((nmb (itL L m) g w).toInt64, S') ∧ FI k n G0 L S' := by
  obtain ⟨S', e1, e2⟩ := aah rfl hI.1 hg h9 hw
  refine ⟨S', ?_, hI.seq e2⟩
  have q := (it_same h (hI.1.copy (gTrial S)) (hI.2.1.tr (NEq_copy hI.1 _)) m).1.1 g hg w hw
  rw [e1, q]
theorem FI.em {G0 S : GSt} (hI : FI k n G0 L S) : ∃ v S', fX4_emptyAfter S = some (v, S') ∧ FI k n G0 L S' ∧ (v = 0 ↔ cN L k 0 = 0) := by
  obtain ⟨v, S', e1, e2, e3⟩ := aem rfl hI.1
  exact ⟨v, S', e1, hI.seq e2, by rw [e3, NEq_cN hI.2.1]⟩
theorem FI.si {B : Nat} {G0 S : GSt} (h : LOk k n L) (hx : Ext B L) (hB : B ≤ 5000) (hI : FI k n G0 L S) {m : Nat} (h1 : 1 ≤ m) (h9 : m ≤ 99) : ∃ S', fL_simulate S (lRnd L) (nI m) = some (lN (100 * (SP L k + sN L 0 m) + cN (itL L m) k 0), S') ∧ FI k n G0 L S' := by
  obtain ⟨S', e1, e2⟩ := asim rfl hI.1 h1 h9 (lRnd L)
  refine ⟨S', ?_, hI.seq e2⟩
  have hk := h.k12
  have er : lRnd L = lRnd (gLift S) := hI.2.1.2.2.2.1.symm
  have hl2 : LOk k n (wRnd (lCopy (gTrial S) (gLift S)) (lRnd L)) := LOk_rnd (hI.1.copy _) _
  have hn2 : NEq k L (wRnd (lCopy (gTrial S) (gLift S)) (lRnd L)) := by
    rw [er]; exact hI.2.1.tr (NEq_rnd hI.1 (gTrial S))
  have q := (it_same h hl2 hn2 m).1
  obtain ⟨x1, x2⟩ := it_ext h hx m (by omega)
  have hm := h.it m
  obtain ⟨y1, y2⟩ := sPul_SP (k := k) (B := B + m) hk (by omega) x1 (fun g hg => hm.nabs hg) k (Nat.le_refl k)
  have hc := cN_le (itL L m) k 0
  have hsp : SP (itL L m) k ≤ 12 * 6000 := Nat.le_trans y2 (Nat.mul_le_mul hk (by omega))
  rw [e1, q.pul k (Nat.le_refl k), NEq_cN q, y1, show (100 : Int32) = nI 100 from rfl, pk_mul, nI_add, nI_l (by omega), x2]
theorem PuOk.neq {L' : LSt} (h : PuOk L k) (he : NEq k L L') : PuOk L' k ∧ SP L' k = SP L k := by
  have e : ∀ g, g < k → lPu L' g = lPu L g := fun g hg => he.1 g hg 3 (by decide)
  have e2 : ∀ g, g < k → pN L' g = pN L g := fun g hg => by unfold pN; rw [e g hg]
  exact ⟨fun g hg => by rw [e g hg, e2 g hg]; exact h g hg, fb_sm_cong e2⟩
theorem fl_422' (kk : GSt → Int32 → Int64 → Int32 → Int32 → Int32 → Int64 → Int32 → Int32 → Option GSt) {g : Nat} {G0 : GSt} {S0 : GSt} (h : LOk k n L) (h0 : FI k n G0 L S0) (hg : 0 < k → g < k) (x1 : Int32) {x4 : Int32} (h4 : x4 = nI n) (x6 : Int32) (x7 : Int64) : ∃ S, FI k n G0 L S ∧ ∃ c, (0 < k → c = sCt (roomC L k) n) ∧ fL_follows_L422 kk 21 S0 x1 (nwV L k n) x4 (nI k) x6 x7 (lN (cN L k 0)) (nI g) 0 0 = kk S x1 (nwV L k n) (nI n) (nI k) x6 x7 (nI g) (nI c) := by
  by_cases hk : 0 < k
  · obtain ⟨S, s1, s2⟩ := fl_422 kk hk h h0 (hg hk) x1 h4 x6 x7
    exact ⟨S, s1, _, fun _ => rfl, s2⟩
  · have hn := h.n20
    have hn4 := h.n4
    refine ⟨S0, h0, 0, fun z => absurd z hk, ?_⟩
    have k0 : k = 0 := by omega
    subst h4
    rw [show (21 : Nat) = 20 + 1 from rfl, fL_follows_L422, if_neg (nI_nle (by omega) (by omega)), if_pos (show nI k ≤ 0 by rw [k0]; decide)]
    rfl
/-- behind a save into the second slot -/
def svG (G : GSt) : GSt := (gLift G, gTrial G, gTxt G, gSum G, gHis G, va_up (gSav G) 1 (lCopy (gSav G 1) (gLift G)), upd (gSvd G) 1 (vp_nar .boolean 1), gRem G, gNxt G)
theorem sv_1 (G : GSt) : fL_save G 1 = some ((lClk (gLift G)).toInt64, svG G) := by
  unfold fL_save fX4_save
  rw [if_neg (by decide), if_pos (by decide)]
  show (gd (nI 1) 2 _).bind _ = _
  rw [gd_nI (by decide) (by decide), Option.bind_some, gm0]
  rfl
theorem rs_1 {G : GSt} (h : ¬ gSvd G 1 = 0) : fL_restore G 1 = some ((lClk (gSav G 1)).toInt64, (lCopy (gLift G) (gSav G 1), gTrial G, gTxt G, gSum G, gHis G, gSav G, gSvd G, 0, gNxt G)) := by
  unfold fL_restore fX4_restore
  rw [if_neg (by decide), if_pos (by decide)]
  show (gd (nI 1) 2 (if gSvd G 1 = 0 then _ else _)).bind _ = _
  rw [gd_nI (by decide) (by decide), if_neg h, Option.bind_some, gm0]
  rfl
def FEnd (k n : Nat) (G G' : GSt) : Prop := LOk k n (gLift G') ∧ NEq k (gLift G) (gLift G') ∧ tSg (gTxt G') = tSg (gTxt G) ∧ gSvd G' 0 = gSvd G 0 ∧ gSav G' 0 = gSav G 0 ∧ gSvd G' 1 = 1 ∧ CL (gLift G) (gSav G' 1) ∧ gRem G' = 0 ∧ ∃ x, x < 14 ∧ gNxt G' = nI x
end FO

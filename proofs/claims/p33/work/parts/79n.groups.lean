theorem c_roomy {k n j : Nat} {L : LSt} {M : MSt} (h : RRel k n L (mA M j)) (hN : mN M = nI n) : fX0_roomySlots L = some (nI (sCt (fun i => decide (sCt (lBad L (nI i)) k = 0)) n)) := by
  have hn20 := h.n20
  refine run_up (fun f i => fX0_roomySlots_L4 L f (nI (sCt (fun i => decide (sCt (lBad L (nI i)) k = 0)) i)) (nI i)) n (fun i f hi => ?_) (fun f => ?_) (by show n < 3000; omega)
  · show fX0_roomySlots_L4 L (f + 1) _ (nI i) = _
    rw [fX0_roomySlots_L4, h.hn, if_neg (nI_ge hi (by omega)), (rc_isFree h hN (nI i)).1, Option.bind_some]
    by_cases e : sCt (lBad L (nI i)) k = 0
    · rw [if_pos e, if_neg c10, nI_1, nI_1, sCt_yes (decide_eq_true e)]
    · rw [if_neg e, if_pos rfl, nI_1, sCt_no (decide_eq_false e)]
  · show fX0_roomySlots_L4 L (f + 1) _ (nI n) = _
    rw [fX0_roomySlots_L4, h.hn, if_pos (ge_k n)]
theorem m_roomy {k n : Nat} {L : LSt} {M : MSt} (h : RRel k n L (mA M 3)) (hN : mN M = nI n) : fX5_room_L34 KF M 0 0 = some (nI (sCt (fun i => decide (sCt (lBad L (nI i)) k = 0)) n), M) := by
  have hn20 := h.n20
  refine run_up (fun f i => fX5_room_L34 f M (nI (sCt (fun i => decide (sCt (lBad L (nI i)) k = 0)) i)) (nI i)) n (fun i f hi => ?_) (fun f => ?_) (by show n < 3000; omega)
  · show fX5_room_L34 (f + 1) M _ (nI i) = _
    rw [fX5_room_L34, hN, if_neg (nI_ge hi (by omega)), (rc_isFree h hN (nI i)).2, Option.bind_some]
    by_cases e : sCt (lBad L (nI i)) k = 0
    · rw [if_pos e, if_neg c10, nI_1, nI_1, sCt_yes (decide_eq_true e)]
    · rw [if_neg e, if_pos rfl, nI_1, Int32.add_zero, sCt_no (decide_eq_false e)]
  · show fX5_room_L34 (f + 1) M _ (nI n) = _
    rw [fX5_room_L34, hN, if_pos (ge_k n)]
/-- the least gap so far -/
def sGap (L : LSt) (n : Nat) : Nat → Int32
  | 0 => -9
  | i + 1 => if lPl L i = 0 then (if sGap L n i = -9 then nI (gMin L n (lSp L i).toNatClampNeg 12) else if sGap L n i ≤ nI (gMin L n (lSp L i).toNatClampNeg 12) then sGap L n i else nI (gMin L n (lSp L i).toNatClampNeg 12)) else sGap L n i
theorem sGap_out {k n : Nat} {L : LSt} {r : RI} (h : RRel k n L r) : ∀ d, k + d ≤ 12 → sGap L n (k + d) = sGap L n k
  | 0, _ => rfl
  | d + 1, hd => by
    show sGap L n ((k + d) + 1) = _
    rw [sGap, h.abs (k + d) (by omega) (by omega), if_neg (by decide), sGap_out h d (by omega)]
theorem c_least {k n : Nat} {L : LSt} {r : RI} (h : RRel k n L r) : fX0_smallestGap L = some (sGap L n k) := by
  have hk12 := h.k12
  have hn20 := h.n20
  rw [← sGap_out h (12 - k) (by omega), show k + (12 - k) = 12 by omega]
  refine run_up (fun f i => fX0_smallestGap_L5 L f (sGap L n i) (nI i)) 12 (fun i f hi => ?_) (fun f => ?_) (by decide)
  · show fX0_smallestGap_L5 L (f + 1) (sGap L n i) (nI i) = fX0_smallestGap_L5 L f (sGap L n (i + 1)) (nI (i + 1))
    rw [fX0_smallestGap_L5, if_neg (l12 hi), gd_nI hi (by decide), nI_clamp (by omega), nI_1, sGap]
    by_cases e : lPl L i = 0
    · obtain ⟨hk, a, ha, a1, -⟩ := h.on hi e
      rw [if_pos e, if_pos e, c_gapBehind h hk e ha a1, Option.bind_some, a1, nI_clamp (by omega)]
      by_cases e2 : sGap L n i = -9
      · rw [if_pos e2, if_pos e2]
      · rw [if_neg e2, if_neg e2]
        by_cases e3 : sGap L n i ≤ nI (gMin L n a 12)
        · rw [if_pos e3, if_pos e3]
        · rw [if_neg e3, if_neg e3]
    · rw [if_neg e, if_neg e]
  · show fX0_smallestGap_L5 L (f + 1) _ (nI 12) = _
    rw [fX0_smallestGap_L5, if_pos g12]
theorem m_least {k n : Nat} {L : LSt} {M : MSt} (h : RRel k n L (mA M 3)) (hN : mN M = nI n) : fX5_room_L93 KF M (-9) 0 = some (sGap L n k, M) := by
  have hk12 := h.k12
  have hn20 := h.n20
  refine run_up (fun f i => fX5_room_L93 f M (sGap L n i) (nI i)) k (fun i f hi => ?_) (fun f => ?_) (by show k < 3000; omega)
  · show fX5_room_L93 (f + 1) M (sGap L n i) (nI i) = fX5_room_L93 f M (sGap L n (i + 1)) (nI (i + 1))
    rw [fX5_room_L93, h.hk, if_neg (lt_k hi hk12), aI60, gd_nI (by omega) (by decide), nI_clamp (by omega), nI_1, sGap, (h.cell i hi).pl]
    by_cases e : lPl L i = 0
    · obtain ⟨hk, a, ha, a1, -⟩ := h.on (by omega) e
      rw [if_pos e, if_pos e, m_gapOf h hN hk e ha a1, Option.bind_some, Option.bind_some, a1, nI_clamp (by omega)]
      by_cases e2 : sGap L n i = -9
      · rw [if_pos e2, if_pos e2]
      · rw [if_neg e2, if_neg e2]
        by_cases e3 : sGap L n i ≤ nI (gMin L n a 12)
        · rw [if_pos e3, if_pos e3]
        · rw [if_neg e3, if_neg e3]
    · rw [if_neg e, if_neg e]
  · show fX5_room_L93 (f + 1) M _ (nI k) = _
    rw [fX5_room_L93, h.hk, if_pos (ge_k k)]
theorem in02 {x : Int32} (h : 0 ≤ x ∧ x ≤ 2) : x = 0 ∨ x = 1 ∨ x = 2 := by
  obtain ⟨m, hm, rfl⟩ := nI_of (x := x) (fun z => (fa_of_lt z).2.1 h.1)
  have := (nI_leI (b := 2) hm (by decide)).mp h.2
  have : m = 0 ∨ m = 1 ∨ m = 2 := by omega
  rcases this with rfl | rfl | rfl
  · exact Or.inl rfl
  · exact Or.inr (Or.inl rfl)
  · exact Or.inr (Or.inr rfl)
theorem o_room {G : GSt} {M : MSt} (h : GRel G M) (x : Int32) : OpR 1 9 (fX4_room G x) (fX5_room M x) := by
  have h' := h
  obtain ⟨n, h1, ⟨k, h2⟩, h3, h4, h5⟩ := h'
  have hM : GRel G (mA M, 0, mSize M, mSpot M, mRN M, mN M, mActs M) := h.scr 0 _ _
  have h2' : RRel k n (gLift G) (mA (mA M, (0 : Int32), mSize M, mSpot M, mRN M, mN M, mActs M) 3) := h2
  unfold fX4_room fX5_room
  rw [m_inI x 0 2 (by decide +kernel) (by decide +kernel), Option.bind_some]
  by_cases hc : 0 ≤ x ∧ x ≤ 2
  · rw [if_pos hc, if_neg c10, m_refused0, Option.bind_some, if_pos rfl]
    rcases in02 hc with rfl | rfl | rfl
    · rw [if_pos rfl, if_pos rfl, c_roomy h2 h1, m_roomy h2' h1]
      exact ⟨0, _, G, _, _, rfl, rfl, Or.inl rfl, rfl, fun _ => rfl, hM⟩
    · rw [if_neg c10, if_pos rfl, if_neg c10, if_neg (show ¬ (1 : Int32) = 2 by decide), c_least h2, m_least h2' h1]
      exact ⟨0, _, G, _, _, rfl, rfl, Or.inl rfl, rfl, fun _ => rfl, hM⟩
    · rw [if_neg (show ¬ (2 : Int32) = 0 by decide), if_neg (show ¬ (2 : Int32) = 1 by decide), if_pos rfl, if_neg (show ¬ (2 : Int32) = 0 by decide), if_pos rfl]
      obtain ⟨v, v1, v2, v3⟩ := h2.limOk.2.2.2.1
      have z : ∀ {α : Type} (k : Option α), nz (nI v) k = k := fun k => by unfold nz; rw [if_neg (nI_ne0 (by omega) (by omega))]
      unfold fX0_capacity
      have e9 : mA (mA M, (0 : Int32), mSize M, mSpot M, mRN M, mN M, mActs M) 3 102 = nI v := h2.l3.trans v3
      have e8 : mN (mA M, (0 : Int32), mSize M, mSpot M, mRN M, mN M, mActs M) = nI n := h1
      rw [v3, h2.hn, if_neg (nI_nle (by omega) (by omega)), z, e9, z, e8]
      rw [h1] at hM
      exact ⟨0, _, G, _, _, rfl, rfl, Or.inl rfl, rfl, fun _ => rfl, hM⟩
  · have hx : ∀ m, m < 3 → ¬ x = nI m := fun m hm z => hc (by rw [z]; exact ⟨nI_pos' (by omega), nI_le (a := m) (b := 2) (by omega) (by decide)⟩)
    rw [if_neg (show ¬ x = 0 from hx 0 (by decide)), if_neg (show ¬ x = 1 from hx 1 (by decide)), if_neg (show ¬ x = 2 from hx 2 (by decide)), if_neg hc, if_pos rfl, m_refused1, Option.bind_some, if_neg c10]
    exact OpR_no h (k := 1) (c := 1) (Or.inl rfl) (by decide) rfl rfl rfl
/-! groups -/
def lGrp (L : LSt) (g : Nat) : Bool := decide (¬ lPl L g = -1 ∧ ¬ lPl L g = 3)
def lTog (L : LSt) (g h : Nat) : Bool := decide (lWe L g = lWe L h ∧ lCy L g / 10 = lCy L h / 10) && (lGrp L g && lGrp L h)
theorem c_isGrouped (L : LSt) {g : Nat} (hg : g < 12) : fX0_isGrouped L (nI g) = some (if lGrp L g = true then 1 else 0) := by
  unfold fX0_isGrouped lGrp
  rw [gd_nI hg (by decide), nI_clamp (by omega)]
  by_cases h : lPl L g = -1
  · rw [if_pos h, decide_eq_false (fun z => z.1 h), if_neg (by decide)]
  · rw [if_neg h]
    by_cases h2 : lPl L g = 3
    · rw [if_pos h2, decide_eq_false (fun z => z.2 h2), if_neg (by decide)]
    · rw [if_neg h2, decide_eq_true ⟨h, h2⟩, if_pos rfl]
theorem c_together (L : LSt) {g h : Nat} (hg : g < 12) (hh : h < 12) : fX0_areTogether L (nI g) (nI h) = some (if lTog L g h = true then 1 else 0) := by
  unfold fX0_areTogether lTog
  rw [gd_nI hg (by decide), gd_nI hh (by decide), nI_clamp (by omega), nI_clamp (by omega), c_isGrouped L hg, c_isGrouped L hh, Option.bind_some, Option.bind_some]
  by_cases e1 : lWe L g = lWe L h
  · rw [if_pos e1]
    by_cases e2 : lCy L g / 10 = lCy L h / 10
    · rw [if_pos e2, decide_eq_true ⟨e1, e2⟩]
      cases a : lGrp L g <;> cases b : lGrp L h <;> rfl
    · rw [if_neg e2, decide_eq_false (fun z => e2 z.2)]; rfl
  · rw [if_neg e1, decide_eq_false (fun z => e1 z.1)]; rfl
theorem c_opens (L : LSt) {g : Nat} (hg : g < 12) : fX0_opensGroup L (nI g) = some (if lGrp L g = true ∧ sCt (lTog L g) g = 0 then 1 else 0) := by
  have stp : ∀ i f, i < g → lTog L g i = false → fX0_opensGroup_L2 L (f + 1) (nI g) (nI i) = fX0_opensGroup_L2 L f (nI g) (nI (i + 1)) := fun i f hi hb => by
    rw [fX0_opensGroup_L2, if_neg (nI_ge hi (by omega)), c_together L hg (by omega), Option.bind_some, hb, if_neg (show ¬ (false = true) by decide), if_pos rfl, nI_1]
  rcases s_first (lTog L g) g with hs | ⟨i0, h0, h1, h2⟩
  · refine run_up (fun f i => fX0_opensGroup_L2 L f (nI g) (nI i)) g (fun i f hi => stp i f hi (hs i hi)) (fun f => ?_) (by show g < 3000; omega)
    show fX0_opensGroup_L2 L (f + 1) (nI g) (nI g) = _
    rw [fX0_opensGroup_L2, if_pos (Int32.le_refl _), c_isGrouped L hg, Option.bind_some]
    cases a : lGrp L g with
    | true => rw [if_pos rfl, if_pos ⟨rfl, sCt_zero.mpr hs⟩]; rfl
    | false => rw [if_neg (by decide), if_neg (fun z => absurd z.1 (by decide))]; rfl
  · refine run_up (fun f i => fX0_opensGroup_L2 L f (nI g) (nI i)) i0 (fun i f hi => stp i f (by omega) (h2 i hi)) (fun f => ?_) (by show i0 < 3000; omega)
    show fX0_opensGroup_L2 L (f + 1) (nI g) (nI i0) = _
    rw [fX0_opensGroup_L2, if_neg (nI_ge h0 (by omega)), c_together L hg (by omega), Option.bind_some, h1, if_pos rfl, if_neg c10, if_neg (fun z => sCt_hit h0 h1 z.2)]
theorem c_size (L : LSt) {g : Nat} (hg : g < 12) : fX0_groupSize L (nI g) = some (nI (sCt (lTog L g) 12)) := by
  refine run_up (fun f i => fX0_groupSize_L4 L f (nI g) (nI (sCt (lTog L g) i)) (nI i)) 12 (fun i f hi => ?_) (fun f => ?_) (by decide)
  · show fX0_groupSize_L4 L (f + 1) (nI g) _ (nI i) = _
    rw [fX0_groupSize_L4, if_neg (l12 hi), c_together L hg hi, Option.bind_some]
    cases a : lTog L g i with
    | true => rw [if_pos rfl, if_neg c10, nI_1, nI_1, sCt_yes a]
    | false => rw [if_neg (show ¬ (false = true) by decide), if_pos rfl, nI_1, sCt_no a]
  · show fX0_groupSize_L4 L (f + 1) (nI g) _ (nI 12) = _
    rw [fX0_groupSize_L4, if_pos g12]
theorem aI0n (i : Nat) : (0 : Int32) + nI i = nI i := aI0 i
theorem m_isLike {k n : Nat} {L : LSt} {M : MSt} (h : RRel k n L (mA M 3)) {g q : Nat} (hg : g < k) (hq : q < k) : fX5_isLike M (nI g) (nI q) = some (if lTog L g q = true then 1 else 0) := by
  have hk12 := h.k12
  obtain ⟨c0, c1, c2, c3, c4, c5, c6⟩ := h.cell g hg
  obtain ⟨d0, d1, d2, d3, d4, d5, d6⟩ := h.cell q hq
  unfold fX5_isLike lTog lGrp
  simp (disch := omega) only [aI0, aI12, aI60, gd_nI, nI_clamp, c0, c1, c5, d0, d1, d5]
  by_cases e1 : lPl L g = 3
  · rw [if_pos e1, decide_eq_false (p := ¬ lPl L g = -1 ∧ ¬ lPl L g = 3) (fun z => z.2 e1), Bool.false_and, Bool.and_false, if_neg (by decide)]
  · rw [if_neg e1, decide_eq_true (p := ¬ lPl L g = -1 ∧ ¬ lPl L g = 3) ⟨h.nabs hg, e1⟩, Bool.true_and]
    by_cases e2 : lPl L q = 3
    · rw [if_pos e2, decide_eq_false (p := ¬ lPl L q = -1 ∧ ¬ lPl L q = 3) (fun z => z.2 e2), Bool.and_false, if_neg (by decide)]
    · rw [if_neg e2, decide_eq_true (p := ¬ lPl L q = -1 ∧ ¬ lPl L q = 3) ⟨h.nabs hq, e2⟩, Bool.and_true]
      by_cases e3 : lWe L g = lWe L q
      · rw [if_pos e3]
        by_cases e4 : lCy L g / 10 = lCy L q / 10
        · rw [if_pos e4, decide_eq_true ⟨e3, e4⟩, if_pos rfl]
        · rw [if_neg e4, decide_eq_false (fun z => e4 z.2), if_neg (by decide)]
      · rw [if_neg e3, decide_eq_false (fun z => e3 z.1), if_neg (by decide)]
theorem bit1 {c : Prop} [Decidable c] (h : c) : (if c then (1 : Int32) else 0) = 1 := if_pos h
theorem bit0 {c : Prop} [Decidable c] (h : ¬ c) : (if c then (1 : Int32) else 0) = 0 := if_neg h
/-- the model's inner loop -/
theorem m_inner {k n : Nat} {L : LSt} {M : MSt} (h : RRel k n L (mA M 3)) {g : Nat} (hg : g < k) (kk : MSt → Int32 → Int32 → Int32 → Int32 → Int32 → Int32 → Int32 → Option (Int32 × MSt)) (x1 x2 x3 x4 : Int32) (b : Bool) :
    fX5_groups_L76 kk KF M x1 x2 x3 x4 (nI g) 0 (if b = true then 1 else 0) 0 = kk M x1 x2 x3 x4 (nI g) (nI (sCt (lTog L g) k)) (if b = true ∧ sCt (lTog L g) g = 0 then 1 else 0) := by
  have hk12 := h.k12
  have key := run_up (fun f i => fX5_groups_L76 kk f M x1 x2 x3 x4 (nI g) (nI (sCt (lTog L g) i)) (if b = true ∧ sCt (lTog L g) (if i < g then i else g) = 0 then 1 else 0) (nI i)) k (r := kk M x1 x2 x3 x4 (nI g) (nI (sCt (lTog L g) k)) (if b = true ∧ sCt (lTog L g) g = 0 then 1 else 0)) (fuel := KF) (fun i f hi => ?_) (fun f => ?_) (by show k < 3000; omega)
  · have e0 : (if b = true ∧ sCt (lTog L g) (if 0 < g then 0 else g) = 0 then (1 : Int32) else 0) = if b = true then 1 else 0 := by
      have : (if 0 < g then 0 else g) = 0 := by split <;> omega
      rw [this]
      by_cases hb : b = true
      · rw [if_pos ⟨hb, rfl⟩, if_pos hb]
      · rw [if_neg (fun z => hb z.1), if_neg hb]
    have key : fX5_groups_L76 kk KF M x1 x2 x3 x4 (nI g) (nI 0) (if b = true ∧ sCt (lTog L g) (if 0 < g then 0 else g) = 0 then 1 else 0) (nI 0) = _ := key
    rw [e0] at key
    exact key
  · show fX5_groups_L76 kk (f + 1) M x1 x2 x3 x4 (nI g) (nI (sCt (lTog L g) i)) (if b = true ∧ sCt (lTog L g) (if i < g then i else g) = 0 then 1 else 0) (nI i) = fX5_groups_L76 kk f M x1 x2 x3 x4 (nI g) (nI (sCt (lTog L g) (i + 1))) (if b = true ∧ sCt (lTog L g) (if i + 1 < g then i + 1 else g) = 0 then 1 else 0) (nI (i + 1))
    rw [fX5_groups_L76, h.hk, if_neg (lt_k hi hk12), m_isLike h hg hi, Option.bind_some, Option.bind_some, nI_1]
    by_cases a : lTog L g i = true
    · rw [bit1 a, if_neg c10, sCt_yes a]
      by_cases q : g ≤ i
      · rw [show (if i < g then i else g) = g from if_neg (by omega), show (if i + 1 < g then i + 1 else g) = g from if_neg (by omega)]
        by_cases hb : b = true ∧ sCt (lTog L g) g = 0
        · rw [bit1 hb, if_neg c10, if_pos (nI_le q (by omega)), nI_1]
        · rw [bit0 hb, if_pos rfl, nI_1]
      · by_cases q2 : i + 1 < g
        · rw [show (if i < g then i else g) = i from if_pos (by omega), show (if i + 1 < g then i + 1 else g) = i + 1 from if_pos q2, sCt_yes a, bit0 (c := b = true ∧ sCt (lTog L g) i + 1 = 0) (fun z => absurd z.2 (Nat.succ_ne_zero _))]
          by_cases hb : b = true ∧ sCt (lTog L g) i = 0
          · rw [bit1 hb, if_neg c10, if_neg (nI_ge (by omega) (by omega)), Option.bind_some, if_neg c10, nI_1]
          · rw [bit0 hb, if_pos rfl, nI_1]
        · obtain rfl : g = i + 1 := by omega
          rw [show (if i < i + 1 then i else i + 1) = i from if_pos (by omega), show (if i + 1 < i + 1 then i + 1 else i + 1) = i + 1 from if_neg (by omega), sCt_yes a, bit0 (c := b = true ∧ sCt (lTog L (i + 1)) i + 1 = 0) (fun z => absurd z.2 (Nat.succ_ne_zero _))]
          by_cases hb : b = true ∧ sCt (lTog L (i + 1)) i = 0
          · rw [bit1 hb, if_neg c10, if_neg (nI_ge (by omega) (by omega)), Option.bind_some, if_neg c10, nI_1]
          · rw [bit0 hb, if_pos rfl, nI_1]
    · have a' : lTog L g i = false := by cases e : lTog L g i with
        | true => exact absurd e a
        | false => rfl
      rw [bit0 a, if_pos rfl, sCt_no a', Int32.add_zero]
      by_cases q : g ≤ i
      · rw [show (if i < g then i else g) = g from if_neg (by omega), show (if i + 1 < g then i + 1 else g) = g from if_neg (by omega)]
        by_cases hb : b = true ∧ sCt (lTog L g) g = 0
        · rw [bit1 hb, if_neg c10, if_pos (nI_le q (by omega))]
        · rw [bit0 hb, if_pos rfl]
      · have e3 : sCt (lTog L g) (if i + 1 < g then i + 1 else g) = sCt (lTog L g) i := by
          have : (if i + 1 < g then i + 1 else g) = i + 1 := by split <;> omega
          rw [this, sCt_no a']
        rw [show (if i < g then i else g) = i from if_pos (by omega), e3]
        by_cases hb : b = true ∧ sCt (lTog L g) i = 0
        · rw [bit1 hb, if_neg c10, if_neg (nI_ge (by omega) (by omega)), if_pos rfl]
        · rw [bit0 hb, if_pos rfl]
  · show fX5_groups_L76 kk (f + 1) M x1 x2 x3 x4 (nI g) _ (if b = true ∧ sCt (lTog L g) (if k < g then k else g) = 0 then 1 else 0) (nI k) = _
    rw [fX5_groups_L76, h.hk, if_pos (ge_k k), show (if k < g then k else g) = g from if_neg (by omega)]
def gSt (L : LSt) (k : Nat) : Nat → Int32 × Int32 × Int32
  | 0 => (0, 0, -9)
  | i + 1 => if lGrp L i = true ∧ sCt (lTog L i) i = 0 then (if nI (sCt (lTog L i) k) ≤ (gSt L k i).2.1 then ((gSt L k i).1 + 1, (gSt L k i).2.1, (gSt L k i).2.2) else ((gSt L k i).1 + 1, nI (sCt (lTog L i) k), nI i)) else gSt L k i
theorem gSt_out {k n : Nat} {L : LSt} {r : RI} (h : RRel k n L r) : ∀ d, k + d ≤ 12 → gSt L k (k + d) = gSt L k k
  | 0, _ => rfl
  | d + 1, hd => by
    show gSt L k ((k + d) + 1) = _
    have : lGrp L (k + d) = false := decide_eq_false (fun z => z.1 (h.abs (k + d) (by omega) (by omega)))
    rw [gSt, this, if_neg (fun z => absurd z.1 (by decide)), gSt_out h d (by omega)]
theorem o_groups {G : GSt} {M : MSt} (h : GRel G M) (x : Int32) : OpR 1 9 (fX4_groups G x) (fX5_groups M x) := by
  have h' := h
  obtain ⟨n, h1, ⟨k, h2⟩, h3, h4, h5⟩ := h'
  have hk12 := h2.k12
  have hM : GRel G (mA M, 0, mSize M, mSpot M, mRN M, mN M, mActs M) := h.scr 0 _ _
  have h2' : RRel k n (gLift G) (mA (mA M, (0 : Int32), mSize M, mSpot M, mRN M, mN M, mActs M) 3) := h2
  have siz : ∀ g, sCt (lTog (gLift G) g) 12 = sCt (lTog (gLift G) g) k := fun g => sCt_ext hk12 (fun q q1 q2 => by
    have : lGrp (gLift G) q = false := decide_eq_false (fun z => z.1 (h2.abs q q1 q2))
    unfold lTog; rw [this, Bool.and_false, Bool.and_false])
  have cC : fX4_groups_L30 KF G x 0 0 (-9) 0 = if x = 0 then some (0, (gSt (gLift G) k k).1, G) else if x = 1 then some (0, (gSt (gLift G) k k).2.1, G) else some (0, (gSt (gLift G) k k).2.2, G) := by
    rw [← gSt_out h2 (12 - k) (by omega), show k + (12 - k) = 12 by omega]
    refine run_up (fun f i => fX4_groups_L30 f G x (gSt (gLift G) k i).1 (gSt (gLift G) k i).2.1 (gSt (gLift G) k i).2.2 (nI i)) 12 (fun i f hi => ?_) (fun f => ?_) (by decide)
    · show fX4_groups_L30 (f + 1) G x _ _ _ (nI i) = fX4_groups_L30 f G x (gSt (gLift G) k (i + 1)).1 (gSt (gLift G) k (i + 1)).2.1 (gSt (gLift G) k (i + 1)).2.2 (nI (i + 1))
      rw [fX4_groups_L30, if_neg (l12 hi), c_opens _ hi, Option.bind_some, nI_1, gSt]
      by_cases e : lGrp (gLift G) i = true ∧ sCt (lTog (gLift G) i) i = 0
      · rw [if_pos e, if_pos e, if_neg c10, c_size _ hi, Option.bind_some, siz]
        by_cases e2 : nI (sCt (lTog (gLift G) i) k) ≤ (gSt (gLift G) k i).2.1
        · rw [if_pos e2, if_pos e2]
        · rw [if_neg e2, if_neg e2]
      · rw [if_neg e, if_neg e, if_pos rfl]
    · show fX4_groups_L30 (f + 1) G x _ _ _ (nI 12) = _
      rw [fX4_groups_L30, if_pos g12]
  have cM : fX5_groups_L37 KF (mA M, (0 : Int32), mSize M, mSpot M, mRN M, mN M, mActs M) x 0 0 (-9) 0 = if x = 0 then some ((gSt (gLift G) k k).1, (mA M, (0 : Int32), mSize M, mSpot M, mRN M, mN M, mActs M)) else if x = 1 then some ((gSt (gLift G) k k).2.1, (mA M, (0 : Int32), mSize M, mSpot M, mRN M, mN M, mActs M)) else some ((gSt (gLift G) k k).2.2, (mA M, (0 : Int32), mSize M, mSpot M, mRN M, mN M, mActs M)) := by
    generalize (mA M, (0 : Int32), mSize M, mSpot M, mRN M, mN M, mActs M) = M0 at h2' ⊢
    refine run_up (fun f i => fX5_groups_L37 f M0 x (gSt (gLift G) k i).1 (gSt (gLift G) k i).2.1 (gSt (gLift G) k i).2.2 (nI i)) k (fun i f hi => ?_) (fun f => ?_) (by show k < 3000; omega)
    · show fX5_groups_L37 (f + 1) M0 x _ _ _ (nI i) = fX5_groups_L37 f M0 x (gSt (gLift G) k (i + 1)).1 (gSt (gLift G) k (i + 1)).2.1 (gSt (gLift G) k (i + 1)).2.2 (nI (i + 1))
      rw [fX5_groups_L37, h2'.hk, if_neg (lt_k hi hk12), aI60, gd_nI (by omega) (by decide), nI_clamp (by omega), (h2'.cell i hi).pl]
      have inn : (if lPl (gLift G) i = 3 then (fX5_groups_L76 (fun S y1 y2 y3 y4 y5 y6 y7 => (if y7 = 0 then (fX5_groups_L37 f S y1 (y2 + 0) y3 y4 (y5 + 1)) else (if y6 ≤ y3 then (fX5_groups_L37 f S y1 (y2 + 1) y3 y4 (y5 + 1)) else (fX5_groups_L37 f S y1 (y2 + 1) y6 y5 (y5 + 1))))) KF M0 x (gSt (gLift G) k i).1 (gSt (gLift G) k i).2.1 (gSt (gLift G) k i).2.2 (nI i) 0 0 0) else (fX5_groups_L76 (fun S y1 y2 y3 y4 y5 y6 y7 => (if y7 = 0 then (fX5_groups_L37 f S y1 (y2 + 0) y3 y4 (y5 + 1)) else (if y6 ≤ y3 then (fX5_groups_L37 f S y1 (y2 + 1) y3 y4 (y5 + 1)) else (fX5_groups_L37 f S y1 (y2 + 1) y6 y5 (y5 + 1))))) KF M0 x (gSt (gLift G) k i).1 (gSt (gLift G) k i).2.1 (gSt (gLift G) k i).2.2 (nI i) 0 1 0)) = (fX5_groups_L76 (fun S y1 y2 y3 y4 y5 y6 y7 => (if y7 = 0 then (fX5_groups_L37 f S y1 (y2 + 0) y3 y4 (y5 + 1)) else (if y6 ≤ y3 then (fX5_groups_L37 f S y1 (y2 + 1) y3 y4 (y5 + 1)) else (fX5_groups_L37 f S y1 (y2 + 1) y6 y5 (y5 + 1))))) KF M0 x (gSt (gLift G) k i).1 (gSt (gLift G) k i).2.1 (gSt (gLift G) k i).2.2 (nI i) 0 (if lGrp (gLift G) i = true then 1 else 0) 0) := by
        by_cases e : lPl (gLift G) i = 3
        · rw [if_pos e, show lGrp (gLift G) i = false from decide_eq_false (fun z => z.2 e), if_neg (by decide)]
        · rw [if_neg e, show lGrp (gLift G) i = true from decide_eq_true ⟨h2'.nabs hi, e⟩, if_pos rfl]
      rw [inn, m_inner h2' hi, gSt]
      by_cases e : lGrp (gLift G) i = true ∧ sCt (lTog (gLift G) i) i = 0
      · rw [if_pos e, if_pos e, if_neg c10, nI_1]
        by_cases e2 : nI (sCt (lTog (gLift G) i) k) ≤ (gSt (gLift G) k i).2.1
        · rw [if_pos e2, if_pos e2]
        · rw [if_neg e2, if_neg e2]
      · rw [if_neg e, if_neg e, if_pos rfl, Int32.add_zero, nI_1]
    · show fX5_groups_L37 (f + 1) M0 x _ _ _ (nI k) = _
      rw [fX5_groups_L37, h2'.hk, if_pos (ge_k k)]
  unfold fX4_groups fX5_groups
  rw [m_inI x 0 2 (by decide +kernel) (by decide +kernel), Option.bind_some]
  have no : (0 ≤ x ∧ x ≤ 2) ∨ x < 0 ∨ (¬ x < 0 ∧ ¬ x ≤ 2) := by
    by_cases q : x < 0
    · exact Or.inr (Or.inl q)
    · by_cases q2 : x ≤ 2
      · exact Or.inl ⟨fa_of_nlt q, q2⟩
      · exact Or.inr (Or.inr ⟨q, q2⟩)
  rcases no with hc | hc | hc
  · rw [if_neg (fun z => (fa_of_lt z).2.1 hc.1), if_pos hc.2, if_pos hc, if_neg c10, m_refused0, Option.bind_some, if_pos rfl, cC, cM]
    by_cases e0 : x = 0
    · rw [if_pos e0, if_pos e0]
      exact ⟨0, _, G, _, _, rfl, rfl, Or.inl rfl, rfl, fun _ => rfl, hM⟩
    · rw [if_neg e0, if_neg e0]
      by_cases e1 : x = 1
      · rw [if_pos e1, if_pos e1]
        exact ⟨0, _, G, _, _, rfl, rfl, Or.inl rfl, rfl, fun _ => rfl, hM⟩
      · rw [if_neg e1, if_neg e1]
        exact ⟨0, _, G, _, _, rfl, rfl, Or.inl rfl, rfl, fun _ => rfl, hM⟩
  · rw [if_pos hc, if_neg (show ¬ (0 ≤ x ∧ x ≤ 2) from fun z => (fa_of_lt hc).2.1 z.1), if_pos rfl, m_refused1, Option.bind_some, if_neg c10]
    exact OpR_no h (k := 1) (c := 1) (Or.inl rfl) (by decide) rfl rfl rfl
  · rw [if_neg hc.1, if_neg hc.2, if_neg (show ¬ (0 ≤ x ∧ x ≤ 2) from fun z => hc.2 z.2), if_pos rfl, m_refused1, Option.bind_some, if_neg c10]
    exact OpR_no h (k := 1) (c := 1) (Or.inl rfl) (by decide) rfl rfl rfl

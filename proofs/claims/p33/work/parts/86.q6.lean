/-! PURE LEVEL of the property: what tells the same goes on alike; what is remembered; acts and undo -/
theorem eB_cancel {A A' : RI} {e e' : Int32} {w : Nat} (h : A' w = A w + eB e w) (h' : A' w = A w + eB e' w) : eB e w = eB e' w := by
  have : A w + eB e w = A w + eB e' w := h.symm.trans h'
  exact (Int32.add_right_inj (A w)).mp this
/-- steps of two lifts that tell the same -/
theorem it_same {k n : Nat} {L L' : LSt} (h : LOk k n L) (h' : LOk k n L') (he : NEq k L L') : ∀ i, NEq k (itL L i) (itL L' i) ∧ ∀ w, w < 4 → sEv L' w i = sEv L w i
  | 0 => ⟨he, fun _ _ => rfl⟩
  | i + 1 => by
    obtain ⟨h1, h2⟩ := it_same h h' he i
    obtain ⟨M, hr, hN⟩ := (h.it i).m 4
    have hr' : RRel k n (itL L' i) (mA M 4) := RRel_tr hr (h'.it i) h1
    obtain ⟨a1, a2, a3, a4, a5⟩ := st_one hr (by decide) hN
    obtain ⟨b1, b2, b3, b4, b5⟩ := st_one hr' (by decide) hN
    refine ⟨NEq.of a3 b3, fun w hw => ?_⟩
    show sEv L' w i + eB (advE (itL L' i)) w = sEv L w i + eB (advE (itL L i)) w
    rw [h2 w hw, eB_cancel (a5 w hw) (b5 w hw)]
theorem NEq.pul {k : Nat} {L L' : LSt} (h : NEq k L L') : ∀ i, i ≤ k → sPul L' i = sPul L i
  | 0, _ => rfl
  | i + 1, hi => by
    show sPul L' i + lPu L' i = sPul L i + lPu L i
    rw [h.pul i (by omega), show lPu L' i = lPu L i from h.1 i (by omega) 3 (by decide)]
theorem NEq_rnd {k n : Nat} {L : LSt} (h : LOk k n L) (X : LSt) : NEq k L (wRnd (lCopy X L) (lRnd L)) := by
  have := NEq_copy h X
  exact ⟨this.1, this.2.1, this.2.2.1, rfl, this.2.2.2.2⟩
theorem LOk_rnd {k n : Nat} {L : LSt} (h : LOk k n L) (x : Int64) : LOk k n (wRnd L x) := h.elim fun r hr => ⟨_, RRel_rnd hr x⟩
/-- a lift with another limit for cycles -/
def wLim (T : LSt) (v : Int32) : LSt := (lWe T, lCy T, lWr T, lPu T, lSl T, lPl T, lSp T, lSt T, upd (lLi T) 0 v, lN_ T, lStn T, lClk T, lRnd T)
theorem LOk_lim {k n v : Nat} {L : LSt} (h : LOk k n L) (h1 : 1 ≤ v) (h9 : v ≤ 99) : LOk k n (wLim L (nI v)) := h.elim fun r hr => ⟨_, RRel_lim (m := 0) hr (by decide) ⟨nI_le (a := 1) h1 (by omega), nI_le (b := 99) h9 (by decide)⟩⟩
theorem NEq_lim {k : Nat} {L L' : LSt} (h : NEq k L L') (v : Int32) : NEq k (wLim L v) (wLim L' v) := ⟨h.1, h.2.1, h.2.2.1, h.2.2.2.1, fun i hi => by
  show upd (lLi L') 0 v i = upd (lLi L) 0 v i
  by_cases e : i = 0
  · subst e; rw [upd_at, upd_at]
  · rw [upd_ne e, upd_ne e]; exact h.2.2.2.2 i hi⟩
-- what is remembered
def HOk (G : GSt) (a x : Nat) : Prop := a ≤ 14 ∧ x < 14 ∧ gRem G = nI a ∧ gNxt G = nI x
theorem rem_ok {G : GSt} {a x : Nat} (h : HOk G a x) : ∃ S, fX4_remember G = some S ∧ gLift S = gLift G ∧ gTrial S = gTrial G ∧ gTxt S = gTxt G ∧ gSum S = gSum G ∧ gSav S = gSav G ∧ gSvd S = gSvd G ∧ (∃ X, gHis S x = lCopy X (gLift G)) ∧ (∀ i, i ≠ x → gHis S i = gHis G i) ∧ ∃ a', 1 ≤ a' ∧ (gRem G ≠ 0 → 2 ≤ a') ∧ HOk S a' ((x + 1) % 14) := by
  obtain ⟨h1, h2, h3, h4⟩ := h
  refine ⟨_, c_remember h2 h3 h4, rfl, rfl, rfl, rfl, rfl, rfl, ⟨_, va_up_at _ _ _⟩, fun i hi => va_up_nx _ _ hi, ?_⟩
  by_cases q : a = 14
  · subst q
    exact ⟨14, by decide, fun _ => by decide, by decide, Nat.mod_lt _ (by decide), by show (if (14 : Int32) ≤ nI 14 then nI 14 else nI 14 + 1) = _; rw [if_pos (by decide)], rfl⟩
  · exact ⟨a + 1, by omega, fun z => by
      have : a ≠ 0 := fun e => z (by rw [h3, e]; rfl)
      omega, by omega, Nat.mod_lt _ (by decide), by show (if (14 : Int32) ≤ nI a then nI a else nI a + 1) = _; rw [if_neg (show ¬ (14 : Int32) ≤ nI a from nI_ge (b := 14) (by omega) (by decide)), nI_1], rfl⟩
theorem undo_ok {G : GSt} {a x : Nat} (ha : 1 ≤ a) (hx : x < 14) (h : HOk G a ((x + 1) % 14)) : ∃ S, fL_undo G = some (lN (a - 1), S) ∧ gLift S = lCopy (gLift G) (gHis G x) ∧ gTrial S = gTrial G ∧ gTxt S = gTxt G ∧ gSav S = gSav G ∧ gSvd S = gSvd G ∧ gHis S = gHis G ∧ HOk S (a - 1) x := by
  obtain ⟨h1, h2, h3, h4⟩ := h
  have e0 : nI a - 1 = nI (a - 1) := by rw [← nI_pred (a - 1), show a - 1 + 1 = a by omega]
  unfold fL_undo fX4_undo
  rw [h3, if_neg (nI_ne0 (by omega) (by omega)), h4, e0]
  by_cases q : x = 13
  · subst q
    rw [if_pos (show nI ((13 + 1) % 14) ≤ 0 by decide), Option.bind_some, gm0, nI_l (by omega)]
    exact ⟨_, rfl, rfl, rfl, rfl, rfl, rfl, rfl, by omega, hx, rfl, rfl⟩
  · have e1 : (x + 1) % 14 = x + 1 := Nat.mod_eq_of_lt (by omega)
    rw [e1, if_neg (nI_nle (by omega) (by omega)), nI_pred, gd_nI (by omega) (by decide), nI_clamp (by omega), Option.bind_some, gm0, nI_l (by omega)]
    exact ⟨_, rfl, rfl, rfl, rfl, rfl, rfl, rfl, by omega, hx, rfl, rfl⟩
theorem undo_no {G : GSt} (h : gRem G = 0) : fL_undo G = some (-9000000000000000003, G) := by
  unfold fL_undo fX4_undo; rw [if_pos h, Option.bind_some]; rfl
-- the acts, told
section AC
variable {k n a x : Nat} {G : GSt} {L : LSt}
/-- behind an act: the other lift, the elder one remembered -/
def Act (G S : GSt) (L' : LSt) (x : Nat) : Prop := gLift S = L' ∧ gTxt S = gTxt G ∧ gSav S = gSav G ∧ gSvd S = gSvd G ∧ (∃ X, gHis S x = lCopy X (gLift G)) ∧ (∀ i, i ≠ x → gHis S i = gHis G i) ∧ ∃ a', 1 ≤ a' ∧ (gRem G ≠ 0 → 2 ≤ a') ∧ HOk S a' ((x + 1) % 14)
def wPl (L : LSt) (g : Nat) (v : Int32) : LSt := (lWe L, lCy L, lWr L, lPu L, lSl L, upd (lPl L) g v, lSp L, lSt L, lLi L, lN_ L, lStn L, lClk L, lRnd L)
def wHang (L : LSt) (g : Nat) (i : Int32) : LSt := (lWe L, lCy L, lWr L, lPu L, lSl L, upd (lPl L) g 0, upd (lSp L) g i, lSt L, lLi L, lN_ L, lStn L, lClk L, lRnd L)
theorem LOk_hang {g i : Nat} (h : LOk k n L) (hg : g < k) (hi : i < n) (hr : sCt (lBad L (nI i)) k = 0) : LOk k n (wHang L g (nI i)) := h.elim fun r q => ⟨_, RRel_hang q hg hi hr⟩
theorem LOk_pl {g : Nat} (h : LOk k n L) (hg : g < k) {v : Int32} (hv : v = 1 ∨ v = 3) : LOk k n (wPl L g v) := by
  obtain ⟨r, q⟩ := h
  have hk := q.k12
  refine ⟨upd r (60 + g) v, RRel_cell q hg ⟨rfl, rfl, rfl, rfl, rfl⟩ (fun i hi => ⟨rfl, rfl, rfl, rfl, rfl, upd_ne hi, rfl, rfl⟩) (fun i h1 h2 => upd_ne (by omega)) ?_ (fun z => ?_)⟩
  · obtain ⟨c0, c1, c2, c3, c4, c5, c6⟩ := q.cell g hg
    unfold CellOk
    simp (disch := omega) only [wPl, lWe, lCy, lWr, lPu, lSl, lPl, lSp, lSt, lLi, upd_at, upd_ne, c0, c1, c2, c3, c4]
    refine ⟨trivial, trivial, trivial, trivial, trivial, trivial, ?_⟩
    rcases hv with rfl | rfl
    · exact Or.inr (Or.inl rfl)
    · exact Or.inr (Or.inr (Or.inr rfl))
  · rw [show lPl (wPl L g v) g = v from upd_at] at z
    rcases hv with rfl | rfl <;> exact absurd z (by decide)
theorem act_step (hL : gLift G = L) (h : LOk k n L) (hh : HOk G a x) {m : Nat} (h1 : 1 ≤ m) (h9 : m ≤ 99) : ∃ S, fL_step G (nI m) = some (lN (cN (itL L m) k 2), S) ∧ Act G S (itL L m) x := by
  obtain ⟨S, s1, s2, s3, s4, s5, s6, s7, s8, s9, s10⟩ := rem_ok hh
  have hk := h.k12
  have := cN_le (itL L m) k 2
  subst hL
  refine ⟨(itL (gLift G) m, gTrial S, gTxt S, gSum S, gHis S, gSav S, gSvd S, gRem S, gNxt S), ?_, rfl, s4, s6, s7, s8, s9, s10⟩
  unfold fL_step fX4_step
  rw [isStepY h1 h9, Option.bind_some, if_neg (by decide), s1, Option.bind_some, s2, h.advBy (by omega), Option.bind_some, (h.it m).count (by decide), Option.bind_some, Option.bind_some, gm0, nI_l (by exact Nat.lt_of_le_of_lt this (by omega))]
  rfl
theorem act_put (hL : gLift G = L) (h : LOk k n L) (hh : HOk G a x) {g i : Nat} (hg : g < k) (hi : i < n) (hp : lPl L g = 1) (hr : sCt (lBad L (nI i)) k = 0) : ∃ S, fL_putOn G (nI g) (nI i) = some (lN (cN L k 0 + 1), S) ∧ Act G S (wHang L g (nI i)) x := by
  obtain ⟨S, s1, s2, s3, s4, s5, s6, s7, s8, s9, s10⟩ := rem_ok hh
  have hk := h.k12
  obtain ⟨M, hrr, hN⟩ := h.m 0
  have hroom := (rc_isFree hrr hN (nI i)).1
  rw [if_pos hr] at hroom
  have cnt := sCt_one (p := fun j => decide (lPl L j = nI 0)) (q := fun j => decide (lPl (wHang L g (nI i)) j = nI 0)) hg (fun j hj hne => by show decide (lPl L j = nI 0) = decide (upd (lPl L) g 0 j = nI 0); rw [upd_ne hne])
  rw [if_neg (show ¬ decide (lPl L g = nI 0) = true by rw [hp]; decide), if_pos (show decide (lPl (wHang L g (nI i)) g = nI 0) = true by rw [show lPl (wHang L g (nI i)) g = 0 from upd_at]; decide)] at cnt
  have cnt : cN (wHang L g (nI i)) k 0 = cN L k 0 + 1 := cnt
  have := cN_le (wHang L g (nI i)) k 0
  subst hL
  refine ⟨(wHang (gLift G) g (nI i), gTrial S, gTxt S, gSum S, gHis S, gSav S, gSvd S, gRem S, gNxt S), ?_, rfl, s4, s6, s7, s8, s9, s10⟩
  unfold fL_putOn fX4_putOn fX0_hang
  rw [h.hasY hg, Option.bind_some, if_neg (by decide), h.slotY hi, Option.bind_some, if_neg (by decide), isInY h hg, if_pos hp, Option.bind_some, if_neg (by decide), hroom, Option.bind_some, if_neg (by decide), s1, Option.bind_some, s2, gd_nI (by omega) (by decide), nI_clamp (by omega), Option.bind_some]
  show (((fX0_count (wHang (gLift G) g (nI i)) 0)).bind _).bind _ = _
  rw [(LOk_hang h hg hi hr).count (by decide), Option.bind_some, Option.bind_some, gm0]
  show some ((nI (cN (wHang (gLift G) g (nI i)) k 0)).toInt64, _) = _
  rw [nI_l (by omega), cnt]
  rfl
theorem act_put_no (hL : gLift G = L) (h : LOk k n L) {g i : Nat} (hg : g < k) (hi : i < n) (hno : ¬ (lPl L g = 1 ∧ sCt (lBad L (nI i)) k = 0)) : fL_putOn G (nI g) (nI i) = some (-9000000000000000003, G) := by
  obtain ⟨M, hrr, hN⟩ := h.m 0
  have hroom := (rc_isFree hrr hN (nI i)).1
  unfold fL_putOn fX4_putOn
  rw [hL, h.hasY hg, Option.bind_some, if_neg (by decide), h.slotY hi, Option.bind_some, if_neg (by decide), isInY h hg]
  by_cases hp : lPl L g = 1
  · rw [if_pos hp, Option.bind_some, if_neg (by decide), hroom, if_neg (fun z => hno ⟨hp, z⟩), Option.bind_some, if_pos rfl, Option.bind_some]; rfl
  · rw [if_neg hp, Option.bind_some, if_pos rfl, Option.bind_some]; rfl
theorem act_take (hL : gLift G = L) (h : LOk k n L) (hh : HOk G a x) {g i : Nat} (hg : g < k) (hi : i < n) (hp : lPl L g = 0) (hs : lSp L g = nI i) : ∃ S, fL_takeOff G (nI g) = some (lN i, S) ∧ Act G S (wPl L g 1) x := by
  obtain ⟨S, s1, s2, s3, s4, s5, s6, s7, s8, s9, s10⟩ := rem_ok hh
  have hk := h.k12
  have hn := h.n20
  subst hL
  refine ⟨(wPl (gLift G) g 1, gTrial S, gTxt S, gSum S, gHis S, gSav S, gSvd S, gRem S, gNxt S), ?_, rfl, s4, s6, s7, s8, s9, s10⟩
  unfold fL_takeOff fX4_takeOff fX0_move
  rw [h.hasY hg, Option.bind_some, if_neg (by decide), isInY h hg, if_pos hp, Option.bind_some, if_neg (by decide), s1, Option.bind_some, gd_nI (by omega) (by decide), s2, gd_nI (by omega) (by decide), nI_clamp (by omega), Option.bind_some, Option.bind_some, gm0, hs, nI_l (by omega)]
  rfl
theorem act_scrap (hL : gLift G = L) (h : LOk k n L) (hh : HOk G a x) {g : Nat} (hg : g < k) (hp : ¬ lPl L g = 3) : ∃ S, fL_scrap G (nI g) = some ((lPl L g).toInt64, S) ∧ Act G S (wPl L g 3) x := by
  obtain ⟨S, s1, s2, s3, s4, s5, s6, s7, s8, s9, s10⟩ := rem_ok hh
  have hk := h.k12
  subst hL
  refine ⟨(wPl (gLift G) g 3, gTrial S, gTxt S, gSum S, gHis S, gSav S, gSvd S, gRem S, gNxt S), ?_, rfl, s4, s6, s7, s8, s9, s10⟩
  unfold fL_scrap fX4_scrap fX0_move
  rw [h.hasY hg, Option.bind_some, if_neg (by decide), isInY h hg, if_neg hp, Option.bind_some, if_pos rfl, s1, Option.bind_some, gd_nI (by omega) (by decide), s2, gd_nI (by omega) (by decide), nI_clamp (by omega), Option.bind_some, Option.bind_some, gm0]
  rfl
theorem act_scrap_no (hL : gLift G = L) (h : LOk k n L) {g : Nat} (hg : g < k) (hp : lPl L g = 3) : fL_scrap G (nI g) = some (-9000000000000000003, G) := by
  unfold fL_scrap fX4_scrap
  rw [hL, h.hasY hg, Option.bind_some, if_neg (by decide), isInY h hg, if_pos hp, Option.bind_some, if_neg (by decide), Option.bind_some]; rfl
theorem act_lim (hL : gLift G = L) (hh : HOk G a x) {v : Nat} (h1 : 1 ≤ v) (h9 : v ≤ 99) : ∃ S, fL_setLimit G 0 (nI v) = some ((lLi L 0).toInt64, S) ∧ Act G S (wLim L (nI v)) x := by
  obtain ⟨S, s1, s2, s3, s4, s5, s6, s7, s8, s9, s10⟩ := rem_ok hh
  subst hL
  refine ⟨(wLim (gLift G) (nI v), gTrial S, gTxt S, gSum S, gHis S, gSav S, gSvd S, gRem S, gNxt S), ?_, rfl, s4, s6, s7, s8, s9, s10⟩
  unfold fL_setLimit fX4_setLimit
  rw [c_isLimit, if_pos ⟨by decide, nI_le (a := 1) h1 (by omega), nI_le (b := 99) h9 (by decide)⟩, Option.bind_some, if_neg (by decide), s1, Option.bind_some, s2]
  show ((gd (nI 0) 5 _)).bind _ = _
  rw [gd_nI (by decide) (by decide), Option.bind_some, gm0]
  rfl
theorem LOk_add {k n : Nat} {L : LSt} (h : LOk k n L) (hk : k < 12) (w : Int32) : LOk (k + 1) n (addL L k w) := by
  refine h.elim fun r hr => ⟨fun c => if c = 96 then nI (k + 1) else if c < 96 ∧ c % 12 = k then (if c / 12 = 0 then w else if c / 12 = 4 then -9 else if c / 12 = 5 then 1 else 0) else r c, RRel_add hr hk w ?_ ?_ ?_ ?_ ?_ ?_ ?_ ?_⟩
  · show (if k = 96 then _ else _) = _
    rw [if_neg (by omega), if_pos (by omega), if_pos (by omega)]
  · show (if 12 + k = 96 then _ else _) = _
    rw [if_neg (by omega), if_pos (by omega), if_neg (by omega), if_neg (by omega), if_neg (by omega)]
  · show (if 24 + k = 96 then _ else _) = _
    rw [if_neg (by omega), if_pos (by omega), if_neg (by omega), if_neg (by omega), if_neg (by omega)]
  · show (if 36 + k = 96 then _ else _) = _
    rw [if_neg (by omega), if_pos (by omega), if_neg (by omega), if_neg (by omega), if_neg (by omega)]
  · show (if 48 + k = 96 then _ else _) = _
    rw [if_neg (by omega), if_pos (by omega), if_neg (by omega), if_pos (by omega)]
  · show (if 60 + k = 96 then _ else _) = _
    rw [if_neg (by omega), if_pos (by omega), if_neg (by omega), if_neg (by omega), if_pos (by omega)]
  · exact if_pos rfl
  · intro i h1 h2 h3
    show (if i = 96 then _ else _) = _
    rw [if_neg h2, if_neg (fun z => h3 z.1 z.2)]
theorem act_add (hL : gLift G = L) (h : LOk k n L) (hh : HOk G a x) (hk : k < 12) : ∃ S, fL_addGrip G 2 = some (lN k, S) ∧ Act G S (addL L k 2) x := by
  obtain ⟨S, s1, s2, s3, s4, s5, s6, s7, s8, s9, s10⟩ := rem_ok hh
  obtain ⟨M, hrr, hN⟩ := h.m 0
  subst hL
  have hA := LOk_add h hk 2
  refine ⟨(addL (gLift G) k 2, gTrial S, gTxt S, gSum S, gHis S, gSav S, gSvd S, gRem S, gNxt S), ?_, rfl, s4, s6, s7, s8, s9, s10⟩
  unfold fL_addGrip fX4_addGrip
  rw [if_neg (by decide), if_pos (by decide), rc_isFull hrr, if_neg (by omega), Option.bind_some, if_pos rfl, s1, Option.bind_some, s2, c_add hk h.grips, Option.bind_some, hA.grips, Option.bind_some, Option.bind_some, gm0, nI_pred, nI_l (by omega)]
theorem act_rnd (hL : gLift G = L) (hh : HOk G a x) (y : Int64) : ∃ v S, fX4_setRandom G y = some (v, S) ∧ Act G S (wRnd L y) x := by
  obtain ⟨S, s1, s2, s3, s4, s5, s6, s7, s8, s9, s10⟩ := rem_ok hh
  subst hL
  refine ⟨lRnd (gLift G), (wRnd (gLift G) y, gTrial S, gTxt S, gSum S, gHis S, gSav S, gSvd S, gRem S, gNxt S), ?_, rfl, s4, s6, s7, s8, s9, s10⟩
  unfold fX4_setRandom
  rw [s1, Option.bind_some, s2]
  rfl
/-- an act undone, readings between -/
theorem act_undo {S S' : GSt} {L' : LSt} (hA : Act G S L' x) (hx : x < 14) (hs : SEq S S') : ∃ v U, fL_undo S' = some (lN v, U) ∧ v < 14 ∧ CL (gLift G) (gLift U) ∧ tSg (gTxt U) = tSg (gTxt G) ∧ gSav U = gSav G ∧ gSvd U = gSvd G ∧ (∀ i, i ≠ x → gHis U i = gHis G i) ∧ ∃ a', (gRem G ≠ 0 → 1 ≤ a') ∧ HOk U a' x := by
  obtain ⟨a1, a2, a3, a4, ⟨X, a5⟩, a6, a', a7, a9, a8⟩ := hA
  obtain ⟨b1, b2, b3, b4, b5, b6, b7⟩ := hs
  have hh : HOk S' a' ((x + 1) % 14) := ⟨a8.1, a8.2.1, b6.trans a8.2.2.1, b7.trans a8.2.2.2⟩
  obtain ⟨U, u1, u2, u3, u4, u5, u6, u7, u8⟩ := undo_ok a7 hx hh
  have h14 := a8.1
  refine ⟨a' - 1, U, u1, by omega, ?_, by rw [u4, b2, a2], by rw [u5, b4, a3], by rw [u6, b5, a4], fun i hi => by rw [u7, b3, a6 i hi], a' - 1, fun z => by have := a9 z; omega, u8⟩
  rw [u2, b3, a5]
  exact (CL.copy X).tr (CL.copy _)
end AC

/-! PURE LEVEL of the property: what the readings leave as it was -/
def K3 (G G' : GSt) : Prop := gLift G' = gLift G ∧ gHis G' = gHis G ∧ gSav G' = gSav G
theorem K3.rf {G : GSt} : K3 G G := ⟨rfl, rfl, rfl⟩
theorem K3.tr {G G' G'' : GSt} (h : K3 G G') (h2 : K3 G' G'') : K3 G G'' := ⟨h2.1.trans h.1, h2.2.1.trans h.2.1, h2.2.2.trans h.2.2⟩
theorem HX.k3 {B : Nat} {G G' : GSt} (h : HX B G) (hk : K3 G G') : HX B G' := by
  obtain ⟨a, b, c⟩ := hk
  unfold HX
  rw [a, b, c]; exact h
def AllP {α : Type} (P : α → Prop) (o : Option α) : Prop := ∀ r, o = some r → P r
section ALP
variable {α β : Type} {P : α → Prop} {P' : β → Prop}
theorem AllP.none : AllP P none := fun _ h => by cases h
theorem AllP.some {r : α} (h : P r) : AllP P (some r) := fun _ e => by cases e; exact h
theorem AllP.bind {o : Option β} {k : β → Option α} (h : ∀ a, AllP P (k a)) : AllP P (o.bind k) := fun r e => by
  cases o with
  | none => cases e
  | some a => exact h a r e
theorem AllP.bindP {o : Option β} {k : β → Option α} (ho : AllP P' o) (h : ∀ a, P' a → AllP P (k a)) : AllP P (o.bind k) := fun r e => by
  cases o with
  | none => cases e
  | some a => exact h a (ho a rfl) r e
theorem AllP.ite {c : Prop} [Decidable c] {x y : Option α} (hx : AllP P x) (hy : AllP P y) : AllP P (if c then x else y) := by
  by_cases q : c
  · rw [if_pos q]; exact hx
  · rw [if_neg q]; exact hy
theorem AllP.gd {i : Int32} {n : Nat} {k : Option α} (h : AllP P k) : AllP P (gd i n k) := AllP.ite AllP.none h
theorem AllP.gz {i : Int32} {k : Option α} (h : AllP P k) : AllP P (gz i k) := AllP.ite h AllP.none
end ALP
abbrev Q2 (G : GSt) : Int32 × GSt → Prop := fun r => K3 G r.2
abbrev Q3 (G : GSt) : Nat × Int32 × GSt → Prop := fun r => K3 G r.2.2
abbrev Q6 (G : GSt) : Int64 × GSt → Prop := fun r => K3 G r.2
theorem al_gmx {a b : Nat} {G : GSt} {o : Option (Nat × Int32 × GSt)} (h : AllP (Q3 G) o) : AllP (Q6 G) (o.bind (gmx a b)) := by
  refine AllP.bindP h (fun R hR => ?_)
  unfold gmx
  exact AllP.ite (AllP.some hR) (AllP.ite (AllP.some hR) AllP.none)
section ALQ
variable (G : GSt)
theorem al_gap (x : Int32) : AllP (Q3 G) (fX4_gap G x) := by
  unfold fX4_gap
  repeat (first | exact AllP.none | exact AllP.some K3.rf | (refine AllP.ite ?_ ?_) | (refine AllP.bind (fun _ => ?_)))
theorem al_room (x : Int32) : AllP (Q3 G) (fX4_room G x) := by
  unfold fX4_room
  repeat (first | exact AllP.none | exact AllP.some K3.rf | (refine AllP.ite ?_ ?_) | (refine AllP.bind (fun _ => ?_)))
theorem al_dueAfter (x : Int32) : AllP (Q3 G) (fX4_dueAfter G x) := by
  unfold fX4_dueAfter
  repeat (first | exact AllP.none | exact AllP.some K3.rf | (refine AllP.ite ?_ ?_) | (refine AllP.bind (fun _ => ?_)))
theorem al_slot (x : Int32) : AllP (Q3 G) (fX4_slot G x) := by
  unfold fX4_slot
  repeat (first | exact AllP.none | exact AllP.some K3.rf | (refine AllP.ite ?_ ?_) | (refine AllP.bind (fun _ => ?_)))
theorem al_groupsL : ∀ (n : Nat) (S : GSt) (x1 x2 x3 x4 x5 : Int32), AllP (Q3 S) (fX4_groups_L30 n S x1 x2 x3 x4 x5) := by
  intro n
  induction n with
  | zero => intro S x1 x2 x3 x4 x5; exact AllP.none
  | succ n ih =>
    intro S x1 x2 x3 x4 x5
    rw [fX4_groups_L30]
    repeat (first | exact AllP.none | exact AllP.some K3.rf | exact ih _ _ _ _ _ _ | (refine AllP.ite ?_ ?_) | (refine AllP.bind (fun _ => ?_)))
theorem al_groups (x : Int32) : AllP (Q3 G) (fX4_groups G x) := by
  unfold fX4_groups
  repeat (first | exact AllP.none | exact AllP.some K3.rf | exact al_groupsL _ _ _ _ _ _ _ | (refine AllP.ite ?_ ?_) | (refine AllP.bind (fun _ => ?_)))
theorem al_chanceL : ∀ (n : Nat) (S : GSt) (x1 x4 x5 x6 : Int32), AllP (Q3 S) (fX4_chance_L50 n S x1 x4 x5 x6) := by
  intro n
  induction n with
  | zero => intro S x1 x4 x5 x6; exact AllP.none
  | succ n ih =>
    intro S x1 x4 x5 x6
    rw [fX4_chance_L50]
    repeat (first | exact AllP.none | exact AllP.some K3.rf | exact ih _ _ _ _ _ | (refine AllP.ite ?_ ?_))
theorem al_chance (x y : Int32) : AllP (Q3 G) (fX4_chance G x y) := by
  unfold fX4_chance
  repeat (first | exact AllP.none | exact AllP.some K3.rf | exact al_chanceL _ _ _ _ _ _ | (refine AllP.ite ?_ ?_))
theorem al_ahead (x y z : Int32) : AllP (Q3 G) (fX4_ahead G x y z) := by
  unfold fX4_ahead
  repeat (first | exact AllP.none | exact AllP.some K3.rf | exact AllP.some ⟨rfl, rfl, rfl⟩ | (refine AllP.ite ?_ ?_) | (refine AllP.bind (fun _ => ?_)))
theorem al_happensL : ∀ (n : Nat) (S : GSt) (x1 x2 x3 x4 : Int32), AllP (Q3 S) (fX4_happens_L42 n S x1 x2 x3 x4) := by
  intro n
  induction n with
  | zero => intro S x1 x2 x3 x4; exact AllP.none
  | succ n ih =>
    intro S x1 x2 x3 x4
    rw [fX4_happens_L42]
    refine AllP.ite (AllP.some K3.rf) (AllP.bind (fun r => ?_))
    exact fun R hR => ih (gLift S, r.2, gTxt S, gSum S, gHis S, gSav S, gSvd S, gRem S, gNxt S) _ _ _ _ R hR
theorem al_happens (x y : Int32) : AllP (Q3 G) (fX4_happens G x y) := by
  unfold fX4_happens
  refine AllP.bind (fun r1 => AllP.ite (AllP.some K3.rf) (AllP.ite (AllP.some K3.rf) (AllP.ite ?_ (AllP.some K3.rf))))
  exact fun R hR => al_happensL _ (gLift G, lCopy (gTrial G) (gLift G), gTxt G, gSum G, gHis G, gSav G, gSvd G, gRem G, gNxt G) _ _ _ _ R hR
theorem al_slipL : ∀ (n : Nat) (S : GSt) (x2 x3 : Int32), AllP (Q2 S) (fX4_isSlipFree_L23 n S x2 x3) := by
  intro n
  induction n with
  | zero => intro S x2 x3; exact AllP.none
  | succ n ih =>
    intro S x2 x3
    rw [fX4_isSlipFree_L23]
    refine AllP.ite (AllP.some K3.rf) (AllP.bind (fun r => AllP.ite ?_ (AllP.some ⟨rfl, rfl, rfl⟩)))
    exact fun R hR => ih (gLift S, r.2, gTxt S, gSum S, gHis S, gSav S, gSvd S, gRem S, gNxt S) _ _ R hR
theorem al_slip (x y : Int32) : AllP (Q2 G) (fX4_isSlipFree G x y) := by
  unfold fX4_isSlipFree
  intro R hR
  have h := al_slipL _ _ _ _ R hR
  exact h
theorem al_bestL : ∀ (n : Nat) (S : GSt) (x1 x2 : Int32), AllP (Q3 S) (fX4_bestLimit_L23 n S x1 x2) := by
  intro n
  induction n with
  | zero => intro S x1 x2; exact AllP.none
  | succ n ih =>
    intro S x1 x2
    rw [fX4_bestLimit_L23]
    refine AllP.ite (AllP.some K3.rf) (AllP.bindP (al_slip S _ _) (fun r hr => AllP.ite ?_ (AllP.some hr)))
    exact fun R hR => K3.tr hr (ih r.2 _ _ R hR)
theorem al_bestLimit (x : Int32) : AllP (Q3 G) (fX4_bestLimit G x) := by
  unfold fX4_bestLimit
  exact AllP.bind (fun r1 => AllP.ite (AllP.some K3.rf) (al_bestL _ _ _ _))
theorem al_emptyL : ∀ (n : Nat) (S : GSt) (x1 : Int32), AllP (Q2 S) (fX4_emptyAfter_L13 n S x1) := by
  intro n
  induction n with
  | zero => intro S x1; exact AllP.none
  | succ n ih =>
    intro S x1
    rw [fX4_emptyAfter_L13]
    refine AllP.ite (AllP.some K3.rf) (AllP.bind (fun r => AllP.ite (AllP.some K3.rf) (AllP.bind (fun r2 => ?_))))
    exact fun R hR => ih (gLift S, r2.2, gTxt S, gSum S, gHis S, gSav S, gSvd S, gRem S, gNxt S) _ R hR
theorem al_emptyAfter : AllP (Q2 G) (fX4_emptyAfter G) := by
  unfold fX4_emptyAfter
  exact fun R hR => al_emptyL _ (gLift G, lCopy (gTrial G) (gLift G), gTxt G, gSum G, gHis G, gSav G, gSvd G, gRem G, gNxt G) _ R hR
theorem al_errorPosition : AllP (Q2 G) (fX4_errorPosition G) := by
  unfold fX4_errorPosition
  exact AllP.bind (fun r => AllP.some ⟨rfl, rfl, rfl⟩)
theorem al_tput (x y : Int32) : AllP (Q2 G) (fX4_triesPutting G x y) := by
  unfold fX4_triesPutting
  repeat (first | exact AllP.none | exact AllP.some K3.rf | exact AllP.some ⟨rfl, rfl, rfl⟩ | (refine AllP.ite ?_ ?_) | (refine AllP.bind (fun _ => ?_)))
theorem al_ttake (x : Int32) : AllP (Q2 G) (fX4_triesTaking G x) := by
  unfold fX4_triesTaking
  repeat (first | exact AllP.none | exact AllP.some K3.rf | exact AllP.some ⟨rfl, rfl, rfl⟩ | (refine AllP.ite ?_ ?_) | (refine AllP.bind (fun _ => ?_)))
theorem al_tlim (x y : Int32) : AllP (Q2 G) (fX4_triesLimit G x y) := by
  unfold fX4_triesLimit
  exact AllP.bind (fun r => AllP.ite (AllP.some K3.rf) (AllP.gd (AllP.some ⟨rfl, rfl, rfl⟩)))
theorem al_obeys (x : Int32) : AllP (Q2 G) (fX4_obeys G x) := by
  unfold fX4_obeys
  repeat (first | exact AllP.none | exact AllP.some K3.rf | exact AllP.some ⟨rfl, rfl, rfl⟩ | exact AllP.some (by assumption) | (refine AllP.ite ?_ ?_) | (refine AllP.gd ?_) | (refine AllP.gz ?_) | (refine AllP.bindP (al_tput G _ _) (fun r hr => ?_)) | (refine AllP.bindP (al_ttake G _) (fun r hr => ?_)) | (refine AllP.bindP (al_tlim G _ _) (fun r hr => ?_)) | (refine AllP.bind (fun _ => ?_)))
theorem al_scriptL : ∀ (n : Nat) (S : GSt) (x1 : Int32) (x2 : Int64) (x4 : Int32), AllP (Q3 S) (fX4_runScript_L60 n S x1 x2 x4) := by
  intro n
  induction n with
  | zero => intro S x1 x2 x4; exact AllP.none
  | succ n ih =>
    intro S x1 x2 x4
    rw [fX4_runScript_L60]
    refine AllP.ite (AllP.some K3.rf) (AllP.bind (fun r => AllP.bindP (al_obeys S _) (fun r2 hr => AllP.ite (AllP.some hr) ?_)))
    exact fun R hR => K3.tr hr (ih r2.2 _ _ _ R hR)
theorem al_runScript (x : Int32) (y : Int64) : AllP (Q3 G) (fX4_runScript G x y) := by
  unfold fX4_runScript
  refine AllP.ite (AllP.some K3.rf) (AllP.ite (AllP.ite (AllP.some K3.rf) (AllP.bind (fun r => AllP.ite ?_ (AllP.some K3.rf)))) (AllP.some K3.rf))
  exact fun R hR => al_scriptL _ (gLift G, lCopy (gTrial G) (gLift G), gTxt G, gSum G, gHis G, gSav G, gSvd G, gRem G, gNxt G) _ _ _ R hR
theorem al_simulate (x : Int64) (y : Int32) : AllP (Q3 G) (fX4_simulate G x y) := by
  unfold fX4_simulate
  exact AllP.bind (fun r => AllP.ite (AllP.some K3.rf) (AllP.bind (fun r => AllP.bind (fun r => AllP.bind (fun r => AllP.some ⟨rfl, rfl, rfl⟩)))))
theorem al_dg (X : LSt × SSt) (x : Int32) : AllP (fun r : LSt × SSt => r.1 = X.1) (fX0_describeGrip X x) := by
  unfold fX0_describeGrip
  repeat (first | exact AllP.none | exact AllP.some rfl | (refine AllP.ite ?_ ?_) | (refine AllP.gd ?_) | (refine AllP.bind (fun _ => ?_)))
theorem al_dL : ∀ (n : Nat) (X : LSt × SSt) (x : Int32), AllP (fun r : LSt × SSt => r.1 = X.1) (fX0_describe_L6 n X x) := by
  intro n
  induction n with
  | zero => intro X x; exact AllP.none
  | succ n ih =>
    intro X x
    rw [fX0_describe_L6]
    refine AllP.ite (AllP.some rfl) (AllP.gd (AllP.ite (ih _ _) (AllP.bindP (al_dg X _) (fun r hr => ?_))))
    exact fun R hR => (ih r _ R hR).trans hr
theorem al_report (x : Int32) : AllP (Q3 G) (fX4_report G x) := by
  unfold fX4_report fX0_describe
  refine AllP.ite (AllP.bindP (P' := fun r : LSt × SSt => r.1 = gLift G) (AllP.bind (fun Z => ?_)) (fun r hr => AllP.bind (fun r2 => AllP.some ⟨hr, rfl, rfl⟩))) (AllP.some K3.rf)
  exact fun R hR => al_dL _ _ _ R hR
end ALQ
def R3 (P0 P Q : GSt) : Prop := RR P Q ∧ K3 P0 P
theorem r6 {P0 P Q : GSt} {o1 o2 : Option (Int64 × GSt)} (hp : ∃ v P' Q', o1 = some (v, P') ∧ o2 = some (v, Q') ∧ RR P' Q') (hk : AllP (Q6 P) o1) (h0 : R3 P0 P Q) : ∃ v P' Q', o1 = some (v, P') ∧ o2 = some (v, Q') ∧ R3 P0 P' Q' := by
  obtain ⟨v, P', Q', e1, e2, h⟩ := hp
  exact ⟨v, P', Q', e1, e2, h, h0.2.tr (hk _ e1)⟩
theorem r2 {P0 P Q : GSt} {o1 o2 : Option (Int32 × GSt)} (hp : ∃ v P' Q', o1 = some (v, P') ∧ o2 = some (v, Q') ∧ RR P' Q') (hk : AllP (Q2 P) o1) (h0 : R3 P0 P Q) : ∃ v P' Q', o1 = some (v, P') ∧ o2 = some (v, Q') ∧ R3 P0 P' Q' := by
  obtain ⟨v, P', Q', e1, e2, h⟩ := hp
  exact ⟨v, P', Q', e1, e2, h, h0.2.tr (hk _ e1)⟩
set_option maxHeartbeats 4000000 in
/-- ALIKE, and what it leaves -/
theorem alike3 {P0 P Q : GSt} (h : R3 P0 P Q) (x : Int32) : ∃ X, fL_alike (P, Q) x = some X ∧ R3 P0 X.1 X.2 := by
  have two : ∃ b : Int32, (if (x - x / 2 * 2) = 0 then some 1 else some 0 : Option Int32) = some b := by split <;> exact ⟨_, rfl⟩
  obtain ⟨bb, hbb⟩ := two
  unfold fL_alike
  obtain ⟨v, e1, e2⟩ := p_now h.1
  refine bE e1 (bE e2 (iE (lq rfl) ?_))
  obtain ⟨v, P, Q, e1, e2, h⟩ := r2 (p_errorPosition h.1) (al_errorPosition _) h
  refine bE e1 (bE e2 (iE rfl ?_))
  obtain ⟨v, P, Q, e1, e2, h⟩ := r2 (p_emptyAfter h.1) (al_emptyAfter _) h
  refine bE e1 (bE e2 (iE rfl ?_))
  obtain ⟨v, P, Q, e1, e2, h⟩ := r6 (p_bestLimit h.1 (1 + ((x / 12) - (x / 12) / 60 * 60))) (al_gmx (al_bestLimit _ _)) h
  refine bE e1 (bE e2 (iE (lq rfl) ?_))
  obtain ⟨v, P, Q, e1, e2, h⟩ := r6 (p_ahead h.1 (x - x / 12 * 12) (1 + ((x / 12) - (x / 12) / 60 * 60)) (x - x / 8 * 8)) (al_gmx (al_ahead _ _ _ _)) h
  refine bE e1 (bE e2 (iE (lq rfl) ?_))
  obtain ⟨v, P, Q, e1, e2, h⟩ := r6 (p_gap h.1 (x - x / 12 * 12)) (al_gmx (al_gap _ _)) h
  refine bE e1 (bE e2 (iE (lq rfl) ?_))
  obtain ⟨v, P, Q, e1, e2, h⟩ := r6 (p_dueAfter h.1 (x - x / 12 * 12)) (al_gmx (al_dueAfter _ _)) h
  refine bE e1 (bE e2 (iE (lq rfl) ?_))
  obtain ⟨v, P, Q, e1, e2, h⟩ := r6 (p_chance h.1 (1 + (x - x / 9 * 9)) bb) (al_gmx (al_chance _ _ _)) h
  refine bE hbb (bE e1 (bE hbb (bE e2 (iE (lq rfl) ?_))))
  obtain ⟨v, P, Q, e1, e2, h⟩ := r6 (p_slot h.1 (x - x / 20 * 20)) (al_gmx (al_slot _ _)) h
  refine bE e1 (bE e2 (iE (lq rfl) ?_))
  refine run_inv (fun f S i => fL_alike_L196 _ f S x (1 + ((x / 12) - (x / 12) / 60 * 60)) (nI i)) (fun _ S => R3 P0 S.1 S.2) (fun X => R3 P0 X.1 X.2) 4 (fun i f S hi hI => ?_) (fun f S hI => ?_) 4 0 5 (P, Q) rfl (by decide) (by decide) h
  · obtain ⟨P, Q⟩ := S
    obtain ⟨v, P, Q, e1, e2, h⟩ := r6 (p_happens hI.1 (1 + ((x / 12) - (x / 12) / 60 * 60)) (nI i)) (al_gmx (al_happens _ _ _)) hI
    obtain ⟨v3, P3, Q3, e3, e4, h⟩ := r6 (p_room h.1 (nI i)) (al_gmx (al_room _ _)) h
    obtain ⟨v5, P5, Q5, e5, e6, h⟩ := r6 (p_groups h.1 (nI i)) (al_gmx (al_groups _ _)) h
    obtain ⟨v7, P7, Q7, e7, e8, h⟩ := r6 (p_report h.1 ((x + (7 * nI i)) - (x + (7 * nI i)) / 60 * 60)) (al_gmx (al_report _ _)) h
    refine ⟨(P7, Q7), h, ?_⟩
    show fL_alike_L196 _ (f + 1) _ x _ (nI i) = _
    rw [fL_alike_L196, if_neg (show ¬ (4 : Int32) ≤ nI i from nI_ge (b := 4) hi (by decide))]
    refine bS e1 (bS e2 (iS (lq rfl) (bS e3 (bS e4 (iS (lq rfl) (bS e5 (bS e6 (iS (lq rfl) (bS e7 (bS e8 (iS (lq rfl) ?_)))))))))))
    show fL_alike_L196 _ f (P7, Q7) x _ (nI i + 1) = _
    rw [nI_1]
  · obtain ⟨P, Q⟩ := S
    show ∃ r, fL_alike_L196 _ (f + 1) _ x _ (nI 4) = some r ∧ _
    rw [fL_alike_L196, if_pos (show (4 : Int32) ≤ nI 4 by decide)]
    obtain ⟨v, P, Q, e1, e2, h⟩ := r6 (p_script hI.1 2 ((100000 * ((((10000 * (1 + (x - x / 8 * 8))) + ((x / 8) - (x / 8) / 10000 * 10000))).toInt64)) + (((x - x / 100000 * 100000)).toInt64))) (al_gmx (al_runScript _ _ _)) hI
    refine bE e1 (bE e2 (iE (lq rfl) ?_))
    obtain ⟨v, P, Q, e1, e2, h⟩ := r6 (p_simulate h.1 ((x).toInt64) (1 + ((x / 12) - (x / 12) / 60 * 60))) (al_gmx (al_simulate _ _ _)) h
    exact bE e1 (bE e2 (iE (lq rfl) ⟨_, rfl, h⟩))
theorem alike_hx {B : Nat} {P Q : GSt} (h : RR P Q) (hB : HX B P) (x : Int32) : ∃ X, fL_alike (P, Q) x = some X ∧ RR X.1 X.2 ∧ HX B X.1 := by
  obtain ⟨X, e, h1, h2⟩ := alike3 (P0 := P) ⟨h, K3.rf⟩ x
  exact ⟨X, e, h1, hB.k3 h2⟩

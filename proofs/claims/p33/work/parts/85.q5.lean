/-! PURE LEVEL of the property: two inspectors that mean the same -/
def RR (P Q : GSt) : Prop := ∃ M, GRel P M ∧ GRel Q M
theorem RR.eq1 {P Q P' : GSt} (h : RR P Q) (hs : SEq P P') : RR P' Q := h.elim fun M hM => ⟨M, hs.rel hM.1, hM.2⟩
theorem RR.eq2 {P Q Q' : GSt} (h : RR P Q) (hs : SEq Q Q') : RR P Q' := h.elim fun M hM => ⟨M, hM.1, hs.rel hM.2⟩
theorem code_one {a b k k' : Nat} (ha : a ≠ 0) (hb : b ≠ 0) (hab : a ≠ b) (h : k = 0 ∨ k = a ∨ (k = b ∧ b ≠ 9)) (h' : k' = 0 ∨ k' = a ∨ (k' = b ∧ b ≠ 9)) (he : (if k = a then (1 : Int32) else if k = b then 2 else 0) = (if k' = a then 1 else if k' = b then 2 else 0)) : k = k' := by
  have d1 : ¬ (1 : Int32) = 2 := by decide
  have d2 : ¬ (1 : Int32) = 0 := by decide
  have d3 : ¬ (2 : Int32) = 0 := by decide
  by_cases e1 : k = a
  · rw [if_pos e1] at he
    by_cases e2 : k' = a
    · rw [e1, e2]
    · rw [if_neg e2] at he
      by_cases e3 : k' = b
      · rw [if_pos e3] at he; exact absurd he d1
      · rw [if_neg e3] at he; exact absurd he d2
  · rw [if_neg e1] at he
    by_cases e2 : k' = a
    · rw [if_pos e2] at he
      by_cases e3 : k = b
      · rw [if_pos e3] at he; exact absurd he.symm d1
      · rw [if_neg e3] at he; exact absurd he.symm d2
    · rw [if_neg e2] at he
      by_cases e3 : k = b
      · rw [if_pos e3] at he
        by_cases e4 : k' = b
        · rw [e3, e4]
        · rw [if_neg e4] at he; exact absurd he d3
      · rw [if_neg e3] at he
        by_cases e4 : k' = b
        · rw [if_pos e4] at he; exact absurd he.symm d3
        · rcases h with z | z | z
          · rcases h' with y | y | y
            · rw [z, y]
            · exact absurd y e2
            · exact absurd y.1 e4
          · exact absurd z e1
          · exact absurd z.1 e3
/-- the same call of both: the same answer, and they still mean the same -/
theorem pair_op {a b : Nat} {CP CQ : Option (Nat × Int32 × GSt)} {RM : Option (Int32 × MSt)} (ha : a ≠ 0) (hb : b ≠ 0) (hab : a ≠ b) (hP : OpR a b CP RM) (hQ : OpR a b CQ RM) : ∃ v P' Q', CP.bind (gmx a b) = some (v, P') ∧ CQ.bind (gmx a b) = some (v, Q') ∧ RR P' Q' := by
  obtain ⟨k, v, P', w, M', h1, h2, h3, h4, h5, h6⟩ := hP
  obtain ⟨k', v', Q', w', M'', g1, g2, g3, g4, g5, g6⟩ := hQ
  rw [h2] at g2
  obtain ⟨rfl, rfl⟩ := Prod.mk.inj (Option.some.inj g2)
  obtain rfl := code_one ha hb hab h3 g3 (h4.symm.trans g4)
  rw [h1, g1, Option.bind_some, Option.bind_some]
  rcases h3 with z | z | z
  · subst z
    rw [gm0, gm0, h5 rfl, g5 rfl]
    exact ⟨_, P', Q', rfl, rfl, M', h6, g6⟩
  · subst z
    rw [gmA ha, gmA ha]
    exact ⟨_, P', Q', rfl, rfl, M', h6, g6⟩
  · obtain ⟨z1, z2⟩ := z
    subst z1
    rw [gmB hb z2, gmB hb z2]
    exact ⟨_, P', Q', rfl, rfl, M', h6, g6⟩
theorem p_append {P Q : GSt} (h : RR P Q) (x0 : Int32) : ∃ v P' Q', fL_append P x0 = some (v, P') ∧ fL_append Q x0 = some (v, Q') ∧ RR P' Q' := h.elim fun _ hM => pair_op (a := 1) (b := 2) (by decide) (by decide) (by decide) (o_append hM.1 x0) (o_append hM.2 x0)
theorem p_load {P Q : GSt} (h : RR P Q) : ∃ v P' Q', fL_load P = some (v, P') ∧ fL_load Q = some (v, Q') ∧ RR P' Q' := h.elim fun _ hM => pair_op (a := 2) (b := 9) (by decide) (by decide) (by decide) (o_load hM.1) (o_load hM.2)
theorem p_about {P Q : GSt} (h : RR P Q) (x0 : Int32) : ∃ v P' Q', fL_about P x0 = some (v, P') ∧ fL_about Q x0 = some (v, Q') ∧ RR P' Q' := h.elim fun _ hM => pair_op (a := 1) (b := 9) (by decide) (by decide) (by decide) (o_about hM.1 x0) (o_about hM.2 x0)
theorem p_grip {P Q : GSt} (h : RR P Q) (x0 : Int32) (x1 : Int32) : ∃ v P' Q', fL_grip P x0 x1 = some (v, P') ∧ fL_grip Q x0 x1 = some (v, Q') ∧ RR P' Q' := h.elim fun _ hM => pair_op (a := 3) (b := 1) (by decide) (by decide) (by decide) (o_grip hM.1 x0 x1) (o_grip hM.2 x0 x1)
theorem p_slot {P Q : GSt} (h : RR P Q) (x0 : Int32) : ∃ v P' Q', fL_slot P x0 = some (v, P') ∧ fL_slot Q x0 = some (v, Q') ∧ RR P' Q' := h.elim fun _ hM => pair_op (a := 3) (b := 9) (by decide) (by decide) (by decide) (o_slot hM.1 x0) (o_slot hM.2 x0)
theorem p_report {P Q : GSt} (h : RR P Q) (x0 : Int32) : ∃ v P' Q', fL_report P x0 = some (v, P') ∧ fL_report Q x0 = some (v, Q') ∧ RR P' Q' := h.elim fun _ hM => pair_op (a := 1) (b := 9) (by decide) (by decide) (by decide) (o_report hM.1 x0) (o_report hM.2 x0)
theorem p_step {P Q : GSt} (h : RR P Q) (x0 : Int32) : ∃ v P' Q', fL_step P x0 = some (v, P') ∧ fL_step Q x0 = some (v, Q') ∧ RR P' Q' := h.elim fun _ hM => pair_op (a := 1) (b := 9) (by decide) (by decide) (by decide) (o_step hM.1 x0) (o_step hM.2 x0)
theorem p_addGrip {P Q : GSt} (h : RR P Q) (x0 : Int32) : ∃ v P' Q', fL_addGrip P x0 = some (v, P') ∧ fL_addGrip Q x0 = some (v, Q') ∧ RR P' Q' := h.elim fun _ hM => pair_op (a := 1) (b := 2) (by decide) (by decide) (by decide) (o_addGrip hM.1 x0) (o_addGrip hM.2 x0)
theorem p_putOn {P Q : GSt} (h : RR P Q) (x0 : Int32) (x1 : Int32) : ∃ v P' Q', fL_putOn P x0 x1 = some (v, P') ∧ fL_putOn Q x0 x1 = some (v, Q') ∧ RR P' Q' := h.elim fun _ hM => pair_op (a := 3) (b := 2) (by decide) (by decide) (by decide) (o_putOn hM.1 x0 x1) (o_putOn hM.2 x0 x1)
theorem p_takeOff {P Q : GSt} (h : RR P Q) (x0 : Int32) : ∃ v P' Q', fL_takeOff P x0 = some (v, P') ∧ fL_takeOff Q x0 = some (v, Q') ∧ RR P' Q' := h.elim fun _ hM => pair_op (a := 3) (b := 2) (by decide) (by decide) (by decide) (o_takeOff hM.1 x0) (o_takeOff hM.2 x0)
theorem p_scrap {P Q : GSt} (h : RR P Q) (x0 : Int32) : ∃ v P' Q', fL_scrap P x0 = some (v, P') ∧ fL_scrap Q x0 = some (v, Q') ∧ RR P' Q' := h.elim fun _ hM => pair_op (a := 3) (b := 2) (by decide) (by decide) (by decide) (o_scrap hM.1 x0) (o_scrap hM.2 x0)
theorem p_setLimit {P Q : GSt} (h : RR P Q) (x0 : Int32) (x1 : Int32) : ∃ v P' Q', fL_setLimit P x0 x1 = some (v, P') ∧ fL_setLimit Q x0 x1 = some (v, Q') ∧ RR P' Q' := h.elim fun _ hM => pair_op (a := 1) (b := 9) (by decide) (by decide) (by decide) (o_setLimit hM.1 x0 x1) (o_setLimit hM.2 x0 x1)
theorem p_undo {P Q : GSt} (h : RR P Q) : ∃ v P' Q', fL_undo P = some (v, P') ∧ fL_undo Q = some (v, Q') ∧ RR P' Q' := h.elim fun _ hM => pair_op (a := 2) (b := 9) (by decide) (by decide) (by decide) (o_undo hM.1) (o_undo hM.2)
theorem p_gap {P Q : GSt} (h : RR P Q) (x0 : Int32) : ∃ v P' Q', fL_gap P x0 = some (v, P') ∧ fL_gap Q x0 = some (v, Q') ∧ RR P' Q' := h.elim fun _ hM => pair_op (a := 3) (b := 9) (by decide) (by decide) (by decide) (o_gap hM.1 x0) (o_gap hM.2 x0)
theorem p_room {P Q : GSt} (h : RR P Q) (x0 : Int32) : ∃ v P' Q', fL_room P x0 = some (v, P') ∧ fL_room Q x0 = some (v, Q') ∧ RR P' Q' := h.elim fun _ hM => pair_op (a := 1) (b := 9) (by decide) (by decide) (by decide) (o_room hM.1 x0) (o_room hM.2 x0)
theorem p_groups {P Q : GSt} (h : RR P Q) (x0 : Int32) : ∃ v P' Q', fL_groups P x0 = some (v, P') ∧ fL_groups Q x0 = some (v, Q') ∧ RR P' Q' := h.elim fun _ hM => pair_op (a := 1) (b := 9) (by decide) (by decide) (by decide) (o_groups hM.1 x0) (o_groups hM.2 x0)
theorem p_dueAfter {P Q : GSt} (h : RR P Q) (x0 : Int32) : ∃ v P' Q', fL_dueAfter P x0 = some (v, P') ∧ fL_dueAfter Q x0 = some (v, Q') ∧ RR P' Q' := h.elim fun _ hM => pair_op (a := 3) (b := 9) (by decide) (by decide) (by decide) (o_dueAfter hM.1 x0) (o_dueAfter hM.2 x0)
theorem p_chance {P Q : GSt} (h : RR P Q) (x0 : Int32) (x1 : Int32) : ∃ v P' Q', fL_chance P x0 x1 = some (v, P') ∧ fL_chance Q x0 x1 = some (v, Q') ∧ RR P' Q' := h.elim fun _ hM => pair_op (a := 1) (b := 9) (by decide) (by decide) (by decide) (o_chance hM.1 x0 x1) (o_chance hM.2 x0 x1)
theorem p_ahead {P Q : GSt} (h : RR P Q) (x0 : Int32) (x1 : Int32) (x2 : Int32) : ∃ v P' Q', fL_ahead P x0 x1 x2 = some (v, P') ∧ fL_ahead Q x0 x1 x2 = some (v, Q') ∧ RR P' Q' := h.elim fun _ hM => pair_op (a := 3) (b := 1) (by decide) (by decide) (by decide) (o_ahead hM.1 x0 x1 x2) (o_ahead hM.2 x0 x1 x2)
theorem p_happens {P Q : GSt} (h : RR P Q) (x0 : Int32) (x1 : Int32) : ∃ v P' Q', fL_happens P x0 x1 = some (v, P') ∧ fL_happens Q x0 x1 = some (v, Q') ∧ RR P' Q' := h.elim fun _ hM => pair_op (a := 1) (b := 9) (by decide) (by decide) (by decide) (o_happens hM.1 x0 x1) (o_happens hM.2 x0 x1)
theorem p_bestLimit {P Q : GSt} (h : RR P Q) (x0 : Int32) : ∃ v P' Q', fL_bestLimit P x0 = some (v, P') ∧ fL_bestLimit Q x0 = some (v, Q') ∧ RR P' Q' := h.elim fun _ hM => pair_op (a := 1) (b := 9) (by decide) (by decide) (by decide) (o_bestLimit hM.1 x0) (o_bestLimit hM.2 x0)
theorem p_script {P Q : GSt} (h : RR P Q) (x0 : Int32) (x1 : Int64) : ∃ v P' Q', fL_script P x0 x1 = some (v, P') ∧ fL_script Q x0 x1 = some (v, Q') ∧ RR P' Q' := h.elim fun _ hM => pair_op (a := 1) (b := 9) (by decide) (by decide) (by decide) (o_runScript hM.1 x0 x1) (o_runScript hM.2 x0 x1)
theorem p_simulate {P Q : GSt} (h : RR P Q) (x0 : Int64) (x1 : Int32) : ∃ v P' Q', fL_simulate P x0 x1 = some (v, P') ∧ fL_simulate Q x0 x1 = some (v, Q') ∧ RR P' Q' := h.elim fun _ hM => pair_op (a := 1) (b := 9) (by decide) (by decide) (by decide) (o_simulate hM.1 x0 x1) (o_simulate hM.2 x0 x1)
theorem p_save {P Q : GSt} (h : RR P Q) (x0 : Int32) : ∃ v P' Q', fL_save P x0 = some (v, P') ∧ fL_save Q x0 = some (v, Q') ∧ RR P' Q' := h.elim fun _ hM => pair_op (a := 3) (b := 9) (by decide) (by decide) (by decide) (o_save hM.1 x0) (o_save hM.2 x0)
theorem p_restore {P Q : GSt} (h : RR P Q) (x0 : Int32) : ∃ v P' Q', fL_restore P x0 = some (v, P') ∧ fL_restore Q x0 = some (v, Q') ∧ RR P' Q' := h.elim fun _ hM => pair_op (a := 3) (b := 2) (by decide) (by decide) (by decide) (o_restore hM.1 x0) (o_restore hM.2 x0)
theorem p_errorPosition {P Q : GSt} (h : RR P Q) : ∃ v P' Q', fX4_errorPosition P = some (v, P') ∧ fX4_errorPosition Q = some (v, Q') ∧ RR P' Q' := by
  obtain ⟨M, h1, h2⟩ := h
  obtain ⟨v, P', M', a1, a2, a3⟩ := o_errorPosition h1
  obtain ⟨v', Q', M'', b1, b2, b3⟩ := o_errorPosition h2
  rw [a2] at b2
  obtain ⟨rfl, rfl⟩ := Prod.mk.inj (Option.some.inj b2)
  exact ⟨v, P', Q', a1, b1, M', a3, b3⟩
theorem p_emptyAfter {P Q : GSt} (h : RR P Q) : ∃ v P' Q', fX4_emptyAfter P = some (v, P') ∧ fX4_emptyAfter Q = some (v, Q') ∧ RR P' Q' := by
  obtain ⟨M, h1, h2⟩ := h
  obtain ⟨v, P', M', a1, a2, a3⟩ := o_emptyAfter h1
  obtain ⟨v', Q', M'', b1, b2, b3⟩ := o_emptyAfter h2
  rw [a2] at b2
  obtain ⟨rfl, rfl⟩ := Prod.mk.inj (Option.some.inj b2)
  exact ⟨v, P', Q', a1, b1, M', a3, b3⟩
theorem p_setRandom {P Q : GSt} (h : RR P Q) (x : Int64) : ∃ v P' Q', fX4_setRandom P x = some (v, P') ∧ fX4_setRandom Q x = some (v, Q') ∧ RR P' Q' := by
  obtain ⟨M, h1, h2⟩ := h
  obtain ⟨v, P', M', a1, a2, a3⟩ := o_setRandom h1 x
  obtain ⟨v', Q', M'', b1, b2, b3⟩ := o_setRandom h2 x
  rw [a2] at b2
  obtain ⟨rfl, rfl⟩ := Prod.mk.inj (Option.some.inj b2)
  exact ⟨v, P', Q', a1, b1, M', a3, b3⟩
theorem p_now {P Q : GSt} (h : RR P Q) : ∃ v, fL_now P = some (v, P) ∧ fL_now Q = some (v, Q) := by
  obtain ⟨M, ⟨n, h1, ⟨k, h2⟩, -⟩, ⟨n', g1, ⟨k', g2⟩, -⟩⟩ := h
  have a3 := h2.n20
  have a4 := g2.n20
  have e1 : n = n' := (nI_eq (by omega) (by omega)).mp (h1.symm.trans g1)
  subst e1
  have a1 := h2.k12
  have a2 := g2.k12
  have e2 : k = k' := (nI_eq (by omega) (by omega)).mp (h2.hk.symm.trans g2.hk)
  subst e2
  refine ⟨_, nw_run rfl ⟨_, h2⟩, ?_⟩
  rw [← (NEq.of h2 g2).nw]
  exact nw_run rfl ⟨_, g2⟩
theorem bE2 {α β γ : Type} {P : γ → Prop} {o : Option α} {o' : Option β} {k : α → β → Option γ} {a : α} {b : β} (h : o = some a) (h' : o' = some b) (hk : ∃ r, k a b = some r ∧ P r) : ∃ r, o.bind (fun x => o'.bind (fun y => k x y)) = some r ∧ P r := by rw [h, Option.bind_some, h', Option.bind_some]; exact hk
set_option maxHeartbeats 4000000 in
/-- ALIKE -/
theorem alike_ok {P Q : GSt} (h : RR P Q) (x : Int32) : ∃ X, fL_alike (P, Q) x = some X ∧ RR X.1 X.2 := by
  have two : ∃ b : Int32, (if (x - x / 2 * 2) = 0 then some 1 else some 0 : Option Int32) = some b := by split <;> exact ⟨_, rfl⟩
  obtain ⟨bb, hbb⟩ := two
  unfold fL_alike
  obtain ⟨v, e1, e2⟩ := p_now h
  refine bE e1 (bE e2 (iE (lq rfl) ?_))
  obtain ⟨v, P, Q, e1, e2, h⟩ := p_errorPosition h
  refine bE e1 (bE e2 (iE rfl ?_))
  obtain ⟨v, P, Q, e1, e2, h⟩ := p_emptyAfter h
  refine bE e1 (bE e2 (iE rfl ?_))
  obtain ⟨v, P, Q, e1, e2, h⟩ := p_bestLimit h (1 + ((x / 12) - (x / 12) / 60 * 60))
  refine bE e1 (bE e2 (iE (lq rfl) ?_))
  obtain ⟨v, P, Q, e1, e2, h⟩ := p_ahead h (x - x / 12 * 12) (1 + ((x / 12) - (x / 12) / 60 * 60)) (x - x / 8 * 8)
  refine bE e1 (bE e2 (iE (lq rfl) ?_))
  obtain ⟨v, P, Q, e1, e2, h⟩ := p_gap h (x - x / 12 * 12)
  refine bE e1 (bE e2 (iE (lq rfl) ?_))
  obtain ⟨v, P, Q, e1, e2, h⟩ := p_dueAfter h (x - x / 12 * 12)
  refine bE e1 (bE e2 (iE (lq rfl) ?_))
  obtain ⟨v, P, Q, e1, e2, h⟩ := p_chance h (1 + (x - x / 9 * 9)) bb
  refine bE hbb (bE e1 (bE hbb (bE e2 (iE (lq rfl) ?_))))
  obtain ⟨v, P, Q, e1, e2, h⟩ := p_slot h (x - x / 20 * 20)
  refine bE e1 (bE e2 (iE (lq rfl) ?_))
  refine run_inv (fun f S i => fL_alike_L196 _ f S x (1 + ((x / 12) - (x / 12) / 60 * 60)) (nI i)) (fun _ S => RR S.1 S.2) (fun X => RR X.1 X.2) 4 (fun i f S hi hI => ?_) (fun f S hI => ?_) 4 0 5 (P, Q) rfl (by decide) (by decide) h
  · obtain ⟨P, Q⟩ := S
    obtain ⟨v, P, Q, e1, e2, h⟩ := p_happens hI (1 + ((x / 12) - (x / 12) / 60 * 60)) (nI i)
    obtain ⟨v3, P3, Q3, e3, e4, h⟩ := p_room h (nI i)
    obtain ⟨v5, P5, Q5, e5, e6, h⟩ := p_groups h (nI i)
    obtain ⟨v7, P7, Q7, e7, e8, h⟩ := p_report h ((x + (7 * nI i)) - (x + (7 * nI i)) / 60 * 60)
    refine ⟨(P7, Q7), h, ?_⟩
    show fL_alike_L196 _ (f + 1) _ x _ (nI i) = _
    rw [fL_alike_L196, if_neg (show ¬ (4 : Int32) ≤ nI i from nI_ge (b := 4) hi (by decide))]
    refine bS e1 (bS e2 (iS (lq rfl) (bS e3 (bS e4 (iS (lq rfl) (bS e5 (bS e6 (iS (lq rfl) (bS e7 (bS e8 (iS (lq rfl) ?_)))))))))))
    show fL_alike_L196 _ f (P7, Q7) x _ (nI i + 1) = _
    rw [nI_1]
  · obtain ⟨P, Q⟩ := S
    show ∃ r, fL_alike_L196 _ (f + 1) _ x _ (nI 4) = some r ∧ _
    rw [fL_alike_L196, if_pos (show (4 : Int32) ≤ nI 4 by decide)]
    obtain ⟨v, P, Q, e1, e2, h⟩ := p_script hI 2 ((100000 * ((((10000 * (1 + (x - x / 8 * 8))) + ((x / 8) - (x / 8) / 10000 * 10000))).toInt64)) + (((x - x / 100000 * 100000)).toInt64))
    refine bE e1 (bE e2 (iE (lq rfl) ?_))
    obtain ⟨v, P, Q, e1, e2, h⟩ := p_simulate h ((x).toInt64) (1 + ((x / 12) - (x / 12) / 60 * 60))
    exact bE e1 (bE e2 (iE (lq rfl) ⟨_, rfl, h⟩))

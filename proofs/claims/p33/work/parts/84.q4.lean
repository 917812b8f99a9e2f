/-! PURE LEVEL of the property: calls that throw -/
theorem bS {α β : Type} {o : Option α} {k : α → Option β} {a : α} {r : Option β} (h : o = some a) (hk : k a = r) : o.bind k = r := by rw [h]; exact hk
theorem iS {α : Type} {c : Prop} [Decidable c] {x y r : α} (hc : c) (h : x = r) : (if c then x else y) = r := by rw [if_pos hc]; exact h
theorem iN {α : Type} {c : Prop} [Decidable c] {x y r : α} (hc : ¬ c) (h : y = r) : (if c then x else y) = r := by rw [if_neg hc]; exact h
theorem lq {a b : Int64} (h : a = b) : lg_cmp a b = 0 := (lc0 a b).mpr h
/-- the same with an end that is only said to be there -/
theorem bE {α β : Type} {P : β → Prop} {o : Option α} {k : α → Option β} {a : α} (h : o = some a) (hk : ∃ r, k a = some r ∧ P r) : ∃ r, o.bind k = some r ∧ P r := by rw [h]; exact hk
theorem iE {β : Type} {P : β → Prop} {c : Prop} [Decidable c] {x y : Option β} (hc : c) (h : ∃ r, x = some r ∧ P r) : ∃ r, (if c then x else y) = some r ∧ P r := by rw [if_pos hc]; exact h
theorem iF {β : Type} {P : β → Prop} {c : Prop} [Decidable c] {x y : Option β} (hc : ¬ c) (h : ∃ r, y = some r ∧ P r) : ∃ r, (if c then x else y) = some r ∧ P r := by rw [if_neg hc]; exact h
section ER
variable {k n : Nat} {L : LSt} {G : GSt}
theorem er_app1 : fL_append G (-1) = some (-9000000000000000002, G) := by
  unfold fL_append fX4_append; rw [if_pos (by decide), Option.bind_some]; rfl
theorem er_app2 : fL_append G 256 = some (-9000000000000000002, G) := by
  unfold fL_append fX4_append; rw [if_neg (by decide), if_neg (by decide), Option.bind_some]; rfl
theorem er_about : fL_about G 13 = some (-9000000000000000002, G) := by
  unfold fL_about fX4_about
  rw [if_neg (by decide), if_neg (by decide), if_neg (by decide), if_neg (by decide), if_neg (by decide), if_neg (by decide), if_neg (by decide), if_neg (by decide), if_neg (by decide), if_neg (by decide), if_neg (by decide), if_neg (by decide), if_neg (by decide), Option.bind_some]; rfl
theorem er_grip (hL : gLift G = L) (h : LOk k n L) (w : Int32) : fL_grip G (nI k) w = some (-9000000000000000001, G) := by
  unfold fL_grip fX4_grip; rw [hL, h.hasN, Option.bind_some, if_pos rfl, Option.bind_some]; rfl
theorem er_grip8 (hL : gLift G = L) (h : LOk k n L) (hk : 0 < k) : fL_grip G 0 8 = some (-9000000000000000002, G) := by
  have e : fX0_has L 0 = some 1 := h.hasY (g := 0) hk
  unfold fL_grip fX4_grip; rw [hL, e, Option.bind_some, if_neg (by decide), c_isGripNumber, if_neg (by decide), Option.bind_some, if_pos rfl, Option.bind_some]; rfl
theorem er_ah1 (hL : gLift G = L) (h : LOk k n L) (hk : 0 < k) : fL_ahead G 0 100 0 = some (-9000000000000000002, G) := by
  have e : fX0_has L 0 = some 1 := h.hasY (g := 0) hk
  unfold fL_ahead fX4_ahead; rw [hL, e, Option.bind_some, if_neg (by decide), if_neg (by decide), if_neg (by decide), Option.bind_some]; rfl
theorem er_ah2 (hL : gLift G = L) (h : LOk k n L) (hk : 0 < k) : fL_ahead G 0 0 8 = some (-9000000000000000002, G) := by
  have e : fX0_has L 0 = some 1 := h.hasY (g := 0) hk
  unfold fL_ahead fX4_ahead; rw [hL, e, Option.bind_some, if_neg (by decide), if_neg (by decide), if_pos (by decide), c_isGripNumber, if_neg (by decide), Option.bind_some, if_pos rfl, Option.bind_some]; rfl
theorem er_ah3 (hL : gLift G = L) (h : LOk k n L) (a b : Int32) : fL_ahead G (nI k) a b = some (-9000000000000000001, G) := by
  unfold fL_ahead fX4_ahead; rw [hL, h.hasN, Option.bind_some, if_pos rfl, Option.bind_some]; rfl
theorem er_put1 (hL : gLift G = L) (h : LOk k n L) (hk : 0 < k) : fL_putOn G 0 (nI n) = some (-9000000000000000001, G) := by
  have e : fX0_has L 0 = some 1 := h.hasY (g := 0) hk
  unfold fL_putOn fX4_putOn; rw [hL, e, Option.bind_some, if_neg (by decide), h.slotN, Option.bind_some, if_pos rfl, Option.bind_some]; rfl
theorem er_put2 (hL : gLift G = L) (h : LOk k n L) (a : Int32) : fL_putOn G (nI k) a = some (-9000000000000000001, G) := by
  unfold fL_putOn fX4_putOn; rw [hL, h.hasN, Option.bind_some, if_pos rfl, Option.bind_some]; rfl
theorem er_slot (hL : gLift G = L) (h : LOk k n L) : fL_slot G (nI n) = some (-9000000000000000001, G) := by
  unfold fL_slot fX4_slot; rw [hL, h.slotN, Option.bind_some, if_pos rfl, Option.bind_some]; rfl
theorem er_report : fL_report G (-1) = some (-9000000000000000002, G) := by
  unfold fL_report fX4_report; rw [if_neg (by decide), Option.bind_some]; rfl
theorem er_step {x : Int32} (hx : ¬ (1 ≤ x ∧ x ≤ 99)) : fL_step G x = some (-9000000000000000002, G) := by
  unfold fL_step fX4_step; rw [c_isStep, if_neg hx, Option.bind_some, if_pos rfl, Option.bind_some]; rfl
theorem er_add1 : fL_addGrip G 4 = some (-9000000000000000002, G) := by
  unfold fL_addGrip fX4_addGrip; rw [if_neg (by decide), if_neg (by decide), Option.bind_some]; rfl
theorem er_add2 : fL_addGrip G (-1) = some (-9000000000000000002, G) := by
  unfold fL_addGrip fX4_addGrip; rw [if_pos (by decide), Option.bind_some]; rfl
theorem er_add3 (hL : gLift G = L) (h : LOk k n L) (hk : k = 12) : fL_addGrip G 0 = some (-9000000000000000003, G) := by
  obtain ⟨M, hr, -⟩ := h.m 0
  unfold fL_addGrip fX4_addGrip; rw [if_neg (by decide), if_pos (by decide), hL, rc_isFull hr, if_pos hk, Option.bind_some, if_neg (by decide), Option.bind_some]; rfl
theorem er_take (hL : gLift G = L) (h : LOk k n L) : fL_takeOff G (-1) = some (-9000000000000000001, G) := by
  unfold fL_takeOff fX4_takeOff; rw [hL, h.has, if_neg (fun z => absurd z.1 (by decide)), Option.bind_some, if_pos rfl, Option.bind_some]; rfl
theorem er_scrap (hL : gLift G = L) (h : LOk k n L) : fL_scrap G (nI k) = some (-9000000000000000001, G) := by
  unfold fL_scrap fX4_scrap; rw [hL, h.hasN, Option.bind_some, if_pos rfl, Option.bind_some]; rfl
theorem er_lim {a b : Int32} (hx : ¬ ((0 ≤ a ∧ a < 5) ∧ 1 ≤ b ∧ b ≤ nI (lMost a.toNatClampNeg))) : fL_setLimit G a b = some (-9000000000000000002, G) := by
  unfold fL_setLimit fX4_setLimit; rw [c_isLimit, if_neg hx, Option.bind_some, if_pos rfl, Option.bind_some]; rfl
theorem er_gap (hL : gLift G = L) (h : LOk k n L) : fL_gap G (nI k) = some (-9000000000000000001, G) := by
  unfold fL_gap fX4_gap; rw [hL, h.hasN, Option.bind_some, if_pos rfl, Option.bind_some]; rfl
theorem er_room : fL_room G 3 = some (-9000000000000000002, G) := by
  unfold fL_room fX4_room; rw [if_neg (by decide), if_neg (by decide), if_neg (by decide), Option.bind_some]; rfl
theorem er_groups : fL_groups G 3 = some (-9000000000000000002, G) := by
  unfold fL_groups fX4_groups; rw [if_neg (by decide), if_neg (by decide), Option.bind_some]; rfl
theorem er_due (hL : gLift G = L) (h : LOk k n L) : fL_dueAfter G (nI k) = some (-9000000000000000001, G) := by
  unfold fL_dueAfter fX4_dueAfter; rw [hL, h.hasN, Option.bind_some, if_pos rfl, Option.bind_some]; rfl
theorem er_ch1 (x : Int32) : fL_chance G 0 x = some (-9000000000000000002, G) := by
  unfold fL_chance fX4_chance; rw [if_pos (by decide), Option.bind_some]; rfl
theorem er_ch2 (x : Int32) : fL_chance G 10 x = some (-9000000000000000002, G) := by
  unfold fL_chance fX4_chance; rw [if_neg (by decide), if_neg (by decide), Option.bind_some]; rfl
theorem er_ha1 : fL_happens G 0 0 = some (-9000000000000000002, G) := by
  unfold fL_happens fX4_happens; rw [c_isStep, if_neg (by decide), Option.bind_some, if_pos rfl, Option.bind_some]; rfl
theorem er_ha2 : fL_happens G 1 4 = some (-9000000000000000002, G) := by
  unfold fL_happens fX4_happens; rw [c_isStep, if_pos (by decide), Option.bind_some, if_neg (by decide), if_neg (by decide), if_neg (by decide), Option.bind_some]; rfl
theorem er_best : fL_bestLimit G 100 = some (-9000000000000000002, G) := by
  unfold fL_bestLimit fX4_bestLimit; rw [c_isStep, if_neg (by decide), Option.bind_some, if_pos rfl, Option.bind_some]; rfl
theorem er_sc1 : fL_script G 4 0 = some (-9000000000000000002, G) := by
  unfold fL_script fX4_runScript; rw [if_neg (by decide), if_neg (by decide), Option.bind_some]; rfl
theorem er_sc2 : fL_script G 1 100000 = some (-9000000000000000002, G) := by
  have e : fX4_groupPower 1 = some 100000 := c_power 1 (by decide)
  unfold fL_script fX4_runScript; rw [if_neg (by decide), if_pos (by decide), if_neg (by decide +kernel), e, Option.bind_some, if_neg (by decide +kernel), Option.bind_some]; rfl
theorem er_sc3 : fL_script G 1 90000 = some (0, (gLift G, lCopy (gTrial G) (gLift G), gTxt G, gSum G, gHis G, gSav G, gSvd G, gRem G, gNxt G)) := by
  have e : fX4_groupPower 1 = some 100000 := c_power 1 (by decide)
  have e2 : fX4_groupAt 90000 ((1 : Int32) - 1 - 0) = some 90000 := (c_groupAt (X := 90000) (j := 0) (by decide) (by decide)).trans (by decide +kernel)
  have e3 : ∀ S : GSt, fX4_obeys S 90000 = some (0, S) := fun S => by
    unfold fX4_obeys
    rw [if_neg (by decide +kernel), if_neg (by decide +kernel), if_neg (by decide +kernel), if_neg (by decide +kernel), if_neg (by decide +kernel), if_neg (by decide +kernel), if_neg (by decide +kernel), if_neg (by decide +kernel)]
  unfold fL_script fX4_runScript
  rw [if_neg (by decide), if_pos (by decide), if_neg (by decide +kernel), e, Option.bind_some, if_pos (by decide +kernel), show KF = 2999 + 1 from rfl, fX4_runScript_L60, if_neg (by decide), e2, Option.bind_some, e3, Option.bind_some, if_pos rfl, Option.bind_some]
  rfl
theorem er_sim : fL_simulate G 1 100 = some (-9000000000000000002, G) := by
  unfold fL_simulate fX4_simulate; rw [c_isStep, if_neg (by decide), Option.bind_some, if_pos rfl, Option.bind_some]; rfl
theorem er_save : fL_save G 2 = some (-9000000000000000001, G) := by
  unfold fL_save fX4_save; rw [if_neg (by decide), if_neg (by decide), Option.bind_some]; rfl
theorem er_rest : fL_restore G (-1) = some (-9000000000000000001, G) := by
  unfold fL_restore fX4_restore; rw [if_pos (by decide), Option.bind_some]; rfl
set_option maxHeartbeats 4000000 in
/-- ERRORS -/
theorem errors_ok (hL : gLift G = L) (h : LOk k n L) : ∃ G', fL_errors G = some G' ∧ SEq G G' := by
  have hk := h.k12
  unfold fL_errors
  refine bE (nw_run hL h) (bE (an_0 hL h) (bE (agr hL h) (bE er_app1 (iE (lq rfl) (bE er_app2 (iE (lq rfl) (bE er_about (iE (lq rfl) (bE (er_grip hL h 9) (iE (lq rfl) ?_))))))))))
  refine bE (a := G) ?_ ?_
  · by_cases k0 : k = 0
    · exact iS (show nI k = 0 by rw [k0]; rfl) rfl
    · have hk0 : 0 < k := by omega
      refine iN (show ¬ nI k = 0 from nI_ne0 hk0 (by omega)) (bS (er_grip8 hL h hk0) (iS (lq rfl) (bS (er_ah1 hL h hk0) (iS (lq rfl) (bS (er_ah2 hL h hk0) (iS (lq rfl) (bS (a := (-9000000000000000001, G)) ?_ (iS (lq rfl) rfl))))))))
      show fL_putOn G 0 ((lN n).toInt32) = _
      rw [lN_i]; exact er_put1 hL h hk0
  refine bE (a := (-9000000000000000001, G)) (by show fL_slot G ((lN n).toInt32) = _; rw [lN_i]; exact er_slot hL h) (iE (lq rfl) ?_)
  refine bE er_report (iE (lq rfl) (bE (er_step (x := 0) (by decide)) (iE (lq rfl) (bE (er_step (x := 100) (by decide)) (iE (lq rfl) (bE er_add1 (iE (lq rfl) (bE er_add2 (iE (lq rfl) ?_)))))))))
  refine bE (a := G) ?_ ?_
  · by_cases k0 : k = 12
    · refine iN (show ¬ nI k < 12 by rw [k0]; decide) (bS (er_add3 hL h k0) (iS (lq rfl) rfl))
    · exact iS (show nI k < 12 from nI_lt (b := 12) (by omega) (by decide)) rfl
  refine bE (er_put2 hL h 0) (iE (lq rfl) (bE (er_take hL h) (iE (lq rfl) (bE (er_scrap hL h) (iE (lq rfl) (bE (er_lim (a := 5) (b := 1) (by decide)) (iE (lq rfl) (bE (er_lim (a := 0) (b := 100) (by decide)) (iE (lq rfl) (bE (er_lim (a := 1) (b := 51) (by decide)) (iE (lq rfl) ?_)))))))))))
  refine bE (er_lim (a := 2) (b := 10) (by decide)) (iE (lq rfl) (bE (er_lim (a := 3) (b := 5) (by decide)) (iE (lq rfl) (bE (er_lim (a := 4) (b := 0) (by decide)) (iE (lq rfl) (bE (er_gap hL h) (iE (lq rfl) (bE er_room (iE (lq rfl) (bE er_groups (iE (lq rfl) ?_)))))))))))
  refine bE (er_due hL h) (iE (lq rfl) (bE (er_ch1 1) (iE (lq rfl) (bE (er_ch2 1) (iE (lq rfl) (bE (er_ah3 hL h 1 9) (iE (lq rfl) (bE er_ha1 (iE (lq rfl) (bE er_ha2 (iE (lq rfl) ?_)))))))))))
  refine bE er_best (iE (lq rfl) (bE er_sc1 (iE (lq rfl) (bE er_sc2 (iE (lq rfl) (bE er_sc3 (iE (lq rfl) ?_)))))))
  refine bE er_sim (iE (lq rfl) (bE er_save (iE (lq rfl) (bE er_rest (iE (lq rfl) (bE (nw_run (G := (gLift G, lCopy (gTrial G) (gLift G), gTxt G, gSum G, gHis G, gSav G, gSvd G, gRem G, gNxt G)) hL h) (iE (lq rfl) ?_)))))))
  exact ⟨_, rfl, ⟨rfl, rfl, rfl, rfl, rfl, rfl, rfl⟩⟩
end ER

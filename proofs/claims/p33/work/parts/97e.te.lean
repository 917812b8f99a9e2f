/-! PURE LEVEL of the property: ACT, and the bounds that it keeps -/
theorem HX_act {B B' : Nat} {G S : GSt} {L' : LSt} {x : Nat} (hA : Act G S L' x) (hB : HX B G) (hBB : B ≤ B') (hL : Ext B' L') : HX B' S := by
  obtain ⟨a1, a2, a3, a4, ⟨X, a5⟩, a6, -⟩ := hA
  refine ⟨by rw [a1]; exact hL, fun i hi => ?_, by rw [a3]; exact fun i hi => (hB.2.2 i hi).mono hBB⟩
  by_cases e : i = x
  · rw [e, a5]; exact (Ext_copy hB.1 X).mono hBB
  · rw [a6 i e]; exact (hB.2.1 i hi).mono hBB
theorem Ext_pl {B g : Nat} {L : LSt} (hx : Ext B L) (hp : ¬ lPl L g = -1) (v : Int32) : Ext B (wPl L g v) := by
  refine ⟨hx.1, fun j hj hq => ?_⟩
  by_cases e : j = g
  · subst e; exact hx.2 j hj hp
  · have hq : ¬ upd (lPl L) g v j = -1 := hq
    rw [upd_ne e] at hq
    exact hx.2 j hj hq
def HO (B : Nat) (o : Option (Int64 × GSt)) : Prop := ∃ v S, o = some (v, S) ∧ HX B S
section HXS
variable {B k n a x : Nat} {G : GSt}
theorem hx_step (h : LOk k n (gLift G)) (hh : HOk G a x) (hB : HX B G) (hb : B ≤ 90000) {m : Nat} (hm : m < 30) : HO (B + 30) (fL_step G (nI (1 + m))) := by
  obtain ⟨S, s1, s2⟩ := act_step rfl h hh (m := 1 + m) (by omega) (by omega)
  exact ⟨_, S, s1, HX_act s2 hB (by omega) ((it_ext h hB.1 (1 + m) (by omega)).1.mono (by omega))⟩
theorem hx_add (h : LOk k n (gLift G)) (hh : HOk G a x) (hB : HX B G) {w : Nat} (hw : w < 4) : HO B (fL_addGrip G (nI w)) := by
  obtain ⟨M, hrr, hN⟩ := h.m 0
  have hk := h.k12
  have e3 : nI w ≤ 3 := nI_le (b := 3) (by omega) (by decide)
  by_cases q : k = 12
  · refine ⟨gxc 2, G, ?_, hB⟩
    unfold fL_addGrip fX4_addGrip
    rw [if_neg (nI_pos (by omega)), if_pos e3, rc_isFull hrr, if_pos q, Option.bind_some, if_neg c10, Option.bind_some, gmB (by decide) (by decide)]
  · obtain ⟨S, s1, s2, s3, s4, s5, s6, s7, s8, s9, s10⟩ := rem_ok hh
    have hA := LOk_add h (show k < 12 by omega) (nI w)
    have hAct : Act G (addL (gLift G) k (nI w), gTrial S, gTxt S, gSum S, gHis S, gSav S, gSvd S, gRem S, gNxt S) (addL (gLift G) k (nI w)) x := ⟨rfl, s4, s6, s7, s8, s9, s10⟩
    refine ⟨lN k, _, ?_, HX_act hAct hB (Nat.le_refl B) (Ext_add hB.1 (by omega))⟩
    unfold fL_addGrip fX4_addGrip
    rw [if_neg (nI_pos (by omega)), if_pos e3, rc_isFull hrr, if_neg q, Option.bind_some, if_pos rfl, s1, Option.bind_some, s2, c_add (show k < 12 by omega) h.grips, Option.bind_some, hA.grips, Option.bind_some, Option.bind_some, gm0, nI_pred, nI_l (by omega)]
theorem hx_put (h : LOk k n (gLift G)) (hh : HOk G a x) (hB : HX B G) {g i : Nat} (hg9 : g < 2 ^ 31) (hi9 : i < 2 ^ 31) : HO B (fL_putOn G (nI g) (nI i)) := by
  have hk := h.k12
  have hn := h.n20
  by_cases hg : g < k
  · by_cases hi : i < n
    · by_cases c : lPl (gLift G) g = 1 ∧ sCt (lBad (gLift G) (nI i)) k = 0
      · obtain ⟨S, s1, s2⟩ := act_put rfl h hh hg hi c.1 c.2
        exact ⟨_, S, s1, HX_act s2 hB (Nat.le_refl B) (Ext_hang hB.1 (by rw [c.1]; decide) _)⟩
      · exact ⟨_, G, act_put_no rfl h hg hi c, hB⟩
    · refine ⟨gxc 3, G, ?_, hB⟩
      unfold fL_putOn fX4_putOn
      rw [h.hasY hg, Option.bind_some, if_neg (by decide), c_hasSlot h.hn, if_neg (fun z => hi ((nI_ltI hi9 (by omega)).mp z.2)), Option.bind_some, if_pos rfl, Option.bind_some, gmA (by decide)]
  · refine ⟨gxc 3, G, ?_, hB⟩
    unfold fL_putOn fX4_putOn
    rw [h.has, if_neg (fun z => hg ((nI_ltI hg9 (by omega)).mp z.2)), Option.bind_some, if_pos rfl, Option.bind_some, gmA (by decide)]
theorem hx_take (h : LOk k n (gLift G)) (hh : HOk G a x) (hB : HX B G) {g : Nat} (hg9 : g < 2 ^ 31) : HO B (fL_takeOff G (nI g)) := by
  have hk := h.k12
  by_cases hg : g < k
  · by_cases c : lPl (gLift G) g = 0
    · obtain ⟨i, hi, hs⟩ := h.sp hg c
      obtain ⟨S, s1, s2⟩ := act_take rfl h hh hg hi c hs
      exact ⟨_, S, s1, HX_act s2 hB (Nat.le_refl B) (Ext_pl hB.1 (by rw [c]; decide) _)⟩
    · refine ⟨gxc 2, G, ?_, hB⟩
      unfold fL_takeOff fX4_takeOff
      rw [h.hasY hg, Option.bind_some, if_neg (by decide), isInY h hg, if_neg c, Option.bind_some, if_pos rfl, Option.bind_some, gmB (by decide) (by decide)]
  · refine ⟨gxc 3, G, ?_, hB⟩
    unfold fL_takeOff fX4_takeOff
    rw [h.has, if_neg (fun z => hg ((nI_ltI hg9 (by omega)).mp z.2)), Option.bind_some, if_pos rfl, Option.bind_some, gmA (by decide)]
theorem hx_scrap (h : LOk k n (gLift G)) (hh : HOk G a x) (hB : HX B G) {g : Nat} (hg9 : g < 2 ^ 31) : HO B (fL_scrap G (nI g)) := by
  have hk := h.k12
  by_cases hg : g < k
  · by_cases c : lPl (gLift G) g = 3
    · exact ⟨_, G, act_scrap_no rfl h hg c, hB⟩
    · obtain ⟨S, s1, s2⟩ := act_scrap rfl h hh hg c
      exact ⟨_, S, s1, HX_act s2 hB (Nat.le_refl B) (Ext_pl hB.1 (h.nabs hg) _)⟩
  · refine ⟨gxc 3, G, ?_, hB⟩
    unfold fL_scrap fX4_scrap
    rw [h.has, if_neg (fun z => hg ((nI_ltI hg9 (by omega)).mp z.2)), Option.bind_some, if_pos rfl, Option.bind_some, gmA (by decide)]
theorem hx_lim (hh : HOk G a x) (hB : HX B G) {m : Nat} (hm : m < 5) (v : Int32) : HO B (fL_setLimit G (nI m) v) := by
  by_cases c : (0 ≤ nI m ∧ nI m < 5) ∧ 1 ≤ v ∧ v ≤ nI (lMost (nI m).toNatClampNeg)
  · obtain ⟨S, s1, s2, s3, s4, s5, s6, s7, s8, s9, s10⟩ := rem_ok hh
    have hAct : Act G (wLi (gLift G) m v, gTrial S, gTxt S, gSum S, gHis S, gSav S, gSvd S, gRem S, gNxt S) (wLi (gLift G) m v) x := ⟨rfl, s4, s6, s7, s8, s9, s10⟩
    refine ⟨(lLi (gLift G) m).toInt64, _, ?_, HX_act hAct hB (Nat.le_refl B) hB.1⟩
    unfold fL_setLimit fX4_setLimit
    rw [c_isLimit, if_pos c, Option.bind_some, if_neg (by decide), s1, Option.bind_some, s2, gd_nI hm (by decide), nI_clamp (by omega), Option.bind_some, gm0]
    rfl
  · refine ⟨gxc 1, G, ?_, hB⟩
    unfold fL_setLimit fX4_setLimit
    rw [c_isLimit, if_neg c, Option.bind_some, if_pos rfl, Option.bind_some, gmA (by decide)]
theorem hx_rnd (hh : HOk G a x) (hB : HX B G) (y : Int64) : HO B (fX4_setRandom G y) := by
  obtain ⟨v, S, s1, s2⟩ := act_rnd rfl hh y
  exact ⟨v, S, s1, HX_act s2 hB (Nat.le_refl B) hB.1⟩
theorem hx_undo (hh : HOk G a x) (hB : HX B G) : HO B (fL_undo G) := by
  obtain ⟨h1, h2, h3, h4⟩ := id hh
  by_cases q : a = 0
  · exact ⟨_, G, undo_no (by rw [h3, q]; rfl), hB⟩
  · have e : ((x + 13) % 14 + 1) % 14 = x := by omega
    obtain ⟨S, s1, s2, s3, s4, s5, s6, s7, s8⟩ := undo_ok (G := G) (a := a) (x := (x + 13) % 14) (by omega) (Nat.mod_lt _ (by decide)) (by rw [e]; exact hh)
    refine ⟨_, S, s1, by rw [s2]; exact Ext_copy (hB.2.1 _ (Nat.mod_lt _ (by decide))) _, by rw [s7]; exact hB.2.1, by rw [s5]; exact hB.2.2⟩
def svM (G : GSt) (m : Nat) : GSt := (gLift G, gTrial G, gTxt G, gSum G, gHis G, va_up (gSav G) m (lCopy (gSav G m) (gLift G)), upd (gSvd G) m (vp_nar .boolean 1), gRem G, gNxt G)
theorem save_is {m : Nat} (hm : m < 2) : fL_save G (nI m) = some ((lClk (gLift G)).toInt64, svM G m) := by
  unfold fL_save fX4_save
  rw [if_neg (nI_pos (by omega)), if_pos (show nI m < 2 from nI_lt (b := 2) hm (by decide)), gd_nI hm (by decide), nI_clamp (by omega), Option.bind_some, gm0]
  rfl
theorem hx_save (hB : HX B G) {m : Nat} (hm : m < 2) : HO B (fL_save G (nI m)) := by
  refine ⟨_, _, save_is hm, hB.1, hB.2.1, fun i hi => ?_⟩
  show Ext B (va_up (gSav G) m (lCopy (gSav G m) (gLift G)) i)
  by_cases e : i = m
  · subst e; rw [va_up_at]; exact Ext_copy hB.1 _
  · rw [va_up_nx _ _ e]; exact hB.2.2 i hi
def rsM (G : GSt) (m : Nat) : GSt := (lCopy (gLift G) (gSav G m), gTrial G, gTxt G, gSum G, gHis G, gSav G, gSvd G, 0, gNxt G)
theorem restore_is {m : Nat} (hm : m < 2) (hz : ¬ gSvd G m = 0) : fL_restore G (nI m) = some ((lClk (gSav G m)).toInt64, rsM G m) := by
  unfold fL_restore fX4_restore
  rw [if_neg (nI_pos (by omega)), if_pos (show nI m < 2 from nI_lt (b := 2) hm (by decide)), gd_nI hm (by decide), nI_clamp (by omega), if_neg hz, Option.bind_some, gm0]
  rfl
theorem hx_restore (hB : HX B G) {m : Nat} (hm : m < 2) : HO B (fL_restore G (nI m)) := by
  by_cases hz : gSvd G m = 0
  · refine ⟨gxc 2, G, ?_, hB⟩
    unfold fL_restore fX4_restore
    rw [if_neg (nI_pos (by omega)), if_pos (show nI m < 2 from nI_lt (b := 2) hm (by decide)), gd_nI hm (by decide), nI_clamp (by omega), if_pos hz, Option.bind_some, gmB (by decide) (by decide)]
  · exact ⟨_, _, restore_is hm hz, Ext_copy (hB.2.2 m hm) _, hB.2.1, hB.2.2⟩
end HXS
-- the same call of both, the bounds of the first
def AP (B : Nat) (P Q : GSt) (F : GSt → Option (Int64 × GSt)) : Prop := ∃ v P' Q', F P = some (v, P') ∧ F Q = some (v, Q') ∧ RR P' Q' ∧ HX B P'
section APS
variable {B B' : Nat} {P Q : GSt} {F F1 F2 : GSt → Option (Int64 × GSt)}
theorem AP.mk (hs : ∃ v P' Q', F P = some (v, P') ∧ F Q = some (v, Q') ∧ RR P' Q') (hh : HO B' (F P)) (hB : B' ≤ B) : AP B P Q F := by
  obtain ⟨v, P', Q', e1, e2, h⟩ := hs
  obtain ⟨v2, S, e3, h3⟩ := hh
  rw [e1] at e3
  obtain ⟨rfl, rfl⟩ := Prod.mk.inj (Option.some.inj e3)
  exact ⟨v, P', Q', e1, e2, h, h3.mono hB⟩
theorem AP.ite {c : Prop} [Decidable c] (h1 : AP B P Q F1) (h2 : AP B P Q F2) : AP B P Q (fun G => if c then F1 G else F2 G) := by
  unfold AP
  by_cases q : c
  · simp only [if_pos q]; exact h1
  · simp only [if_neg q]; exact h2
theorem AP.idd (h : AP B P Q F) : AP B P Q (fun G => (F G).bind (fun r => some (r.1, r.2))) := by
  obtain ⟨v, P', Q', e1, e2, h3⟩ := h
  exact ⟨v, P', Q', bS e1 rfl, bS e2 rfl, h3⟩
theorem AP.sw {c : Prop} [Decidable c] (h1 : AP B P Q F1) (h2 : AP B P Q F2) : AP B P Q (fun G => ((if c then (F1 G).bind (fun r => some (r.2, r.1)) else (F2 G).bind (fun r => some (r.2, r.1))) : Option (GSt × Int64)).bind (fun (a : GSt × Int64) => some (a.2, a.1))) := by
  unfold AP
  by_cases q : c
  · simp only [if_pos q]
    obtain ⟨v, P', Q', e1, e2, h3⟩ := h1
    exact ⟨v, P', Q', bS (bS e1 rfl) rfl, bS (bS e2 rfl) rfl, h3⟩
  · simp only [if_neg q]
    obtain ⟨v, P', Q', e1, e2, h3⟩ := h2
    exact ⟨v, P', Q', bS (bS e1 rfl) rfl, bS (bS e2 rfl) rfl, h3⟩
end APS
theorem RR.facts {P Q : GSt} (h : RR P Q) : ∃ k n, LOk k n (gLift P) ∧ ∃ a x, HOk P a x := by
  obtain ⟨M, ⟨n, -, ⟨k, hr⟩, -, ⟨a, x, h1, h2, h3, -, h5, -⟩, -⟩, -⟩ := h
  exact ⟨k, n, ⟨_, hr⟩, a, x, h1, h2, h3, h5⟩
theorem RR.sym {P Q : GSt} (h : RR P Q) : RR Q P := h.elim fun M hM => ⟨M, hM.2, hM.1⟩
set_option maxHeartbeats 1000000 in
/-- ACT -/
theorem act_ok {B : Nat} {P Q : GSt} (h : RR P Q) (hB : HX B P) (hb : B ≤ 90000) (X : Int32) {y : Nat} (hy : y < 2 ^ 31) : ∃ v P' Q', fL_act P X (nI y) = some (v, P') ∧ fL_act Q X (nI y) = some (v, Q') ∧ RR P' Q' ∧ HX (B + 30) P' := by
  obtain ⟨k, n, hL, a, x, hh⟩ := h.facts
  have d3 : nI y / 3 = nI (y / 3) := pk_div (d := 3) hy (by decide) (by decide)
  have d5 : nI y / 5 = nI (y / 5) := pk_div (d := 5) hy (by decide) (by decide)
  have d12 : nI y / 12 = nI (y / 12) := pk_div (d := 12) hy (by decide) (by decide)
  have e30 : 1 + (nI y - nI y / 30 * 30) = nI (1 + y % 30) := by rw [show nI y - nI y / 30 * 30 = nI (y % 30) from pk_rem (d := 30) hy (by decide) (by decide)]; exact nI_add 1 _
  have e4 : nI y - nI y / 4 * 4 = nI (y % 4) := pk_rem (d := 4) hy (by decide) (by decide)
  have e12 : nI y - nI y / 12 * 12 = nI (y % 12) := pk_rem (d := 12) hy (by decide) (by decide)
  have e20 : (nI y / 12) - (nI y / 12) / 20 * 20 = nI (y / 12 % 20) := by rw [d12]; exact pk_rem (d := 20) (by omega) (by decide) (by decide)
  have e312 : (nI y / 3) - (nI y / 3) / 12 * 12 = nI (y / 3 % 12) := by rw [d3]; exact pk_rem (d := 12) (by omega) (by decide) (by decide)
  have e5 : nI y - nI y / 5 * 5 = nI (y % 5) := pk_rem (d := 5) hy (by decide) (by decide)
  obtain ⟨j, hj, ej⟩ : ∃ j, j < 2 ∧ (nI y / 2) &&& 1 = nI j := pk_andE _ (m := 1) 1 (by decide)
  have m30 := Nat.mod_lt y (show 0 < 30 by decide)
  have m4 := Nat.mod_lt y (show 0 < 4 by decide)
  have m5 := Nat.mod_lt y (show 0 < 5 by decide)
  have b30 : B ≤ B + 30 := Nat.le_add_right _ _
  have st : AP (B + 30) P Q (fun G => (fL_step G (1 + (nI y - nI y / 30 * 30))).bind (fun r => some (r.1, r.2))) := by
    rw [e30]
    exact AP.idd (F := fun G => fL_step G (nI (1 + y % 30))) (AP.mk (p_step h _) (hx_step hL hh hB hb m30) (Nat.le_refl _))
  have ad : AP (B + 30) P Q (fun G => (fL_addGrip G (nI y - nI y / 4 * 4)).bind (fun r => some (r.1, r.2))) := by
    rw [e4]
    exact AP.idd (F := fun G => fL_addGrip G (nI (y % 4))) (AP.mk (p_addGrip h _) (hx_add hL hh hB m4) b30)
  have pu : AP (B + 30) P Q (fun G => (fL_putOn G (nI y - nI y / 12 * 12) ((nI y / 12) - (nI y / 12) / 20 * 20)).bind (fun r => some (r.1, r.2))) := by
    rw [e12, e20]
    exact AP.idd (F := fun G => fL_putOn G (nI (y % 12)) (nI (y / 12 % 20))) (AP.mk (p_putOn h _ _) (hx_put hL hh hB (by omega) (by omega)) b30)
  have sc : AP (B + 30) P Q (fun G => fL_scrap G ((nI y / 3) - (nI y / 3) / 12 * 12)) := by
    rw [e312]; exact AP.mk (p_scrap h _) (hx_scrap hL hh hB (by omega)) b30
  have ta : AP (B + 30) P Q (fun G => fL_takeOff G (nI y - nI y / 12 * 12)) := by
    rw [e12]; exact AP.mk (p_takeOff h _) (hx_take hL hh hB (by omega)) b30
  have li : AP (B + 30) P Q (fun G => (fL_setLimit G (nI y - nI y / 5 * 5) (1 + ((nI y / 5) - (nI y / 5) / 12 * 12))).bind (fun r => some (r.1, r.2))) := by
    rw [e5]
    exact AP.idd (F := fun G => fL_setLimit G (nI (y % 5)) (1 + ((nI y / 5) - (nI y / 5) / 12 * 12))) (AP.mk (p_setLimit h _ _) (hx_lim hh hB m5 _) b30)
  have rn : AP (B + 30) P Q (fun G => (fX4_setRandom G (977 * ((nI y).toInt64))).bind (fun r => some (r.1, r.2))) :=
    AP.idd (F := fun G => fX4_setRandom G (977 * ((nI y).toInt64))) (AP.mk (p_setRandom h _) (hx_rnd hh hB _) b30)
  have un : AP (B + 30) P Q (fun G => (fL_undo G).bind (fun r => some (r.1, r.2))) :=
    AP.idd (F := fun G => fL_undo G) (AP.mk (p_undo h) (hx_undo hh hB) b30)
  have sa : AP (B + 30) P Q (fun G => fL_save G ((nI y / 2) &&& 1)) := by
    rw [ej]; exact AP.mk (p_save h _) (hx_save hB hj) b30
  have re : AP (B + 30) P Q (fun G => fL_restore G ((nI y / 2) &&& 1)) := by
    rw [ej]; exact AP.mk (p_restore h _) (hx_restore hB hj) b30
  exact AP.ite st (AP.ite st (AP.ite st (AP.ite st (AP.ite st (AP.ite ad (AP.ite ad (AP.ite pu (AP.ite pu (AP.ite (AP.sw sc ta) (AP.ite li (AP.ite rn (AP.ite un (AP.sw sa re)))))))))))))

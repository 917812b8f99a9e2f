/-! PURE LEVEL: scripts -/
def wTr (G : GSt) (T : LSt) : GSt := (gLift G, T, gTxt G, gSum G, gHis G, gSav G, gSvd G, gRem G, gNxt G)
/-- what a command of a script owes -/
def CmdR (k n : Nat) (G : GSt) (M : MSt) (RC : Option (Int32 × GSt)) (RM : Option (Int32 × MSt)) : Prop := ∃ r T' M', RC = some (r, wTr G T') ∧ RM = some (r, M') ∧ RRel k n T' (mA M' 4) ∧ SameBut 4 M M'
theorem Cmd_no {k n : Nat} {G : GSt} {M : MSt} {RC : Option (Int32 × GSt)} {RM : Option (Int32 × MSt)} (h : RRel k n (gTrial G) (mA M 4)) (h1 : RC = some (0, G)) (h2 : RM = some (0, M)) : CmdR k n G M RC RM := ⟨0, gTrial G, M, h1, h2, h, SameBut.refl 4 M⟩
theorem Cmd_yes {k n : Nat} {G : GSt} {M : MSt} {RC : Option (Int32 × GSt)} {RM : Option (Int32 × MSt)} (h : RRel k n (gTrial G) (mA M 4)) (h1 : RC = some (1, G)) (h2 : RM = some (1, M)) : CmdR k n G M RC RM := ⟨1, gTrial G, M, h1, h2, h, SameBut.refl 4 M⟩
theorem hasB {k b : Nat} (hk : k ≤ 12) (hb : b < 100) : (0 ≤ nI b ∧ nI b < nI k) ↔ b < k := ⟨fun z => (nI_ltI (by omega) (by omega)).mp z.2, fun z => ⟨nI_pos' (by omega), nI_lt z (by omega)⟩⟩
theorem RRel_take {k n i : Nat} {L : LSt} {r : RI} (h : RRel k n L r) (hi : i < k) : RRel k n (lWe L, lCy L, lWr L, lPu L, lSl L, upd (lPl L) i 1, lSp L, lSt L, lLi L, lN_ L, lStn L, lClk L, lRnd L) (upd r (60 + i) 1) := by
  have hk12 := h.k12
  obtain ⟨c0, c1, c2, c3, c4, c5, c6⟩ := h.cell i hi
  refine RRel_cell h hi ⟨rfl, rfl, rfl, rfl, rfl⟩ (fun q hq => ?_) (fun q q1 q2 => ?_) ?_ (fun z => ?_)
  · refine ⟨?_, ?_, ?_, ?_, ?_, ?_, ?_, ?_⟩ <;> first | rfl | exact upd_ne hq
  · simp (disch := omega) only [upd_ne]
  · unfold CellOk
    simp (disch := omega) only [lWe, lCy, lWr, lPu, lSl, lPl, lSp, lSt, lLi, upd_at, upd_ne, c0, c1, c2, c3, c4]
    exact ⟨trivial, trivial, trivial, trivial, trivial, trivial, Or.inr (Or.inl rfl)⟩
  · rw [show lPl (_ : LSt) i = 1 from upd_at] at z; exact absurd z (by decide)
theorem GOk.pl {n : Nat} {p s t s' t' : Int32} (h : GOk n p s t s' t') : p = 0 ∨ p = 1 ∨ p = 2 ∨ p = 3 := by
  rcases h with h | h | h | h
  · exact Or.inl h.1
  · exact Or.inr (Or.inl h)
  · exact Or.inr (Or.inr (Or.inl h.1))
  · exact Or.inr (Or.inr (Or.inr h))
set_option maxHeartbeats 2000000 in
theorem o_command {k n c : Nat} {G : GSt} {M : MSt} (h : RRel k n (gTrial G) (mA M 4)) (hN : mN M = nI n) (hc : c < 100000) : CmdR k n G M (fX4_obeys G (nI c)) (fX5_command M (nI c)) := by
  have hk12 := h.k12
  have hn20 := h.n20
  have e1 : nI c / 10000 = nI (c / 10000) := pk_div (d := 10000) (by omega) (by decide) (by decide)
  have e2 : nI c / 100 = nI (c / 100) := pk_div (d := 100) (by omega) (by decide) (by decide)
  have e3 : nI c / 100 - nI c / 100 / 100 * 100 = nI (c / 100 % 100) := by rw [e2]; exact pk_rem (d := 100) (by omega) (by decide) (by decide)
  have e4 : nI c - nI c / 100 * 100 = nI (c % 100) := pk_rem (d := 100) (by omega) (by decide) (by decide)
  unfold fX4_obeys fX5_command
  rw [e3, e4, e1, h.hk]
  have ha : c / 10000 < 10 := by omega
  have hb : c / 100 % 100 < 100 := Nat.mod_lt _ (by decide)
  have hd : c % 100 < 100 := Nat.mod_lt _ (by decide)
  generalize c / 10000 = a at ha ⊢
  generalize c / 100 % 100 = b at hb ⊢
  generalize c % 100 = d at hd ⊢
  have e5 : nI b - nI b / 10 * 10 = nI (b % 10) := pk_rem (d := 10) (by omega) (by decide) (by decide)
  have e6 : nI b / 10 = nI (b / 10) := pk_div (d := 10) (by omega) (by decide) (by decide)
  rw [e5, e6]
  have hkb : (nI k ≤ nI b) ↔ k ≤ b := nI_leI (by omega) (by omega)
  have hkd : (nI k ≤ nI d) ↔ k ≤ d := nI_leI (by omega) (by omega)
  have b0 : (nI b = 0) ↔ b = 0 := nI_eq (b := 0) (by omega) (by decide)
  have d0 : (nI d = 0) ↔ d = 0 := nI_eq (b := 0) (by omega) (by decide)
  have : a = 0 ∨ a = 1 ∨ a = 2 ∨ a = 3 ∨ a = 4 ∨ a = 5 ∨ a = 6 ∨ a = 7 ∨ a = 8 ∨ a = 9 := by omega
  rcases this with rfl | rfl | rfl | rfl | rfl | rfl | rfl | rfl | rfl | rfl
  · rw [if_neg (show ¬ nI 0 = 1 by decide), if_neg (show ¬ nI 0 = 2 by decide), if_neg (show ¬ nI 0 = 3 by decide), if_neg (show ¬ nI 0 = 4 by decide), if_neg (show ¬ nI 0 = 5 by decide), if_neg (show ¬ nI 0 = 6 by decide), if_neg (show ¬ nI 0 = 7 by decide), if_neg (show ¬ nI 0 = 8 by decide)]
    by_cases q : k ≤ b
    · rw [if_pos (hkb.mpr q), if_neg (show ¬ nI 0 = 1 by decide), if_neg (show ¬ nI 0 = 2 by decide), if_neg (show ¬ nI 0 = 3 by decide), if_neg (show ¬ nI 0 = 4 by decide), if_neg (show ¬ nI 0 = 5 by decide), if_neg (show ¬ nI 0 = 6 by decide), if_neg (show ¬ nI 0 = 7 by decide), if_neg (show ¬ nI 0 = 8 by decide)]
      exact Cmd_no h rfl rfl
    · rw [if_neg (fun z => q (hkb.mp z)), if_neg (show ¬ nI 0 = 1 by decide), if_neg (show ¬ nI 0 = 2 by decide), if_neg (show ¬ nI 0 = 3 by decide), if_neg (show ¬ nI 0 = 4 by decide), if_neg (show ¬ nI 0 = 5 by decide), if_neg (show ¬ nI 0 = 6 by decide), if_neg (show ¬ nI 0 = 7 by decide), if_neg (show ¬ nI 0 = 8 by decide)]
      exact Cmd_no h rfl rfl
  · rw [if_pos (show nI 1 = 1 by decide)]
    by_cases q : k ≤ b
    · rw [if_pos (hkb.mpr q), if_pos (show nI 1 = 1 by decide)]
      by_cases q1 : b = 0
      · rw [if_pos (b0.mpr q1), if_pos (b0.mpr q1), c_isStep, Option.bind_some]
        by_cases q2 : d = 0
        · rw [if_pos (d0.mpr q2), bit0 (c := 1 ≤ nI d ∧ nI d ≤ 99) (fun z => by have := (nI_leI (a := 1) (b := d) (by decide) (by omega)).mp z.1; omega), if_pos rfl]
          exact Cmd_no h rfl rfl
        · rw [if_neg (fun z => q2 (d0.mp z)), bit1 (c := 1 ≤ nI d ∧ nI d ≤ 99) ⟨nI_le (a := 1) (by omega) (by omega), nI_le (b := 99) (by omega) (by decide)⟩, if_neg c10]
          obtain ⟨a1, a2, a3, a4⟩ := try_steps h hN (m := d) (by omega)
          rw [a1, a2]
          exact ⟨1, _, _, rfl, rfl, a3, a4⟩
      · rw [if_neg (fun z => q1 (b0.mp z)), if_neg (fun z => q1 (b0.mp z))]
        exact Cmd_no h rfl rfl
    · rw [if_neg (fun z => q (hkb.mp z)), if_pos (show nI 1 = 1 by decide)]
      by_cases q1 : b = 0
      · rw [if_pos (b0.mpr q1), if_pos (b0.mpr q1), c_isStep, Option.bind_some]
        by_cases q2 : d = 0
        · rw [if_pos (d0.mpr q2), bit0 (c := 1 ≤ nI d ∧ nI d ≤ 99) (fun z => by have := (nI_leI (a := 1) (b := d) (by decide) (by omega)).mp z.1; omega), if_pos rfl]
          exact Cmd_no h rfl rfl
        · rw [if_neg (fun z => q2 (d0.mp z)), bit1 (c := 1 ≤ nI d ∧ nI d ≤ 99) ⟨nI_le (a := 1) (by omega) (by omega), nI_le (b := 99) (by omega) (by decide)⟩, if_neg c10]
          obtain ⟨a1, a2, a3, a4⟩ := try_steps h hN (m := d) (by omega)
          rw [a1, a2]
          exact ⟨1, _, _, rfl, rfl, a3, a4⟩
      · rw [if_neg (fun z => q1 (b0.mp z)), if_neg (fun z => q1 (b0.mp z))]
        exact Cmd_no h rfl rfl
  · rw [if_neg (show ¬ nI 2 = 1 by decide), if_pos (show nI 2 = 2 by decide)]
    by_cases q : k ≤ b
    · rw [if_pos (hkb.mpr q), if_neg (show ¬ nI 2 = 1 by decide), if_pos (show nI 2 = 2 by decide)]
      unfold fX4_triesPutting
      rw [c_has (j := 4) h, Option.bind_some, if_neg (show ¬ (0 ≤ nI b ∧ nI b < nI k) from fun z => absurd ((hasB hk12 hb).mp z) (by omega)), if_pos rfl, Option.bind_some, gz_bit (Or.inl rfl)]
      exact Cmd_no h rfl rfl
    · rw [if_neg (fun z => q (hkb.mp z)), if_neg (show ¬ nI 2 = 1 by decide), if_pos (show nI 2 = 2 by decide)]
      have hbk : b < k := by omega
      unfold fX4_triesPutting
      rw [c_has (j := 4) h, Option.bind_some, if_pos (show 0 ≤ nI b ∧ nI b < nI k from (hasB hk12 hb).mpr hbk), if_neg c10, c_hasSlot h.hn, m_isSlot hN (by omega), Option.bind_some, Option.bind_some]
      by_cases q1 : 0 ≤ nI d ∧ nI d < nI n
      · have hdn : d < n := (nI_ltI (by omega) (by omega)).mp q1.2
        rw [if_pos q1, if_neg c10, if_neg c10, m_canPut h hN hbk, Option.bind_some]
        unfold fX0_isIn
        rw [gd_nI (by omega) (by decide), nI_clamp (by omega)]
        by_cases hp : lPl (gTrial G) b = 1
        · rw [if_pos hp, Option.bind_some, if_neg c10, (rc_isFree h hN (nI d)).1, Option.bind_some]
          by_cases hz : sCt (lBad (gTrial G) (nI d)) k = 0
          · rw [if_pos hz, if_neg c10, if_pos (show lPl (gTrial G) b = 1 ∧ sCt (lBad (gTrial G) (nI d)) k = 0 from ⟨hp, hz⟩), if_neg c10, m_putAt h hbk]
            unfold fX0_hang
            rw [gd_nI (by omega) (by decide), nI_clamp (by omega), Option.bind_some, Option.bind_some, Option.bind_some, gz_bit (Or.inr rfl)]
            refine ⟨1, _, _, rfl, rfl, ?_, ⟨fun c c1 c2 => by simp (disch := omega) only [mA, aw_ne], rfl⟩⟩
            simp (disch := omega) only [mA, aw_at]
            exact RRel_hang h hbk hdn hz
          · rw [if_neg hz, if_pos rfl, if_neg (show ¬ (lPl (gTrial G) b = 1 ∧ sCt (lBad (gTrial G) (nI d)) k = 0) from fun z => hz z.2), if_pos rfl, Option.bind_some, gz_bit (Or.inl rfl)]
            exact Cmd_no h rfl rfl
        · rw [if_neg hp, Option.bind_some, if_pos rfl, if_neg (show ¬ (lPl (gTrial G) b = 1 ∧ sCt (lBad (gTrial G) (nI d)) k = 0) from fun z => hp z.1), if_pos rfl, Option.bind_some, gz_bit (Or.inl rfl)]
          exact Cmd_no h rfl rfl
      · rw [if_neg q1, if_pos rfl, if_pos rfl, Option.bind_some, gz_bit (Or.inl rfl)]
        exact Cmd_no h rfl rfl
  · rw [if_neg (show ¬ nI 3 = 1 by decide), if_neg (show ¬ nI 3 = 2 by decide), if_pos (show nI 3 = 3 by decide)]
    by_cases q : k ≤ b
    · rw [if_pos (hkb.mpr q), if_neg (show ¬ nI 3 = 1 by decide), if_neg (show ¬ nI 3 = 2 by decide), if_pos (show nI 3 = 3 by decide)]
      by_cases q1 : nI d = 0
      · rw [if_pos q1]
        unfold fX4_triesTaking
        rw [c_has (j := 4) h, Option.bind_some, if_neg (show ¬ (0 ≤ nI b ∧ nI b < nI k) from fun z => absurd ((hasB hk12 hb).mp z) (by omega)), if_pos rfl, Option.bind_some, if_pos rfl]
        exact Cmd_no h rfl rfl
      · rw [if_neg q1]
        exact Cmd_no h rfl rfl
    · rw [if_neg (fun z => q (hkb.mp z)), if_neg (show ¬ nI 3 = 1 by decide), if_neg (show ¬ nI 3 = 2 by decide), if_pos (show nI 3 = 3 by decide)]
      have hbk : b < k := by omega
      by_cases q1 : nI d = 0
      · rw [if_pos q1, if_pos q1]
        unfold fX4_triesTaking fX0_isIn fX0_move
        rw [c_has (j := 4) h, Option.bind_some, if_pos (show 0 ≤ nI b ∧ nI b < nI k from (hasB hk12 hb).mpr hbk), if_neg c10, gd_nI (by omega) (by decide), nI_clamp (by omega), aI60, gd_nI (by omega) (by decide), nI_clamp (by omega), (h.cell b hbk).pl]
        by_cases hp : lPl (gTrial G) b = 0
        · rw [if_pos hp, if_pos hp, Option.bind_some, if_neg c10, gd_nI (by omega) (by decide), Option.bind_some, Option.bind_some, if_neg c10]
          refine ⟨1, _, _, rfl, rfl, ?_, ⟨fun c c1 c2 => by simp (disch := omega) only [mA, aw_ne], rfl⟩⟩
          simp (disch := omega) only [mA, aw_at]
          exact RRel_take h hbk
        · rw [if_neg hp, if_neg hp, Option.bind_some, if_pos rfl, Option.bind_some, if_pos rfl]
          refine Cmd_no h rfl ?_
          rw [gd_nI (by omega) (by decide)]
      · rw [if_neg q1, if_neg q1]
        exact Cmd_no h rfl rfl
  · rw [if_neg (show ¬ nI 4 = 1 by decide), if_neg (show ¬ nI 4 = 2 by decide), if_neg (show ¬ nI 4 = 3 by decide), if_pos (show nI 4 = 4 by decide)]
    by_cases q : k ≤ b
    · rw [if_pos (hkb.mpr q), if_neg (show ¬ nI 4 = 1 by decide), if_neg (show ¬ nI 4 = 2 by decide), if_neg (show ¬ nI 4 = 3 by decide), if_pos (show nI 4 = 4 by decide)]
      by_cases q1 : nI (b % 10) = 0
      · rw [if_pos q1, if_pos q1]
        unfold fX4_triesLimit
        rw [c_isLimit, m_isLimit, Option.bind_some, Option.bind_some]
        by_cases q2 : (0 ≤ nI (b / 10) ∧ nI (b / 10) < 5) ∧ 1 ≤ nI d ∧ nI d ≤ nI (lMost (nI (b / 10)).toNatClampNeg)
        · have hm5 : b / 10 < 5 := (nI_ltI (b := 5) (by omega) (by decide)).mp q2.1.2
          rw [if_pos q2, if_neg c10, if_neg c10, gd_nI hm5 (by decide), aI99, gd_nI (by omega) (by decide), nI_clamp (by omega), nI_clamp (by omega), Option.bind_some, if_neg c10]
          rw [nI_clamp (by omega)] at q2
          refine ⟨1, _, _, rfl, rfl, ?_, ⟨fun c c1 c2 => by simp (disch := omega) only [mA, aw_ne], rfl⟩⟩
          simp (disch := omega) only [mA, aw_at]
          exact RRel_lim h hm5 q2.2
        · rw [if_neg q2, if_pos rfl, if_pos rfl, Option.bind_some, if_pos rfl]
          exact Cmd_no h rfl rfl
      · rw [if_neg q1, if_neg q1]
        exact Cmd_no h rfl rfl
    · rw [if_neg (fun z => q (hkb.mp z)), if_neg (show ¬ nI 4 = 1 by decide), if_neg (show ¬ nI 4 = 2 by decide), if_neg (show ¬ nI 4 = 3 by decide), if_pos (show nI 4 = 4 by decide)]
      by_cases q1 : nI (b % 10) = 0
      · rw [if_pos q1, if_pos q1]
        unfold fX4_triesLimit
        rw [c_isLimit, m_isLimit, Option.bind_some, Option.bind_some]
        by_cases q2 : (0 ≤ nI (b / 10) ∧ nI (b / 10) < 5) ∧ 1 ≤ nI d ∧ nI d ≤ nI (lMost (nI (b / 10)).toNatClampNeg)
        · have hm5 : b / 10 < 5 := (nI_ltI (b := 5) (by omega) (by decide)).mp q2.1.2
          rw [if_pos q2, if_neg c10, if_neg c10, gd_nI hm5 (by decide), aI99, gd_nI (by omega) (by decide), nI_clamp (by omega), nI_clamp (by omega), Option.bind_some, if_neg c10]
          rw [nI_clamp (by omega)] at q2
          refine ⟨1, _, _, rfl, rfl, ?_, ⟨fun c c1 c2 => by simp (disch := omega) only [mA, aw_ne], rfl⟩⟩
          simp (disch := omega) only [mA, aw_at]
          exact RRel_lim h hm5 q2.2
        · rw [if_neg q2, if_pos rfl, if_pos rfl, Option.bind_some, if_pos rfl]
          exact Cmd_no h rfl rfl
      · rw [if_neg q1, if_neg q1]
        exact Cmd_no h rfl rfl
  · rw [if_neg (show ¬ nI 5 = 1 by decide), if_neg (show ¬ nI 5 = 2 by decide), if_neg (show ¬ nI 5 = 3 by decide), if_neg (show ¬ nI 5 = 4 by decide), if_pos (show nI 5 = 5 by decide)]
    by_cases q : k ≤ b
    · rw [if_pos (hkb.mpr q), if_neg (show ¬ nI 5 = 1 by decide), if_neg (show ¬ nI 5 = 2 by decide), if_neg (show ¬ nI 5 = 3 by decide), if_neg (show ¬ nI 5 = 4 by decide), if_pos (show nI 5 = 5 by decide)]
      rw [c_has (j := 4) h, Option.bind_some, if_neg (show ¬ (0 ≤ nI b ∧ nI b < nI k) from fun z => absurd ((hasB hk12 hb).mp z) (by omega)), if_pos rfl]
      exact Cmd_no h rfl rfl
    · rw [if_neg (fun z => q (hkb.mp z)), if_neg (show ¬ nI 5 = 1 by decide), if_neg (show ¬ nI 5 = 2 by decide), if_neg (show ¬ nI 5 = 3 by decide), if_neg (show ¬ nI 5 = 4 by decide), if_pos (show nI 5 = 5 by decide)]
      have hbk : b < k := by omega
      rw [c_has (j := 4) h, Option.bind_some, if_pos (show 0 ≤ nI b ∧ nI b < nI k from (hasB hk12 hb).mpr hbk), if_neg c10, gd_nI (by omega) (by decide), aI12, gd_nI (by omega) (by decide), nI_clamp (by omega), nI_clamp (by omega), (h.cell b hbk).2.1]
      by_cases q1 : lCy (gTrial G) b = nI d
      · rw [if_pos q1, if_pos q1]
        exact Cmd_yes h rfl rfl
      · rw [if_neg q1, if_neg q1]
        exact Cmd_no h rfl rfl
  · rw [if_neg (show ¬ nI 6 = 1 by decide), if_neg (show ¬ nI 6 = 2 by decide), if_neg (show ¬ nI 6 = 3 by decide), if_neg (show ¬ nI 6 = 4 by decide), if_neg (show ¬ nI 6 = 5 by decide), if_pos (show nI 6 = 6 by decide)]
    by_cases q : k ≤ b
    · rw [if_pos (hkb.mpr q), if_neg (show ¬ nI 6 = 1 by decide), if_neg (show ¬ nI 6 = 2 by decide), if_neg (show ¬ nI 6 = 3 by decide), if_neg (show ¬ nI 6 = 4 by decide), if_neg (show ¬ nI 6 = 5 by decide), if_pos (show nI 6 = 6 by decide)]
      rw [c_has (j := 4) h, Option.bind_some, if_neg (show ¬ (0 ≤ nI b ∧ nI b < nI k) from fun z => absurd ((hasB hk12 hb).mp z) (by omega)), if_pos rfl]
      exact Cmd_no h rfl rfl
    · rw [if_neg (fun z => q (hkb.mp z)), if_neg (show ¬ nI 6 = 1 by decide), if_neg (show ¬ nI 6 = 2 by decide), if_neg (show ¬ nI 6 = 3 by decide), if_neg (show ¬ nI 6 = 4 by decide), if_neg (show ¬ nI 6 = 5 by decide), if_pos (show nI 6 = 6 by decide)]
      have hbk : b < k := by omega
      unfold fX0_isIn
      rw [c_has (j := 4) h, Option.bind_some, if_pos (show 0 ≤ nI b ∧ nI b < nI k from (hasB hk12 hb).mpr hbk), if_neg c10, gd_nI (by omega) (by decide), aI60, gd_nI (by omega) (by decide), nI_clamp (by omega), nI_clamp (by omega), (h.cell b hbk).pl]
      have h4 : lPl (gTrial G) b = nI d → d < 4 := fun z => by
        rcases (h.cell b hbk).ok.pl with y | y | y | y <;> rw [y] at z
        · have := (nI_eq (a := 0) (by decide) (by omega)).mp z; omega
        · have := (nI_eq (a := 1) (by decide) (by omega)).mp z; omega
        · have := (nI_eq (a := 2) (by decide) (by omega)).mp z; omega
        · have := (nI_eq (a := 3) (by decide) (by omega)).mp z; omega
      by_cases q1 : lPl (gTrial G) b = nI d
      · have := h4 q1
        rw [if_pos q1, if_pos q1, Option.bind_some, if_neg c10, if_neg (show ¬ (4 : Int32) ≤ nI d from nI_ge (b := 4) this (by decide))]
        exact Cmd_yes h rfl rfl
      · rw [if_neg q1, if_neg q1, Option.bind_some, if_pos rfl]
        exact Cmd_no h rfl (by split <;> rfl)
  · rw [if_neg (show ¬ nI 7 = 1 by decide), if_neg (show ¬ nI 7 = 2 by decide), if_neg (show ¬ nI 7 = 3 by decide), if_neg (show ¬ nI 7 = 4 by decide), if_neg (show ¬ nI 7 = 5 by decide), if_neg (show ¬ nI 7 = 6 by decide), if_pos (show nI 7 = 7 by decide)]
    by_cases q : k ≤ b
    · rw [if_pos (hkb.mpr q), if_neg (show ¬ nI 7 = 1 by decide), if_neg (show ¬ nI 7 = 2 by decide), if_neg (show ¬ nI 7 = 3 by decide), if_neg (show ¬ nI 7 = 4 by decide), if_neg (show ¬ nI 7 = 5 by decide), if_neg (show ¬ nI 7 = 6 by decide), if_pos (show nI 7 = 7 by decide)]
      by_cases q1 : nI b = 0
      · rw [if_pos q1, if_pos q1]
        obtain ⟨d1, d2⟩ := rc_count h (w := 0) (by decide)
        rw [d1, d2, Option.bind_some, Option.bind_some]
        by_cases q2 : nI (sCt (fun g => decide (lPl (gTrial G) g = 0)) k) = nI d
        · rw [if_pos q2, if_pos q2]
          exact Cmd_yes h rfl rfl
        · rw [if_neg q2, if_neg q2]
          exact Cmd_no h rfl rfl
      · rw [if_neg q1, if_neg q1]
        exact Cmd_no h rfl rfl
    · rw [if_neg (fun z => q (hkb.mp z)), if_neg (show ¬ nI 7 = 1 by decide), if_neg (show ¬ nI 7 = 2 by decide), if_neg (show ¬ nI 7 = 3 by decide), if_neg (show ¬ nI 7 = 4 by decide), if_neg (show ¬ nI 7 = 5 by decide), if_neg (show ¬ nI 7 = 6 by decide), if_pos (show nI 7 = 7 by decide)]
      by_cases q1 : nI b = 0
      · rw [if_pos q1, if_pos q1]
        obtain ⟨d1, d2⟩ := rc_count h (w := 0) (by decide)
        rw [d1, d2, Option.bind_some, Option.bind_some]
        by_cases q2 : nI (sCt (fun g => decide (lPl (gTrial G) g = 0)) k) = nI d
        · rw [if_pos q2, if_pos q2]
          exact Cmd_yes h rfl rfl
        · rw [if_neg q2, if_neg q2]
          exact Cmd_no h rfl rfl
      · rw [if_neg q1, if_neg q1]
        exact Cmd_no h rfl rfl
  · rw [if_neg (show ¬ nI 8 = 1 by decide), if_neg (show ¬ nI 8 = 2 by decide), if_neg (show ¬ nI 8 = 3 by decide), if_neg (show ¬ nI 8 = 4 by decide), if_neg (show ¬ nI 8 = 5 by decide), if_neg (show ¬ nI 8 = 6 by decide), if_neg (show ¬ nI 8 = 7 by decide), if_pos (show nI 8 = 8 by decide)]
    by_cases q : k ≤ b
    · rw [if_pos (hkb.mpr q), if_neg (show ¬ nI 8 = 1 by decide), if_neg (show ¬ nI 8 = 2 by decide), if_neg (show ¬ nI 8 = 3 by decide), if_neg (show ¬ nI 8 = 4 by decide), if_neg (show ¬ nI 8 = 5 by decide), if_neg (show ¬ nI 8 = 6 by decide), if_neg (show ¬ nI 8 = 7 by decide), if_pos (show nI 8 = 8 by decide)]
      rw [c_has (j := 4) h, m_isSlot hN (by omega), Option.bind_some, Option.bind_some]
      by_cases q1 : k ≤ d
      · rw [if_neg (show ¬ (0 ≤ nI d ∧ nI d < nI k) from fun z => absurd ((hasB hk12 hd).mp z) (by omega)), if_pos rfl, if_pos (hkd.mpr q1)]
        exact Cmd_no h rfl (by split <;> rfl)
      · have hdk : d < k := by omega
        unfold fX0_isIn
        rw [if_pos (show 0 ≤ nI d ∧ nI d < nI k from (hasB hk12 hd).mpr hdk), if_neg c10, if_neg (fun z => q1 (hkd.mp z)), gd_nI (by omega) (by decide), nI_clamp (by omega)]
        by_cases hs : 0 ≤ nI b ∧ nI b < nI n
        · rw [if_pos hs, if_neg c10]
          rcases rc_gripAt h (nI b) with ⟨-, g2, g3⟩ | ⟨g0, g1, g2, g3, -, g4⟩
          · rw [g2, Option.bind_some, if_neg (show ¬ (-9 : Int32) = nI d from fun z => by have q := nI_pos (n := d) (by omega); rw [← z] at q; exact q (by decide))]
            by_cases hp : lPl (gTrial G) d = 0
            · rw [if_pos hp, Option.bind_some, if_neg c10, gd_nI (by omega) (by decide), if_neg (fun z => g3 d hdk ⟨hp, z⟩)]
              exact Cmd_no h rfl rfl
            · rw [if_neg hp, Option.bind_some, if_pos rfl]
              exact Cmd_no h rfl rfl
          · rw [g4, Option.bind_some]
            by_cases e : g0 = d
            · subst e
              rw [if_pos rfl, if_pos g2, Option.bind_some, if_neg c10, gd_nI (by omega) (by decide), if_pos g3]
              exact Cmd_yes h rfl rfl
            · rw [if_neg (show ¬ nI g0 = nI d from fun z => e ((nI_eq (by omega) (by omega)).mp z))]
              by_cases hp : lPl (gTrial G) d = 0
              · rw [if_pos hp, Option.bind_some, if_neg c10, gd_nI (by omega) (by decide), if_neg (fun z => h.dst g0 d g1 hdk e g2 hp (g3.trans z.symm))]
                exact Cmd_no h rfl rfl
              · rw [if_neg hp, Option.bind_some, if_pos rfl]
                exact Cmd_no h rfl rfl
        · rw [if_neg hs, if_pos rfl]
          by_cases hp : lPl (gTrial G) d = 0
          · obtain ⟨-, a', ha', s1, -⟩ := h.on (by omega) hp
            rw [if_pos hp, Option.bind_some, if_neg c10, gd_nI (by omega) (by decide), if_neg (fun z => hs (by rw [← z, s1]; exact ⟨nI_pos' (by omega), nI_lt ha' (by omega)⟩))]
            exact Cmd_no h rfl rfl
          · rw [if_neg hp, Option.bind_some, if_pos rfl]
            exact Cmd_no h rfl rfl
    · rw [if_neg (fun z => q (hkb.mp z)), if_neg (show ¬ nI 8 = 1 by decide), if_neg (show ¬ nI 8 = 2 by decide), if_neg (show ¬ nI 8 = 3 by decide), if_neg (show ¬ nI 8 = 4 by decide), if_neg (show ¬ nI 8 = 5 by decide), if_neg (show ¬ nI 8 = 6 by decide), if_neg (show ¬ nI 8 = 7 by decide), if_pos (show nI 8 = 8 by decide)]
      rw [c_has (j := 4) h, m_isSlot hN (by omega), Option.bind_some, Option.bind_some]
      by_cases q1 : k ≤ d
      · rw [if_neg (show ¬ (0 ≤ nI d ∧ nI d < nI k) from fun z => absurd ((hasB hk12 hd).mp z) (by omega)), if_pos rfl, if_pos (hkd.mpr q1)]
        exact Cmd_no h rfl (by split <;> rfl)
      · have hdk : d < k := by omega
        unfold fX0_isIn
        rw [if_pos (show 0 ≤ nI d ∧ nI d < nI k from (hasB hk12 hd).mpr hdk), if_neg c10, if_neg (fun z => q1 (hkd.mp z)), gd_nI (by omega) (by decide), nI_clamp (by omega)]
        by_cases hs : 0 ≤ nI b ∧ nI b < nI n
        · rw [if_pos hs, if_neg c10]
          rcases rc_gripAt h (nI b) with ⟨-, g2, g3⟩ | ⟨g0, g1, g2, g3, -, g4⟩
          · rw [g2, Option.bind_some, if_neg (show ¬ (-9 : Int32) = nI d from fun z => by have q := nI_pos (n := d) (by omega); rw [← z] at q; exact q (by decide))]
            by_cases hp : lPl (gTrial G) d = 0
            · rw [if_pos hp, Option.bind_some, if_neg c10, gd_nI (by omega) (by decide), if_neg (fun z => g3 d hdk ⟨hp, z⟩)]
              exact Cmd_no h rfl rfl
            · rw [if_neg hp, Option.bind_some, if_pos rfl]
              exact Cmd_no h rfl rfl
          · rw [g4, Option.bind_some]
            by_cases e : g0 = d
            · subst e
              rw [if_pos rfl, if_pos g2, Option.bind_some, if_neg c10, gd_nI (by omega) (by decide), if_pos g3]
              exact Cmd_yes h rfl rfl
            · rw [if_neg (show ¬ nI g0 = nI d from fun z => e ((nI_eq (by omega) (by omega)).mp z))]
              by_cases hp : lPl (gTrial G) d = 0
              · rw [if_pos hp, Option.bind_some, if_neg c10, gd_nI (by omega) (by decide), if_neg (fun z => h.dst g0 d g1 hdk e g2 hp (g3.trans z.symm))]
                exact Cmd_no h rfl rfl
              · rw [if_neg hp, Option.bind_some, if_pos rfl]
                exact Cmd_no h rfl rfl
        · rw [if_neg hs, if_pos rfl]
          by_cases hp : lPl (gTrial G) d = 0
          · obtain ⟨-, a', ha', s1, -⟩ := h.on (by omega) hp
            rw [if_pos hp, Option.bind_some, if_neg c10, gd_nI (by omega) (by decide), if_neg (fun z => hs (by rw [← z, s1]; exact ⟨nI_pos' (by omega), nI_lt ha' (by omega)⟩))]
            exact Cmd_no h rfl rfl
          · rw [if_neg hp, Option.bind_some, if_pos rfl]
            exact Cmd_no h rfl rfl
  · rw [if_neg (show ¬ nI 9 = 1 by decide), if_neg (show ¬ nI 9 = 2 by decide), if_neg (show ¬ nI 9 = 3 by decide), if_neg (show ¬ nI 9 = 4 by decide), if_neg (show ¬ nI 9 = 5 by decide), if_neg (show ¬ nI 9 = 6 by decide), if_neg (show ¬ nI 9 = 7 by decide), if_neg (show ¬ nI 9 = 8 by decide)]
    by_cases q : k ≤ b
    · rw [if_pos (hkb.mpr q), if_neg (show ¬ nI 9 = 1 by decide), if_neg (show ¬ nI 9 = 2 by decide), if_neg (show ¬ nI 9 = 3 by decide), if_neg (show ¬ nI 9 = 4 by decide), if_neg (show ¬ nI 9 = 5 by decide), if_neg (show ¬ nI 9 = 6 by decide), if_neg (show ¬ nI 9 = 7 by decide), if_neg (show ¬ nI 9 = 8 by decide)]
      exact Cmd_no h rfl rfl
    · rw [if_neg (fun z => q (hkb.mp z)), if_neg (show ¬ nI 9 = 1 by decide), if_neg (show ¬ nI 9 = 2 by decide), if_neg (show ¬ nI 9 = 3 by decide), if_neg (show ¬ nI 9 = 4 by decide), if_neg (show ¬ nI 9 = 5 by decide), if_neg (show ¬ nI 9 = 6 by decide), if_neg (show ¬ nI 9 = 7 by decide), if_neg (show ¬ nI 9 = 8 by decide)]
      exact Cmd_no h rfl rfl
/-! the groups of a script -/
theorem c_power : ∀ m, m ≤ 3 → fX4_groupPower (nI m) = some (lN (100000 ^ m)) := fun m hm => by
  refine run_up (fun f i => fX4_groupPower_L4 f (nI m) (lN (100000 ^ i)) (nI i)) m (fun i f hi => ?_) (fun f => ?_) (by show m < 3000; omega)
  · show fX4_groupPower_L4 (f + 1) (nI m) (lN (100000 ^ i)) (nI i) = _
    rw [fX4_groupPower_L4, if_neg (nI_ge hi (by omega)), nI_1, show (100000 : Int64) = lN 100000 from rfl, lN_mul, Nat.pow_succ]
  · show fX4_groupPower_L4 (f + 1) (nI m) _ (nI m) = _
    rw [fX4_groupPower_L4, if_pos (Int32.le_refl _)]
theorem m_tenTo : ∀ m, m ≤ 15 → fX5_tenTo (nI m) = some (lN (10 ^ m)) := fun m hm => by
  refine run_up (fun f i => fX5_tenTo_L4 f (nI m) (lN (10 ^ i)) (nI i)) m (fun i f hi => ?_) (fun f => ?_) (by show m < 3000; omega)
  · show fX5_tenTo_L4 (f + 1) (nI m) (lN (10 ^ i)) (nI i) = _
    rw [fX5_tenTo_L4, if_neg (nI_ge hi (by omega)), nI_1, show (10 : Int64) = lN 10 from rfl, lN_mul, Nat.pow_succ]
  · show fX5_tenTo_L4 (f + 1) (nI m) _ (nI m) = _
    rw [fX5_tenTo_L4, if_pos (Int32.le_refl _)]
theorem p5 : ∀ j, j ≤ 3 → 10 ^ (5 * j) = 100000 ^ j ∧ (5 : Int32) * nI j = nI (5 * j) ∧ 0 < 100000 ^ j ∧ 100000 ^ j < 2 ^ 63 := by decide +kernel
theorem c_groupAt {X j : Nat} (hX : X < 2 ^ 63) (hj : j ≤ 3) : fX4_groupAt (lN X) (nI j) = some (nI (X / 100000 ^ j % 100000)) := by
  have key := run_up (fun f i => fX4_groupAt_L5 f (nI j) (lN (X / 100000 ^ i)) (nI i)) j (r := some (nI (X / 100000 ^ j % 100000))) (fuel := KF) (fun i f hi => ?_) (fun f => ?_) (by show j < 3000; omega)
  · have e : X / 100000 ^ 0 = X := by rw [Nat.pow_zero, Nat.div_one]
    have key : fX4_groupAt_L5 KF (nI j) (lN (X / 100000 ^ 0)) (nI 0) = some (nI (X / 100000 ^ j % 100000)) := key
    rw [e] at key
    exact key
  · show fX4_groupAt_L5 (f + 1) (nI j) (lN (X / 100000 ^ i)) (nI i) = fX4_groupAt_L5 f (nI j) (lN (X / 100000 ^ (i + 1))) (nI (i + 1))
    have hle : X / 100000 ^ i ≤ X := Nat.div_le_self _ _
    rw [fX4_groupAt_L5, if_neg (nI_ge hi (by omega)), nI_1, show lN (X / 100000 ^ i) / 100000 = lN (X / 100000 ^ i / 100000) from pk_lDiv (b := 100000) (by omega) (by decide) (by decide), Nat.div_div_eq_div_mul, ← Nat.pow_succ]
  · show fX4_groupAt_L5 (f + 1) (nI j) (lN (X / 100000 ^ j)) (nI j) = some (nI (X / 100000 ^ j % 100000))
    have hle : X / 100000 ^ j ≤ X := Nat.div_le_self _ _
    rw [fX4_groupAt_L5, if_pos (Int32.le_refl _), show lN (X / 100000 ^ j) - lN (X / 100000 ^ j) / 100000 * 100000 = lN (X / 100000 ^ j % 100000) from pk_lRem (b := 100000) (by omega) (by decide) (by decide), lN_i]
theorem rs_loop {n k X m : Nat} (hX : X < 2 ^ 63) (hm : m ≤ 3) : ∀ (d i f g : Nat) (G : GSt) (M : MSt), m - i = d → i ≤ m → d < f → d < g → mN M = nI n → RRel k n (gTrial G) (mA M 4) →
    ∃ (r : Int32) (T' : LSt) (M' : MSt), fX4_runScript_L60 f G (nI m) (lN X) (nI i) = some (0, r, wTr G T') ∧ fX5_runScript_L60 g M (nI m) (lN X) (nI i) = some (r, M') ∧ SameBut 4 M M'
  | 0, i, f, g, G, M, hd, hi, hf, hg, hN, hr => by
    obtain ⟨f, rfl⟩ : ∃ f', f = f' + 1 := ⟨f - 1, by omega⟩
    obtain ⟨g, rfl⟩ : ∃ g', g = g' + 1 := ⟨g - 1, by omega⟩
    obtain rfl : i = m := by omega
    refine ⟨-9, gTrial G, M, ?_, ?_, SameBut.refl 4 M⟩
    · rw [fX4_runScript_L60, if_pos (Int32.le_refl _)]; rfl
    · rw [fX5_runScript_L60, if_pos (Int32.le_refl _)]
  | d + 1, i, f, g, G, M, hd, hi, hf, hg, hN, hr => by
    obtain ⟨f, rfl⟩ : ∃ f', f = f' + 1 := ⟨f - 1, by omega⟩
    obtain ⟨g, rfl⟩ : ∃ g', g = g' + 1 := ⟨g - 1, by omega⟩
    have e1 : nI m - 1 - nI i = nI d := by
      rw [show (1 : Int32) = nI 1 from rfl, pk_sub (by omega), pk_sub (by omega)]; congr 1; omega
    obtain ⟨p1, p2, p3, p4⟩ := p5 d (by omega)
    have hle : X / 100000 ^ d ≤ X := Nat.div_le_self _ _
    have hnz : ¬ lN (100000 ^ d) = 0 := fun z => by have := (pk_lEQ (b := 0) p4 (by decide)).mp z; omega
    have z : ∀ {α : Type} (k : Option α), nzl (lN (100000 ^ d)) k = k := fun k => by unfold nzl; rw [if_neg hnz]
    have e2 : (lN X / lN (100000 ^ d) - lN X / lN (100000 ^ d) / 100000 * 100000).toInt32 = nI (X / 100000 ^ d % 100000) := by
      rw [pk_lDiv hX p3 p4, show lN (X / 100000 ^ d) - lN (X / 100000 ^ d) / 100000 * 100000 = lN (X / 100000 ^ d % 100000) from pk_lRem (b := 100000) (by omega) (by decide) (by decide), lN_i]
    obtain ⟨r, T, M1, c1, c2, c3, c4⟩ := o_command (c := X / 100000 ^ d % 100000) hr hN (Nat.mod_lt _ (by decide))
    rw [fX4_runScript_L60, if_neg (nI_ge (by omega) (by omega)), e1, c_groupAt hX (by omega), Option.bind_some, c1, Option.bind_some, fX5_runScript_L60, if_neg (nI_ge (by omega) (by omega)), e1, p2, m_tenTo _ (by omega), Option.bind_some, p1, z, e2, c2, Option.bind_some]
    show ∃ (r_1 : Int32) (T' : LSt) (M' : MSt), (if r = 0 then some (0, nI i, wTr G T) else fX4_runScript_L60 f (wTr G T) (nI m) (lN X) (nI i + 1)) = some (0, r_1, wTr G T') ∧ (if r = 0 then some (nI i, M1) else fX5_runScript_L60 g M1 (nI m) (lN X) (nI i + 1)) = some (r_1, M') ∧ SameBut 4 M M'
    by_cases hz : r = 0
    · rw [if_pos hz, if_pos hz]
      exact ⟨nI i, T, M1, rfl, rfl, c4⟩
    · rw [if_neg hz, if_neg hz, nI_1]
      obtain ⟨r', T2, M2, d1, d2, d3⟩ := rs_loop (k := k) hX hm d (i + 1) f g (wTr G T) M1 (by omega) (by omega) (by omega) (by omega) (c4.n.trans hN) c3
      exact ⟨r', T2, M2, d1, d2, c4.trans d3⟩
theorem lg_neg (a b : Int64) : (lg_cmp a b < 0) ↔ ¬ b ≤ a := by
  rw [← lg_cmp_ge a b, fa_lt, fa_le]; omega
theorem in13' (x : Int32) : (1 ≤ x ∧ x ≤ 3) ∨ x < 1 ∨ (¬ x < 1 ∧ ¬ x ≤ 3) := by
  by_cases q : x < 1
  · exact Or.inr (Or.inl q)
  · by_cases q2 : x ≤ 3
    · exact Or.inl ⟨fa_of_nlt q, q2⟩
    · exact Or.inr (Or.inr ⟨q, q2⟩)
theorem o_runScript {G : GSt} {M : MSt} (h : GRel G M) (p : Int32) (x : Int64) : OpR 1 9 (fX4_runScript G p x) (fX5_runScript M p x) := by
  have h' := h
  obtain ⟨n, h1, ⟨k, h2⟩, h3, h4, h5⟩ := h'
  have hM : GRel G (mA M, 0, mSize M, mSpot M, mRN M, mN M, mActs M) := h.scr 0 _ _
  unfold fX4_runScript fX5_runScript
  rw [m_inI p 1 3 (by decide +kernel) (by decide +kernel), Option.bind_some]
  rcases in13' p with hc | hc | hc
  · rw [if_neg (fun z => (fa_of_lt z).2.1 hc.1), if_pos hc.2, if_pos hc, if_neg c10]
    have hc1 := hc.1
    have e1 : (1 : Int32).toInt = 1 := by decide
    have e0 : (0 : Int32).toInt = 0 := by decide
    obtain ⟨m, hm, rfl⟩ := nI_of (x := p) (fun z => by rw [fa_lt] at z; rw [fa_le] at hc1; omega)
    have hm3 : m ≤ 3 := (nI_leI (b := 3) hm (by decide)).mp hc.2
    obtain ⟨p1, p2, p3, p4⟩ := p5 m hm3
    rw [p2, m_tenTo _ (by omega), Option.bind_some, p1, show lN (100000 ^ m) - 1 = lN (100000 ^ m - 1) from lN_sub (b := 1) (by omega), m_in, Option.bind_some, c_power m hm3, Option.bind_some]
    by_cases h0 : (0 : Int64) ≤ x
    · obtain ⟨X, hX, rfl⟩ := pk_lOf (x := x) (fun z => by
        have z1 := (fa_lt64 x 0).mp z
        have z2 := (fa_le64 0 x).mp h0
        omega)
      rw [if_neg (fun z => (lg_neg _ _).mp z h0)]
      by_cases hl : X < 100000 ^ m
      · rw [if_pos ((lg_neg _ _).mpr (fun z => by have := (pk_lLE p4 hX).mp z; omega)), bit1 (c := 0 ≤ lN X ∧ lN X ≤ lN (100000 ^ m - 1)) ⟨h0, (pk_lLE hX (by omega)).mpr (by omega)⟩, if_neg c10, m_refused0, Option.bind_some, if_pos rfl, m_cpT, Option.bind_some]
        have hT := cpT_rel (X := gTrial G) (M := (mA M, (0 : Int32), mSize M, mSpot M, mRN M, mN M, mActs M)) h2
        have hs0 := cpT_same (mA M, (0 : Int32), mSize M, mSpot M, mRN M, mN M, mActs M)
        obtain ⟨r, T', M', r1, r2, r3⟩ := rs_loop (k := k) hX hm3 m 0 KF KF (gLift G, lCopy (gTrial G) (gLift G), gTxt G, gSum G, gHis G, gSav G, gSvd G, gRem G, gNxt G) _ (by omega) (by omega) (by show m < 3000; omega) (by show m < 3000; omega) (hs0.n.trans h1) hT
        exact ⟨0, r, _, r, M', r1, r2, Or.inl rfl, (hs0.trans r3).ref, fun _ => rfl, GRel_try hM (hs0.trans r3) _ _⟩
      · rw [if_neg (fun z => (lg_neg _ _).mp z ((pk_lLE p4 hX).mpr (by omega))), bit0 (c := 0 ≤ lN X ∧ lN X ≤ lN (100000 ^ m - 1)) (fun z => by have := (pk_lLE hX (by omega)).mp z.2; omega), if_pos rfl, m_refused1, Option.bind_some, if_neg c10]
        exact OpR_no h (k := 1) (c := 1) (Or.inl rfl) (by decide) rfl rfl rfl
    · rw [if_pos ((lg_neg _ _).mpr h0), bit0 (c := 0 ≤ x ∧ x ≤ lN (100000 ^ m - 1)) (fun z => h0 z.1), if_pos rfl, m_refused1, Option.bind_some, if_neg c10]
      exact OpR_no h (k := 1) (c := 1) (Or.inl rfl) (by decide) rfl rfl rfl
  · rw [if_pos hc, if_neg (show ¬ (1 ≤ p ∧ p ≤ 3) from fun z => (fa_of_lt hc).2.1 z.1), if_pos rfl, m_refused1, Option.bind_some, if_neg c10]
    exact OpR_no h (k := 1) (c := 1) (Or.inl rfl) (by decide) rfl rfl rfl
  · rw [if_neg hc.1, if_neg hc.2, if_neg (show ¬ (1 ≤ p ∧ p ≤ 3) from fun z => hc.2 z.2), if_pos rfl, m_refused1, Option.bind_some, if_neg c10]
    exact OpR_no h (k := 1) (c := 1) (Or.inl rfl) (by decide) rfl rfl rfl

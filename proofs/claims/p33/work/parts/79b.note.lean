/-! PURE LEVEL: what is remembered -/
theorem n106 : ∀ a, a < 14 → (106 : Int32) * nI a = nI (106 * a) := by decide +kernel
theorem nx14 : ∀ x, x < 14 → (if 14 ≤ nI x + 1 then (0 : Int32) else nI x + 1) = nI ((x + 1) % 14) := by decide +kernel
theorem his_grow {n k a x : Nat} {L X : LSt} {r d : RI} {his : Nat → LSt} (hL : RRel k n L r) (ha : a < 14) (hx : x < 14) (hh : ∀ i, i < a → ∃ k, RRel k n (his ((x + 14 - a + i) % 14)) (fun q => d (106 * i + q))) :
    HisOk n (va_up his x (lCopy X L)) (nI (a + 1)) (nI ((x + 1) % 14)) (nI (a + 1)) (fb_put d (fun q => r (0 + q)) (106 * a) 106) := by
  refine ⟨a + 1, (x + 1) % 14, by omega, Nat.mod_lt _ (by decide), rfl, rfl, rfl, fun i hi => ?_⟩
  by_cases e : i = a
  · subst e
    rw [show ((x + 1) % 14 + 14 - (i + 1) + i) % 14 = x by omega, va_up_at]
    exact ⟨k, RRel_cong (RRel_lCopy hL) (fun q hq => by rw [fb_put_in (by omega) (by omega)]; congr 1; omega)⟩
  · obtain ⟨k', hk⟩ := hh i (by omega)
    rw [show ((x + 1) % 14 + 14 - (a + 1) + i) % 14 = (x + 14 - a + i) % 14 by omega, va_up_nx _ _ (by omega)]
    exact ⟨k', RRel_cong hk (fun q hq => fb_put_out (by omega))⟩
theorem his_full {n k x : Nat} {L X : LSt} {r d : RI} {his : Nat → LSt} (hL : RRel k n L r) (hx : x < 14) (hh : ∀ i, i < 14 → ∃ k, RRel k n (his ((x + 14 - 14 + i) % 14)) (fun q => d (106 * i + q))) :
    HisOk n (va_up his x (lCopy X L)) (nI 14) (nI ((x + 1) % 14)) (nI 14) (fb_put (fb_put d (fun q => d (106 + q)) 0 1378) (fun q => r (0 + q)) 1378 106) := by
  refine ⟨14, (x + 1) % 14, by omega, Nat.mod_lt _ (by decide), rfl, rfl, rfl, fun i hi => ?_⟩
  by_cases e : i = 13
  · subst e
    rw [show ((x + 1) % 14 + 14 - 14 + 13) % 14 = x by omega, va_up_at]
    exact ⟨k, RRel_cong (RRel_lCopy hL) (fun q hq => by
      have e9 : 0 + (106 * 13 + q - 1378) = q := by omega
      rw [fb_put_in (by omega) (by omega), e9])⟩
  · obtain ⟨k', hk⟩ := hh (i + 1) (by omega)
    rw [show ((x + 1) % 14 + 14 - 14 + i) % 14 = (x + 14 - 14 + (i + 1)) % 14 by omega, va_up_nx _ _ (by omega)]
    exact ⟨k', RRel_cong hk (fun q hq => by rw [fb_put_out (by omega), fb_put_in (by omega) (by omega)]; congr 1; omega)⟩
theorem c_remember {G : GSt} {a x : Nat} (hx : x < 14) (e1 : gRem G = nI a) (e3 : gNxt G = nI x) : fX4_remember G = some (gLift G, gTrial G, gTxt G, gSum G, va_up (gHis G) x (lCopy (gHis G x) (gLift G)), gSav G, gSvd G, (if (14 : Int32) ≤ nI a then nI a else nI a + 1), nI ((x + 1) % 14)) := by
  have hN := nx14 x hx
  unfold fX4_remember
  rw [e3, gd_nI hx (by decide), nI_clamp (by omega), e1]
  by_cases q1 : 14 ≤ nI x + 1
  · rw [if_pos q1] at hN ⊢
    rw [← hN]
    by_cases q2 : (14 : Int32) ≤ nI a
    · rw [if_pos q2, if_pos q2]
    · rw [if_neg q2, if_neg q2]
  · rw [if_neg q1] at hN ⊢
    rw [← hN]
    by_cases q2 : (14 : Int32) ≤ nI a
    · rw [if_pos q2, if_pos q2]
    · rw [if_neg q2, if_neg q2]
theorem m_note_grow {M : MSt} {a : Nat} (ha : a < 14) (e2 : mActs M = nI a) : fX5_note M = some (va_up (mA M) 5 (fb_put (mA M 5) (fun q => mA M 3 (0 + q)) (106 * a) 106), mRef M, mSize M, mSpot M, mRN M, mN M, nI (a + 1)) := by
  have c2 : fX5_copy 3 5 M 0 (nI (106 * a)) 106 = _ := m_copy 3 5 M (a := 0) (b := 106 * a) (m := 106) (Or.inl (by decide)) (by decide) (by show 106 * a + 106 ≤ 1484; omega) (by decide) (by decide)
  unfold fX5_note
  rw [e2, if_neg (show ¬ nI a = 14 from fun z => by have := (nI_eq (a := a) (b := 14) (by omega) (by decide)).mp z; omega), n106 a ha, c2, Option.bind_some]
  rw [← nI_1, ← e2]
theorem va_up_twice {α : Type} (A : Nat → α) (j : Nat) (f g : α) : va_up (va_up A j f) j g = va_up A j g := by
  funext c; unfold va_up; by_cases h : c = j <;> simp [h]
theorem m_note_full {M : MSt} (e2 : mActs M = nI 14) : fX5_note M = some (va_up (mA M) 5 (fb_put (fb_put (mA M 5) (fun q => mA M 5 (106 + q)) 0 1378) (fun q => mA M 3 (0 + q)) 1378 106), mRef M, mSize M, mSpot M, mRN M, mN M, nI 14) := by
  have c1 : fX5_copy 5 5 M 106 0 1378 = some (va_up (mA M) 5 (fb_put (mA M 5) (fun q => mA M 5 (106 + q)) 0 1378), M.2) := m_copy 5 5 M (a := 106) (b := 0) (m := 1378) (Or.inr (by decide)) (by decide) (by decide) (by decide) (by decide)
  have e7 : mActs M - 1 = nI 13 := by rw [e2]; decide +kernel
  have e9 : (106 : Int32) * nI 13 = nI 1378 := by decide +kernel
  generalize fb_put (mA M 5) (fun q => mA M 5 (106 + q)) 0 1378 = f at c1 ⊢
  have c2 : fX5_copy 3 5 (va_up (mA M) 5 f, mRef M, mSize M, mSpot M, mRN M, mN M, nI 13) 0 (nI 1378) 106 = some (va_up (mA M) 5 (fb_put f (fun q => mA M 3 (0 + q)) 1378 106), mRef M, mSize M, mSpot M, mRN M, mN M, nI 13) := by
    refine (m_copy 3 5 (va_up (mA M) 5 f, mRef M, mSize M, mSpot M, mRN M, mN M, nI 13) (a := 0) (b := 1378) (m := 106) (Or.inl (by decide)) (by decide) (by decide) (by decide) (by decide)).trans ?_
    show some (va_up (va_up (mA M) 5 f) 5 (fb_put (va_up (mA M) 5 f 5) (fun q => va_up (mA M) 5 f 3 (0 + q)) 1378 106), _) = _
    rw [va_up_at, va_up_twice, show va_up (mA M) 5 f 3 = mA M 3 from va_up_nx (mA M) (j := 5) (c := 3) f (by decide)]
  unfold fX5_note
  rw [if_pos (show mActs M = 14 from e2), c1, Option.bind_some]
  show (fX5_copy 3 5 (va_up (mA M) 5 f, mRef M, mSize M, mSpot M, mRN M, mN M, mActs M - 1) 0 (106 * (mActs M - 1)) 106).bind _ = _
  rw [e7, e9, c2, Option.bind_some]
  rfl
theorem o_note {n k : Nat} {G : GSt} {M : MSt} (hL : RRel k n (gLift G) (mA M 3)) (h : HisOk n (gHis G) (gRem G) (gNxt G) (mActs M) (mA M 5)) :
    ∃ his rem nxt acts d, fX4_remember G = some (gLift G, gTrial G, gTxt G, gSum G, his, gSav G, gSvd G, rem, nxt) ∧ fX5_note M = some (va_up (mA M) 5 d, mRef M, mSize M, mSpot M, mRN M, mN M, acts) ∧ HisOk n his rem nxt acts d := by
  obtain ⟨a, x, ha, hx, e1, e2, e3, hh⟩ := h
  by_cases h14 : a = 14
  · subst h14
    exact ⟨_, _, _, _, _, c_remember hx e1 e3, m_note_full e2, by rw [if_pos (by decide)]; exact his_full hL hx hh⟩
  · have e9 : ¬ (14 : Int32) ≤ nI a := nI_ge (b := 14) (by omega) (by decide)
    exact ⟨_, _, _, _, _, c_remember hx e1 e3, m_note_grow (by omega) e2, by rw [if_neg e9, nI_1]; exact his_grow hL (by omega) hx hh⟩

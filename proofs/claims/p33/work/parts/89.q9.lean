/-! PURE LEVEL of the property: every slot tried -/
def roomC (L : LSt) (k : Nat) (j : Nat) : Bool := decide (sCt (lBad L (nI j)) k = 0)
theorem slot_b {k n i : Nat} {L : LSt} {S : GSt} (hL : gLift S = L) (h : LOk k n L) (hi : i < n) : ∃ v b, fL_slot S (nI i) = some (v, S) ∧ (if lg_cmp v (-9) = 0 then some (1 : Int32) else some 0) = some (mayv L (nI i) b 0) ∧ mayv L (nI i) b k = if sCt (lBad L (nI i)) k = 0 then 1 else 0 := by
  have hk := h.k12
  by_cases ho : occ L k i
  · have hb := occ_bad h hi ho
    obtain ⟨g, hg, hp, hs⟩ := ho
    refine ⟨lN g, false, as_hit hL h hi hg hp hs, ?_, ?_⟩
    · rw [if_neg (by rw [lc0]; intro z; have := congrArg Int64.toInt z; rw [lN_toInt (by omega), l9T] at this; omega)]; rfl
    · rw [if_neg hb]; unfold mayv; rw [if_neg (fun z => absurd z.1 (by decide))]
  · refine ⟨-9, true, as_miss hL h hi ho, ?_, ?_⟩
    · rw [if_pos (lq rfl)]; rfl
    · unfold mayv
      by_cases q : sCt (lBad L (nI i)) k = 0
      · rw [if_pos q, if_pos ⟨rfl, q⟩]
      · rw [if_neg q, if_neg (fun z => q z.2)]
/-- put on, seen, taken off, seen, and both undone -/
theorem put_back {k n g i x a : Nat} {G0 : GSt} {L : LSt} {S : GSt} (h : LOk k n L) (hI : FI k n G0 L S) (hg : g < k) (hi : i < n) (hh : HOk S a x) (hp : lPl (gLift S) g = 1) (hr : sCt (lBad (gLift S) (nI i)) k = 0) : ∃ S1 S2 U1 U2 v1 v2, fL_putOn S (nI g) (nI i) = some (lN (cN L k 0 + 1), S1) ∧ fL_slot S1 (nI i) = some (lN g, S1) ∧ fL_takeOff S1 (nI g) = some (lN i, S2) ∧ fL_grip S2 (nI g) 5 = some ((1 : Int32).toInt64, S2) ∧ (fL_undo S2 = some (lN v1, U1) ∧ v1 < 14) ∧ (fL_undo U1 = some (lN v2, U2) ∧ v2 < 14) ∧ FI k n G0 L U2 := by
  obtain ⟨hl, he, f3, f4, f5, -⟩ := id hI
  have hx := hh.2.1
  obtain ⟨S1, s1, s2⟩ := act_put rfl hl hh hg hi hp hr
  have c0 : cN (gLift S) k 0 = cN L k 0 := NEq_cN he 0
  rw [c0] at s1
  have hl1 := LOk_hang hl hg hi hr
  obtain ⟨a1, a2, a3, a4, ⟨X, a5⟩, a6, a', a7, a8, a9⟩ := id s2
  have p1 : lPl (gLift S1) g = 0 := by rw [a1]; exact upd_at
  have q1 : lSp (gLift S1) g = nI i := by rw [a1]; exact upd_at
  have hl1' : LOk k n (gLift S1) := by rw [a1]; exact hl1
  obtain ⟨S2, t1, t2⟩ := act_take rfl hl1' a9 hg hi p1 q1
  have hl2 := LOk_pl hl1' hg (v := 1) (Or.inl rfl)
  obtain ⟨v1, U1, u1, u2, u3, u4, u5, u6, u7, a'', u8, u9⟩ := act_undo t2 a9.2.1 SEq.rf
  have r1 : gRem S1 ≠ 0 := by
    rw [a9.2.2.1]; have := a9.1; exact nI_ne0 (by omega) (by omega)
  have u8' := u8 r1
  obtain ⟨U2, w1, w2, w3, w4, w5, w6, w7, w8⟩ := undo_ok u8' hx u9
  have h14 := u9.1
  refine ⟨S1, S2, U1, U2, v1, a'' - 1, s1, as_hit rfl hl1' hi hg p1 q1, t1, ?_, ⟨u1, u2⟩, ⟨w1, by omega⟩, ?_⟩
  · have e : fL_grip S2 (nI g) 5 = some ((lPl (wPl (gLift S1) g 1) g).toInt64, S2) := ag t2.1 hl2 hg (w := 5) (by decide)
    rw [e, show lPl (wPl (gLift S1) g 1) g = 1 from upd_at]
  · have hne : x ≠ (x + 1) % 14 := by
      by_cases q : x = 13
      · rw [q]; decide
      · rw [Nat.mod_eq_of_lt (by omega)]; omega
    have hw : gLift U2 = lCopy (gLift U1) (lCopy X (gLift S)) := by rw [w2, u7 x hne, a5]
    have hc : CL (gLift S) (gLift U2) := by rw [hw]; exact (CL.copy X).tr (CL.copy _)
    obtain ⟨d1, d2⟩ := hc k n hl
    refine ⟨d1, he.tr d2, ?_, ?_, ?_, _, _, w8⟩
    · rw [w4, u4, a2]; exact f3
    · rw [w5, u5, a3]; exact f4
    · rw [w6, u6, a4]; exact f5
set_option maxHeartbeats 2000000 in
theorem fl_422 (kk : GSt → Int32 → Int64 → Int32 → Int32 → Int32 → Int64 → Int32 → Int32 → Option GSt) {k n g : Nat} {G0 : GSt} {L : LSt} {S0 : GSt} (hk0 : 0 < k) (h : LOk k n L) (h0 : FI k n G0 L S0) (hg : g < k) (x1 : Int32) {x4 : Int32} (h4 : x4 = nI n) (x6 : Int32) (x7 : Int64) : ∃ S, FI k n G0 L S ∧ fL_follows_L422 kk 21 S0 x1 (nwV L k n) x4 (nI k) x6 x7 (lN (cN L k 0)) (nI g) 0 0 = kk S x1 (nwV L k n) (nI n) (nI k) x6 x7 (nI g) (nI (sCt (roomC L k) n)) := by
  subst h4
  have hk := h.k12
  have hn := h.n20
  have kn : ¬ nI k ≤ 0 := nI_nle hk0 (by omega)
  have st : ∀ (i f : Nat) (S : GSt), i < n → FI k n G0 L S → ∃ S', FI k n G0 L S' ∧ fL_follows_L422 kk (f + 1) S x1 (nwV L k n) (nI n) (nI k) x6 x7 (lN (cN L k 0)) (nI g) (nI (sCt (roomC L k) i)) (nI i) = fL_follows_L422 kk f S' x1 (nwV L k n) (nI n) (nI k) x6 x7 (lN (cN L k 0)) (nI g) (nI (sCt (roomC L k) (i + 1))) (nI (i + 1)) := by
    intro i f S hi hI
    obtain ⟨hl, he, -, -, -, a, x, hh⟩ := id hI
    have hx := hh.2.1
    have eb := NEq_bad h hl he (nI i)
    obtain ⟨v, b, e1, e2, e3⟩ := slot_b rfl hl hi
    have eg : fL_grip S (nI g) 5 = some ((lPl (gLift S) g).toInt64, S) := ag rfl hl hg (w := 5) (by decide)
    have E : ∀ kk2, fL_follows_L462 kk2 13 S x1 (nwV L k n) (nI n) (nI k) x6 x7 (lN (cN L k 0)) (nI g) (nI (sCt (roomC L k) i)) (nI i) (mayv (gLift S) (nI i) b 0) 0 = kk2 S x1 (nwV L k n) (nI n) (nI k) x6 x7 (lN (cN L k 0)) (nI g) (nI (sCt (roomC L k) i)) (nI i) (if sCt (lBad (gLift S) (nI i)) k = 0 then 1 else 0) := fun kk2 => by
      rw [fl_462 kk2 rfl hl hi b x1 _ rfl x6 x7 _ _ _ rfl, e3]
    by_cases hr : sCt (lBad (gLift S) (nI i)) k = 0
    · have er : sCt (roomC L k) (i + 1) = sCt (roomC L k) i + 1 := sCt_yes (decide_eq_true (eb.symm.trans hr))
      by_cases hp : lPl (gLift S) g = 1
      · obtain ⟨S1, S2, U1, U2, v1, v2, r1, r2, r3, r4, ⟨r5, r6⟩, ⟨r7, r8⟩, r9⟩ := put_back h hI hg hi hh hp hr
        refine ⟨U2, r9, ?_⟩
        rw [fL_follows_L422]
        refine iN (nI_ge hi (by omega)) (iN kn (bS e1 (bS e2 ((E _).trans ?_))))
        rw [if_pos hr]
        refine bS (a := 1) (iN (by decide) rfl) (bS (a := (S, 1)) (iN (by decide) (bS eg (bS (a := 1) (iS (lq (by rw [hp]; rfl)) rfl) rfl))) (bS r1 (bS (a := lN (cN L k 0) + 1) (iN c10 rfl) (iS (lq (lN_1 _).symm) (bS (a := U2) ?_ (bS r9.nw (iS (lq rfl) ?_)))))))
        · exact iN c10 (bS r2 (iS (lq (nI_l (by omega)).symm) (bS r3 (iS (lq (nI_l (by omega)).symm) (bS r4 (iS (lq rfl) (bS r5 (iN (lt0 r6) (bS r7 (iN (lt0 r8) rfl))))))))))
        · rw [er, ← nI_1, ← nI_1]
      · refine ⟨S, hI, ?_⟩
        rw [fL_follows_L422]
        refine iN (nI_ge hi (by omega)) (iN kn (bS e1 (bS e2 ((E _).trans ?_))))
        rw [if_pos hr]
        have hp' : ¬ lg_cmp ((lPl (gLift S) g).toInt64) 1 = 0 := by
          rw [lc0]; intro z; exact hp ((fa_wide_eq _ 1).mp z)
        refine bS (a := 1) (iN (by decide) rfl) (bS (a := (S, 0)) (iN (by decide) (bS eg (bS (a := 0) (iN hp' rfl) rfl))) (bS (act_put_no rfl hl hg hi (fun z => hp z.1)) (bS (a := -9000000000000000003) (iS rfl rfl) (iS (lq rfl) (bS (a := S) (iS rfl rfl) (bS hI.nw (iS (lq rfl) ?_)))))))
        rw [er, ← nI_1, ← nI_1]
    · have er : sCt (roomC L k) (i + 1) = sCt (roomC L k) i := sCt_no (decide_eq_false (fun z => hr (eb.trans z)))
      refine ⟨S, hI, ?_⟩
      rw [fL_follows_L422]
      refine iN (nI_ge hi (by omega)) (iN kn (bS e1 (bS e2 ((E _).trans ?_))))
      rw [if_neg hr]
      refine bS (a := 0) (iS rfl rfl) (bS (a := (S, 0)) (iS rfl rfl) (bS (act_put_no rfl hl hg hi (fun z => hr z.2)) (bS (a := -9000000000000000003) (iS rfl rfl) (iS (lq rfl) (bS (a := S) (iS rfl rfl) (bS hI.nw (iS (lq rfl) ?_)))))))
      rw [er, ← nI_1]
      show fL_follows_L422 kk f S x1 (nwV L k n) (nI n) (nI k) x6 x7 (lN (cN L k 0)) (nI g) (nI (sCt (roomC L k) i) + 0) (nI i + 1) = _
      rw [Int32.add_zero]
  obtain ⟨S, f', hS, e⟩ := run_st (fun f S i => fL_follows_L422 kk f S x1 (nwV L k n) (nI n) (nI k) x6 x7 (lN (cN L k 0)) (nI g) (nI (sCt (roomC L k) i)) (nI i)) (fun _ S => FI k n G0 L S) n st n 0 21 S0 rfl (Nat.zero_le n) (by omega) h0
  refine ⟨S, hS, e.trans ?_⟩
  show fL_follows_L422 kk (f' + 1) S x1 (nwV L k n) (nI n) (nI k) x6 x7 (lN (cN L k 0)) (nI g) (nI (sCt (roomC L k) n)) (nI n) = _
  rw [fL_follows_L422, if_pos (Int32.le_refl _)]

/-! PURE LEVEL of the property: behind FOLLOWS the two mean the same again -/
theorem Ext_neq {k n B : Nat} {L L' : LSt} (hl : LOk k n L) (hl' : LOk k n L') (he : NEq k L L') (hx : Ext B L) : Ext B L' := by
  refine ⟨by rw [he.2.2.1]; exact hx.1, fun g hg hp => ?_⟩
  have hgk : g < k := by
    rcases Nat.lt_or_ge g k with q | q
    · exact q
    · exact absurd (hl'.abs g q hg) hp
  have e0 : lWe L' g = lWe L g := he.1 g hgk 0 (by decide)
  have e1 : lCy L' g = lCy L g := he.1 g hgk 1 (by decide)
  have e2 : lWr L' g = lWr L g := he.1 g hgk 2 (by decide)
  have e3 : lPu L' g = lPu L g := he.1 g hgk 3 (by decide)
  have e4 : lSl L' g = lSl L g := he.1 g hgk 4 (by decide)
  rw [e0, e1, e2, e3, e4]
  exact hx.2 g hg (hl.nabs hgk)
theorem Txt_tr {Z Z' : SSt} {a b : Int32} {r r' : RI} (h2 : TxtOk Z b r') (h : TxtOk Z a r) (h' : TxtOk Z' a r) : TxtOk Z' b r' := by
  obtain ⟨l2, a1, a2, a3, a4⟩ := h2
  obtain ⟨l, b1, b2, b3, b4⟩ := h
  obtain ⟨l', c1, c2, c3, c4⟩ := h'
  obtain rfl : l2 = l := (nI_eq (by omega) (by omega)).mp (a2.symm.trans b2)
  obtain rfl : l2 = l' := (nI_eq (by omega) (by omega)).mp (b3.symm.trans c3)
  refine ⟨l2, a1, c2, a3, fun i hi => ⟨?_, (a4 i hi).2⟩⟩
  exact (c4 i hi).1.trans ((b4 i hi).1.symm.trans (a4 i hi).1)
theorem RRel.same {k k' n : Nat} {L L' : LSt} {r : RI} (h : RRel k n L r) (h' : RRel k' n L' r) : k = k' ∧ LOk k n L' ∧ NEq k L L' := by
  have a1 := h.k12
  have a2 := h'.k12
  obtain rfl : k = k' := (nI_eq (by omega) (by omega)).mp (h.hk.symm.trans h'.hk)
  exact ⟨rfl, ⟨_, h'⟩, NEq.of h h'⟩
set_option maxHeartbeats 1000000 in
theorem fol_rel {k n : Nat} {P Q Q' : GSt} {M M2 : MSt} (hP : GRel P M) (hQ : GRel Q M) (hE : FEnd k n Q Q') (hl : LOk k n (gLift Q)) (h2 : GRel (rsM (svM P 1) 1) M2) : GRel Q' M2 := by
  obtain ⟨n1, p1, ⟨k1, pr⟩, pt, ph, ps⟩ := hP
  obtain ⟨n2, q1, ⟨k2, qr⟩, qt, qh, qs⟩ := hQ
  obtain ⟨n3, m1, ⟨k3, mr⟩, mt, mh, ms⟩ := h2
  have x1 := pr.n20
  have x2 := qr.n20
  obtain rfl : n1 = n2 := (nI_eq (by omega) (by omega)).mp (p1.symm.trans q1)
  obtain ⟨rfl, -, nPQ⟩ := pr.same qr
  obtain ⟨rfl, rfl⟩ := LOk.one hl ⟨_, qr⟩
  have lP : LOk k n (gLift P) := ⟨_, pr⟩
  have lP1 : LOk k n (lCopy (gSav P 1) (gLift P)) := lP.copy _
  have es : gSav (svM P 1) 1 = lCopy (gSav P 1) (gLift P) := (show va_up (gSav P) 1 (lCopy (gSav P 1) (gLift P)) 1 = lCopy (gSav P 1) (gLift P) from va_up_at _ _ _)
  have eL : gLift (rsM (svM P 1) 1) = lCopy (gLift P) (lCopy (gSav P 1) (gLift P)) := by show lCopy (gLift P) (gSav (svM P 1) 1) = _; rw [es]
  have lP2 : LOk k n (gLift (rsM (svM P 1) 1)) := by rw [eL]; exact lP1.copy _
  obtain ⟨rfl, rfl⟩ := LOk.one lP2 ⟨_, mr⟩
  have n2P : NEq k (gLift (rsM (svM P 1) 1)) (gLift P) := by
    rw [eL]; exact ((NEq_copy lP _).tr (NEq_copy lP1 _)).sm
  obtain ⟨f1, f2, f3, f4, f5, f6, f7, f8, x', f9, f10⟩ := hE
  refine ⟨n, m1, ⟨k, RRel_tr mr f1 ((n2P.tr nPQ).tr f2)⟩, ?_, ?_, ?_⟩
  · rw [f3]; exact Txt_tr mt pt qt
  · obtain ⟨a, x, ha, hx, e1, e2, e3, -⟩ := mh
    have e1 : (0 : Int32) = nI a := e1
    have ha0 : a = 0 := ((nI_eq (a := 0) (by decide) (by omega)).mp e1).symm
    subst ha0
    exact ⟨0, x', by omega, f9, f8, e2, f10, fun i hi => absurd hi (Nat.not_lt_zero i)⟩
  · intro i hi
    have e10 : gSvd (rsM (svM P 1) 1) 0 = gSvd P 0 := (show upd (gSvd P) 1 (vp_nar .boolean 1) 0 = gSvd P 0 from upd_ne (by decide))
    have e11 : gSvd (rsM (svM P 1) 1) 1 = 1 := (show upd (gSvd P) 1 (vp_nar .boolean 1) 1 = 1 by rw [upd_at]; decide +kernel)
    have s0 : gSav (rsM (svM P 1) 1) 0 = gSav P 0 := (show va_up (gSav P) 1 (lCopy (gSav P 1) (gLift P)) 0 = gSav P 0 from va_up_nx _ _ (by decide))
    rcases (show i = 0 ∨ i = 1 by omega) with rfl | rfl
    · obtain ⟨u1, u2⟩ := ms 0 (by decide)
      obtain ⟨v1, v2⟩ := ps 0 (by decide)
      obtain ⟨w1, w2⟩ := qs 0 (by decide)
      rw [e10] at u1 u2
      rw [s0] at u2
      have eq0 : gSvd Q 0 = gSvd P 0 := w1.trans v1.symm
      rw [f4, f5, eq0]
      refine ⟨u1, ?_⟩
      rcases u2 with z | ⟨z, ka, hka⟩
      · exact Or.inl z
      · refine Or.inr ⟨z, ?_⟩
        rcases v2 with y | ⟨-, kb, hkb⟩
        · rw [z] at y; exact absurd y (by decide)
        rcases w2 with y | ⟨-, kc, hkc⟩
        · rw [eq0, z] at y; exact absurd y (by decide)
        obtain ⟨rfl, l2, nn⟩ := hkb.same hkc
        obtain ⟨rfl, -⟩ := LOk.one ⟨_, hka⟩ ⟨_, hkb⟩
        exact ⟨ka, RRel_tr hka l2 nn⟩
    · obtain ⟨u1, u2⟩ := ms 1 (by decide)
      rw [e11] at u1 u2
      have es2 : gSav (rsM (svM P 1) 1) 1 = lCopy (gSav P 1) (gLift P) := es
      rw [es2] at u2
      rw [f6]
      refine ⟨u1, Or.inr ⟨rfl, ?_⟩⟩
      rcases u2 with y | ⟨-, kd, hkd⟩
      · exact absurd y (by decide)
      obtain ⟨rfl, -⟩ := LOk.one lP1 ⟨_, hkd⟩
      obtain ⟨c1, c2⟩ := f7 k n hl
      exact ⟨k, RRel_tr hkd c1 (((NEq_copy lP _).sm.tr nPQ).tr c2)⟩
theorem clk_pos {B : Nat} {L : LSt} (h : Ext B L) (hB : B < 2 ^ 31) : ¬ lg_cmp ((lClk L).toInt64) 0 < 0 := fun z => by
  obtain ⟨c, hc, e⟩ := h.1
  have z := (lcl _ _).mp z
  rw [e, nIT (by omega), l0T] at z
  omega
/-- FOLLOWS, and save and restore beside it -/
theorem fol_ok {B y : Nat} {P Q : GSt} (h : RR P Q) (hB : HX B P) (hb : B ≤ 5000) (hy : y < 2 ^ 31) : ∃ Q' v1 P1 v2 P2, fL_follows Q (nI y) = some Q' ∧ fL_save P 1 = some (v1, P1) ∧ ¬ lg_cmp v1 0 < 0 ∧ fL_restore P1 1 = some (v2, P2) ∧ ¬ lg_cmp v2 0 < 0 ∧ RR P2 Q' ∧ HX B P2 := by
  obtain ⟨M, hP, hQ⟩ := id h
  obtain ⟨k, n, hl, a, x, hh⟩ := h.sym.facts
  obtain ⟨k', n', hlP, -⟩ := h.facts
  obtain ⟨n1, p1, ⟨k1, pr⟩, -⟩ := id hP
  obtain ⟨n2, q1, ⟨k2, qr⟩, -⟩ := id hQ
  have x1 := pr.n20
  have x2 := qr.n20
  obtain rfl : n1 = n2 := (nI_eq (by omega) (by omega)).mp (p1.symm.trans q1)
  obtain ⟨rfl, lQ, nPQ⟩ := pr.same qr
  obtain ⟨rfl, rfl⟩ := LOk.one hl lQ
  have hxQ : Ext B (gLift Q) := Ext_neq ⟨_, pr⟩ lQ nPQ hB.1
  obtain ⟨Q', e1, hE⟩ := follows_ok hl hxQ hb hh hy
  have s1 : fL_save P 1 = some ((lClk (gLift P)).toInt64, svM P 1) := save_is (m := 1) (by decide)
  have hz : ¬ gSvd (svM P 1) 1 = 0 := by
    show ¬ upd (gSvd P) 1 (vp_nar .boolean 1) 1 = 0
    rw [upd_at]; decide +kernel
  have s2 : fL_restore (svM P 1) 1 = some ((lClk (gSav (svM P 1) 1)).toInt64, rsM (svM P 1) 1) := restore_is (m := 1) (by decide) hz
  have es : gSav (svM P 1) 1 = lCopy (gSav P 1) (gLift P) := (show va_up (gSav P) 1 (lCopy (gSav P 1) (gLift P)) 1 = lCopy (gSav P 1) (gLift P) from va_up_at _ _ _)
  have hx1 : HX B (svM P 1) := by
    obtain ⟨v, S, t1, t2⟩ := hx_save hB (m := 1) (by decide)
    rw [save_is (m := 1) (by decide)] at t1
    obtain ⟨-, rfl⟩ := Prod.mk.inj (Option.some.inj t1)
    exact t2
  have hx2 : HX B (rsM (svM P 1) 1) := by
    obtain ⟨v, S, t1, t2⟩ := hx_restore hx1 (m := 1) (by decide)
    rw [restore_is (m := 1) (by decide) hz] at t1
    obtain ⟨-, rfl⟩ := Prod.mk.inj (Option.some.inj t1)
    exact t2
  obtain ⟨v3, P3, Q3, t1, t2, h3⟩ := p_save (P := P) (Q := P) ⟨M, hP, hP⟩ 1
  rw [s1] at t1
  obtain ⟨-, rfl⟩ := Prod.mk.inj (Option.some.inj t1)
  obtain ⟨M3, h31, -⟩ := h3
  obtain ⟨v4, P4, Q4, t3, t4, h4⟩ := p_restore (P := svM P 1) (Q := svM P 1) ⟨M3, h31, h31⟩ 1
  rw [s2] at t3
  obtain ⟨-, rfl⟩ := Prod.mk.inj (Option.some.inj t3)
  obtain ⟨M4, h41, -⟩ := h4
  refine ⟨Q', _, _, _, _, e1, s1, clk_pos hB.1 (by omega), s2, ?_, ⟨M4, h41, fol_rel hP hQ hE hl h41⟩, hx2⟩
  rw [es]
  exact clk_pos (Ext_copy hB.1 _) (by omega)

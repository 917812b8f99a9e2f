/-! PURE LEVEL of the property: TELLS on both; the law's loop -/
def SimO (o1 o2 : Option GSt) : Prop := (o1 = none ∧ o2 = none) ∨ ∃ P Q, o1 = some P ∧ o2 = some Q ∧ RR P Q
theorem SimO.bindA {α : Type} {o1 o2 : Option (α × GSt)} {k1 k2 : α × GSt → Option GSt} (h : ∃ v P Q, o1 = some (v, P) ∧ o2 = some (v, Q) ∧ RR P Q) (hk : ∀ v P Q, RR P Q → SimO (k1 (v, P)) (k2 (v, Q))) : SimO (o1.bind k1) (o2.bind k2) := by
  obtain ⟨v, P, Q, e1, e2, h⟩ := h
  rw [e1, e2]; exact hk v P Q h
theorem SimO.bindS {o1 o2 : Option GSt} {k1 k2 : GSt → Option GSt} (h : SimO o1 o2) (hk : ∀ P Q, RR P Q → SimO (k1 P) (k2 Q)) : SimO (o1.bind k1) (o2.bind k2) := by
  rcases h with ⟨e1, e2⟩ | ⟨P, Q, e1, e2, h⟩
  · rw [e1, e2]; exact Or.inl ⟨rfl, rfl⟩
  · rw [e1, e2]; exact hk P Q h
theorem SimO.bindV {α : Type} {o : Option α} {k1 k2 : α → Option GSt} (hk : ∀ v, SimO (k1 v) (k2 v)) : SimO (o.bind k1) (o.bind k2) := by
  cases o with
  | none => exact Or.inl ⟨rfl, rfl⟩
  | some a => exact hk a
theorem SimO.ite {c : Prop} [Decidable c] {x1 y1 x2 y2 : Option GSt} (hx : SimO x1 x2) (hy : SimO y1 y2) : SimO (if c then x1 else y1) (if c then x2 else y2) := by
  by_cases q : c
  · rw [if_pos q, if_pos q]; exact hx
  · rw [if_neg q, if_neg q]; exact hy
theorem SimO.none : SimO none none := Or.inl ⟨rfl, rfl⟩
theorem SimO.some {P Q : GSt} (h : RR P Q) : SimO (some P) (some Q) := Or.inr ⟨P, Q, rfl, rfl, h⟩
theorem SimO.nz {r : Int32} {k1 k2 : Option GSt} (h : SimO k1 k2) : SimO (nz r k1) (nz r k2) := SimO.ite SimO.none h
theorem p_clearText {P Q : GSt} (h : RR P Q) : ∃ v P' Q', fX4_clearText P = some (v, P') ∧ fX4_clearText Q = some (v, Q') ∧ RR P' Q' := by
  obtain ⟨M, h1, h2⟩ := h
  obtain ⟨v, P', M', a1, a2, a3⟩ := o_clearText h1
  obtain ⟨v', Q', M'', b1, b2, b3⟩ := o_clearText h2
  rw [a2] at b2
  obtain ⟨rfl, rfl⟩ := Prod.mk.inj (Option.some.inj b2)
  exact ⟨v, P', Q', a1, b1, M', a3, b3⟩
theorem p_random {P Q : GSt} (h : RR P Q) : fX4_random P = fX4_random Q := by
  obtain ⟨M, h1, h2⟩ := h
  obtain ⟨v, M', a1, a2, a3⟩ := o_random h1
  obtain ⟨v', M'', b1, b2, b3⟩ := o_random h2
  rw [a2] at b2
  obtain ⟨rfl, rfl⟩ := Prod.mk.inj (Option.some.inj b2)
  rw [a1, b1]
theorem sim_two {P Q : GSt} (h : RR P Q) (x : Int32) : SimO (fL_two P x) (fL_two Q x) := by
  unfold fL_two
  exact SimO.bindA (p_append h _) (fun v P Q h => SimO.ite SimO.none (SimO.bindA (p_append h _) (fun v P Q h => SimO.ite SimO.none (SimO.some h))))
theorem sim_end {P Q : GSt} (h : RR P Q) (y3 y5 y6 : Int32) : SimO (tEnd P y3 y5 y6) (tEnd Q y3 y5 y6) := by
  unfold tEnd
  refine SimO.bindA (p_errorPosition h) (fun v P Q h => SimO.ite (SimO.bindA (p_load h) (fun v P Q h => SimO.bindV (fun a => SimO.ite (SimO.bindA (p_about h _) (fun v P Q h => SimO.ite (SimO.bindA (p_about h _) (fun v P Q h => SimO.ite ?_ SimO.none)) SimO.none)) SimO.none))) SimO.none)
  show SimO ((fX4_random P).bind _) ((fX4_random Q).bind _)
  rw [p_random h]
  exact SimO.bindV (fun a => SimO.ite (SimO.bindA (p_undo h) (fun v P Q h => SimO.ite (SimO.some h) SimO.none)) SimO.none)
theorem sim_L223 {kk : GSt → Int32 → Int32 → Int32 → Option GSt} (hkk : ∀ P Q a b c, RR P Q → SimO (kk P a b c) (kk Q a b c)) : ∀ (f : Nat) (P Q : GSt) (x1 x3 x5 x6 x7 : Int32), RR P Q → SimO (fL_tells_L223 kk f P x1 x3 x5 x6 x7) (fL_tells_L223 kk f Q x1 x3 x5 x6 x7) := by
  intro f
  induction f with
  | zero => intro P Q x1 x3 x5 x6 x7 h; exact SimO.none
  | succ f ih =>
    intro P Q x1 x3 x5 x6 x7 h
    rw [fL_tells_L223, fL_tells_L223]
    exact SimO.ite (hkk _ _ _ _ _ h) (SimO.bindA (p_append h _) (fun v P Q h => SimO.ite SimO.none (SimO.bindA (p_append h _) (fun v P Q h => SimO.ite SimO.none (ih _ _ _ _ _ _ _ h)))))
theorem sim_L143 {kk : GSt → Int32 → Int32 → Int32 → Int32 → Option GSt} (hkk : ∀ P Q a b c d, RR P Q → SimO (kk P a b c d) (kk Q a b c d)) : ∀ (f : Nat) (P Q : GSt) (x1 x2 x3 x5 x6 x7 : Int32), RR P Q → SimO (fL_tells_L143 kk f P x1 x2 x3 x5 x6 x7) (fL_tells_L143 kk f Q x1 x2 x3 x5 x6 x7) := by
  intro f
  induction f with
  | zero => intro P Q x1 x2 x3 x5 x6 x7 h; exact SimO.none
  | succ f ih =>
    intro P Q x1 x2 x3 x5 x6 x7 h
    rw [fL_tells_L143, fL_tells_L143]
    exact SimO.ite (hkk _ _ _ _ _ _ h) (SimO.ite (hkk _ _ _ _ _ _ h) (SimO.bindA (p_append h _) (fun v P Q h => SimO.ite SimO.none (SimO.bindA (p_append h _) (fun v P Q h => SimO.ite SimO.none (SimO.nz (SimO.bindS (sim_two h _) (fun P Q h => ih _ _ _ _ _ _ _ _ h))))))))
theorem sim_tells {P Q : GSt} (h : RR P Q) (x y : Int32) : SimO (fL_tells P x y) (fL_tells Q x y) := by
  unfold fL_tells
  refine SimO.bindA (p_clearText h) (fun v P Q h => SimO.ite SimO.none (SimO.bindA (p_append h _) (fun v P Q h => SimO.ite (SimO.bindS (sim_two h _) (fun P Q h => SimO.bindS (sim_two h _) (fun P Q h => SimO.bindS (sim_two h _) (fun P Q h => SimO.bindA (p_append h _) (fun v P Q h => SimO.ite SimO.none (SimO.bindA (p_append h _) (fun v P Q h => SimO.ite SimO.none (SimO.bindA (p_append h _) (fun v P Q h => SimO.ite SimO.none ?_))))))))) SimO.none)))
  exact sim_L143 (fun P Q a b c d h => sim_L223 (fun P Q a b c h => sim_end h a b c) 5 P Q a b c d 0 h) 5 P Q _ _ _ _ _ _ h
/-- TELLS on both -/
theorem tells_ok {B x y : Nat} {P Q : GSt} (h : RR P Q) (hB : HX B P) (hx : x < 2 ^ 31) (hy : y < 2 ^ 31) : ∃ P' Q', fL_tells P (nI x) (nI y) = some P' ∧ fL_tells Q (nI x) (nI y) = some Q' ∧ RR P' Q' ∧ HX B P' := by
  obtain ⟨M, ⟨-, -, -, ⟨len, t1, t2, -⟩, -⟩, -⟩ := id h
  obtain ⟨P', e1, h1⟩ := tells_one (G := P) hx hy t1 t2
  rcases sim_tells h (nI x) (nI y) with ⟨z, -⟩ | ⟨P2, Q2, z1, z2, h2⟩
  · rw [e1] at z; cases z
  · rw [e1] at z1
    obtain rfl := Option.some.inj z1
    exact ⟨P', Q2, e1, z2, h2, h1 B hB⟩
theorem draw_ok (L : Nat) (xs : Nat → Int32) (j : Nat) (hj : j < 2 ^ 31) : ∃ v, v < 2 ^ 31 ∧ fL_draw L xs (nI j) = some (nI v) := by
  unfold fL_draw
  by_cases q : nI L ≤ nI j
  · rw [if_pos q]
    obtain ⟨v, hv, e⟩ := pk_andE (15593033 * nI j + 10223) (m := 2147483647) 31 (by decide)
    exact ⟨v, hv, by rw [e]⟩
  · rw [if_neg q, if_neg (nI_pos hj)]
    obtain ⟨v, hv, e⟩ := pk_andE (xs (nI j).toNatClampNeg) (m := 2147483647) 31 (by decide)
    exact ⟨v, hv, by rw [e]⟩
def Go (B : Nat) (o : Option (GSt × GSt)) : Prop := ∃ S, o = some S ∧ RR S.1 S.2 ∧ HX B S.1
theorem Go.bind {B B' : Nat} {o : Option (GSt × GSt)} {k : GSt × GSt → Option (GSt × GSt)} (h : Go B o) (hk : ∀ S, RR S.1 S.2 → HX B S.1 → Go B' (k S)) : Go B' (o.bind k) := by
  obtain ⟨S, e, h1, h2⟩ := h
  obtain ⟨T, e2, h3⟩ := hk S h1 h2
  exact ⟨T, bS e e2, h3⟩
theorem Go.ite {B : Nat} {c : Prop} [Decidable c] {x y : Option (GSt × GSt)} (hx : Go B x) (hy : Go B y) : Go B (if c then x else y) := by
  by_cases q : c
  · rw [if_pos q]; exact hx
  · rw [if_neg q]; exact hy
theorem Go.bs {α : Type} {B : Nat} {o : Option α} {a : α} {k : α → Option (GSt × GSt)} (h : o = some a) (hk : Go B (k a)) : Go B (o.bind k) := by rw [h]; exact hk
theorem Go.is {B : Nat} {c : Prop} [Decidable c] {x y : Option (GSt × GSt)} (h : c) (hk : Go B x) : Go B (if c then x else y) := by rw [if_pos h]; exact hk
theorem Go.no {B : Nat} {c : Prop} [Decidable c] {x y : Option (GSt × GSt)} (h : ¬ c) (hk : Go B y) : Go B (if c then x else y) := by rw [if_neg h]; exact hk
theorem Go.sm {B B' : Nat} {S : GSt × GSt} (h : RR S.1 S.2) (hB : HX B S.1) (hb : B ≤ B') : Go B' (some S) := ⟨S, rfl, h, hB.mono hb⟩
theorem RR.bnd {B : Nat} {P Q : GSt} (h : RR P Q) (hB : HX B P) : ∃ k n, LOk k n (gLift Q) ∧ Ext B (gLift Q) := by
  obtain ⟨M, ⟨n1, p1, ⟨k1, pr⟩, -⟩, ⟨n2, q1, ⟨k2, qr⟩, -⟩⟩ := h
  have x1 := pr.n20
  have x2 := qr.n20
  obtain rfl : n1 = n2 := (nI_eq (by omega) (by omega)).mp (p1.symm.trans q1)
  obtain ⟨rfl, lQ, nPQ⟩ := pr.same qr
  exact ⟨k1, n1, lQ, Ext_neq ⟨_, pr⟩ lQ nPQ hB.1⟩
/-- errors and built, on one -/
theorem eb_ok {B k n : Nat} {Q : GSt} (hl : LOk k n (gLift Q)) (hx : Ext B (gLift Q)) (hb : B ≤ 90000) : ∃ Q1 Q2, fL_errors Q = some Q1 ∧ fL_built Q1 = some Q2 ∧ SEq Q Q2 := by
  obtain ⟨Q1, e1, s1⟩ := errors_ok rfl hl
  obtain ⟨Q2, e2, s2⟩ := built_ok (G := Q1) (s1.lf rfl) hl hx hb
  exact ⟨Q1, Q2, e1, e2, s1.tr s2⟩
set_option maxHeartbeats 2000000 in
/-- a round of the law -/
theorem law_one {B i : Nat} {L : Nat} {xs : Nat → Int32} {kk : GSt × GSt → Option (GSt × GSt)} (hi : i < 30) (f : Nat) {S : GSt × GSt} (h : RR S.1 S.2) (hB : HX B S.1) (hb : B ≤ 4000) : ∃ S', RR S'.1 S'.2 ∧ HX (B + 30) S'.1 ∧ fL_law_L52 kk L xs (f + 1) S (nI i) = fL_law_L52 kk L xs f S' (nI (i + 1)) := by
  obtain ⟨P, Q⟩ := S
  obtain ⟨x, hx, ex⟩ := draw_ok L xs (2 * i) (by omega)
  obtain ⟨y, hy, ey⟩ := draw_ok L xs (2 * i + 1) (by omega)
  have e2 : 2 * nI i = nI (2 * i) := pk_mul 2 i
  have e3 : nI (2 * i) + 1 = nI (2 * i + 1) := nI_1 _
  have key : Go (B + 30) (((if (nI i - nI i / 15 * 15) = 0 then (fL_tells (nP (P, Q)) (nI x) (nI y)).bind (fun r98 => (fL_tells (nQ (P, Q)) (nI x) (nI y)).bind (fun r109 => some (r98, r109))) else (fL_act (nP (P, Q)) (nI x) (nI y)).bind (fun r129 => (fL_act (nQ (P, Q)) (nI x) (nI y)).bind (fun r137 => (if (lg_cmp r129.1 r137.1) = 0 then (((if (nI i - nI i / 4 * 4) = 0 then (fL_errors r137.2).bind (fun r162 => (fL_built r162).bind (fun r169 => some (r129.2, r169))) else some (r129.2, r137.2)) : Option (GSt × GSt))).bind (fun (a181_4 : (GSt × GSt)) => (((if (nI i - nI i / 15 * 15) = 14 then (fL_follows (nQ a181_4) (nI y)).bind (fun r198 => (fL_save (nP a181_4) 1).bind (fun r206 => (if (lg_cmp r206.1 0) < 0 then none else (fL_restore r206.2 1).bind (fun r216 => (if (lg_cmp r216.1 0) < 0 then none else some (r216.2, r198)))))) else some a181_4) : Option (GSt × GSt))).bind (fun (a230_8 : (GSt × GSt)) => (((if 0 < (nI i - nI i / 6 * 6) then some a230_8 else (fL_alike a230_8 (nI y)).bind (fun r246 => some r246)) : Option (GSt × GSt))).bind (fun (a252_10 : (GSt × GSt)) => some a252_10))) else none)))) : Option (GSt × GSt))) := by
    refine Go.ite ?_ ?_
    · obtain ⟨P', Q', t1, t2, t3, t4⟩ := tells_ok h hB hx hy
      exact Go.bs t1 (Go.bs t2 (Go.sm (S := (P', Q')) t3 t4 (Nat.le_add_right _ _)))
    · obtain ⟨v, P1, Q1, a1, a2, a3, a4⟩ := act_ok h hB (by omega) (nI x) hy
      refine Go.bs (a := (v, P1)) a1 (Go.bs (a := (v, Q1)) a2 (Go.is (lq rfl) (Go.bind (B := B + 30) (Go.ite ?_ (Go.sm (S := (P1, Q1)) a3 a4 (Nat.le_refl _))) (fun S hS hX => ?_))))
      · obtain ⟨k, n, b1, b2⟩ := a3.bnd a4
        obtain ⟨Q2, Q3, c1, c2, c3⟩ := eb_ok b1 b2 (by omega)
        exact Go.bs c1 (Go.bs c2 (Go.sm (S := (P1, Q3)) (a3.eq2 c3) a4 (Nat.le_refl _)))
      · refine Go.bind (B := B + 30) (Go.ite ?_ (Go.sm hS hX (Nat.le_refl _))) (fun S hS hX => ?_)
        · obtain ⟨Q2, v1, P2, v2, P3, d1, d2, d3, d4, d5, d6, d7⟩ := fol_ok hS hX (by omega) hy
          exact Go.bs d1 (Go.bs (a := (v1, P2)) d2 (Go.no d3 (Go.bs (a := (v2, P3)) d4 (Go.no d5 (Go.sm (S := (P3, Q2)) d6 d7 (Nat.le_refl _))))))
        · refine Go.bind (B := B + 30) (Go.ite (Go.sm hS hX (Nat.le_refl _)) ?_) (fun S hS hX => Go.sm hS hX (Nat.le_refl _))
          obtain ⟨X, g1, g2, g3⟩ := alike_hx (P := S.1) (Q := S.2) hS hX (nI y)
          exact Go.bs g1 (Go.sm g2 g3 (Nat.le_refl _))
  obtain ⟨S', k1, k2, k3⟩ := key
  refine ⟨S', k2, k3, ?_⟩
  rw [fL_law_L52, if_neg (show ¬ (30 : Int32) ≤ nI i from nI_ge (b := 30) hi (by decide)), e2, e3, nI_1]
  exact bS ex (bS ey (bS k1 rfl))
theorem law_start : ∃ r : LSt, fX0_init = some r ∧ RR (r, r, ((z0, 0), r, 0), (z0, 0), (fun _ => r), (fun _ => r), z0, 0, 0) (r, r, ((z0, 0), r, 0), (z0, 0), (fun _ => r), (fun _ => r), z0, 0, 0) ∧ Ext 0 r := by
  obtain ⟨r, M, e1, -, h⟩ := o_start
  refine ⟨r, e1, ⟨M, h, h⟩, ?_⟩
  unfold fX0_init at e1
  rw [c_clear, Option.bind_some] at e1
  have e1 := Option.some.inj e1
  rw [← e1]
  exact ⟨⟨0, Nat.le_refl 0, rfl⟩, fun g hg hp => absurd (clP_1 _ 12 g hg) hp⟩
/-- THE LAW -/
theorem law_all (L : Nat) (xs : Nat → Int32) {P Q : GSt} (h : RR P Q) (hB : HX 0 P) : ∃ R, fL_law L xs (P, Q) = some R := by
  obtain ⟨v, hv, ev⟩ := draw_ok L xs 0 (by decide)
  obtain ⟨X, g1, g2, g3⟩ := alike_hx h hB (nI v)
  obtain ⟨k, n, b1, b2⟩ := g2.sym.facts.elim fun k z => z.elim fun n z => (⟨k, n, z.1, trivial⟩ : ∃ k n, LOk k n (gLift X.2) ∧ True)
  obtain ⟨k', n', lP, -⟩ := g2.facts
  obtain ⟨P1, P2, c1, c2, c3⟩ := eb_ok lP g3.1 (by omega)
  have h2 : RR P2 X.2 := g2.eq1 c3
  have hX2 : HX 0 P2 := g3.seq c3
  obtain ⟨R, r1, -⟩ := run_inv (fun f S i => fL_law_L52 (fun (S : (GSt × GSt)) => (fL_alike S 35753).bind (fun r273 => some r273)) L xs f S (nI i)) (fun i S => RR S.1 S.2 ∧ HX (30 * i) S.1) (fun _ => True) 30 (fun i f S hi hI => by
    obtain ⟨S', s1, s2, s3⟩ := law_one (kk := fun (S : (GSt × GSt)) => (fL_alike S 35753).bind (fun r273 => some r273)) (L := L) (xs := xs) hi f hI.1 hI.2 (by omega)
    exact ⟨S', ⟨s1, s2.mono (by omega)⟩, s3⟩) (fun f S hI => by
    obtain ⟨Y, y1, -⟩ := alike_hx (P := S.1) (Q := S.2) hI.1 hI.2 35753
    refine ⟨Y, ?_, trivial⟩
    show fL_law_L52 _ L xs (f + 1) S (nI 30) = _
    rw [fL_law_L52, if_pos (show (30 : Int32) ≤ nI 30 by decide)]
    exact bS y1 rfl) 30 0 31 (P2, X.2) rfl (by decide) (by decide) ⟨h2, hX2⟩
  refine ⟨R, ?_⟩
  unfold fL_law
  exact bS ev (bS g1 (bS c1 (bS c2 r1)))

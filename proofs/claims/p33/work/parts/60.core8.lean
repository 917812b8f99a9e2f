/-! MY OWN KIT, eight: the law's wrappers and methods over one inspector, two of them, or one and a row of four -/
def gxc (k : Nat) : Int64 := if k = 1 then -9000000000000000002 else if k = 2 then -9000000000000000003 else -9000000000000000001
/-- what a wrapper answers: the class's answer, or the number of what it threw -/
def gmx (a b : Nat) (R : Nat × Int32 × GSt) : Option (Int64 × GSt) := if R.1 = 0 then some (R.2.1.toInt64, R.2.2) else if R.1 = a ∨ (R.1 = b ∧ b ≠ 9) then some (gxc R.1, R.2.2) else none
theorem gmx_yes {a b : Nat} {R0 : Nat × Int32 × GSt} {R : Int64 × GSt} (h : gmx a b R0 = some R) (h0 : R0.1 = 0) : R = (R0.2.1.toInt64, R0.2.2) := by
  unfold gmx at h
  rw [if_pos h0] at h
  exact (Option.some.inj h).symm
theorem gmx_no {a b : Nat} {R0 : Nat × Int32 × GSt} {R : Int64 × GSt} (h : gmx a b R0 = some R) (h0 : R0.1 ≠ 0) : (R0.1 = a ∨ (R0.1 = b ∧ b ≠ 9)) ∧ R = (gxc R0.1, R0.2.2) := by
  unfold gmx at h
  rw [if_neg h0] at h
  by_cases h1 : R0.1 = a ∨ (R0.1 = b ∧ b ≠ 9)
  · rw [if_pos h1] at h
    exact ⟨h1, (Option.some.inj h).symm⟩
  · rw [if_neg h1] at h; cases h
-- two inspectors; an inspector and a row of four ints
abbrev nP (X : GSt × GSt) : GSt := X.1
abbrev nQ (X : GSt × GSt) : GSt := X.2
abbrev bI (X : GSt × RI) : GSt := X.1
abbrev bF (X : GSt × RI) : RI := X.2
def GGW (cI cC cZ cQ : ClassId) (q z : Nat) (X : GSt × GSt) : va_W := GW cI cC cZ cQ q (nP X) ++ GW cI cC cZ cQ z (nQ X)
def GAW (cI cC cZ cQ : ClassId) (q w : Nat) (X : GSt × RI) : va_W := GW cI cC cZ cQ q (bI X) ++ [(w, .inl (cI, 4, .inl (bF X)))]
theorem GGW_P {D : va_G} {cI cC cZ cQ : ClassId} {q z : Nat} {X : GSt × GSt} {G1 : GSt} {H H1 : Heap} (hd : q + 201 ≤ z) (h : va_P D vwCl (GGW cI cC cZ cQ q z X) H) (h1 : va_P D vwCl (GW cI cC cZ cQ q G1) H1) (hk : ∀ a : Nat, a < H.size → ¬ fIv q 201 a → H1[a]? = H[a]?) : va_P D vwCl (GGW cI cC cZ cQ q z (G1, nQ X)) H1 :=
  va_P.app h1 (gKeep (GW_ord cI cC cZ cQ z (nQ X)) (GW_len cI cC cZ cQ z (nQ X)) (gR h) (fun a hl hi => hk a hl (fun w => by have b1 := w.2; have b2 := hi.1; omega)))
theorem GGW_Q {D : va_G} {cI cC cZ cQ : ClassId} {q z : Nat} {X : GSt × GSt} {G1 : GSt} {H H1 : Heap} (hd : q + 201 ≤ z) (h : va_P D vwCl (GGW cI cC cZ cQ q z X) H) (h1 : va_P D vwCl (GW cI cC cZ cQ z G1) H1) (hk : ∀ a : Nat, a < H.size → ¬ fIv z 201 a → H1[a]? = H[a]?) : va_P D vwCl (GGW cI cC cZ cQ q z (nP X, G1)) H1 :=
  va_P.app (gKeep (GW_ord cI cC cZ cQ q (nP X)) (GW_len cI cC cZ cQ q (nP X)) (gL h) (fun a hl hi => hk a hl (fun w => by have b1 := w.1; have b2 := hi.2; omega))) h1
theorem GAW_G {D : va_G} {cI cC cZ cQ : ClassId} {q w sz : Nat} {X : GSt × RI} {G1 : GSt} {H H1 : Heap} (hd : q + 201 ≤ sz ∧ sz ≤ w) (h : va_P D vwCl (GAW cI cC cZ cQ q w X) H) (h1 : va_P D vwCl (GW cI cC cZ cQ q G1) H1) (hk : ∀ a : Nat, a < H.size → ¬ fIv q 201 a → H1[a]? = H[a]?) : va_P D vwCl (GAW cI cC cZ cQ q w (G1, bF X)) H1 :=
  va_P.app h1 (gKeep (l := [(w, .inl (cI, 4, .inl (bF X)))]) (n := 1) (q := w) ⟨rfl, trivial⟩ rfl (gR h) (fun a hl hi => hk a hl (fun y => by have b1 := y.2; have b2 := hi.1; have b3 := hd.1; have b4 := hd.2; omega)))
theorem GAW_at {cI cC cZ cQ : ClassId} {q w : Nat} {X : GSt × RI} : (GAW cI cC cZ cQ q w X)[201]? = some (w, .inl (cI, 4, .inl (bF X))) := by
  unfold GAW
  rw [List.getElem?_append_right (by rw [GW_len]; exact Nat.le_refl _), GW_len]; rfl
theorem GAW_set {cI cC cZ cQ : ClassId} {q w : Nat} {X : GSt × RI} {g : RI} : (GAW cI cC cZ cQ q w X).set 201 (w, .inl (cI, 4, .inl g)) = GAW cI cC cZ cQ q w (bI X, g) := by
  unfold GAW
  rw [List.set_append_right _ _ (by rw [GW_len]; exact Nat.le_refl _), GW_len]; rfl
theorem GAW_self {cI cC cZ cQ : ClassId} {q w sz : Nat} {X : GSt × RI} (hd : q + 201 ≤ sz ∧ sz ≤ w) : va_D (fG q sz) (GAW cI cC cZ cQ q w X) := by
  have h := gApp_D (q := q) (z := w) (GW_ord cI cC cZ cQ q (bI X)) (w2 := [(w, .inl (cI, 4, .inl (bF X)))]) ⟨rfl, trivial⟩ (Or.inl (by rw [GW_len]; have b1 := hd.1; have b2 := hd.2; omega))
  rw [GW_len] at h
  exact ⟨h.1, fun k c hk => (h.2 k c hk).elim Or.inl (fun y => Or.inr (Nat.le_trans hd.2 y.1))⟩
theorem gOr_lo {lo q z : Nat} (hlo : lo ≤ q) (hd : q + 201 ≤ z) : ∀ a, gOr (fIv q 201) (fIv z 201) a → lo ≤ a := fun a h => by
  rcases h with y | y
  · exact Nat.le_trans hlo y.1
  · have := y.1; omega
theorem fG_lo {lo q sz : Nat} (hlo : lo ≤ q) (hqs : q ≤ sz) : ∀ a, fG q sz a → lo ≤ a := fun a h => by
  rcases h with y | y
  · exact Nat.le_trans hlo y.1
  · omega
theorem gN_NA {q : Nat} {H0 H : Heap} {locs : List Loc} (h : va_S (fIv q 201) H0 H locs) : va_S (fG q H0.size) H0 H locs := ⟨h.1, fun a h1 h2 => h.2.1 a h1 (fun y => h2 (Or.inl y)), fun y hy => Or.inl (h.2.2 y hy)⟩
theorem gNA_facts {D : va_G} {cI cC cZ cQ : ClassId} {q w : Nat} {G0 G1 : GSt} {e : va_E} {H0 : Heap} (h0 : va_P D vwCl (GW cI cC cZ cQ q G0) H0) (hD : va_D (fG q H0.size) (GW cI cC cZ cQ q G1 ++ [(w, e)])) : (q + 201 ≤ H0.size ∧ H0.size ≤ w) ∧ q ≤ H0.size := by
  have hlt : ∀ i, i < 201 → q + i < H0.size := fun i hi => by
    have h1 : (GW cI cC cZ cQ q G0)[i]? = some (GW cI cC cZ cQ q G0)[i] := List.getElem?_eq_getElem (by rw [GW_len]; exact hi)
    have h2 := gOrd_at _ q i _ (GW_ord cI cC cZ cQ q G0) h1
    have h3 := (h0 i _ h1).lt
    omega
  have a1 := hlt 200 (by decide)
  refine ⟨⟨by omega, ?_⟩, by omega⟩
  have hq : (GW cI cC cZ cQ q G1 ++ [(w, e)])[201]? = some (w, e) := by rw [List.getElem?_append_right (by rw [GW_len]; exact Nat.le_refl _), GW_len]; rfl
  rcases hD.2 _ _ hq with y | y
  · exfalso
    have b1 := y.1
    have b2 := y.2
    have b1 : q ≤ w := b1
    have b2 : w < q + 201 := b2
    have hi : w - q < (GW cI cC cZ cQ q G1).length := by rw [GW_len]; omega
    have h4 : (GW cI cC cZ cQ q G1)[w - q]? = some (GW cI cC cZ cQ q G1)[w - q] := List.getElem?_eq_getElem hi
    have h5 := gOrd_at _ q _ _ (GW_ord cI cC cZ cQ q G1) h4
    have h6 : (GW cI cC cZ cQ q G1 ++ [(w, e)])[w - q]? = some (GW cI cC cZ cQ q G1)[w - q] := by rw [List.getElem?_append_left hi]; exact h4
    have h7 := hD.1 _ _ _ _ h6 hq (by show ((GW cI cC cZ cQ q G1)[w - q]).1 = w; omega)
    rw [GW_len] at hi
    omega
  · exact y
theorem gNA_F {q : Nat} {s t : State} {H : Heap} {locs : List Loc} (h : va_S (fG q s.heap.size) s.heap H locs) (ht : t.heap = H) : va_F (fIv q 201) s t := ⟨by rw [ht]; exact h.1, fun a h1 h2 => by rw [ht]; exact h.2.1 a h1 (fun y => y.elim h2 (fun y => absurd h1 (Nat.not_lt.mpr y)))⟩
theorem gNA_locs {q : Nat} {s : State} {H : Heap} {locs : List Loc} (h : va_S (fG q s.heap.size) s.heap H locs) : ∀ y ∈ locs.filter (fun y => decide (y.base < s.heap.size)), fIv q 201 y.base := fun y hy => by
  obtain ⟨h1, h2⟩ := List.mem_filter.mp hy
  exact (h.2.2 y h1).elim id (fun z => absurd (of_decide_eq_true h2) (Nat.not_lt.mpr z))
-- the start of the law's methods
def gPairs : List (String × String) := [(gIAE, gISE), (gIAE, gIOB), (gISE, gIAE), (gISE, gIOB), (gIOB, gIAE), (gIOB, gISE)]
def gEnw (t lo : Nat) (U : State) (H : Heap) : Prop := gEnv t lo U H ∧ ∀ q ∈ gPairs, va_Nc q.1 q.2 U
theorem gEnw.warm {t lo : Nat} {u U : State} {H : Heap} (hW : u.WarmedH U.vm) (h : gEnw t lo u H) : gEnw t lo U H := ⟨h.1.warm hW, fun q hq => va_Nc.moved hW.alike (h.2 q hq)⟩
theorem gEnw_now {t lo : Nat} {s : State} {A : Nat → Prop} {H : Heap} {locs : List Loc} (h : gEnw t lo s s.heap) (hS : va_S A s.heap H locs) (hlo : ∀ a, A a → lo ≤ a) : gEnw t lo s H := ⟨gEnv_now h.1 hS hlo, h.2⟩
def gBw (D : va_G) (tys : List (ClassId × FieldType)) (t lo : Nat) (B : Heap → Prop) : State → Prop := fun U => (B U.heap ∧ va_K D vwCl tys U) ∧ gEnw t lo U U.heap
theorem gEnv_blind {t lo : Nat} {U : State} {g : JFrame} {mk : MethodId} {a : Array Value} (q : gEnv t lo U U.heap) : gEnv t lo (U.calling g mk a) (U.calling g mk a).heap :=
  ⟨gZ_blind q.1, q.2.1.moved (u := U) (U := U.calling g mk a) (Vm.Alike.refl U.vm), q.2.2.1.moved (u := U) (U := U.calling g mk a) (Vm.Alike.refl U.vm),
   fun z hz => by obtain ⟨a9, ha⟩ := q.2.2.2.1 z hz; exact ⟨a9, vk_R.same (u := U) (U := U.calling g mk a) rfl ha⟩, fun E hE => va_Nw.same rfl (u := U) (U := U.calling g mk a) rfl (q.2.2.2.2.1 E hE), fun y hy => va_Nw.same rfl (u := U) (U := U.calling g mk a) rfl (q.2.2.2.2.2 y hy)⟩
theorem gBw_blind {D : va_G} {tys : List (ClassId × FieldType)} {t lo : Nat} {B : Heap → Prop} {av : List Value} : FrameBlind (va_Pc av (gBw D tys t lo B)) := fun a U g mk q =>
  ⟨q.1, ⟨q.2.1.1, va_K.moved (u := U) (U := U.calling g mk a) (Vm.Alike.refl U.vm) q.2.1.2⟩, gEnv_blind q.2.2.1, fun z hz => va_Nc.moved (u := U) (U := U.calling g mk a) (Vm.Alike.refl U.vm) (q.2.2.2 z hz)⟩
theorem gMet_ofWH {l : Launch} {y : MethodName} {ws ws' : List Cond} {rm : Room} {Pc : Array Value → State → Prop} {Qc : Array Value → State → Outcome → State → Prop} {mc ms : Nat} {free : Addr → Prop} {cc : ByteArray} {maxL : Nat} {ret : Option FieldType} {hh : List (Nat × Nat × Nat × Nat)}
    (hy : plainName y.cls = true) (hw : ws = Cond.codeWith y cc maxL ret hh :: ws')
    (body : ∀ p e s m args below meth c s₁, BodyLoose p l y (headSpec ws rm) cc maxL ret e s m args below meth c s₁ → c.maxLocals = maxL → Pc args s →
      W p l e (headSpec ws rm).room s m args below meth c s.heap [] 0 0 (MQ below Qc args s mc ms free) (entryFrame m args maxL)) : Met l y ws rm Pc Qc mc ms free := by
  refine MetFree.of_bodyS (code := cc) (maxLocals := maxL) (ret := ret) hy ?_ ?_
  · intro args s m h hn
    obtain ⟨m9, meth, c, hn9, h1, h2, h3, h4, -, h5, h6, -⟩ := Cond.codeWith_spec (atoms_spec (ws := ws) h _ (by rw [hw]; exact List.mem_cons_self))
    cases hn.symm.trans hn9
    exact ⟨meth, c, h1, h2, h3, h4, h5, h6⟩
  · intro p e s m args below meth c s₁ B hml hP _
    have hh0 : s₁.heap = s.heap := by rw [B.state]; rfl
    obtain ⟨t, a1, o, b1, b2, b3⟩ := body p e s m args below meth c s₁ B hml hP s₁ hh0 (Stand.of_body B)
    exact ⟨t, o, a1, b1, b2, ⟨b3.1, b3.2⟩⟩
section GL8
variable {p : Program} {l : Launch} {e : Env} {R : Room} {s : State} {m : MethodId} {args : Array Value} {below : List Frame} {meth : Method} {c : Code} {H : Heap} {locs : List Loc} {cells slots : Nat} {Q : State → Prop}
variable {y : MethodName} {bytes cc : ByteArray} {maxL nL n index mc ms k2 n2 : Nat} {ret : Option FieldType} {ws : List Cond} {rm : Room} {Ts : List Cond} {own : String} {As rest st0 : List Value} {pc : Nat} {ls : Array Slot} {D : va_G} {tys : List (ClassId × FieldType)} {B B' : Heap → Prop} {A0 A1 : Nat → Prop} {H0 : Heap} {t lo : Nat}
/-- what lies in new cells needs no name at the end -/
theorem gw_old {g : JFrame} (kk : W p l e R s m args below meth c H (locs.filter (fun y => decide (y.base < s.heap.size))) cells slots Q g) : W p l e R s m args below meth c H locs cells slots Q g := fun T hT X =>
  kk T hT { X with same := X.same.weaken (fun y hy hlt => List.mem_filter.mpr ⟨hy, decide_eq_true hlt⟩) (Nat.le_refl _) (Nat.le_refl _) }
theorem gww_l {v : Int64} {hh : List (Nat × Nat × Nat × Nat)} (S : CallFix p m c cc nL s args Ts own) (hE : gEnw t lo s H) (hK : va_K D vwCl tys s) (hM : Met l y ws rm (va_Pc As (gBw D tys t lo B)) (va_Ql (fun r (_ : Unit) => r = v) (fun _ t => B' t.heap) A1) mc ms A1) (cw : vx_CSW R s args own index y bytes maxL ret hh ws rm mc ms n) (hB : B H) (hS : va_S A0 H0 H locs) (hA : ∀ q, A1 q → A0 q) (hn : As.length = n) (hl : ls.size = nL) (hst : st0 = As.reverse ++ rest) (hW : (rest.map fun v => v.category).sum ≤ 8) (hf : cells + mc ≤ R.cells ∧ slots + ms ≤ R.slots) (hk2 : cells + mc = k2) (hn2 : slots + ms = n2) (hdg : decode cc pc = .ok (.invokestatic index, 3))
    (kk : ∀ (H1 : Heap) (locs1 : List Loc), B' H1 → va_S A0 H0 H1 locs1 → H.size ≤ H1.size → (∀ q : Nat, q < H.size → ¬ A1 q → H1[q]? = H[q]?) → W p l e R s m args below meth c H1 locs1 k2 n2 Q (F0 m (pc + 3) ls (.long v :: rest))) : W p l e R s m args below meth c H locs cells slots Q (F0 m pc ls st0) := by
  subst hst; subst hk2; subst hn2
  exact va_calll (vx_runSW (As := As) (rest := rest) S hM cw ⟨gBw_blind, fun U hU hW => ⟨rfl, ⟨by rw [hU]; exact hB, va_K.moved hW.alike hK⟩, by rw [hU]; exact hE.warm hW⟩⟩ rfl hn hl rfl (lv_room hW) hdg hf) hS (fun q _ h => hA q h) hA (fun r u t H1 locs1 ht hvm hw hB' hz hk hS => by subst hw; exact kk H1 locs1 (by rw [← ht]; exact hB') hS hz hk)
theorem gww_i {v : Int32} {hh : List (Nat × Nat × Nat × Nat)} (S : CallFix p m c cc nL s args Ts own) (hE : gEnw t lo s H) (hK : va_K D vwCl tys s) (hM : Met l y ws rm (va_Pc As (gBw D tys t lo B)) (va_Qi (fun r (_ : Unit) => r = v) (fun _ t => B' t.heap) A1) mc ms A1) (cw : vx_CSW R s args own index y bytes maxL ret hh ws rm mc ms n) (hB : B H) (hS : va_S A0 H0 H locs) (hA : ∀ q, A1 q → A0 q) (hn : As.length = n) (hl : ls.size = nL) (hst : st0 = As.reverse ++ rest) (hW : (rest.map fun v => v.category).sum ≤ 8) (hf : cells + mc ≤ R.cells ∧ slots + ms ≤ R.slots) (hk2 : cells + mc = k2) (hn2 : slots + ms = n2) (hdg : decode cc pc = .ok (.invokestatic index, 3))
    (kk : ∀ (H1 : Heap) (locs1 : List Loc), B' H1 → va_S A0 H0 H1 locs1 → H.size ≤ H1.size → (∀ q : Nat, q < H.size → ¬ A1 q → H1[q]? = H[q]?) → W p l e R s m args below meth c H1 locs1 k2 n2 Q (F0 m (pc + 3) ls (.int v :: rest))) : W p l e R s m args below meth c H locs cells slots Q (F0 m pc ls st0) := by
  subst hst; subst hk2; subst hn2
  exact va_calli (vx_runSW (As := As) (rest := rest) S hM cw ⟨gBw_blind, fun U hU hW => ⟨rfl, ⟨by rw [hU]; exact hB, va_K.moved hW.alike hK⟩, by rw [hU]; exact hE.warm hW⟩⟩ rfl hn hl rfl (lv_room hW) hdg hf) hS (fun q _ h => hA q h) hA (fun r u t H1 locs1 ht hvm hw hB' hz hk hS => by subst hw; exact kk H1 locs1 (by rw [← ht]; exact hB') hS hz hk)
theorem gws_l {v : Int64} (S : CallFix p m c cc nL s args Ts own) (hE : gEnw t lo s H) (hK : va_K D vwCl tys s) (hM : Met l y ws rm (va_Pc As (gBw D tys t lo B)) (va_Ql (fun r (_ : Unit) => r = v) (fun _ t => B' t.heap) A1) mc ms A1) (cw : CallB R s args own index y bytes maxL ret ws rm mc ms n ∧ (Cond.static y).before args s = true) (hB : B H) (hS : va_S A0 H0 H locs) (hA : ∀ q, A1 q → A0 q) (hn : As.length = n) (hl : ls.size = nL) (hst : st0 = As.reverse ++ rest) (hW : (rest.map fun v => v.category).sum ≤ 8) (hf : cells + mc ≤ R.cells ∧ slots + ms ≤ R.slots) (hk2 : cells + mc = k2) (hn2 : slots + ms = n2) (hdg : decode cc pc = .ok (.invokestatic index, 3))
    (kk : ∀ (H1 : Heap) (locs1 : List Loc), B' H1 → va_S A0 H0 H1 locs1 → H.size ≤ H1.size → (∀ q : Nat, q < H.size → ¬ A1 q → H1[q]? = H[q]?) → W p l e R s m args below meth c H1 locs1 k2 n2 Q (F0 m (pc + 3) ls (.long v :: rest))) : W p l e R s m args below meth c H locs cells slots Q (F0 m pc ls st0) := by
  subst hst; subst hk2; subst hn2
  exact va_calll (va_runS (As := As) (rest := rest) S hM cw ⟨gBw_blind, fun U hU hW => ⟨rfl, ⟨by rw [hU]; exact hB, va_K.moved hW.alike hK⟩, by rw [hU]; exact hE.warm hW⟩⟩ rfl hn hl rfl (lv_room hW) hdg hf) hS (fun q _ h => hA q h) hA (fun r u t H1 locs1 ht hvm hw hB' hz hk hS => by subst hw; exact kk H1 locs1 (by rw [← ht]; exact hB') hS hz hk)
theorem gws_i {v : Int32} (S : CallFix p m c cc nL s args Ts own) (hE : gEnw t lo s H) (hK : va_K D vwCl tys s) (hM : Met l y ws rm (va_Pc As (gBw D tys t lo B)) (va_Qi (fun r (_ : Unit) => r = v) (fun _ t => B' t.heap) A1) mc ms A1) (cw : CallB R s args own index y bytes maxL ret ws rm mc ms n ∧ (Cond.static y).before args s = true) (hB : B H) (hS : va_S A0 H0 H locs) (hA : ∀ q, A1 q → A0 q) (hn : As.length = n) (hl : ls.size = nL) (hst : st0 = As.reverse ++ rest) (hW : (rest.map fun v => v.category).sum ≤ 8) (hf : cells + mc ≤ R.cells ∧ slots + ms ≤ R.slots) (hk2 : cells + mc = k2) (hn2 : slots + ms = n2) (hdg : decode cc pc = .ok (.invokestatic index, 3))
    (kk : ∀ (H1 : Heap) (locs1 : List Loc), B' H1 → va_S A0 H0 H1 locs1 → H.size ≤ H1.size → (∀ q : Nat, q < H.size → ¬ A1 q → H1[q]? = H[q]?) → W p l e R s m args below meth c H1 locs1 k2 n2 Q (F0 m (pc + 3) ls (.int v :: rest))) : W p l e R s m args below meth c H locs cells slots Q (F0 m pc ls st0) := by
  subst hst; subst hk2; subst hn2
  exact va_calli (va_runS (As := As) (rest := rest) S hM cw ⟨gBw_blind, fun U hU hW => ⟨rfl, ⟨by rw [hU]; exact hB, va_K.moved hW.alike hK⟩, by rw [hU]; exact hE.warm hW⟩⟩ rfl hn hl rfl (lv_room hW) hdg hf) hS (fun q _ h => hA q h) hA (fun r u t H1 locs1 ht hvm hw hB' hz hk hS => by subst hw; exact kk H1 locs1 (by rw [← ht]; exact hB') hS hz hk)
end GL8

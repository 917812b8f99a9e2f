/-! MY OWN KIT: guards of the mirrors, the state of a Lift, the worlds, contracts' forms, calls -/
-- guards
def gd {α : Type} (i : Int32) (n : Nat) (k : Option α) : Option α := if i < 0 ∨ n ≤ i.toNatClampNeg then none else k
theorem gd_some {α : Type} {i : Int32} {n : Nat} {k : Option α} {r : α} (h : gd i n k = some r) : vp_in i n ∧ k = some r := by
  unfold gd at h
  split at h
  · cases h
  · rename_i hn; exact ⟨hn, h⟩
theorem gd_in {α : Type} {i : Int32} {n : Nat} {k : Option α} (h : vp_in i n) : gd i n k = k := by
  unfold gd; exact if_neg h
def gz {α : Type} (r : Int32) (k : Option α) : Option α := if r = 0 ∨ r = 1 then k else none
theorem gz_some {α : Type} {i : Int32} {k : Option α} {r : α} (h : gz i k = some r) : narrow .boolean (.int i) = .int i ∧ k = some r := by
  unfold gz at h
  split at h
  · rename_i hn
    rcases hn with rfl | rfl
    · exact ⟨rfl, h⟩
    · exact ⟨rfl, h⟩
  · cases h
theorem bd_some {α β : Type} {o : Option α} {k : α → Option β} {r : β} (h : o.bind k = some r) : ∃ a, o = some a ∧ k a = some r := by
  cases o with
  | none => cases h
  | some a => exact ⟨a, rfl, h⟩
def nz {α : Type} (r : Int32) (k : Option α) : Option α := if r = 0 then none else k
theorem nz_some {α : Type} {i : Int32} {k : Option α} {r : α} (h : nz i k = some r) : ¬ i = 0 ∧ k = some r := by
  unfold nz at h
  split at h
  · cases h
  · rename_i hn; exact ⟨hn, h⟩
theorem gsw_out (lo hi : Int) {x : Int32} (h : ∀ k : Int, lo ≤ k → k ≤ hi → ¬ x.toInt = k) : x.toInt < lo ∨ hi < x.toInt := by
  rcases Int.lt_or_le x.toInt lo with q | q
  · exact Or.inl q
  · rcases Int.lt_or_le hi x.toInt with r | r
    · exact Or.inr r
    · exact absurd rfl (h x.toInt q r)
theorem no_some {α : Type} {P : Prop} {r : α} (h : (none : Option α) = some r) : P := by cases h
theorem vin_lit {i : Int32} {n : Nat} (h : decide (¬ (i < 0 ∨ n ≤ i.toNatClampNeg)) = true) : vp_in i n := by unfold vp_in; exact of_decide_eq_true h
def KF : Nat := 3000
-- the state of a Lift: nine rows, n, station, clock, random state
abbrev RI : Type := Nat → Int32
abbrev LSt : Type := RI × RI × RI × RI × RI × RI × RI × RI × RI × Int32 × Int32 × Int32 × Int64
abbrev lWe (L : LSt) : RI := L.1
abbrev lCy (L : LSt) : RI := L.2.1
abbrev lWr (L : LSt) : RI := L.2.2.1
abbrev lPu (L : LSt) : RI := L.2.2.2.1
abbrev lSl (L : LSt) : RI := L.2.2.2.2.1
abbrev lPl (L : LSt) : RI := L.2.2.2.2.2.1
abbrev lSp (L : LSt) : RI := L.2.2.2.2.2.2.1
abbrev lSt (L : LSt) : RI := L.2.2.2.2.2.2.2.1
abbrev lLi (L : LSt) : RI := L.2.2.2.2.2.2.2.2.1
abbrev lN_ (L : LSt) : Int32 := L.2.2.2.2.2.2.2.2.2.1
abbrev lStn (L : LSt) : Int32 := L.2.2.2.2.2.2.2.2.2.2.1
abbrev lClk (L : LSt) : Int32 := L.2.2.2.2.2.2.2.2.2.2.2.1
abbrev lRnd (L : LSt) : Int64 := L.2.2.2.2.2.2.2.2.2.2.2.2
-- the worlds
def LW (cI : ClassId) (q : Nat) (L : LSt) : va_W := [(q, .inr (0, [.ref (q + 1), .ref (q + 2), .ref (q + 3), .ref (q + 4), .ref (q + 5), .ref (q + 6), .ref (q + 7), .ref (q + 8), .ref (q + 9), .int (lN_ L), .int (lStn L), .int (lClk L), .long (lRnd L)])), (q + 1, .inl (cI, 12, .inl (lWe L))), (q + 2, .inl (cI, 12, .inl (lCy L))), (q + 3, .inl (cI, 12, .inl (lWr L))), (q + 4, .inl (cI, 12, .inl (lPu L))), (q + 5, .inl (cI, 12, .inl (lSl L))), (q + 6, .inl (cI, 12, .inl (lPl L))), (q + 7, .inl (cI, 12, .inl (lSp L))), (q + 8, .inl (cI, 12, .inl (lSt L))), (q + 9, .inl (cI, 5, .inl (lLi L)))]
abbrev pF (X : LSt × LSt) : LSt := X.1
abbrev pS (X : LSt × LSt) : LSt := X.2
def LLW (cI : ClassId) (q z : Nat) (X : LSt × LSt) : va_W := LW cI q (pF X) ++ LW cI z (pS X)
abbrev SSt : Type := RI × Int32
abbrev sRow (Z : SSt) : RI := Z.1
abbrev sLen (Z : SSt) : Int32 := Z.2
def SW (cC : ClassId) (q : Nat) (Z : SSt) : va_W := [(q, .inr (3, [.ref (q + 1), .int (sLen Z)])), (q + 1, .inl (cC, 60, .inl (sRow Z)))]
abbrev hL (X : LSt × SSt) : LSt := X.1
abbrev hZ (X : LSt × SSt) : SSt := X.2
def LGW (cI cC : ClassId) (q z : Nat) (X : LSt × SSt) : va_W := LW cI q (hL X) ++ SW cC z (hZ X)
abbrev TSt : Type := SSt × LSt × Int32
abbrev tSg (T : TSt) : SSt := T.1
abbrev tD (T : TSt) : LSt := T.2.1
abbrev tAt (T : TSt) : Int32 := T.2.2
def TW (cI cC : ClassId) (q : Nat) (T : TSt) : va_W := (q, .inr (1, [.ref (q + 1), .ref (q + 3), .int (tAt T)])) :: (SW cC (q + 1) (tSg T) ++ LW cI (q + 3) (tD T))
def gOr (A B : Nat → Prop) : Nat → Prop := fun a => A a ∨ B a
/-- an interval of addresses -/
def fIv (q n : Nat) : Nat → Prop := fun a => q ≤ a ∧ a < q + n
abbrev gTy (cI cC cZ cQ cJ : ClassId) : List (ClassId × FieldType) := [(cI, .int), (cC, .char), (cZ, .boolean), (cQ, .object "GripInspector$Lift")]
-- a list of cells at q, q+1, ..: apart, and in its interval
def gOrd : Nat → va_W → Prop
  | _, [] => True
  | q, c :: l => c.1 = q ∧ gOrd (q + 1) l
theorem gOrd_at : ∀ (l : va_W) (q k : Nat) (c : Nat × va_E), gOrd q l → l[k]? = some c → c.1 = q + k
  | [], _, _, _, _, h => by simp at h
  | a :: l, q, 0, c, ho, h => by simp at h; subst h; exact ho.1
  | a :: l, q, k + 1, c, ho, h => by
    simp only [List.getElem?_cons_succ] at h
    have := gOrd_at l (q + 1) k c ho.2 h
    omega
theorem gOrd_D {l : va_W} {q : Nat} (ho : gOrd q l) {A : Nat → Prop} (hA : ∀ a, fIv q l.length a → A a) : va_D A l := by
  refine ⟨fun i j x y hi hj hxy => ?_, fun k c hk => ?_⟩
  · have h1 := gOrd_at l q i x ho hi
    have h2 := gOrd_at l q j y ho hj
    omega
  · have h1 := gOrd_at l q k c ho hk
    have h2 := (List.getElem?_eq_some_iff.mp hk).1
    exact hA _ ⟨by omega, by omega⟩
theorem LW_ord (cI : ClassId) (q : Nat) (L : LSt) : gOrd q (LW cI q L) := ⟨rfl, rfl, rfl, rfl, rfl, rfl, rfl, rfl, rfl, rfl, trivial⟩
theorem LW_D {cI : ClassId} {q : Nat} {L : LSt} {A : Nat → Prop} (hA : ∀ a, fIv q 10 a → A a) : va_D A (LW cI q L) := gOrd_D (LW_ord cI q L) hA
theorem LW_self {cI : ClassId} {q : Nat} {L : LSt} : va_D (fIv q 10) (LW cI q L) := LW_D fun _ h => h
theorem gOrd_kept {D : va_G} {cl : List vw_C} {l : va_W} {q : Nat} (ho : gOrd q l) {H H1 : Heap} (h : va_P D cl l H) (hk : ∀ a, a < H.size → fIv q l.length a → H1[a]? = H[a]?) : va_P D cl l H1 := h.kept fun k c hc => hk c.1 (h k c hc).lt (by
  have h1 := gOrd_at l q k c ho hc
  have h2 := (List.getElem?_eq_some_iff.mp hc).1
  exact ⟨by omega, by omega⟩)
theorem gOrd_app : ∀ (l l2 : va_W) (q : Nat), gOrd q l → gOrd (q + l.length) l2 → gOrd q (l ++ l2)
  | [], _, _, _, h => by simpa using h
  | c :: l, l2, q, h, h2 => ⟨h.1, gOrd_app l l2 (q + 1) h.2 (by rw [List.length_cons] at h2; rw [show q + 1 + l.length = q + (l.length + 1) by omega]; exact h2)⟩
theorem SW_ord (cC : ClassId) (q : Nat) (Z : SSt) : gOrd q (SW cC q Z) := ⟨rfl, rfl, trivial⟩
theorem SW_D {cC : ClassId} {q : Nat} {Z : SSt} {A : Nat → Prop} (hA : ∀ a, fIv q 2 a → A a) : va_D A (SW cC q Z) := gOrd_D (SW_ord cC q Z) hA
theorem SW_self {cC : ClassId} {q : Nat} {Z : SSt} : va_D (fIv q 2) (SW cC q Z) := SW_D fun _ h => h
theorem TW_ord (cI cC : ClassId) (q : Nat) (T : TSt) : gOrd q (TW cI cC q T) := ⟨rfl, rfl, rfl, rfl, rfl, rfl, rfl, rfl, rfl, rfl, rfl, rfl, rfl, trivial⟩
theorem TW_self {cI cC : ClassId} {q : Nat} {T : TSt} : va_D (fIv q 13) (TW cI cC q T) := gOrd_D (TW_ord cI cC q T) fun _ h => h
theorem gApp_D {w1 w2 : va_W} {q z : Nat} (h1 : gOrd q w1) (h2 : gOrd z w2) (hd : q + w1.length ≤ z ∨ z + w2.length ≤ q) : va_D (gOr (fIv q w1.length) (fIv z w2.length)) (w1 ++ w2) := by
  refine va_D.app (gOrd_D h1 fun _ h => Or.inl h) (gOrd_D h2 fun _ h => Or.inr h) (fun i j x y hi hj hxy => ?_)
  have e1 := gOrd_at w1 q i x h1 hi
  have e2 := gOrd_at w2 z j y h2 hj
  have l1 := (List.getElem?_eq_some_iff.mp hi).1
  have l2 := (List.getElem?_eq_some_iff.mp hj).1
  omega
theorem LLW_self {cI : ClassId} {q z : Nat} {X : LSt × LSt} (hd : q + 10 ≤ z ∨ z + 10 ≤ q) : va_D (gOr (fIv q 10) (fIv z 10)) (LLW cI q z X) := gApp_D (LW_ord cI q _) (LW_ord cI z _) hd
theorem LGW_self {cI cC : ClassId} {q z : Nat} {X : LSt × SSt} (hd : q + 10 ≤ z ∨ z + 2 ≤ q) : va_D (gOr (fIv q 10) (fIv z 2)) (LGW cI cC q z X) := gApp_D (LW_ord cI q _) (SW_ord cC z _) hd
theorem gL {D : va_G} {cl : List vw_C} {w1 w2 : va_W} {H : Heap} (h : va_P D cl (w1 ++ w2) H) : va_P D cl w1 H := fun k q hk => h k q (by rw [List.getElem?_append_left (List.getElem?_eq_some_iff.mp hk).1]; exact hk)
theorem gR {D : va_G} {cl : List vw_C} {w1 w2 : va_W} {H : Heap} (h : va_P D cl (w1 ++ w2) H) : va_P D cl w2 H := fun k q hk => h (w1.length + k) q (by rw [List.getElem?_append_right (Nat.le_add_right _ _), Nat.add_sub_cancel_left]; exact hk)
-- parts of a text reader's world, and of a Lift with a row of signs
theorem TW_S {D : va_G} {cI cC : ClassId} {q : Nat} {T : TSt} {H : Heap} (h : va_P D vwCl (TW cI cC q T) H) : va_P D vwCl (SW cC (q + 1) (tSg T)) H := gL (gR (w1 := [_]) h)
theorem TW_L {D : va_G} {cI cC : ClassId} {q : Nat} {T : TSt} {H : Heap} (h : va_P D vwCl (TW cI cC q T) H) : va_P D vwCl (LW cI (q + 3) (tD T)) H := gR (w1 := SW cC (q + 1) (tSg T)) (gR (w1 := [(q, .inr (1, [.ref (q + 1), .ref (q + 3), .int (tAt T)]))]) h)
theorem TW_in {q : Nat} : ∀ a, fIv (q + 3) 10 a → fIv q 13 a := fun a h => ⟨by have := h.1; omega, by have := h.2; omega⟩
theorem TW_putL {D : va_G} {cI cC : ClassId} {q : Nat} {T : TSt} {L : LSt} {H H1 : Heap} (h : va_P D vwCl (TW cI cC q T) H) (h1 : va_P D vwCl (LW cI (q + 3) L) H1) (hk : ∀ a : Nat, a < H.size → ¬ fIv (q + 3) 10 a → H1[a]? = H[a]?) : va_P D vwCl (TW cI cC q (tSg T, L, tAt T)) H1 := by
  have ha : va_P D vwCl ((q, .inr (1, [.ref (q + 1), .ref (q + 3), .int (tAt T)])) :: SW cC (q + 1) (tSg T)) H := fun k c hc => h k c (by
    show ((q, .inr (1, [.ref (q + 1), .ref (q + 3), .int (tAt T)])) :: SW cC (q + 1) (tSg T) ++ LW cI (q + 3) (tD T))[k]? = _
    rw [List.getElem?_append_left (List.getElem?_eq_some_iff.mp hc).1]; exact hc)
  have ho : gOrd q ((q, .inr (1, [.ref (q + 1), .ref (q + 3), .int (tAt T)])) :: SW cC (q + 1) (tSg T)) := ⟨rfl, rfl, rfl, trivial⟩
  exact va_P.app (gOrd_kept ho ha (fun a hl hi => hk a hl (fun z => by have h1 := hi.2; have h2 := z.1; simp [SW] at h1; omega))) h1
theorem TW_putL_in {q : Nat} : ∀ a, fIv (q + 3) 10 a → fIv q 13 a := TW_in
theorem LGW_L {D : va_G} {cI cC : ClassId} {q z : Nat} {X : LSt × SSt} {H : Heap} (h : va_P D vwCl (LGW cI cC q z X) H) : va_P D vwCl (LW cI q (hL X)) H := gL h
theorem LGW_S {D : va_G} {cI cC : ClassId} {q z : Nat} {X : LSt × SSt} {H : Heap} (h : va_P D vwCl (LGW cI cC q z X) H) : va_P D vwCl (SW cC z (hZ X)) H := gR h
theorem LGW_putS_in {q z : Nat} : ∀ a, fIv z 2 a → gOr (fIv q 10) (fIv z 2) a := fun _ h => Or.inr h
theorem LGW_putS {D : va_G} {cI cC : ClassId} {q z : Nat} (hd : q + 10 ≤ z ∨ z + 2 ≤ q) {X : LSt × SSt} {Z : SSt} {H H1 : Heap} (h : va_P D vwCl (LGW cI cC q z X) H) (h1 : va_P D vwCl (SW cC z Z) H1) (hk : ∀ a : Nat, a < H.size → ¬ fIv z 2 a → H1[a]? = H[a]?) : va_P D vwCl (LGW cI cC q z (hL X, Z)) H1 :=
  va_P.app (gOrd_kept (LW_ord cI q _) (gL h) (fun a hl hi => hk a hl (fun w => by have h1 := hi.1; have h2 := hi.2; have h3 := w.1; have h4 := w.2; simp [LW] at h2; omega))) h1
-- a contract's start: the arguments, a picture of the heap, the tables
def gB (D : va_G) (tys : List (ClassId × FieldType)) (B : Heap → Prop) : State → Prop := fun U => B U.heap ∧ va_K D vwCl tys U
theorem gB_blind {D : va_G} {tys : List (ClassId × FieldType)} {B : Heap → Prop} {av : List Value} : FrameBlind (va_Pc av (gB D tys B)) := fun a U g mk q => ⟨q.1, q.2.1, va_K.moved (u := U) (U := U.calling g mk a) (Vm.Alike.refl U.vm) q.2.2⟩
theorem gh {D : va_G} {cl : List vw_C} {ws : va_W} {t : State} {H : Heap} (ht : t.heap = H) (hP : va_P D cl ws H) : va_P D cl ws t.heap := by rw [ht]; exact hP
section GC
variable {p : Program} {l : Launch} {e : Env} {R : Room} {s : State} {m : MethodId} {args : Array Value} {below : List Frame} {meth : Method} {c : Code} {H : Heap} {locs : List Loc} {cells slots : Nat} {Q : State → Prop}
variable {y : MethodName} {bytes cc : ByteArray} {maxL nL n index : Nat} {ret : Option FieldType} {ws : List Cond} {rm : Room} {Ts : List Cond} {own C : String} {b : Addr} {As rest st0 : List Value} {pc : Nat} {ls : Array Slot} {D : va_G} {tys : List (ClassId × FieldType)} {B B' : Heap → Prop} {A0 A1 : Nat → Prop} {H0 : Heap}
/-- a call of a reading method with an int answer -/
theorem gc_ri {v : Int32} (S : CallFix p m c cc nL s args Ts own) (hK : va_K D vwCl tys s) (hM : Met l y ws rm (va_Pc (.ref b :: As) (gB D tys B)) (vp_Si (fun r => r = v)) 0 0 (fun _ => False)) (cw : CallW R s args own C index y bytes maxL ret ws rm 0 0 n) (hrecv : ∃ cellB : Cell, H[b]? = some cellB ∧ cellB.vm.isStatics = false ∧ s.vm.findClass C = some cellB.cls) (hB : B H) (hn : As.length = n) (hl : ls.size = nL) (hst : st0 = As.reverse ++ .ref b :: rest) (hW : (rest.map fun v => v.category).sum ≤ 8) (hf : cells ≤ R.cells ∧ slots ≤ R.slots) (hdg : decode cc pc = .ok (.invokevirtual index, 3)) (kk : W p l e R s m args below meth c H locs cells slots Q (F0 m (pc + 3) ls (.int v :: rest))) : W p l e R s m args below meth c H locs cells slots Q (F0 m pc ls st0) := by
  subst hst
  refine vp_callSi (W.runV (As := As) (rest := rest) S hM cw ⟨gB_blind, hrecv, fun U hU hW => ⟨rfl, by rw [hU]; exact hB, va_K.moved hW.alike hK⟩⟩ rfl hn hl rfl (lv_room hW) hdg hf) (fun r hr => ?_)
  subst hr
  exact kk
/-- .. of a static reading method -/
theorem gc_si {v : Int32} (S : CallFix p m c cc nL s args Ts own) (hK : va_K D vwCl tys s) (hM : Met l y ws rm (va_Pc As (gB D tys B)) (vp_Si (fun r => r = v)) 0 0 (fun _ => False)) (cw : CallB R s args own index y bytes maxL ret ws rm 0 0 n ∧ (Cond.static y).before args s = true) (hB : B H) (hn : As.length = n) (hl : ls.size = nL) (hst : st0 = As.reverse ++ rest) (hW : (rest.map fun v => v.category).sum ≤ 8) (hf : cells ≤ R.cells ∧ slots ≤ R.slots) (hdg : decode cc pc = .ok (.invokestatic index, 3)) (kk : W p l e R s m args below meth c H locs cells slots Q (F0 m (pc + 3) ls (.int v :: rest))) : W p l e R s m args below meth c H locs cells slots Q (F0 m pc ls st0) := by
  subst hst
  refine vp_callSi (W.runS (As := As) (rest := rest) S hM cw ⟨gB_blind, fun U hU hW => ⟨rfl, by rw [hU]; exact hB, va_K.moved hW.alike hK⟩⟩ rfl hn hl rfl (lv_room hW) hdg hf) (fun r hr => ?_)
  subst hr
  exact kk
/-- a call of a writing method without an answer -/
theorem gc_wv (S : CallFix p m c cc nL s args Ts own) (hK : va_K D vwCl tys s) (hM : Met l y ws rm (va_Pc (.ref b :: As) (gB D tys B)) (va_Qv (fun _ : Unit => True) (fun _ t => B' t.heap) A1) 0 0 A1) (cw : CallW R s args own C index y bytes maxL ret ws rm 0 0 n) (hrecv : ∃ cellB : Cell, H[b]? = some cellB ∧ cellB.vm.isStatics = false ∧ s.vm.findClass C = some cellB.cls) (hB : B H) (hS : va_S A0 H0 H locs) (hA : ∀ q, A1 q → A0 q) (hn : As.length = n) (hl : ls.size = nL) (hst : st0 = As.reverse ++ .ref b :: rest) (hW : (rest.map fun v => v.category).sum ≤ 8) (hf : cells ≤ R.cells ∧ slots ≤ R.slots) (hdg : decode cc pc = .ok (.invokevirtual index, 3)) (kk : ∀ (H1 : Heap) (locs1 : List Loc), B' H1 → va_S A0 H0 H1 locs1 → H.size ≤ H1.size → (∀ q : Nat, q < H.size → ¬ A1 q → H1[q]? = H[q]?) → W p l e R s m args below meth c H1 locs1 cells slots Q (F0 m (pc + 3) ls rest)) : W p l e R s m args below meth c H locs cells slots Q (F0 m pc ls st0) := by
  subst hst
  exact va_callv (va_runV (As := As) (rest := rest) S hM cw ⟨gB_blind, hrecv, fun U hU hW => ⟨rfl, by rw [hU]; exact hB, va_K.moved hW.alike hK⟩⟩ rfl hn hl rfl (lv_room hW) hdg hf) hS (fun q _ h => hA q h) hA (fun u t H1 locs1 ht hvm hw hB' hz hk hS => kk H1 locs1 (by rw [← ht]; exact hB') hS hz hk)
/-- a call of a writing method with an int answer -/
theorem gc_wi {v : Int32} (S : CallFix p m c cc nL s args Ts own) (hK : va_K D vwCl tys s) (hM : Met l y ws rm (va_Pc (.ref b :: As) (gB D tys B)) (va_Qi (fun r (_ : Unit) => r = v) (fun _ t => B' t.heap) A1) 0 0 A1) (cw : CallW R s args own C index y bytes maxL ret ws rm 0 0 n) (hrecv : ∃ cellB : Cell, H[b]? = some cellB ∧ cellB.vm.isStatics = false ∧ s.vm.findClass C = some cellB.cls) (hB : B H) (hS : va_S A0 H0 H locs) (hA : ∀ q, A1 q → A0 q) (hn : As.length = n) (hl : ls.size = nL) (hst : st0 = As.reverse ++ .ref b :: rest) (hW : (rest.map fun v => v.category).sum ≤ 8) (hf : cells ≤ R.cells ∧ slots ≤ R.slots) (hdg : decode cc pc = .ok (.invokevirtual index, 3)) (kk : ∀ (H1 : Heap) (locs1 : List Loc), B' H1 → va_S A0 H0 H1 locs1 → H.size ≤ H1.size → (∀ q : Nat, q < H.size → ¬ A1 q → H1[q]? = H[q]?) → W p l e R s m args below meth c H1 locs1 cells slots Q (F0 m (pc + 3) ls (.int v :: rest))) : W p l e R s m args below meth c H locs cells slots Q (F0 m pc ls st0) := by
  subst hst
  exact va_calli (va_runV (As := As) (rest := rest) S hM cw ⟨gB_blind, hrecv, fun U hU hW => ⟨rfl, by rw [hU]; exact hB, va_K.moved hW.alike hK⟩⟩ rfl hn hl rfl (lv_room hW) hdg hf) hS (fun q _ h => hA q h) hA (fun r u t H1 locs1 ht hvm hw hB' hz hk hS => by subst hw; exact kk H1 locs1 (by rw [← ht]; exact hB') hS hz hk)
/-- the heap and the writes by names -/
theorem gc_at {H9 : Heap} {locs9 : List Loc} {g : JFrame} (hH : H = H9) (hlo : locs = locs9) (k : W p l e R s m args below meth c H locs cells slots Q g) : W p l e R s m args below meth c H9 locs9 cells slots Q g := by
  subst hH; subst hlo; exact k
/-- reading a place of an int row, its index by its number -/
theorem g_iald (hexec : p.tables.exec = Jvm.exec) (hb : c.code = cc) {cl : List vw_C} {wl : va_W} {a : Nat} (hK : va_K D cl tys s) (hP : va_P D cl wl H) (q0 t0 : Nat) {cA : ClassId} {n : Nat} {f : Nat → Int32} (ha : wl[q0]? = some (a, .inl (cA, n, .inl f))) (ht : tys[t0]? = some (cA, .int)) {i : Int32} {k : Nat} (hin : vp_in i n) (hk : i.toNatClampNeg = k) (hdg : decode cc pc = .ok (.iaload, 1))
    (kk : W p l e R s m args below meth c H locs cells slots Q (F0 m (pc + 1) ls (.int (f k) :: rest))) : W p l e R s m args below meth c H locs cells slots Q (F0 m pc ls (.int i :: .ref a :: rest)) := by
  subst hk
  exact va_iald hexec hb hK hP q0 t0 ha ht hin hdg kk
theorem g_iast (hexec : p.tables.exec = Jvm.exec) (hb : c.code = cc) {cl : List vw_C} {wl : va_W} {a : Nat} (hK : va_K D cl tys s) (hP : va_P D cl wl H) (hD : va_D A0 wl) (hS : va_S A0 H0 H locs) (q0 t0 : Nat) {cA : ClassId} {n : Nat} {f : Nat → Int32} (ha : wl[q0]? = some (a, .inl (cA, n, .inl f))) (ht : tys[t0]? = some (cA, .int)) {i : Int32} {k : Nat} {x : Int32} (hin : vp_in i n) (hk : i.toNatClampNeg = k) (hdg : decode cc pc = .ok (.iastore, 1))
    (kk : ∀ (H1 : Heap) (locs1 : List Loc), va_P D cl (wl.set q0 (a, .inl (cA, n, .inl (upd f k x)))) H1 → va_S A0 H0 H1 locs1 → W p l e R s m args below meth c H1 locs1 cells slots Q (F0 m (pc + 1) ls rest)) : W p l e R s m args below meth c H locs cells slots Q (F0 m pc ls (.int x :: .int i :: .ref a :: rest)) := by
  subst hk
  exact va_iast hexec hb hK hP hD hS q0 t0 ha ht hin hdg (fun H1 locs1 h1 _ h3 => kk H1 locs1 h1 h3)
theorem g_cald (hexec : p.tables.exec = Jvm.exec) (hb : c.code = cc) {cl : List vw_C} {wl : va_W} {a : Nat} (hK : va_K D cl tys s) (hP : va_P D cl wl H) (q0 t0 : Nat) {cA : ClassId} {n : Nat} {f : Nat → Int32} (ha : wl[q0]? = some (a, .inl (cA, n, .inl f))) (ht : tys[t0]? = some (cA, .char)) {i : Int32} {k : Nat} (hin : vp_in i n) (hk : i.toNatClampNeg = k) (hdg : decode cc pc = .ok (.caload, 1))
    (kk : W p l e R s m args below meth c H locs cells slots Q (F0 m (pc + 1) ls (.int (f k) :: rest))) : W p l e R s m args below meth c H locs cells slots Q (F0 m pc ls (.int i :: .ref a :: rest)) := by
  subst hk
  exact va_cald hexec hb hK hP q0 t0 ha ht hin hdg kk
theorem g_cast (hexec : p.tables.exec = Jvm.exec) (hb : c.code = cc) {cl : List vw_C} {wl : va_W} {a : Nat} (hK : va_K D cl tys s) (hP : va_P D cl wl H) (hD : va_D A0 wl) (hS : va_S A0 H0 H locs) (q0 t0 : Nat) {cA : ClassId} {n : Nat} {f : Nat → Int32} (ha : wl[q0]? = some (a, .inl (cA, n, .inl f))) (ht : tys[t0]? = some (cA, .char)) {i : Int32} {k : Nat} {x : Int32} (hin : vp_in i n) (hk : i.toNatClampNeg = k) (hdg : decode cc pc = .ok (.castore, 1))
    (kk : ∀ (H1 : Heap) (locs1 : List Loc), va_P D cl (wl.set q0 (a, .inl (cA, n, .inl (upd f k (vp_nar .char x))))) H1 → va_S A0 H0 H1 locs1 → W p l e R s m args below meth c H1 locs1 cells slots Q (F0 m (pc + 1) ls rest)) : W p l e R s m args below meth c H locs cells slots Q (F0 m pc ls (.int x :: .int i :: .ref a :: rest)) := by
  subst hk
  exact va_cast hexec hb hK hP hD hS q0 t0 ha ht hin hdg (fun H1 locs1 h1 _ h3 => kk H1 locs1 h1 h3)
theorem g_zald (hexec : p.tables.exec = Jvm.exec) (hb : c.code = cc) {cl : List vw_C} {wl : va_W} {a : Nat} (hK : va_K D cl tys s) (hP : va_P D cl wl H) (q0 t0 : Nat) {cA : ClassId} {n : Nat} {f : Nat → Int32} (ha : wl[q0]? = some (a, .inl (cA, n, .inl f))) (ht : tys[t0]? = some (cA, .boolean)) {i : Int32} {k : Nat} (hin : vp_in i n) (hk : i.toNatClampNeg = k) (hdg : decode cc pc = .ok (.baload, 1))
    (kk : W p l e R s m args below meth c H locs cells slots Q (F0 m (pc + 1) ls (.int (f k) :: rest))) : W p l e R s m args below meth c H locs cells slots Q (F0 m pc ls (.int i :: .ref a :: rest)) := by
  subst hk
  exact va_zald hexec hb hK hP q0 t0 ha ht hin hdg kk
theorem g_zast (hexec : p.tables.exec = Jvm.exec) (hb : c.code = cc) {cl : List vw_C} {wl : va_W} {a : Nat} (hK : va_K D cl tys s) (hP : va_P D cl wl H) (hD : va_D A0 wl) (hS : va_S A0 H0 H locs) (q0 t0 : Nat) {cA : ClassId} {n : Nat} {f : Nat → Int32} (ha : wl[q0]? = some (a, .inl (cA, n, .inl f))) (ht : tys[t0]? = some (cA, .boolean)) {i : Int32} {k : Nat} {x : Int32} (hin : vp_in i n) (hk : i.toNatClampNeg = k) (hdg : decode cc pc = .ok (.bastore, 1))
    (kk : ∀ (H1 : Heap) (locs1 : List Loc), va_P D cl (wl.set q0 (a, .inl (cA, n, .inl (upd f k (vp_nar .boolean x))))) H1 → va_S A0 H0 H1 locs1 → W p l e R s m args below meth c H1 locs1 cells slots Q (F0 m (pc + 1) ls rest)) : W p l e R s m args below meth c H locs cells slots Q (F0 m pc ls (.int x :: .int i :: .ref a :: rest)) := by
  subst hk
  exact va_zast hexec hb hK hP hD hS q0 t0 ha ht hin hdg (fun H1 locs1 h1 _ h3 => kk H1 locs1 h1 h3)
end GC

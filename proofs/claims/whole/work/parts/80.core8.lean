/-! MY OWN KIT, eight: the law's wrappers: the inspector's world and the row of one long -/
def GWO (cI cC cZ cQ cJ : ClassId) (q o : Nat) (G : GSt) (f : Nat → Int64) : va_W := GW cI cC cZ cQ q G ++ [(o, .inl (cJ, 1, .inr (.inl f)))]
theorem GWO_at {cI cC cZ cQ cJ : ClassId} {q o : Nat} {G : GSt} {f : Nat → Int64} : (GWO cI cC cZ cQ cJ q o G f)[201]? = some (o, .inl (cJ, 1, .inr (.inl f))) := by
  unfold GWO
  rw [List.getElem?_append_right (by rw [GW_len]; exact Nat.le_refl _), GW_len]; rfl
theorem GWO_set {cI cC cZ cQ cJ : ClassId} {q o : Nat} {G : GSt} {f g : Nat → Int64} : (GWO cI cC cZ cQ cJ q o G f).set 201 (o, .inl (cJ, 1, .inr (.inl g))) = GWO cI cC cZ cQ cJ q o G g := by
  unfold GWO
  rw [List.set_append_right _ _ (by rw [GW_len]; exact Nat.le_refl _), GW_len]; rfl
theorem GWO_self {cI cC cZ cQ cJ : ClassId} {q o : Nat} {G : GSt} {f : Nat → Int64} (ho : q + 201 ≤ o) : va_D (gOr (fIv q 201) (fIv o 1)) (GWO cI cC cZ cQ cJ q o G f) := by
  have h := gApp_D (q := q) (z := o) (GW_ord cI cC cZ cQ q G) (w2 := [(o, .inl (cJ, 1, .inr (.inl f)))]) ⟨rfl, trivial⟩ (Or.inl (by rw [GW_len]; exact ho))
  rw [GW_len] at h
  exact h
theorem GWO_put {D : va_G} {cI cC cZ cQ cJ : ClassId} {q o : Nat} {G G1 : GSt} {f : Nat → Int64} {H H1 : Heap} (ho : q + 201 ≤ o) (h : va_P D vwCl (GWO cI cC cZ cQ cJ q o G f) H) (h1 : va_P D vwCl (GW cI cC cZ cQ q G1) H1) (hk : ∀ a : Nat, a < H.size → ¬ fIv q 201 a → H1[a]? = H[a]?) : va_P D vwCl (GWO cI cC cZ cQ cJ q o G1 f) H1 :=
  va_P.app h1 (gKeep (l := [(o, .inl (cJ, 1, .inr (.inl f)))]) (n := 1) (q := o) ⟨rfl, trivial⟩ rfl (gR h) (fun a hl hi => hk a hl (fun z => by have b1 := z.2; have b2 := hi.1; omega)))
def gPairs : List (String × String) := [(gIAE, gISE), (gIAE, gIOB), (gISE, gIAE), (gISE, gIOB), (gIOB, gIAE), (gIOB, gISE)]
def gEnw (t lo : Nat) (U : State) (H : Heap) : Prop := gEnv t lo U H ∧ ∀ q ∈ gPairs, va_Nc q.1 q.2 U
theorem gEnw.warm {t lo : Nat} {u U : State} {H : Heap} (hW : u.WarmedH U.vm) (h : gEnw t lo u H) : gEnw t lo U H := ⟨h.1.warm hW, fun q hq => va_Nc.moved hW.alike (h.2 q hq)⟩
theorem gEnw_now {t lo : Nat} {s : State} {A : Nat → Prop} {H : Heap} {locs : List Loc} (h : gEnw t lo s s.heap) (hS : va_S A s.heap H locs) (hlo : ∀ a, A a → lo ≤ a) : gEnw t lo s H := ⟨gEnv_now h.1 hS hlo, h.2⟩
def gBw (D : va_G) (tys : List (ClassId × FieldType)) (t lo : Nat) (B : Heap → Prop) : State → Prop := fun U => (B U.heap ∧ va_K D vwCl tys U) ∧ gEnw t lo U U.heap
theorem gEnv_blind {t lo : Nat} {U : State} {g : JFrame} {mk : MethodId} {a : Array Value} (q : gEnv t lo U U.heap) : gEnv t lo (U.calling g mk a) (U.calling g mk a).heap :=
  ⟨gZ_blind q.1, q.2.1.moved (u := U) (U := U.calling g mk a) (Vm.Alike.refl U.vm), q.2.2.1.moved (u := U) (U := U.calling g mk a) (Vm.Alike.refl U.vm),
   fun z hz => by obtain ⟨a9, ha⟩ := q.2.2.2.1 z hz; exact ⟨a9, vk_R.same (u := U) (U := U.calling g mk a) rfl ha⟩, fun E hE => va_Nw.same rfl (u := U) (U := U.calling g mk a) rfl (q.2.2.2.2.1 E hE), fun y hy => va_Nw.same rfl (u := U) (U := U.calling g mk a) rfl (q.2.2.2.2.2 y hy)⟩
theorem gBw_blind {D : va_G} {tys : List (ClassId × FieldType)} {t lo : Nat} {B : Heap → Prop} {av : List Value} : FrameBlind (va_Pc av (gBw D tys t lo B)) := fun a U g mk q =>
  ⟨q.1, ⟨q.2.1.1, va_K.moved (u := U) (U := U.calling g mk a) (Vm.Alike.refl U.vm) q.2.1.2⟩, gEnv_blind q.2.2.1, fun z hz => va_Nc.moved (u := U) (U := U.calling g mk a) (Vm.Alike.refl U.vm) (q.2.2.2 z hz)⟩
/-- which number a wrapper answers for what was thrown: 1 for a, 2 for b, else 0 -/
def gm (a b k : Nat) : Int32 := if k = a then 1 else if k = b then 2 else 0
theorem gMet_ofWH {l : Launch} {y : MethodName} {ws ws' : List Cond} {rm : Room} {Pc : Array Value → State → Prop} {Qc : Array Value → State → Outcome → State → Prop} {mc ms : Nat} {free : Addr → Prop} {cc : ByteArray} {maxL : Nat} {ret : Option FieldType} {hh : List (Nat × Nat × Nat × Nat)}
    (hy : plainName y.cls = true) (hw : ws = Cond.codeWith y cc maxL ret hh :: ws')
    (body : ∀ p e s m args below meth c s₁, BodyLoose p l y (headSpec ws rm) cc maxL ret e s m args below meth c s₁ → c.maxLocals = maxL → Pc args s →
      W p l e (headSpec ws rm).room s m args below meth c s.heap [] 0 0 (MQ below Qc args s mc ms free) (entryFrame m args maxL)) : Met l y ws rm Pc Qc mc ms free := by
  refine MetFree.of_bodyS (code := cc) (maxLocals := maxL) (ret := ret) hy ?_ ?_
  · intro args s m h hn
    obtain ⟨m9, meth, c, hn9, h1, h2, h3, h4, -, h5, h6, -⟩ := Cond.codeWith_spec (atoms_spec (ws := ws) h _ (by rw [hw]; exact List.mem_cons_self))
    cases hn.symm.trans hn9
    exact ⟨meth, c, h1, h2, h3, h4, h5, h6⟩
  · intro p e s m args below meth c s₁ B hml hP _
    have hh0 : s₁.heap = s.heap := by rw [B.state]; rfl
    obtain ⟨t, a1, o, b1, b2, b3⟩ := body p e s m args below meth c s₁ B hml hP s₁ hh0 (Stand.of_body B)
    exact ⟨t, o, a1, b1, b2, ⟨b3.1, b3.2⟩⟩

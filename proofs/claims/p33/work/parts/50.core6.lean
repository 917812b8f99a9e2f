/-! MY OWN KIT, six: what constructors make lies side by side -/
def z0 : RI := fun _ => 0
def gGe (q : Nat) : Nat → Prop := fun a => q ≤ a
theorem g_pin {D : va_G} {cl : List vw_C} {ws : va_W} {q q' k : Nat} {e : va_E} {H1 : Heap} (hD : va_D (gGe q) (ws ++ [(q', e)])) (ho : gOrd q ws) (hl : ws.length = k) (hP : va_P D cl (ws ++ [(q', e)]) H1) (hz : H1.size ≤ q + k + 1) : q' = q + k := by
  have hq : (ws ++ [(q', e)])[ws.length]? = some (q', e) := by simp
  have h1 : q ≤ q' := hD.2 _ _ hq
  have h2 : q' < H1.size := (hP _ _ hq).lt
  rcases Nat.lt_or_ge q' (q + k) with h3 | h3
  · exfalso
    have hi : q' - q < ws.length := by omega
    have h4 : ws[q' - q]? = some ws[q' - q] := List.getElem?_eq_getElem hi
    have h5 := gOrd_at ws q _ _ ho h4
    have h6 : (ws ++ [(q', e)])[q' - q]? = some ws[q' - q] := by rw [List.getElem?_append_left hi]; exact h4
    have h7 := hD.1 _ _ _ _ h6 hq (by show (ws[q' - q]).1 = q'; omega)
    omega
  · omega
theorem g_ci {s : State} {a b : ClassId} (h1 : va_RA s a .int) (h2 : va_RA s b .int) : a = b := by
  have e1 : s.vm.findClass _ = some a := h1
  have e2 : s.vm.findClass _ = some b := h2
  exact Option.some.inj (e1.symm.trans e2)
theorem g_cc {s : State} {a b : ClassId} (h1 : va_RA s a .char) (h2 : va_RA s b .char) : a = b := by
  have e1 : s.vm.findClass _ = some a := h1
  have e2 : s.vm.findClass _ = some b := h2
  exact Option.some.inj (e1.symm.trans e2)
theorem g_cz {s : State} {a b : ClassId} (h1 : va_RA s a .boolean) (h2 : va_RA s b .boolean) : a = b := by
  have e1 : s.vm.findClass _ = some a := h1
  have e2 : s.vm.findClass _ = some b := h2
  exact Option.some.inj (e1.symm.trans e2)
theorem g_cj {s : State} {a b : ClassId} (h1 : va_RA s a .long) (h2 : va_RA s b .long) : a = b := by
  have e1 : s.vm.findClass _ = some a := h1
  have e2 : s.vm.findClass _ = some b := h2
  exact Option.some.inj (e1.symm.trans e2)
theorem g_cq {s : State} {a b : ClassId} {C : String} (h1 : va_RA s a (.object C)) (h2 : va_RA s b (.object C)) : a = b := by
  obtain ⟨_, _, _, _, _, e1⟩ := h1
  obtain ⟨_, _, _, _, _, e2⟩ := h2
  exact Option.some.inj (e1.symm.trans e2)
section GS
variable {p : Program} {l : Launch} {e : Env} {R : Room} {s : State} {m : MethodId} {args : Array Value} {below : List Frame} {meth : Method} {c : Code} {H : Heap} {locs : List Loc} {cells slots : Nat} {Q : State → Prop}
theorem g_size {g : JFrame} (k : H.size ≤ s.heap.size + cells → W p l e R s m args below meth c H locs cells slots Q g) : W p l e R s m args below meth c H locs cells slots Q g := fun T hT X => k (by rw [← hT]; exact X.same.2.2.1) T hT X
end GS
/-- a call of a constructor that makes mc cells of ms slots -/
theorem gc_in {p : Program} {l : Launch} {e : Env} {R : Room} {s : State} {m : MethodId} {args : Array Value} {below : List Frame} {meth : Method} {c : Code} {H : Heap} {locs : List Loc} {cells slots : Nat} {Q : State → Prop} {y : MethodName} {bytes cc : ByteArray} {maxL nL n index mc ms k2 n2 : Nat} {ws : List Cond} {rm : Room} {Ts : List Cond} {own : String} {b : Addr} {As rest st0 : List Value} {pc : Nat} {ls : Array Slot} {D : va_G} {tys : List (ClassId × FieldType)} {B B' : Heap → Prop} {A0 A1 : Nat → Prop} {H0 : Heap}
    (S : CallFix p m c cc nL s args Ts own) (hK : va_K D vwCl tys s) (hM : Met l y ws rm (va_Pc (.ref b :: As) (gB D tys B)) (va_Qv (fun _ : Unit => True) (fun _ t => B' t.heap) A1) mc ms A1) (cw : CallB R s args own index y bytes maxL none ws rm mc ms n ∧ y.name = "<init>" ∧ (Cond.instanceMethod y).before args s = true) (hB : B H) (hS : va_S A0 H0 H locs) (hA : ∀ q, A1 q → A0 q) (hn : As.length = n) (hl : ls.size = nL) (hst : st0 = As.reverse ++ .ref b :: rest) (hW : (rest.map fun v => v.category).sum ≤ 8) (hf : cells + mc ≤ R.cells ∧ slots + ms ≤ R.slots) (hk2 : cells + mc = k2) (hn2 : slots + ms = n2) (hdg : decode cc pc = .ok (.invokespecial index, 3))
    (kk : ∀ (H1 : Heap) (locs1 : List Loc), B' H1 → va_S A0 H0 H1 locs1 → H.size ≤ H1.size → (∀ q : Nat, q < H.size → ¬ A1 q → H1[q]? = H[q]?) → W p l e R s m args below meth c H1 locs1 k2 n2 Q (F0 m (pc + 3) ls rest)) : W p l e R s m args below meth c H locs cells slots Q (F0 m pc ls st0) := by
  subst hst; subst hk2; subst hn2
  exact va_callv (va_runI (As := As) (rest := rest) S hM cw ⟨gB_blind, fun U hU hW => ⟨rfl, by rw [hU]; exact hB, va_K.moved hW.alike hK⟩⟩ rfl hn hl rfl (lv_room hW) hdg hf) hS (fun q _ h => hA q h) hA (fun u t H1 locs1 ht hvm hw hB' hz hk hS => kk H1 locs1 (by rw [← ht]; exact hB') hS hz hk)

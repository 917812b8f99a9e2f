/-! MY OWN KIT, eleven: the law's own draw; a call over the constant's facts -/
def fL_draw (L : Nat) (xs : Nat → Int32) (i : Int32) : Option Int32 := if nI L ≤ i then some (((15593033 * i) + 10223) &&& 2147483647) else if i < 0 then none else some ((xs i.toNatClampNeg) &&& 2147483647)
def gDw (b L : Nat) (xs : Nat → Int32) (U : State) : Prop := va_X b L xs U U.heap ∧ b < U.heap.size
theorem gDw_blind {b L : Nat} {xs : Nat → Int32} {av : List Value} : FrameBlind (va_Pc av (gDw b L xs)) := fun a U g mk q => ⟨q.1, va_X.moved (u := U) (U := U.calling g mk a) (Vm.Alike.refl U.vm) q.2.1, q.2.2⟩
theorem draw_in {L : Nat} {i : Int32} (hL : L < 2 ^ 31) (h1 : ¬ nI L ≤ i) (h2 : ¬ i < 0) : vp_in i L := by
  obtain ⟨j, hj, rfl⟩ := nI_of h2
  exact vp_in_nI (Nat.lt_of_not_le (fun z => h1 (nI_le z hj))) (by omega)
set_option maxHeartbeats 4000000 in
theorem kL_draw (l : Launch) {b L : Nat} (xs : Nat → Int32) {i R : Int32} (hL : L < 2 ^ 31) (h : fL_draw L xs i = some R) : Met l yL_draw wsL_draw ({ frames := 0, cells := 0, slots := 0, locals := 0 } : Room) (va_Pc [.ref b, .int i] (gDw b L xs)) (vp_Si (fun r => r = R)) 0 0 (fun _ => False) := by
  refine Met.ofW (cc := cL_draw) (maxL := 2) (ret := (some .int)) (by decide) rfl ?_
  intro p e s m args below meth c s₁ B hml hv
  obtain ⟨rfl, hX, hbl⟩ := hv
  have hx := B.exec
  have hb := B.bytes
  have hr := B.returns
  have hts := atoms_spec (ws := wsL_draw) B.pre
  have hown : s.vm.findClass RL = some m.cls := findClass_of_methodNamed B.named
  have hlocks := B.notSynchronized
  generalize hRM : (headSpec wsL_draw ({ frames := 0, cells := 0, slots := 0, locals := 0 } : Room)).room = RM
  replace hRM : ({ frames := 0, cells := 0, slots := 0, locals := 0 } : Room) = RM := hRM
  subst hRM
  have hl := lv_entry ([.ref b, .int i]) (n := 2) (Nat.le_of_ble_eq_true rfl)
  rw [lg_entry_eq]
  generalize (lg_sl ([.ref b, .int i]) ++ List.replicate (2 - (lg_sl ([.ref b, .int i])).length) Slot.unset).toArray = ls at hl ⊢
  have hl : lv_has ls 2 [(0, .ref b), (1, .int i)] := hl
  have hS : va_S (fun _ => False) s.heap s.heap [] := va_S.rf
  unfold fL_draw at h
  refine lv_iload_n hx hb dL_draw_0 rfl (lv_at hl 1 rfl) ?_
  refine lv_aload_n hx hb dL_draw_1 rfl (lv_at hl 0 rfl) ?_
  refine va_slen hx hb hX hbl (fun z => z) hS dL_draw_2 ?_
  refine lv_icmp_ge (tgt := 12) hx hb dL_draw_3 (by decide) (fun c1 => ?_) (fun c1 => ?_)
  · replace h := (if_pos c1).symm.trans h
    refine lv_ldc (v := 15593033) hx hb hown (hts (.constant RL 7 (15593033)) (by decide +kernel)) dL_draw_12 ?_
    refine lv_iload_n hx hb dL_draw_14 rfl (lv_at hl 1 rfl) ?_
    refine lv_imul hx hb dL_draw_15 ?_
    refine lv_sipush (v := 10223) hx hb dL_draw_16 (by decide) ?_
    refine lv_iadd hx hb dL_draw_19 ?_
    refine lv_ldc (v := 2147483647) hx hb hown (hts (.constant RL 8 (2147483647)) (by decide +kernel)) dL_draw_20 ?_
    refine lv_iand hx hb dL_draw_22 ?_
    have h := Option.some.inj h
    exact W.iret (v := (((15593033 * i) + 10223) &&& 2147483647)) hx hb hr (fun t ht hW => ⟨_, rfl, h, ht⟩) t_nil dL_draw_23
  · replace h := (if_neg c1).symm.trans h
    by_cases c2 : i < 0
    · rw [if_pos c2] at h; cases h
    · replace h := (if_neg c2).symm.trans h
      refine lv_aload_n hx hb dL_draw_6 rfl (lv_at hl 0 rfl) ?_
      refine lv_iload_n hx hb dL_draw_7 rfl (lv_at hl 1 rfl) ?_
      refine va_sld hx hb hX hbl (fun z => z) hS (draw_in hL c1 c2) dL_draw_8 ?_
      refine lv_goto (tgt := 20) hx hb dL_draw_9 (by decide) ?_
      refine lv_ldc (v := 2147483647) hx hb hown (hts (.constant RL 8 (2147483647)) (by decide +kernel)) dL_draw_20 ?_
      refine lv_iand hx hb dL_draw_22 ?_
      have h := Option.some.inj h
      exact W.iret (v := (xs i.toNatClampNeg) &&& 2147483647) hx hb hr (fun t ht hW => ⟨_, rfl, h, ht⟩) t_nil dL_draw_23
theorem gOr_ge {q z : Nat} (hqz : q ≤ z) {a : Nat} (h : gOr (fIv q 201) (fIv z 201) a) : gGe q a := by
  rcases h with y | y
  · exact y.1
  · exact Nat.le_trans hqz y.1
section GL11
variable {p : Program} {l : Launch} {e : Env} {R : Room} {s : State} {m : MethodId} {args : Array Value} {below : List Frame} {meth : Method} {c : Code} {H : Heap} {locs : List Loc} {cells slots : Nat} {Q : State → Prop}
variable {y : MethodName} {bytes cc : ByteArray} {maxL nL n index mc ms k2 n2 : Nat} {ret : Option FieldType} {ws : List Cond} {rm : Room} {Ts : List Cond} {own : String} {As rest st0 : List Value} {pc : Nat} {ls : Array Slot} {D : va_G} {tys : List (ClassId × FieldType)} {B B' : Heap → Prop} {A A0 A1 : Nat → Prop} {H0 : Heap} {t lo ca b L : Nat} {xs : Nat → Int32} {i r : Int32}
theorem gdraw (S : CallFix p m c cc nL s args Ts RL) (hX : va_X b L xs s s.heap) (hbl : b < s.heap.size) (hbA : ¬ A b) (hS : va_S A s.heap H locs) (hL : L < 2 ^ 31) (h : fL_draw L xs i = some r) (hT : GoodIn Ts (va_wsS RL 242 yL_draw wsL_draw)) (hl : ls.size = nL) (hW : (rest.map fun v => v.category).sum ≤ 8) (hf : cells ≤ R.cells ∧ slots ≤ R.slots) (hR : 1 ≤ R.frames ∧ 21 ≤ R.locals) (hdg : decode cc pc = .ok (.invokestatic 242, 3))
    (kk : W p l e R s m args below meth c H locs cells slots Q (F0 m (pc + 3) ls (.int r :: rest))) : W p l e R s m args below meth c H locs cells slots Q (F0 m pc ls (.int i :: .ref b :: rest)) := by
  have hXH : va_X b L xs s H := hX.kept (hS.2.1 b hbl hbA)
  have hbH : b < H.size := Nat.lt_of_lt_of_le hbl hS.1
  have hts := S.2.2.2.2
  refine vp_callSi (W.runS (As := [.ref b, .int i]) (rest := rest) S (kL_draw l xs hL h) (va_cwS 2 hts hT rfl rfl rfl (by decide +kernel) ⟨hR.1, hR.2⟩) ⟨gDw_blind, fun U hU hW => ⟨rfl, by show va_X b L xs U U.heap ∧ b < U.heap.size; rw [hU]; exact ⟨va_X.moved hW.alike hXH, hbH⟩⟩⟩ rfl rfl hl rfl (lv_room hW) hdg hf) (fun r hr9 => ?_)
  subst hr9
  exact kk
theorem gwsC_i {v : Int32} (S : CallFix p m c cc nL s args Ts own) (hC : gChr lo ca s H) (hE : gEnw t lo s H) (hK : va_K D vwCl tys s) (hM : Met l y ws rm (va_Pc As (gBwC D tys t lo B)) (va_Qi (fun r (_ : Unit) => r = v) (fun _ t => B' t.heap) A1) mc ms A1) (cw : CallB R s args own index y bytes maxL ret ws rm mc ms n ∧ (Cond.static y).before args s = true) (hB : B H) (hS : va_S A0 H0 H locs) (hA : ∀ q, A1 q → A0 q) (hn : As.length = n) (hl : ls.size = nL) (hst : st0 = As.reverse ++ rest) (hW : (rest.map fun v => v.category).sum ≤ 8) (hf : cells + mc ≤ R.cells ∧ slots + ms ≤ R.slots) (hk2 : cells + mc = k2) (hn2 : slots + ms = n2) (hdg : decode cc pc = .ok (.invokestatic index, 3))
    (kk : ∀ (H1 : Heap) (locs1 : List Loc), B' H1 → va_S A0 H0 H1 locs1 → H.size ≤ H1.size → (∀ q : Nat, q < H.size → ¬ A1 q → H1[q]? = H[q]?) → W p l e R s m args below meth c H1 locs1 k2 n2 Q (F0 m (pc + 3) ls (.int v :: rest))) : W p l e R s m args below meth c H locs cells slots Q (F0 m pc ls st0) := by
  subst hst; subst hk2; subst hn2
  exact va_calli (va_runS (As := As) (rest := rest) S hM cw ⟨gBwC_blind, fun U hU hW => ⟨rfl, ⟨by rw [hU]; exact hB, va_K.moved hW.alike hK⟩, by rw [hU]; exact hE.warm hW, ca, by rw [hU]; exact hC.warm hW⟩⟩ rfl hn hl rfl (lv_room hW) hdg hf) hS (fun q _ h => hA q h) hA (fun r u t H1 locs1 ht hvm hw hB' hz hk hS => by subst hw; exact kk H1 locs1 (by rw [← ht]; exact hB') hS hz hk)
end GL11

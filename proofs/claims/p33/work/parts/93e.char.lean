/-! MY OWN KIT, ten: String.charAt of the constant "@gwx" -/
abbrev gPre : String := "jdk/internal/util/Preconditions"
abbrev gBiF : String := "Ljava/util/function/BiFunction;"
def chT (k : Nat) : Int32 := ([64, 103, 119, 120] : List Int32).getD k 0
theorem chT_ok {k : Nat} (hk : k < 4) : ((chT k &&& 255).toUInt32 % 65536).toInt32 = chT k ∧ narrow .char (.int (chT k)) = .int (chT k) := by
  rcases (show k = 0 ∨ k = 1 ∨ k = 2 ∨ k = 3 by omega) with rfl | rfl | rfl | rfl <;> exact ⟨by decide +kernel, by rfl⟩
theorem chT_of {i R : Int32} (h : fL_char i = some R) : ∃ k, k < 4 ∧ i = nI k ∧ R = chT k := by
  unfold fL_char at h
  by_cases h0 : i = 0
  · rw [if_pos h0] at h; exact ⟨0, by decide, h0, (Option.some.inj h).symm⟩
  · rw [if_neg h0] at h
    by_cases h1 : i = 1
    · rw [if_pos h1] at h; exact ⟨1, by decide, h1, (Option.some.inj h).symm⟩
    · rw [if_neg h1] at h
      by_cases h2 : i = 2
      · rw [if_pos h2] at h; exact ⟨2, by decide, h2, (Option.some.inj h).symm⟩
      · rw [if_neg h2] at h
        by_cases h3 : i = 3
        · rw [if_pos h3] at h; exact ⟨3, by decide, h3, (Option.some.inj h).symm⟩
        · rw [if_neg h3] at h; cases h
def gCv (lo v : Nat) (U : State) (H : Heap) : Prop := va_Zq gPre "SIOOBE_FORMATTER" gBiF (fun q => lo ≤ q) U H ∧ va_T .byte v 4 (fun j => .int (chT j)) (fun q => lo ≤ q) U H
theorem gCv.mv {lo v : Nat} {u U : State} {H : Heap} (hvm : u.vm.Alike U.vm) (h : gCv lo v u H) : gCv lo v U H := ⟨va_Zq.moved hvm h.1, va_T.moved hvm h.2⟩
def gCh (lo a : Nat) (U : State) (H : Heap) : Prop := va_Z RJ0 "COMPACT_STRINGS" "Z" (.int 1) (fun q => lo ≤ q) U H ∧ va_Zq gPre "SIOOBE_FORMATTER" gBiF (fun q => lo ≤ q) U H ∧ ∃ v, vk_S 1 [4] [[64, 103, 119, 120]] (fun _ => a) (fun _ => v) (fun q => lo ≤ q) U H
theorem gCh.mv {lo a : Nat} {u U : State} {H : Heap} (hvm : u.vm.Alike U.vm) (h : gCh lo a u H) : gCh lo a U H := ⟨va_Z.moved hvm h.1, va_Zq.moved hvm h.2.1, h.2.2.elim fun v hv => ⟨v, hv.moved hvm⟩⟩
theorem gCh.now {lo a : Nat} {s : State} {A : Nat → Prop} {H : Heap} {locs : List Loc} (h : gCh lo a s s.heap) (hS : va_S A s.heap H locs) (hlo : ∀ q, A q → lo ≤ q) : gCh lo a s H := by
  have hq : ∀ q : Nat, q < s.heap.size → ¬ lo ≤ q → H[q]? = s.heap[q]? := fun q h1 h2 => hS.2.1 q h1 (fun z => h2 (hlo q z))
  exact ⟨h.1.kept hq, va_Zq.kept h.2.1 hq, h.2.2.elim fun v hv => ⟨v, hv.kept hq⟩⟩
def gChr (lo a : Nat) (U : State) (H : Heap) : Prop := vk_R RL 205 "@gwx" a U ∧ gCh lo a U H
theorem gChr.warm {lo a : Nat} {u U : State} {H : Heap} (hW : u.WarmedH U.vm) (h : gChr lo a u H) : gChr lo a U H := ⟨h.1.warm hW, h.2.mv hW.alike⟩
theorem gChr.now {lo a : Nat} {s : State} {A : Nat → Prop} {H : Heap} {locs : List Loc} (h : gChr lo a s s.heap) (hS : va_S A s.heap H locs) (hlo : ∀ q, A q → lo ≤ q) : gChr lo a s H := ⟨h.1, h.2.now hS hlo⟩
def gBwC (D : va_G) (tys : List (ClassId × FieldType)) (t lo : Nat) (B : Heap → Prop) : State → Prop := fun U => (B U.heap ∧ va_K D vwCl tys U) ∧ gEnw t lo U U.heap ∧ ∃ a, gChr lo a U U.heap
theorem gBwC_blind {D : va_G} {tys : List (ClassId × FieldType)} {t lo : Nat} {B : Heap → Prop} {av : List Value} : FrameBlind (va_Pc av (gBwC D tys t lo B)) := fun a U g mk q =>
  ⟨q.1, (gBw_blind (av := av) a U g mk ⟨q.1, q.2.1, q.2.2.1⟩).2.1, (gBw_blind (av := av) a U g mk ⟨q.1, q.2.1, q.2.2.1⟩).2.2, q.2.2.2.elim fun b hb => ⟨b, vk_R.same (u := U) (U := U.calling g mk a) rfl hb.1, gCh.mv (u := U) (U := U.calling g mk a) (Vm.Alike.refl U.vm) hb.2⟩⟩
def gSv : Array Value → State → Outcome → State → Prop := fun _ st o t => o = .returned none ∧ t.heap = st.heap
section CHA
variable {p : Program} {l : Launch} {e : Env} {R : Room} {s : State} {m : MethodId} {args : Array Value} {below : List Frame} {meth : Method} {c : Code} {H : Heap} {locs : List Loc} {cells slots : Nat} {Q : State → Prop} {pc : Nat} {ls : Array Slot} {rest : List Value}
theorem gcallSv {a : Array Value} {st0 : List Value} (hr : va_Run p l e R s m args below meth c H locs cells slots 0 0 (F0 m pc ls st0) rest (gSv a) (fun _ => False)) (kk : W p l e R s m args below meth c H locs cells slots Q (F0 m (pc + 3) ls rest)) : W p l e R s m args below meth c H locs cells slots Q (F0 m pc ls st0) := by
  intro T hT X
  obtain ⟨v, st₀, t, T', L, h0, X', hL, e1, e2, ⟨hv, hh⟩, st⟩ := hr T hT X
  cases hv
  obtain ⟨t2, a1, b1⟩ := kk T' (by rw [e1, hh, h0]) (Stand.forget X' (fun q h => (hL q h).elim))
  exact ⟨t2, st t2 a1, b1⟩
end CHA
theorem kJ3_checkIndex_8e157_n (l : Launch) {x n : Int32} (h0 : ¬ x < 0) (h1 : x < n) : Met l yJ3_checkIndex_8e157 wsJ3_checkIndex_8e157 ({ frames := 0, cells := 0, slots := 0, locals := 0 } : Room) (va_Pc [.int x, .int n, .null] (fun _ => True)) (vp_Si (fun r => r = x)) 0 0 (fun _ => False) := by
  refine Met.ofW (cc := cJ3_checkIndex_8e157) (maxL := 3) (ret := (some .int)) (by decide) rfl ?_
  intro p e s m args below meth c s₁ B hml hv
  obtain ⟨rfl, -⟩ := hv
  have hx := B.exec
  have hb := B.bytes
  have hr := B.returns
  have hts := atoms_spec (ws := wsJ3_checkIndex_8e157) B.pre
  have hown : s.vm.findClass RJ3 = some m.cls := findClass_of_methodNamed B.named
  have hlocks := B.notSynchronized
  generalize hRM : (headSpec wsJ3_checkIndex_8e157 ({ frames := 0, cells := 0, slots := 0, locals := 0 } : Room)).room = RM
  replace hRM : ({ frames := 0, cells := 0, slots := 0, locals := 0 } : Room) = RM := hRM
  subst hRM
  have hl := lv_entry ([.int x, .int n, .null]) (n := 3) (Nat.le_of_ble_eq_true rfl)
  rw [lg_entry_eq]
  generalize (lg_sl ([.int x, .int n, .null]) ++ List.replicate (3 - (lg_sl ([.int x, .int n, .null])).length) Slot.unset).toArray = ls at hl ⊢
  have hl : lv_has ls 3 [(0, .int x), (1, .int n), (2, .null)] := hl
  refine lv_iload_n hx hb dJ3_checkIndex_8e157_0 rfl (lv_at hl 0 rfl) ?_
  refine lv_if_lt (tgt := 9) hx hb dJ3_checkIndex_8e157_1 (by decide) (fun c => absurd c h0) (fun _ => ?_)
  refine lv_iload_n hx hb dJ3_checkIndex_8e157_4 rfl (lv_at hl 0 rfl) ?_
  refine lv_iload_n hx hb dJ3_checkIndex_8e157_5 rfl (lv_at hl 1 rfl) ?_
  refine lv_icmp_lt (tgt := 16) hx hb dJ3_checkIndex_8e157_6 (by decide) (fun _ => ?_) (fun c => absurd h1 c)
  refine lv_iload_n hx hb dJ3_checkIndex_8e157_16 rfl (lv_at hl 0 rfl) ?_
  exact W.iret (v := x) hx hb hr (fun t ht hW => ⟨_, rfl, rfl, ht⟩) t_nil dJ3_checkIndex_8e157_17
theorem kJ3_checkIndex_8e157_r (l : Launch) {x n : Int32} {f : Nat} (h0 : ¬ x < 0) (h1 : x < n) : Met l yJ3_checkIndex_8e157 wsJ3_checkIndex_8e157 ({ frames := 0, cells := 0, slots := 0, locals := 0 } : Room) (va_Pc [.int x, .int n, (.ref f)] (fun _ => True)) (vp_Si (fun r => r = x)) 0 0 (fun _ => False) := by
  refine Met.ofW (cc := cJ3_checkIndex_8e157) (maxL := 3) (ret := (some .int)) (by decide) rfl ?_
  intro p e s m args below meth c s₁ B hml hv
  obtain ⟨rfl, -⟩ := hv
  have hx := B.exec
  have hb := B.bytes
  have hr := B.returns
  have hts := atoms_spec (ws := wsJ3_checkIndex_8e157) B.pre
  have hown : s.vm.findClass RJ3 = some m.cls := findClass_of_methodNamed B.named
  have hlocks := B.notSynchronized
  generalize hRM : (headSpec wsJ3_checkIndex_8e157 ({ frames := 0, cells := 0, slots := 0, locals := 0 } : Room)).room = RM
  replace hRM : ({ frames := 0, cells := 0, slots := 0, locals := 0 } : Room) = RM := hRM
  subst hRM
  have hl := lv_entry ([.int x, .int n, (.ref f)]) (n := 3) (Nat.le_of_ble_eq_true rfl)
  rw [lg_entry_eq]
  generalize (lg_sl ([.int x, .int n, (.ref f)]) ++ List.replicate (3 - (lg_sl ([.int x, .int n, (.ref f)])).length) Slot.unset).toArray = ls at hl ⊢
  have hl : lv_has ls 3 [(0, .int x), (1, .int n), (2, (.ref f))] := hl
  refine lv_iload_n hx hb dJ3_checkIndex_8e157_0 rfl (lv_at hl 0 rfl) ?_
  refine lv_if_lt (tgt := 9) hx hb dJ3_checkIndex_8e157_1 (by decide) (fun c => absurd c h0) (fun _ => ?_)
  refine lv_iload_n hx hb dJ3_checkIndex_8e157_4 rfl (lv_at hl 0 rfl) ?_
  refine lv_iload_n hx hb dJ3_checkIndex_8e157_5 rfl (lv_at hl 1 rfl) ?_
  refine lv_icmp_lt (tgt := 16) hx hb dJ3_checkIndex_8e157_6 (by decide) (fun _ => ?_) (fun c => absurd h1 c)
  refine lv_iload_n hx hb dJ3_checkIndex_8e157_16 rfl (lv_at hl 0 rfl) ?_
  exact W.iret (v := x) hx hb hr (fun t ht hW => ⟨_, rfl, rfl, ht⟩) t_nil dJ3_checkIndex_8e157_17
def gS1 (lo : Nat) (U : State) : Prop := va_Zq gPre "SIOOBE_FORMATTER" gBiF (fun q => lo ≤ q) U U.heap
theorem gT_blind {av : List Value} : FrameBlind (va_Pc av (fun _ => True)) := fun a U g mk q => ⟨q.1, trivial⟩
theorem gS1_blind {lo : Nat} {av : List Value} : FrameBlind (va_Pc av (gS1 lo)) := fun a U g mk q => ⟨q.1, va_Zq.moved (u := U) (U := U.calling g mk a) (Vm.Alike.refl U.vm) q.2⟩
theorem gCv_blind {lo v : Nat} {av : List Value} : FrameBlind (va_Pc av (fun U => gCv lo v U U.heap)) := fun a U g mk q => ⟨q.1, gCv.mv (u := U) (U := U.calling g mk a) (Vm.Alike.refl U.vm) q.2⟩
theorem gCh_blind {lo b : Nat} {av : List Value} : FrameBlind (va_Pc av (fun U => gCh lo b U U.heap)) := fun a U g mk q => ⟨q.1, gCh.mv (u := U) (U := U.calling g mk a) (Vm.Alike.refl U.vm) q.2⟩
theorem kJ0_checkIndex_df160 (l : Launch) (lo : Nat) {x n : Int32} (h0 : ¬ x < 0) (h1 : x < n) : Met l yJ0_checkIndex_df160 wsJ0_checkIndex_df160 ({ frames := 1, cells := 0, slots := 0, locals := 22 } : Room) (va_Pc [.int x, .int n] (gS1 lo)) gSv 0 0 (fun _ => False) := by
  refine Met.ofW (cc := cJ0_checkIndex_df160) (maxL := 2) (ret := none) (by decide) rfl ?_
  intro p e s m args below meth c s₁ B hml hv
  obtain ⟨rfl, hv⟩ := hv
  have hx := B.exec
  have hb := B.bytes
  have hr := B.returns
  have hts := atoms_spec (ws := wsJ0_checkIndex_df160) B.pre
  have hown : s.vm.findClass RJ0 = some m.cls := findClass_of_methodNamed B.named
  have hlocks := B.notSynchronized
  generalize hRM : (headSpec wsJ0_checkIndex_df160 ({ frames := 1, cells := 0, slots := 0, locals := 22 } : Room)).room = RM
  replace hRM : ({ frames := 1, cells := 0, slots := 0, locals := 22 } : Room) = RM := hRM
  subst hRM
  have hl := lv_entry ([.int x, .int n]) (n := 2) (Nat.le_of_ble_eq_true rfl)
  rw [lg_entry_eq]
  generalize (lg_sl ([.int x, .int n]) ++ List.replicate (2 - (lg_sl ([.int x, .int n])).length) Slot.unset).toArray = ls at hl ⊢
  have hl : lv_has ls 2 [(0, .int x), (1, .int n)] := hl
  have hS : va_S (fun q => lo ≤ q) s.heap s.heap [] := va_S.rf
  have hf := hts (.fieldLink RJ0 1053 gPre "SIOOBE_FORMATTER" gBiF) (by decide +kernel)
  refine lv_iload_n hx hb dJ0_checkIndex_df160_0 rfl (lv_at hl 0 rfl) ?_
  refine lv_iload_n hx hb dJ0_checkIndex_df160_1 rfl (lv_at hl 1 rfl) ?_
  rcases hv with hv | ⟨f, hv⟩
  · refine va_gets hx hb hv hS hown hf (fun _ h => h) dJ0_checkIndex_df160_2 ?_
    refine vp_callSi (W.runS (As := [.int x, .int n, .null]) (rest := []) ⟨hx, hb, hml, hown, hts⟩ (kJ3_checkIndex_8e157_n l h0 h1) (va_cwS 3 hts gJ0_checkIndex_df160_J3_checkIndex_8e157 rfl rfl rfl (by decide +kernel) ⟨Nat.le_of_ble_eq_true rfl, Nat.le_of_ble_eq_true rfl⟩) ⟨gT_blind, fun U hU hW => ⟨rfl, trivial⟩⟩ rfl rfl hl.1 rfl (lv_room (Nat.le_of_ble_eq_true rfl)) dJ0_checkIndex_df160_5 ⟨Nat.zero_le _, Nat.zero_le _⟩) (fun r hr9 => ?_)
    refine lv_pop hx hb dJ0_checkIndex_df160_8 rfl ?_
    exact W.vret hx hb hr (fun t ht hW => ⟨rfl, ht⟩) t_nil dJ0_checkIndex_df160_9
  · refine va_gets hx hb hv hS hown hf (fun _ h => h) dJ0_checkIndex_df160_2 ?_
    refine vp_callSi (W.runS (As := [.int x, .int n, .ref f]) (rest := []) ⟨hx, hb, hml, hown, hts⟩ (kJ3_checkIndex_8e157_r l h0 h1) (va_cwS 3 hts gJ0_checkIndex_df160_J3_checkIndex_8e157 rfl rfl rfl (by decide +kernel) ⟨Nat.le_of_ble_eq_true rfl, Nat.le_of_ble_eq_true rfl⟩) ⟨gT_blind, fun U hU hW => ⟨rfl, trivial⟩⟩ rfl rfl hl.1 rfl (lv_room (Nat.le_of_ble_eq_true rfl)) dJ0_checkIndex_df160_5 ⟨Nat.zero_le _, Nat.zero_le _⟩) (fun r hr9 => ?_)
    refine lv_pop hx hb dJ0_checkIndex_df160_8 rfl ?_
    exact W.vret hx hb hr (fun t ht hW => ⟨rfl, ht⟩) t_nil dJ0_checkIndex_df160_9
theorem kJ1_charAt_3b067 (l : Launch) (lo v : Nat) {k : Nat} (hk : k < 4) : Met l yJ1_charAt_3b067 wsJ1_charAt_3b067 ({ frames := 2, cells := 0, slots := 0, locals := 43 } : Room) (va_Pc [.ref v, .int (nI k)] (fun U => gCv lo v U U.heap)) (vp_Si (fun r => r = chT k)) 0 0 (fun _ => False) := by
  refine Met.ofW (cc := cJ1_charAt_3b067) (maxL := 2) (ret := (some .char)) (by decide) rfl ?_
  intro p e s m args below meth c s₁ B hml hv
  obtain ⟨rfl, hv⟩ := hv
  have hx := B.exec
  have hb := B.bytes
  have hr := B.returns
  have hts := atoms_spec (ws := wsJ1_charAt_3b067) B.pre
  have hown : s.vm.findClass RJ1 = some m.cls := findClass_of_methodNamed B.named
  have hlocks := B.notSynchronized
  generalize hRM : (headSpec wsJ1_charAt_3b067 ({ frames := 2, cells := 0, slots := 0, locals := 43 } : Room)).room = RM
  replace hRM : ({ frames := 2, cells := 0, slots := 0, locals := 43 } : Room) = RM := hRM
  subst hRM
  have hl := lv_entry ([.ref v, .int (nI k)]) (n := 2) (Nat.le_of_ble_eq_true rfl)
  rw [lg_entry_eq]
  generalize (lg_sl ([.ref v, .int (nI k)]) ++ List.replicate (2 - (lg_sl ([.ref v, .int (nI k)])).length) Slot.unset).toArray = ls at hl ⊢
  have hl : lv_has ls 2 [(0, .ref v), (1, .int (nI k))] := hl
  have hS : va_S (fun q => lo ≤ q) s.heap s.heap [] := va_S.rf
  obtain ⟨ok1, ok2⟩ := chT_ok hk
  refine lv_iload_n hx hb dJ1_charAt_3b067_0 rfl (lv_at hl 1 rfl) ?_
  refine lv_aload_n hx hb dJ1_charAt_3b067_1 rfl (lv_at hl 0 rfl) ?_
  refine va_tlen hx hb hv.2 hS (v := 4) rfl dJ1_charAt_3b067_2 ?_
  refine gcallSv (va_runS (As := [.int (nI k), .int 4]) (rest := []) ⟨hx, hb, hml, hown, hts⟩ (kJ0_checkIndex_df160 l lo (nI_pos (by omega)) (nI_lt (b := 4) hk (by decide))) (va_cwS 2 hts gJ1_charAt_3b067_J0_checkIndex_df160 rfl rfl rfl (by decide +kernel) ⟨Nat.le_of_ble_eq_true rfl, Nat.le_of_ble_eq_true rfl⟩) ⟨gS1_blind, fun U hU hW => ⟨rfl, by show va_Zq _ _ _ _ _ _; rw [hU]; exact va_Zq.moved hW.alike hv.1⟩⟩ rfl rfl hl.1 rfl (lv_room (Nat.le_of_ble_eq_true rfl)) dJ1_charAt_3b067_3 ⟨Nat.zero_le _, Nat.zero_le _⟩) ?_
  refine lv_aload_n hx hb dJ1_charAt_3b067_6 rfl (lv_at hl 0 rfl) ?_
  refine lv_iload_n hx hb dJ1_charAt_3b067_7 rfl (lv_at hl 1 rfl) ?_
  refine va_tb hx hb hv.2 hS (vp_in_nI hk (by decide)) (v := .int (chT k)) (by rw [nI_clamp (by omega)]) dJ1_charAt_3b067_8 ?_
  refine lv_sipush (v := 255) hx hb dJ1_charAt_3b067_9 (by decide) ?_
  refine lv_iand hx hb dJ1_charAt_3b067_12 ?_
  refine lv_i2c (v := chT k) hx hb dJ1_charAt_3b067_13 ok1 ?_
  exact W.zret (ty := .char) (v := chT k) hx hb hr ok2 (fun t ht hW => ⟨_, rfl, rfl, ht⟩) t_nil dJ1_charAt_3b067_14
theorem kJ0_isLatin1_aae02 (l : Launch) (lo a : Nat) : Met l yJ0_isLatin1_aae02 wsJ0_isLatin1_aae02 ({ frames := 0, cells := 0, slots := 0, locals := 0 } : Room) (va_Pc [.ref a] (fun U => gCh lo a U U.heap)) (vp_Si (fun r => r = 1)) 0 0 (fun _ => False) := by
  refine Met.ofW (cc := cJ0_isLatin1_aae02) (maxL := 1) (ret := (some .boolean)) (by decide) rfl ?_
  intro p e s m args below meth c s₁ B hml hv
  obtain ⟨rfl, hv⟩ := hv
  have hx := B.exec
  have hb := B.bytes
  have hr := B.returns
  have hts := atoms_spec (ws := wsJ0_isLatin1_aae02) B.pre
  have hown : s.vm.findClass RJ0 = some m.cls := findClass_of_methodNamed B.named
  have hlocks := B.notSynchronized
  generalize hRM : (headSpec wsJ0_isLatin1_aae02 ({ frames := 0, cells := 0, slots := 0, locals := 0 } : Room)).room = RM
  replace hRM : ({ frames := 0, cells := 0, slots := 0, locals := 0 } : Room) = RM := hRM
  subst hRM
  have hl := lv_entry ([.ref a]) (n := 1) (Nat.le_of_ble_eq_true rfl)
  rw [lg_entry_eq]
  generalize (lg_sl ([.ref a]) ++ List.replicate (1 - (lg_sl ([.ref a])).length) Slot.unset).toArray = ls at hl ⊢
  have hl : lv_has ls 1 [(0, .ref a)] := hl
  have hS : va_S (fun q => lo ≤ q) s.heap s.heap [] := va_S.rf
  obtain ⟨h1, h2, v, h3⟩ := hv
  have hf := hts (.fieldLink RJ0 38 RJ0 "COMPACT_STRINGS" "Z") (by decide +kernel)
  have hg := hts (.fieldLink RJ0 15 RJ0 "coder" "B") (by decide +kernel)
  refine va_gets hx hb h1 hS hown hf (fun _ h => h) dJ0_isLatin1_aae02_0 ?_
  refine lv_if_eq (tgt := 17) hx hb dJ0_isLatin1_aae02_3 (by decide) (fun c => absurd c (by decide)) (fun _ => ?_)
  refine lv_aload_n hx hb dJ0_isLatin1_aae02_6 rfl (lv_at hl 0 rfl) ?_
  refine vk_getf hx hb (h3.1 0 (by decide)).2.1 hS hown hg (fun _ h => h) dJ0_isLatin1_aae02_7 ?_
  refine lv_if_ne (tgt := 17) hx hb dJ0_isLatin1_aae02_10 (by decide) (fun c => absurd rfl c) (fun _ => ?_)
  refine lv_iconst (v := 1) hx hb dJ0_isLatin1_aae02_13 (by decide) ?_
  refine lv_goto (tgt := 18) hx hb dJ0_isLatin1_aae02_14 (by decide) ?_
  exact W.zret (v := 1) hx hb hr rfl (fun t ht hW => ⟨_, rfl, rfl, ht⟩) t_nil dJ0_isLatin1_aae02_18
theorem kJ0_charAt_5068e (l : Launch) (lo a : Nat) {k : Nat} (hk : k < 4) : Met l yJ0_charAt_5068e wsJ0_charAt_5068e ({ frames := 3, cells := 0, slots := 0, locals := 64 } : Room) (va_Pc [.ref a, .int (nI k)] (fun U => gCh lo a U U.heap)) (vp_Si (fun r => r = chT k)) 0 0 (fun _ => False) := by
  refine Met.ofW (cc := cJ0_charAt_5068e) (maxL := 2) (ret := (some .char)) (by decide) rfl ?_
  intro p e s m args below meth c s₁ B hml hv
  obtain ⟨rfl, hv⟩ := hv
  have hx := B.exec
  have hb := B.bytes
  have hr := B.returns
  have hts := atoms_spec (ws := wsJ0_charAt_5068e) B.pre
  have hown : s.vm.findClass RJ0 = some m.cls := findClass_of_methodNamed B.named
  have hlocks := B.notSynchronized
  generalize hRM : (headSpec wsJ0_charAt_5068e ({ frames := 3, cells := 0, slots := 0, locals := 64 } : Room)).room = RM
  replace hRM : ({ frames := 3, cells := 0, slots := 0, locals := 64 } : Room) = RM := hRM
  subst hRM
  have hl := lv_entry ([.ref a, .int (nI k)]) (n := 2) (Nat.le_of_ble_eq_true rfl)
  rw [lg_entry_eq]
  generalize (lg_sl ([.ref a, .int (nI k)]) ++ List.replicate (2 - (lg_sl ([.ref a, .int (nI k)])).length) Slot.unset).toArray = ls at hl ⊢
  have hl : lv_has ls 2 [(0, .ref a), (1, .int (nI k))] := hl
  have hS : va_S (fun q => lo ≤ q) s.heap s.heap [] := va_S.rf
  have hv0 := hv
  obtain ⟨h1, h2, v, h3⟩ := hv
  have hg := hts (.fieldLink RJ0 9 RJ0 "value" "[B") (by decide +kernel)
  refine lv_aload_n hx hb dJ0_charAt_5068e_0 rfl (lv_at hl 0 rfl) ?_
  refine vp_callSi (W.runV (As := []) (rest := []) ⟨hx, hb, hml, hown, hts⟩ (kJ0_isLatin1_aae02 l lo a) (cwV 0 hts gJ0_charAt_5068e_J0_isLatin1_aae02 rfl rfl rfl (by decide +kernel) ⟨Nat.le_of_ble_eq_true rfl, Nat.le_of_ble_eq_true rfl⟩) ⟨gCh_blind, vk_recv h3 (by decide : 0 < 1) hS, fun U hU hW => ⟨rfl, by show gCh lo a U U.heap; rw [hU]; exact hv0.mv hW.alike⟩⟩ rfl rfl hl.1 rfl (lv_room (Nat.le_of_ble_eq_true rfl)) dJ0_charAt_5068e_1 ⟨Nat.zero_le _, Nat.zero_le _⟩) (fun r hr9 => ?_)
  subst hr9
  refine lv_if_eq (tgt := 16) hx hb dJ0_charAt_5068e_4 (by decide) (fun c => absurd c (by decide)) (fun _ => ?_)
  refine lv_aload_n hx hb dJ0_charAt_5068e_7 rfl (lv_at hl 0 rfl) ?_
  refine vk_getf hx hb (h3.1 0 (by decide)).2.2.1 hS hown hg (fun _ h => h) dJ0_charAt_5068e_8 ?_
  refine lv_iload_n hx hb dJ0_charAt_5068e_11 rfl (lv_at hl 1 rfl) ?_
  refine vp_callSi (W.runS (As := [.ref v, .int (nI k)]) (rest := []) ⟨hx, hb, hml, hown, hts⟩ (kJ1_charAt_3b067 l lo v hk) (va_cwS 2 hts gJ0_charAt_5068e_J1_charAt_3b067 rfl rfl rfl (by decide +kernel) ⟨Nat.le_of_ble_eq_true rfl, Nat.le_of_ble_eq_true rfl⟩) ⟨gCv_blind, fun U hU hW => ⟨rfl, by show gCv lo v U U.heap; rw [hU]; exact ⟨va_Zq.moved hW.alike h2, va_T.moved hW.alike (h3.1 0 (by decide)).2.2.2⟩⟩⟩ rfl rfl hl.1 rfl (lv_room (Nat.le_of_ble_eq_true rfl)) dJ0_charAt_5068e_12 ⟨Nat.zero_le _, Nat.zero_le _⟩) (fun r hr9 => ?_)
  subst hr9
  exact W.zret (ty := .char) (v := chT k) hx hb hr (chT_ok hk).2 (fun t ht hW => ⟨_, rfl, rfl, ht⟩) t_nil dJ0_charAt_5068e_15
section CHB
variable {p : Program} {l : Launch} {e : Env} {R : Room} {s : State} {m : MethodId} {args : Array Value} {below : List Frame} {meth : Method} {c : Code} {H : Heap} {locs : List Loc} {cells slots : Nat} {Q : State → Prop} {pc : Nat} {ls : Array Slot} {rest : List Value} {cc : ByteArray} {nL : Nat} {Ts : List Cond} {A : Nat → Prop} {lo a : Nat} {i v : Int32}
theorem gcharAt (S : CallFix p m c cc nL s args Ts RL) (hCh : gChr lo a s s.heap) (hS : va_S A s.heap H locs) (hlo : ∀ q, A q → lo ≤ q) (h : fL_char i = some v) (hT : GoodIn Ts (wsV RL 207 RJ0 yJ0_charAt_5068e wsJ0_charAt_5068e)) (hl : ls.size = nL) (hW : (rest.map fun v => v.category).sum ≤ 8) (hf : cells ≤ R.cells ∧ slots ≤ R.slots) (hR : 4 ≤ R.frames ∧ 85 ≤ R.locals) (hdg : decode cc pc = .ok (.invokevirtual 207, 3))
    (kk : W p l e R s m args below meth c H locs cells slots Q (F0 m (pc + 3) ls (.int v :: rest))) : W p l e R s m args below meth c H locs cells slots Q (F0 m pc ls (.int i :: .ref a :: rest)) := by
  obtain ⟨k, hk, rfl, rfl⟩ := chT_of h
  have hC := hCh.2.now hS hlo
  obtain ⟨h1, h2, v, h3⟩ := hCh.2
  have hts := S.2.2.2.2
  refine vp_callSi (W.runV (As := [.int (nI k)]) (rest := rest) S (kJ0_charAt_5068e l lo a hk) (cwV 1 hts hT rfl rfl rfl (by decide +kernel) ⟨hR.1, hR.2⟩) ⟨gCh_blind, vk_recv (i := 0) (h3.narrow hlo) (by decide) hS, fun U hU hW => ⟨rfl, by show gCh lo a U U.heap; rw [hU]; exact hC.mv hW.alike⟩⟩ rfl rfl hl rfl (lv_room hW) hdg hf) (fun r hr9 => ?_)
  subst hr9
  exact kk
end CHB

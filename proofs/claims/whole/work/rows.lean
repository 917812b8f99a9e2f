section
-- ===== PART A: goes FIRST, ahead of the names: the tables' words, and 'selects' of the private methods out of them =====
/-- a private method of a class that the tables say can be made, by its rows of tables_1 -/
def lw_okq (q : MethodName × Nat) : Prop := (q.1.cls ≠ "java/lang/invoke/MethodHandle" ∧ q.1.cls ≠ "java/lang/invoke/VarHandle") ∧ Cond.instantiable q.1.cls q.2 ∈ tables_1 ∧ Cond.privateMethod q.1 ∈ tables_1 ∧ Cond.instanceMethod q.1 ∈ tables_1
theorem lw_p0 : lw_okq (⟨"GripInspector$LiftText", "readHead", "()Z"⟩, 3) := ⟨⟨by decide +kernel, by decide +kernel⟩, List.mem_of_getElem? (i := 85) (by decide +kernel), List.mem_of_getElem? (i := 183) (by decide +kernel), List.mem_of_getElem? (i := 184) (by decide +kernel)⟩
theorem lw_p1 : lw_okq (⟨"GripInspector$LiftText", "readPair", "(IIZ)I"⟩, 3) := ⟨⟨by decide +kernel, by decide +kernel⟩, List.mem_of_getElem? (i := 85) (by decide +kernel), List.mem_of_getElem? (i := 191) (by decide +kernel), List.mem_of_getElem? (i := 192) (by decide +kernel)⟩
theorem lw_p2 : lw_okq (⟨"GripInspector$LiftText", "isBegin", "(IIIZ)Z"⟩, 3) := ⟨⟨by decide +kernel, by decide +kernel⟩, List.mem_of_getElem? (i := 85) (by decide +kernel), List.mem_of_getElem? (i := 195) (by decide +kernel), List.mem_of_getElem? (i := 196) (by decide +kernel)⟩
theorem lw_p3 : lw_okq (⟨"GripInspector$LiftText", "isAllowed", "(IIIZ)Z"⟩, 3) := ⟨⟨by decide +kernel, by decide +kernel⟩, List.mem_of_getElem? (i := 85) (by decide +kernel), List.mem_of_getElem? (i := 199) (by decide +kernel), List.mem_of_getElem? (i := 200) (by decide +kernel)⟩
theorem lw_p4 : lw_okq (⟨"GripInspector$LiftText", "readDigit", "(II)I"⟩, 3) := ⟨⟨by decide +kernel, by decide +kernel⟩, List.mem_of_getElem? (i := 85) (by decide +kernel), List.mem_of_getElem? (i := 209) (by decide +kernel), List.mem_of_getElem? (i := 210) (by decide +kernel)⟩
theorem lw_p5 : lw_okq (⟨"GripInspector$LiftText", "readItem", "()Z"⟩, 3) := ⟨⟨by decide +kernel, by decide +kernel⟩, List.mem_of_getElem? (i := 85) (by decide +kernel), List.mem_of_getElem? (i := 213) (by decide +kernel), List.mem_of_getElem? (i := 214) (by decide +kernel)⟩
theorem lw_p6 : lw_okq (⟨"GripInspector", "remember", "()V"⟩, 9) := ⟨⟨by decide +kernel, by decide +kernel⟩, List.mem_of_getElem? (i := 16) (by decide +kernel), List.mem_of_getElem? (i := 243) (by decide +kernel), List.mem_of_getElem? (i := 244) (by decide +kernel)⟩
theorem lw_p7 : lw_okq (⟨"GripInspector$Memory", "rowAt", "(I)LGripInspector$Lift;"⟩, 1) := ⟨⟨by decide +kernel, by decide +kernel⟩, List.mem_of_getElem? (i := 124) (by decide +kernel), List.mem_of_getElem? (i := 251) (by decide +kernel), List.mem_of_getElem? (i := 252) (by decide +kernel)⟩
theorem lw_p8 : lw_okq (⟨"java/lang/Throwable", "fillInStackTrace", "(I)Ljava/lang/Throwable;"⟩, 6) := ⟨⟨by decide +kernel, by decide +kernel⟩, List.mem_of_getElem? (i := 343) (by decide +kernel), List.mem_of_getElem? (i := 341) (by decide +kernel), List.mem_of_getElem? (i := 342) (by decide +kernel)⟩
theorem lw_p9 : lw_okq (⟨"GripInspector", "isSlipFree", "(II)Z"⟩, 9) := ⟨⟨by decide +kernel, by decide +kernel⟩, List.mem_of_getElem? (i := 16) (by decide +kernel), List.mem_of_getElem? (i := 683) (by decide +kernel), List.mem_of_getElem? (i := 684) (by decide +kernel)⟩
theorem lw_p10 : lw_okq (⟨"GripInspector", "obeys", "(I)Z"⟩, 9) := ⟨⟨by decide +kernel, by decide +kernel⟩, List.mem_of_getElem? (i := 16) (by decide +kernel), List.mem_of_getElem? (i := 703) (by decide +kernel), List.mem_of_getElem? (i := 704) (by decide +kernel)⟩
theorem lw_p11 : lw_okq (⟨"GripInspector", "triesPutting", "(II)Z"⟩, 9) := ⟨⟨by decide +kernel, by decide +kernel⟩, List.mem_of_getElem? (i := 16) (by decide +kernel), List.mem_of_getElem? (i := 707) (by decide +kernel), List.mem_of_getElem? (i := 708) (by decide +kernel)⟩
theorem lw_p12 : lw_okq (⟨"GripInspector", "triesTaking", "(I)Z"⟩, 9) := ⟨⟨by decide +kernel, by decide +kernel⟩, List.mem_of_getElem? (i := 16) (by decide +kernel), List.mem_of_getElem? (i := 711) (by decide +kernel), List.mem_of_getElem? (i := 712) (by decide +kernel)⟩
theorem lw_p13 : lw_okq (⟨"GripInspector", "triesLimit", "(II)Z"⟩, 9) := ⟨⟨by decide +kernel, by decide +kernel⟩, List.mem_of_getElem? (i := 16) (by decide +kernel), List.mem_of_getElem? (i := 715) (by decide +kernel), List.mem_of_getElem? (i := 716) (by decide +kernel)⟩
theorem lw_p14 : lw_okq (⟨"GripInspectorModel", "refused", "(I)Z"⟩, 15) := ⟨⟨by decide +kernel, by decide +kernel⟩, List.mem_of_getElem? (i := 746) (by decide +kernel), List.mem_of_getElem? (i := 810) (by decide +kernel), List.mem_of_getElem? (i := 811) (by decide +kernel)⟩
theorem lw_p15 : lw_okq (⟨"GripInspectorModel", "readText", "()I"⟩, 15) := ⟨⟨by decide +kernel, by decide +kernel⟩, List.mem_of_getElem? (i := 746) (by decide +kernel), List.mem_of_getElem? (i := 822) (by decide +kernel), List.mem_of_getElem? (i := 823) (by decide +kernel)⟩
def lw_privs_1 : List (MethodName × Nat) := [(⟨"GripInspector$LiftText", "readHead", "()Z"⟩, 3), (⟨"GripInspector$LiftText", "readPair", "(IIZ)I"⟩, 3), (⟨"GripInspector$LiftText", "isBegin", "(IIIZ)Z"⟩, 3), (⟨"GripInspector$LiftText", "isAllowed", "(IIIZ)Z"⟩, 3), (⟨"GripInspector$LiftText", "readDigit", "(II)I"⟩, 3), (⟨"GripInspector$LiftText", "readItem", "()Z"⟩, 3), (⟨"GripInspector", "remember", "()V"⟩, 9), (⟨"GripInspector$Memory", "rowAt", "(I)LGripInspector$Lift;"⟩, 1), (⟨"java/lang/Throwable", "fillInStackTrace", "(I)Ljava/lang/Throwable;"⟩, 6), (⟨"GripInspector", "isSlipFree", "(II)Z"⟩, 9), (⟨"GripInspector", "obeys", "(I)Z"⟩, 9), (⟨"GripInspector", "triesPutting", "(II)Z"⟩, 9), (⟨"GripInspector", "triesTaking", "(I)Z"⟩, 9), (⟨"GripInspector", "triesLimit", "(II)Z"⟩, 9), (⟨"GripInspectorModel", "refused", "(I)Z"⟩, 15), (⟨"GripInspectorModel", "readText", "()I"⟩, 15)]
theorem lw_r1 : ∀ q ∈ lw_privs_1, lw_okq q := List.forall_mem_cons.mpr ⟨lw_p0, List.forall_mem_cons.mpr ⟨lw_p1, List.forall_mem_cons.mpr ⟨lw_p2, List.forall_mem_cons.mpr ⟨lw_p3, List.forall_mem_cons.mpr ⟨lw_p4, List.forall_mem_cons.mpr ⟨lw_p5, List.forall_mem_cons.mpr ⟨lw_p6, List.forall_mem_cons.mpr ⟨lw_p7, List.forall_mem_cons.mpr ⟨lw_p8, List.forall_mem_cons.mpr ⟨lw_p9, List.forall_mem_cons.mpr ⟨lw_p10, List.forall_mem_cons.mpr ⟨lw_p11, List.forall_mem_cons.mpr ⟨lw_p12, List.forall_mem_cons.mpr ⟨lw_p13, List.forall_mem_cons.mpr ⟨lw_p14, List.forall_mem_cons.mpr ⟨lw_p15, fun _ h => absurd h List.not_mem_nil⟩⟩⟩⟩⟩⟩⟩⟩⟩⟩⟩⟩⟩⟩⟩⟩
theorem lw_p16 : lw_okq (⟨"GripInspectorModel", "two", "(II)I"⟩, 15) := ⟨⟨by decide +kernel, by decide +kernel⟩, List.mem_of_getElem? (i := 746) (by decide +kernel), List.mem_of_getElem? (i := 826) (by decide +kernel), List.mem_of_getElem? (i := 827) (by decide +kernel)⟩
theorem lw_p17 : lw_okq (⟨"GripInspectorModel", "digit", "(II)I"⟩, 15) := ⟨⟨by decide +kernel, by decide +kernel⟩, List.mem_of_getElem? (i := 746) (by decide +kernel), List.mem_of_getElem? (i := 830) (by decide +kernel), List.mem_of_getElem? (i := 831) (by decide +kernel)⟩
theorem lw_p18 : lw_okq (⟨"GripInspectorModel", "readItem", "()Z"⟩, 15) := ⟨⟨by decide +kernel, by decide +kernel⟩, List.mem_of_getElem? (i := 746) (by decide +kernel), List.mem_of_getElem? (i := 834) (by decide +kernel), List.mem_of_getElem? (i := 835) (by decide +kernel)⟩
theorem lw_p19 : lw_okq (⟨"GripInspectorModel", "readSlot", "()I"⟩, 15) := ⟨⟨by decide +kernel, by decide +kernel⟩, List.mem_of_getElem? (i := 746) (by decide +kernel), List.mem_of_getElem? (i := 841) (by decide +kernel), List.mem_of_getElem? (i := 842) (by decide +kernel)⟩
theorem lw_p20 : lw_okq (⟨"GripInspectorModel", "mayHang", "(I)Z"⟩, 15) := ⟨⟨by decide +kernel, by decide +kernel⟩, List.mem_of_getElem? (i := 746) (by decide +kernel), List.mem_of_getElem? (i := 846) (by decide +kernel), List.mem_of_getElem? (i := 847) (by decide +kernel)⟩
theorem lw_p21 : lw_okq (⟨"GripInspectorModel", "isGrip", "(I)Z"⟩, 15) := ⟨⟨by decide +kernel, by decide +kernel⟩, List.mem_of_getElem? (i := 746) (by decide +kernel), List.mem_of_getElem? (i := 872) (by decide +kernel), List.mem_of_getElem? (i := 873) (by decide +kernel)⟩
theorem lw_p22 : lw_okq (⟨"GripInspectorModel", "isSlot", "(I)Z"⟩, 15) := ⟨⟨by decide +kernel, by decide +kernel⟩, List.mem_of_getElem? (i := 746) (by decide +kernel), List.mem_of_getElem? (i := 884) (by decide +kernel), List.mem_of_getElem? (i := 885) (by decide +kernel)⟩
theorem lw_p23 : lw_okq (⟨"GripInspectorModel", "layReport", "()I"⟩, 15) := ⟨⟨by decide +kernel, by decide +kernel⟩, List.mem_of_getElem? (i := 746) (by decide +kernel), List.mem_of_getElem? (i := 900) (by decide +kernel), List.mem_of_getElem? (i := 901) (by decide +kernel)⟩
theorem lw_p24 : lw_okq (⟨"GripInspectorModel", "note", "()V"⟩, 15) := ⟨⟨by decide +kernel, by decide +kernel⟩, List.mem_of_getElem? (i := 746) (by decide +kernel), List.mem_of_getElem? (i := 909) (by decide +kernel), List.mem_of_getElem? (i := 910) (by decide +kernel)⟩
theorem lw_p25 : lw_okq (⟨"GripInspectorModel", "stepsOn", "([II)V"⟩, 15) := ⟨⟨by decide +kernel, by decide +kernel⟩, List.mem_of_getElem? (i := 746) (by decide +kernel), List.mem_of_getElem? (i := 913) (by decide +kernel), List.mem_of_getElem? (i := 914) (by decide +kernel)⟩
theorem lw_p26 : lw_okq (⟨"GripInspectorModel", "stepOn", "([I)V"⟩, 15) := ⟨⟨by decide +kernel, by decide +kernel⟩, List.mem_of_getElem? (i := 746) (by decide +kernel), List.mem_of_getElem? (i := 917) (by decide +kernel), List.mem_of_getElem? (i := 918) (by decide +kernel)⟩
theorem lw_p27 : lw_okq (⟨"GripInspectorModel", "pass", "([III)I"⟩, 15) := ⟨⟨by decide +kernel, by decide +kernel⟩, List.mem_of_getElem? (i := 746) (by decide +kernel), List.mem_of_getElem? (i := 926) (by decide +kernel), List.mem_of_getElem? (i := 927) (by decide +kernel)⟩
theorem lw_p28 : lw_okq (⟨"GripInspectorModel", "isFree", "([II)Z"⟩, 15) := ⟨⟨by decide +kernel, by decide +kernel⟩, List.mem_of_getElem? (i := 746) (by decide +kernel), List.mem_of_getElem? (i := 930) (by decide +kernel), List.mem_of_getElem? (i := 931) (by decide +kernel)⟩
theorem lw_p29 : lw_okq (⟨"GripInspectorModel", "apart", "(II)I"⟩, 15) := ⟨⟨by decide +kernel, by decide +kernel⟩, List.mem_of_getElem? (i := 746) (by decide +kernel), List.mem_of_getElem? (i := 934) (by decide +kernel), List.mem_of_getElem? (i := 935) (by decide +kernel)⟩
theorem lw_p30 : lw_okq (⟨"GripInspectorModel", "canPut", "([III)Z"⟩, 15) := ⟨⟨by decide +kernel, by decide +kernel⟩, List.mem_of_getElem? (i := 746) (by decide +kernel), List.mem_of_getElem? (i := 947) (by decide +kernel), List.mem_of_getElem? (i := 948) (by decide +kernel)⟩
theorem lw_p31 : lw_okq (⟨"GripInspectorModel", "gapOf", "(I)I"⟩, 15) := ⟨⟨by decide +kernel, by decide +kernel⟩, List.mem_of_getElem? (i := 746) (by decide +kernel), List.mem_of_getElem? (i := 982) (by decide +kernel), List.mem_of_getElem? (i := 983) (by decide +kernel)⟩
def lw_privs_2 : List (MethodName × Nat) := [(⟨"GripInspectorModel", "two", "(II)I"⟩, 15), (⟨"GripInspectorModel", "digit", "(II)I"⟩, 15), (⟨"GripInspectorModel", "readItem", "()Z"⟩, 15), (⟨"GripInspectorModel", "readSlot", "()I"⟩, 15), (⟨"GripInspectorModel", "mayHang", "(I)Z"⟩, 15), (⟨"GripInspectorModel", "isGrip", "(I)Z"⟩, 15), (⟨"GripInspectorModel", "isSlot", "(I)Z"⟩, 15), (⟨"GripInspectorModel", "layReport", "()I"⟩, 15), (⟨"GripInspectorModel", "note", "()V"⟩, 15), (⟨"GripInspectorModel", "stepsOn", "([II)V"⟩, 15), (⟨"GripInspectorModel", "stepOn", "([I)V"⟩, 15), (⟨"GripInspectorModel", "pass", "([III)I"⟩, 15), (⟨"GripInspectorModel", "isFree", "([II)Z"⟩, 15), (⟨"GripInspectorModel", "apart", "(II)I"⟩, 15), (⟨"GripInspectorModel", "canPut", "([III)Z"⟩, 15), (⟨"GripInspectorModel", "gapOf", "(I)I"⟩, 15)]
theorem lw_r2 : ∀ q ∈ lw_privs_2, lw_okq q := List.forall_mem_cons.mpr ⟨lw_p16, List.forall_mem_cons.mpr ⟨lw_p17, List.forall_mem_cons.mpr ⟨lw_p18, List.forall_mem_cons.mpr ⟨lw_p19, List.forall_mem_cons.mpr ⟨lw_p20, List.forall_mem_cons.mpr ⟨lw_p21, List.forall_mem_cons.mpr ⟨lw_p22, List.forall_mem_cons.mpr ⟨lw_p23, List.forall_mem_cons.mpr ⟨lw_p24, List.forall_mem_cons.mpr ⟨lw_p25, List.forall_mem_cons.mpr ⟨lw_p26, List.forall_mem_cons.mpr ⟨lw_p27, List.forall_mem_cons.mpr ⟨lw_p28, List.forall_mem_cons.mpr ⟨lw_p29, List.forall_mem_cons.mpr ⟨lw_p30, List.forall_mem_cons.mpr ⟨lw_p31, fun _ h => absurd h List.not_mem_nil⟩⟩⟩⟩⟩⟩⟩⟩⟩⟩⟩⟩⟩⟩⟩⟩
theorem lw_p32 : lw_okq (⟨"GripInspectorModel", "isLike", "(II)Z"⟩, 15) := ⟨⟨by decide +kernel, by decide +kernel⟩, List.mem_of_getElem? (i := 746) (by decide +kernel), List.mem_of_getElem? (i := 995) (by decide +kernel), List.mem_of_getElem? (i := 996) (by decide +kernel)⟩
theorem lw_p33 : lw_okq (⟨"GripInspectorModel", "command", "(I)Z"⟩, 15) := ⟨⟨by decide +kernel, by decide +kernel⟩, List.mem_of_getElem? (i := 746) (by decide +kernel), List.mem_of_getElem? (i := 1032) (by decide +kernel), List.mem_of_getElem? (i := 1033) (by decide +kernel)⟩
def lw_privs_3 : List (MethodName × Nat) := [(⟨"GripInspectorModel", "isLike", "(II)Z"⟩, 15), (⟨"GripInspectorModel", "command", "(I)Z"⟩, 15)]
theorem lw_r3 : ∀ q ∈ lw_privs_3, lw_okq q := List.forall_mem_cons.mpr ⟨lw_p32, List.forall_mem_cons.mpr ⟨lw_p33, fun _ h => absurd h List.not_mem_nil⟩⟩
def lw_privs : List (MethodName × Nat) := lw_privs_1 ++ (lw_privs_2 ++ (lw_privs_3))
def lw_tbl : List Cond := k2_sels lw_privs ++ tables_1
theorem lw_privs_ok : ∀ q ∈ lw_privs, lw_okq q := by
  show ∀ q ∈ lw_privs_1 ++ (lw_privs_2 ++ (lw_privs_3)), lw_okq q
  exact List.forall_mem_append.mpr ⟨lw_r1, List.forall_mem_append.mpr ⟨lw_r2, lw_r3⟩⟩
end
section
/-! ===== BEGIN words of one list among another's, by their places ===== -/
theorem goodIn_r {big : List Cond} (ws : List Cond) (ps : List Nat) (hp : ws = ps.filterMap (fun i => big[i]?)) (h : ws.all goodWord = true) : GoodIn big ws := by
  intro w hw
  have h1 := List.all_eq_true.mp h w hw
  rw [hp] at hw
  obtain ⟨i, -, hi⟩ := List.mem_filterMap.mp hw
  have hm : w ∈ big := by first | exact List.mem_of_getElem? hi | exact List.getElem?_mem hi
  exact ⟨hm, good_of_word h1⟩
theorem goodIn_app {big a b : List Cond} (ha : GoodIn big a) (hb : GoodIn big b) : GoodIn big (a ++ b) := fun w h => (List.mem_append.mp h).elim (ha w) (hb w)
theorem goodIn_ca {big a b : List Cond} {c : Cond} (ha : GoodIn big (c :: a)) (hb : GoodIn big b) : GoodIn big (c :: (a ++ b)) := fun w h => (List.mem_cons.mp h).elim (fun e => ha w (List.mem_cons.mpr (Or.inl e))) (fun h => (List.mem_append.mp h).elim (fun h => ha w (List.mem_cons.mpr (Or.inr h))) (hb w))
theorem goodIn_sub {big ws : List Cond} (hm : ∀ w ∈ ws, w ∈ big) (h : ws.all goodWord = true) : GoodIn big ws := fun w hw => ⟨hm w hw, good_of_word (List.all_eq_true.mp h w hw)⟩
/-! ===== END ===== -/

/-! ===== BEGIN exceptions that leave a method, and their catching by the caller (launches without stack traces) ===== -/
section VXA
/-! The laws vx_back, vx_callV, vx_callS, vx_callSW, vx_throw0, vx_throwS follow proofs of the library, with one case more: JvmDerived/Free/Laws.lean (Back.of_free), Shelf42/LK1.lean (callV, callS), Shelf/KitTraced.lean (throwNew0V, throwNewS). -/
/-- where a method has thrown q: the class by its name, the cell, what was written, the world -/
def vx_T (XC : String → State → State → Prop) (st : State) (q : Addr) (t : State) (mc ms : Nat) (free : Addr → Prop) : Prop :=
  ∃ (E : String) (ce : Cell) (L : List Loc), XC E st t ∧ t.heap[q]? = some ce ∧ ce.vm = .none ∧ st.vm.findClass E = some ce.cls ∧ st.WarmedH t.vm ∧ st.sameButNew ({ t with vm := st.vm } : State) L mc ms ∧ ∀ z ∈ L, free z.base
def vx_Q (Qc : Array Value → State → Outcome → State → Prop) (XC : String → State → State → Prop) (mc ms : Nat) (free : Addr → Prop) : Array Value → State → Outcome → State → Prop := fun a st o t =>
  (Qc a st o t ∧ ∃ L, FrameEnd st o t L mc ms ∧ ∀ q ∈ L, free q.base) ∨ ∃ q, o = .threw q ∧ vx_T XC st q t mc ms free
/-- a callee that returns or throws -/
def vx_Met (l : Launch) (y : MethodName) (ws : List Cond) (rm : Room) (Pc : Array Value → State → Prop) (Qc : Array Value → State → Outcome → State → Prop) (XC : String → State → State → Prop) (mc ms : Nat) (free : Addr → Prop) : Prop :=
  MetFree l y (headSpec ws rm) Pc (fun _ _ _ _ _ => True) (vx_Q Qc XC mc ms free)
def vx_Post (XC : String → State → State → Prop) (mc ms : Nat) (free : Addr → Prop) : Pt → Array Value → Addr → Pt → Prop := fun A a q B =>
  ∃ (g : JFrame) (mk : MethodId) (t : State) (L : List Loc) (E : String) (ce : Cell), B.U.heap = t.heap ∧ B.U.vm = t.vm ∧ XC E (A.U.calling g mk a) t ∧ t.heap[q]? = some ce ∧ ce.vm = .none ∧ A.U.vm.findClass E = some ce.cls ∧ B.locs = A.locs ++ L ∧ (∀ z ∈ L, free z.base) ∧ B.cells = A.cells + mc ∧ B.slots = A.slots + ms
def vx_Back (l : Launch) (R : Room) (p : Program) (e : Env) (below : List Frame) (s : State) (sargs : Array Value) (y : MethodName) (len W9 : Nat)
    (Pre : Pt → Array Value → Prop) (Post : Pt → Array Value → Option Value → Pt → Prop) (PostX : Pt → Array Value → Addr → Pt → Prop) : Prop :=
  ∀ (m : MethodId) (meth : Method) (c : Code) (A : Pt) (g : JFrame) (ig : Instr) (mk : MethodId) (a : Array Value),
    Stand p l e R s m sargs below meth c A.U A.locs A.cells A.slots → g.method = m → g.locals.size = c.maxLocals → decode c.code g.pc = .ok (ig, len) →
    2 * g.monitorRoom + (g.stack.map fun v => v.category).sum ≤ W9 → A.U.methodNamed? y = some mk → Pre A a →
    (∃ (v : Option Value) (B : Pt), Stand p l e R s m sargs below meth c B.U B.locs B.cells B.slots ∧ Post A a v B ∧
      Steps p.tables e below (doInvoke e (A.U.setTop g) [] mk a).1 (B.U.setTop { g with pc := g.pc + len, stack := v.toList ++ g.stack })) ∨
    (∃ (q : Addr) (B : Pt), Stand p l e R s m sargs below meth c B.U B.locs B.cells B.slots ∧ PostX A a q B ∧
      Steps p.tables e below (doInvoke e (A.U.setTop g) [] mk a).1 ((B.U.setTop g).pushFrame (.throwing q)))
section Payer
variable {l : Launch} {R : Room} {p : Program} {e : Env} {below : List Frame} {s : State} {sargs : Array Value} {y : MethodName} {len W9 : Nat}
theorem vx_back {ws : List Cond} {rm : Room} {Pc : Array Value → State → Prop} {Qc : Array Value → State → Outcome → State → Prop} {XC : String → State → State → Prop} {mc ms : Nat} {free : Addr → Prop} {bytes : ByteArray} {maxL : Nat} {ret : Option FieldType}
    (hM : vx_Met l y ws rm Pc Qc XC mc ms free) (hblind : FrameBlind Pc) (hrc : rm.cells = mc) (hrs : rm.slots = ms)
    (hframes : rm.frames + 1 ≤ R.frames) (hlocals : W9 + (maxL + 11) + rm.locals ≤ R.locals)
    (hws : ∀ w ∈ ws, ∀ a' U, s.WarmedH U.vm → w.before a' U = true) (hcode : Cond.code y bytes maxL ret ∈ ws) (hinit : ∀ a' U, s.WarmedH U.vm → (Cond.initialized y.cls).before a' U = true) :
    vx_Back l R p e below s sargs y len W9 (PreOf R mc ms Pc) (PostOf Qc mc ms free) (vx_Post XC mc ms free) := by
  intro m meth c A g ig mk a X hg hsize hdg hW hn hp
  have h1 : (headSpec ws rm).pre.before a A.U = true := atoms_intro fun w hw => hws w hw _ _ X.warmed
  have h2 : (Cond.code y bytes maxL ret).before a A.U = true := hws _ hcode _ _ X.warmed
  have h3 : (Cond.initialized y.cls).before a A.U = true := hinit _ _ X.warmed
  have h4 : A.cells + (headSpec ws rm).room.cells ≤ R.cells := by rw [show (headSpec ws rm).room.cells = mc from hrc]; exact hp.1
  have h5 : A.slots + (headSpec ws rm).room.slots ≤ R.slots := by rw [show (headSpec ws rm).room.slots = ms from hrs]; exact hp.2.1
  have hPc : Pc a (A.U.calling g mk a) := hblind _ _ _ _ hp.2.2
  obtain ⟨U, Ls, c0, s0⟩ := A
  dsimp only [Pt.U, Pt.locs, Pt.cells, Pt.slots] at h1 h2 h3 h4 h5 X hn hPc ⊢
  obtain ⟨methY, cY, hmY, hcY, -, hlY, -, -, -, -⟩ := Cond.code_spec hn h2
  obtain ⟨kY, hkY, -⟩ := className_of_methodNamed hn
  have hinitY : kY.init = .initialized := Cond.initialized_spec (findClass_of_methodNamed hn) hkY h3
  have h : At U g.method c below := by rw [hg]; exact X.here
  have hlocals9 : W9 + (maxL + 11) + (headSpec ws rm).room.locals ≤ R.locals := hlocals
  have happ : (headSpec ws rm).appliesLoose y e.platform (U.calling g mk a) = true :=
    Spec.appliesLoose_calling (g := g) h hdg hn hkY hinitY
      (X.room_calling (g := g) (R' := (headSpec ws rm).room) hsize hmY hcY hframes (by rw [hlY]; omega) h4 h5) h1
  obtain ⟨mid, hmid⟩ := h.above
  have hfr : (U.setTop g).frames = (.java g :: mid) ++ below := by rw [State.frames_setTop' g h.top, hmid]; rfl
  obtain ⟨o, s₂, hsteps, -, hend, hq⟩ := Steps.callFree hM p X.admits X.cas X.clock (acts := []) hfr happ hPc trivial
  have hq' : vx_Q Qc XC mc ms free a (U.calling g mk a) o s₂ := hq
  rw [State.frames_setTop' g h.top] at hend
  obtain ⟨g₀, hg0⟩ := Option.isSome_iff_exists.mp h.top
  obtain ⟨r, hr⟩ := State.topJava?_eq_some.mp hg0
  have hr' : (({ U with heap := s₂.heap, slotsUsed := s₂.slotsUsed } : State).setVm s₂.vm).frames = .java g₀ :: r := hr
  rcases hq' with ⟨hqc, L, hfe, hL⟩ | ⟨q, rfl, E, ce, L, hx, hce, hcv, hcl, hW₂, hsm, hL⟩
  · obtain ⟨⟨v, rfl⟩, hW₂, e2, q2, q3, q4, q5, q6⟩ := id hfe
    have e3 : s₂ = ({ (U.calling g mk a).setFrames s₂.frames with heap := s₂.heap, slotsUsed := s₂.slotsUsed } : State).setVm s₂.vm := by
      have : s₂ = ({ s₂ with vm := (U.calling g mk a).vm } : State).setVm s₂.vm := rfl
      rw [e2] at this
      exact this
    obtain ⟨c₂, i₂, len₂, hc₂, hd₂, hf₂⟩ := hend
    have hW' : U.WarmedH s₂.vm := hW₂
    have hcc : c₂ = c := by
      have h1 : s₂.code? g.method = U.code? g.method := by
        rw [State.code?_eq, State.code?_eq, hW'.alike.method?]
      exact Option.some.inj (hc₂.symm.trans (h1.trans h.code))
    subst hcc
    have hlen : len₂ = len := by rw [hdg] at hd₂; cases hd₂; rfl
    subst hlen
    have hs₂ : s₂ = (({ U with heap := s₂.heap, slotsUsed := s₂.slotsUsed } : State).setVm s₂.vm).setTop { g with pc := g.pc + len₂, stack := v.toList ++ g.stack } := by
      refine e3.trans ?_
      rw [hf₂, State.calling_eq h.top, State.setFrames_setFrames, State.setTop_of_frames _ hr', hr]
      rfl
    have hsame : U.sameButNew ({ U with heap := s₂.heap, slotsUsed := s₂.slotsUsed } : State) L mc ms := by
      refine ⟨?_, q2, q3, q4, q5, q6⟩
      obtain ⟨t, ht, -⟩ := State.frames_cons hr
      show ({ U with heap := s₂.heap, slotsUsed := s₂.slotsUsed } : State) = { U.setFrames U.frames with heap := s₂.heap, slotsUsed := s₂.slotsUsed }
      rw [State.setFrames_self ht]
    subst hg
    refine Or.inl ⟨v, ⟨(({ U with heap := s₂.heap, slotsUsed := s₂.slotsUsed } : State).setVm s₂.vm), Ls ++ L, c0 + mc, s0 + ms⟩,
      ⟨X.admits, X.cas, X.clock, X.frames, X.room, X.hears, X.method, X.code, (X.here.setHeapUsed s₂.heap s₂.slotsUsed).setVm hW'.alike, X.tail, State.WarmedH.trans X.warmed hW', X.limits, X.bytes, X.same.trans (hsame.setVm s.vm)⟩,
      ⟨g, mk, s₂, L, rfl, rfl, hqc, rfl, hL, rfl, rfl⟩, ?_⟩
    show Steps p.tables e below _ ((({ U with heap := s₂.heap, slotsUsed := s₂.slotsUsed } : State).setVm s₂.vm).setTop { g with pc := g.pc + len₂, stack := v.toList ++ g.stack })
    rw [← hs₂]
    exact hsteps
  · obtain ⟨e2, q2, q3, q4, q5, q6⟩ := id hsm
    have e3 : s₂ = ({ (U.calling g mk a).setFrames s₂.frames with heap := s₂.heap, slotsUsed := s₂.slotsUsed } : State).setVm s₂.vm := by
      have : s₂ = ({ s₂ with vm := (U.calling g mk a).vm } : State).setVm s₂.vm := rfl
      rw [e2] at this
      exact this
    have hf₂ : s₂.frames = .throwing q :: .java g :: U.frames.tail := hend
    have hW' : U.WarmedH s₂.vm := hW₂
    have hs₂ : s₂ = ((({ U with heap := s₂.heap, slotsUsed := s₂.slotsUsed } : State).setVm s₂.vm).setTop g).pushFrame (.throwing q) := by
      refine e3.trans ?_
      rw [hf₂, State.calling_eq h.top, State.setFrames_setFrames, State.pushFrame, State.frames_setTop _ hr', State.setTop_of_frames _ hr', State.setFrames_setFrames, hr]
      rfl
    have hsame : U.sameButNew ({ U with heap := s₂.heap, slotsUsed := s₂.slotsUsed } : State) L mc ms := by
      refine ⟨?_, q2, q3, q4, q5, q6⟩
      obtain ⟨t, ht, -⟩ := State.frames_cons hr
      show ({ U with heap := s₂.heap, slotsUsed := s₂.slotsUsed } : State) = { U.setFrames U.frames with heap := s₂.heap, slotsUsed := s₂.slotsUsed }
      rw [State.setFrames_self ht]
    subst hg
    refine Or.inr ⟨q, ⟨(({ U with heap := s₂.heap, slotsUsed := s₂.slotsUsed } : State).setVm s₂.vm), Ls ++ L, c0 + mc, s0 + ms⟩,
      ⟨X.admits, X.cas, X.clock, X.frames, X.room, X.hears, X.method, X.code, (X.here.setHeapUsed s₂.heap s₂.slotsUsed).setVm hW'.alike, X.tail, State.WarmedH.trans X.warmed hW', X.limits, X.bytes, X.same.trans (hsame.setVm s.vm)⟩,
      ⟨g, mk, s₂, L, E, ce, rfl, rfl, hx, hce, hcv, hcl, rfl, hL, rfl, rfl⟩, ?_⟩
    show Steps p.tables e below _ (((({ U with heap := s₂.heap, slotsUsed := s₂.slotsUsed } : State).setVm s₂.vm).setTop g).pushFrame (.throwing q))
    rw [← hs₂]
    exact hsteps
end Payer
section Calls
variable {p : Program} {l : Launch} {e : Env} {R : Room} {s : State} {m : MethodId} {args : Array Value} {below : List Frame} {meth : Method} {c : Code} {T : State} {locs : List Loc} {cells slots : Nat}
theorem vx_callV (X : Stand p l e R s m args below meth c T locs cells slots) (hexec : p.tables.exec = Jvm.exec) {own C : String} {index : Nat} {y : MethodName} {bytes : ByteArray} {maxL : Nat} {ret : Option FieldType}
    (hown : s.vm.findClass own = some m.cls) (hlink : (Cond.methodLink own index y).before args s = true) (hinst : (Cond.instanceMethod y).before args s = true) (hsel : (Cond.selects C y y).before args s = true)
    (hcode : (Cond.code y bytes maxL ret).before args s = true) (hy : y.cls ≠ "java/lang/invoke/MethodHandle" ∧ y.cls ≠ "java/lang/invoke/VarHandle")
    {W9 : Nat} {Pre : Pt → Array Value → Prop} {Post : Pt → Array Value → Option Value → Pt → Prop} {PostX : Pt → Array Value → Addr → Pt → Prop} (hK : vx_Back l R p e below s args y 3 W9 Pre Post PostX)
    {b : Addr} {cellB : Cell} (hcell : T.heap[b]? = some cellB) (hobj : cellB.vm.isStatics = false) (hcls : s.vm.findClass C = some cellB.cls)
    {g : JFrame} (hg : g.method = m) (hsize : g.locals.size = c.maxLocals) {argsL rest : List Value} (hlen : ∀ sig, parseMethodDescriptor y.desc = some sig → argsL.length = sig.parameters.length)
    (hstack : g.stack = argsL.reverse ++ .ref b :: rest) (hW : 2 * g.monitorRoom + (rest.map fun v => v.category).sum ≤ W9) (hdg : decode c.code g.pc = .ok (.invokevirtual index, 3))
    (hpre : ∀ vm₁, s.WarmedH vm₁ → Pre ⟨T.setVm vm₁, locs, cells, slots⟩ (Value.ref b :: argsL).toArray) :
    (∃ (v : Option Value) (vm₁ : Vm) (B : Pt), s.WarmedH vm₁ ∧ Stand p l e R s m args below meth c B.U B.locs B.cells B.slots ∧ Post ⟨T.setVm vm₁, locs, cells, slots⟩ (Value.ref b :: argsL).toArray v B ∧
      ∀ target, Steps p.tables e below (B.U.setTop { g with pc := g.pc + 3, stack := v.toList ++ rest }) target → Steps p.tables e below (T.setTop g) target) ∨
    (∃ (q : Addr) (vm₁ : Vm) (B : Pt), s.WarmedH vm₁ ∧ Stand p l e R s m args below meth c B.U B.locs B.cells B.slots ∧ PostX ⟨T.setVm vm₁, locs, cells, slots⟩ (Value.ref b :: argsL).toArray q B ∧
      Steps p.tables e below (T.setTop g) ((B.U.setTop { g with stack := rest }).pushFrame (.throwing q))) := by
  obtain ⟨mk, methM, hnamed, hmethM, hstM, habM⟩ := Cond.instanceMethod_spec hinst
  obtain ⟨methM', cM, hmethM', -, -, -, -, -, -, hsigM⟩ := Cond.code_spec hnamed hcode
  cases hmethM.symm.trans hmethM'
  obtain ⟨c2, r2, m2, q1, q2, q3, q4, kP, hkP, hkPi⟩ := Cond.selects_spec hsel
  cases hcls.symm.trans q1
  cases (State.methodFound?_of_named hnamed hy).symm.trans q2
  cases hnamed.symm.trans q3
  have hselP : selectMethod e.platform s.vm cellB.cls mk = .method mk := by rw [Launch.admits_selectMethod X.admits]; exact q4
  obtain ⟨vm₁, X₁, hstep₁⟩ := X.invokevirtual hexec hown hlink hnamed hmethM hstM hkP hkPi hy (a := b) (cell := cellB) hcell
    (fun z h => by rw [h] at hobj; cases hobj) hselP hmethM habM hkP hkPi (g := g) hg (argsL := argsL) (rest := rest) (hlen _ hsigM) hstack hdg
  rcases hK m meth c ⟨T.setVm vm₁, locs, cells, slots⟩ { g with stack := rest } (.invokevirtual index) mk (Value.ref b :: argsL).toArray X₁ hg hsize hdg hW (X₁.named hnamed) (hpre vm₁ X₁.warmed) with ⟨v, B, X', hpost, hsteps⟩ | ⟨q, B, X', hpost, hsteps⟩
  · exact Or.inl ⟨v, vm₁, B, X₁.warmed, X', hpost, fun target h => hstep₁ _ fun acts => by rw [doInvoke_state]; exact hsteps.trans h⟩
  · exact Or.inr ⟨q, vm₁, B, X₁.warmed, X', hpost, hstep₁ _ fun acts => by rw [doInvoke_state]; exact hsteps⟩
theorem vx_callS (X : Stand p l e R s m args below meth c T locs cells slots) (hexec : p.tables.exec = Jvm.exec) {own : String} {index : Nat} {y : MethodName} {bytes : ByteArray} {maxL : Nat} {ret : Option FieldType}
    (hown : s.vm.findClass own = some m.cls) (hlink : (Cond.methodLink own index y).before args s = true) (hstat : (Cond.static y).before args s = true) (hinit : (Cond.initialized y.cls).before args s = true)
    (hcode : (Cond.code y bytes maxL ret).before args s = true) (hy : y.cls ≠ "java/lang/invoke/MethodHandle" ∧ y.cls ≠ "java/lang/invoke/VarHandle")
    {W9 : Nat} {Pre : Pt → Array Value → Prop} {Post : Pt → Array Value → Option Value → Pt → Prop} {PostX : Pt → Array Value → Addr → Pt → Prop} (hK : vx_Back l R p e below s args y 3 W9 Pre Post PostX)
    {g : JFrame} (hg : g.method = m) (hsize : g.locals.size = c.maxLocals) {argsL rest : List Value} (hlen : ∀ sig, parseMethodDescriptor y.desc = some sig → argsL.length = sig.parameters.length)
    (hstack : g.stack = argsL.reverse ++ rest) (hW : 2 * g.monitorRoom + (rest.map fun v => v.category).sum ≤ W9) (hdg : decode c.code g.pc = .ok (.invokestatic index, 3))
    (hpre : ∀ vm₁, s.WarmedH vm₁ → Pre ⟨T.setVm vm₁, locs, cells, slots⟩ argsL.toArray) :
    (∃ (v : Option Value) (vm₁ : Vm) (B : Pt), s.WarmedH vm₁ ∧ Stand p l e R s m args below meth c B.U B.locs B.cells B.slots ∧ Post ⟨T.setVm vm₁, locs, cells, slots⟩ argsL.toArray v B ∧
      ∀ target, Steps p.tables e below (B.U.setTop { g with pc := g.pc + 3, stack := v.toList ++ rest }) target → Steps p.tables e below (T.setTop g) target) ∨
    (∃ (q : Addr) (vm₁ : Vm) (B : Pt), s.WarmedH vm₁ ∧ Stand p l e R s m args below meth c B.U B.locs B.cells B.slots ∧ PostX ⟨T.setVm vm₁, locs, cells, slots⟩ argsL.toArray q B ∧
      Steps p.tables e below (T.setTop g) ((B.U.setTop { g with stack := rest }).pushFrame (.throwing q))) := by
  obtain ⟨mk, hnamed⟩ := Cond.code_named hcode
  obtain ⟨methM, cM, hmethM, -, -, -, -, -, -, hsigM⟩ := Cond.code_spec hnamed hcode
  have hstatic : methM.isStatic = true := Cond.static_spec hnamed hmethM hstat
  obtain ⟨kP, hkP, -⟩ := className_of_methodNamed hnamed
  have hinitP : kP.init = .initialized := Cond.initialized_spec (findClass_of_methodNamed hnamed) hkP hinit
  obtain ⟨vm₁, X₁, hstep₁⟩ := X.invokestatic hexec hown hlink hnamed hmethM hstatic hkP hinitP hy (g := g) hg (argsL := argsL) (rest := rest) (hlen _ hsigM) hstack hdg
  rcases hK m meth c ⟨T.setVm vm₁, locs, cells, slots⟩ { g with stack := rest } (.invokestatic index) mk argsL.toArray X₁ hg hsize hdg hW (X₁.named hnamed) (hpre vm₁ X₁.warmed) with ⟨v, B, X', hpost, hsteps⟩ | ⟨q, B, X', hpost, hsteps⟩
  · exact Or.inl ⟨v, vm₁, B, X₁.warmed, X', hpost, fun target h => hstep₁ _ fun acts => by rw [doInvoke_state]; exact hsteps.trans h⟩
  · exact Or.inr ⟨q, vm₁, B, X₁.warmed, X', hpost, hstep₁ _ fun acts => by rw [doInvoke_state]; exact hsteps⟩
end Calls
theorem vx_cls {s : State} {T : State} {vm₁ : Vm} {E : String} {k : ClassId} (hW : s.WarmedH vm₁) (h : (T.setVm vm₁).vm.findClass E = some k) : s.vm.findClass E = some k := by
  have h1 : vm₁.findClass E = some k := h
  rw [hW.alike.findClass] at h1
  exact h1
/-- the method's frame g, with q thrown over it -/
def vx_W (p : Program) (l : Launch) (e : Env) (R : Room) (s : State) (m : MethodId) (args : Array Value) (below : List Frame) (meth : Method) (c : Code) (H : Heap) (locs : List Loc) (cells slots : Nat) (Q : State → Prop) (g : JFrame) (q : Addr) : Prop :=
  ∀ T : State, T.heap = H → Stand p l e R s m args below meth c T locs cells slots → ∃ t, Steps p.tables e below ((T.setTop g).pushFrame (.throwing q)) t ∧ Q t
def vx_Run (p : Program) (l : Launch) (e : Env) (R : Room) (s : State) (m : MethodId) (args : Array Value) (below : List Frame) (meth : Method) (c : Code) (H : Heap) (locs : List Loc) (cells slots mc ms : Nat) (g : JFrame) (rest : List Value) (Qa : State → Outcome → State → Prop) (XC : String → State → State → Prop) (free : Addr → Prop) : Prop :=
  ∀ T : State, T.heap = H → Stand p l e R s m args below meth c T locs cells slots →
    (∃ (v : Option Value) (st₀ t T' : State) (L : List Loc), st₀.heap = H ∧ Stand p l e R s m args below meth c T' (locs ++ L) (cells + mc) (slots + ms) ∧ (∀ q ∈ L, free q.base) ∧ T'.heap = t.heap ∧ T'.vm = t.vm ∧ Qa st₀ (.returned v) t ∧
      Goes p e below T g T' { g with pc := g.pc + 3, stack := v.toList ++ rest }) ∨
    (∃ (q : Addr) (st₀ t T' : State) (L : List Loc) (E : String) (ce : Cell), st₀.heap = H ∧ Stand p l e R s m args below meth c T' (locs ++ L) (cells + mc) (slots + ms) ∧ (∀ z ∈ L, free z.base) ∧ T'.heap = t.heap ∧ T'.vm = t.vm ∧ XC E st₀ t ∧ t.heap[q]? = some ce ∧ ce.vm = .none ∧ s.vm.findClass E = some ce.cls ∧
      Steps p.tables e below (T.setTop g) ((T'.setTop { g with stack := rest }).pushFrame (.throwing q)))
def vx_X {S : Type} (px : S → Prop) (B : String → S → State → Prop) (A : Nat → Prop) : String → State → State → Prop := fun E st t => ∃ u : S, px u ∧ B E u t ∧ va_F A st t
section Runs
variable {p : Program} {l : Launch} {e : Env} {R : Room} {s : State} {m : MethodId} {args : Array Value} {below : List Frame} {meth : Method} {c : Code} {H : Heap} {locs : List Loc} {cells slots : Nat}
variable {y : MethodName} {bytes cc : ByteArray} {maxL nL mc ms n index : Nat} {ret : Option FieldType} {ws : List Cond} {rm : Room} {Pc : Array Value → State → Prop} {Qc : Array Value → State → Outcome → State → Prop} {XC : String → State → State → Prop} {free : Addr → Prop} {Ts : List Cond} {own C : String} {b : Addr} {As rest : List Value} {g : JFrame}
theorem vx_callBack (cb : CallB R s args own index y bytes maxL ret ws rm mc ms n) (hM : vx_Met l y ws rm Pc Qc XC mc ms free) (hbl : FrameBlind Pc) : vx_Back l R p e below s args y 3 8 (PreOf R mc ms Pc) (PostOf Qc mc ms free) (vx_Post XC mc ms free) := by
  obtain ⟨hrc, hrs, hfr, hlo, hws, hcw, -, hini, -⟩ := cb
  exact vx_back (bytes := bytes) (maxL := maxL) (ret := ret) hM hbl hrc hrs hfr hlo hws hcw (fun a' U hW => word_at hW (Or.inl (by first | rfl | simp [Cond.onTables, Cond.keeps, Cond.steady])) hini)
theorem vx_runV (S : CallFix p m c cc nL s args Ts own) (hM : vx_Met l y ws rm Pc Qc XC mc ms free) (cw : CallW R s args own C index y bytes maxL ret ws rm mc ms n) (hp : PreV s H C b Pc As)
    (hg : g.method = m) (hn : As.length = n) (hsize : g.locals.size = nL) (hstack : g.stack = As.reverse ++ .ref b :: rest) (hW : 2 * g.monitorRoom + (rest.map fun v => v.category).sum ≤ 8) (hdg : decode cc g.pc = .ok (.invokevirtual index, 3)) (hf : cells + mc ≤ R.cells ∧ slots + ms ≤ R.slots) :
    vx_Run p l e R s m args below meth c H locs cells slots mc ms g rest (Qc (Value.ref b :: As).toArray) XC free := by
  have hK : vx_Back l R p e below s args y 3 8 (PreOf R mc ms Pc) (PostOf Qc mc ms free) (vx_Post XC mc ms free) := vx_callBack cw.1 hM hp.1
  obtain ⟨⟨-, -, -, -, -, -, hcode, -, hy, hlen, hl⟩, hin, hse⟩ := cw
  obtain ⟨hx, hb, hml, ho, -⟩ := S
  obtain ⟨-, ⟨cellB, hcB, hoB, hclB⟩, hPc⟩ := hp
  intro T hT X
  rcases vx_callV X hx (C := C) (bytes := bytes) (maxL := maxL) (ret := ret) ho hl hin hse hcode hy hK (by rw [hT]; exact hcB) hoB hclB hg (hsize.trans hml.symm) (argsL := As) (rest := rest) (fun sig h => hn.trans (hlen sig h)) hstack hW (by rw [hb]; exact hdg)
    (fun vm₁ hW₁ => ⟨hf.1, hf.2, hPc (T.setVm vm₁) hT hW₁⟩) with ⟨v, vm₁, ⟨U', l2, c2, s2⟩, hW₁, X', ⟨g', mk, t, L, e1, e2, hq, h1, hL, h2, h3⟩, st⟩ | ⟨q, vm₁, ⟨U', l2, c2, s2⟩, hW₁, X', ⟨g', mk, t, L, E, ce, e1, e2, hq, hce, hcv, hcl, h1, hL, h2, h3⟩, st⟩
  · dsimp only [Pt.U, Pt.locs, Pt.cells, Pt.slots] at X' e1 e2 h1 h2 h3 st
    subst h1; subst h2; subst h3
    exact Or.inl ⟨v, (T.setVm vm₁).calling g' mk (Value.ref b :: As).toArray, t, U', L, hT, X', hL, e1, e2, hq, st⟩
  · dsimp only [Pt.U, Pt.locs, Pt.cells, Pt.slots] at X' e1 e2 h1 h2 h3 st hcl
    subst h1; subst h2; subst h3
    exact Or.inr ⟨q, (T.setVm vm₁).calling g' mk (Value.ref b :: As).toArray, t, U', L, E, ce, hT, X', hL, e1, e2, hq, hce, hcv, vx_cls hW₁ hcl, st⟩
theorem vx_runS (S : CallFix p m c cc nL s args Ts own) (hM : vx_Met l y ws rm Pc Qc XC mc ms free) (cw : CallB R s args own index y bytes maxL ret ws rm mc ms n ∧ (Cond.static y).before args s = true) (hp : PreS s H Pc As)
    (hg : g.method = m) (hn : As.length = n) (hsize : g.locals.size = nL) (hstack : g.stack = As.reverse ++ rest) (hW : 2 * g.monitorRoom + (rest.map fun v => v.category).sum ≤ 8) (hdg : decode cc g.pc = .ok (.invokestatic index, 3)) (hf : cells + mc ≤ R.cells ∧ slots + ms ≤ R.slots) :
    vx_Run p l e R s m args below meth c H locs cells slots mc ms g rest (Qc As.toArray) XC free := by
  have hK : vx_Back l R p e below s args y 3 8 (PreOf R mc ms Pc) (PostOf Qc mc ms free) (vx_Post XC mc ms free) := vx_callBack cw.1 hM hp.1
  obtain ⟨⟨-, -, -, -, -, -, hcode, hini, hy, hlen, hl⟩, hstt⟩ := cw
  obtain ⟨hx, hb, hml, ho, -⟩ := S
  intro T hT X
  rcases vx_callS X hx (bytes := bytes) (maxL := maxL) (ret := ret) ho hl hstt hini hcode hy hK hg (hsize.trans hml.symm) (argsL := As) (rest := rest) (fun sig h => hn.trans (hlen sig h)) hstack hW (by rw [hb]; exact hdg)
    (fun vm₁ hW₁ => ⟨hf.1, hf.2, hp.2 (T.setVm vm₁) hT hW₁⟩) with ⟨v, vm₁, ⟨U', l2, c2, s2⟩, hW₁, X', ⟨g', mk, t, L, e1, e2, hq, h1, hL, h2, h3⟩, st⟩ | ⟨q, vm₁, ⟨U', l2, c2, s2⟩, hW₁, X', ⟨g', mk, t, L, E, ce, e1, e2, hq, hce, hcv, hcl, h1, hL, h2, h3⟩, st⟩
  · dsimp only [Pt.U, Pt.locs, Pt.cells, Pt.slots] at X' e1 e2 h1 h2 h3 st
    subst h1; subst h2; subst h3
    exact Or.inl ⟨v, (T.setVm vm₁).calling g' mk As.toArray, t, U', L, hT, X', hL, e1, e2, hq, st⟩
  · dsimp only [Pt.U, Pt.locs, Pt.cells, Pt.slots] at X' e1 e2 h1 h2 h3 st hcl
    subst h1; subst h2; subst h3
    exact Or.inr ⟨q, (T.setVm vm₁).calling g' mk As.toArray, t, U', L, E, ce, hT, X', hL, e1, e2, hq, hce, hcv, vx_cls hW₁ hcl, st⟩
end Runs
section Rows
variable {p : Program} {l : Launch} {e : Env} {R : Room} {s : State} {m : MethodId} {args : Array Value} {below : List Frame} {meth : Method} {c : Code} {H : Heap} {locs : List Loc} {cells slots : Nat} {Q : State → Prop}
variable {mc ms : Nat} {free : Addr → Prop} {A0 A1 : Nat → Prop} {H0 : Heap} {a : Array Value} {pc : Nat} {ls : Array Slot} {st0 rest : List Value}
theorem vx_keep {st₀ t T' : State} {L : List Loc} (h0 : st₀.heap = H) (e1 : T'.heap = t.heap) (hS : va_S A0 H0 H locs) (hA : ∀ q, q < H.size → A1 q → A0 q) (hf : ∀ q, free q → A0 q) (hL : ∀ q ∈ L, free q.base) (hF : va_F A1 st₀ t) :
    H.size ≤ T'.heap.size ∧ (∀ q : Nat, q < H.size → ¬ A1 q → T'.heap[q]? = H[q]?) ∧ va_S A0 H0 T'.heap (locs ++ L) := by
  obtain ⟨hz, hk⟩ := hF
  rw [h0] at hz hk
  exact ⟨by rw [e1]; exact hz, fun q h1 h2 => by rw [e1]; exact hk q h1 h2,
    ⟨Nat.le_trans hS.1 (by rw [e1]; exact hz), fun q h1 h2 => by rw [e1, hk q (Nat.lt_of_lt_of_le h1 hS.1) (fun z => h2 (hA q (Nat.lt_of_lt_of_le h1 hS.1) z))]; exact hS.2.1 q h1 h2, fun q hq => by
      rcases List.mem_append.mp hq with h | h
      · exact hS.2.2 q h
      · exact hf _ (hL q h)⟩⟩
theorem vx_calli {S SX : Type} {post : Int32 → S → Prop} {px : SX → Prop} {B : S → State → Prop} {BX : String → SX → State → Prop} {AX : Nat → Prop} (hr : vx_Run p l e R s m args below meth c H locs cells slots mc ms (F0 m pc ls st0) rest (va_Qi post B A1 a) (vx_X px BX AX) free) (hS : va_S A0 H0 H locs) (hA : ∀ q, q < H.size → A1 q → A0 q) (hf : ∀ q, free q → A0 q) (hAX : ∀ q, q < H.size → AX q → A0 q)
    (kx : ∀ (E : String) (ce : Cell) (q9 : Addr) (u : SX) (t : State) (H1 : Heap) (locs1 : List Loc), t.heap = H1 → s.vm.Alike t.vm → px u → BX E u t → H.size ≤ H1.size → (∀ q : Nat, q < H.size → ¬ AX q → H1[q]? = H[q]?) → va_S A0 H0 H1 locs1 → H1[q9]? = some ce → ce.vm = .none → s.vm.findClass E = some ce.cls → vx_W p l e R s m args below meth c H1 locs1 (cells + mc) (slots + ms) Q (F0 m pc ls rest) q9)
    (kk : ∀ (r : Int32) (u : S) (t : State) (H1 : Heap) (locs1 : List Loc), t.heap = H1 → s.vm.Alike t.vm → post r u → B u t → H.size ≤ H1.size → (∀ q : Nat, q < H.size → ¬ A1 q → H1[q]? = H[q]?) → va_S A0 H0 H1 locs1 → W p l e R s m args below meth c H1 locs1 (cells + mc) (slots + ms) Q (F0 m (pc + 3) ls (.int r :: rest))) : W p l e R s m args below meth c H locs cells slots Q (F0 m pc ls st0) := by
  intro T hT X
  rcases hr T hT X with ⟨v, st₀, t, T', L, h0, X', hL, e1, e2, ⟨⟨r, u, hv, hp, hb⟩, hF⟩, st⟩ | ⟨q, st₀, t, T', L, E, ce, h0, X', hL, e1, e2, ⟨u, hp, hb, hF⟩, hce, hcv, hcl, st⟩
  · cases hv
    obtain ⟨k1, k2, k3⟩ := vx_keep h0 e1 hS hA hf hL hF
    obtain ⟨t2, a1, b1⟩ := kk r u t T'.heap (locs ++ L) e1.symm (by rw [← e2]; exact X'.warmed.alike) hp hb k1 k2 k3 T' rfl X'
    exact ⟨t2, st t2 a1, b1⟩
  · obtain ⟨k1, k2, k3⟩ := vx_keep h0 e1 hS hAX hf hL hF
    obtain ⟨t2, a1, b1⟩ := kx E ce q u t T'.heap (locs ++ L) e1.symm (by rw [← e2]; exact X'.warmed.alike) hp hb k1 k2 k3 (by rw [e1]; exact hce) hcv hcl T' rfl X'
    exact ⟨t2, st.trans a1, b1⟩
theorem vx_calll {S SX : Type} {post : Int64 → S → Prop} {px : SX → Prop} {B : S → State → Prop} {BX : String → SX → State → Prop} {AX : Nat → Prop} (hr : vx_Run p l e R s m args below meth c H locs cells slots mc ms (F0 m pc ls st0) rest (va_Ql post B A1 a) (vx_X px BX AX) free) (hS : va_S A0 H0 H locs) (hA : ∀ q, q < H.size → A1 q → A0 q) (hf : ∀ q, free q → A0 q) (hAX : ∀ q, q < H.size → AX q → A0 q)
    (kx : ∀ (E : String) (ce : Cell) (q9 : Addr) (u : SX) (t : State) (H1 : Heap) (locs1 : List Loc), t.heap = H1 → s.vm.Alike t.vm → px u → BX E u t → H.size ≤ H1.size → (∀ q : Nat, q < H.size → ¬ AX q → H1[q]? = H[q]?) → va_S A0 H0 H1 locs1 → H1[q9]? = some ce → ce.vm = .none → s.vm.findClass E = some ce.cls → vx_W p l e R s m args below meth c H1 locs1 (cells + mc) (slots + ms) Q (F0 m pc ls rest) q9)
    (kk : ∀ (r : Int64) (u : S) (t : State) (H1 : Heap) (locs1 : List Loc), t.heap = H1 → s.vm.Alike t.vm → post r u → B u t → H.size ≤ H1.size → (∀ q : Nat, q < H.size → ¬ A1 q → H1[q]? = H[q]?) → va_S A0 H0 H1 locs1 → W p l e R s m args below meth c H1 locs1 (cells + mc) (slots + ms) Q (F0 m (pc + 3) ls (.long r :: rest))) : W p l e R s m args below meth c H locs cells slots Q (F0 m pc ls st0) := by
  intro T hT X
  rcases hr T hT X with ⟨v, st₀, t, T', L, h0, X', hL, e1, e2, ⟨⟨r, u, hv, hp, hb⟩, hF⟩, st⟩ | ⟨q, st₀, t, T', L, E, ce, h0, X', hL, e1, e2, ⟨u, hp, hb, hF⟩, hce, hcv, hcl, st⟩
  · cases hv
    obtain ⟨k1, k2, k3⟩ := vx_keep h0 e1 hS hA hf hL hF
    obtain ⟨t2, a1, b1⟩ := kk r u t T'.heap (locs ++ L) e1.symm (by rw [← e2]; exact X'.warmed.alike) hp hb k1 k2 k3 T' rfl X'
    exact ⟨t2, st t2 a1, b1⟩
  · obtain ⟨k1, k2, k3⟩ := vx_keep h0 e1 hS hAX hf hL hF
    obtain ⟨t2, a1, b1⟩ := kx E ce q u t T'.heap (locs ++ L) e1.symm (by rw [← e2]; exact X'.warmed.alike) hp hb k1 k2 k3 (by rw [e1]; exact hce) hcv hcl T' rfl X'
    exact ⟨t2, st.trans a1, b1⟩
theorem vx_callf {S SX : Type} {post : UInt32 → S → Prop} {px : SX → Prop} {B : S → State → Prop} {BX : String → SX → State → Prop} {AX : Nat → Prop} (hr : vx_Run p l e R s m args below meth c H locs cells slots mc ms (F0 m pc ls st0) rest (va_Qf post B A1 a) (vx_X px BX AX) free) (hS : va_S A0 H0 H locs) (hA : ∀ q, q < H.size → A1 q → A0 q) (hf : ∀ q, free q → A0 q) (hAX : ∀ q, q < H.size → AX q → A0 q)
    (kx : ∀ (E : String) (ce : Cell) (q9 : Addr) (u : SX) (t : State) (H1 : Heap) (locs1 : List Loc), t.heap = H1 → s.vm.Alike t.vm → px u → BX E u t → H.size ≤ H1.size → (∀ q : Nat, q < H.size → ¬ AX q → H1[q]? = H[q]?) → va_S A0 H0 H1 locs1 → H1[q9]? = some ce → ce.vm = .none → s.vm.findClass E = some ce.cls → vx_W p l e R s m args below meth c H1 locs1 (cells + mc) (slots + ms) Q (F0 m pc ls rest) q9)
    (kk : ∀ (r : UInt32) (u : S) (t : State) (H1 : Heap) (locs1 : List Loc), t.heap = H1 → s.vm.Alike t.vm → post r u → B u t → H.size ≤ H1.size → (∀ q : Nat, q < H.size → ¬ A1 q → H1[q]? = H[q]?) → va_S A0 H0 H1 locs1 → W p l e R s m args below meth c H1 locs1 (cells + mc) (slots + ms) Q (F0 m (pc + 3) ls (.float r :: rest))) : W p l e R s m args below meth c H locs cells slots Q (F0 m pc ls st0) := by
  intro T hT X
  rcases hr T hT X with ⟨v, st₀, t, T', L, h0, X', hL, e1, e2, ⟨⟨r, u, hv, hp, hb⟩, hF⟩, st⟩ | ⟨q, st₀, t, T', L, E, ce, h0, X', hL, e1, e2, ⟨u, hp, hb, hF⟩, hce, hcv, hcl, st⟩
  · cases hv
    obtain ⟨k1, k2, k3⟩ := vx_keep h0 e1 hS hA hf hL hF
    obtain ⟨t2, a1, b1⟩ := kk r u t T'.heap (locs ++ L) e1.symm (by rw [← e2]; exact X'.warmed.alike) hp hb k1 k2 k3 T' rfl X'
    exact ⟨t2, st t2 a1, b1⟩
  · obtain ⟨k1, k2, k3⟩ := vx_keep h0 e1 hS hAX hf hL hF
    obtain ⟨t2, a1, b1⟩ := kx E ce q u t T'.heap (locs ++ L) e1.symm (by rw [← e2]; exact X'.warmed.alike) hp hb k1 k2 k3 (by rw [e1]; exact hce) hcv hcl T' rfl X'
    exact ⟨t2, st.trans a1, b1⟩
theorem vx_calld {S SX : Type} {post : UInt64 → S → Prop} {px : SX → Prop} {B : S → State → Prop} {BX : String → SX → State → Prop} {AX : Nat → Prop} (hr : vx_Run p l e R s m args below meth c H locs cells slots mc ms (F0 m pc ls st0) rest (va_Qd post B A1 a) (vx_X px BX AX) free) (hS : va_S A0 H0 H locs) (hA : ∀ q, q < H.size → A1 q → A0 q) (hf : ∀ q, free q → A0 q) (hAX : ∀ q, q < H.size → AX q → A0 q)
    (kx : ∀ (E : String) (ce : Cell) (q9 : Addr) (u : SX) (t : State) (H1 : Heap) (locs1 : List Loc), t.heap = H1 → s.vm.Alike t.vm → px u → BX E u t → H.size ≤ H1.size → (∀ q : Nat, q < H.size → ¬ AX q → H1[q]? = H[q]?) → va_S A0 H0 H1 locs1 → H1[q9]? = some ce → ce.vm = .none → s.vm.findClass E = some ce.cls → vx_W p l e R s m args below meth c H1 locs1 (cells + mc) (slots + ms) Q (F0 m pc ls rest) q9)
    (kk : ∀ (r : UInt64) (u : S) (t : State) (H1 : Heap) (locs1 : List Loc), t.heap = H1 → s.vm.Alike t.vm → post r u → B u t → H.size ≤ H1.size → (∀ q : Nat, q < H.size → ¬ A1 q → H1[q]? = H[q]?) → va_S A0 H0 H1 locs1 → W p l e R s m args below meth c H1 locs1 (cells + mc) (slots + ms) Q (F0 m (pc + 3) ls (.double r :: rest))) : W p l e R s m args below meth c H locs cells slots Q (F0 m pc ls st0) := by
  intro T hT X
  rcases hr T hT X with ⟨v, st₀, t, T', L, h0, X', hL, e1, e2, ⟨⟨r, u, hv, hp, hb⟩, hF⟩, st⟩ | ⟨q, st₀, t, T', L, E, ce, h0, X', hL, e1, e2, ⟨u, hp, hb, hF⟩, hce, hcv, hcl, st⟩
  · cases hv
    obtain ⟨k1, k2, k3⟩ := vx_keep h0 e1 hS hA hf hL hF
    obtain ⟨t2, a1, b1⟩ := kk r u t T'.heap (locs ++ L) e1.symm (by rw [← e2]; exact X'.warmed.alike) hp hb k1 k2 k3 T' rfl X'
    exact ⟨t2, st t2 a1, b1⟩
  · obtain ⟨k1, k2, k3⟩ := vx_keep h0 e1 hS hAX hf hL hF
    obtain ⟨t2, a1, b1⟩ := kx E ce q u t T'.heap (locs ++ L) e1.symm (by rw [← e2]; exact X'.warmed.alike) hp hb k1 k2 k3 (by rw [e1]; exact hce) hcv hcl T' rfl X'
    exact ⟨t2, st.trans a1, b1⟩
theorem vx_callv {S SX : Type} {post : S → Prop} {px : SX → Prop} {B : S → State → Prop} {BX : String → SX → State → Prop} {AX : Nat → Prop} (hr : vx_Run p l e R s m args below meth c H locs cells slots mc ms (F0 m pc ls st0) rest (va_Qv post B A1 a) (vx_X px BX AX) free) (hS : va_S A0 H0 H locs) (hA : ∀ q, q < H.size → A1 q → A0 q) (hf : ∀ q, free q → A0 q) (hAX : ∀ q, q < H.size → AX q → A0 q)
    (kx : ∀ (E : String) (ce : Cell) (q9 : Addr) (u : SX) (t : State) (H1 : Heap) (locs1 : List Loc), t.heap = H1 → s.vm.Alike t.vm → px u → BX E u t → H.size ≤ H1.size → (∀ q : Nat, q < H.size → ¬ AX q → H1[q]? = H[q]?) → va_S A0 H0 H1 locs1 → H1[q9]? = some ce → ce.vm = .none → s.vm.findClass E = some ce.cls → vx_W p l e R s m args below meth c H1 locs1 (cells + mc) (slots + ms) Q (F0 m pc ls rest) q9)
    (kk : ∀ (u : S) (t : State) (H1 : Heap) (locs1 : List Loc), t.heap = H1 → s.vm.Alike t.vm → post u → B u t → H.size ≤ H1.size → (∀ q : Nat, q < H.size → ¬ A1 q → H1[q]? = H[q]?) → va_S A0 H0 H1 locs1 → W p l e R s m args below meth c H1 locs1 (cells + mc) (slots + ms) Q (F0 m (pc + 3) ls (rest))) : W p l e R s m args below meth c H locs cells slots Q (F0 m pc ls st0) := by
  intro T hT X
  rcases hr T hT X with ⟨v, st₀, t, T', L, h0, X', hL, e1, e2, ⟨⟨u, hv, hp, hb⟩, hF⟩, st⟩ | ⟨q, st₀, t, T', L, E, ce, h0, X', hL, e1, e2, ⟨u, hp, hb, hF⟩, hce, hcv, hcl, st⟩
  · cases hv
    obtain ⟨k1, k2, k3⟩ := vx_keep h0 e1 hS hA hf hL hF
    obtain ⟨t2, a1, b1⟩ := kk u t T'.heap (locs ++ L) e1.symm (by rw [← e2]; exact X'.warmed.alike) hp hb k1 k2 k3 T' rfl X'
    exact ⟨t2, st t2 a1, b1⟩
  · obtain ⟨k1, k2, k3⟩ := vx_keep h0 e1 hS hAX hf hL hF
    obtain ⟨t2, a1, b1⟩ := kx E ce q u t T'.heap (locs ++ L) e1.symm (by rw [← e2]; exact X'.warmed.alike) hp hb k1 k2 k3 (by rw [e1]; exact hce) hcv hcl T' rfl X'
    exact ⟨t2, st.trans a1, b1⟩
/-- caught by the row x of this method's table; the rows ahead don't take it -/
theorem vx_catch {own name : String} {E : String} {ce : Cell} {q : Addr} (hown : s.vm.findClass own = some m.cls) (pre : List ExceptionTableEntry) (x : ExceptionTableEntry) (suf : List ExceptionTableEntry) (hsplit : c.exceptionTable.toList = pre ++ x :: suf)
    (hpass : ∀ z ∈ pre, covers z pc = false ∨ (z.catchType ≠ 0 ∧ ∃ nm : String, (Cond.classLink own z.catchType nm).before args s = true ∧ va_Nc E nm s)) (hx : covers x pc = true) (h0 : x.catchType ≠ 0)
    (hlink : (Cond.classLink own x.catchType name).before args s = true) (hcast : (Cond.castable E name).before args s = true) (hcell : H[q]? = some ce) (hv : ce.vm = .none) (hcl : s.vm.findClass E = some ce.cls)
    (kk : W p l e R s m args below meth c H locs cells slots Q (F0 m x.handlerPc ls [.ref q])) : vx_W p l e R s m args below meth c H locs cells slots Q (F0 m pc ls rest) q := by
  intro T hT X
  have hpl : e.platform.magicAccessors = ({} : Platform).magicAccessors := by rw [X.admits.platform]
  obtain ⟨c3, c4, hc3, hc4, hasg⟩ := Cond.castable_spec hcast
  cases Option.some.inj (hc3.symm.trans hcl)
  obtain ⟨c5, hc5, hcl5⟩ := Cond.classLink_spec hown hlink e.platform hpl
  cases Option.some.inj (hc4.symm.trans hc5)
  obtain ⟨vm', X', st⟩ := X.thenCaughtThrough q (g := F0 m pc ls rest) rfl (Steps.refl _) (by rw [hT]; exact hcell) (by rw [hv]; rfl) (by obtain ⟨k9, h9, -⟩ := Vm.findClass_spec hcl; exact ⟨k9, h9⟩) pre x suf hsplit
    (fun z hz => by
      rcases hpass z hz with h | ⟨hz0, nm, hl1, hn1⟩
      · exact Or.inl h
      · obtain ⟨c6, hc6, hcl6⟩ := Cond.classLink_spec hown hl1 e.platform hpl
        obtain ⟨a8, b8, h1, h2, h3⟩ := hn1
        cases Option.some.inj (h1.symm.trans hcl)
        cases Option.some.inj (h2.symm.trans hc6)
        exact Or.inr ⟨hz0, _, hcl6, h3⟩) hx (Or.inr ⟨h0, c4, hcl5, hasg⟩)
  obtain ⟨t, a1, b1⟩ := kk (T.setVm vm') hT X'
  exact ⟨t, st.trans a1, b1⟩
end Rows
section Ends
variable {p : Program} {l : Launch} {e : Env} {R : Room} {s : State} {m : MethodId} {args : Array Value} {below : List Frame} {meth : Method} {c : Code} {H : Heap} {locs : List Loc} {cells slots : Nat} {Q : State → Prop}
variable {mc ms : Nat} {free : Addr → Prop} {A0 A1 : Nat → Prop} {H0 : Heap} {a : Array Value} {ls : Array Slot} {st0 rest : List Value}
variable {Qc : Array Value → State → Outcome → State → Prop} {XC : String → State → State → Prop}
/-- what a body that may throw owes at its end -/
def vx_MQ (below : List Frame) (Qc : Array Value → State → Outcome → State → Prop) (XC : String → State → State → Prop) (a : Array Value) (s : State) (mc ms : Nat) (free : Addr → Prop) : State → Prop := fun t =>
  ∃ o, t.status = .running ∧ Ended t below o ∧ vx_Q Qc XC mc ms free a s o t
theorem vx_ret {g : JFrame} {mc ms : Nat} (k : W p l e R s m args below meth c H locs cells slots (MQ below Qc args s mc ms free) g) : W p l e R s m args below meth c H locs cells slots (vx_MQ below Qc XC args s mc ms free) g := by
  intro T hT X
  obtain ⟨t, a1, o, b1, b2, b3, b4⟩ := k T hT X
  exact ⟨t, a1, o, b1, b2, Or.inl ⟨b3, b4⟩⟩
/-- not caught here: it goes on to the caller -/
theorem vx_widen {g : JFrame} {q : Addr} {k n : Nat} (h1 : cells ≤ k) (h2 : slots ≤ n) (kk : vx_W p l e R s m args below meth c H locs k n Q g q) : vx_W p l e R s m args below meth c H locs cells slots Q g q := fun T hT X => kk T hT (stand_widen X h1 h2)
theorem vx_out {pc : Nat} {E : String} {ce : Cell} {q : Addr} {mc ms : Nat} (hout : ∀ x ∈ c.exceptionTable.toList, covers x pc = false) (hlocks : meth.locks = false) (hcell : H[q]? = some ce) (hv : ce.vm = .none) (hcl : s.vm.findClass E = some ce.cls)
    (hx : ∀ t : State, t.heap = H → s.vm.Alike t.vm → XC E s t) (hf : ∀ z ∈ locs, free z.base) (hc : cells ≤ mc) (hs : slots ≤ ms) :
    vx_W p l e R s m args below meth c H locs cells slots (vx_MQ below Qc XC args s mc ms free) (F0 m pc ls rest) q := by
  intro T hT X
  obtain ⟨st1, hrun, hend, hW, hsm⟩ := X.leaveThrown q (g := F0 m pc ls rest) rfl rfl rfl hout hlocks
  have hcell9 : (T.setFrames (.throwing q :: below)).heap[q]? = some ce := by
    show T.heap[q]? = some ce
    rw [hT]; exact hcell
  exact ⟨_, st1, .threw q, hrun, hend, Or.inr ⟨q, rfl, E, ce, locs, hx _ hT hW.alike, hcell9, hv, hcl, hW, hsm.mono hc hs, hf⟩⟩
theorem vx_frame {U : State} {k n : Nat} (h : s.sameButNew ({ U with vm := s.vm } : State) locs k n) : s.heap.size ≤ U.heap.size ∧ ∀ q : Nat, q < s.heap.size → (∀ z ∈ locs, z.base ≠ q) → U.heap[q]? = s.heap[q]? := by
  obtain ⟨-, h2, -, -, -, h6⟩ := h
  refine ⟨h2, fun q hq hz => ?_⟩
  obtain ⟨c9, e1, e2, e3, e4⟩ := h6 q _ (Array.getElem?_eq_getElem hq)
  have hs : c9.slots = (s.heap[q]).slots := Array.ext_getElem? fun i => e4 i fun hm => hz _ hm rfl
  have h9 : c9 = s.heap[q] := by
    rw [hs] at e2
    exact e2
  have e5 : U.heap[q]? = some c9 := e1
  rw [e5, h9, Array.getElem?_eq_getElem hq]
/-- the words of a throw but the four that speak of the heap -/
def vx_no (w : Cond) : Bool := decide (w ≠ .isRef (.static Bundle.tN "UNASSIGNED_STACK" Bundle.steD)) && decide (w ≠ .isRef (.static Bundle.tN "SUPPRESSED_SENTINEL" Bundle.listD)) && decide (w ≠ .laysStatic Bundle.tN "UNASSIGNED_STACK" Bundle.steD) && decide (w ≠ .laysStatic Bundle.tN "SUPPRESSED_SENTINEL" Bundle.listD)
def vx_at0 (own : String) (ic : Nat) (X : String) (names : List String) : List Cond := (Bundle.ownAtoms0 own ic X names).filter vx_no
def vx_atS (own : String) (ic : Nat) (X : String) (names : List String) : List Cond := (Bundle.ownAtoms own ic X names).filter vx_no
/-- a word that the tables alone decide, or a good one -/
def vx_ot (w : Cond) : Bool := w.onTables || goodWord w
theorem vx_ot_at {args a' : Array Value} {s U : State} {w : Cond} (hW : s.WarmedH U.vm) (hvm : s.vm = U.vm) (hg : vx_ot w = true) (h : w.before args s = true) : w.before a' U = true := by
  simp only [vx_ot, Bool.or_eq_true] at hg
  rcases hg with hg | hg
  · exact va_tabs hg hvm h
  · exact word_at hW (good_of_word hg) h
/-- a list's words: the good ones out of the method's own list, the others by premises of their own -/
theorem vx_hat {args : Array Value} {s : State} {L B : List Cond} (h1 : ∀ w ∈ L.filter goodWord, w.before args s = true) (h2 : ∀ w ∈ L.filter (fun w => !goodWord w), w ∈ B) (h3 : ∀ w ∈ B, w.before args s = true) : ∀ w ∈ L, w.before args s = true := by
  intro w hw
  by_cases g : goodWord w = true
  · exact h1 w (List.mem_filter.mpr ⟨hw, g⟩)
  · refine h3 w (h2 w (List.mem_filter.mpr ⟨hw, ?_⟩))
    show (!goodWord w) = true
    cases hgw : goodWord w
    · rfl
    · exact absurd hgw g
theorem vx_c {args : Array Value} {s : State} {w : Cond} {B : List Cond} (h : w.before args s = true) (t : ∀ w ∈ B, w.before args s = true) : ∀ w' ∈ w :: B, w'.before args s = true := fun w' h' => (List.mem_cons.mp h').elim (fun e => by rw [e]; exact h) (t w')
theorem vx_n {args : Array Value} {s : State} : ∀ w ∈ ([] : List Cond), w.before args s = true := fun _ h => nomatch h
theorem vx_own {args : Array Value} {s : State} {L : List Cond} (h1 : ∀ w ∈ L.filter vx_no, w.before args s = true)
    (hU : (Cond.isRef (.static Bundle.tN "UNASSIGNED_STACK" Bundle.steD)).before args s = true) (hN : (Cond.isRef (.static Bundle.tN "SUPPRESSED_SENTINEL" Bundle.listD)).before args s = true)
    (lU : (Cond.laysStatic Bundle.tN "UNASSIGNED_STACK" Bundle.steD).before args s = true) (lN : (Cond.laysStatic Bundle.tN "SUPPRESSED_SENTINEL" Bundle.listD).before args s = true) : ∀ w ∈ L, w.before args s = true := by
  intro w hw
  by_cases e1 : w = .isRef (.static Bundle.tN "UNASSIGNED_STACK" Bundle.steD)
  · rw [e1]; exact hU
  · by_cases e2 : w = .isRef (.static Bundle.tN "SUPPRESSED_SENTINEL" Bundle.listD)
    · rw [e2]; exact hN
    · by_cases e3 : w = .laysStatic Bundle.tN "UNASSIGNED_STACK" Bundle.steD
      · rw [e3]; exact lU
      · by_cases e4 : w = .laysStatic Bundle.tN "SUPPRESSED_SENTINEL" Bundle.listD
        · rw [e4]; exact lN
        · exact h1 w (List.mem_filter.mpr ⟨hw, by unfold vx_no; rw [decide_eq_true e1, decide_eq_true e2, decide_eq_true e3, decide_eq_true e4]; rfl⟩)
/-- where a static field lies, its class's statics cell in H -/
def vx_L (C n d : String) (A : Nat → Prop) (U : State) (H : Heap) : Prop := ∃ (c : ClassId) (k : Class) (i : Nat) (f : Field) (a : Nat) (cell : Cell), U.vm.findClass C = some c ∧ U.fieldFound? C n d = some (c, k, i, f) ∧ f.isStatic = true ∧ k.statics = some a ∧ H[a]? = some cell ∧ cell.vm.isStatics = true ∧ cell.cls = c ∧ f.slot < cell.slots.size ∧ k.staticTypes[f.slot]? = some f.type ∧ ¬ A a
theorem vx_L.moved {C n d : String} {A : Nat → Prop} {u U : State} {H : Heap} (hvm : u.vm.Alike U.vm) (h : vx_L C n d A u H) : vx_L C n d A U H := by
  obtain ⟨c, k, i, f, a, cell, h1, h2, h3, h4, h5, h6, h7, h8, h9, h10⟩ := h
  obtain ⟨k', hi', he⟩ := State.fieldFound?_setVm hvm h2
  exact ⟨c, k', i, f, a, cell, by rw [hvm.findClass]; exact h1, hi', h3, by rw [he]; exact h4, h5, h6, h7, h8, by rw [he]; exact h9, h10⟩
theorem vx_L.kept {C n d : String} {A : Nat → Prop} {U : State} {H H1 : Heap} (h : vx_L C n d A U H) (hq : ∀ a : Nat, a < H.size → ¬ A a → H1[a]? = H[a]?) : vx_L C n d A U H1 := by
  obtain ⟨c, k, i, f, a, cell, h1, h2, h3, h4, h5, h6, h7, h8, h9, h10⟩ := h
  exact ⟨c, k, i, f, a, cell, h1, h2, h3, h4, by rw [hq a (Array.getElem?_eq_some_iff.mp h5).1 h10]; exact h5, h6, h7, h8, h9, h10⟩
theorem vx_L.narrow {C n d : String} {A B : Nat → Prop} {U : State} {H : Heap} (h : vx_L C n d A U H) (hAB : ∀ q, B q → A q) : vx_L C n d B U H := by
  obtain ⟨c, k, i, f, a, cell, h1, h2, h3, h4, h5, h6, h7, h8, h9, h10⟩ := h
  exact ⟨c, k, i, f, a, cell, h1, h2, h3, h4, h5, h6, h7, h8, h9, fun z => h10 (hAB _ z)⟩
theorem vx_L.word {C n d : String} {A : Nat → Prop} {s : State} {args : Array Value} (h : vx_L C n d A s s.heap) : (Cond.laysStatic C n d).before args s = true := by
  obtain ⟨c, k, i, f, a, cell, h1, h2, h3, h4, h5, h6, h7, h8, h9, -⟩ := h
  show (Cond.laysStatic C n d).holds args s none s [] = true
  exact Cond.laysStatic_of h1 h2 h3 h4 h5 h6 h7 h8 h9
/-- .. and what it holds: null or some reference -/
def vx_Zq (C n d : String) (A : Nat → Prop) (U : State) (H : Heap) : Prop := va_Zq C n d A U H ∧ vx_L C n d A U H
theorem vx_Zq.moved {C n d : String} {A : Nat → Prop} {u U : State} {H : Heap} (hvm : u.vm.Alike U.vm) (h : vx_Zq C n d A u H) : vx_Zq C n d A U H := ⟨va_Zq.moved hvm h.1, vx_L.moved hvm h.2⟩
theorem vx_Zq.kept {C n d : String} {A : Nat → Prop} {U : State} {H H1 : Heap} (h : vx_Zq C n d A U H) (hq : ∀ a : Nat, a < H.size → ¬ A a → H1[a]? = H[a]?) : vx_Zq C n d A U H1 := ⟨va_Zq.kept h.1 hq, vx_L.kept h.2 hq⟩
theorem vx_Zq.narrow {C n d : String} {A B : Nat → Prop} {U : State} {H : Heap} (h : vx_Zq C n d A U H) (hAB : ∀ q, B q → A q) : vx_Zq C n d B U H := ⟨va_Zq.narrow h.1 hAB, vx_L.narrow h.2 hAB⟩
theorem vx_Zqof {args : Array Value} {s : State} {C n d : String} {A : Nat → Prop} (hl : (Cond.laysStatic C n d).before args s = true) (hini : (Cond.initialized C).before args s = true) (h : (Cond.isRef (.static C n d)).before args s = true) (hA : ∀ a : Nat, a < s.heap.size → ¬ A a) : vx_Zq C n d A s s.heap := by
  refine ⟨va_Zqof hl hini h hA, ?_⟩
  obtain ⟨c, k, i, f, a, cell, h1, h2, h3, h4, h5, h6, h7, h8, h9⟩ := Cond.laysStatic_spec hl
  exact ⟨c, k, i, f, a, cell, h1, h2, h3, h4, h5, h6, h7, h8, h9, hA a (Array.getElem?_eq_some_iff.mp h5).1⟩
theorem vx_isRef {C n d : String} {v : Value} {A : Nat → Prop} {s : State} {args : Array Value} (h : va_Z C n d v A s s.heap) (hv : v.isRef = true) : (Cond.isRef (.static C n d)).before args s = true := by
  obtain ⟨cf, kf, fi, f, a, cell, h1, h2, h3, h4, h5, h6, h7, -⟩ := h
  have he : (Term.static C n d).eval args s none [] s = some v := by
    simp [Term.eval, State.fieldNamed?, h1, h2, h4, h5, h6, h7]
  simp only [Cond.before, Cond.holds, Cond.value, he]
  cases v <;> simp_all [Value.isRef]
theorem vx_isRefq {C n d : String} {A : Nat → Prop} {s : State} {args : Array Value} (h : va_Zq C n d A s s.heap) : (Cond.isRef (.static C n d)).before args s = true := by
  rcases h with h | ⟨t, h⟩
  · exact vx_isRef h rfl
  · exact vx_isRef h rfl
/-- the same frame, seen from here: as if the method were called anew in this heap -/
theorem vx_rebase {T : State} (X : Stand p l e R s m args below meth c T locs cells slots) {R' : Room} (hf : R'.frames ≤ R.frames) (hl : R'.locals ≤ R.locals) (hc : cells + R'.cells ≤ R.cells) (hs : slots + R'.slots ≤ R.slots) :
    Stand p l e R' ((T.setVm s.vm).setFrames (.invoking m args :: below)) m args below meth c T [] 0 0 := by
  have htop : (T.setVm s.vm).topJava?.isSome := X.here.top
  have hF : ((T.setVm s.vm).setFrames (.invoking m args :: below)).frames = .invoking m args :: below := State.frames_setFrames _ (State.cur_lt_of_top htop)
  obtain ⟨g₀, hg0⟩ := Option.isSome_iff_exists.mp htop
  obtain ⟨r, hr⟩ := State.topJava?_eq_some.mp hg0
  have hl9 : e.platform.stackLimits (T.setVm s.vm).me = e.platform.stackLimits s.me := X.limits
  have hb9 : (T.setVm s.vm).me.stackBytes = s.me.stackBytes := X.bytes
  refine ⟨X.admits, X.cas, X.clock, hF, ?_, X.hears, X.method, X.code, X.here, X.tail, X.warmed, ?_, ?_, ?_⟩
  · have h := X.room
    have hU : ((T.setVm s.vm).setFrames (.invoking m args :: below)).localsInUse = s.localsInUse := by
      rw [State.localsInUse_invoking hF (meth := meth) (c := c) X.method X.code, State.localsInUse_invoking X.frames X.method X.code]
    simp only [State.hasRoom, Bool.and_eq_true, decide_eq_true_eq] at h ⊢
    obtain ⟨⟨⟨⟨h1, h2, h3, h4, h5, h6⟩, h7⟩, h8⟩, h9⟩ := h
    rw [X.frames, List.length_cons] at h2 h3
    have q1 := X.heapSize
    have q2 := X.used
    simp only [hF, hU, List.length_cons, State.stackLimits_setFrames, State.stackBytes_setFrames, hl9, hb9]
    refine ⟨⟨⟨⟨by omega, by omega, by omega, by omega, by omega, h6⟩, ?_⟩, ?_⟩, X.book⟩
    · show T.heap.size + R'.cells ≤ e.platform.maxCells
      omega
    · show T.slotsUsed + R'.slots ≤ e.platform.maxSlots
      omega
  · rw [State.stackLimits_setFrames]; rfl
  · rw [State.stackBytes_setFrames]; rfl
  · refine ⟨?_, Nat.le_refl _, Nat.le_refl _, ?_, ?_, fun a c9 h9 => ⟨c9, h9, rfl, rfl, fun _ _ => rfl⟩⟩
    · obtain ⟨t, ht, -⟩ := State.frames_cons hr
      show T.setVm s.vm = { ((T.setVm s.vm).setFrames (.invoking m args :: below)).setFrames (T.setVm s.vm).frames with heap := T.heap, slotsUsed := T.slotsUsed }
      rw [State.setFrames_setFrames, State.setFrames_self ht]
      rfl
    · show T.slotsUsed = T.slotsUsed + ((T.heap.toList.drop T.heap.size).map (·.slots.size)).sum
      rw [List.drop_eq_nil_of_le (Nat.le_of_eq Array.length_toList)]
      rfl
    · show ((T.heap.toList.drop T.heap.size).map (·.slots.size)).sum ≤ 0
      rw [List.drop_eq_nil_of_le (Nat.le_of_eq Array.length_toList)]
      exact Nat.le_refl _
/-- 'throw new E()': new; dup; invokespecial; athrow -/
theorem vx_throw0 {cc : ByteArray} {pc : Nat} (hexec : p.tables.exec = Jvm.exec) (hb : c.code = cc) (hl : l.stackTraces = false) {own cls : String} {names : List String} {ik ic mc ms : Nat} {A : Nat → Prop}
    (hown : s.vm.findClass own = some m.cls) (hcls : Bundle.fit cls = true) (hnames : ∀ n ∈ names, Bundle.fit n = true)
    (hk : (Cond.classLink own ik cls).before args s = true) (hini : (Cond.initialized cls).before args s = true) (hat : ∀ w ∈ vx_at0 own ic cls names, w.before args s = true)
    (hgood : ∀ w ∈ Cond.classLink own ik cls :: Cond.initialized cls :: vx_at0 own ic cls names, vx_ot w = true)
    (hU : vx_Zq Bundle.tN "UNASSIGNED_STACK" Bundle.steD A s s.heap) (hN : vx_Zq Bundle.tN "SUPPRESSED_SENTINEL" Bundle.listD A s s.heap) (hS : va_S A s.heap H locs) (hsize : ls.size = c.maxLocals)
    (d0 : decode cc pc = .ok (.new ik, 3)) (d3 : decode cc (pc + 3) = .ok (.dup, 1)) (d4 : decode cc (pc + 4) = .ok (.invokespecial ic, 3)) (d7 : decode cc (pc + 7) = .ok (.athrow, 1))
    (hout : ∀ x ∈ c.exceptionTable.toList, covers x (pc + 7) = false)
    (hRframes : names.length + 3 < R.frames) (hRlocals : (rest.map fun v => v.category).sum + (13 * (names.length + 1) + 42) ≤ R.locals) (hRcells : cells + 1 ≤ R.cells) (hRslots : slots + 6 ≤ R.slots) (hlocks : meth.locks = false)
    (hx : ∀ t : State, s.vm.Alike t.vm → H.size ≤ t.heap.size → (∀ q : Nat, q < H.size → t.heap[q]? = H[q]?) → XC cls s t)
    (hf : ∀ z ∈ locs, free z.base) (hc : cells + 1 ≤ mc) (hs : slots + 6 ≤ ms) :
    W p l e R s m args below meth c H locs cells slots (vx_MQ below Qc XC args s mc ms free) (F0 m pc ls rest) := by
  intro T hT X
  have htr : e.platform.stackTraces = false := (show e.platform.stackTraces = l.stackTraces by rw [X.admits.platform]).trans hl
  have Y := vx_rebase X (R' := { frames := R.frames, locals := R.locals, cells := 1, slots := 6 }) (Nat.le_refl _) (Nat.le_refl _) hRcells hRslots
  obtain ⟨s', hA⟩ : ∃ z, z = (T.setVm s.vm).setFrames (.invoking m args :: below) := ⟨_, rfl⟩
  rw [← hA] at Y
  have hvm : s'.vm = s.vm := by rw [hA]; rfl
  have hhp : s'.heap = H := by rw [hA]; exact hT
  have hW0 : s.WarmedH s'.vm := by rw [hvm]; exact State.WarmedH.refl s
  have hat' : ∀ w ∈ vx_at0 own ic cls names, w.before args s' = true := fun w hw => vx_ot_at hW0 hvm.symm (hgood w (List.mem_cons_of_mem _ (List.mem_cons_of_mem _ hw))) (hat w hw)
  have hk' : (Cond.classLink own ik cls).before args s' = true := vx_ot_at hW0 hvm.symm (hgood _ List.mem_cons_self) hk
  have hini' : (Cond.initialized cls).before args s' = true := vx_ot_at hW0 hvm.symm (hgood _ (List.mem_cons_of_mem _ List.mem_cons_self)) hini
  have hU' : vx_Zq Bundle.tN "UNASSIGNED_STACK" Bundle.steD A s' s'.heap := by rw [hhp]; exact vx_Zq.moved hW0.alike (hU.kept hS.2.1)
  have hN' : vx_Zq Bundle.tN "SUPPRESSED_SENTINEL" Bundle.listD A s' s'.heap := by rw [hhp]; exact vx_Zq.moved hW0.alike (hN.kept hS.2.1)
  have h : ∀ w ∈ Bundle.ownAtoms0 own ic cls names, w.before args s' = true := vx_own hat' (vx_isRefq hU'.1) (vx_isRefq hN'.1) hU'.2.word hN'.2.word
  have hown' : s'.vm.findClass own = some m.cls := by rw [hvm]; exact hown
  have hins : (Cond.instantiable cls 6).before args s' = true := h _ (by simp [Bundle.ownAtoms0])
  obtain ⟨vm₁, cX, kX, hfX, hkX, -, -, X₁, st1⟩ := Y.newCold hexec (own := own) (C := cls) (index := ik) (n := 6) hown' hk' hins hini'
    (g := F0 m pc ls rest) rfl (by rw [hb]; exact d0) (Nat.le_refl _) (Nat.le_refl _)
  generalize hT1 : (T.setVm vm₁).pushCell { cls := cX, slots := kX.instanceTypes.map defaultValue, vm := .none } = T1 at X₁ st1
  have hcat : (Value.ref T.heap.size).category = 1 := rfl
  have hcellA : T1.heap[T.heap.size]? = some (freshCell cX kX) := by rw [← hT1]; exact State.heap_pushCell_size _ _
  have d3' : decode c.code (pc + 3) = .ok (.dup, 1) := by rw [hb]; exact d3
  obtain ⟨U, hsteps, hrun, hend, hW, hsame, ce, hce, hO⟩ := X₁.ctorThrow0 hexec htr (own := own) (cls := cls) (names := names) (ic := ic) hown' hcls hnames h (fun x hx => nomatch hx) hfX hkX hcellA (by rw [hhp, hT]; exact Nat.le_refl _)
    (g := { method := m, pc := pc + 4, locals := ls, stack := .ref T.heap.size :: .ref T.heap.size :: rest, locked := none }) rfl hsize rfl rfl (rest := rest) rfl
    (by rw [hb]; exact d4) (by rw [hb]; exact d7) hout hRframes (by simp only [List.map_cons, List.sum_cons, hcat]; omega) hlocks
  obtain ⟨f1, f2⟩ := vx_frame hsame
  rw [hhp] at f1 f2
  have hWs : s.WarmedH U.vm := State.WarmedH.trans hW0 hW
  have hcl : s.vm.findClass cls = some ce.cls := by
    have h9 := hO.cls
    rw [hvm] at h9
    exact h9
  have hall : s.sameButNew ({ U with vm := s.vm } : State) locs mc ms := by
    subst hA
    obtain ⟨e1, e2⟩ := hsame
    rw [State.setFrames_setFrames] at e1
    have h2 : (T.setVm s.vm).sameButNew ({ U with vm := s.vm } : State) [] (0 + 1) (0 + 6) := ⟨e1, e2⟩
    have h3 := X.same.trans h2
    rw [List.append_nil] at h3
    exact h3.mono hc hs
  refine ⟨U, ?_, .threw T.heap.size, hrun, hend, Or.inr ⟨T.heap.size, rfl, cls, ce, locs, hx U hWs.alike f1 (fun q hq => f2 q hq (fun z hz => nomatch hz)), hce, hO.vm, hcl, hWs, hall, hf⟩⟩
  refine st1 _ ?_
  show Steps p.tables e below (T1.setTop { method := m, pc := pc + 3, locals := ls, stack := .ref T.heap.size :: rest, locked := none }) _
  jvm_step X₁.here [X₁.here.top, hexec, d3', Value.category]
  exact hsteps
/-- 'throw new E("text")': new; dup; ldc; invokespecial; athrow -/
theorem vx_throwS {cc : ByteArray} {pc : Nat} (hexec : p.tables.exec = Jvm.exec) (hb : c.code = cc) (hl : l.stackTraces = false) {own cls text : String} {names : List String} {ik is ic mc ms sa : Nat} {A : Nat → Prop}
    (hown : s.vm.findClass own = some m.cls) (hcls : Bundle.fit cls = true) (hnames : ∀ n ∈ names, Bundle.fit n = true)
    (hk : (Cond.classLink own ik cls).before args s = true) (hini : (Cond.initialized cls).before args s = true) (hstr : vk_R own is text sa s) (hat : ∀ w ∈ vx_atS own ic cls names, w.before args s = true)
    (hgood : ∀ w ∈ Cond.classLink own ik cls :: Cond.initialized cls :: vx_atS own ic cls names, vx_ot w = true)
    (hU : vx_Zq Bundle.tN "UNASSIGNED_STACK" Bundle.steD A s s.heap) (hN : vx_Zq Bundle.tN "SUPPRESSED_SENTINEL" Bundle.listD A s s.heap) (hS : va_S A s.heap H locs) (hsize : ls.size = c.maxLocals)
    (d0 : decode cc pc = .ok (.new ik, 3)) (d3 : decode cc (pc + 3) = .ok (.dup, 1)) (d4 : decode cc (pc + 4) = .ok (.ldc is, 2)) (d6 : decode cc (pc + 6) = .ok (.invokespecial ic, 3)) (d9 : decode cc (pc + 9) = .ok (.athrow, 1))
    (hout : ∀ x ∈ c.exceptionTable.toList, covers x (pc + 9) = false)
    (hRframes : names.length + 3 < R.frames) (hRlocals : (rest.map fun v => v.category).sum + (13 * (names.length + 1) + 43) ≤ R.locals) (hRcells : cells + 1 ≤ R.cells) (hRslots : slots + 6 ≤ R.slots) (hlocks : meth.locks = false)
    (hx : ∀ t : State, s.vm.Alike t.vm → H.size ≤ t.heap.size → (∀ q : Nat, q < H.size → t.heap[q]? = H[q]?) → XC cls s t)
    (hf : ∀ z ∈ locs, free z.base) (hc : cells + 1 ≤ mc) (hs : slots + 6 ≤ ms) :
    W p l e R s m args below meth c H locs cells slots (vx_MQ below Qc XC args s mc ms free) (F0 m pc ls rest) := by
  intro T hT X
  have htr : e.platform.stackTraces = false := (show e.platform.stackTraces = l.stackTraces by rw [X.admits.platform]).trans hl
  have Y := vx_rebase X (R' := { frames := R.frames, locals := R.locals, cells := 1, slots := 6 }) (Nat.le_refl _) (Nat.le_refl _) hRcells hRslots
  obtain ⟨s', hA⟩ : ∃ z, z = (T.setVm s.vm).setFrames (.invoking m args :: below) := ⟨_, rfl⟩
  rw [← hA] at Y
  have hvm : s'.vm = s.vm := by rw [hA]; rfl
  have hhp : s'.heap = H := by rw [hA]; exact hT
  have hW0 : s.WarmedH s'.vm := by rw [hvm]; exact State.WarmedH.refl s
  have hat' : ∀ w ∈ vx_atS own ic cls names, w.before args s' = true := fun w hw => vx_ot_at hW0 hvm.symm (hgood w (List.mem_cons_of_mem _ (List.mem_cons_of_mem _ hw))) (hat w hw)
  have hk' : (Cond.classLink own ik cls).before args s' = true := vx_ot_at hW0 hvm.symm (hgood _ List.mem_cons_self) hk
  have hini' : (Cond.initialized cls).before args s' = true := vx_ot_at hW0 hvm.symm (hgood _ (List.mem_cons_of_mem _ List.mem_cons_self)) hini
  have hU' : vx_Zq Bundle.tN "UNASSIGNED_STACK" Bundle.steD A s' s'.heap := by rw [hhp]; exact vx_Zq.moved hW0.alike (hU.kept hS.2.1)
  have hN' : vx_Zq Bundle.tN "SUPPRESSED_SENTINEL" Bundle.listD A s' s'.heap := by rw [hhp]; exact vx_Zq.moved hW0.alike (hN.kept hS.2.1)
  have h : ∀ w ∈ Bundle.ownAtoms own ic cls names, w.before args s' = true := vx_own hat' (vx_isRefq hU'.1) (vx_isRefq hN'.1) hU'.2.word hN'.2.word
  have hown' : s'.vm.findClass own = some m.cls := by rw [hvm]; exact hown
  have hins : (Cond.instantiable cls 6).before args s' = true := h _ (by simp [Bundle.ownAtoms])
  obtain ⟨vm₁, cX, kX, hfX, hkX, -, -, X₁, st1⟩ := Y.newCold hexec (own := own) (C := cls) (index := ik) (n := 6) hown' hk' hins hini'
    (g := F0 m pc ls rest) rfl (by rw [hb]; exact d0) (Nat.le_refl _) (Nat.le_refl _)
  generalize hT1 : (T.setVm vm₁).pushCell { cls := cX, slots := kX.instanceTypes.map defaultValue, vm := .none } = T1 at X₁ st1
  have hcat : (Value.ref T.heap.size).category = 1 := rfl
  have hcellA : T1.heap[T.heap.size]? = some (freshCell cX kX) := by rw [← hT1]; exact State.heap_pushCell_size _ _
  have d3' : decode c.code (pc + 3) = .ok (.dup, 1) := by rw [hb]; exact d3
  have d4' : decode c.code (pc + 4) = .ok (.ldc is, 2) := by rw [hb]; exact d4
  have hstr' : vk_R own is text sa s' := vk_R.warm hW0 hstr
  obtain ⟨U, hsteps, hrun, hend, hW, hsame, ce, hce, hO⟩ := X₁.ctorThrowS hexec htr (own := own) (cls := cls) (names := names) (ic := ic) hown' hcls hnames h (fun x hx => nomatch hx) hfX hkX hcellA (by rw [hhp, hT]; exact Nat.le_refl _) (msg := .ref sa) rfl
    (g := { method := m, pc := pc + 6, locals := ls, stack := .ref sa :: .ref T.heap.size :: .ref T.heap.size :: rest, locked := none }) rfl hsize rfl rfl (rest := rest) rfl
    (by rw [hb]; exact d6) (by rw [hb]; exact d9) hout hRframes (by simp only [List.map_cons, List.sum_cons, hcat]; omega) hlocks
  obtain ⟨f1, f2⟩ := vx_frame hsame
  rw [hhp] at f1 f2
  have hWs : s.WarmedH U.vm := State.WarmedH.trans hW0 hW
  have hcl : s.vm.findClass cls = some ce.cls := by
    have h9 := hO.cls
    rw [hvm] at h9
    exact h9
  have hall : s.sameButNew ({ U with vm := s.vm } : State) locs mc ms := by
    subst hA
    obtain ⟨e1, e2⟩ := hsame
    rw [State.setFrames_setFrames] at e1
    have h2 : (T.setVm s.vm).sameButNew ({ U with vm := s.vm } : State) [] (0 + 1) (0 + 6) := ⟨e1, e2⟩
    have h3 := X.same.trans h2
    rw [List.append_nil] at h3
    exact h3.mono hc hs
  refine ⟨U, ?_, .threw T.heap.size, hrun, hend, Or.inr ⟨T.heap.size, rfl, cls, ce, locs, hx U hWs.alike f1 (fun q hq => f2 q hq (fun z hz => nomatch hz)), hce, hO.vm, hcl, hWs, hall, hf⟩⟩
  refine st1 _ ?_
  show Steps p.tables e below (T1.setTop { method := m, pc := pc + 3, locals := ls, stack := .ref T.heap.size :: rest, locked := none }) _
  jvm_step X₁.here [X₁.here.top, hexec, d3', Value.category]
  exact X₁.ldcString hexec (own := own) (text := text) (index := is) (a := sa) hown' hstr'.1 hstr'.2
    (g := { method := m, pc := pc + 4, locals := ls, stack := .ref T.heap.size :: .ref T.heap.size :: rest, locked := none }) rfl d4' _ hsteps
/-- 'throw new E("text")', the text by a wide index -/
theorem vx_throwSW {cc : ByteArray} {pc : Nat} (hexec : p.tables.exec = Jvm.exec) (hb : c.code = cc) (hl : l.stackTraces = false) {own cls text : String} {names : List String} {ik is ic mc ms sa : Nat} {A : Nat → Prop}
    (hown : s.vm.findClass own = some m.cls) (hcls : Bundle.fit cls = true) (hnames : ∀ n ∈ names, Bundle.fit n = true)
    (hk : (Cond.classLink own ik cls).before args s = true) (hini : (Cond.initialized cls).before args s = true) (hstr : vk_R own is text sa s) (hat : ∀ w ∈ vx_atS own ic cls names, w.before args s = true)
    (hgood : ∀ w ∈ Cond.classLink own ik cls :: Cond.initialized cls :: vx_atS own ic cls names, vx_ot w = true)
    (hU : vx_Zq Bundle.tN "UNASSIGNED_STACK" Bundle.steD A s s.heap) (hN : vx_Zq Bundle.tN "SUPPRESSED_SENTINEL" Bundle.listD A s s.heap) (hS : va_S A s.heap H locs) (hsize : ls.size = c.maxLocals)
    (d0 : decode cc pc = .ok (.new ik, 3)) (d3 : decode cc (pc + 3) = .ok (.dup, 1)) (d4 : decode cc (pc + 4) = .ok (.ldc_w is, 3)) (d7 : decode cc (pc + 7) = .ok (.invokespecial ic, 3)) (d10 : decode cc (pc + 10) = .ok (.athrow, 1))
    (hout : ∀ x ∈ c.exceptionTable.toList, covers x (pc + 10) = false)
    (hRframes : names.length + 3 < R.frames) (hRlocals : (rest.map fun v => v.category).sum + (13 * (names.length + 1) + 43) ≤ R.locals) (hRcells : cells + 1 ≤ R.cells) (hRslots : slots + 6 ≤ R.slots) (hlocks : meth.locks = false)
    (hx : ∀ t : State, s.vm.Alike t.vm → H.size ≤ t.heap.size → (∀ q : Nat, q < H.size → t.heap[q]? = H[q]?) → XC cls s t)
    (hf : ∀ z ∈ locs, free z.base) (hc : cells + 1 ≤ mc) (hs : slots + 6 ≤ ms) :
    W p l e R s m args below meth c H locs cells slots (vx_MQ below Qc XC args s mc ms free) (F0 m pc ls rest) := by
  intro T hT X
  have htr : e.platform.stackTraces = false := (show e.platform.stackTraces = l.stackTraces by rw [X.admits.platform]).trans hl
  have Y := vx_rebase X (R' := { frames := R.frames, locals := R.locals, cells := 1, slots := 6 }) (Nat.le_refl _) (Nat.le_refl _) hRcells hRslots
  obtain ⟨s', hA⟩ : ∃ z, z = (T.setVm s.vm).setFrames (.invoking m args :: below) := ⟨_, rfl⟩
  rw [← hA] at Y
  have hvm : s'.vm = s.vm := by rw [hA]; rfl
  have hhp : s'.heap = H := by rw [hA]; exact hT
  have hW0 : s.WarmedH s'.vm := by rw [hvm]; exact State.WarmedH.refl s
  have hat' : ∀ w ∈ vx_atS own ic cls names, w.before args s' = true := fun w hw => vx_ot_at hW0 hvm.symm (hgood w (List.mem_cons_of_mem _ (List.mem_cons_of_mem _ hw))) (hat w hw)
  have hk' : (Cond.classLink own ik cls).before args s' = true := vx_ot_at hW0 hvm.symm (hgood _ List.mem_cons_self) hk
  have hini' : (Cond.initialized cls).before args s' = true := vx_ot_at hW0 hvm.symm (hgood _ (List.mem_cons_of_mem _ List.mem_cons_self)) hini
  have hU' : vx_Zq Bundle.tN "UNASSIGNED_STACK" Bundle.steD A s' s'.heap := by rw [hhp]; exact vx_Zq.moved hW0.alike (hU.kept hS.2.1)
  have hN' : vx_Zq Bundle.tN "SUPPRESSED_SENTINEL" Bundle.listD A s' s'.heap := by rw [hhp]; exact vx_Zq.moved hW0.alike (hN.kept hS.2.1)
  have h : ∀ w ∈ Bundle.ownAtoms own ic cls names, w.before args s' = true := vx_own hat' (vx_isRefq hU'.1) (vx_isRefq hN'.1) hU'.2.word hN'.2.word
  have hown' : s'.vm.findClass own = some m.cls := by rw [hvm]; exact hown
  have hins : (Cond.instantiable cls 6).before args s' = true := h _ (by simp [Bundle.ownAtoms])
  obtain ⟨vm₁, cX, kX, hfX, hkX, -, -, X₁, st1⟩ := Y.newCold hexec (own := own) (C := cls) (index := ik) (n := 6) hown' hk' hins hini'
    (g := F0 m pc ls rest) rfl (by rw [hb]; exact d0) (Nat.le_refl _) (Nat.le_refl _)
  generalize hT1 : (T.setVm vm₁).pushCell { cls := cX, slots := kX.instanceTypes.map defaultValue, vm := .none } = T1 at X₁ st1
  have hcat : (Value.ref T.heap.size).category = 1 := rfl
  have hcellA : T1.heap[T.heap.size]? = some (freshCell cX kX) := by rw [← hT1]; exact State.heap_pushCell_size _ _
  have d3' : decode c.code (pc + 3) = .ok (.dup, 1) := by rw [hb]; exact d3
  have d4' : decode c.code (pc + 4) = .ok (.ldc_w is, 3) := by rw [hb]; exact d4
  have hstr' : vk_R own is text sa s' := vk_R.warm hW0 hstr
  obtain ⟨U, hsteps, hrun, hend, hW, hsame, ce, hce, hO⟩ := X₁.ctorThrowS hexec htr (own := own) (cls := cls) (names := names) (ic := ic) hown' hcls hnames h (fun x hx => nomatch hx) hfX hkX hcellA (by rw [hhp, hT]; exact Nat.le_refl _) (msg := .ref sa) rfl
    (g := { method := m, pc := pc + 7, locals := ls, stack := .ref sa :: .ref T.heap.size :: .ref T.heap.size :: rest, locked := none }) rfl hsize rfl rfl (rest := rest) rfl
    (by rw [hb]; exact d7) (by rw [hb]; exact d10) hout hRframes (by simp only [List.map_cons, List.sum_cons, hcat]; omega) hlocks
  obtain ⟨f1, f2⟩ := vx_frame hsame
  rw [hhp] at f1 f2
  have hWs : s.WarmedH U.vm := State.WarmedH.trans hW0 hW
  have hcl : s.vm.findClass cls = some ce.cls := by
    have h9 := hO.cls
    rw [hvm] at h9
    exact h9
  have hall : s.sameButNew ({ U with vm := s.vm } : State) locs mc ms := by
    subst hA
    obtain ⟨e1, e2⟩ := hsame
    rw [State.setFrames_setFrames] at e1
    have h2 : (T.setVm s.vm).sameButNew ({ U with vm := s.vm } : State) [] (0 + 1) (0 + 6) := ⟨e1, e2⟩
    have h3 := X.same.trans h2
    rw [List.append_nil] at h3
    exact h3.mono hc hs
  refine ⟨U, ?_, .threw T.heap.size, hrun, hend, Or.inr ⟨T.heap.size, rfl, cls, ce, locs, hx U hWs.alike f1 (fun q hq => f2 q hq (fun z hz => nomatch hz)), hce, hO.vm, hcl, hWs, hall, hf⟩⟩
  refine st1 _ ?_
  show Steps p.tables e below (T1.setTop { method := m, pc := pc + 3, locals := ls, stack := .ref T.heap.size :: rest, locked := none }) _
  jvm_step X₁.here [X₁.here.top, hexec, d3', Value.category]
  exact X₁.ldcStringW hexec (own := own) (text := text) (index := is) (a := sa) hown' hstr'.1 hstr'.2
    (g := { method := m, pc := pc + 4, locals := ls, stack := .ref T.heap.size :: .ref T.heap.size :: rest, locked := none }) rfl d4' _ hsteps
end Ends
section Bodies
variable {l : Launch}
theorem vx_ofW {y : MethodName} {ws ws' : List Cond} {rm : Room} {Pc : Array Value → State → Prop} {Qc : Array Value → State → Outcome → State → Prop} {XC : String → State → State → Prop} {mc ms : Nat} {free : Addr → Prop} {cc : ByteArray} {maxL : Nat} {ret : Option FieldType}
    (hy : plainName y.cls = true) (hw : ws = Cond.code y cc maxL ret :: ws')
    (body : ∀ p e s m args below meth c s₁, BodyLoose p l y (headSpec ws rm) cc maxL ret e s m args below meth c s₁ → c.maxLocals = maxL → (∀ x ∈ c.exceptionTable.toList, False) → Pc args s →
      W p l e (headSpec ws rm).room s m args below meth c s.heap [] 0 0 (vx_MQ below Qc XC args s mc ms free) (entryFrame m args maxL)) : vx_Met l y ws rm Pc Qc XC mc ms free := by
  refine MetFree.of_bodyS (code := cc) (maxLocals := maxL) (ret := ret) hy ?_ ?_
  · intro args s m h hn
    obtain ⟨meth, c, h1, h2, h3, h4, h5, h6, -, -⟩ := Cond.code_spec hn (atoms_spec (ws := ws) h _ (by rw [hw]; exact List.mem_cons_self))
    exact ⟨meth, c, h1, h2, h3, h4, h5, h6⟩
  · intro p e s m args below meth c s₁ B hml hP _
    have hh0 : s₁.heap = s.heap := by rw [B.state]; rfl
    have ht : ∀ x ∈ c.exceptionTable.toList, False := by
      obtain ⟨meth9, c9, h1, h2, -, -, -, -, h7, -⟩ := Cond.code_spec B.named (atoms_spec (ws := ws) B.pre _ (by rw [hw]; exact List.mem_cons_self))
      cases Option.some.inj (h1.symm.trans B.method)
      cases Option.some.inj (h2.symm.trans (Stand.of_body B).code)
      intro x hx
      rw [Array.isEmpty_iff.mp h7] at hx
      cases hx
    obtain ⟨t, a1, o, b1, b2, b3⟩ := body p e s m args below meth c s₁ B hml ht hP s₁ hh0 (Stand.of_body B)
    exact ⟨t, o, a1, b1, b2, b3⟩
/-- the table of a body with handlers -/
theorem vx_table {p : Program} {x y : MethodName} {S : Spec} {cc bytes : ByteArray} {maxL maxL' : Nat} {ret ret' : Option FieldType} {e : Env} {s s₁ : State} {m : MethodId} {args : Array Value} {below : List Frame} {meth : Method} {c : Code} {hh : List (Nat × Nat × Nat × Nat)}
    (B : BodyLoose p l y S cc maxL ret e s m args below meth c s₁) (h : (Cond.codeWith y bytes maxL' ret' hh).before args s = true) : c.exceptionTable.toList = tableOf hh := by
  obtain ⟨m9, meth9, c9, hn9, h1, h2, -, -, h6, -⟩ := Cond.codeWith_spec h
  cases Option.some.inj (hn9.symm.trans B.named)
  cases Option.some.inj (h1.symm.trans B.method)
  cases Option.some.inj (h2.symm.trans (Stand.of_body B).code)
  rw [← h6, table_eq]
end Bodies
end VXA
/-! ===== END ===== -/
/-! ===== BEGIN a static call of a method with an exception table ===== -/
section VXS
variable {p : Program} {l : Launch} {e : Env} {R : Room} {s : State} {m : MethodId} {args : Array Value} {below : List Frame} {meth : Method} {c : Code} {T : State} {H : Heap} {locs : List Loc} {cells slots : Nat}
abbrev vx_CSW (R : Room) (s : State) (args : Array Value) (own : String) (index : Nat) (y : MethodName) (bytes : ByteArray) (maxL : Nat) (ret : Option FieldType) (hh : List (Nat × Nat × Nat × Nat)) (ws : List Cond) (rm : Room) (mc ms n : Nat) : Prop :=
  (rm.cells = mc ∧ rm.slots = ms ∧ rm.frames + 1 ≤ R.frames ∧ 8 + (maxL + 11) + rm.locals ≤ R.locals ∧ (∀ w ∈ ws, ∀ (a' : Array Value) (U : State), s.WarmedH U.vm → w.before a' U = true) ∧ Cond.codeWith y bytes maxL ret hh ∈ ws) ∧
  (Cond.codeWith y bytes maxL ret hh).before args s = true ∧ (Cond.initialized y.cls).before args s = true ∧ (y.cls ≠ "java/lang/invoke/MethodHandle" ∧ y.cls ≠ "java/lang/invoke/VarHandle") ∧
  (∀ sig, parseMethodDescriptor y.desc = some sig → n = sig.parameters.length) ∧ (Cond.methodLink own index y).before args s = true ∧ (Cond.static y).before args s = true
theorem vx_cwSW {own : String} {index maxL mc ms : Nat} {y : MethodName} {bytes : ByteArray} {ret : Option FieldType} {hh : List (Nat × Nat × Nat × Nat)} {Ts ws ws' : List Cond} {rm : Room} (n : Nat) (ht : ∀ w ∈ Ts, w.before args s = true) (hT : GoodIn Ts (va_wsS own index y ws)) (hw : ws = Cond.codeWith y bytes maxL ret hh :: ws') (hrc : rm.cells = mc) (hrs : rm.slots = ms)
    (hd : y.cls ≠ "java/lang/invoke/MethodHandle" ∧ y.cls ≠ "java/lang/invoke/VarHandle" ∧ (parseMethodDescriptor y.desc).map (fun d => d.parameters.length) = some n) (hR : rm.frames + 1 ≤ R.frames ∧ 8 + (maxL + 11) + rm.locals ≤ R.locals) :
    vx_CSW R s args own index y bytes maxL ret hh ws rm mc ms n := by
  have ok : ∀ w ∈ va_wsS own index y ws, w.before args s = true := fun w h => ht w (hT w h).1
  have hG : GoodIn Ts ws := fun w h => hT w (by unfold va_wsS; exact List.mem_append_right _ h)
  have hc : Cond.codeWith y bytes maxL ret hh ∈ ws := by rw [hw]; exact List.mem_cons_self
  refine ⟨⟨hrc, hrs, hR.1, hR.2, pay_in ht hG, hc⟩, ht _ (hG _ hc).1, ok _ (by simp [va_wsS]), ⟨hd.1, hd.2.1⟩, fun sig h => ?_, ok _ (by simp [va_wsS]), ok _ (by simp [va_wsS])⟩
  have h2 := hd.2.2
  rw [h] at h2
  exact (Option.some.inj h2).symm
theorem vx_callSW (X : Stand p l e R s m args below meth c T locs cells slots) (hexec : p.tables.exec = Jvm.exec) {own : String} {index : Nat} {y : MethodName} {bytes : ByteArray} {maxL : Nat} {ret : Option FieldType} {hh : List (Nat × Nat × Nat × Nat)}
    (hown : s.vm.findClass own = some m.cls) (hlink : (Cond.methodLink own index y).before args s = true) (hstat : (Cond.static y).before args s = true) (hinit : (Cond.initialized y.cls).before args s = true)
    (hcode : (Cond.codeWith y bytes maxL ret hh).before args s = true) (hy : y.cls ≠ "java/lang/invoke/MethodHandle" ∧ y.cls ≠ "java/lang/invoke/VarHandle")
    {W9 : Nat} {Pre : Pt → Array Value → Prop} {Post : Pt → Array Value → Option Value → Pt → Prop} (hK : Back l R p e below s args y 3 W9 Pre Post)
    {g : JFrame} (hg : g.method = m) (hsize : g.locals.size = c.maxLocals) {argsL rest : List Value} (hlen : ∀ sig, parseMethodDescriptor y.desc = some sig → argsL.length = sig.parameters.length)
    (hstack : g.stack = argsL.reverse ++ rest) (hW : 2 * g.monitorRoom + (rest.map fun v => v.category).sum ≤ W9) (hdg : decode c.code g.pc = .ok (.invokestatic index, 3))
    (hpre : ∀ vm₁, s.WarmedH vm₁ → Pre ⟨T.setVm vm₁, locs, cells, slots⟩ argsL.toArray) :
    ∃ (v : Option Value) (vm₁ : Vm) (B : Pt), s.WarmedH vm₁ ∧ Stand p l e R s m args below meth c B.U B.locs B.cells B.slots ∧ Post ⟨T.setVm vm₁, locs, cells, slots⟩ argsL.toArray v B ∧
      ∀ target, Steps p.tables e below (B.U.setTop { g with pc := g.pc + 3, stack := v.toList ++ rest }) target → Steps p.tables e below (T.setTop g) target := by
  obtain ⟨mk, methM, cM, hnamed, hmethM, -, -, -, -, -, -, hsigM⟩ := Cond.codeWith_spec hcode
  have hstatic : methM.isStatic = true := Cond.static_spec hnamed hmethM hstat
  obtain ⟨kP, hkP, -⟩ := className_of_methodNamed hnamed
  have hinitP : kP.init = .initialized := Cond.initialized_spec (findClass_of_methodNamed hnamed) hkP hinit
  obtain ⟨vm₁, X₁, hstep₁⟩ := X.invokestatic hexec hown hlink hnamed hmethM hstatic hkP hinitP hy (g := g) hg (argsL := argsL) (rest := rest) (hlen _ hsigM) hstack hdg
  obtain ⟨v, B, X', hpost, hsteps⟩ := hK m meth c ⟨T.setVm vm₁, locs, cells, slots⟩ { g with stack := rest } (.invokestatic index) mk argsL.toArray X₁ hg hsize hdg hW (X₁.named hnamed) (hpre vm₁ X₁.warmed)
  exact ⟨v, vm₁, B, X₁.warmed, X', hpost, fun target h => hstep₁ _ fun acts => by rw [doInvoke_state]; exact hsteps.trans h⟩
theorem vx_runSW {y : MethodName} {bytes cc : ByteArray} {maxL nL mc ms n index : Nat} {ret : Option FieldType} {hh : List (Nat × Nat × Nat × Nat)} {ws : List Cond} {rm : Room} {Pc : Array Value → State → Prop} {Qc : Array Value → State → Outcome → State → Prop} {free : Addr → Prop} {Ts : List Cond} {own : String} {As rest : List Value} {g : JFrame}
    (S : CallFix p m c cc nL s args Ts own) (hM : Met l y ws rm Pc Qc mc ms free) (cw : vx_CSW R s args own index y bytes maxL ret hh ws rm mc ms n) (hp : PreS s H Pc As)
    (hg : g.method = m) (hn : As.length = n) (hsize : g.locals.size = nL) (hstack : g.stack = As.reverse ++ rest) (hW : 2 * g.monitorRoom + (rest.map fun v => v.category).sum ≤ 8) (hdg : decode cc g.pc = .ok (.invokestatic index, 3)) (hf : cells + mc ≤ R.cells ∧ slots + ms ≤ R.slots) :
    va_Run p l e R s m args below meth c H locs cells slots mc ms g rest (Qc As.toArray) (free) := by
  obtain ⟨⟨hrc, hrs, hfr, hlo, hws, hcw⟩, hcode, hini, hy, hlen, hl, hstt⟩ := cw
  have hK : Back l R p e below s args y 3 8 (PreOf R mc ms Pc) (PostOf Qc mc ms free) := va_backW (hh := hh) (bytes := bytes) (maxL := maxL) (ret := ret) hM hp.1 hrc hrs hfr hlo hws hcw (fun a' U hW => word_at hW (Or.inl (by first | rfl | simp [Cond.onTables, Cond.keeps, Cond.steady])) hini)
  obtain ⟨hx, hb, hml, ho, -⟩ := S
  intro T hT X
  obtain ⟨v, vm₁, ⟨U', l2, c2, s2⟩, hW₁, X', ⟨g', mk, t, L, e1, e2, hq, h1, hL, h2, h3⟩, st⟩ := vx_callSW X hx (hh := hh) (bytes := bytes) (maxL := maxL) (ret := ret) ho hl hstt hini hcode hy hK hg (hsize.trans hml.symm) (argsL := As) (rest := rest) (fun sig h => hn.trans (hlen sig h)) hstack hW (by rw [hb]; exact hdg)
    (fun vm₁ hW₁ => ⟨hf.1, hf.2, hp.2 (T.setVm vm₁) hT hW₁⟩)
  dsimp only [Pt.U, Pt.locs, Pt.cells, Pt.slots] at X' e1 e2 h1 h2 h3 st
  subst h1; subst h2; subst h3
  exact ⟨v, (T.setVm vm₁).calling g' mk As.toArray, t, U', L, hT, X', hL, e1, e2, hq, st⟩
/-- not caught here, past rows that name other classes: it goes on to the caller -/
theorem vx_outP {p : Program} {l : Launch} {e : Env} {R : Room} {s : State} {m : MethodId} {args : Array Value} {below : List Frame} {meth : Method} {c : Code} {H : Heap} {locs : List Loc} {cells slots : Nat} {free : Addr → Prop} {ls : Array Slot} {rest : List Value} {Qc : Array Value → State → Outcome → State → Prop} {XC : String → State → State → Prop}
    {pc : Nat} {own E : String} {ce : Cell} {q : Addr} {mc ms : Nat} (hown : s.vm.findClass own = some m.cls) (hlocks : meth.locks = false)
    (hpass : ∀ z ∈ c.exceptionTable.toList, covers z pc = false ∨ (z.catchType ≠ 0 ∧ ∃ nm : String, (Cond.classLink own z.catchType nm).before args s = true ∧ va_Nc E nm s)) (hcell : H[q]? = some ce) (hv : ce.vm = .none) (hcl : s.vm.findClass E = some ce.cls)
    (hx : ∀ t : State, t.heap = H → s.vm.Alike t.vm → XC E s t) (hf : ∀ z ∈ locs, free z.base) (hc : cells ≤ mc) (hs : slots ≤ ms) :
    vx_W p l e R s m args below meth c H locs cells slots (vx_MQ below Qc XC args s mc ms free) (F0 m pc ls rest) q := by
  intro T hT X
  have hpl : e.platform.magicAccessors = ({} : Platform).magicAccessors := by rw [X.admits.platform]
  obtain ⟨vm', hW', X', st⟩ := X.outThrough hlocks q (g := F0 m pc ls rest) rfl rfl rfl (cell := ce) (by rw [hT]; exact hcell) (by rw [hv]; rfl)
    (by obtain ⟨k9, h9, -⟩ := Vm.findClass_spec hcl; exact ⟨k9, h9⟩) (fun z hz => by
      rcases hpass z hz with h | ⟨hz0, nm, hl1, hn1⟩
      · exact Or.inl h
      · obtain ⟨c6, hc6, hcl6⟩ := Cond.classLink_spec hown hl1 e.platform hpl
        obtain ⟨a8, b8, h1, h2, h3⟩ := hn1
        cases Option.some.inj (h1.symm.trans hcl)
        cases Option.some.inj (h2.symm.trans hc6)
        exact Or.inr ⟨hz0, _, hcl6, h3⟩)
  obtain ⟨g₀, hfr⟩ := X'.frames_eq
  have hcell9 : ((T.setVm vm').setFrames (.throwing q :: below)).heap[q]? = some ce := by
    show T.heap[q]? = some ce
    rw [hT]; exact hcell
  have hend : Ended ((T.setVm vm').setFrames (.throwing q :: below)) below (.threw q) := State.frames_setFrames _ (State.cur_lt_of_frames hfr)
  refine ⟨(T.setVm vm').setFrames (.throwing q :: below), ?_, .threw q, X'.here.running, hend, Or.inr ⟨q, rfl, E, ce, locs, hx _ hT (X'.ends _).1.alike, hcell9, hv, hcl, (X'.ends _).1, (X'.ends _).2.mono hc hs, hf⟩⟩
  rw [X.pushThrowing_eq]
  exact st
/-- a thing of a world lies in the heap -/
theorem vx_lt {D : va_G} {cl : List vw_C} {ws : va_W} {H1 : Heap} (h : va_P D cl ws H1) {k : Nat} {q : Nat × va_E} (hk : ws[k]? = some q) : q.1 < H1.size := (h k q hk).lt
end VXS
/-! ===== END ===== -/
/-! ===== BEGIN methods with a table of their own: called by a name, returning or throwing ===== -/
section VXH
/-! vx_backW, vx_callVX, vx_callSX, vx_callVW, vx_runVW, vx_runVX, vx_runSX, vx_ofWH follow the same proofs as their sisters above (Free/Laws.lean, Shelf42/LK1.lean); vx_outP calls Shelf42/NT130.lean (outThrough). -/
section
variable {l : Launch} {R : Room} {p : Program} {e : Env} {below : List Frame} {s : State} {sargs : Array Value} {y : MethodName} {len W9 : Nat}
theorem vx_backW {ws : List Cond} {rm : Room} {Pc : Array Value → State → Prop} {Qc : Array Value → State → Outcome → State → Prop} {XC : String → State → State → Prop} {mc ms : Nat} {free : Addr → Prop} {bytes : ByteArray} {maxL : Nat} {ret : Option FieldType} {hh : List (Nat × Nat × Nat × Nat)}
    (hM : vx_Met l y ws rm Pc Qc XC mc ms free) (hblind : FrameBlind Pc) (hrc : rm.cells = mc) (hrs : rm.slots = ms)
    (hframes : rm.frames + 1 ≤ R.frames) (hlocals : W9 + (maxL + 11) + rm.locals ≤ R.locals)
    (hws : ∀ w ∈ ws, ∀ a' U, s.WarmedH U.vm → w.before a' U = true) (hcode : Cond.codeWith y bytes maxL ret hh ∈ ws) (hinit : ∀ a' U, s.WarmedH U.vm → (Cond.initialized y.cls).before a' U = true) :
    vx_Back l R p e below s sargs y len W9 (PreOf R mc ms Pc) (PostOf Qc mc ms free) (vx_Post XC mc ms free) := by
  intro m meth c A g ig mk a X hg hsize hdg hW hn hp
  have h1 : (headSpec ws rm).pre.before a A.U = true := atoms_intro fun w hw => hws w hw _ _ X.warmed
  have h2 : (Cond.codeWith y bytes maxL ret hh).before a A.U = true := hws _ hcode _ _ X.warmed
  have h3 : (Cond.initialized y.cls).before a A.U = true := hinit _ _ X.warmed
  have h4 : A.cells + (headSpec ws rm).room.cells ≤ R.cells := by rw [show (headSpec ws rm).room.cells = mc from hrc]; exact hp.1
  have h5 : A.slots + (headSpec ws rm).room.slots ≤ R.slots := by rw [show (headSpec ws rm).room.slots = ms from hrs]; exact hp.2.1
  have hPc : Pc a (A.U.calling g mk a) := hblind _ _ _ _ hp.2.2
  obtain ⟨U, Ls, c0, s0⟩ := A
  dsimp only [Pt.U, Pt.locs, Pt.cells, Pt.slots] at h1 h2 h3 h4 h5 X hn hPc ⊢
  obtain ⟨m9, methY, cY, hn9, hmY, hcY, -, hlY, -⟩ := Cond.codeWith_spec h2
  cases Option.some.inj (hn9.symm.trans hn)
  obtain ⟨kY, hkY, -⟩ := className_of_methodNamed hn
  have hinitY : kY.init = .initialized := Cond.initialized_spec (findClass_of_methodNamed hn) hkY h3
  have h : At U g.method c below := by rw [hg]; exact X.here
  have hlocals9 : W9 + (maxL + 11) + (headSpec ws rm).room.locals ≤ R.locals := hlocals
  have happ : (headSpec ws rm).appliesLoose y e.platform (U.calling g mk a) = true :=
    Spec.appliesLoose_calling (g := g) h hdg hn hkY hinitY
      (X.room_calling (g := g) (R' := (headSpec ws rm).room) hsize hmY hcY hframes (by rw [hlY]; omega) h4 h5) h1
  obtain ⟨mid, hmid⟩ := h.above
  have hfr : (U.setTop g).frames = (.java g :: mid) ++ below := by rw [State.frames_setTop' g h.top, hmid]; rfl
  obtain ⟨o, s₂, hsteps, -, hend, hq⟩ := Steps.callFree hM p X.admits X.cas X.clock (acts := []) hfr happ hPc trivial
  have hq' : vx_Q Qc XC mc ms free a (U.calling g mk a) o s₂ := hq
  rw [State.frames_setTop' g h.top] at hend
  obtain ⟨g₀, hg0⟩ := Option.isSome_iff_exists.mp h.top
  obtain ⟨r, hr⟩ := State.topJava?_eq_some.mp hg0
  have hr' : (({ U with heap := s₂.heap, slotsUsed := s₂.slotsUsed } : State).setVm s₂.vm).frames = .java g₀ :: r := hr
  rcases hq' with ⟨hqc, L, hfe, hL⟩ | ⟨q, rfl, E, ce, L, hx, hce, hcv, hcl, hW₂, hsm, hL⟩
  · obtain ⟨⟨v, rfl⟩, hW₂, e2, q2, q3, q4, q5, q6⟩ := id hfe
    have e3 : s₂ = ({ (U.calling g mk a).setFrames s₂.frames with heap := s₂.heap, slotsUsed := s₂.slotsUsed } : State).setVm s₂.vm := by
      have : s₂ = ({ s₂ with vm := (U.calling g mk a).vm } : State).setVm s₂.vm := rfl
      rw [e2] at this
      exact this
    obtain ⟨c₂, i₂, len₂, hc₂, hd₂, hf₂⟩ := hend
    have hW' : U.WarmedH s₂.vm := hW₂
    have hcc : c₂ = c := by
      have h1 : s₂.code? g.method = U.code? g.method := by
        rw [State.code?_eq, State.code?_eq, hW'.alike.method?]
      exact Option.some.inj (hc₂.symm.trans (h1.trans h.code))
    subst hcc
    have hlen : len₂ = len := by rw [hdg] at hd₂; cases hd₂; rfl
    subst hlen
    have hs₂ : s₂ = (({ U with heap := s₂.heap, slotsUsed := s₂.slotsUsed } : State).setVm s₂.vm).setTop { g with pc := g.pc + len₂, stack := v.toList ++ g.stack } := by
      refine e3.trans ?_
      rw [hf₂, State.calling_eq h.top, State.setFrames_setFrames, State.setTop_of_frames _ hr', hr]
      rfl
    have hsame : U.sameButNew ({ U with heap := s₂.heap, slotsUsed := s₂.slotsUsed } : State) L mc ms := by
      refine ⟨?_, q2, q3, q4, q5, q6⟩
      obtain ⟨t, ht, -⟩ := State.frames_cons hr
      show ({ U with heap := s₂.heap, slotsUsed := s₂.slotsUsed } : State) = { U.setFrames U.frames with heap := s₂.heap, slotsUsed := s₂.slotsUsed }
      rw [State.setFrames_self ht]
    subst hg
    refine Or.inl ⟨v, ⟨(({ U with heap := s₂.heap, slotsUsed := s₂.slotsUsed } : State).setVm s₂.vm), Ls ++ L, c0 + mc, s0 + ms⟩,
      ⟨X.admits, X.cas, X.clock, X.frames, X.room, X.hears, X.method, X.code, (X.here.setHeapUsed s₂.heap s₂.slotsUsed).setVm hW'.alike, X.tail, State.WarmedH.trans X.warmed hW', X.limits, X.bytes, X.same.trans (hsame.setVm s.vm)⟩,
      ⟨g, mk, s₂, L, rfl, rfl, hqc, rfl, hL, rfl, rfl⟩, ?_⟩
    show Steps p.tables e below _ ((({ U with heap := s₂.heap, slotsUsed := s₂.slotsUsed } : State).setVm s₂.vm).setTop { g with pc := g.pc + len₂, stack := v.toList ++ g.stack })
    rw [← hs₂]
    exact hsteps
  · obtain ⟨e2, q2, q3, q4, q5, q6⟩ := id hsm
    have e3 : s₂ = ({ (U.calling g mk a).setFrames s₂.frames with heap := s₂.heap, slotsUsed := s₂.slotsUsed } : State).setVm s₂.vm := by
      have : s₂ = ({ s₂ with vm := (U.calling g mk a).vm } : State).setVm s₂.vm := rfl
      rw [e2] at this
      exact this
    have hf₂ : s₂.frames = .throwing q :: .java g :: U.frames.tail := hend
    have hW' : U.WarmedH s₂.vm := hW₂
    have hs₂ : s₂ = ((({ U with heap := s₂.heap, slotsUsed := s₂.slotsUsed } : State).setVm s₂.vm).setTop g).pushFrame (.throwing q) := by
      refine e3.trans ?_
      rw [hf₂, State.calling_eq h.top, State.setFrames_setFrames, State.pushFrame, State.frames_setTop _ hr', State.setTop_of_frames _ hr', State.setFrames_setFrames, hr]
      rfl
    have hsame : U.sameButNew ({ U with heap := s₂.heap, slotsUsed := s₂.slotsUsed } : State) L mc ms := by
      refine ⟨?_, q2, q3, q4, q5, q6⟩
      obtain ⟨t, ht, -⟩ := State.frames_cons hr
      show ({ U with heap := s₂.heap, slotsUsed := s₂.slotsUsed } : State) = { U.setFrames U.frames with heap := s₂.heap, slotsUsed := s₂.slotsUsed }
      rw [State.setFrames_self ht]
    subst hg
    refine Or.inr ⟨q, ⟨(({ U with heap := s₂.heap, slotsUsed := s₂.slotsUsed } : State).setVm s₂.vm), Ls ++ L, c0 + mc, s0 + ms⟩,
      ⟨X.admits, X.cas, X.clock, X.frames, X.room, X.hears, X.method, X.code, (X.here.setHeapUsed s₂.heap s₂.slotsUsed).setVm hW'.alike, X.tail, State.WarmedH.trans X.warmed hW', X.limits, X.bytes, X.same.trans (hsame.setVm s.vm)⟩,
      ⟨g, mk, s₂, L, E, ce, rfl, rfl, hx, hce, hcv, hcl, rfl, hL, rfl, rfl⟩, ?_⟩
    show Steps p.tables e below _ (((({ U with heap := s₂.heap, slotsUsed := s₂.slotsUsed } : State).setVm s₂.vm).setTop g).pushFrame (.throwing q))
    rw [← hs₂]
    exact hsteps
end
variable {p : Program} {l : Launch} {e : Env} {R : Room} {s : State} {m : MethodId} {args : Array Value} {below : List Frame} {meth : Method} {c : Code} {T : State} {H : Heap} {locs : List Loc} {cells slots : Nat}
theorem vx_callVX (X : Stand p l e R s m args below meth c T locs cells slots) (hexec : p.tables.exec = Jvm.exec) {own C : String} {index : Nat} {y : MethodName} {bytes : ByteArray} {maxL : Nat} {ret : Option FieldType} {hh : List (Nat × Nat × Nat × Nat)}
    (hown : s.vm.findClass own = some m.cls) (hlink : (Cond.methodLink own index y).before args s = true) (hinst : (Cond.instanceMethod y).before args s = true) (hsel : (Cond.selects C y y).before args s = true)
    (hcode : (Cond.codeWith y bytes maxL ret hh).before args s = true) (hy : y.cls ≠ "java/lang/invoke/MethodHandle" ∧ y.cls ≠ "java/lang/invoke/VarHandle")
    {W9 : Nat} {Pre : Pt → Array Value → Prop} {Post : Pt → Array Value → Option Value → Pt → Prop} {PostX : Pt → Array Value → Addr → Pt → Prop} (hK : vx_Back l R p e below s args y 3 W9 Pre Post PostX)
    {b : Addr} {cellB : Cell} (hcell : T.heap[b]? = some cellB) (hobj : cellB.vm.isStatics = false) (hcls : s.vm.findClass C = some cellB.cls)
    {g : JFrame} (hg : g.method = m) (hsize : g.locals.size = c.maxLocals) {argsL rest : List Value} (hlen : ∀ sig, parseMethodDescriptor y.desc = some sig → argsL.length = sig.parameters.length)
    (hstack : g.stack = argsL.reverse ++ .ref b :: rest) (hW : 2 * g.monitorRoom + (rest.map fun v => v.category).sum ≤ W9) (hdg : decode c.code g.pc = .ok (.invokevirtual index, 3))
    (hpre : ∀ vm₁, s.WarmedH vm₁ → Pre ⟨T.setVm vm₁, locs, cells, slots⟩ (Value.ref b :: argsL).toArray) :
    (∃ (v : Option Value) (vm₁ : Vm) (B : Pt), s.WarmedH vm₁ ∧ Stand p l e R s m args below meth c B.U B.locs B.cells B.slots ∧ Post ⟨T.setVm vm₁, locs, cells, slots⟩ (Value.ref b :: argsL).toArray v B ∧
      ∀ target, Steps p.tables e below (B.U.setTop { g with pc := g.pc + 3, stack := v.toList ++ rest }) target → Steps p.tables e below (T.setTop g) target) ∨
    (∃ (q : Addr) (vm₁ : Vm) (B : Pt), s.WarmedH vm₁ ∧ Stand p l e R s m args below meth c B.U B.locs B.cells B.slots ∧ PostX ⟨T.setVm vm₁, locs, cells, slots⟩ (Value.ref b :: argsL).toArray q B ∧
      Steps p.tables e below (T.setTop g) ((B.U.setTop { g with stack := rest }).pushFrame (.throwing q))) := by
  obtain ⟨mk, methM, hnamed, hmethM, hstM, habM⟩ := Cond.instanceMethod_spec hinst
  obtain ⟨m8, methM', cM, hn8, hmethM', -, -, -, -, -, -, hsigM⟩ := Cond.codeWith_spec hcode
  cases Option.some.inj (hn8.symm.trans hnamed)
  cases hmethM.symm.trans hmethM'
  obtain ⟨c2, r2, m2, q1, q2, q3, q4, kP, hkP, hkPi⟩ := Cond.selects_spec hsel
  cases hcls.symm.trans q1
  cases (State.methodFound?_of_named hnamed hy).symm.trans q2
  cases hnamed.symm.trans q3
  have hselP : selectMethod e.platform s.vm cellB.cls mk = .method mk := by rw [Launch.admits_selectMethod X.admits]; exact q4
  obtain ⟨vm₁, X₁, hstep₁⟩ := X.invokevirtual hexec hown hlink hnamed hmethM hstM hkP hkPi hy (a := b) (cell := cellB) hcell
    (fun z h => by rw [h] at hobj; cases hobj) hselP hmethM habM hkP hkPi (g := g) hg (argsL := argsL) (rest := rest) (hlen _ hsigM) hstack hdg
  rcases hK m meth c ⟨T.setVm vm₁, locs, cells, slots⟩ { g with stack := rest } (.invokevirtual index) mk (Value.ref b :: argsL).toArray X₁ hg hsize hdg hW (X₁.named hnamed) (hpre vm₁ X₁.warmed) with ⟨v, B, X', hpost, hsteps⟩ | ⟨q, B, X', hpost, hsteps⟩
  · exact Or.inl ⟨v, vm₁, B, X₁.warmed, X', hpost, fun target h => hstep₁ _ fun acts => by rw [doInvoke_state]; exact hsteps.trans h⟩
  · exact Or.inr ⟨q, vm₁, B, X₁.warmed, X', hpost, hstep₁ _ fun acts => by rw [doInvoke_state]; exact hsteps⟩
theorem vx_callSX (X : Stand p l e R s m args below meth c T locs cells slots) (hexec : p.tables.exec = Jvm.exec) {own : String} {index : Nat} {y : MethodName} {bytes : ByteArray} {maxL : Nat} {ret : Option FieldType} {hh : List (Nat × Nat × Nat × Nat)}
    (hown : s.vm.findClass own = some m.cls) (hlink : (Cond.methodLink own index y).before args s = true) (hstat : (Cond.static y).before args s = true) (hinit : (Cond.initialized y.cls).before args s = true)
    (hcode : (Cond.codeWith y bytes maxL ret hh).before args s = true) (hy : y.cls ≠ "java/lang/invoke/MethodHandle" ∧ y.cls ≠ "java/lang/invoke/VarHandle")
    {W9 : Nat} {Pre : Pt → Array Value → Prop} {Post : Pt → Array Value → Option Value → Pt → Prop} {PostX : Pt → Array Value → Addr → Pt → Prop} (hK : vx_Back l R p e below s args y 3 W9 Pre Post PostX)
    {g : JFrame} (hg : g.method = m) (hsize : g.locals.size = c.maxLocals) {argsL rest : List Value} (hlen : ∀ sig, parseMethodDescriptor y.desc = some sig → argsL.length = sig.parameters.length)
    (hstack : g.stack = argsL.reverse ++ rest) (hW : 2 * g.monitorRoom + (rest.map fun v => v.category).sum ≤ W9) (hdg : decode c.code g.pc = .ok (.invokestatic index, 3))
    (hpre : ∀ vm₁, s.WarmedH vm₁ → Pre ⟨T.setVm vm₁, locs, cells, slots⟩ argsL.toArray) :
    (∃ (v : Option Value) (vm₁ : Vm) (B : Pt), s.WarmedH vm₁ ∧ Stand p l e R s m args below meth c B.U B.locs B.cells B.slots ∧ Post ⟨T.setVm vm₁, locs, cells, slots⟩ argsL.toArray v B ∧
      ∀ target, Steps p.tables e below (B.U.setTop { g with pc := g.pc + 3, stack := v.toList ++ rest }) target → Steps p.tables e below (T.setTop g) target) ∨
    (∃ (q : Addr) (vm₁ : Vm) (B : Pt), s.WarmedH vm₁ ∧ Stand p l e R s m args below meth c B.U B.locs B.cells B.slots ∧ PostX ⟨T.setVm vm₁, locs, cells, slots⟩ argsL.toArray q B ∧
      Steps p.tables e below (T.setTop g) ((B.U.setTop { g with stack := rest }).pushFrame (.throwing q))) := by
  obtain ⟨mk, methM, cM, hnamed, hmethM, -, -, -, -, -, -, hsigM⟩ := Cond.codeWith_spec hcode
  have hstatic : methM.isStatic = true := Cond.static_spec hnamed hmethM hstat
  obtain ⟨kP, hkP, -⟩ := className_of_methodNamed hnamed
  have hinitP : kP.init = .initialized := Cond.initialized_spec (findClass_of_methodNamed hnamed) hkP hinit
  obtain ⟨vm₁, X₁, hstep₁⟩ := X.invokestatic hexec hown hlink hnamed hmethM hstatic hkP hinitP hy (g := g) hg (argsL := argsL) (rest := rest) (hlen _ hsigM) hstack hdg
  rcases hK m meth c ⟨T.setVm vm₁, locs, cells, slots⟩ { g with stack := rest } (.invokestatic index) mk argsL.toArray X₁ hg hsize hdg hW (X₁.named hnamed) (hpre vm₁ X₁.warmed) with ⟨v, B, X', hpost, hsteps⟩ | ⟨q, B, X', hpost, hsteps⟩
  · exact Or.inl ⟨v, vm₁, B, X₁.warmed, X', hpost, fun target h => hstep₁ _ fun acts => by rw [doInvoke_state]; exact hsteps.trans h⟩
  · exact Or.inr ⟨q, vm₁, B, X₁.warmed, X', hpost, hstep₁ _ fun acts => by rw [doInvoke_state]; exact hsteps⟩
theorem vx_callVW (X : Stand p l e R s m args below meth c T locs cells slots) (hexec : p.tables.exec = Jvm.exec) {own C : String} {index : Nat} {y : MethodName} {bytes : ByteArray} {maxL : Nat} {ret : Option FieldType} {hh : List (Nat × Nat × Nat × Nat)}
    (hown : s.vm.findClass own = some m.cls) (hlink : (Cond.methodLink own index y).before args s = true) (hinst : (Cond.instanceMethod y).before args s = true) (hsel : (Cond.selects C y y).before args s = true)
    (hcode : (Cond.codeWith y bytes maxL ret hh).before args s = true) (hy : y.cls ≠ "java/lang/invoke/MethodHandle" ∧ y.cls ≠ "java/lang/invoke/VarHandle")
    {W9 : Nat} {Pre : Pt → Array Value → Prop} {Post : Pt → Array Value → Option Value → Pt → Prop} (hK : Back l R p e below s args y 3 W9 Pre Post)
    {b : Addr} {cellB : Cell} (hcell : T.heap[b]? = some cellB) (hobj : cellB.vm.isStatics = false) (hcls : s.vm.findClass C = some cellB.cls)
    {g : JFrame} (hg : g.method = m) (hsize : g.locals.size = c.maxLocals) {argsL rest : List Value} (hlen : ∀ sig, parseMethodDescriptor y.desc = some sig → argsL.length = sig.parameters.length)
    (hstack : g.stack = argsL.reverse ++ .ref b :: rest) (hW : 2 * g.monitorRoom + (rest.map fun v => v.category).sum ≤ W9) (hdg : decode c.code g.pc = .ok (.invokevirtual index, 3))
    (hpre : ∀ vm₁, s.WarmedH vm₁ → Pre ⟨T.setVm vm₁, locs, cells, slots⟩ (Value.ref b :: argsL).toArray) :
    ∃ (v : Option Value) (vm₁ : Vm) (B : Pt), s.WarmedH vm₁ ∧ Stand p l e R s m args below meth c B.U B.locs B.cells B.slots ∧ Post ⟨T.setVm vm₁, locs, cells, slots⟩ (Value.ref b :: argsL).toArray v B ∧
      ∀ target, Steps p.tables e below (B.U.setTop { g with pc := g.pc + 3, stack := v.toList ++ rest }) target → Steps p.tables e below (T.setTop g) target := by
  obtain ⟨mk, methM, hnamed, hmethM, hstM, habM⟩ := Cond.instanceMethod_spec hinst
  obtain ⟨m8, methM', cM, hn8, hmethM', -, -, -, -, -, -, hsigM⟩ := Cond.codeWith_spec hcode
  cases Option.some.inj (hn8.symm.trans hnamed)
  cases hmethM.symm.trans hmethM'
  obtain ⟨c2, r2, m2, q1, q2, q3, q4, kP, hkP, hkPi⟩ := Cond.selects_spec hsel
  cases hcls.symm.trans q1
  cases (State.methodFound?_of_named hnamed hy).symm.trans q2
  cases hnamed.symm.trans q3
  have hselP : selectMethod e.platform s.vm cellB.cls mk = .method mk := by rw [Launch.admits_selectMethod X.admits]; exact q4
  obtain ⟨vm₁, X₁, hstep₁⟩ := X.invokevirtual hexec hown hlink hnamed hmethM hstM hkP hkPi hy (a := b) (cell := cellB) hcell
    (fun z h => by rw [h] at hobj; cases hobj) hselP hmethM habM hkP hkPi (g := g) hg (argsL := argsL) (rest := rest) (hlen _ hsigM) hstack hdg
  obtain ⟨v, B, X', hpost, hsteps⟩ := hK m meth c ⟨T.setVm vm₁, locs, cells, slots⟩ { g with stack := rest } (.invokevirtual index) mk (Value.ref b :: argsL).toArray X₁ hg hsize hdg hW (X₁.named hnamed) (hpre vm₁ X₁.warmed)
  exact ⟨v, vm₁, B, X₁.warmed, X', hpost, fun target h => hstep₁ _ fun acts => by rw [doInvoke_state]; exact hsteps.trans h⟩
abbrev vx_CVW (R : Room) (s : State) (args : Array Value) (own C : String) (index : Nat) (y : MethodName) (bytes : ByteArray) (maxL : Nat) (ret : Option FieldType) (hh : List (Nat × Nat × Nat × Nat)) (ws : List Cond) (rm : Room) (mc ms n : Nat) : Prop :=
  (rm.cells = mc ∧ rm.slots = ms ∧ rm.frames + 1 ≤ R.frames ∧ 8 + (maxL + 11) + rm.locals ≤ R.locals ∧ (∀ w ∈ ws, ∀ (a' : Array Value) (U : State), s.WarmedH U.vm → w.before a' U = true) ∧ Cond.codeWith y bytes maxL ret hh ∈ ws) ∧
  (Cond.codeWith y bytes maxL ret hh).before args s = true ∧ (Cond.initialized y.cls).before args s = true ∧ (y.cls ≠ "java/lang/invoke/MethodHandle" ∧ y.cls ≠ "java/lang/invoke/VarHandle") ∧
  (∀ sig, parseMethodDescriptor y.desc = some sig → n = sig.parameters.length) ∧ (Cond.methodLink own index y).before args s = true ∧ (Cond.instanceMethod y).before args s = true ∧ (Cond.selects C y y).before args s = true
theorem vx_cwVW {own C : String} {index maxL mc ms : Nat} {y : MethodName} {bytes : ByteArray} {ret : Option FieldType} {hh : List (Nat × Nat × Nat × Nat)} {Ts ws ws' : List Cond} {rm : Room} (n : Nat) (ht : ∀ w ∈ Ts, w.before args s = true) (hT : GoodIn Ts (wsV own index C y ws)) (hw : ws = Cond.codeWith y bytes maxL ret hh :: ws') (hrc : rm.cells = mc) (hrs : rm.slots = ms)
    (hd : y.cls = C ∧ y.cls ≠ "java/lang/invoke/MethodHandle" ∧ y.cls ≠ "java/lang/invoke/VarHandle" ∧ (parseMethodDescriptor y.desc).map (fun d => d.parameters.length) = some n) (hR : rm.frames + 1 ≤ R.frames ∧ 8 + (maxL + 11) + rm.locals ≤ R.locals) :
    vx_CVW R s args own C index y bytes maxL ret hh ws rm mc ms n := by
  obtain ⟨hC, hd⟩ := hd
  subst hC
  have ok : ∀ w ∈ wsV own index y.cls y ws, w.before args s = true := fun w h => ht w (hT w h).1
  have hG : GoodIn Ts ws := fun w h => hT w (by unfold wsV; exact List.mem_append_right _ h)
  have hc : Cond.codeWith y bytes maxL ret hh ∈ ws := by rw [hw]; exact List.mem_cons_self
  refine ⟨⟨hrc, hrs, hR.1, hR.2, pay_in ht hG, hc⟩, ht _ (hG _ hc).1, ok _ (by simp [wsV]), ⟨hd.1, hd.2.1⟩, fun sig h => ?_, ok _ (by simp [wsV]), ok _ (by simp [wsV]), ok _ (by simp [wsV])⟩
  have h2 := hd.2.2
  rw [h] at h2
  exact (Option.some.inj h2).symm
theorem vx_runVW {y : MethodName} {bytes cc : ByteArray} {maxL nL mc ms n index : Nat} {ret : Option FieldType} {hh : List (Nat × Nat × Nat × Nat)} {ws : List Cond} {rm : Room} {Pc : Array Value → State → Prop} {Qc : Array Value → State → Outcome → State → Prop} {free : Addr → Prop} {Ts : List Cond} {own C : String} {b : Addr} {As rest : List Value} {g : JFrame}
    (S : CallFix p m c cc nL s args Ts own) (hM : Met l y ws rm Pc Qc mc ms free) (cw : vx_CVW R s args own C index y bytes maxL ret hh ws rm mc ms n) (hp : PreV s H C b Pc As)
    (hg : g.method = m) (hn : As.length = n) (hsize : g.locals.size = nL) (hstack : g.stack = As.reverse ++ .ref b :: rest) (hW : 2 * g.monitorRoom + (rest.map fun v => v.category).sum ≤ 8) (hdg : decode cc g.pc = .ok (.invokevirtual index, 3)) (hf : cells + mc ≤ R.cells ∧ slots + ms ≤ R.slots) :
    va_Run p l e R s m args below meth c H locs cells slots mc ms g rest (Qc (Value.ref b :: As).toArray) free := by
  obtain ⟨⟨hrc, hrs, hfr, hlo, hws, hcw⟩, hcode, hini, hy, hlen, hl, hin, hse⟩ := cw
  have hK : Back l R p e below s args y 3 8 (PreOf R mc ms Pc) (PostOf Qc mc ms free) := va_backW (hh := hh) (bytes := bytes) (maxL := maxL) (ret := ret) hM hp.1 hrc hrs hfr hlo hws hcw (fun a' U hW => word_at hW (Or.inl (by first | rfl | simp [Cond.onTables, Cond.keeps, Cond.steady])) hini)
  obtain ⟨hx, hb, hml, ho, -⟩ := S
  obtain ⟨-, ⟨cellB, hcB, hoB, hclB⟩, hPc⟩ := hp
  intro T hT X
  obtain ⟨v, vm₁, ⟨U', l2, c2, s2⟩, hW₁, X', ⟨g', mk, t, L, e1, e2, hq, h1, hL, h2, h3⟩, st⟩ := vx_callVW X hx (C := C) (hh := hh) (bytes := bytes) (maxL := maxL) (ret := ret) ho hl hin hse hcode hy hK (by rw [hT]; exact hcB) hoB hclB hg (hsize.trans hml.symm) (argsL := As) (rest := rest) (fun sig h => hn.trans (hlen sig h)) hstack hW (by rw [hb]; exact hdg)
    (fun vm₁ hW₁ => ⟨hf.1, hf.2, hPc (T.setVm vm₁) hT hW₁⟩)
  dsimp only [Pt.U, Pt.locs, Pt.cells, Pt.slots] at X' e1 e2 h1 h2 h3 st
  subst h1; subst h2; subst h3
  exact ⟨v, (T.setVm vm₁).calling g' mk (Value.ref b :: As).toArray, t, U', L, hT, X', hL, e1, e2, hq, st⟩
section
variable {y : MethodName} {bytes cc : ByteArray} {maxL nL mc ms n index : Nat} {ret : Option FieldType} {ws : List Cond} {rm : Room} {Pc : Array Value → State → Prop} {Qc : Array Value → State → Outcome → State → Prop} {XC : String → State → State → Prop} {free : Addr → Prop} {Ts : List Cond} {own C : String} {b : Addr} {As rest : List Value} {g : JFrame}
theorem vx_runVX {hh : List (Nat × Nat × Nat × Nat)} (S : CallFix p m c cc nL s args Ts own) (hM : vx_Met l y ws rm Pc Qc XC mc ms free) (cw : vx_CVW R s args own C index y bytes maxL ret hh ws rm mc ms n) (hp : PreV s H C b Pc As)
    (hg : g.method = m) (hn : As.length = n) (hsize : g.locals.size = nL) (hstack : g.stack = As.reverse ++ .ref b :: rest) (hW : 2 * g.monitorRoom + (rest.map fun v => v.category).sum ≤ 8) (hdg : decode cc g.pc = .ok (.invokevirtual index, 3)) (hf : cells + mc ≤ R.cells ∧ slots + ms ≤ R.slots) :
    vx_Run p l e R s m args below meth c H locs cells slots mc ms g rest (Qc (Value.ref b :: As).toArray) XC free := by
  obtain ⟨⟨hrc, hrs, hfr, hlo, hws, hcw⟩, hcode, hini, hy, hlen, hl, hin, hse⟩ := cw
  have hK : vx_Back l R p e below s args y 3 8 (PreOf R mc ms Pc) (PostOf Qc mc ms free) (vx_Post XC mc ms free) := vx_backW (hh := hh) (bytes := bytes) (maxL := maxL) (ret := ret) hM hp.1 hrc hrs hfr hlo hws hcw (fun a' U hW => word_at hW (Or.inl (by first | rfl | simp [Cond.onTables, Cond.keeps, Cond.steady])) hini)
  obtain ⟨hx, hb, hml, ho, -⟩ := S
  obtain ⟨-, ⟨cellB, hcB, hoB, hclB⟩, hPc⟩ := hp
  intro T hT X
  rcases vx_callVX X hx (C := C) (hh := hh) (bytes := bytes) (maxL := maxL) (ret := ret) ho hl hin hse hcode hy hK (by rw [hT]; exact hcB) hoB hclB hg (hsize.trans hml.symm) (argsL := As) (rest := rest) (fun sig h => hn.trans (hlen sig h)) hstack hW (by rw [hb]; exact hdg)
    (fun vm₁ hW₁ => ⟨hf.1, hf.2, hPc (T.setVm vm₁) hT hW₁⟩) with ⟨v, vm₁, ⟨U', l2, c2, s2⟩, hW₁, X', ⟨g', mk, t, L, e1, e2, hq, h1, hL, h2, h3⟩, st⟩ | ⟨q, vm₁, ⟨U', l2, c2, s2⟩, hW₁, X', ⟨g', mk, t, L, E, ce, e1, e2, hq, hce, hcv, hcl, h1, hL, h2, h3⟩, st⟩
  · dsimp only [Pt.U, Pt.locs, Pt.cells, Pt.slots] at X' e1 e2 h1 h2 h3 st
    subst h1; subst h2; subst h3
    exact Or.inl ⟨v, (T.setVm vm₁).calling g' mk (Value.ref b :: As).toArray, t, U', L, hT, X', hL, e1, e2, hq, st⟩
  · dsimp only [Pt.U, Pt.locs, Pt.cells, Pt.slots] at X' e1 e2 h1 h2 h3 st hcl
    subst h1; subst h2; subst h3
    exact Or.inr ⟨q, (T.setVm vm₁).calling g' mk (Value.ref b :: As).toArray, t, U', L, E, ce, hT, X', hL, e1, e2, hq, hce, hcv, vx_cls hW₁ hcl, st⟩
theorem vx_runSX {hh : List (Nat × Nat × Nat × Nat)} (S : CallFix p m c cc nL s args Ts own) (hM : vx_Met l y ws rm Pc Qc XC mc ms free) (cw : vx_CSW R s args own index y bytes maxL ret hh ws rm mc ms n) (hp : PreS s H Pc As)
    (hg : g.method = m) (hn : As.length = n) (hsize : g.locals.size = nL) (hstack : g.stack = As.reverse ++ rest) (hW : 2 * g.monitorRoom + (rest.map fun v => v.category).sum ≤ 8) (hdg : decode cc g.pc = .ok (.invokestatic index, 3)) (hf : cells + mc ≤ R.cells ∧ slots + ms ≤ R.slots) :
    vx_Run p l e R s m args below meth c H locs cells slots mc ms g rest (Qc As.toArray) XC free := by
  obtain ⟨⟨hrc, hrs, hfr, hlo, hws, hcw⟩, hcode, hini, hy, hlen, hl, hstt⟩ := cw
  have hK : vx_Back l R p e below s args y 3 8 (PreOf R mc ms Pc) (PostOf Qc mc ms free) (vx_Post XC mc ms free) := vx_backW (hh := hh) (bytes := bytes) (maxL := maxL) (ret := ret) hM hp.1 hrc hrs hfr hlo hws hcw (fun a' U hW => word_at hW (Or.inl (by first | rfl | simp [Cond.onTables, Cond.keeps, Cond.steady])) hini)
  obtain ⟨hx, hb, hml, ho, -⟩ := S
  intro T hT X
  rcases vx_callSX X hx (hh := hh) (bytes := bytes) (maxL := maxL) (ret := ret) ho hl hstt hini hcode hy hK hg (hsize.trans hml.symm) (argsL := As) (rest := rest) (fun sig h => hn.trans (hlen sig h)) hstack hW (by rw [hb]; exact hdg)
    (fun vm₁ hW₁ => ⟨hf.1, hf.2, hp.2 (T.setVm vm₁) hT hW₁⟩) with ⟨v, vm₁, ⟨U', l2, c2, s2⟩, hW₁, X', ⟨g', mk, t, L, e1, e2, hq, h1, hL, h2, h3⟩, st⟩ | ⟨q, vm₁, ⟨U', l2, c2, s2⟩, hW₁, X', ⟨g', mk, t, L, E, ce, e1, e2, hq, hce, hcv, hcl, h1, hL, h2, h3⟩, st⟩
  · dsimp only [Pt.U, Pt.locs, Pt.cells, Pt.slots] at X' e1 e2 h1 h2 h3 st
    subst h1; subst h2; subst h3
    exact Or.inl ⟨v, (T.setVm vm₁).calling g' mk As.toArray, t, U', L, hT, X', hL, e1, e2, hq, st⟩
  · dsimp only [Pt.U, Pt.locs, Pt.cells, Pt.slots] at X' e1 e2 h1 h2 h3 st hcl
    subst h1; subst h2; subst h3
    exact Or.inr ⟨q, (T.setVm vm₁).calling g' mk As.toArray, t, U', L, E, ce, hT, X', hL, e1, e2, hq, hce, hcv, vx_cls hW₁ hcl, st⟩
end
end VXH
theorem vx_ofWH {l : Launch} {y : MethodName} {ws ws' : List Cond} {rm : Room} {Pc : Array Value → State → Prop} {Qc : Array Value → State → Outcome → State → Prop} {XC : String → State → State → Prop} {mc ms : Nat} {free : Addr → Prop} {cc : ByteArray} {maxL : Nat} {ret : Option FieldType} {hh : List (Nat × Nat × Nat × Nat)}
    (hy : plainName y.cls = true) (hw : ws = Cond.codeWith y cc maxL ret hh :: ws')
    (body : ∀ p e s m args below meth c s₁, BodyLoose p l y (headSpec ws rm) cc maxL ret e s m args below meth c s₁ → c.maxLocals = maxL → Pc args s →
      W p l e (headSpec ws rm).room s m args below meth c s.heap [] 0 0 (vx_MQ below Qc XC args s mc ms free) (entryFrame m args maxL)) : vx_Met l y ws rm Pc Qc XC mc ms free := by
  refine MetFree.of_bodyS (code := cc) (maxLocals := maxL) (ret := ret) hy ?_ ?_
  · intro args s m h hn
    obtain ⟨m9, meth, c, hn9, h1, h2, h3, h4, -, h5, h6, -⟩ := Cond.codeWith_spec (atoms_spec (ws := ws) h _ (by rw [hw]; exact List.mem_cons_self))
    cases hn.symm.trans hn9
    exact ⟨meth, c, h1, h2, h3, h4, h5, h6⟩
  · intro p e s m args below meth c s₁ B hml hP _
    have hh0 : s₁.heap = s.heap := by rw [B.state]; rfl
    obtain ⟨t, a1, o, b1, b2, b3⟩ := body p e s m args below meth c s₁ B hml hP s₁ hh0 (Stand.of_body B)
    exact ⟨t, o, a1, b1, b2, b3⟩
/-! ===== END ===== -/
end
section
/-! ===== BEGIN printed: names, fields, word lists, decode rows ===== -/
def RX0 : String := "GripInspector$Lift"
def TX0 : u_T := fun k => match k with
  | 0 => ("GripInspector$Lift", "weight", "[I", true)
  | 1 => ("GripInspector$Lift", "cycles", "[I", true)
  | 2 => ("GripInspector$Lift", "wear", "[I", true)
  | 3 => ("GripInspector$Lift", "pulls", "[I", true)
  | 4 => ("GripInspector$Lift", "lastSlip", "[I", true)
  | 5 => ("GripInspector$Lift", "place", "[I", true)
  | 6 => ("GripInspector$Lift", "spot", "[I", true)
  | 7 => ("GripInspector$Lift", "stepsLeft", "[I", true)
  | 8 => ("GripInspector$Lift", "limits", "[I", true)
  | 9 => ("GripInspector$Lift", "n", "I", false)
  | 10 => ("GripInspector$Lift", "station", "I", false)
  | 11 => ("GripInspector$Lift", "clock", "I", false)
  | _ => ("GripInspector$Lift", "randomState", "J", false)
def tyX0 : Nat → FieldType := fun k => match k with
  | 0 => .array .int
  | 1 => .array .int
  | 2 => .array .int
  | 3 => .array .int
  | 4 => .array .int
  | 5 => .array .int
  | 6 => .array .int
  | 7 => .array .int
  | 8 => .array .int
  | 9 => .int
  | 10 => .int
  | 11 => .int
  | _ => .long
abbrev wsX00 : List Cond := u_ws RX0 TX0 13
theorem nmX0 : ∀ a, a < 13 → ∀ b, b < 13 → a ≠ b → (TX0 a).2.1 ≠ (TX0 b).2.1 := by decide +kernel
theorem tyX0_ok : ∀ k, k < 13 → parseFieldDescriptor (TX0 k).2.2.1 = some (tyX0 k) := by decide +kernel
abbrev cX0_init : ByteArray := prog_2_method_1_code
def yX0_init : MethodName := ⟨RX0, "<init>", "()V"⟩
abbrev cX0_clear : ByteArray := prog_2_method_2_code
def yX0_clear : MethodName := ⟨RX0, "clear", "()V"⟩
abbrev cX0_become : ByteArray := prog_2_method_3_code
def yX0_become : MethodName := ⟨RX0, "become", "(LGripInspector$Lift;)V"⟩
abbrev cX0_has : ByteArray := prog_2_method_4_code
def yX0_has : MethodName := ⟨RX0, "has", "(I)Z"⟩
abbrev cX0_hasSlot : ByteArray := prog_2_method_5_code
def yX0_hasSlot : MethodName := ⟨RX0, "hasSlot", "(I)Z"⟩
abbrev cX0_isIn : ByteArray := prog_2_method_6_code
def yX0_isIn : MethodName := ⟨RX0, "isIn", "(II)Z"⟩
abbrev cX0_count : ByteArray := prog_2_method_7_code
def yX0_count : MethodName := ⟨RX0, "count", "(I)I"⟩
abbrev cX0_grips : ByteArray := prog_2_method_8_code
def yX0_grips : MethodName := ⟨RX0, "grips", "()I"⟩
abbrev cX0_isFull : ByteArray := prog_2_method_9_code
def yX0_isFull : MethodName := ⟨RX0, "isFull", "()Z"⟩
abbrev cX0_gripAt : ByteArray := prog_2_method_10_code
def yX0_gripAt : MethodName := ⟨RX0, "gripAt", "(I)I"⟩
abbrev cX0_number : ByteArray := prog_2_method_11_code
def yX0_number : MethodName := ⟨RX0, "number", "(II)I"⟩
abbrev cX0_allPulls : ByteArray := prog_2_method_12_code
def yX0_allPulls : MethodName := ⟨RX0, "allPulls", "()I"⟩
abbrev cX0_add : ByteArray := prog_2_method_13_code
def yX0_add : MethodName := ⟨RX0, "add", "(I)V"⟩
abbrev cX0_hang : ByteArray := prog_2_method_14_code
def yX0_hang : MethodName := ⟨RX0, "hang", "(II)V"⟩
abbrev cX0_move : ByteArray := prog_2_method_15_code
def yX0_move : MethodName := ⟨RX0, "move", "(II)V"⟩
abbrev cX0_advanceBy : ByteArray := prog_2_method_16_code
def yX0_advanceBy : MethodName := ⟨RX0, "advanceBy", "(I)V"⟩
abbrev cX0_advance : ByteArray := prog_2_method_17_code
def yX0_advance : MethodName := ⟨RX0, "advance", "()I"⟩
abbrev cX0_pass : ByteArray := prog_2_method_18_code
def yX0_pass : MethodName := ⟨RX0, "pass", "(II)I"⟩
abbrev cX0_repairAllBut : ByteArray := prog_2_method_19_code
def yX0_repairAllBut : MethodName := ⟨RX0, "repairAllBut", "(I)V"⟩
abbrev cX0_fillStation : ByteArray := prog_2_method_20_code
def yX0_fillStation : MethodName := ⟨RX0, "fillStation", "()I"⟩
abbrev cX0_isRoomAt : ByteArray := prog_2_method_21_code
def yX0_isRoomAt : MethodName := ⟨RX0, "isRoomAt", "(I)Z"⟩
abbrev cX0_distance : ByteArray := prog_2_method_22_code
def yX0_distance : MethodName := ⟨RX0, "distance", "(II)I"⟩
abbrev cX0_roomySlots : ByteArray := prog_2_method_23_code
def yX0_roomySlots : MethodName := ⟨RX0, "roomySlots", "()I"⟩
abbrev cX0_slotsOn : ByteArray := prog_2_method_24_code
def yX0_slotsOn : MethodName := ⟨RX0, "slotsOn", "(II)I"⟩
abbrev cX0_gapBehind : ByteArray := prog_2_method_25_code
def yX0_gapBehind : MethodName := ⟨RX0, "gapBehind", "(I)I"⟩
abbrev cX0_smallestGap : ByteArray := prog_2_method_26_code
def yX0_smallestGap : MethodName := ⟨RX0, "smallestGap", "()I"⟩
abbrev cX0_capacity : ByteArray := prog_2_method_27_code
def yX0_capacity : MethodName := ⟨RX0, "capacity", "()I"⟩
abbrev cX0_stepsUntilDue : ByteArray := prog_2_method_28_code
def yX0_stepsUntilDue : MethodName := ⟨RX0, "stepsUntilDue", "(I)I"⟩
abbrev cX0_isGrouped : ByteArray := prog_2_method_29_code
def yX0_isGrouped : MethodName := ⟨RX0, "isGrouped", "(I)Z"⟩
abbrev cX0_areTogether : ByteArray := prog_2_method_30_code
def yX0_areTogether : MethodName := ⟨RX0, "areTogether", "(II)Z"⟩
abbrev cX0_opensGroup : ByteArray := prog_2_method_31_code
def yX0_opensGroup : MethodName := ⟨RX0, "opensGroup", "(I)Z"⟩
abbrev cX0_groupSize : ByteArray := prog_2_method_32_code
def yX0_groupSize : MethodName := ⟨RX0, "groupSize", "(I)I"⟩
abbrev cX0_describe : ByteArray := prog_2_method_33_code
def yX0_describe : MethodName := ⟨RX0, "describe", "(LGripInspector$Signs;)V"⟩
abbrev cX0_describeGrip : ByteArray := prog_2_method_34_code
def yX0_describeGrip : MethodName := ⟨RX0, "describeGrip", "(ILGripInspector$Signs;)V"⟩
def RX1 : String := "GripInspector$LiftText"
def TX1 : u_T := fun k => match k with
  | 0 => ("GripInspector$LiftText", "signs", "LGripInspector$Signs;", true)
  | 1 => ("GripInspector$LiftText", "draft", "LGripInspector$Lift;", true)
  | _ => ("GripInspector$LiftText", "at", "I", false)
def tyX1 : Nat → FieldType := fun k => match k with
  | 0 => .object "GripInspector$Signs"
  | 1 => .object "GripInspector$Lift"
  | _ => .int
abbrev wsX10 : List Cond := u_ws RX1 TX1 3
theorem nmX1 : ∀ a, a < 3 → ∀ b, b < 3 → a ≠ b → (TX1 a).2.1 ≠ (TX1 b).2.1 := by decide +kernel
theorem tyX1_ok : ∀ k, k < 3 → parseFieldDescriptor (TX1 k).2.2.1 = some (tyX1 k) := by decide +kernel
abbrev cX1_init : ByteArray := prog_3_method_1_code
def yX1_init : MethodName := ⟨RX1, "<init>", "()V"⟩
abbrev cX1_findError : ByteArray := prog_3_method_2_code
def yX1_findError : MethodName := ⟨RX1, "findError", "()I"⟩
abbrev cX1_readHead : ByteArray := prog_3_method_3_code
def yX1_readHead : MethodName := ⟨RX1, "readHead", "()Z"⟩
abbrev cX1_readItem : ByteArray := prog_3_method_4_code
def yX1_readItem : MethodName := ⟨RX1, "readItem", "()Z"⟩
abbrev cX1_readDigit : ByteArray := prog_3_method_5_code
def yX1_readDigit : MethodName := ⟨RX1, "readDigit", "(II)I"⟩
abbrev cX1_readPair : ByteArray := prog_3_method_6_code
def yX1_readPair : MethodName := ⟨RX1, "readPair", "(IIZ)I"⟩
abbrev cX1_isBegin : ByteArray := prog_3_method_7_code
def yX1_isBegin : MethodName := ⟨RX1, "isBegin", "(IIIZ)Z"⟩
abbrev cX1_isAllowed : ByteArray := prog_3_method_8_code
def yX1_isAllowed : MethodName := ⟨RX1, "isAllowed", "(IIIZ)Z"⟩
def RX2 : String := "GripInspector$Memory"
def TX2 : u_T := fun k => match k with
  | _ => ("GripInspector$Memory", "rows", "[LGripInspector$Lift;", true)
def tyX2 : Nat → FieldType := fun k => match k with
  | _ => .array (.object "GripInspector$Lift")
abbrev wsX20 : List Cond := u_ws RX2 TX2 1
theorem nmX2 : ∀ a, a < 1 → ∀ b, b < 1 → a ≠ b → (TX2 a).2.1 ≠ (TX2 b).2.1 := by decide +kernel
theorem tyX2_ok : ∀ k, k < 1 → parseFieldDescriptor (TX2 k).2.2.1 = some (tyX2 k) := by decide +kernel
abbrev cX2_init : ByteArray := prog_4_method_1_code
def yX2_init : MethodName := ⟨RX2, "<init>", "(I)V"⟩
abbrev cX2_keep : ByteArray := prog_4_method_2_code
def yX2_keep : MethodName := ⟨RX2, "keep", "(ILGripInspector$Lift;)V"⟩
abbrev cX2_recall : ByteArray := prog_4_method_3_code
def yX2_recall : MethodName := ⟨RX2, "recall", "(ILGripInspector$Lift;)V"⟩
abbrev cX2_rowAt : ByteArray := prog_4_method_4_code
def yX2_rowAt : MethodName := ⟨RX2, "rowAt", "(I)LGripInspector$Lift;"⟩
def RX3 : String := "GripInspector$Signs"
def TX3 : u_T := fun k => match k with
  | 0 => ("GripInspector$Signs", "row", "[C", true)
  | _ => ("GripInspector$Signs", "length", "I", false)
def tyX3 : Nat → FieldType := fun k => match k with
  | 0 => .array .char
  | _ => .int
abbrev wsX30 : List Cond := u_ws RX3 TX3 2
theorem nmX3 : ∀ a, a < 2 → ∀ b, b < 2 → a ≠ b → (TX3 a).2.1 ≠ (TX3 b).2.1 := by decide +kernel
theorem tyX3_ok : ∀ k, k < 2 → parseFieldDescriptor (TX3 k).2.2.1 = some (tyX3 k) := by decide +kernel
abbrev cX3_init : ByteArray := prog_5_method_1_code
def yX3_init : MethodName := ⟨RX3, "<init>", "()V"⟩
abbrev cX3_isFull : ByteArray := prog_5_method_2_code
def yX3_isFull : MethodName := ⟨RX3, "isFull", "()Z"⟩
abbrev cX3_put : ByteArray := prog_5_method_3_code
def yX3_put : MethodName := ⟨RX3, "put", "(C)V"⟩
abbrev cX3_putNumber : ByteArray := prog_5_method_4_code
def yX3_putNumber : MethodName := ⟨RX3, "putNumber", "(I)V"⟩
abbrev cX3_at : ByteArray := prog_5_method_5_code
def yX3_at : MethodName := ⟨RX3, "at", "(I)I"⟩
abbrev cX3_clear : ByteArray := prog_5_method_6_code
def yX3_clear : MethodName := ⟨RX3, "clear", "()V"⟩
def RX4 : String := "GripInspector"
def TX4 : u_T := fun k => match k with
  | 0 => ("GripInspector", "lift", "LGripInspector$Lift;", true)
  | 1 => ("GripInspector", "trial", "LGripInspector$Lift;", true)
  | 2 => ("GripInspector", "text", "LGripInspector$LiftText;", true)
  | 3 => ("GripInspector", "summary", "LGripInspector$Signs;", true)
  | 4 => ("GripInspector", "history", "LGripInspector$Memory;", true)
  | 5 => ("GripInspector", "saves", "LGripInspector$Memory;", true)
  | 6 => ("GripInspector", "saved", "[Z", true)
  | 7 => ("GripInspector", "remembered", "I", false)
  | _ => ("GripInspector", "nextRemembered", "I", false)
def tyX4 : Nat → FieldType := fun k => match k with
  | 0 => .object "GripInspector$Lift"
  | 1 => .object "GripInspector$Lift"
  | 2 => .object "GripInspector$LiftText"
  | 3 => .object "GripInspector$Signs"
  | 4 => .object "GripInspector$Memory"
  | 5 => .object "GripInspector$Memory"
  | 6 => .array .boolean
  | 7 => .int
  | _ => .int
abbrev wsX40 : List Cond := u_ws RX4 TX4 9
theorem nmX4 : ∀ a, a < 9 → ∀ b, b < 9 → a ≠ b → (TX4 a).2.1 ≠ (TX4 b).2.1 := by decide +kernel
theorem tyX4_ok : ∀ k, k < 9 → parseFieldDescriptor (TX4 k).2.2.1 = some (tyX4 k) := by decide +kernel
abbrev cX4_init : ByteArray := prog_1_method_1_code
def yX4_init : MethodName := ⟨RX4, "<init>", "()V"⟩
abbrev cX4_append : ByteArray := prog_1_method_2_code
def yX4_append : MethodName := ⟨RX4, "append", "(I)I"⟩
abbrev cX4_clearText : ByteArray := prog_1_method_3_code
def yX4_clearText : MethodName := ⟨RX4, "clearText", "()I"⟩
abbrev cX4_errorPosition : ByteArray := prog_1_method_4_code
def yX4_errorPosition : MethodName := ⟨RX4, "errorPosition", "()I"⟩
abbrev cX4_load : ByteArray := prog_1_method_5_code
def yX4_load : MethodName := ⟨RX4, "load", "()I"⟩
abbrev cX4_about : ByteArray := prog_1_method_6_code
def yX4_about : MethodName := ⟨RX4, "about", "(I)I"⟩
abbrev cX4_grip : ByteArray := prog_1_method_7_code
def yX4_grip : MethodName := ⟨RX4, "grip", "(II)I"⟩
abbrev cX4_slot : ByteArray := prog_1_method_8_code
def yX4_slot : MethodName := ⟨RX4, "slot", "(I)I"⟩
abbrev cX4_random : ByteArray := prog_1_method_9_code
def yX4_random : MethodName := ⟨RX4, "random", "()J"⟩
abbrev cX4_report : ByteArray := prog_1_method_10_code
def yX4_report : MethodName := ⟨RX4, "report", "(I)I"⟩
abbrev cX4_step : ByteArray := prog_1_method_11_code
def yX4_step : MethodName := ⟨RX4, "step", "(I)I"⟩
abbrev cX4_addGrip : ByteArray := prog_1_method_12_code
def yX4_addGrip : MethodName := ⟨RX4, "addGrip", "(I)I"⟩
abbrev cX4_putOn : ByteArray := prog_1_method_13_code
def yX4_putOn : MethodName := ⟨RX4, "putOn", "(II)I"⟩
abbrev cX4_takeOff : ByteArray := prog_1_method_14_code
def yX4_takeOff : MethodName := ⟨RX4, "takeOff", "(I)I"⟩
abbrev cX4_scrap : ByteArray := prog_1_method_15_code
def yX4_scrap : MethodName := ⟨RX4, "scrap", "(I)I"⟩
abbrev cX4_setLimit : ByteArray := prog_1_method_16_code
def yX4_setLimit : MethodName := ⟨RX4, "setLimit", "(II)I"⟩
abbrev cX4_setRandom : ByteArray := prog_1_method_17_code
def yX4_setRandom : MethodName := ⟨RX4, "setRandom", "(J)J"⟩
abbrev cX4_undo : ByteArray := prog_1_method_18_code
def yX4_undo : MethodName := ⟨RX4, "undo", "()I"⟩
abbrev cX4_gap : ByteArray := prog_1_method_19_code
def yX4_gap : MethodName := ⟨RX4, "gap", "(I)I"⟩
abbrev cX4_room : ByteArray := prog_1_method_20_code
def yX4_room : MethodName := ⟨RX4, "room", "(I)I"⟩
abbrev cX4_groups : ByteArray := prog_1_method_21_code
def yX4_groups : MethodName := ⟨RX4, "groups", "(I)I"⟩
abbrev cX4_dueAfter : ByteArray := prog_1_method_22_code
def yX4_dueAfter : MethodName := ⟨RX4, "dueAfter", "(I)I"⟩
abbrev cX4_chance : ByteArray := prog_1_method_23_code
def yX4_chance : MethodName := ⟨RX4, "chance", "(IZ)I"⟩
abbrev cX4_ahead : ByteArray := prog_1_method_24_code
def yX4_ahead : MethodName := ⟨RX4, "ahead", "(III)I"⟩
abbrev cX4_happens : ByteArray := prog_1_method_25_code
def yX4_happens : MethodName := ⟨RX4, "happens", "(II)I"⟩
abbrev cX4_bestLimit : ByteArray := prog_1_method_26_code
def yX4_bestLimit : MethodName := ⟨RX4, "bestLimit", "(I)I"⟩
abbrev cX4_emptyAfter : ByteArray := prog_1_method_27_code
def yX4_emptyAfter : MethodName := ⟨RX4, "emptyAfter", "()I"⟩
abbrev cX4_runScript : ByteArray := prog_1_method_28_code
def yX4_runScript : MethodName := ⟨RX4, "runScript", "(IJ)I"⟩
abbrev cX4_simulate : ByteArray := prog_1_method_29_code
def yX4_simulate : MethodName := ⟨RX4, "simulate", "(JI)I"⟩
abbrev cX4_save : ByteArray := prog_1_method_30_code
def yX4_save : MethodName := ⟨RX4, "save", "(I)I"⟩
abbrev cX4_restore : ByteArray := prog_1_method_31_code
def yX4_restore : MethodName := ⟨RX4, "restore", "(I)I"⟩
abbrev cX4_remember : ByteArray := prog_1_method_32_code
def yX4_remember : MethodName := ⟨RX4, "remember", "()V"⟩
abbrev cX4_isSlipFree : ByteArray := prog_1_method_33_code
def yX4_isSlipFree : MethodName := ⟨RX4, "isSlipFree", "(II)Z"⟩
abbrev cX4_isStepNumber : ByteArray := prog_1_method_34_code
def yX4_isStepNumber : MethodName := ⟨RX4, "isStepNumber", "(I)Z"⟩
abbrev cX4_isGripNumber : ByteArray := prog_1_method_35_code
def yX4_isGripNumber : MethodName := ⟨RX4, "isGripNumber", "(I)Z"⟩
abbrev cX4_isLimit : ByteArray := prog_1_method_36_code
def yX4_isLimit : MethodName := ⟨RX4, "isLimit", "(II)Z"⟩
abbrev cX4_groupPower : ByteArray := prog_1_method_37_code
def yX4_groupPower : MethodName := ⟨RX4, "groupPower", "(I)J"⟩
abbrev cX4_groupAt : ByteArray := prog_1_method_38_code
def yX4_groupAt : MethodName := ⟨RX4, "groupAt", "(JI)I"⟩
abbrev cX4_obeys : ByteArray := prog_1_method_39_code
def yX4_obeys : MethodName := ⟨RX4, "obeys", "(I)Z"⟩
abbrev cX4_triesPutting : ByteArray := prog_1_method_40_code
def yX4_triesPutting : MethodName := ⟨RX4, "triesPutting", "(II)Z"⟩
abbrev cX4_triesTaking : ByteArray := prog_1_method_41_code
def yX4_triesTaking : MethodName := ⟨RX4, "triesTaking", "(I)Z"⟩
abbrev cX4_triesLimit : ByteArray := prog_1_method_42_code
def yX4_triesLimit : MethodName := ⟨RX4, "triesLimit", "(II)Z"⟩
def RX5 : String := "GripInspectorModel"
def TX5 : u_T := fun k => match k with
  | 0 => ("GripInspectorModel", "refusal", "I", false)
  | 1 => ("GripInspectorModel", "script", "[I", true)
  | 2 => ("GripInspectorModel", "scriptSize", "I", false)
  | 3 => ("GripInspectorModel", "spot", "I", false)
  | 4 => ("GripInspectorModel", "readN", "I", false)
  | 5 => ("GripInspectorModel", "readRow", "[I", true)
  | 6 => ("GripInspectorModel", "n", "I", false)
  | 7 => ("GripInspectorModel", "now", "[I", true)
  | 8 => ("GripInspectorModel", "trial", "[I", true)
  | 9 => ("GripInspectorModel", "diary", "[I", true)
  | 10 => ("GripInspectorModel", "acts", "I", false)
  | 11 => ("GripInspectorModel", "kept", "[I", true)
  | 12 => ("GripInspectorModel", "isKept", "[Z", true)
  | 13 => ("GripInspectorModel", "counts", "[I", true)
  | _ => ("GripInspectorModel", "report", "[I", true)
def tyX5 : Nat → FieldType := fun k => match k with
  | 0 => .int
  | 1 => .array .int
  | 2 => .int
  | 3 => .int
  | 4 => .int
  | 5 => .array .int
  | 6 => .int
  | 7 => .array .int
  | 8 => .array .int
  | 9 => .array .int
  | 10 => .int
  | 11 => .array .int
  | 12 => .array .boolean
  | 13 => .array .int
  | _ => .array .int
abbrev wsX50 : List Cond := u_ws RX5 TX5 15
theorem nmX5 : ∀ a, a < 15 → ∀ b, b < 15 → a ≠ b → (TX5 a).2.1 ≠ (TX5 b).2.1 := by decide +kernel
theorem tyX5_ok : ∀ k, k < 15 → parseFieldDescriptor (TX5 k).2.2.1 = some (tyX5 k) := by decide +kernel
abbrev cX5_init : ByteArray := prog_7_method_1_code
def yX5_init : MethodName := ⟨RX5, "<init>", "()V"⟩
abbrev cX5_thrown : ByteArray := prog_7_method_2_code
def yX5_thrown : MethodName := ⟨RX5, "thrown", "()I"⟩
abbrev cX5_refused : ByteArray := prog_7_method_3_code
def yX5_refused : MethodName := ⟨RX5, "refused", "(I)Z"⟩
abbrev cX5_in : ByteArray := prog_7_method_4_code
def yX5_in : MethodName := ⟨RX5, "in", "(JJJ)Z"⟩
abbrev cX5_copy : ByteArray := prog_7_method_5_code
def yX5_copy : MethodName := ⟨RX5, "copy", "([II[III)V"⟩
abbrev cX5_tenTo : ByteArray := prog_7_method_6_code
def yX5_tenTo : MethodName := ⟨RX5, "tenTo", "(I)J"⟩
abbrev cX5_note : ByteArray := prog_7_method_7_code
def yX5_note : MethodName := ⟨RX5, "note", "()V"⟩
abbrev cX5_isGrip : ByteArray := prog_7_method_8_code
def yX5_isGrip : MethodName := ⟨RX5, "isGrip", "(I)Z"⟩
abbrev cX5_isSlot : ByteArray := prog_7_method_9_code
def yX5_isSlot : MethodName := ⟨RX5, "isSlot", "(I)Z"⟩
abbrev cX5_randomOf : ByteArray := prog_7_method_10_code
def yX5_randomOf : MethodName := ⟨RX5, "randomOf", "([I)J"⟩
abbrev cX5_setRandomOn : ByteArray := prog_7_method_11_code
def yX5_setRandomOn : MethodName := ⟨RX5, "setRandomOn", "([IJ)V"⟩
abbrev cX5_gripAt : ByteArray := prog_7_method_12_code
def yX5_gripAt : MethodName := ⟨RX5, "gripAt", "([II)I"⟩
abbrev cX5_apart : ByteArray := prog_7_method_13_code
def yX5_apart : MethodName := ⟨RX5, "apart", "(II)I"⟩
abbrev cX5_isFree : ByteArray := prog_7_method_14_code
def yX5_isFree : MethodName := ⟨RX5, "isFree", "([II)Z"⟩
abbrev cX5_count : ByteArray := prog_7_method_15_code
def yX5_count : MethodName := ⟨RX5, "count", "([II)I"⟩
abbrev cX5_stepOn : ByteArray := prog_7_method_16_code
def yX5_stepOn : MethodName := ⟨RX5, "stepOn", "([I)V"⟩
abbrev cX5_pass : ByteArray := prog_7_method_17_code
def yX5_pass : MethodName := ⟨RX5, "pass", "([III)I"⟩
abbrev cX5_stepsOn : ByteArray := prog_7_method_18_code
def yX5_stepsOn : MethodName := ⟨RX5, "stepsOn", "([II)V"⟩
abbrev cX5_addOn : ByteArray := prog_7_method_19_code
def yX5_addOn : MethodName := ⟨RX5, "addOn", "([IIII)V"⟩
abbrev cX5_append : ByteArray := prog_7_method_20_code
def yX5_append : MethodName := ⟨RX5, "append", "(I)I"⟩
abbrev cX5_clearText : ByteArray := prog_7_method_21_code
def yX5_clearText : MethodName := ⟨RX5, "clearText", "()I"⟩
abbrev cX5_digit : ByteArray := prog_7_method_22_code
def yX5_digit : MethodName := ⟨RX5, "digit", "(II)I"⟩
abbrev cX5_two : ByteArray := prog_7_method_23_code
def yX5_two : MethodName := ⟨RX5, "two", "(II)I"⟩
abbrev cX5_mayHang : ByteArray := prog_7_method_24_code
def yX5_mayHang : MethodName := ⟨RX5, "mayHang", "(I)Z"⟩
abbrev cX5_readSlot : ByteArray := prog_7_method_25_code
def yX5_readSlot : MethodName := ⟨RX5, "readSlot", "()I"⟩
abbrev cX5_readItem : ByteArray := prog_7_method_26_code
def yX5_readItem : MethodName := ⟨RX5, "readItem", "()Z"⟩
abbrev cX5_readText : ByteArray := prog_7_method_27_code
def yX5_readText : MethodName := ⟨RX5, "readText", "()I"⟩
abbrev cX5_errorPosition : ByteArray := prog_7_method_28_code
def yX5_errorPosition : MethodName := ⟨RX5, "errorPosition", "()I"⟩
abbrev cX5_load : ByteArray := prog_7_method_29_code
def yX5_load : MethodName := ⟨RX5, "load", "()I"⟩
abbrev cX5_about : ByteArray := prog_7_method_30_code
def yX5_about : MethodName := ⟨RX5, "about", "(I)I"⟩
abbrev cX5_detail : ByteArray := prog_7_method_31_code
def yX5_detail : MethodName := ⟨RX5, "detail", "([III)I"⟩
abbrev cX5_grip : ByteArray := prog_7_method_32_code
def yX5_grip : MethodName := ⟨RX5, "grip", "(II)I"⟩
abbrev cX5_slot : ByteArray := prog_7_method_33_code
def yX5_slot : MethodName := ⟨RX5, "slot", "(I)I"⟩
abbrev cX5_random : ByteArray := prog_7_method_34_code
def yX5_random : MethodName := ⟨RX5, "random", "()J"⟩
abbrev cX5_layReport : ByteArray := prog_7_method_35_code
def yX5_layReport : MethodName := ⟨RX5, "layReport", "()I"⟩
abbrev cX5_report : ByteArray := prog_7_method_36_code
def yX5_report : MethodName := ⟨RX5, "report", "(I)I"⟩
abbrev cX5_step : ByteArray := prog_7_method_37_code
def yX5_step : MethodName := ⟨RX5, "step", "(I)I"⟩
abbrev cX5_addGrip : ByteArray := prog_7_method_38_code
def yX5_addGrip : MethodName := ⟨RX5, "addGrip", "(I)I"⟩
abbrev cX5_canPut : ByteArray := prog_7_method_39_code
def yX5_canPut : MethodName := ⟨RX5, "canPut", "([III)Z"⟩
abbrev cX5_putAt : ByteArray := prog_7_method_40_code
def yX5_putAt : MethodName := ⟨RX5, "putAt", "([III)V"⟩
abbrev cX5_putOn : ByteArray := prog_7_method_41_code
def yX5_putOn : MethodName := ⟨RX5, "putOn", "(II)I"⟩
abbrev cX5_takeOff : ByteArray := prog_7_method_42_code
def yX5_takeOff : MethodName := ⟨RX5, "takeOff", "(I)I"⟩
abbrev cX5_scrap : ByteArray := prog_7_method_43_code
def yX5_scrap : MethodName := ⟨RX5, "scrap", "(I)I"⟩
abbrev cX5_isLimit : ByteArray := prog_7_method_44_code
def yX5_isLimit : MethodName := ⟨RX5, "isLimit", "(II)Z"⟩
abbrev cX5_setLimit : ByteArray := prog_7_method_45_code
def yX5_setLimit : MethodName := ⟨RX5, "setLimit", "(II)I"⟩
abbrev cX5_setRandom : ByteArray := prog_7_method_46_code
def yX5_setRandom : MethodName := ⟨RX5, "setRandom", "(J)J"⟩
abbrev cX5_undo : ByteArray := prog_7_method_47_code
def yX5_undo : MethodName := ⟨RX5, "undo", "()I"⟩
abbrev cX5_gapOf : ByteArray := prog_7_method_48_code
def yX5_gapOf : MethodName := ⟨RX5, "gapOf", "(I)I"⟩
abbrev cX5_gap : ByteArray := prog_7_method_49_code
def yX5_gap : MethodName := ⟨RX5, "gap", "(I)I"⟩
abbrev cX5_room : ByteArray := prog_7_method_50_code
def yX5_room : MethodName := ⟨RX5, "room", "(I)I"⟩
abbrev cX5_isLike : ByteArray := prog_7_method_51_code
def yX5_isLike : MethodName := ⟨RX5, "isLike", "(II)Z"⟩
abbrev cX5_groups : ByteArray := prog_7_method_52_code
def yX5_groups : MethodName := ⟨RX5, "groups", "(I)I"⟩
abbrev cX5_dueAfter : ByteArray := prog_7_method_53_code
def yX5_dueAfter : MethodName := ⟨RX5, "dueAfter", "(I)I"⟩
abbrev cX5_chance : ByteArray := prog_7_method_54_code
def yX5_chance : MethodName := ⟨RX5, "chance", "(IZ)I"⟩
abbrev cX5_ahead : ByteArray := prog_7_method_55_code
def yX5_ahead : MethodName := ⟨RX5, "ahead", "(III)I"⟩
abbrev cX5_happens : ByteArray := prog_7_method_56_code
def yX5_happens : MethodName := ⟨RX5, "happens", "(II)I"⟩
abbrev cX5_bestLimit : ByteArray := prog_7_method_57_code
def yX5_bestLimit : MethodName := ⟨RX5, "bestLimit", "(I)I"⟩
abbrev cX5_emptyAfter : ByteArray := prog_7_method_58_code
def yX5_emptyAfter : MethodName := ⟨RX5, "emptyAfter", "()I"⟩
abbrev cX5_command : ByteArray := prog_7_method_59_code
def yX5_command : MethodName := ⟨RX5, "command", "(I)Z"⟩
abbrev cX5_runScript : ByteArray := prog_7_method_60_code
def yX5_runScript : MethodName := ⟨RX5, "runScript", "(IJ)I"⟩
abbrev cX5_simulate : ByteArray := prog_7_method_61_code
def yX5_simulate : MethodName := ⟨RX5, "simulate", "(JI)I"⟩
abbrev cX5_save : ByteArray := prog_7_method_62_code
def yX5_save : MethodName := ⟨RX5, "save", "(I)I"⟩
abbrev cX5_restore : ByteArray := prog_7_method_63_code
def yX5_restore : MethodName := ⟨RX5, "restore", "(I)I"⟩
def RJ9 : String := "java/lang/Math"
def TJ9 : u_T := fun k => match k with
  | _ => ("", "", "", false)
def tyJ9 : Nat → FieldType := fun k => match k with
  | _ => .int
abbrev wsJ90 : List Cond := u_ws RJ9 TJ9 0
theorem nmJ9 : ∀ a, a < 0 → ∀ b, b < 0 → a ≠ b → (TJ9 a).2.1 ≠ (TJ9 b).2.1 := by decide +kernel
theorem tyJ9_ok : ∀ k, k < 0 → parseFieldDescriptor (TJ9 k).2.2.1 = some (tyJ9 k) := by decide +kernel
abbrev cJ9_max_7cf53 : ByteArray := prog_12_method_65_code
def yJ9_max_7cf53 : MethodName := ⟨RJ9, "max", "(II)I"⟩
abbrev cJ9_min_7cf53 : ByteArray := prog_12_method_69_code
def yJ9_min_7cf53 : MethodName := ⟨RJ9, "min", "(II)I"⟩
def RJ0 : String := "java/lang/String"
def TJ0 : u_T := fun k => match k with
  | _ => ("", "", "", false)
def tyJ0 : Nat → FieldType := fun k => match k with
  | _ => .int
abbrev wsJ00 : List Cond := u_ws RJ0 TJ0 0
theorem nmJ0 : ∀ a, a < 0 → ∀ b, b < 0 → a ≠ b → (TJ0 a).2.1 ≠ (TJ0 b).2.1 := by decide +kernel
theorem tyJ0_ok : ∀ k, k < 0 → parseFieldDescriptor (TJ0 k).2.2.1 = some (tyJ0 k) := by decide +kernel
def RJ10 : String := "java/lang/System"
def TJ10 : u_T := fun k => match k with
  | _ => ("", "", "", false)
def tyJ10 : Nat → FieldType := fun k => match k with
  | _ => .int
abbrev wsJ100 : List Cond := u_ws RJ10 TJ10 0
theorem nmJ10 : ∀ a, a < 0 → ∀ b, b < 0 → a ≠ b → (TJ10 a).2.1 ≠ (TJ10 b).2.1 := by decide +kernel
theorem tyJ10_ok : ∀ k, k < 0 → parseFieldDescriptor (TJ10 k).2.2.1 = some (tyJ10 k) := by decide +kernel
def RL : String := "GripInspectorLaw"
abbrev cL_append : ByteArray := method_3_code
def yL_append : MethodName := ⟨RL, "append", "(LGripInspector;I[J)I"⟩
abbrev cL_load : ByteArray := method_4_code
def yL_load : MethodName := ⟨RL, "load", "(LGripInspector;[J)I"⟩
abbrev cL_about : ByteArray := method_5_code
def yL_about : MethodName := ⟨RL, "about", "(LGripInspector;I[J)I"⟩
abbrev cL_grip : ByteArray := method_6_code
def yL_grip : MethodName := ⟨RL, "grip", "(LGripInspector;II[J)I"⟩
abbrev cL_slot : ByteArray := method_7_code
def yL_slot : MethodName := ⟨RL, "slot", "(LGripInspector;I[J)I"⟩
abbrev cL_report : ByteArray := method_8_code
def yL_report : MethodName := ⟨RL, "report", "(LGripInspector;I[J)I"⟩
abbrev cL_step : ByteArray := method_9_code
def yL_step : MethodName := ⟨RL, "step", "(LGripInspector;I[J)I"⟩
abbrev cL_addGrip : ByteArray := method_10_code
def yL_addGrip : MethodName := ⟨RL, "addGrip", "(LGripInspector;I[J)I"⟩
abbrev cL_putOn : ByteArray := method_11_code
def yL_putOn : MethodName := ⟨RL, "putOn", "(LGripInspector;II[J)I"⟩
abbrev cL_takeOff : ByteArray := method_12_code
def yL_takeOff : MethodName := ⟨RL, "takeOff", "(LGripInspector;I[J)I"⟩
abbrev cL_scrap : ByteArray := method_13_code
def yL_scrap : MethodName := ⟨RL, "scrap", "(LGripInspector;I[J)I"⟩
abbrev cL_setLimit : ByteArray := method_14_code
def yL_setLimit : MethodName := ⟨RL, "setLimit", "(LGripInspector;II[J)I"⟩
abbrev cL_undo : ByteArray := method_15_code
def yL_undo : MethodName := ⟨RL, "undo", "(LGripInspector;[J)I"⟩
abbrev cL_gap : ByteArray := method_16_code
def yL_gap : MethodName := ⟨RL, "gap", "(LGripInspector;I[J)I"⟩
abbrev cL_room : ByteArray := method_17_code
def yL_room : MethodName := ⟨RL, "room", "(LGripInspector;I[J)I"⟩
abbrev cL_groups : ByteArray := method_18_code
def yL_groups : MethodName := ⟨RL, "groups", "(LGripInspector;I[J)I"⟩
abbrev cL_dueAfter : ByteArray := method_19_code
def yL_dueAfter : MethodName := ⟨RL, "dueAfter", "(LGripInspector;I[J)I"⟩
abbrev cL_chance : ByteArray := method_20_code
def yL_chance : MethodName := ⟨RL, "chance", "(LGripInspector;IZ[J)I"⟩
abbrev cL_ahead : ByteArray := method_21_code
def yL_ahead : MethodName := ⟨RL, "ahead", "(LGripInspector;III[J)I"⟩
abbrev cL_happens : ByteArray := method_22_code
def yL_happens : MethodName := ⟨RL, "happens", "(LGripInspector;II[J)I"⟩
abbrev cL_bestLimit : ByteArray := method_23_code
def yL_bestLimit : MethodName := ⟨RL, "bestLimit", "(LGripInspector;I[J)I"⟩
abbrev cL_runScript : ByteArray := method_24_code
def yL_runScript : MethodName := ⟨RL, "runScript", "(LGripInspector;IJ[J)I"⟩
abbrev cL_simulate : ByteArray := method_25_code
def yL_simulate : MethodName := ⟨RL, "simulate", "(LGripInspector;JI[J)I"⟩
abbrev cL_save : ByteArray := method_26_code
def yL_save : MethodName := ⟨RL, "save", "(LGripInspector;I[J)I"⟩
abbrev cL_restore : ByteArray := method_27_code
def yL_restore : MethodName := ⟨RL, "restore", "(LGripInspector;I[J)I"⟩
abbrev cL_law : ByteArray := code
def yL_law : MethodName := ⟨RL, "law", "([I)Z"⟩
def wsX0_clear : List Cond := .code yX0_clear cX0_clear 2 none :: ([.fieldLink RX0 27 "GripInspector$Lift" "place" "[I", .fieldLink RX0 46 "GripInspector$Lift" "station" "I", .fieldLink RX0 49 "GripInspector$Lift" "clock" "I", .fieldLink RX0 52 "GripInspector$Lift" "randomState" "J"] ++ wsX00)
def wsX0_init : List Cond := .code yX0_init cX0_init 1 none :: ([.methodLink RX0 3 objectInit, .instanceMethod objectInit, .code objectInit ⟨#[0xb1]⟩ 1 none, .arrayClass .int, .fieldLink RX0 9 "GripInspector$Lift" "weight" "[I", .fieldLink RX0 15 "GripInspector$Lift" "cycles" "[I", .fieldLink RX0 18 "GripInspector$Lift" "wear" "[I", .fieldLink RX0 21 "GripInspector$Lift" "pulls" "[I", .fieldLink RX0 24 "GripInspector$Lift" "lastSlip" "[I", .fieldLink RX0 27 "GripInspector$Lift" "place" "[I", .fieldLink RX0 30 "GripInspector$Lift" "spot" "[I", .fieldLink RX0 33 "GripInspector$Lift" "stepsLeft" "[I", .fieldLink RX0 36 "GripInspector$Lift" "limits" "[I", .fieldLink RX0 42 "GripInspector$Lift" "n" "I", .methodLink RX0 39 yX0_clear, .instanceMethod yX0_clear, .selects RX0 yX0_clear yX0_clear, .initialized RX0, .code yX0_clear cX0_clear 2 none, .fieldLink RX0 46 "GripInspector$Lift" "station" "I", .fieldLink RX0 49 "GripInspector$Lift" "clock" "I", .fieldLink RX0 52 "GripInspector$Lift" "randomState" "J"] ++ wsX00)
def wsX0_become : List Cond := .code yX0_become cX0_become 2 none :: ([.fieldLink RX0 9 "GripInspector$Lift" "weight" "[I", .methodLink RX0 56 arraycopyName, .native arraycopyName, .static arraycopyName, .initialized "java/lang/System", .fieldLink RX0 15 "GripInspector$Lift" "cycles" "[I", .fieldLink RX0 18 "GripInspector$Lift" "wear" "[I", .fieldLink RX0 21 "GripInspector$Lift" "pulls" "[I", .fieldLink RX0 24 "GripInspector$Lift" "lastSlip" "[I", .fieldLink RX0 27 "GripInspector$Lift" "place" "[I", .fieldLink RX0 30 "GripInspector$Lift" "spot" "[I", .fieldLink RX0 33 "GripInspector$Lift" "stepsLeft" "[I", .fieldLink RX0 36 "GripInspector$Lift" "limits" "[I", .fieldLink RX0 42 "GripInspector$Lift" "n" "I", .fieldLink RX0 46 "GripInspector$Lift" "station" "I", .fieldLink RX0 49 "GripInspector$Lift" "clock" "I", .fieldLink RX0 52 "GripInspector$Lift" "randomState" "J"] ++ wsX00)
def wsX0_has : List Cond := .code yX0_has cX0_has 2 (some .boolean) :: ([.fieldLink RX0 27 "GripInspector$Lift" "place" "[I"] ++ wsX00)
def wsX0_hasSlot : List Cond := .code yX0_hasSlot cX0_hasSlot 2 (some .boolean) :: ([.fieldLink RX0 42 "GripInspector$Lift" "n" "I"] ++ wsX00)
def wsX0_isIn : List Cond := .code yX0_isIn cX0_isIn 3 (some .boolean) :: ([.fieldLink RX0 27 "GripInspector$Lift" "place" "[I"] ++ wsX00)
def wsX0_count : List Cond := .code yX0_count cX0_count 4 (some .int) :: ([.fieldLink RX0 27 "GripInspector$Lift" "place" "[I"] ++ wsX00)
def wsX0_grips : List Cond := .code yX0_grips cX0_grips 1 (some .int) :: ([.methodLink RX0 62 yX0_count, .instanceMethod yX0_count, .selects RX0 yX0_count yX0_count, .initialized RX0, .code yX0_count cX0_count 4 (some .int), .fieldLink RX0 27 "GripInspector$Lift" "place" "[I"] ++ wsX00)
def wsX0_isFull : List Cond := .code yX0_isFull cX0_isFull 1 (some .boolean) :: ([.methodLink RX0 62 yX0_count, .instanceMethod yX0_count, .selects RX0 yX0_count yX0_count, .initialized RX0, .code yX0_count cX0_count 4 (some .int), .fieldLink RX0 27 "GripInspector$Lift" "place" "[I"] ++ wsX00)
def wsX0_gripAt : List Cond := .code yX0_gripAt cX0_gripAt 3 (some .int) :: ([.fieldLink RX0 27 "GripInspector$Lift" "place" "[I", .fieldLink RX0 30 "GripInspector$Lift" "spot" "[I"] ++ wsX00)
def wsX0_number : List Cond := .code yX0_number cX0_number 3 (some .int) :: ([.fieldLink RX0 9 "GripInspector$Lift" "weight" "[I", .fieldLink RX0 15 "GripInspector$Lift" "cycles" "[I", .fieldLink RX0 18 "GripInspector$Lift" "wear" "[I", .fieldLink RX0 21 "GripInspector$Lift" "pulls" "[I", .fieldLink RX0 24 "GripInspector$Lift" "lastSlip" "[I", .fieldLink RX0 27 "GripInspector$Lift" "place" "[I", .fieldLink RX0 30 "GripInspector$Lift" "spot" "[I", .fieldLink RX0 33 "GripInspector$Lift" "stepsLeft" "[I"] ++ wsX00)
def wsX0_allPulls : List Cond := .code yX0_allPulls cX0_allPulls 3 (some .int) :: ([.fieldLink RX0 27 "GripInspector$Lift" "place" "[I", .fieldLink RX0 21 "GripInspector$Lift" "pulls" "[I"] ++ wsX00)
def wsX0_add : List Cond := .code yX0_add cX0_add 3 none :: ([.fieldLink RX0 9 "GripInspector$Lift" "weight" "[I", .fieldLink RX0 15 "GripInspector$Lift" "cycles" "[I", .fieldLink RX0 18 "GripInspector$Lift" "wear" "[I", .fieldLink RX0 21 "GripInspector$Lift" "pulls" "[I", .fieldLink RX0 24 "GripInspector$Lift" "lastSlip" "[I", .fieldLink RX0 27 "GripInspector$Lift" "place" "[I", .methodLink RX0 66 yX0_grips, .instanceMethod yX0_grips, .selects RX0 yX0_grips yX0_grips, .initialized RX0, .code yX0_grips cX0_grips 1 (some .int), .methodLink RX0 62 yX0_count, .instanceMethod yX0_count, .selects RX0 yX0_count yX0_count, .code yX0_count cX0_count 4 (some .int)] ++ wsX00)
def wsX0_hang : List Cond := .code yX0_hang cX0_hang 3 none :: ([.fieldLink RX0 27 "GripInspector$Lift" "place" "[I", .fieldLink RX0 30 "GripInspector$Lift" "spot" "[I"] ++ wsX00)
def wsX0_move : List Cond := .code yX0_move cX0_move 3 none :: ([.fieldLink RX0 27 "GripInspector$Lift" "place" "[I"] ++ wsX00)
def wsX0_pass : List Cond := .code yX0_pass cX0_pass 6 (some .int) :: ([.fieldLink RX0 15 "GripInspector$Lift" "cycles" "[I", .fieldLink RX0 18 "GripInspector$Lift" "wear" "[I", .fieldLink RX0 9 "GripInspector$Lift" "weight" "[I", .fieldLink RX0 36 "GripInspector$Lift" "limits" "[I", .fieldLink RX0 21 "GripInspector$Lift" "pulls" "[I", .fieldLink RX0 24 "GripInspector$Lift" "lastSlip" "[I", .fieldLink RX0 27 "GripInspector$Lift" "place" "[I", .fieldLink RX0 33 "GripInspector$Lift" "stepsLeft" "[I"] ++ wsX00)
def wsX0_repairAllBut : List Cond := .code yX0_repairAllBut cX0_repairAllBut 3 none :: ([.fieldLink RX0 27 "GripInspector$Lift" "place" "[I", .fieldLink RX0 33 "GripInspector$Lift" "stepsLeft" "[I", .fieldLink RX0 15 "GripInspector$Lift" "cycles" "[I", .fieldLink RX0 18 "GripInspector$Lift" "wear" "[I"] ++ wsX00)
def wsX0_distance : List Cond := .code yX0_distance cX0_distance 4 (some .int) :: ([.fieldLink RX0 42 "GripInspector$Lift" "n" "I"] ++ wsX00)
def wsX0_isRoomAt : List Cond := .code yX0_isRoomAt cX0_isRoomAt 3 (some .boolean) :: ([.fieldLink RX0 27 "GripInspector$Lift" "place" "[I", .fieldLink RX0 30 "GripInspector$Lift" "spot" "[I", .fieldLink RX0 36 "GripInspector$Lift" "limits" "[I", .methodLink RX0 99 yX0_distance, .instanceMethod yX0_distance, .selects RX0 yX0_distance yX0_distance, .initialized RX0, .code yX0_distance cX0_distance 4 (some .int), .fieldLink RX0 42 "GripInspector$Lift" "n" "I"] ++ wsX00)
def wsX0_fillStation : List Cond := .code yX0_fillStation cX0_fillStation 3 (some .int) :: ([.fieldLink RX0 27 "GripInspector$Lift" "place" "[I", .fieldLink RX0 15 "GripInspector$Lift" "cycles" "[I", .fieldLink RX0 46 "GripInspector$Lift" "station" "I", .methodLink RX0 91 yX0_isRoomAt, .instanceMethod yX0_isRoomAt, .selects RX0 yX0_isRoomAt yX0_isRoomAt, .initialized RX0, .code yX0_isRoomAt cX0_isRoomAt 3 (some .boolean), .fieldLink RX0 30 "GripInspector$Lift" "spot" "[I", .fieldLink RX0 36 "GripInspector$Lift" "limits" "[I", .methodLink RX0 99 yX0_distance, .instanceMethod yX0_distance, .selects RX0 yX0_distance yX0_distance, .code yX0_distance cX0_distance 4 (some .int), .fieldLink RX0 42 "GripInspector$Lift" "n" "I", .methodLink RX0 95 yX0_hang, .instanceMethod yX0_hang, .selects RX0 yX0_hang yX0_hang, .code yX0_hang cX0_hang 3 none] ++ wsX00)
def wsX0_advance_r1 : List Cond := [Cond.fieldLink RX0 46 "GripInspector$Lift" "station" "I", Cond.fieldLink RX0 42 "GripInspector$Lift" "n" "I", Cond.fieldLink RX0 52 "GripInspector$Lift" "randomState" "J", Cond.constantLong RX0 73 (6364136223846793005), Cond.constantLong RX0 75 (1442695040888963407), Cond.fieldLink RX0 49 "GripInspector$Lift" "clock" "I", Cond.methodLink RX0 77 yX0_gripAt, Cond.instanceMethod yX0_gripAt, Cond.selects RX0 yX0_gripAt yX0_gripAt, Cond.initialized RX0, Cond.code yX0_gripAt cX0_gripAt 3 (some .int), Cond.fieldLink RX0 27 "GripInspector$Lift" "place" "[I", Cond.fieldLink RX0 30 "GripInspector$Lift" "spot" "[I", Cond.methodLink RX0 80 yX0_pass, Cond.instanceMethod yX0_pass, Cond.selects RX0 yX0_pass yX0_pass, Cond.code yX0_pass cX0_pass 6 (some .int), Cond.fieldLink RX0 15 "GripInspector$Lift" "cycles" "[I", Cond.fieldLink RX0 18 "GripInspector$Lift" "wear" "[I", Cond.fieldLink RX0 9 "GripInspector$Lift" "weight" "[I", Cond.fieldLink RX0 36 "GripInspector$Lift" "limits" "[I", Cond.fieldLink RX0 21 "GripInspector$Lift" "pulls" "[I", Cond.fieldLink RX0 24 "GripInspector$Lift" "lastSlip" "[I", Cond.fieldLink RX0 33 "GripInspector$Lift" "stepsLeft" "[I"]
def wsX0_advance_r2 : List Cond := [Cond.methodLink RX0 84 yX0_repairAllBut, Cond.instanceMethod yX0_repairAllBut, Cond.selects RX0 yX0_repairAllBut yX0_repairAllBut, Cond.code yX0_repairAllBut cX0_repairAllBut 3 none, Cond.methodLink RX0 88 yX0_fillStation, Cond.instanceMethod yX0_fillStation, Cond.selects RX0 yX0_fillStation yX0_fillStation, Cond.code yX0_fillStation cX0_fillStation 3 (some .int), Cond.methodLink RX0 91 yX0_isRoomAt, Cond.instanceMethod yX0_isRoomAt, Cond.selects RX0 yX0_isRoomAt yX0_isRoomAt, Cond.code yX0_isRoomAt cX0_isRoomAt 3 (some .boolean), Cond.methodLink RX0 99 yX0_distance, Cond.instanceMethod yX0_distance, Cond.selects RX0 yX0_distance yX0_distance, Cond.code yX0_distance cX0_distance 4 (some .int), Cond.methodLink RX0 95 yX0_hang, Cond.instanceMethod yX0_hang, Cond.selects RX0 yX0_hang yX0_hang, Cond.code yX0_hang cX0_hang 3 none]
def wsX0_advance : List Cond := .code yX0_advance cX0_advance 3 (some .int) :: ((wsX0_advance_r1 ++ wsX0_advance_r2) ++ wsX00)
def wsX0_advanceBy_r1 : List Cond := [Cond.methodLink RX0 70 yX0_advance, Cond.instanceMethod yX0_advance, Cond.selects RX0 yX0_advance yX0_advance, Cond.initialized RX0, Cond.code yX0_advance cX0_advance 3 (some .int), Cond.fieldLink RX0 46 "GripInspector$Lift" "station" "I", Cond.fieldLink RX0 42 "GripInspector$Lift" "n" "I", Cond.fieldLink RX0 52 "GripInspector$Lift" "randomState" "J", Cond.constantLong RX0 73 (6364136223846793005), Cond.constantLong RX0 75 (1442695040888963407), Cond.fieldLink RX0 49 "GripInspector$Lift" "clock" "I", Cond.methodLink RX0 77 yX0_gripAt, Cond.instanceMethod yX0_gripAt, Cond.selects RX0 yX0_gripAt yX0_gripAt, Cond.code yX0_gripAt cX0_gripAt 3 (some .int), Cond.fieldLink RX0 27 "GripInspector$Lift" "place" "[I", Cond.fieldLink RX0 30 "GripInspector$Lift" "spot" "[I", Cond.methodLink RX0 80 yX0_pass, Cond.instanceMethod yX0_pass, Cond.selects RX0 yX0_pass yX0_pass, Cond.code yX0_pass cX0_pass 6 (some .int), Cond.fieldLink RX0 15 "GripInspector$Lift" "cycles" "[I", Cond.fieldLink RX0 18 "GripInspector$Lift" "wear" "[I", Cond.fieldLink RX0 9 "GripInspector$Lift" "weight" "[I"]
def wsX0_advanceBy_r2 : List Cond := [Cond.fieldLink RX0 36 "GripInspector$Lift" "limits" "[I", Cond.fieldLink RX0 21 "GripInspector$Lift" "pulls" "[I", Cond.fieldLink RX0 24 "GripInspector$Lift" "lastSlip" "[I", Cond.fieldLink RX0 33 "GripInspector$Lift" "stepsLeft" "[I", Cond.methodLink RX0 84 yX0_repairAllBut, Cond.instanceMethod yX0_repairAllBut, Cond.selects RX0 yX0_repairAllBut yX0_repairAllBut, Cond.code yX0_repairAllBut cX0_repairAllBut 3 none, Cond.methodLink RX0 88 yX0_fillStation, Cond.instanceMethod yX0_fillStation, Cond.selects RX0 yX0_fillStation yX0_fillStation, Cond.code yX0_fillStation cX0_fillStation 3 (some .int), Cond.methodLink RX0 91 yX0_isRoomAt, Cond.instanceMethod yX0_isRoomAt, Cond.selects RX0 yX0_isRoomAt yX0_isRoomAt, Cond.code yX0_isRoomAt cX0_isRoomAt 3 (some .boolean), Cond.methodLink RX0 99 yX0_distance, Cond.instanceMethod yX0_distance, Cond.selects RX0 yX0_distance yX0_distance, Cond.code yX0_distance cX0_distance 4 (some .int), Cond.methodLink RX0 95 yX0_hang, Cond.instanceMethod yX0_hang, Cond.selects RX0 yX0_hang yX0_hang, Cond.code yX0_hang cX0_hang 3 none]
def wsX0_advanceBy : List Cond := .code yX0_advanceBy cX0_advanceBy 3 none :: ((wsX0_advanceBy_r1 ++ wsX0_advanceBy_r2) ++ wsX00)
def wsX0_roomySlots : List Cond := .code yX0_roomySlots cX0_roomySlots 3 (some .int) :: ([.fieldLink RX0 42 "GripInspector$Lift" "n" "I", .methodLink RX0 91 yX0_isRoomAt, .instanceMethod yX0_isRoomAt, .selects RX0 yX0_isRoomAt yX0_isRoomAt, .initialized RX0, .code yX0_isRoomAt cX0_isRoomAt 3 (some .boolean), .fieldLink RX0 27 "GripInspector$Lift" "place" "[I", .fieldLink RX0 30 "GripInspector$Lift" "spot" "[I", .fieldLink RX0 36 "GripInspector$Lift" "limits" "[I", .methodLink RX0 99 yX0_distance, .instanceMethod yX0_distance, .selects RX0 yX0_distance yX0_distance, .code yX0_distance cX0_distance 4 (some .int)] ++ wsX00)
def wsX0_slotsOn : List Cond := .code yX0_slotsOn cX0_slotsOn 3 (some .int) :: ([.fieldLink RX0 42 "GripInspector$Lift" "n" "I"] ++ wsX00)
def wsX0_gapBehind : List Cond := .code yX0_gapBehind cX0_gapBehind 4 (some .int) :: ([.fieldLink RX0 42 "GripInspector$Lift" "n" "I", .fieldLink RX0 27 "GripInspector$Lift" "place" "[I", .fieldLink RX0 30 "GripInspector$Lift" "spot" "[I", .methodLink RX0 105 Lib.Math.min.name, .static Lib.Math.min.name, .initialized "java/lang/Math", .code Lib.Math.min.name Lib.Math.min.code 2 (some .int), .methodLink RX0 102 yX0_slotsOn, .instanceMethod yX0_slotsOn, .selects RX0 yX0_slotsOn yX0_slotsOn, .initialized RX0, .code yX0_slotsOn cX0_slotsOn 3 (some .int)] ++ wsX00)
def wsX0_smallestGap : List Cond := .code yX0_smallestGap cX0_smallestGap 4 (some .int) :: ([.fieldLink RX0 27 "GripInspector$Lift" "place" "[I", .methodLink RX0 110 yX0_gapBehind, .instanceMethod yX0_gapBehind, .selects RX0 yX0_gapBehind yX0_gapBehind, .initialized RX0, .code yX0_gapBehind cX0_gapBehind 4 (some .int), .fieldLink RX0 42 "GripInspector$Lift" "n" "I", .fieldLink RX0 30 "GripInspector$Lift" "spot" "[I", .methodLink RX0 105 Lib.Math.min.name, .static Lib.Math.min.name, .initialized "java/lang/Math", .code Lib.Math.min.name Lib.Math.min.code 2 (some .int), .methodLink RX0 102 yX0_slotsOn, .instanceMethod yX0_slotsOn, .selects RX0 yX0_slotsOn yX0_slotsOn, .code yX0_slotsOn cX0_slotsOn 3 (some .int)] ++ wsX00)
def wsX0_capacity : List Cond := .code yX0_capacity cX0_capacity 2 (some .int) :: ([.fieldLink RX0 36 "GripInspector$Lift" "limits" "[I", .fieldLink RX0 42 "GripInspector$Lift" "n" "I"] ++ wsX00)
def wsX0_stepsUntilDue : List Cond := .code yX0_stepsUntilDue cX0_stepsUntilDue 3 (some .int) :: ([.fieldLink RX0 36 "GripInspector$Lift" "limits" "[I", .fieldLink RX0 15 "GripInspector$Lift" "cycles" "[I", .methodLink RX0 113 Lib.Math.max.name, .static Lib.Math.max.name, .initialized "java/lang/Math", .code Lib.Math.max.name Lib.Math.max.code 2 (some .int), .fieldLink RX0 46 "GripInspector$Lift" "station" "I", .fieldLink RX0 30 "GripInspector$Lift" "spot" "[I", .fieldLink RX0 42 "GripInspector$Lift" "n" "I", .methodLink RX0 102 yX0_slotsOn, .instanceMethod yX0_slotsOn, .selects RX0 yX0_slotsOn yX0_slotsOn, .initialized RX0, .code yX0_slotsOn cX0_slotsOn 3 (some .int)] ++ wsX00)
def wsX0_isGrouped : List Cond := .code yX0_isGrouped cX0_isGrouped 2 (some .boolean) :: ([.fieldLink RX0 27 "GripInspector$Lift" "place" "[I"] ++ wsX00)
def wsX0_areTogether : List Cond := .code yX0_areTogether cX0_areTogether 4 (some .boolean) :: ([.fieldLink RX0 9 "GripInspector$Lift" "weight" "[I", .fieldLink RX0 15 "GripInspector$Lift" "cycles" "[I", .methodLink RX0 116 yX0_isGrouped, .instanceMethod yX0_isGrouped, .selects RX0 yX0_isGrouped yX0_isGrouped, .initialized RX0, .code yX0_isGrouped cX0_isGrouped 2 (some .boolean), .fieldLink RX0 27 "GripInspector$Lift" "place" "[I"] ++ wsX00)
def wsX0_opensGroup : List Cond := .code yX0_opensGroup cX0_opensGroup 3 (some .boolean) :: ([.methodLink RX0 119 yX0_areTogether, .instanceMethod yX0_areTogether, .selects RX0 yX0_areTogether yX0_areTogether, .initialized RX0, .code yX0_areTogether cX0_areTogether 4 (some .boolean), .fieldLink RX0 9 "GripInspector$Lift" "weight" "[I", .fieldLink RX0 15 "GripInspector$Lift" "cycles" "[I", .methodLink RX0 116 yX0_isGrouped, .instanceMethod yX0_isGrouped, .selects RX0 yX0_isGrouped yX0_isGrouped, .code yX0_isGrouped cX0_isGrouped 2 (some .boolean), .fieldLink RX0 27 "GripInspector$Lift" "place" "[I"] ++ wsX00)
def wsX0_groupSize : List Cond := .code yX0_groupSize cX0_groupSize 4 (some .int) :: ([.methodLink RX0 119 yX0_areTogether, .instanceMethod yX0_areTogether, .selects RX0 yX0_areTogether yX0_areTogether, .initialized RX0, .code yX0_areTogether cX0_areTogether 4 (some .boolean), .fieldLink RX0 9 "GripInspector$Lift" "weight" "[I", .fieldLink RX0 15 "GripInspector$Lift" "cycles" "[I", .methodLink RX0 116 yX0_isGrouped, .instanceMethod yX0_isGrouped, .selects RX0 yX0_isGrouped yX0_isGrouped, .code yX0_isGrouped cX0_isGrouped 2 (some .boolean), .fieldLink RX0 27 "GripInspector$Lift" "place" "[I"] ++ wsX00)
def wsX3_clear : List Cond := .code yX3_clear cX3_clear 1 none :: ([.fieldLink RX3 15 "GripInspector$Signs" "length" "I"] ++ wsX30)
def wsX3_put : List Cond := .code yX3_put cX3_put 2 none :: ([.fieldLink RX3 15 "GripInspector$Signs" "length" "I", .fieldLink RX3 9 "GripInspector$Signs" "row" "[C"] ++ wsX30)
def wsX3_putNumber : List Cond := .code yX3_putNumber cX3_putNumber 2 none :: ([.methodLink RX3 19 yX3_put, .instanceMethod yX3_put, .selects RX3 yX3_put yX3_put, .initialized RX3, .code yX3_put cX3_put 2 none, .fieldLink RX3 15 "GripInspector$Signs" "length" "I", .fieldLink RX3 9 "GripInspector$Signs" "row" "[C"] ++ wsX30)
def wsX0_describeGrip : List Cond := .code yX0_describeGrip cX0_describeGrip 3 none :: ([.fieldLink RX0 130 "GripInspector$Signs" "length" "I", .fieldLink RX0 27 "GripInspector$Lift" "place" "[I", .fieldLink RX0 30 "GripInspector$Lift" "spot" "[I", .fieldLink RX0 33 "GripInspector$Lift" "stepsLeft" "[I", .methodLink RX0 133 yX3_put, .instanceMethod yX3_put, .selects RX3 yX3_put yX3_put, .initialized RX3, .code yX3_put cX3_put 2 none, .fieldLink RX3 15 "GripInspector$Signs" "length" "I", .fieldLink RX3 9 "GripInspector$Signs" "row" "[C", .methodLink RX0 137 yX3_putNumber, .instanceMethod yX3_putNumber, .selects RX3 yX3_putNumber yX3_putNumber, .code yX3_putNumber cX3_putNumber 2 none, .methodLink RX3 19 yX3_put] ++ wsX30 ++ wsX00)
def wsX0_describe_r1 : List Cond := [Cond.fieldLink RX0 27 "GripInspector$Lift" "place" "[I", Cond.methodLink RX0 123 yX3_clear, Cond.instanceMethod yX3_clear, Cond.selects RX3 yX3_clear yX3_clear, Cond.initialized RX3, Cond.code yX3_clear cX3_clear 1 none, Cond.fieldLink RX3 15 "GripInspector$Signs" "length" "I", Cond.methodLink RX0 126 yX0_describeGrip, Cond.instanceMethod yX0_describeGrip, Cond.selects RX0 yX0_describeGrip yX0_describeGrip, Cond.initialized RX0, Cond.code yX0_describeGrip cX0_describeGrip 3 none, Cond.fieldLink RX0 130 "GripInspector$Signs" "length" "I", Cond.fieldLink RX0 30 "GripInspector$Lift" "spot" "[I", Cond.fieldLink RX0 33 "GripInspector$Lift" "stepsLeft" "[I", Cond.methodLink RX0 133 yX3_put, Cond.instanceMethod yX3_put, Cond.selects RX3 yX3_put yX3_put, Cond.code yX3_put cX3_put 2 none, Cond.fieldLink RX3 9 "GripInspector$Signs" "row" "[C", Cond.methodLink RX0 137 yX3_putNumber, Cond.instanceMethod yX3_putNumber, Cond.selects RX3 yX3_putNumber yX3_putNumber, Cond.code yX3_putNumber cX3_putNumber 2 none]
def wsX0_describe_r2 : List Cond := [Cond.methodLink RX3 19 yX3_put]
def wsX0_describe : List Cond := .code yX0_describe cX0_describe 3 none :: ((wsX0_describe_r1 ++ wsX0_describe_r2) ++ wsX00 ++ wsX30)
def wsX3_init : List Cond := .code yX3_init cX3_init 1 none :: ([.methodLink RX3 3 objectInit, .instanceMethod objectInit, .code objectInit ⟨#[0xb1]⟩ 1 none, .arrayClass .char, .fieldLink RX3 9 "GripInspector$Signs" "row" "[C", .fieldLink RX3 15 "GripInspector$Signs" "length" "I"] ++ wsX30)
def wsX1_init_r1 : List Cond := [Cond.methodLink RX1 3 objectInit, Cond.instanceMethod objectInit, Cond.code objectInit ⟨#[0xb1]⟩ 1 none, Cond.classLink RX1 9 RX3, Cond.instantiable RX3 2, Cond.initialized RX3, Cond.fieldLink RX1 12 "GripInspector$LiftText" "signs" "LGripInspector$Signs;", Cond.classLink RX1 18 RX0, Cond.instantiable RX0 13, Cond.initialized RX0, Cond.fieldLink RX1 21 "GripInspector$LiftText" "draft" "LGripInspector$Lift;", Cond.instanceMethod yX3_init, Cond.code yX3_init cX3_init 1 none, Cond.methodLink RX3 3 objectInit, Cond.arrayClass .char, Cond.fieldLink RX3 9 "GripInspector$Signs" "row" "[C", Cond.fieldLink RX3 15 "GripInspector$Signs" "length" "I", Cond.methodLink RX1 20 yX0_init, Cond.instanceMethod yX0_init, Cond.code yX0_init cX0_init 1 none, Cond.methodLink RX0 3 objectInit, Cond.arrayClass .int, Cond.fieldLink RX0 9 "GripInspector$Lift" "weight" "[I", Cond.fieldLink RX0 15 "GripInspector$Lift" "cycles" "[I"]
def wsX1_init_r2 : List Cond := [Cond.fieldLink RX0 18 "GripInspector$Lift" "wear" "[I", Cond.fieldLink RX0 21 "GripInspector$Lift" "pulls" "[I", Cond.fieldLink RX0 24 "GripInspector$Lift" "lastSlip" "[I", Cond.fieldLink RX0 27 "GripInspector$Lift" "place" "[I", Cond.fieldLink RX0 30 "GripInspector$Lift" "spot" "[I", Cond.fieldLink RX0 33 "GripInspector$Lift" "stepsLeft" "[I", Cond.fieldLink RX0 36 "GripInspector$Lift" "limits" "[I", Cond.fieldLink RX0 42 "GripInspector$Lift" "n" "I", Cond.methodLink RX0 39 yX0_clear, Cond.instanceMethod yX0_clear, Cond.selects RX0 yX0_clear yX0_clear, Cond.code yX0_clear cX0_clear 2 none, Cond.fieldLink RX0 46 "GripInspector$Lift" "station" "I", Cond.fieldLink RX0 49 "GripInspector$Lift" "clock" "I", Cond.fieldLink RX0 52 "GripInspector$Lift" "randomState" "J"]
def wsX1_init : List Cond := .code yX1_init cX1_init 1 none :: ((wsX1_init_r1 ++ wsX1_init_r2) ++ wsX30 ++ wsX10 ++ wsX00)
def wsX3_at : List Cond := .code yX3_at cX3_at 2 (some .int) :: ([.fieldLink RX3 15 "GripInspector$Signs" "length" "I", .fieldLink RX3 9 "GripInspector$Signs" "row" "[C"] ++ wsX30)
def wsX1_isAllowed : List Cond := .code yX1_isAllowed cX1_isAllowed 5 (some .boolean) :: ([.fieldLink RX1 21 "GripInspector$LiftText" "draft" "LGripInspector$Lift;", .methodLink RX1 85 yX0_gripAt, .instanceMethod yX0_gripAt, .selects RX0 yX0_gripAt yX0_gripAt, .initialized RX0, .code yX0_gripAt cX0_gripAt 3 (some .int), .fieldLink RX0 27 "GripInspector$Lift" "place" "[I", .fieldLink RX0 30 "GripInspector$Lift" "spot" "[I"] ++ wsX10 ++ wsX00)
def wsX1_isBegin : List Cond := .code yX1_isBegin cX1_isBegin 6 (some .boolean) :: ([.methodLink RX1 82 yX1_isAllowed, .instanceMethod yX1_isAllowed, .selects RX1 yX1_isAllowed yX1_isAllowed, .initialized RX1, .code yX1_isAllowed cX1_isAllowed 5 (some .boolean), .fieldLink RX1 21 "GripInspector$LiftText" "draft" "LGripInspector$Lift;", .methodLink RX1 85 yX0_gripAt, .instanceMethod yX0_gripAt, .selects RX0 yX0_gripAt yX0_gripAt, .initialized RX0, .code yX0_gripAt cX0_gripAt 3 (some .int), .fieldLink RX0 27 "GripInspector$Lift" "place" "[I", .fieldLink RX0 30 "GripInspector$Lift" "spot" "[I"] ++ wsX10 ++ wsX00)
def wsX1_readPair_r1 : List Cond := [Cond.fieldLink RX1 12 "GripInspector$LiftText" "signs" "LGripInspector$Signs;", Cond.fieldLink RX1 25 "GripInspector$LiftText" "at" "I", Cond.methodLink RX1 42 yX3_at, Cond.instanceMethod yX3_at, Cond.selects RX3 yX3_at yX3_at, Cond.initialized RX3, Cond.code yX3_at cX3_at 2 (some .int), Cond.fieldLink RX3 15 "GripInspector$Signs" "length" "I", Cond.fieldLink RX3 9 "GripInspector$Signs" "row" "[C", Cond.methodLink RX1 78 yX1_isBegin, Cond.instanceMethod yX1_isBegin, Cond.selects RX1 yX1_isBegin yX1_isBegin, Cond.initialized RX1, Cond.code yX1_isBegin cX1_isBegin 6 (some .boolean), Cond.methodLink RX1 82 yX1_isAllowed, Cond.instanceMethod yX1_isAllowed, Cond.selects RX1 yX1_isAllowed yX1_isAllowed, Cond.code yX1_isAllowed cX1_isAllowed 5 (some .boolean), Cond.fieldLink RX1 21 "GripInspector$LiftText" "draft" "LGripInspector$Lift;", Cond.methodLink RX1 85 yX0_gripAt, Cond.instanceMethod yX0_gripAt, Cond.selects RX0 yX0_gripAt yX0_gripAt, Cond.initialized RX0, Cond.code yX0_gripAt cX0_gripAt 3 (some .int)]
def wsX1_readPair_r2 : List Cond := [Cond.fieldLink RX0 27 "GripInspector$Lift" "place" "[I", Cond.fieldLink RX0 30 "GripInspector$Lift" "spot" "[I"]
def wsX1_readPair : List Cond := .code yX1_readPair cX1_readPair 6 (some .int) :: ((wsX1_readPair_r1 ++ wsX1_readPair_r2) ++ wsX10 ++ wsX30 ++ wsX00)
def wsX1_readDigit : List Cond := .code yX1_readDigit cX1_readDigit 4 (some .int) :: ([.fieldLink RX1 12 "GripInspector$LiftText" "signs" "LGripInspector$Signs;", .fieldLink RX1 25 "GripInspector$LiftText" "at" "I", .methodLink RX1 42 yX3_at, .instanceMethod yX3_at, .selects RX3 yX3_at yX3_at, .initialized RX3, .code yX3_at cX3_at 2 (some .int), .fieldLink RX3 15 "GripInspector$Signs" "length" "I", .fieldLink RX3 9 "GripInspector$Signs" "row" "[C"] ++ wsX10 ++ wsX30)
def wsX1_readHead_r1 : List Cond := [Cond.fieldLink RX1 12 "GripInspector$LiftText" "signs" "LGripInspector$Signs;", Cond.fieldLink RX1 25 "GripInspector$LiftText" "at" "I", Cond.fieldLink RX1 21 "GripInspector$LiftText" "draft" "LGripInspector$Lift;", Cond.fieldLink RX1 49 "GripInspector$Lift" "n" "I", Cond.fieldLink RX1 60 "GripInspector$Lift" "limits" "[I", Cond.methodLink RX1 42 yX3_at, Cond.instanceMethod yX3_at, Cond.selects RX3 yX3_at yX3_at, Cond.initialized RX3, Cond.code yX3_at cX3_at 2 (some .int), Cond.fieldLink RX3 15 "GripInspector$Signs" "length" "I", Cond.fieldLink RX3 9 "GripInspector$Signs" "row" "[C", Cond.methodLink RX1 45 yX1_readPair, Cond.instanceMethod yX1_readPair, Cond.selects RX1 yX1_readPair yX1_readPair, Cond.initialized RX1, Cond.code yX1_readPair cX1_readPair 6 (some .int), Cond.methodLink RX1 78 yX1_isBegin, Cond.instanceMethod yX1_isBegin, Cond.selects RX1 yX1_isBegin yX1_isBegin, Cond.code yX1_isBegin cX1_isBegin 6 (some .boolean), Cond.methodLink RX1 82 yX1_isAllowed, Cond.instanceMethod yX1_isAllowed, Cond.selects RX1 yX1_isAllowed yX1_isAllowed]
def wsX1_readHead_r2 : List Cond := [Cond.code yX1_isAllowed cX1_isAllowed 5 (some .boolean), Cond.methodLink RX1 85 yX0_gripAt, Cond.instanceMethod yX0_gripAt, Cond.selects RX0 yX0_gripAt yX0_gripAt, Cond.initialized RX0, Cond.code yX0_gripAt cX0_gripAt 3 (some .int), Cond.fieldLink RX0 27 "GripInspector$Lift" "place" "[I", Cond.fieldLink RX0 30 "GripInspector$Lift" "spot" "[I", Cond.methodLink RX1 56 yX1_readDigit, Cond.instanceMethod yX1_readDigit, Cond.selects RX1 yX1_readDigit yX1_readDigit, Cond.code yX1_readDigit cX1_readDigit 4 (some .int)]
def wsX1_readHead : List Cond := .code yX1_readHead cX1_readHead 5 (some .boolean) :: ((wsX1_readHead_r1 ++ wsX1_readHead_r2) ++ wsX10 ++ wsX00 ++ wsX30)
def wsX1_readItem_r1 : List Cond := [Cond.fieldLink RX1 12 "GripInspector$LiftText" "signs" "LGripInspector$Signs;", Cond.fieldLink RX1 25 "GripInspector$LiftText" "at" "I", Cond.fieldLink RX1 21 "GripInspector$LiftText" "draft" "LGripInspector$Lift;", Cond.fieldLink RX1 49 "GripInspector$Lift" "n" "I", Cond.methodLink RX1 42 yX3_at, Cond.instanceMethod yX3_at, Cond.selects RX3 yX3_at yX3_at, Cond.initialized RX3, Cond.code yX3_at cX3_at 2 (some .int), Cond.fieldLink RX3 15 "GripInspector$Signs" "length" "I", Cond.fieldLink RX3 9 "GripInspector$Signs" "row" "[C", Cond.methodLink RX1 63 yX0_grips, Cond.instanceMethod yX0_grips, Cond.selects RX0 yX0_grips yX0_grips, Cond.initialized RX0, Cond.code yX0_grips cX0_grips 1 (some .int), Cond.methodLink RX0 62 yX0_count, Cond.instanceMethod yX0_count, Cond.selects RX0 yX0_count yX0_count, Cond.code yX0_count cX0_count 4 (some .int), Cond.fieldLink RX0 27 "GripInspector$Lift" "place" "[I", Cond.methodLink RX1 67 yX0_count, Cond.methodLink RX1 56 yX1_readDigit, Cond.instanceMethod yX1_readDigit]
def wsX1_readItem_r2 : List Cond := [Cond.selects RX1 yX1_readDigit yX1_readDigit, Cond.initialized RX1, Cond.code yX1_readDigit cX1_readDigit 4 (some .int), Cond.methodLink RX1 45 yX1_readPair, Cond.instanceMethod yX1_readPair, Cond.selects RX1 yX1_readPair yX1_readPair, Cond.code yX1_readPair cX1_readPair 6 (some .int), Cond.methodLink RX1 78 yX1_isBegin, Cond.instanceMethod yX1_isBegin, Cond.selects RX1 yX1_isBegin yX1_isBegin, Cond.code yX1_isBegin cX1_isBegin 6 (some .boolean), Cond.methodLink RX1 82 yX1_isAllowed, Cond.instanceMethod yX1_isAllowed, Cond.selects RX1 yX1_isAllowed yX1_isAllowed, Cond.code yX1_isAllowed cX1_isAllowed 5 (some .boolean), Cond.methodLink RX1 85 yX0_gripAt, Cond.instanceMethod yX0_gripAt, Cond.selects RX0 yX0_gripAt yX0_gripAt, Cond.code yX0_gripAt cX0_gripAt 3 (some .int), Cond.fieldLink RX0 30 "GripInspector$Lift" "spot" "[I", Cond.methodLink RX1 70 yX0_add, Cond.instanceMethod yX0_add, Cond.selects RX0 yX0_add yX0_add, Cond.code yX0_add cX0_add 3 none]
def wsX1_readItem_r3 : List Cond := [Cond.fieldLink RX0 9 "GripInspector$Lift" "weight" "[I", Cond.fieldLink RX0 15 "GripInspector$Lift" "cycles" "[I", Cond.fieldLink RX0 18 "GripInspector$Lift" "wear" "[I", Cond.fieldLink RX0 21 "GripInspector$Lift" "pulls" "[I", Cond.fieldLink RX0 24 "GripInspector$Lift" "lastSlip" "[I", Cond.methodLink RX0 66 yX0_grips, Cond.methodLink RX1 74 yX0_hang, Cond.instanceMethod yX0_hang, Cond.selects RX0 yX0_hang yX0_hang, Cond.code yX0_hang cX0_hang 3 none]
def wsX1_readItem : List Cond := .code yX1_readItem cX1_readItem 6 (some .boolean) :: ((wsX1_readItem_r1 ++ (wsX1_readItem_r2 ++ wsX1_readItem_r3)) ++ wsX10 ++ wsX00 ++ wsX30)
def wsX1_findError_r1 : List Cond := [Cond.fieldLink RX1 25 "GripInspector$LiftText" "at" "I", Cond.fieldLink RX1 21 "GripInspector$LiftText" "draft" "LGripInspector$Lift;", Cond.fieldLink RX1 12 "GripInspector$LiftText" "signs" "LGripInspector$Signs;", Cond.fieldLink RX1 36 "GripInspector$Signs" "length" "I", Cond.methodLink RX1 29 yX0_clear, Cond.instanceMethod yX0_clear, Cond.selects RX0 yX0_clear yX0_clear, Cond.initialized RX0, Cond.code yX0_clear cX0_clear 2 none, Cond.fieldLink RX0 27 "GripInspector$Lift" "place" "[I", Cond.fieldLink RX0 46 "GripInspector$Lift" "station" "I", Cond.fieldLink RX0 49 "GripInspector$Lift" "clock" "I", Cond.fieldLink RX0 52 "GripInspector$Lift" "randomState" "J", Cond.methodLink RX1 32 yX1_readHead, Cond.instanceMethod yX1_readHead, Cond.selects RX1 yX1_readHead yX1_readHead, Cond.initialized RX1, Cond.code yX1_readHead cX1_readHead 5 (some .boolean), Cond.fieldLink RX1 49 "GripInspector$Lift" "n" "I", Cond.fieldLink RX1 60 "GripInspector$Lift" "limits" "[I", Cond.methodLink RX1 42 yX3_at, Cond.instanceMethod yX3_at, Cond.selects RX3 yX3_at yX3_at, Cond.initialized RX3]
def wsX1_findError_r2 : List Cond := [Cond.code yX3_at cX3_at 2 (some .int), Cond.fieldLink RX3 15 "GripInspector$Signs" "length" "I", Cond.fieldLink RX3 9 "GripInspector$Signs" "row" "[C", Cond.methodLink RX1 45 yX1_readPair, Cond.instanceMethod yX1_readPair, Cond.selects RX1 yX1_readPair yX1_readPair, Cond.code yX1_readPair cX1_readPair 6 (some .int), Cond.methodLink RX1 78 yX1_isBegin, Cond.instanceMethod yX1_isBegin, Cond.selects RX1 yX1_isBegin yX1_isBegin, Cond.code yX1_isBegin cX1_isBegin 6 (some .boolean), Cond.methodLink RX1 82 yX1_isAllowed, Cond.instanceMethod yX1_isAllowed, Cond.selects RX1 yX1_isAllowed yX1_isAllowed, Cond.code yX1_isAllowed cX1_isAllowed 5 (some .boolean), Cond.methodLink RX1 85 yX0_gripAt, Cond.instanceMethod yX0_gripAt, Cond.selects RX0 yX0_gripAt yX0_gripAt, Cond.code yX0_gripAt cX0_gripAt 3 (some .int), Cond.fieldLink RX0 30 "GripInspector$Lift" "spot" "[I", Cond.methodLink RX1 56 yX1_readDigit, Cond.instanceMethod yX1_readDigit, Cond.selects RX1 yX1_readDigit yX1_readDigit, Cond.code yX1_readDigit cX1_readDigit 4 (some .int)]
def wsX1_findError_r3 : List Cond := [Cond.methodLink RX1 39 yX1_readItem, Cond.instanceMethod yX1_readItem, Cond.selects RX1 yX1_readItem yX1_readItem, Cond.code yX1_readItem cX1_readItem 6 (some .boolean), Cond.methodLink RX1 63 yX0_grips, Cond.instanceMethod yX0_grips, Cond.selects RX0 yX0_grips yX0_grips, Cond.code yX0_grips cX0_grips 1 (some .int), Cond.methodLink RX0 62 yX0_count, Cond.instanceMethod yX0_count, Cond.selects RX0 yX0_count yX0_count, Cond.code yX0_count cX0_count 4 (some .int), Cond.methodLink RX1 67 yX0_count, Cond.methodLink RX1 70 yX0_add, Cond.instanceMethod yX0_add, Cond.selects RX0 yX0_add yX0_add, Cond.code yX0_add cX0_add 3 none, Cond.fieldLink RX0 9 "GripInspector$Lift" "weight" "[I", Cond.fieldLink RX0 15 "GripInspector$Lift" "cycles" "[I", Cond.fieldLink RX0 18 "GripInspector$Lift" "wear" "[I", Cond.fieldLink RX0 21 "GripInspector$Lift" "pulls" "[I", Cond.fieldLink RX0 24 "GripInspector$Lift" "lastSlip" "[I", Cond.methodLink RX0 66 yX0_grips, Cond.methodLink RX1 74 yX0_hang]
def wsX1_findError_r4 : List Cond := [Cond.instanceMethod yX0_hang, Cond.selects RX0 yX0_hang yX0_hang, Cond.code yX0_hang cX0_hang 3 none]
def wsX1_findError : List Cond := .code yX1_findError cX1_findError 3 (some .int) :: ((wsX1_findError_r1 ++ (wsX1_findError_r2 ++ (wsX1_findError_r3 ++ wsX1_findError_r4))) ++ wsX10 ++ wsX30 ++ wsX00)
def wsX2_init_r1 : List Cond := [Cond.methodLink RX2 1 objectInit, Cond.instanceMethod objectInit, Cond.code objectInit ⟨#[0xb1]⟩ 1 none, Cond.classLink RX2 7 RX0, Cond.fieldLink RX2 9 "GripInspector$Memory" "rows" "[LGripInspector$Lift;", Cond.instantiable RX0 13, Cond.initialized RX0, Cond.methodLink RX2 15 yX0_init, Cond.instanceMethod yX0_init, Cond.code yX0_init cX0_init 1 none, Cond.methodLink RX0 3 objectInit, Cond.arrayClass .int, Cond.fieldLink RX0 9 "GripInspector$Lift" "weight" "[I", Cond.fieldLink RX0 15 "GripInspector$Lift" "cycles" "[I", Cond.fieldLink RX0 18 "GripInspector$Lift" "wear" "[I", Cond.fieldLink RX0 21 "GripInspector$Lift" "pulls" "[I", Cond.fieldLink RX0 24 "GripInspector$Lift" "lastSlip" "[I", Cond.fieldLink RX0 27 "GripInspector$Lift" "place" "[I", Cond.fieldLink RX0 30 "GripInspector$Lift" "spot" "[I", Cond.fieldLink RX0 33 "GripInspector$Lift" "stepsLeft" "[I", Cond.fieldLink RX0 36 "GripInspector$Lift" "limits" "[I", Cond.fieldLink RX0 42 "GripInspector$Lift" "n" "I", Cond.methodLink RX0 39 yX0_clear, Cond.instanceMethod yX0_clear]
def wsX2_init_r2 : List Cond := [Cond.selects RX0 yX0_clear yX0_clear, Cond.code yX0_clear cX0_clear 2 none, Cond.fieldLink RX0 46 "GripInspector$Lift" "station" "I", Cond.fieldLink RX0 49 "GripInspector$Lift" "clock" "I", Cond.fieldLink RX0 52 "GripInspector$Lift" "randomState" "J"]
def wsX2_init : List Cond := .code yX2_init cX2_init 3 none :: ((wsX2_init_r1 ++ wsX2_init_r2) ++ wsX20 ++ wsX00)
def wsX2_rowAt : List Cond := .code yX2_rowAt cX2_rowAt 2 (some (.object "GripInspector$Lift")) :: ([.fieldLink RX2 9 "GripInspector$Memory" "rows" "[LGripInspector$Lift;"] ++ wsX20)
def wsX2_keep_r1 : List Cond := [Cond.methodLink RX2 16 yX2_rowAt, Cond.instanceMethod yX2_rowAt, Cond.selects RX2 yX2_rowAt yX2_rowAt, Cond.initialized RX2, Cond.code yX2_rowAt cX2_rowAt 2 (some (.object "GripInspector$Lift")), Cond.fieldLink RX2 9 "GripInspector$Memory" "rows" "[LGripInspector$Lift;", Cond.methodLink RX2 20 yX0_become, Cond.instanceMethod yX0_become, Cond.selects RX0 yX0_become yX0_become, Cond.initialized RX0, Cond.code yX0_become cX0_become 2 none, Cond.fieldLink RX0 9 "GripInspector$Lift" "weight" "[I", Cond.methodLink RX0 56 arraycopyName, Cond.native arraycopyName, Cond.static arraycopyName, Cond.initialized "java/lang/System", Cond.fieldLink RX0 15 "GripInspector$Lift" "cycles" "[I", Cond.fieldLink RX0 18 "GripInspector$Lift" "wear" "[I", Cond.fieldLink RX0 21 "GripInspector$Lift" "pulls" "[I", Cond.fieldLink RX0 24 "GripInspector$Lift" "lastSlip" "[I", Cond.fieldLink RX0 27 "GripInspector$Lift" "place" "[I", Cond.fieldLink RX0 30 "GripInspector$Lift" "spot" "[I", Cond.fieldLink RX0 33 "GripInspector$Lift" "stepsLeft" "[I", Cond.fieldLink RX0 36 "GripInspector$Lift" "limits" "[I"]
def wsX2_keep_r2 : List Cond := [Cond.fieldLink RX0 42 "GripInspector$Lift" "n" "I", Cond.fieldLink RX0 46 "GripInspector$Lift" "station" "I", Cond.fieldLink RX0 49 "GripInspector$Lift" "clock" "I", Cond.fieldLink RX0 52 "GripInspector$Lift" "randomState" "J"]
def wsX2_keep : List Cond := .code yX2_keep cX2_keep 4 none :: ((wsX2_keep_r1 ++ wsX2_keep_r2) ++ wsX20 ++ wsX00)
def wsX2_recall_r1 : List Cond := [Cond.methodLink RX2 16 yX2_rowAt, Cond.instanceMethod yX2_rowAt, Cond.selects RX2 yX2_rowAt yX2_rowAt, Cond.initialized RX2, Cond.code yX2_rowAt cX2_rowAt 2 (some (.object "GripInspector$Lift")), Cond.fieldLink RX2 9 "GripInspector$Memory" "rows" "[LGripInspector$Lift;", Cond.methodLink RX2 20 yX0_become, Cond.instanceMethod yX0_become, Cond.selects RX0 yX0_become yX0_become, Cond.initialized RX0, Cond.code yX0_become cX0_become 2 none, Cond.fieldLink RX0 9 "GripInspector$Lift" "weight" "[I", Cond.methodLink RX0 56 arraycopyName, Cond.native arraycopyName, Cond.static arraycopyName, Cond.initialized "java/lang/System", Cond.fieldLink RX0 15 "GripInspector$Lift" "cycles" "[I", Cond.fieldLink RX0 18 "GripInspector$Lift" "wear" "[I", Cond.fieldLink RX0 21 "GripInspector$Lift" "pulls" "[I", Cond.fieldLink RX0 24 "GripInspector$Lift" "lastSlip" "[I", Cond.fieldLink RX0 27 "GripInspector$Lift" "place" "[I", Cond.fieldLink RX0 30 "GripInspector$Lift" "spot" "[I", Cond.fieldLink RX0 33 "GripInspector$Lift" "stepsLeft" "[I", Cond.fieldLink RX0 36 "GripInspector$Lift" "limits" "[I"]
def wsX2_recall_r2 : List Cond := [Cond.fieldLink RX0 42 "GripInspector$Lift" "n" "I", Cond.fieldLink RX0 46 "GripInspector$Lift" "station" "I", Cond.fieldLink RX0 49 "GripInspector$Lift" "clock" "I", Cond.fieldLink RX0 52 "GripInspector$Lift" "randomState" "J"]
def wsX2_recall : List Cond := .code yX2_recall cX2_recall 4 none :: ((wsX2_recall_r1 ++ wsX2_recall_r2) ++ wsX20 ++ wsX00)
def wsX3_isFull : List Cond := .code yX3_isFull cX3_isFull 1 (some .boolean) :: ([.fieldLink RX3 15 "GripInspector$Signs" "length" "I"] ++ wsX30)
def wsX4_init_r1 : List Cond := [Cond.methodLink RX4 1 objectInit, Cond.instanceMethod objectInit, Cond.code objectInit ⟨#[0xb1]⟩ 1 none, Cond.classLink RX4 7 RX0, Cond.instantiable RX0 13, Cond.initialized RX0, Cond.fieldLink RX4 10 "GripInspector" "lift" "LGripInspector$Lift;", Cond.fieldLink RX4 16 "GripInspector" "trial" "LGripInspector$Lift;", Cond.classLink RX4 19 RX1, Cond.instantiable RX1 3, Cond.initialized RX1, Cond.fieldLink RX4 22 "GripInspector" "text" "LGripInspector$LiftText;", Cond.classLink RX4 26 RX3, Cond.instantiable RX3 2, Cond.initialized RX3, Cond.fieldLink RX4 29 "GripInspector" "summary" "LGripInspector$Signs;", Cond.classLink RX4 33 RX2, Cond.instantiable RX2 1, Cond.initialized RX2, Cond.fieldLink RX4 38 "GripInspector" "history" "LGripInspector$Memory;", Cond.fieldLink RX4 42 "GripInspector" "saves" "LGripInspector$Memory;", Cond.arrayClass .boolean, Cond.fieldLink RX4 45 "GripInspector" "saved" "[Z", Cond.fieldLink RX4 49 "GripInspector" "remembered" "I"]
def wsX4_init_r2 : List Cond := [Cond.fieldLink RX4 53 "GripInspector" "nextRemembered" "I", Cond.methodLink RX4 9 yX0_init, Cond.instanceMethod yX0_init, Cond.code yX0_init cX0_init 1 none, Cond.methodLink RX0 3 objectInit, Cond.arrayClass .int, Cond.fieldLink RX0 9 "GripInspector$Lift" "weight" "[I", Cond.fieldLink RX0 15 "GripInspector$Lift" "cycles" "[I", Cond.fieldLink RX0 18 "GripInspector$Lift" "wear" "[I", Cond.fieldLink RX0 21 "GripInspector$Lift" "pulls" "[I", Cond.fieldLink RX0 24 "GripInspector$Lift" "lastSlip" "[I", Cond.fieldLink RX0 27 "GripInspector$Lift" "place" "[I", Cond.fieldLink RX0 30 "GripInspector$Lift" "spot" "[I", Cond.fieldLink RX0 33 "GripInspector$Lift" "stepsLeft" "[I", Cond.fieldLink RX0 36 "GripInspector$Lift" "limits" "[I", Cond.fieldLink RX0 42 "GripInspector$Lift" "n" "I", Cond.methodLink RX0 39 yX0_clear, Cond.instanceMethod yX0_clear, Cond.selects RX0 yX0_clear yX0_clear, Cond.code yX0_clear cX0_clear 2 none, Cond.fieldLink RX0 46 "GripInspector$Lift" "station" "I", Cond.fieldLink RX0 49 "GripInspector$Lift" "clock" "I", Cond.fieldLink RX0 52 "GripInspector$Lift" "randomState" "J", Cond.instanceMethod yX1_init]
def wsX4_init_r3 : List Cond := [Cond.code yX1_init cX1_init 1 none, Cond.methodLink RX1 3 objectInit, Cond.classLink RX1 9 RX3, Cond.fieldLink RX1 12 "GripInspector$LiftText" "signs" "LGripInspector$Signs;", Cond.classLink RX1 18 RX0, Cond.fieldLink RX1 21 "GripInspector$LiftText" "draft" "LGripInspector$Lift;", Cond.instanceMethod yX3_init, Cond.code yX3_init cX3_init 1 none, Cond.methodLink RX3 3 objectInit, Cond.arrayClass .char, Cond.fieldLink RX3 9 "GripInspector$Signs" "row" "[C", Cond.fieldLink RX3 15 "GripInspector$Signs" "length" "I", Cond.methodLink RX1 20 yX0_init, Cond.methodLink RX4 35 yX2_init, Cond.instanceMethod yX2_init, Cond.code yX2_init cX2_init 3 none, Cond.methodLink RX2 1 objectInit, Cond.classLink RX2 7 RX0, Cond.fieldLink RX2 9 "GripInspector$Memory" "rows" "[LGripInspector$Lift;", Cond.methodLink RX2 15 yX0_init]
def wsX4_init : List Cond := .code yX4_init cX4_init 1 none :: ((wsX4_init_r1 ++ (wsX4_init_r2 ++ wsX4_init_r3)) ++ wsX00 ++ wsX40 ++ wsX10 ++ wsX30 ++ wsX20)
def wsX4_append : List Cond := .code yX4_append cX4_append 2 (some .int) :: ([.classLink RX4 56 "java/lang/IllegalArgumentException", .initialized "java/lang/IllegalArgumentException", .classLink RX4 70 "java/lang/IllegalStateException", .initialized "java/lang/IllegalStateException", .fieldLink RX4 22 "GripInspector" "text" "LGripInspector$LiftText;", .fieldLink RX4 63 "GripInspector$LiftText" "signs" "LGripInspector$Signs;", .fieldLink RX4 79 "GripInspector$Signs" "length" "I", .methodLink RX4 66 yX3_isFull, .instanceMethod yX3_isFull, .selects RX3 yX3_isFull yX3_isFull, .initialized RX3, .code yX3_isFull cX3_isFull 1 (some .boolean), .fieldLink RX3 15 "GripInspector$Signs" "length" "I", .methodLink RX4 75 yX3_put, .instanceMethod yX3_put, .selects RX3 yX3_put yX3_put, .code yX3_put cX3_put 2 none, .fieldLink RX3 9 "GripInspector$Signs" "row" "[C"] ++ wsX40 ++ wsX10 ++ wsX30 ++ (vx_atS RX4 60 "java/lang/IllegalArgumentException" ["java/lang/RuntimeException", "java/lang/Exception"]).filter goodWord ++ (vx_atS RX4 74 "java/lang/IllegalStateException" ["java/lang/RuntimeException", "java/lang/Exception"]).filter goodWord)
def wsX4_clearText : List Cond := .code yX4_clearText cX4_clearText 2 (some .int) :: ([.fieldLink RX4 22 "GripInspector" "text" "LGripInspector$LiftText;", .fieldLink RX4 63 "GripInspector$LiftText" "signs" "LGripInspector$Signs;", .fieldLink RX4 79 "GripInspector$Signs" "length" "I", .methodLink RX4 82 yX3_clear, .instanceMethod yX3_clear, .selects RX3 yX3_clear yX3_clear, .initialized RX3, .code yX3_clear cX3_clear 1 none, .fieldLink RX3 15 "GripInspector$Signs" "length" "I"] ++ wsX40 ++ wsX10 ++ wsX30)
def wsX4_errorPosition_r1 : List Cond := [Cond.fieldLink RX4 22 "GripInspector" "text" "LGripInspector$LiftText;", Cond.methodLink RX4 85 yX1_findError, Cond.instanceMethod yX1_findError, Cond.selects RX1 yX1_findError yX1_findError, Cond.initialized RX1, Cond.code yX1_findError cX1_findError 3 (some .int), Cond.fieldLink RX1 25 "GripInspector$LiftText" "at" "I", Cond.fieldLink RX1 21 "GripInspector$LiftText" "draft" "LGripInspector$Lift;", Cond.fieldLink RX1 12 "GripInspector$LiftText" "signs" "LGripInspector$Signs;", Cond.fieldLink RX1 36 "GripInspector$Signs" "length" "I", Cond.methodLink RX1 29 yX0_clear, Cond.instanceMethod yX0_clear, Cond.selects RX0 yX0_clear yX0_clear, Cond.initialized RX0, Cond.code yX0_clear cX0_clear 2 none, Cond.fieldLink RX0 27 "GripInspector$Lift" "place" "[I", Cond.fieldLink RX0 46 "GripInspector$Lift" "station" "I", Cond.fieldLink RX0 49 "GripInspector$Lift" "clock" "I", Cond.fieldLink RX0 52 "GripInspector$Lift" "randomState" "J", Cond.methodLink RX1 32 yX1_readHead, Cond.instanceMethod yX1_readHead, Cond.selects RX1 yX1_readHead yX1_readHead, Cond.code yX1_readHead cX1_readHead 5 (some .boolean), Cond.fieldLink RX1 49 "GripInspector$Lift" "n" "I"]
def wsX4_errorPosition_r2 : List Cond := [Cond.fieldLink RX1 60 "GripInspector$Lift" "limits" "[I", Cond.methodLink RX1 42 yX3_at, Cond.instanceMethod yX3_at, Cond.selects RX3 yX3_at yX3_at, Cond.initialized RX3, Cond.code yX3_at cX3_at 2 (some .int), Cond.fieldLink RX3 15 "GripInspector$Signs" "length" "I", Cond.fieldLink RX3 9 "GripInspector$Signs" "row" "[C", Cond.methodLink RX1 45 yX1_readPair, Cond.instanceMethod yX1_readPair, Cond.selects RX1 yX1_readPair yX1_readPair, Cond.code yX1_readPair cX1_readPair 6 (some .int), Cond.methodLink RX1 78 yX1_isBegin, Cond.instanceMethod yX1_isBegin, Cond.selects RX1 yX1_isBegin yX1_isBegin, Cond.code yX1_isBegin cX1_isBegin 6 (some .boolean), Cond.methodLink RX1 82 yX1_isAllowed, Cond.instanceMethod yX1_isAllowed, Cond.selects RX1 yX1_isAllowed yX1_isAllowed, Cond.code yX1_isAllowed cX1_isAllowed 5 (some .boolean), Cond.methodLink RX1 85 yX0_gripAt, Cond.instanceMethod yX0_gripAt, Cond.selects RX0 yX0_gripAt yX0_gripAt, Cond.code yX0_gripAt cX0_gripAt 3 (some .int)]
def wsX4_errorPosition_r3 : List Cond := [Cond.fieldLink RX0 30 "GripInspector$Lift" "spot" "[I", Cond.methodLink RX1 56 yX1_readDigit, Cond.instanceMethod yX1_readDigit, Cond.selects RX1 yX1_readDigit yX1_readDigit, Cond.code yX1_readDigit cX1_readDigit 4 (some .int), Cond.methodLink RX1 39 yX1_readItem, Cond.instanceMethod yX1_readItem, Cond.selects RX1 yX1_readItem yX1_readItem, Cond.code yX1_readItem cX1_readItem 6 (some .boolean), Cond.methodLink RX1 63 yX0_grips, Cond.instanceMethod yX0_grips, Cond.selects RX0 yX0_grips yX0_grips, Cond.code yX0_grips cX0_grips 1 (some .int), Cond.methodLink RX0 62 yX0_count, Cond.instanceMethod yX0_count, Cond.selects RX0 yX0_count yX0_count, Cond.code yX0_count cX0_count 4 (some .int), Cond.methodLink RX1 67 yX0_count, Cond.methodLink RX1 70 yX0_add, Cond.instanceMethod yX0_add, Cond.selects RX0 yX0_add yX0_add, Cond.code yX0_add cX0_add 3 none, Cond.fieldLink RX0 9 "GripInspector$Lift" "weight" "[I", Cond.fieldLink RX0 15 "GripInspector$Lift" "cycles" "[I"]
def wsX4_errorPosition_r4 : List Cond := [Cond.fieldLink RX0 18 "GripInspector$Lift" "wear" "[I", Cond.fieldLink RX0 21 "GripInspector$Lift" "pulls" "[I", Cond.fieldLink RX0 24 "GripInspector$Lift" "lastSlip" "[I", Cond.methodLink RX0 66 yX0_grips, Cond.methodLink RX1 74 yX0_hang, Cond.instanceMethod yX0_hang, Cond.selects RX0 yX0_hang yX0_hang, Cond.code yX0_hang cX0_hang 3 none]
def wsX4_errorPosition : List Cond := .code yX4_errorPosition cX4_errorPosition 1 (some .int) :: ((wsX4_errorPosition_r1 ++ (wsX4_errorPosition_r2 ++ (wsX4_errorPosition_r3 ++ wsX4_errorPosition_r4))) ++ wsX40 ++ wsX10 ++ wsX30 ++ wsX00)
def wsX4_load_r1 : List Cond := [Cond.classLink RX4 70 "java/lang/IllegalStateException", Cond.initialized "java/lang/IllegalStateException", Cond.fieldLink RX4 22 "GripInspector" "text" "LGripInspector$LiftText;", Cond.fieldLink RX4 10 "GripInspector" "lift" "LGripInspector$Lift;", Cond.fieldLink RX4 91 "GripInspector$LiftText" "draft" "LGripInspector$Lift;", Cond.fieldLink RX4 49 "GripInspector" "remembered" "I", Cond.fieldLink RX4 45 "GripInspector" "saved" "[Z", Cond.methodLink RX4 85 yX1_findError, Cond.instanceMethod yX1_findError, Cond.selects RX1 yX1_findError yX1_findError, Cond.initialized RX1, Cond.code yX1_findError cX1_findError 3 (some .int), Cond.fieldLink RX1 25 "GripInspector$LiftText" "at" "I", Cond.fieldLink RX1 21 "GripInspector$LiftText" "draft" "LGripInspector$Lift;", Cond.fieldLink RX1 12 "GripInspector$LiftText" "signs" "LGripInspector$Signs;", Cond.fieldLink RX1 36 "GripInspector$Signs" "length" "I", Cond.methodLink RX1 29 yX0_clear, Cond.instanceMethod yX0_clear, Cond.selects RX0 yX0_clear yX0_clear, Cond.initialized RX0, Cond.code yX0_clear cX0_clear 2 none, Cond.fieldLink RX0 27 "GripInspector$Lift" "place" "[I", Cond.fieldLink RX0 46 "GripInspector$Lift" "station" "I", Cond.fieldLink RX0 49 "GripInspector$Lift" "clock" "I"]
def wsX4_load_r2 : List Cond := [Cond.fieldLink RX0 52 "GripInspector$Lift" "randomState" "J", Cond.methodLink RX1 32 yX1_readHead, Cond.instanceMethod yX1_readHead, Cond.selects RX1 yX1_readHead yX1_readHead, Cond.code yX1_readHead cX1_readHead 5 (some .boolean), Cond.fieldLink RX1 49 "GripInspector$Lift" "n" "I", Cond.fieldLink RX1 60 "GripInspector$Lift" "limits" "[I", Cond.methodLink RX1 42 yX3_at, Cond.instanceMethod yX3_at, Cond.selects RX3 yX3_at yX3_at, Cond.initialized RX3, Cond.code yX3_at cX3_at 2 (some .int), Cond.fieldLink RX3 15 "GripInspector$Signs" "length" "I", Cond.fieldLink RX3 9 "GripInspector$Signs" "row" "[C", Cond.methodLink RX1 45 yX1_readPair, Cond.instanceMethod yX1_readPair, Cond.selects RX1 yX1_readPair yX1_readPair, Cond.code yX1_readPair cX1_readPair 6 (some .int), Cond.methodLink RX1 78 yX1_isBegin, Cond.instanceMethod yX1_isBegin, Cond.selects RX1 yX1_isBegin yX1_isBegin, Cond.code yX1_isBegin cX1_isBegin 6 (some .boolean), Cond.methodLink RX1 82 yX1_isAllowed, Cond.instanceMethod yX1_isAllowed]
def wsX4_load_r3 : List Cond := [Cond.selects RX1 yX1_isAllowed yX1_isAllowed, Cond.code yX1_isAllowed cX1_isAllowed 5 (some .boolean), Cond.methodLink RX1 85 yX0_gripAt, Cond.instanceMethod yX0_gripAt, Cond.selects RX0 yX0_gripAt yX0_gripAt, Cond.code yX0_gripAt cX0_gripAt 3 (some .int), Cond.fieldLink RX0 30 "GripInspector$Lift" "spot" "[I", Cond.methodLink RX1 56 yX1_readDigit, Cond.instanceMethod yX1_readDigit, Cond.selects RX1 yX1_readDigit yX1_readDigit, Cond.code yX1_readDigit cX1_readDigit 4 (some .int), Cond.methodLink RX1 39 yX1_readItem, Cond.instanceMethod yX1_readItem, Cond.selects RX1 yX1_readItem yX1_readItem, Cond.code yX1_readItem cX1_readItem 6 (some .boolean), Cond.methodLink RX1 63 yX0_grips, Cond.instanceMethod yX0_grips, Cond.selects RX0 yX0_grips yX0_grips, Cond.code yX0_grips cX0_grips 1 (some .int), Cond.methodLink RX0 62 yX0_count, Cond.instanceMethod yX0_count, Cond.selects RX0 yX0_count yX0_count, Cond.code yX0_count cX0_count 4 (some .int), Cond.methodLink RX1 67 yX0_count]
def wsX4_load_r4 : List Cond := [Cond.methodLink RX1 70 yX0_add, Cond.instanceMethod yX0_add, Cond.selects RX0 yX0_add yX0_add, Cond.code yX0_add cX0_add 3 none, Cond.fieldLink RX0 9 "GripInspector$Lift" "weight" "[I", Cond.fieldLink RX0 15 "GripInspector$Lift" "cycles" "[I", Cond.fieldLink RX0 18 "GripInspector$Lift" "wear" "[I", Cond.fieldLink RX0 21 "GripInspector$Lift" "pulls" "[I", Cond.fieldLink RX0 24 "GripInspector$Lift" "lastSlip" "[I", Cond.methodLink RX0 66 yX0_grips, Cond.methodLink RX1 74 yX0_hang, Cond.instanceMethod yX0_hang, Cond.selects RX0 yX0_hang yX0_hang, Cond.code yX0_hang cX0_hang 3 none, Cond.methodLink RX4 94 yX0_become, Cond.instanceMethod yX0_become, Cond.selects RX0 yX0_become yX0_become, Cond.code yX0_become cX0_become 2 none, Cond.methodLink RX0 56 arraycopyName, Cond.native arraycopyName, Cond.static arraycopyName, Cond.initialized "java/lang/System", Cond.fieldLink RX0 33 "GripInspector$Lift" "stepsLeft" "[I", Cond.fieldLink RX0 36 "GripInspector$Lift" "limits" "[I"]
def wsX4_load_r5 : List Cond := [Cond.fieldLink RX0 42 "GripInspector$Lift" "n" "I", Cond.methodLink RX4 98 yX0_grips]
def wsX4_load : List Cond := .code yX4_load cX4_load 2 (some .int) :: ((wsX4_load_r1 ++ (wsX4_load_r2 ++ (wsX4_load_r3 ++ (wsX4_load_r4 ++ wsX4_load_r5)))) ++ wsX40 ++ wsX10 ++ wsX30 ++ wsX00 ++ (vx_atS RX4 74 "java/lang/IllegalStateException" ["java/lang/RuntimeException", "java/lang/Exception"]).filter goodWord)
def wsX4_about : List Cond := .code yX4_about cX4_about 2 (some .int) :: ([.classLink RX4 56 "java/lang/IllegalArgumentException", .initialized "java/lang/IllegalArgumentException", .fieldLink RX4 10 "GripInspector" "lift" "LGripInspector$Lift;", .fieldLink RX4 101 "GripInspector$Lift" "n" "I", .fieldLink RX4 108 "GripInspector$Lift" "station" "I", .fieldLink RX4 111 "GripInspector$Lift" "clock" "I", .fieldLink RX4 114 "GripInspector$Lift" "limits" "[I", .methodLink RX4 98 yX0_grips, .instanceMethod yX0_grips, .selects RX0 yX0_grips yX0_grips, .initialized RX0, .code yX0_grips cX0_grips 1 (some .int), .methodLink RX0 62 yX0_count, .instanceMethod yX0_count, .selects RX0 yX0_count yX0_count, .code yX0_count cX0_count 4 (some .int), .fieldLink RX0 27 "GripInspector$Lift" "place" "[I", .methodLink RX4 104 yX0_count] ++ wsX40 ++ wsX00 ++ (vx_atS RX4 60 "java/lang/IllegalArgumentException" ["java/lang/RuntimeException", "java/lang/Exception"]).filter goodWord)
def wsX4_isGripNumber : List Cond := .code yX4_isGripNumber cX4_isGripNumber 1 (some .boolean) :: ([])
def wsX4_grip_r1 : List Cond := [Cond.classLink RX4 124 "java/lang/IndexOutOfBoundsException", Cond.initialized "java/lang/IndexOutOfBoundsException", Cond.classLink RX4 56 "java/lang/IllegalArgumentException", Cond.initialized "java/lang/IllegalArgumentException", Cond.fieldLink RX4 10 "GripInspector" "lift" "LGripInspector$Lift;", Cond.methodLink RX4 120 yX0_has, Cond.instanceMethod yX0_has, Cond.selects RX0 yX0_has yX0_has, Cond.initialized RX0, Cond.code yX0_has cX0_has 2 (some .boolean), Cond.fieldLink RX0 27 "GripInspector$Lift" "place" "[I", Cond.methodLink RX4 129 yX4_isGripNumber, Cond.static yX4_isGripNumber, Cond.initialized RX4, Cond.code yX4_isGripNumber cX4_isGripNumber 1 (some .boolean), Cond.methodLink RX4 134 yX0_number, Cond.instanceMethod yX0_number, Cond.selects RX0 yX0_number yX0_number, Cond.code yX0_number cX0_number 3 (some .int), Cond.fieldLink RX0 9 "GripInspector$Lift" "weight" "[I", Cond.fieldLink RX0 15 "GripInspector$Lift" "cycles" "[I", Cond.fieldLink RX0 18 "GripInspector$Lift" "wear" "[I", Cond.fieldLink RX0 21 "GripInspector$Lift" "pulls" "[I", Cond.fieldLink RX0 24 "GripInspector$Lift" "lastSlip" "[I"]
def wsX4_grip_r2 : List Cond := [Cond.fieldLink RX0 30 "GripInspector$Lift" "spot" "[I", Cond.fieldLink RX0 33 "GripInspector$Lift" "stepsLeft" "[I"]
def wsX4_grip : List Cond := .code yX4_grip cX4_grip 3 (some .int) :: ((wsX4_grip_r1 ++ wsX4_grip_r2) ++ wsX40 ++ wsX00 ++ (vx_atS RX4 128 "java/lang/IndexOutOfBoundsException" ["java/lang/RuntimeException", "java/lang/Exception"]).filter goodWord ++ (vx_atS RX4 60 "java/lang/IllegalArgumentException" ["java/lang/RuntimeException", "java/lang/Exception"]).filter goodWord)
def wsX4_slot : List Cond := .code yX4_slot cX4_slot 2 (some .int) :: ([.classLink RX4 124 "java/lang/IndexOutOfBoundsException", .initialized "java/lang/IndexOutOfBoundsException", .fieldLink RX4 10 "GripInspector" "lift" "LGripInspector$Lift;", .methodLink RX4 138 yX0_hasSlot, .instanceMethod yX0_hasSlot, .selects RX0 yX0_hasSlot yX0_hasSlot, .initialized RX0, .code yX0_hasSlot cX0_hasSlot 2 (some .boolean), .fieldLink RX0 42 "GripInspector$Lift" "n" "I", .methodLink RX4 143 yX0_gripAt, .instanceMethod yX0_gripAt, .selects RX0 yX0_gripAt yX0_gripAt, .code yX0_gripAt cX0_gripAt 3 (some .int), .fieldLink RX0 27 "GripInspector$Lift" "place" "[I", .fieldLink RX0 30 "GripInspector$Lift" "spot" "[I"] ++ wsX40 ++ wsX00 ++ (vx_atS RX4 128 "java/lang/IndexOutOfBoundsException" ["java/lang/RuntimeException", "java/lang/Exception"]).filter goodWord)
def wsX4_random : List Cond := .code yX4_random cX4_random 1 (some .long) :: ([.fieldLink RX4 10 "GripInspector" "lift" "LGripInspector$Lift;", .fieldLink RX4 146 "GripInspector$Lift" "randomState" "J"] ++ wsX40 ++ wsX00)
def wsX4_report_r1 : List Cond := [Cond.classLink RX4 56 "java/lang/IllegalArgumentException", Cond.initialized "java/lang/IllegalArgumentException", Cond.fieldLink RX4 10 "GripInspector" "lift" "LGripInspector$Lift;", Cond.fieldLink RX4 29 "GripInspector" "summary" "LGripInspector$Signs;", Cond.methodLink RX4 152 yX0_describe, Cond.instanceMethod yX0_describe, Cond.selects RX0 yX0_describe yX0_describe, Cond.initialized RX0, Cond.code yX0_describe cX0_describe 3 none, Cond.fieldLink RX0 27 "GripInspector$Lift" "place" "[I", Cond.methodLink RX0 123 yX3_clear, Cond.instanceMethod yX3_clear, Cond.selects RX3 yX3_clear yX3_clear, Cond.initialized RX3, Cond.code yX3_clear cX3_clear 1 none, Cond.fieldLink RX3 15 "GripInspector$Signs" "length" "I", Cond.methodLink RX0 126 yX0_describeGrip, Cond.instanceMethod yX0_describeGrip, Cond.selects RX0 yX0_describeGrip yX0_describeGrip, Cond.code yX0_describeGrip cX0_describeGrip 3 none, Cond.fieldLink RX0 130 "GripInspector$Signs" "length" "I", Cond.fieldLink RX0 30 "GripInspector$Lift" "spot" "[I", Cond.fieldLink RX0 33 "GripInspector$Lift" "stepsLeft" "[I", Cond.methodLink RX0 133 yX3_put]
def wsX4_report_r2 : List Cond := [Cond.instanceMethod yX3_put, Cond.selects RX3 yX3_put yX3_put, Cond.code yX3_put cX3_put 2 none, Cond.fieldLink RX3 9 "GripInspector$Signs" "row" "[C", Cond.methodLink RX0 137 yX3_putNumber, Cond.instanceMethod yX3_putNumber, Cond.selects RX3 yX3_putNumber yX3_putNumber, Cond.code yX3_putNumber cX3_putNumber 2 none, Cond.methodLink RX3 19 yX3_put, Cond.methodLink RX4 156 yX3_at, Cond.instanceMethod yX3_at, Cond.selects RX3 yX3_at yX3_at, Cond.code yX3_at cX3_at 2 (some .int)]
def wsX4_report : List Cond := .code yX4_report cX4_report 2 (some .int) :: ((wsX4_report_r1 ++ wsX4_report_r2) ++ wsX40 ++ wsX00 ++ wsX30 ++ (vx_atS RX4 60 "java/lang/IllegalArgumentException" ["java/lang/RuntimeException", "java/lang/Exception"]).filter goodWord)
def wsX4_isStepNumber : List Cond := .code yX4_isStepNumber cX4_isStepNumber 1 (some .boolean) :: ([])
def wsX4_remember_r1 : List Cond := [Cond.fieldLink RX4 38 "GripInspector" "history" "LGripInspector$Memory;", Cond.fieldLink RX4 53 "GripInspector" "nextRemembered" "I", Cond.fieldLink RX4 10 "GripInspector" "lift" "LGripInspector$Lift;", Cond.fieldLink RX4 49 "GripInspector" "remembered" "I", Cond.methodLink RX4 275 yX2_keep, Cond.instanceMethod yX2_keep, Cond.selects RX2 yX2_keep yX2_keep, Cond.initialized RX2, Cond.code yX2_keep cX2_keep 4 none, Cond.methodLink RX2 16 yX2_rowAt, Cond.instanceMethod yX2_rowAt, Cond.selects RX2 yX2_rowAt yX2_rowAt, Cond.code yX2_rowAt cX2_rowAt 2 (some (.object "GripInspector$Lift")), Cond.fieldLink RX2 9 "GripInspector$Memory" "rows" "[LGripInspector$Lift;", Cond.methodLink RX2 20 yX0_become, Cond.instanceMethod yX0_become, Cond.selects RX0 yX0_become yX0_become, Cond.initialized RX0, Cond.code yX0_become cX0_become 2 none, Cond.fieldLink RX0 9 "GripInspector$Lift" "weight" "[I", Cond.methodLink RX0 56 arraycopyName, Cond.native arraycopyName, Cond.static arraycopyName, Cond.initialized "java/lang/System"]
def wsX4_remember_r2 : List Cond := [Cond.fieldLink RX0 15 "GripInspector$Lift" "cycles" "[I", Cond.fieldLink RX0 18 "GripInspector$Lift" "wear" "[I", Cond.fieldLink RX0 21 "GripInspector$Lift" "pulls" "[I", Cond.fieldLink RX0 24 "GripInspector$Lift" "lastSlip" "[I", Cond.fieldLink RX0 27 "GripInspector$Lift" "place" "[I", Cond.fieldLink RX0 30 "GripInspector$Lift" "spot" "[I", Cond.fieldLink RX0 33 "GripInspector$Lift" "stepsLeft" "[I", Cond.fieldLink RX0 36 "GripInspector$Lift" "limits" "[I", Cond.fieldLink RX0 42 "GripInspector$Lift" "n" "I", Cond.fieldLink RX0 46 "GripInspector$Lift" "station" "I", Cond.fieldLink RX0 49 "GripInspector$Lift" "clock" "I", Cond.fieldLink RX0 52 "GripInspector$Lift" "randomState" "J"]
def wsX4_remember : List Cond := .code yX4_remember cX4_remember 1 none :: ((wsX4_remember_r1 ++ wsX4_remember_r2) ++ wsX40 ++ wsX20 ++ wsX00)
def wsX4_step_r1 : List Cond := [Cond.classLink RX4 56 "java/lang/IllegalArgumentException", Cond.initialized "java/lang/IllegalArgumentException", Cond.fieldLink RX4 10 "GripInspector" "lift" "LGripInspector$Lift;", Cond.methodLink RX4 159 yX4_isStepNumber, Cond.static yX4_isStepNumber, Cond.initialized RX4, Cond.code yX4_isStepNumber cX4_isStepNumber 1 (some .boolean), Cond.methodLink RX4 164 yX4_remember, Cond.instanceMethod yX4_remember, Cond.selects RX4 yX4_remember yX4_remember, Cond.code yX4_remember cX4_remember 1 none, Cond.fieldLink RX4 38 "GripInspector" "history" "LGripInspector$Memory;", Cond.fieldLink RX4 53 "GripInspector" "nextRemembered" "I", Cond.fieldLink RX4 49 "GripInspector" "remembered" "I", Cond.methodLink RX4 275 yX2_keep, Cond.instanceMethod yX2_keep, Cond.selects RX2 yX2_keep yX2_keep, Cond.initialized RX2, Cond.code yX2_keep cX2_keep 4 none, Cond.methodLink RX2 16 yX2_rowAt, Cond.instanceMethod yX2_rowAt, Cond.selects RX2 yX2_rowAt yX2_rowAt, Cond.code yX2_rowAt cX2_rowAt 2 (some (.object "GripInspector$Lift")), Cond.fieldLink RX2 9 "GripInspector$Memory" "rows" "[LGripInspector$Lift;"]
def wsX4_step_r2 : List Cond := [Cond.methodLink RX2 20 yX0_become, Cond.instanceMethod yX0_become, Cond.selects RX0 yX0_become yX0_become, Cond.initialized RX0, Cond.code yX0_become cX0_become 2 none, Cond.fieldLink RX0 9 "GripInspector$Lift" "weight" "[I", Cond.methodLink RX0 56 arraycopyName, Cond.native arraycopyName, Cond.static arraycopyName, Cond.initialized "java/lang/System", Cond.fieldLink RX0 15 "GripInspector$Lift" "cycles" "[I", Cond.fieldLink RX0 18 "GripInspector$Lift" "wear" "[I", Cond.fieldLink RX0 21 "GripInspector$Lift" "pulls" "[I", Cond.fieldLink RX0 24 "GripInspector$Lift" "lastSlip" "[I", Cond.fieldLink RX0 27 "GripInspector$Lift" "place" "[I", Cond.fieldLink RX0 30 "GripInspector$Lift" "spot" "[I", Cond.fieldLink RX0 33 "GripInspector$Lift" "stepsLeft" "[I", Cond.fieldLink RX0 36 "GripInspector$Lift" "limits" "[I", Cond.fieldLink RX0 42 "GripInspector$Lift" "n" "I", Cond.fieldLink RX0 46 "GripInspector$Lift" "station" "I", Cond.fieldLink RX0 49 "GripInspector$Lift" "clock" "I", Cond.fieldLink RX0 52 "GripInspector$Lift" "randomState" "J", Cond.methodLink RX4 167 yX0_advanceBy, Cond.instanceMethod yX0_advanceBy]
def wsX4_step_r3 : List Cond := [Cond.selects RX0 yX0_advanceBy yX0_advanceBy, Cond.code yX0_advanceBy cX0_advanceBy 3 none, Cond.methodLink RX0 70 yX0_advance, Cond.instanceMethod yX0_advance, Cond.selects RX0 yX0_advance yX0_advance, Cond.code yX0_advance cX0_advance 3 (some .int), Cond.constantLong RX0 73 (6364136223846793005), Cond.constantLong RX0 75 (1442695040888963407), Cond.methodLink RX0 77 yX0_gripAt, Cond.instanceMethod yX0_gripAt, Cond.selects RX0 yX0_gripAt yX0_gripAt, Cond.code yX0_gripAt cX0_gripAt 3 (some .int), Cond.methodLink RX0 80 yX0_pass, Cond.instanceMethod yX0_pass, Cond.selects RX0 yX0_pass yX0_pass, Cond.code yX0_pass cX0_pass 6 (some .int), Cond.methodLink RX0 84 yX0_repairAllBut, Cond.instanceMethod yX0_repairAllBut, Cond.selects RX0 yX0_repairAllBut yX0_repairAllBut, Cond.code yX0_repairAllBut cX0_repairAllBut 3 none, Cond.methodLink RX0 88 yX0_fillStation, Cond.instanceMethod yX0_fillStation, Cond.selects RX0 yX0_fillStation yX0_fillStation, Cond.code yX0_fillStation cX0_fillStation 3 (some .int)]
def wsX4_step_r4 : List Cond := [Cond.methodLink RX0 91 yX0_isRoomAt, Cond.instanceMethod yX0_isRoomAt, Cond.selects RX0 yX0_isRoomAt yX0_isRoomAt, Cond.code yX0_isRoomAt cX0_isRoomAt 3 (some .boolean), Cond.methodLink RX0 99 yX0_distance, Cond.instanceMethod yX0_distance, Cond.selects RX0 yX0_distance yX0_distance, Cond.code yX0_distance cX0_distance 4 (some .int), Cond.methodLink RX0 95 yX0_hang, Cond.instanceMethod yX0_hang, Cond.selects RX0 yX0_hang yX0_hang, Cond.code yX0_hang cX0_hang 3 none, Cond.methodLink RX4 104 yX0_count, Cond.instanceMethod yX0_count, Cond.selects RX0 yX0_count yX0_count, Cond.code yX0_count cX0_count 4 (some .int)]
def wsX4_step : List Cond := .code yX4_step cX4_step 2 (some .int) :: ((wsX4_step_r1 ++ (wsX4_step_r2 ++ (wsX4_step_r3 ++ wsX4_step_r4))) ++ wsX40 ++ wsX20 ++ wsX00 ++ (vx_atS RX4 60 "java/lang/IllegalArgumentException" ["java/lang/RuntimeException", "java/lang/Exception"]).filter goodWord)
def wsX4_addGrip_r1 : List Cond := [Cond.classLink RX4 56 "java/lang/IllegalArgumentException", Cond.initialized "java/lang/IllegalArgumentException", Cond.classLink RX4 70 "java/lang/IllegalStateException", Cond.initialized "java/lang/IllegalStateException", Cond.fieldLink RX4 10 "GripInspector" "lift" "LGripInspector$Lift;", Cond.methodLink RX4 172 yX0_isFull, Cond.instanceMethod yX0_isFull, Cond.selects RX0 yX0_isFull yX0_isFull, Cond.initialized RX0, Cond.code yX0_isFull cX0_isFull 1 (some .boolean), Cond.methodLink RX0 62 yX0_count, Cond.instanceMethod yX0_count, Cond.selects RX0 yX0_count yX0_count, Cond.code yX0_count cX0_count 4 (some .int), Cond.fieldLink RX0 27 "GripInspector$Lift" "place" "[I", Cond.methodLink RX4 164 yX4_remember, Cond.instanceMethod yX4_remember, Cond.selects RX4 yX4_remember yX4_remember, Cond.initialized RX4, Cond.code yX4_remember cX4_remember 1 none, Cond.fieldLink RX4 38 "GripInspector" "history" "LGripInspector$Memory;", Cond.fieldLink RX4 53 "GripInspector" "nextRemembered" "I", Cond.fieldLink RX4 49 "GripInspector" "remembered" "I", Cond.methodLink RX4 275 yX2_keep]
def wsX4_addGrip_r2 : List Cond := [Cond.instanceMethod yX2_keep, Cond.selects RX2 yX2_keep yX2_keep, Cond.initialized RX2, Cond.code yX2_keep cX2_keep 4 none, Cond.methodLink RX2 16 yX2_rowAt, Cond.instanceMethod yX2_rowAt, Cond.selects RX2 yX2_rowAt yX2_rowAt, Cond.code yX2_rowAt cX2_rowAt 2 (some (.object "GripInspector$Lift")), Cond.fieldLink RX2 9 "GripInspector$Memory" "rows" "[LGripInspector$Lift;", Cond.methodLink RX2 20 yX0_become, Cond.instanceMethod yX0_become, Cond.selects RX0 yX0_become yX0_become, Cond.code yX0_become cX0_become 2 none, Cond.fieldLink RX0 9 "GripInspector$Lift" "weight" "[I", Cond.methodLink RX0 56 arraycopyName, Cond.native arraycopyName, Cond.static arraycopyName, Cond.initialized "java/lang/System", Cond.fieldLink RX0 15 "GripInspector$Lift" "cycles" "[I", Cond.fieldLink RX0 18 "GripInspector$Lift" "wear" "[I", Cond.fieldLink RX0 21 "GripInspector$Lift" "pulls" "[I", Cond.fieldLink RX0 24 "GripInspector$Lift" "lastSlip" "[I", Cond.fieldLink RX0 30 "GripInspector$Lift" "spot" "[I", Cond.fieldLink RX0 33 "GripInspector$Lift" "stepsLeft" "[I"]
def wsX4_addGrip_r3 : List Cond := [Cond.fieldLink RX0 36 "GripInspector$Lift" "limits" "[I", Cond.fieldLink RX0 42 "GripInspector$Lift" "n" "I", Cond.fieldLink RX0 46 "GripInspector$Lift" "station" "I", Cond.fieldLink RX0 49 "GripInspector$Lift" "clock" "I", Cond.fieldLink RX0 52 "GripInspector$Lift" "randomState" "J", Cond.methodLink RX4 175 yX0_add, Cond.instanceMethod yX0_add, Cond.selects RX0 yX0_add yX0_add, Cond.code yX0_add cX0_add 3 none, Cond.methodLink RX0 66 yX0_grips, Cond.instanceMethod yX0_grips, Cond.selects RX0 yX0_grips yX0_grips, Cond.code yX0_grips cX0_grips 1 (some .int), Cond.methodLink RX4 98 yX0_grips]
def wsX4_addGrip : List Cond := .code yX4_addGrip cX4_addGrip 2 (some .int) :: ((wsX4_addGrip_r1 ++ (wsX4_addGrip_r2 ++ wsX4_addGrip_r3)) ++ wsX40 ++ wsX00 ++ wsX20 ++ (vx_atS RX4 60 "java/lang/IllegalArgumentException" ["java/lang/RuntimeException", "java/lang/Exception"]).filter goodWord ++ (vx_atS RX4 74 "java/lang/IllegalStateException" ["java/lang/RuntimeException", "java/lang/Exception"]).filter goodWord)
def wsX4_putOn_r1 : List Cond := [Cond.classLink RX4 124 "java/lang/IndexOutOfBoundsException", Cond.initialized "java/lang/IndexOutOfBoundsException", Cond.classLink RX4 70 "java/lang/IllegalStateException", Cond.initialized "java/lang/IllegalStateException", Cond.fieldLink RX4 10 "GripInspector" "lift" "LGripInspector$Lift;", Cond.methodLink RX4 120 yX0_has, Cond.instanceMethod yX0_has, Cond.selects RX0 yX0_has yX0_has, Cond.initialized RX0, Cond.code yX0_has cX0_has 2 (some .boolean), Cond.fieldLink RX0 27 "GripInspector$Lift" "place" "[I", Cond.methodLink RX4 138 yX0_hasSlot, Cond.instanceMethod yX0_hasSlot, Cond.selects RX0 yX0_hasSlot yX0_hasSlot, Cond.code yX0_hasSlot cX0_hasSlot 2 (some .boolean), Cond.fieldLink RX0 42 "GripInspector$Lift" "n" "I", Cond.methodLink RX4 180 yX0_isIn, Cond.instanceMethod yX0_isIn, Cond.selects RX0 yX0_isIn yX0_isIn, Cond.code yX0_isIn cX0_isIn 3 (some .boolean), Cond.methodLink RX4 184 yX0_isRoomAt, Cond.instanceMethod yX0_isRoomAt, Cond.selects RX0 yX0_isRoomAt yX0_isRoomAt, Cond.code yX0_isRoomAt cX0_isRoomAt 3 (some .boolean)]
def wsX4_putOn_r2 : List Cond := [Cond.fieldLink RX0 30 "GripInspector$Lift" "spot" "[I", Cond.fieldLink RX0 36 "GripInspector$Lift" "limits" "[I", Cond.methodLink RX0 99 yX0_distance, Cond.instanceMethod yX0_distance, Cond.selects RX0 yX0_distance yX0_distance, Cond.code yX0_distance cX0_distance 4 (some .int), Cond.methodLink RX4 164 yX4_remember, Cond.instanceMethod yX4_remember, Cond.selects RX4 yX4_remember yX4_remember, Cond.initialized RX4, Cond.code yX4_remember cX4_remember 1 none, Cond.fieldLink RX4 38 "GripInspector" "history" "LGripInspector$Memory;", Cond.fieldLink RX4 53 "GripInspector" "nextRemembered" "I", Cond.fieldLink RX4 49 "GripInspector" "remembered" "I", Cond.methodLink RX4 275 yX2_keep, Cond.instanceMethod yX2_keep, Cond.selects RX2 yX2_keep yX2_keep, Cond.initialized RX2, Cond.code yX2_keep cX2_keep 4 none, Cond.methodLink RX2 16 yX2_rowAt, Cond.instanceMethod yX2_rowAt, Cond.selects RX2 yX2_rowAt yX2_rowAt, Cond.code yX2_rowAt cX2_rowAt 2 (some (.object "GripInspector$Lift")), Cond.fieldLink RX2 9 "GripInspector$Memory" "rows" "[LGripInspector$Lift;"]
def wsX4_putOn_r3 : List Cond := [Cond.methodLink RX2 20 yX0_become, Cond.instanceMethod yX0_become, Cond.selects RX0 yX0_become yX0_become, Cond.code yX0_become cX0_become 2 none, Cond.fieldLink RX0 9 "GripInspector$Lift" "weight" "[I", Cond.methodLink RX0 56 arraycopyName, Cond.native arraycopyName, Cond.static arraycopyName, Cond.initialized "java/lang/System", Cond.fieldLink RX0 15 "GripInspector$Lift" "cycles" "[I", Cond.fieldLink RX0 18 "GripInspector$Lift" "wear" "[I", Cond.fieldLink RX0 21 "GripInspector$Lift" "pulls" "[I", Cond.fieldLink RX0 24 "GripInspector$Lift" "lastSlip" "[I", Cond.fieldLink RX0 33 "GripInspector$Lift" "stepsLeft" "[I", Cond.fieldLink RX0 46 "GripInspector$Lift" "station" "I", Cond.fieldLink RX0 49 "GripInspector$Lift" "clock" "I", Cond.fieldLink RX0 52 "GripInspector$Lift" "randomState" "J", Cond.methodLink RX4 189 yX0_hang, Cond.instanceMethod yX0_hang, Cond.selects RX0 yX0_hang yX0_hang, Cond.code yX0_hang cX0_hang 3 none, Cond.methodLink RX4 104 yX0_count, Cond.instanceMethod yX0_count, Cond.selects RX0 yX0_count yX0_count]
def wsX4_putOn_r4 : List Cond := [Cond.code yX0_count cX0_count 4 (some .int)]
def wsX4_putOn : List Cond := .code yX4_putOn cX4_putOn 3 (some .int) :: ((wsX4_putOn_r1 ++ (wsX4_putOn_r2 ++ (wsX4_putOn_r3 ++ wsX4_putOn_r4))) ++ wsX40 ++ wsX00 ++ wsX20 ++ (vx_atS RX4 128 "java/lang/IndexOutOfBoundsException" ["java/lang/RuntimeException", "java/lang/Exception"]).filter goodWord ++ (vx_atS RX4 74 "java/lang/IllegalStateException" ["java/lang/RuntimeException", "java/lang/Exception"]).filter goodWord)
def wsX4_takeOff_r1 : List Cond := [Cond.classLink RX4 124 "java/lang/IndexOutOfBoundsException", Cond.initialized "java/lang/IndexOutOfBoundsException", Cond.classLink RX4 70 "java/lang/IllegalStateException", Cond.initialized "java/lang/IllegalStateException", Cond.fieldLink RX4 10 "GripInspector" "lift" "LGripInspector$Lift;", Cond.fieldLink RX4 195 "GripInspector$Lift" "spot" "[I", Cond.methodLink RX4 120 yX0_has, Cond.instanceMethod yX0_has, Cond.selects RX0 yX0_has yX0_has, Cond.initialized RX0, Cond.code yX0_has cX0_has 2 (some .boolean), Cond.fieldLink RX0 27 "GripInspector$Lift" "place" "[I", Cond.methodLink RX4 180 yX0_isIn, Cond.instanceMethod yX0_isIn, Cond.selects RX0 yX0_isIn yX0_isIn, Cond.code yX0_isIn cX0_isIn 3 (some .boolean), Cond.methodLink RX4 164 yX4_remember, Cond.instanceMethod yX4_remember, Cond.selects RX4 yX4_remember yX4_remember, Cond.initialized RX4, Cond.code yX4_remember cX4_remember 1 none, Cond.fieldLink RX4 38 "GripInspector" "history" "LGripInspector$Memory;", Cond.fieldLink RX4 53 "GripInspector" "nextRemembered" "I", Cond.fieldLink RX4 49 "GripInspector" "remembered" "I"]
def wsX4_takeOff_r2 : List Cond := [Cond.methodLink RX4 275 yX2_keep, Cond.instanceMethod yX2_keep, Cond.selects RX2 yX2_keep yX2_keep, Cond.initialized RX2, Cond.code yX2_keep cX2_keep 4 none, Cond.methodLink RX2 16 yX2_rowAt, Cond.instanceMethod yX2_rowAt, Cond.selects RX2 yX2_rowAt yX2_rowAt, Cond.code yX2_rowAt cX2_rowAt 2 (some (.object "GripInspector$Lift")), Cond.fieldLink RX2 9 "GripInspector$Memory" "rows" "[LGripInspector$Lift;", Cond.methodLink RX2 20 yX0_become, Cond.instanceMethod yX0_become, Cond.selects RX0 yX0_become yX0_become, Cond.code yX0_become cX0_become 2 none, Cond.fieldLink RX0 9 "GripInspector$Lift" "weight" "[I", Cond.methodLink RX0 56 arraycopyName, Cond.native arraycopyName, Cond.static arraycopyName, Cond.initialized "java/lang/System", Cond.fieldLink RX0 15 "GripInspector$Lift" "cycles" "[I", Cond.fieldLink RX0 18 "GripInspector$Lift" "wear" "[I", Cond.fieldLink RX0 21 "GripInspector$Lift" "pulls" "[I", Cond.fieldLink RX0 24 "GripInspector$Lift" "lastSlip" "[I", Cond.fieldLink RX0 30 "GripInspector$Lift" "spot" "[I"]
def wsX4_takeOff_r3 : List Cond := [Cond.fieldLink RX0 33 "GripInspector$Lift" "stepsLeft" "[I", Cond.fieldLink RX0 36 "GripInspector$Lift" "limits" "[I", Cond.fieldLink RX0 42 "GripInspector$Lift" "n" "I", Cond.fieldLink RX0 46 "GripInspector$Lift" "station" "I", Cond.fieldLink RX0 49 "GripInspector$Lift" "clock" "I", Cond.fieldLink RX0 52 "GripInspector$Lift" "randomState" "J", Cond.methodLink RX4 198 yX0_move, Cond.instanceMethod yX0_move, Cond.selects RX0 yX0_move yX0_move, Cond.code yX0_move cX0_move 3 none]
def wsX4_takeOff : List Cond := .code yX4_takeOff cX4_takeOff 3 (some .int) :: ((wsX4_takeOff_r1 ++ (wsX4_takeOff_r2 ++ wsX4_takeOff_r3)) ++ wsX40 ++ wsX00 ++ wsX20 ++ (vx_atS RX4 128 "java/lang/IndexOutOfBoundsException" ["java/lang/RuntimeException", "java/lang/Exception"]).filter goodWord ++ (vx_atS RX4 74 "java/lang/IllegalStateException" ["java/lang/RuntimeException", "java/lang/Exception"]).filter goodWord)
def wsX4_scrap_r1 : List Cond := [Cond.classLink RX4 124 "java/lang/IndexOutOfBoundsException", Cond.initialized "java/lang/IndexOutOfBoundsException", Cond.classLink RX4 70 "java/lang/IllegalStateException", Cond.initialized "java/lang/IllegalStateException", Cond.fieldLink RX4 10 "GripInspector" "lift" "LGripInspector$Lift;", Cond.fieldLink RX4 203 "GripInspector$Lift" "place" "[I", Cond.methodLink RX4 120 yX0_has, Cond.instanceMethod yX0_has, Cond.selects RX0 yX0_has yX0_has, Cond.initialized RX0, Cond.code yX0_has cX0_has 2 (some .boolean), Cond.fieldLink RX0 27 "GripInspector$Lift" "place" "[I", Cond.methodLink RX4 180 yX0_isIn, Cond.instanceMethod yX0_isIn, Cond.selects RX0 yX0_isIn yX0_isIn, Cond.code yX0_isIn cX0_isIn 3 (some .boolean), Cond.methodLink RX4 164 yX4_remember, Cond.instanceMethod yX4_remember, Cond.selects RX4 yX4_remember yX4_remember, Cond.initialized RX4, Cond.code yX4_remember cX4_remember 1 none, Cond.fieldLink RX4 38 "GripInspector" "history" "LGripInspector$Memory;", Cond.fieldLink RX4 53 "GripInspector" "nextRemembered" "I", Cond.fieldLink RX4 49 "GripInspector" "remembered" "I"]
def wsX4_scrap_r2 : List Cond := [Cond.methodLink RX4 275 yX2_keep, Cond.instanceMethod yX2_keep, Cond.selects RX2 yX2_keep yX2_keep, Cond.initialized RX2, Cond.code yX2_keep cX2_keep 4 none, Cond.methodLink RX2 16 yX2_rowAt, Cond.instanceMethod yX2_rowAt, Cond.selects RX2 yX2_rowAt yX2_rowAt, Cond.code yX2_rowAt cX2_rowAt 2 (some (.object "GripInspector$Lift")), Cond.fieldLink RX2 9 "GripInspector$Memory" "rows" "[LGripInspector$Lift;", Cond.methodLink RX2 20 yX0_become, Cond.instanceMethod yX0_become, Cond.selects RX0 yX0_become yX0_become, Cond.code yX0_become cX0_become 2 none, Cond.fieldLink RX0 9 "GripInspector$Lift" "weight" "[I", Cond.methodLink RX0 56 arraycopyName, Cond.native arraycopyName, Cond.static arraycopyName, Cond.initialized "java/lang/System", Cond.fieldLink RX0 15 "GripInspector$Lift" "cycles" "[I", Cond.fieldLink RX0 18 "GripInspector$Lift" "wear" "[I", Cond.fieldLink RX0 21 "GripInspector$Lift" "pulls" "[I", Cond.fieldLink RX0 24 "GripInspector$Lift" "lastSlip" "[I", Cond.fieldLink RX0 30 "GripInspector$Lift" "spot" "[I"]
def wsX4_scrap_r3 : List Cond := [Cond.fieldLink RX0 33 "GripInspector$Lift" "stepsLeft" "[I", Cond.fieldLink RX0 36 "GripInspector$Lift" "limits" "[I", Cond.fieldLink RX0 42 "GripInspector$Lift" "n" "I", Cond.fieldLink RX0 46 "GripInspector$Lift" "station" "I", Cond.fieldLink RX0 49 "GripInspector$Lift" "clock" "I", Cond.fieldLink RX0 52 "GripInspector$Lift" "randomState" "J", Cond.methodLink RX4 198 yX0_move, Cond.instanceMethod yX0_move, Cond.selects RX0 yX0_move yX0_move, Cond.code yX0_move cX0_move 3 none]
def wsX4_scrap : List Cond := .code yX4_scrap cX4_scrap 3 (some .int) :: ((wsX4_scrap_r1 ++ (wsX4_scrap_r2 ++ wsX4_scrap_r3)) ++ wsX40 ++ wsX00 ++ wsX20 ++ (vx_atS RX4 128 "java/lang/IndexOutOfBoundsException" ["java/lang/RuntimeException", "java/lang/Exception"]).filter goodWord ++ (vx_atS RX4 74 "java/lang/IllegalStateException" ["java/lang/RuntimeException", "java/lang/Exception"]).filter goodWord)
def wsX4_isLimit : List Cond := .code yX4_isLimit cX4_isLimit 2 (some .boolean) :: ([.fieldLink RX4 249 "GripInspector" "GREATEST_LIMITS" "[I"])
def wsX4_setLimit_r1 : List Cond := [Cond.classLink RX4 56 "java/lang/IllegalArgumentException", Cond.initialized "java/lang/IllegalArgumentException", Cond.fieldLink RX4 10 "GripInspector" "lift" "LGripInspector$Lift;", Cond.fieldLink RX4 114 "GripInspector$Lift" "limits" "[I", Cond.methodLink RX4 206 yX4_isLimit, Cond.static yX4_isLimit, Cond.initialized RX4, Cond.code yX4_isLimit cX4_isLimit 2 (some .boolean), Cond.fieldLink RX4 249 "GripInspector" "GREATEST_LIMITS" "[I", Cond.methodLink RX4 164 yX4_remember, Cond.instanceMethod yX4_remember, Cond.selects RX4 yX4_remember yX4_remember, Cond.code yX4_remember cX4_remember 1 none, Cond.fieldLink RX4 38 "GripInspector" "history" "LGripInspector$Memory;", Cond.fieldLink RX4 53 "GripInspector" "nextRemembered" "I", Cond.fieldLink RX4 49 "GripInspector" "remembered" "I", Cond.methodLink RX4 275 yX2_keep, Cond.instanceMethod yX2_keep, Cond.selects RX2 yX2_keep yX2_keep, Cond.initialized RX2, Cond.code yX2_keep cX2_keep 4 none, Cond.methodLink RX2 16 yX2_rowAt, Cond.instanceMethod yX2_rowAt, Cond.selects RX2 yX2_rowAt yX2_rowAt]
def wsX4_setLimit_r2 : List Cond := [Cond.code yX2_rowAt cX2_rowAt 2 (some (.object "GripInspector$Lift")), Cond.fieldLink RX2 9 "GripInspector$Memory" "rows" "[LGripInspector$Lift;", Cond.methodLink RX2 20 yX0_become, Cond.instanceMethod yX0_become, Cond.selects RX0 yX0_become yX0_become, Cond.initialized RX0, Cond.code yX0_become cX0_become 2 none, Cond.fieldLink RX0 9 "GripInspector$Lift" "weight" "[I", Cond.methodLink RX0 56 arraycopyName, Cond.native arraycopyName, Cond.static arraycopyName, Cond.initialized "java/lang/System", Cond.fieldLink RX0 15 "GripInspector$Lift" "cycles" "[I", Cond.fieldLink RX0 18 "GripInspector$Lift" "wear" "[I", Cond.fieldLink RX0 21 "GripInspector$Lift" "pulls" "[I", Cond.fieldLink RX0 24 "GripInspector$Lift" "lastSlip" "[I", Cond.fieldLink RX0 27 "GripInspector$Lift" "place" "[I", Cond.fieldLink RX0 30 "GripInspector$Lift" "spot" "[I", Cond.fieldLink RX0 33 "GripInspector$Lift" "stepsLeft" "[I", Cond.fieldLink RX0 36 "GripInspector$Lift" "limits" "[I", Cond.fieldLink RX0 42 "GripInspector$Lift" "n" "I", Cond.fieldLink RX0 46 "GripInspector$Lift" "station" "I", Cond.fieldLink RX0 49 "GripInspector$Lift" "clock" "I", Cond.fieldLink RX0 52 "GripInspector$Lift" "randomState" "J"]
def wsX4_setLimit : List Cond := .code yX4_setLimit cX4_setLimit 4 (some .int) :: ((wsX4_setLimit_r1 ++ wsX4_setLimit_r2) ++ wsX40 ++ wsX00 ++ wsX20 ++ (vx_atS RX4 60 "java/lang/IllegalArgumentException" ["java/lang/RuntimeException", "java/lang/Exception"]).filter goodWord)
def wsX4_setRandom_r1 : List Cond := [Cond.fieldLink RX4 10 "GripInspector" "lift" "LGripInspector$Lift;", Cond.fieldLink RX4 146 "GripInspector$Lift" "randomState" "J", Cond.methodLink RX4 164 yX4_remember, Cond.instanceMethod yX4_remember, Cond.selects RX4 yX4_remember yX4_remember, Cond.initialized RX4, Cond.code yX4_remember cX4_remember 1 none, Cond.fieldLink RX4 38 "GripInspector" "history" "LGripInspector$Memory;", Cond.fieldLink RX4 53 "GripInspector" "nextRemembered" "I", Cond.fieldLink RX4 49 "GripInspector" "remembered" "I", Cond.methodLink RX4 275 yX2_keep, Cond.instanceMethod yX2_keep, Cond.selects RX2 yX2_keep yX2_keep, Cond.initialized RX2, Cond.code yX2_keep cX2_keep 4 none, Cond.methodLink RX2 16 yX2_rowAt, Cond.instanceMethod yX2_rowAt, Cond.selects RX2 yX2_rowAt yX2_rowAt, Cond.code yX2_rowAt cX2_rowAt 2 (some (.object "GripInspector$Lift")), Cond.fieldLink RX2 9 "GripInspector$Memory" "rows" "[LGripInspector$Lift;", Cond.methodLink RX2 20 yX0_become, Cond.instanceMethod yX0_become, Cond.selects RX0 yX0_become yX0_become, Cond.initialized RX0]
def wsX4_setRandom_r2 : List Cond := [Cond.code yX0_become cX0_become 2 none, Cond.fieldLink RX0 9 "GripInspector$Lift" "weight" "[I", Cond.methodLink RX0 56 arraycopyName, Cond.native arraycopyName, Cond.static arraycopyName, Cond.initialized "java/lang/System", Cond.fieldLink RX0 15 "GripInspector$Lift" "cycles" "[I", Cond.fieldLink RX0 18 "GripInspector$Lift" "wear" "[I", Cond.fieldLink RX0 21 "GripInspector$Lift" "pulls" "[I", Cond.fieldLink RX0 24 "GripInspector$Lift" "lastSlip" "[I", Cond.fieldLink RX0 27 "GripInspector$Lift" "place" "[I", Cond.fieldLink RX0 30 "GripInspector$Lift" "spot" "[I", Cond.fieldLink RX0 33 "GripInspector$Lift" "stepsLeft" "[I", Cond.fieldLink RX0 36 "GripInspector$Lift" "limits" "[I", Cond.fieldLink RX0 42 "GripInspector$Lift" "n" "I", Cond.fieldLink RX0 46 "GripInspector$Lift" "station" "I", Cond.fieldLink RX0 49 "GripInspector$Lift" "clock" "I", Cond.fieldLink RX0 52 "GripInspector$Lift" "randomState" "J"]
def wsX4_setRandom : List Cond := .code yX4_setRandom cX4_setRandom 5 (some .long) :: ((wsX4_setRandom_r1 ++ wsX4_setRandom_r2) ++ wsX40 ++ wsX00 ++ wsX20)
def wsX4_undo_r1 : List Cond := [Cond.classLink RX4 70 "java/lang/IllegalStateException", Cond.initialized "java/lang/IllegalStateException", Cond.fieldLink RX4 49 "GripInspector" "remembered" "I", Cond.fieldLink RX4 53 "GripInspector" "nextRemembered" "I", Cond.fieldLink RX4 38 "GripInspector" "history" "LGripInspector$Memory;", Cond.fieldLink RX4 10 "GripInspector" "lift" "LGripInspector$Lift;", Cond.methodLink RX4 213 yX2_recall, Cond.instanceMethod yX2_recall, Cond.selects RX2 yX2_recall yX2_recall, Cond.initialized RX2, Cond.code yX2_recall cX2_recall 4 none, Cond.methodLink RX2 16 yX2_rowAt, Cond.instanceMethod yX2_rowAt, Cond.selects RX2 yX2_rowAt yX2_rowAt, Cond.code yX2_rowAt cX2_rowAt 2 (some (.object "GripInspector$Lift")), Cond.fieldLink RX2 9 "GripInspector$Memory" "rows" "[LGripInspector$Lift;", Cond.methodLink RX2 20 yX0_become, Cond.instanceMethod yX0_become, Cond.selects RX0 yX0_become yX0_become, Cond.initialized RX0, Cond.code yX0_become cX0_become 2 none, Cond.fieldLink RX0 9 "GripInspector$Lift" "weight" "[I", Cond.methodLink RX0 56 arraycopyName, Cond.native arraycopyName]
def wsX4_undo_r2 : List Cond := [Cond.static arraycopyName, Cond.initialized "java/lang/System", Cond.fieldLink RX0 15 "GripInspector$Lift" "cycles" "[I", Cond.fieldLink RX0 18 "GripInspector$Lift" "wear" "[I", Cond.fieldLink RX0 21 "GripInspector$Lift" "pulls" "[I", Cond.fieldLink RX0 24 "GripInspector$Lift" "lastSlip" "[I", Cond.fieldLink RX0 27 "GripInspector$Lift" "place" "[I", Cond.fieldLink RX0 30 "GripInspector$Lift" "spot" "[I", Cond.fieldLink RX0 33 "GripInspector$Lift" "stepsLeft" "[I", Cond.fieldLink RX0 36 "GripInspector$Lift" "limits" "[I", Cond.fieldLink RX0 42 "GripInspector$Lift" "n" "I", Cond.fieldLink RX0 46 "GripInspector$Lift" "station" "I", Cond.fieldLink RX0 49 "GripInspector$Lift" "clock" "I", Cond.fieldLink RX0 52 "GripInspector$Lift" "randomState" "J"]
def wsX4_undo : List Cond := .code yX4_undo cX4_undo 1 (some .int) :: ((wsX4_undo_r1 ++ wsX4_undo_r2) ++ wsX40 ++ wsX20 ++ wsX00 ++ (vx_atS RX4 74 "java/lang/IllegalStateException" ["java/lang/RuntimeException", "java/lang/Exception"]).filter goodWord)
def wsX4_gap_r1 : List Cond := [Cond.classLink RX4 124 "java/lang/IndexOutOfBoundsException", Cond.initialized "java/lang/IndexOutOfBoundsException", Cond.fieldLink RX4 10 "GripInspector" "lift" "LGripInspector$Lift;", Cond.methodLink RX4 120 yX0_has, Cond.instanceMethod yX0_has, Cond.selects RX0 yX0_has yX0_has, Cond.initialized RX0, Cond.code yX0_has cX0_has 2 (some .boolean), Cond.fieldLink RX0 27 "GripInspector$Lift" "place" "[I", Cond.methodLink RX4 180 yX0_isIn, Cond.instanceMethod yX0_isIn, Cond.selects RX0 yX0_isIn yX0_isIn, Cond.code yX0_isIn cX0_isIn 3 (some .boolean), Cond.methodLink RX4 217 yX0_gapBehind, Cond.instanceMethod yX0_gapBehind, Cond.selects RX0 yX0_gapBehind yX0_gapBehind, Cond.code yX0_gapBehind cX0_gapBehind 4 (some .int), Cond.fieldLink RX0 42 "GripInspector$Lift" "n" "I", Cond.fieldLink RX0 30 "GripInspector$Lift" "spot" "[I", Cond.methodLink RX0 105 Lib.Math.min.name, Cond.static Lib.Math.min.name, Cond.initialized "java/lang/Math", Cond.code Lib.Math.min.name Lib.Math.min.code 2 (some .int), Cond.methodLink RX0 102 yX0_slotsOn]
def wsX4_gap_r2 : List Cond := [Cond.instanceMethod yX0_slotsOn, Cond.selects RX0 yX0_slotsOn yX0_slotsOn, Cond.code yX0_slotsOn cX0_slotsOn 3 (some .int)]
def wsX4_gap : List Cond := .code yX4_gap cX4_gap 2 (some .int) :: ((wsX4_gap_r1 ++ wsX4_gap_r2) ++ wsX40 ++ wsX00 ++ (vx_atS RX4 128 "java/lang/IndexOutOfBoundsException" ["java/lang/RuntimeException", "java/lang/Exception"]).filter goodWord)
def wsX4_room_r1 : List Cond := [Cond.classLink RX4 56 "java/lang/IllegalArgumentException", Cond.initialized "java/lang/IllegalArgumentException", Cond.fieldLink RX4 10 "GripInspector" "lift" "LGripInspector$Lift;", Cond.methodLink RX4 220 yX0_roomySlots, Cond.instanceMethod yX0_roomySlots, Cond.selects RX0 yX0_roomySlots yX0_roomySlots, Cond.initialized RX0, Cond.code yX0_roomySlots cX0_roomySlots 3 (some .int), Cond.fieldLink RX0 42 "GripInspector$Lift" "n" "I", Cond.methodLink RX0 91 yX0_isRoomAt, Cond.instanceMethod yX0_isRoomAt, Cond.selects RX0 yX0_isRoomAt yX0_isRoomAt, Cond.code yX0_isRoomAt cX0_isRoomAt 3 (some .boolean), Cond.fieldLink RX0 27 "GripInspector$Lift" "place" "[I", Cond.fieldLink RX0 30 "GripInspector$Lift" "spot" "[I", Cond.fieldLink RX0 36 "GripInspector$Lift" "limits" "[I", Cond.methodLink RX0 99 yX0_distance, Cond.instanceMethod yX0_distance, Cond.selects RX0 yX0_distance yX0_distance, Cond.code yX0_distance cX0_distance 4 (some .int), Cond.methodLink RX4 223 yX0_smallestGap, Cond.instanceMethod yX0_smallestGap, Cond.selects RX0 yX0_smallestGap yX0_smallestGap, Cond.code yX0_smallestGap cX0_smallestGap 4 (some .int)]
def wsX4_room_r2 : List Cond := [Cond.methodLink RX0 110 yX0_gapBehind, Cond.instanceMethod yX0_gapBehind, Cond.selects RX0 yX0_gapBehind yX0_gapBehind, Cond.code yX0_gapBehind cX0_gapBehind 4 (some .int), Cond.methodLink RX0 105 Lib.Math.min.name, Cond.static Lib.Math.min.name, Cond.initialized "java/lang/Math", Cond.code Lib.Math.min.name Lib.Math.min.code 2 (some .int), Cond.methodLink RX0 102 yX0_slotsOn, Cond.instanceMethod yX0_slotsOn, Cond.selects RX0 yX0_slotsOn yX0_slotsOn, Cond.code yX0_slotsOn cX0_slotsOn 3 (some .int), Cond.methodLink RX4 226 yX0_capacity, Cond.instanceMethod yX0_capacity, Cond.selects RX0 yX0_capacity yX0_capacity, Cond.code yX0_capacity cX0_capacity 2 (some .int)]
def wsX4_room : List Cond := .code yX4_room cX4_room 2 (some .int) :: ((wsX4_room_r1 ++ wsX4_room_r2) ++ wsX40 ++ wsX00 ++ (vx_atS RX4 60 "java/lang/IllegalArgumentException" ["java/lang/RuntimeException", "java/lang/Exception"]).filter goodWord)
def wsX4_groups : List Cond := .code yX4_groups cX4_groups 7 (some .int) :: ([.classLink RX4 56 "java/lang/IllegalArgumentException", .initialized "java/lang/IllegalArgumentException", .fieldLink RX4 10 "GripInspector" "lift" "LGripInspector$Lift;", .methodLink RX4 231 yX0_opensGroup, .instanceMethod yX0_opensGroup, .selects RX0 yX0_opensGroup yX0_opensGroup, .initialized RX0, .code yX0_opensGroup cX0_opensGroup 3 (some .boolean), .methodLink RX0 119 yX0_areTogether, .instanceMethod yX0_areTogether, .selects RX0 yX0_areTogether yX0_areTogether, .code yX0_areTogether cX0_areTogether 4 (some .boolean), .fieldLink RX0 9 "GripInspector$Lift" "weight" "[I", .fieldLink RX0 15 "GripInspector$Lift" "cycles" "[I", .methodLink RX0 116 yX0_isGrouped, .instanceMethod yX0_isGrouped, .selects RX0 yX0_isGrouped yX0_isGrouped, .code yX0_isGrouped cX0_isGrouped 2 (some .boolean), .fieldLink RX0 27 "GripInspector$Lift" "place" "[I", .methodLink RX4 234 yX0_groupSize, .instanceMethod yX0_groupSize, .selects RX0 yX0_groupSize yX0_groupSize, .code yX0_groupSize cX0_groupSize 4 (some .int)] ++ wsX40 ++ wsX00 ++ (vx_atS RX4 60 "java/lang/IllegalArgumentException" ["java/lang/RuntimeException", "java/lang/Exception"]).filter goodWord)
def wsX4_dueAfter_r1 : List Cond := [Cond.classLink RX4 124 "java/lang/IndexOutOfBoundsException", Cond.initialized "java/lang/IndexOutOfBoundsException", Cond.fieldLink RX4 10 "GripInspector" "lift" "LGripInspector$Lift;", Cond.methodLink RX4 120 yX0_has, Cond.instanceMethod yX0_has, Cond.selects RX0 yX0_has yX0_has, Cond.initialized RX0, Cond.code yX0_has cX0_has 2 (some .boolean), Cond.fieldLink RX0 27 "GripInspector$Lift" "place" "[I", Cond.methodLink RX4 180 yX0_isIn, Cond.instanceMethod yX0_isIn, Cond.selects RX0 yX0_isIn yX0_isIn, Cond.code yX0_isIn cX0_isIn 3 (some .boolean), Cond.methodLink RX4 237 yX0_stepsUntilDue, Cond.instanceMethod yX0_stepsUntilDue, Cond.selects RX0 yX0_stepsUntilDue yX0_stepsUntilDue, Cond.code yX0_stepsUntilDue cX0_stepsUntilDue 3 (some .int), Cond.fieldLink RX0 36 "GripInspector$Lift" "limits" "[I", Cond.fieldLink RX0 15 "GripInspector$Lift" "cycles" "[I", Cond.methodLink RX0 113 Lib.Math.max.name, Cond.static Lib.Math.max.name, Cond.initialized "java/lang/Math", Cond.code Lib.Math.max.name Lib.Math.max.code 2 (some .int), Cond.fieldLink RX0 46 "GripInspector$Lift" "station" "I"]
def wsX4_dueAfter_r2 : List Cond := [Cond.fieldLink RX0 30 "GripInspector$Lift" "spot" "[I", Cond.fieldLink RX0 42 "GripInspector$Lift" "n" "I", Cond.methodLink RX0 102 yX0_slotsOn, Cond.instanceMethod yX0_slotsOn, Cond.selects RX0 yX0_slotsOn yX0_slotsOn, Cond.code yX0_slotsOn cX0_slotsOn 3 (some .int)]
def wsX4_dueAfter : List Cond := .code yX4_dueAfter cX4_dueAfter 2 (some .int) :: ((wsX4_dueAfter_r1 ++ wsX4_dueAfter_r2) ++ wsX40 ++ wsX00 ++ (vx_atS RX4 128 "java/lang/IndexOutOfBoundsException" ["java/lang/RuntimeException", "java/lang/Exception"]).filter goodWord)
def wsX4_chance : List Cond := .code yX4_chance cX4_chance 7 (some .int) :: ([.classLink RX4 56 "java/lang/IllegalArgumentException", .initialized "java/lang/IllegalArgumentException", .fieldLink RX4 10 "GripInspector" "lift" "LGripInspector$Lift;", .fieldLink RX4 114 "GripInspector$Lift" "limits" "[I"] ++ wsX40 ++ wsX00 ++ (vx_atS RX4 60 "java/lang/IllegalArgumentException" ["java/lang/RuntimeException", "java/lang/Exception"]).filter goodWord)
def wsX4_ahead_r1 : List Cond := [Cond.classLink RX4 124 "java/lang/IndexOutOfBoundsException", Cond.initialized "java/lang/IndexOutOfBoundsException", Cond.classLink RX4 56 "java/lang/IllegalArgumentException", Cond.initialized "java/lang/IllegalArgumentException", Cond.fieldLink RX4 10 "GripInspector" "lift" "LGripInspector$Lift;", Cond.fieldLink RX4 16 "GripInspector" "trial" "LGripInspector$Lift;", Cond.methodLink RX4 120 yX0_has, Cond.instanceMethod yX0_has, Cond.selects RX0 yX0_has yX0_has, Cond.initialized RX0, Cond.code yX0_has cX0_has 2 (some .boolean), Cond.fieldLink RX0 27 "GripInspector$Lift" "place" "[I", Cond.methodLink RX4 129 yX4_isGripNumber, Cond.static yX4_isGripNumber, Cond.initialized RX4, Cond.code yX4_isGripNumber cX4_isGripNumber 1 (some .boolean), Cond.methodLink RX4 94 yX0_become, Cond.instanceMethod yX0_become, Cond.selects RX0 yX0_become yX0_become, Cond.code yX0_become cX0_become 2 none, Cond.fieldLink RX0 9 "GripInspector$Lift" "weight" "[I", Cond.methodLink RX0 56 arraycopyName, Cond.native arraycopyName, Cond.static arraycopyName]
def wsX4_ahead_r2 : List Cond := [Cond.initialized "java/lang/System", Cond.fieldLink RX0 15 "GripInspector$Lift" "cycles" "[I", Cond.fieldLink RX0 18 "GripInspector$Lift" "wear" "[I", Cond.fieldLink RX0 21 "GripInspector$Lift" "pulls" "[I", Cond.fieldLink RX0 24 "GripInspector$Lift" "lastSlip" "[I", Cond.fieldLink RX0 30 "GripInspector$Lift" "spot" "[I", Cond.fieldLink RX0 33 "GripInspector$Lift" "stepsLeft" "[I", Cond.fieldLink RX0 36 "GripInspector$Lift" "limits" "[I", Cond.fieldLink RX0 42 "GripInspector$Lift" "n" "I", Cond.fieldLink RX0 46 "GripInspector$Lift" "station" "I", Cond.fieldLink RX0 49 "GripInspector$Lift" "clock" "I", Cond.fieldLink RX0 52 "GripInspector$Lift" "randomState" "J", Cond.methodLink RX4 167 yX0_advanceBy, Cond.instanceMethod yX0_advanceBy, Cond.selects RX0 yX0_advanceBy yX0_advanceBy, Cond.code yX0_advanceBy cX0_advanceBy 3 none, Cond.methodLink RX0 70 yX0_advance, Cond.instanceMethod yX0_advance, Cond.selects RX0 yX0_advance yX0_advance, Cond.code yX0_advance cX0_advance 3 (some .int), Cond.constantLong RX0 73 (6364136223846793005), Cond.constantLong RX0 75 (1442695040888963407), Cond.methodLink RX0 77 yX0_gripAt, Cond.instanceMethod yX0_gripAt]
def wsX4_ahead_r3 : List Cond := [Cond.selects RX0 yX0_gripAt yX0_gripAt, Cond.code yX0_gripAt cX0_gripAt 3 (some .int), Cond.methodLink RX0 80 yX0_pass, Cond.instanceMethod yX0_pass, Cond.selects RX0 yX0_pass yX0_pass, Cond.code yX0_pass cX0_pass 6 (some .int), Cond.methodLink RX0 84 yX0_repairAllBut, Cond.instanceMethod yX0_repairAllBut, Cond.selects RX0 yX0_repairAllBut yX0_repairAllBut, Cond.code yX0_repairAllBut cX0_repairAllBut 3 none, Cond.methodLink RX0 88 yX0_fillStation, Cond.instanceMethod yX0_fillStation, Cond.selects RX0 yX0_fillStation yX0_fillStation, Cond.code yX0_fillStation cX0_fillStation 3 (some .int), Cond.methodLink RX0 91 yX0_isRoomAt, Cond.instanceMethod yX0_isRoomAt, Cond.selects RX0 yX0_isRoomAt yX0_isRoomAt, Cond.code yX0_isRoomAt cX0_isRoomAt 3 (some .boolean), Cond.methodLink RX0 99 yX0_distance, Cond.instanceMethod yX0_distance, Cond.selects RX0 yX0_distance yX0_distance, Cond.code yX0_distance cX0_distance 4 (some .int), Cond.methodLink RX0 95 yX0_hang, Cond.instanceMethod yX0_hang]
def wsX4_ahead_r4 : List Cond := [Cond.selects RX0 yX0_hang yX0_hang, Cond.code yX0_hang cX0_hang 3 none, Cond.methodLink RX4 134 yX0_number, Cond.instanceMethod yX0_number, Cond.selects RX0 yX0_number yX0_number, Cond.code yX0_number cX0_number 3 (some .int)]
def wsX4_ahead : List Cond := .code yX4_ahead cX4_ahead 4 (some .int) :: ((wsX4_ahead_r1 ++ (wsX4_ahead_r2 ++ (wsX4_ahead_r3 ++ wsX4_ahead_r4))) ++ wsX40 ++ wsX00 ++ (vx_atS RX4 128 "java/lang/IndexOutOfBoundsException" ["java/lang/RuntimeException", "java/lang/Exception"]).filter goodWord ++ (vx_atS RX4 60 "java/lang/IllegalArgumentException" ["java/lang/RuntimeException", "java/lang/Exception"]).filter goodWord)
def wsX4_happens_r1 : List Cond := [Cond.classLink RX4 56 "java/lang/IllegalArgumentException", Cond.initialized "java/lang/IllegalArgumentException", Cond.fieldLink RX4 16 "GripInspector" "trial" "LGripInspector$Lift;", Cond.fieldLink RX4 10 "GripInspector" "lift" "LGripInspector$Lift;", Cond.methodLink RX4 159 yX4_isStepNumber, Cond.static yX4_isStepNumber, Cond.initialized RX4, Cond.code yX4_isStepNumber cX4_isStepNumber 1 (some .boolean), Cond.methodLink RX4 94 yX0_become, Cond.instanceMethod yX0_become, Cond.selects RX0 yX0_become yX0_become, Cond.initialized RX0, Cond.code yX0_become cX0_become 2 none, Cond.fieldLink RX0 9 "GripInspector$Lift" "weight" "[I", Cond.methodLink RX0 56 arraycopyName, Cond.native arraycopyName, Cond.static arraycopyName, Cond.initialized "java/lang/System", Cond.fieldLink RX0 15 "GripInspector$Lift" "cycles" "[I", Cond.fieldLink RX0 18 "GripInspector$Lift" "wear" "[I", Cond.fieldLink RX0 21 "GripInspector$Lift" "pulls" "[I", Cond.fieldLink RX0 24 "GripInspector$Lift" "lastSlip" "[I", Cond.fieldLink RX0 27 "GripInspector$Lift" "place" "[I", Cond.fieldLink RX0 30 "GripInspector$Lift" "spot" "[I"]
def wsX4_happens_r2 : List Cond := [Cond.fieldLink RX0 33 "GripInspector$Lift" "stepsLeft" "[I", Cond.fieldLink RX0 36 "GripInspector$Lift" "limits" "[I", Cond.fieldLink RX0 42 "GripInspector$Lift" "n" "I", Cond.fieldLink RX0 46 "GripInspector$Lift" "station" "I", Cond.fieldLink RX0 49 "GripInspector$Lift" "clock" "I", Cond.fieldLink RX0 52 "GripInspector$Lift" "randomState" "J", Cond.methodLink RX4 246 yX0_advance, Cond.instanceMethod yX0_advance, Cond.selects RX0 yX0_advance yX0_advance, Cond.code yX0_advance cX0_advance 3 (some .int), Cond.constantLong RX0 73 (6364136223846793005), Cond.constantLong RX0 75 (1442695040888963407), Cond.methodLink RX0 77 yX0_gripAt, Cond.instanceMethod yX0_gripAt, Cond.selects RX0 yX0_gripAt yX0_gripAt, Cond.code yX0_gripAt cX0_gripAt 3 (some .int), Cond.methodLink RX0 80 yX0_pass, Cond.instanceMethod yX0_pass, Cond.selects RX0 yX0_pass yX0_pass, Cond.code yX0_pass cX0_pass 6 (some .int), Cond.methodLink RX0 84 yX0_repairAllBut, Cond.instanceMethod yX0_repairAllBut, Cond.selects RX0 yX0_repairAllBut yX0_repairAllBut, Cond.code yX0_repairAllBut cX0_repairAllBut 3 none]
def wsX4_happens_r3 : List Cond := [Cond.methodLink RX0 88 yX0_fillStation, Cond.instanceMethod yX0_fillStation, Cond.selects RX0 yX0_fillStation yX0_fillStation, Cond.code yX0_fillStation cX0_fillStation 3 (some .int), Cond.methodLink RX0 91 yX0_isRoomAt, Cond.instanceMethod yX0_isRoomAt, Cond.selects RX0 yX0_isRoomAt yX0_isRoomAt, Cond.code yX0_isRoomAt cX0_isRoomAt 3 (some .boolean), Cond.methodLink RX0 99 yX0_distance, Cond.instanceMethod yX0_distance, Cond.selects RX0 yX0_distance yX0_distance, Cond.code yX0_distance cX0_distance 4 (some .int), Cond.methodLink RX0 95 yX0_hang, Cond.instanceMethod yX0_hang, Cond.selects RX0 yX0_hang yX0_hang, Cond.code yX0_hang cX0_hang 3 none]
def wsX4_happens : List Cond := .code yX4_happens cX4_happens 5 (some .int) :: ((wsX4_happens_r1 ++ (wsX4_happens_r2 ++ wsX4_happens_r3)) ++ wsX40 ++ wsX00 ++ (vx_atS RX4 60 "java/lang/IllegalArgumentException" ["java/lang/RuntimeException", "java/lang/Exception"]).filter goodWord)
def wsX4_isSlipFree_r1 : List Cond := [Cond.fieldLink RX4 16 "GripInspector" "trial" "LGripInspector$Lift;", Cond.fieldLink RX4 10 "GripInspector" "lift" "LGripInspector$Lift;", Cond.fieldLink RX4 114 "GripInspector$Lift" "limits" "[I", Cond.methodLink RX4 94 yX0_become, Cond.instanceMethod yX0_become, Cond.selects RX0 yX0_become yX0_become, Cond.initialized RX0, Cond.code yX0_become cX0_become 2 none, Cond.fieldLink RX0 9 "GripInspector$Lift" "weight" "[I", Cond.methodLink RX0 56 arraycopyName, Cond.native arraycopyName, Cond.static arraycopyName, Cond.initialized "java/lang/System", Cond.fieldLink RX0 15 "GripInspector$Lift" "cycles" "[I", Cond.fieldLink RX0 18 "GripInspector$Lift" "wear" "[I", Cond.fieldLink RX0 21 "GripInspector$Lift" "pulls" "[I", Cond.fieldLink RX0 24 "GripInspector$Lift" "lastSlip" "[I", Cond.fieldLink RX0 27 "GripInspector$Lift" "place" "[I", Cond.fieldLink RX0 30 "GripInspector$Lift" "spot" "[I", Cond.fieldLink RX0 33 "GripInspector$Lift" "stepsLeft" "[I", Cond.fieldLink RX0 36 "GripInspector$Lift" "limits" "[I", Cond.fieldLink RX0 42 "GripInspector$Lift" "n" "I", Cond.fieldLink RX0 46 "GripInspector$Lift" "station" "I", Cond.fieldLink RX0 49 "GripInspector$Lift" "clock" "I"]
def wsX4_isSlipFree_r2 : List Cond := [Cond.fieldLink RX0 52 "GripInspector$Lift" "randomState" "J", Cond.methodLink RX4 246 yX0_advance, Cond.instanceMethod yX0_advance, Cond.selects RX0 yX0_advance yX0_advance, Cond.code yX0_advance cX0_advance 3 (some .int), Cond.constantLong RX0 73 (6364136223846793005), Cond.constantLong RX0 75 (1442695040888963407), Cond.methodLink RX0 77 yX0_gripAt, Cond.instanceMethod yX0_gripAt, Cond.selects RX0 yX0_gripAt yX0_gripAt, Cond.code yX0_gripAt cX0_gripAt 3 (some .int), Cond.methodLink RX0 80 yX0_pass, Cond.instanceMethod yX0_pass, Cond.selects RX0 yX0_pass yX0_pass, Cond.code yX0_pass cX0_pass 6 (some .int), Cond.methodLink RX0 84 yX0_repairAllBut, Cond.instanceMethod yX0_repairAllBut, Cond.selects RX0 yX0_repairAllBut yX0_repairAllBut, Cond.code yX0_repairAllBut cX0_repairAllBut 3 none, Cond.methodLink RX0 88 yX0_fillStation, Cond.instanceMethod yX0_fillStation, Cond.selects RX0 yX0_fillStation yX0_fillStation, Cond.code yX0_fillStation cX0_fillStation 3 (some .int), Cond.methodLink RX0 91 yX0_isRoomAt]
def wsX4_isSlipFree_r3 : List Cond := [Cond.instanceMethod yX0_isRoomAt, Cond.selects RX0 yX0_isRoomAt yX0_isRoomAt, Cond.code yX0_isRoomAt cX0_isRoomAt 3 (some .boolean), Cond.methodLink RX0 99 yX0_distance, Cond.instanceMethod yX0_distance, Cond.selects RX0 yX0_distance yX0_distance, Cond.code yX0_distance cX0_distance 4 (some .int), Cond.methodLink RX0 95 yX0_hang, Cond.instanceMethod yX0_hang, Cond.selects RX0 yX0_hang yX0_hang, Cond.code yX0_hang cX0_hang 3 none]
def wsX4_isSlipFree : List Cond := .code yX4_isSlipFree cX4_isSlipFree 4 (some .boolean) :: ((wsX4_isSlipFree_r1 ++ (wsX4_isSlipFree_r2 ++ wsX4_isSlipFree_r3)) ++ wsX40 ++ wsX00)
def wsX4_bestLimit_r1 : List Cond := [Cond.classLink RX4 56 "java/lang/IllegalArgumentException", Cond.initialized "java/lang/IllegalArgumentException", Cond.fieldLink RX4 249 "GripInspector" "GREATEST_LIMITS" "[I", Cond.methodLink RX4 159 yX4_isStepNumber, Cond.static yX4_isStepNumber, Cond.initialized RX4, Cond.code yX4_isStepNumber cX4_isStepNumber 1 (some .boolean), Cond.methodLink RX4 252 yX4_isSlipFree, Cond.instanceMethod yX4_isSlipFree, Cond.selects RX4 yX4_isSlipFree yX4_isSlipFree, Cond.code yX4_isSlipFree cX4_isSlipFree 4 (some .boolean), Cond.fieldLink RX4 16 "GripInspector" "trial" "LGripInspector$Lift;", Cond.fieldLink RX4 10 "GripInspector" "lift" "LGripInspector$Lift;", Cond.fieldLink RX4 114 "GripInspector$Lift" "limits" "[I", Cond.methodLink RX4 94 yX0_become, Cond.instanceMethod yX0_become, Cond.selects RX0 yX0_become yX0_become, Cond.initialized RX0, Cond.code yX0_become cX0_become 2 none, Cond.fieldLink RX0 9 "GripInspector$Lift" "weight" "[I", Cond.methodLink RX0 56 arraycopyName, Cond.native arraycopyName, Cond.static arraycopyName, Cond.initialized "java/lang/System"]
def wsX4_bestLimit_r2 : List Cond := [Cond.fieldLink RX0 15 "GripInspector$Lift" "cycles" "[I", Cond.fieldLink RX0 18 "GripInspector$Lift" "wear" "[I", Cond.fieldLink RX0 21 "GripInspector$Lift" "pulls" "[I", Cond.fieldLink RX0 24 "GripInspector$Lift" "lastSlip" "[I", Cond.fieldLink RX0 27 "GripInspector$Lift" "place" "[I", Cond.fieldLink RX0 30 "GripInspector$Lift" "spot" "[I", Cond.fieldLink RX0 33 "GripInspector$Lift" "stepsLeft" "[I", Cond.fieldLink RX0 36 "GripInspector$Lift" "limits" "[I", Cond.fieldLink RX0 42 "GripInspector$Lift" "n" "I", Cond.fieldLink RX0 46 "GripInspector$Lift" "station" "I", Cond.fieldLink RX0 49 "GripInspector$Lift" "clock" "I", Cond.fieldLink RX0 52 "GripInspector$Lift" "randomState" "J", Cond.methodLink RX4 246 yX0_advance, Cond.instanceMethod yX0_advance, Cond.selects RX0 yX0_advance yX0_advance, Cond.code yX0_advance cX0_advance 3 (some .int), Cond.constantLong RX0 73 (6364136223846793005), Cond.constantLong RX0 75 (1442695040888963407), Cond.methodLink RX0 77 yX0_gripAt, Cond.instanceMethod yX0_gripAt, Cond.selects RX0 yX0_gripAt yX0_gripAt, Cond.code yX0_gripAt cX0_gripAt 3 (some .int), Cond.methodLink RX0 80 yX0_pass, Cond.instanceMethod yX0_pass]
def wsX4_bestLimit_r3 : List Cond := [Cond.selects RX0 yX0_pass yX0_pass, Cond.code yX0_pass cX0_pass 6 (some .int), Cond.methodLink RX0 84 yX0_repairAllBut, Cond.instanceMethod yX0_repairAllBut, Cond.selects RX0 yX0_repairAllBut yX0_repairAllBut, Cond.code yX0_repairAllBut cX0_repairAllBut 3 none, Cond.methodLink RX0 88 yX0_fillStation, Cond.instanceMethod yX0_fillStation, Cond.selects RX0 yX0_fillStation yX0_fillStation, Cond.code yX0_fillStation cX0_fillStation 3 (some .int), Cond.methodLink RX0 91 yX0_isRoomAt, Cond.instanceMethod yX0_isRoomAt, Cond.selects RX0 yX0_isRoomAt yX0_isRoomAt, Cond.code yX0_isRoomAt cX0_isRoomAt 3 (some .boolean), Cond.methodLink RX0 99 yX0_distance, Cond.instanceMethod yX0_distance, Cond.selects RX0 yX0_distance yX0_distance, Cond.code yX0_distance cX0_distance 4 (some .int), Cond.methodLink RX0 95 yX0_hang, Cond.instanceMethod yX0_hang, Cond.selects RX0 yX0_hang yX0_hang, Cond.code yX0_hang cX0_hang 3 none]
def wsX4_bestLimit : List Cond := .code yX4_bestLimit cX4_bestLimit 3 (some .int) :: ((wsX4_bestLimit_r1 ++ (wsX4_bestLimit_r2 ++ wsX4_bestLimit_r3)) ++ wsX40 ++ wsX00 ++ (vx_atS RX4 60 "java/lang/IllegalArgumentException" ["java/lang/RuntimeException", "java/lang/Exception"]).filter goodWord)
def wsX4_emptyAfter_r1 : List Cond := [Cond.fieldLink RX4 16 "GripInspector" "trial" "LGripInspector$Lift;", Cond.fieldLink RX4 10 "GripInspector" "lift" "LGripInspector$Lift;", Cond.methodLink RX4 94 yX0_become, Cond.instanceMethod yX0_become, Cond.selects RX0 yX0_become yX0_become, Cond.initialized RX0, Cond.code yX0_become cX0_become 2 none, Cond.fieldLink RX0 9 "GripInspector$Lift" "weight" "[I", Cond.methodLink RX0 56 arraycopyName, Cond.native arraycopyName, Cond.static arraycopyName, Cond.initialized "java/lang/System", Cond.fieldLink RX0 15 "GripInspector$Lift" "cycles" "[I", Cond.fieldLink RX0 18 "GripInspector$Lift" "wear" "[I", Cond.fieldLink RX0 21 "GripInspector$Lift" "pulls" "[I", Cond.fieldLink RX0 24 "GripInspector$Lift" "lastSlip" "[I", Cond.fieldLink RX0 27 "GripInspector$Lift" "place" "[I", Cond.fieldLink RX0 30 "GripInspector$Lift" "spot" "[I", Cond.fieldLink RX0 33 "GripInspector$Lift" "stepsLeft" "[I", Cond.fieldLink RX0 36 "GripInspector$Lift" "limits" "[I", Cond.fieldLink RX0 42 "GripInspector$Lift" "n" "I", Cond.fieldLink RX0 46 "GripInspector$Lift" "station" "I", Cond.fieldLink RX0 49 "GripInspector$Lift" "clock" "I", Cond.fieldLink RX0 52 "GripInspector$Lift" "randomState" "J"]
def wsX4_emptyAfter_r2 : List Cond := [Cond.methodLink RX4 104 yX0_count, Cond.instanceMethod yX0_count, Cond.selects RX0 yX0_count yX0_count, Cond.code yX0_count cX0_count 4 (some .int), Cond.methodLink RX4 246 yX0_advance, Cond.instanceMethod yX0_advance, Cond.selects RX0 yX0_advance yX0_advance, Cond.code yX0_advance cX0_advance 3 (some .int), Cond.constantLong RX0 73 (6364136223846793005), Cond.constantLong RX0 75 (1442695040888963407), Cond.methodLink RX0 77 yX0_gripAt, Cond.instanceMethod yX0_gripAt, Cond.selects RX0 yX0_gripAt yX0_gripAt, Cond.code yX0_gripAt cX0_gripAt 3 (some .int), Cond.methodLink RX0 80 yX0_pass, Cond.instanceMethod yX0_pass, Cond.selects RX0 yX0_pass yX0_pass, Cond.code yX0_pass cX0_pass 6 (some .int), Cond.methodLink RX0 84 yX0_repairAllBut, Cond.instanceMethod yX0_repairAllBut, Cond.selects RX0 yX0_repairAllBut yX0_repairAllBut, Cond.code yX0_repairAllBut cX0_repairAllBut 3 none, Cond.methodLink RX0 88 yX0_fillStation, Cond.instanceMethod yX0_fillStation]
def wsX4_emptyAfter_r3 : List Cond := [Cond.selects RX0 yX0_fillStation yX0_fillStation, Cond.code yX0_fillStation cX0_fillStation 3 (some .int), Cond.methodLink RX0 91 yX0_isRoomAt, Cond.instanceMethod yX0_isRoomAt, Cond.selects RX0 yX0_isRoomAt yX0_isRoomAt, Cond.code yX0_isRoomAt cX0_isRoomAt 3 (some .boolean), Cond.methodLink RX0 99 yX0_distance, Cond.instanceMethod yX0_distance, Cond.selects RX0 yX0_distance yX0_distance, Cond.code yX0_distance cX0_distance 4 (some .int), Cond.methodLink RX0 95 yX0_hang, Cond.instanceMethod yX0_hang, Cond.selects RX0 yX0_hang yX0_hang, Cond.code yX0_hang cX0_hang 3 none]
def wsX4_emptyAfter : List Cond := .code yX4_emptyAfter cX4_emptyAfter 2 (some .int) :: ((wsX4_emptyAfter_r1 ++ (wsX4_emptyAfter_r2 ++ wsX4_emptyAfter_r3)) ++ wsX40 ++ wsX00)
def wsX4_groupPower : List Cond := .code yX4_groupPower cX4_groupPower 4 (some .long) :: ([.constantLong RX4 280 (100000)])
def wsX4_groupAt : List Cond := .code yX4_groupAt cX4_groupAt 6 (some .int) :: ([.constantLong RX4 280 (100000)])
def wsX4_triesPutting_r1 : List Cond := [Cond.fieldLink RX4 16 "GripInspector" "trial" "LGripInspector$Lift;", Cond.methodLink RX4 120 yX0_has, Cond.instanceMethod yX0_has, Cond.selects RX0 yX0_has yX0_has, Cond.initialized RX0, Cond.code yX0_has cX0_has 2 (some .boolean), Cond.fieldLink RX0 27 "GripInspector$Lift" "place" "[I", Cond.methodLink RX4 138 yX0_hasSlot, Cond.instanceMethod yX0_hasSlot, Cond.selects RX0 yX0_hasSlot yX0_hasSlot, Cond.code yX0_hasSlot cX0_hasSlot 2 (some .boolean), Cond.fieldLink RX0 42 "GripInspector$Lift" "n" "I", Cond.methodLink RX4 180 yX0_isIn, Cond.instanceMethod yX0_isIn, Cond.selects RX0 yX0_isIn yX0_isIn, Cond.code yX0_isIn cX0_isIn 3 (some .boolean), Cond.methodLink RX4 184 yX0_isRoomAt, Cond.instanceMethod yX0_isRoomAt, Cond.selects RX0 yX0_isRoomAt yX0_isRoomAt, Cond.code yX0_isRoomAt cX0_isRoomAt 3 (some .boolean), Cond.fieldLink RX0 30 "GripInspector$Lift" "spot" "[I", Cond.fieldLink RX0 36 "GripInspector$Lift" "limits" "[I", Cond.methodLink RX0 99 yX0_distance, Cond.instanceMethod yX0_distance]
def wsX4_triesPutting_r2 : List Cond := [Cond.selects RX0 yX0_distance yX0_distance, Cond.code yX0_distance cX0_distance 4 (some .int), Cond.methodLink RX4 189 yX0_hang, Cond.instanceMethod yX0_hang, Cond.selects RX0 yX0_hang yX0_hang, Cond.code yX0_hang cX0_hang 3 none]
def wsX4_triesPutting : List Cond := .code yX4_triesPutting cX4_triesPutting 3 (some .boolean) :: ((wsX4_triesPutting_r1 ++ wsX4_triesPutting_r2) ++ wsX40 ++ wsX00)
def wsX4_triesTaking : List Cond := .code yX4_triesTaking cX4_triesTaking 2 (some .boolean) :: ([.fieldLink RX4 16 "GripInspector" "trial" "LGripInspector$Lift;", .methodLink RX4 120 yX0_has, .instanceMethod yX0_has, .selects RX0 yX0_has yX0_has, .initialized RX0, .code yX0_has cX0_has 2 (some .boolean), .fieldLink RX0 27 "GripInspector$Lift" "place" "[I", .methodLink RX4 180 yX0_isIn, .instanceMethod yX0_isIn, .selects RX0 yX0_isIn yX0_isIn, .code yX0_isIn cX0_isIn 3 (some .boolean), .methodLink RX4 198 yX0_move, .instanceMethod yX0_move, .selects RX0 yX0_move yX0_move, .code yX0_move cX0_move 3 none] ++ wsX40 ++ wsX00)
def wsX4_triesLimit : List Cond := .code yX4_triesLimit cX4_triesLimit 3 (some .boolean) :: ([.fieldLink RX4 16 "GripInspector" "trial" "LGripInspector$Lift;", .fieldLink RX4 114 "GripInspector$Lift" "limits" "[I", .methodLink RX4 206 yX4_isLimit, .static yX4_isLimit, .initialized RX4, .code yX4_isLimit cX4_isLimit 2 (some .boolean), .fieldLink RX4 249 "GripInspector" "GREATEST_LIMITS" "[I"] ++ wsX40 ++ wsX00)
def wsX4_obeys_r1 : List Cond := [Cond.fieldLink RX4 16 "GripInspector" "trial" "LGripInspector$Lift;", Cond.fieldLink RX4 291 "GripInspector$Lift" "cycles" "[I", Cond.fieldLink RX4 195 "GripInspector$Lift" "spot" "[I", Cond.methodLink RX4 159 yX4_isStepNumber, Cond.static yX4_isStepNumber, Cond.initialized RX4, Cond.code yX4_isStepNumber cX4_isStepNumber 1 (some .boolean), Cond.methodLink RX4 167 yX0_advanceBy, Cond.instanceMethod yX0_advanceBy, Cond.selects RX0 yX0_advanceBy yX0_advanceBy, Cond.initialized RX0, Cond.code yX0_advanceBy cX0_advanceBy 3 none, Cond.methodLink RX0 70 yX0_advance, Cond.instanceMethod yX0_advance, Cond.selects RX0 yX0_advance yX0_advance, Cond.code yX0_advance cX0_advance 3 (some .int), Cond.fieldLink RX0 46 "GripInspector$Lift" "station" "I", Cond.fieldLink RX0 42 "GripInspector$Lift" "n" "I", Cond.fieldLink RX0 52 "GripInspector$Lift" "randomState" "J", Cond.constantLong RX0 73 (6364136223846793005), Cond.constantLong RX0 75 (1442695040888963407), Cond.fieldLink RX0 49 "GripInspector$Lift" "clock" "I", Cond.methodLink RX0 77 yX0_gripAt, Cond.instanceMethod yX0_gripAt]
def wsX4_obeys_r2 : List Cond := [Cond.selects RX0 yX0_gripAt yX0_gripAt, Cond.code yX0_gripAt cX0_gripAt 3 (some .int), Cond.fieldLink RX0 27 "GripInspector$Lift" "place" "[I", Cond.fieldLink RX0 30 "GripInspector$Lift" "spot" "[I", Cond.methodLink RX0 80 yX0_pass, Cond.instanceMethod yX0_pass, Cond.selects RX0 yX0_pass yX0_pass, Cond.code yX0_pass cX0_pass 6 (some .int), Cond.fieldLink RX0 15 "GripInspector$Lift" "cycles" "[I", Cond.fieldLink RX0 18 "GripInspector$Lift" "wear" "[I", Cond.fieldLink RX0 9 "GripInspector$Lift" "weight" "[I", Cond.fieldLink RX0 36 "GripInspector$Lift" "limits" "[I", Cond.fieldLink RX0 21 "GripInspector$Lift" "pulls" "[I", Cond.fieldLink RX0 24 "GripInspector$Lift" "lastSlip" "[I", Cond.fieldLink RX0 33 "GripInspector$Lift" "stepsLeft" "[I", Cond.methodLink RX0 84 yX0_repairAllBut, Cond.instanceMethod yX0_repairAllBut, Cond.selects RX0 yX0_repairAllBut yX0_repairAllBut, Cond.code yX0_repairAllBut cX0_repairAllBut 3 none, Cond.methodLink RX0 88 yX0_fillStation, Cond.instanceMethod yX0_fillStation, Cond.selects RX0 yX0_fillStation yX0_fillStation, Cond.code yX0_fillStation cX0_fillStation 3 (some .int), Cond.methodLink RX0 91 yX0_isRoomAt]
def wsX4_obeys_r3 : List Cond := [Cond.instanceMethod yX0_isRoomAt, Cond.selects RX0 yX0_isRoomAt yX0_isRoomAt, Cond.code yX0_isRoomAt cX0_isRoomAt 3 (some .boolean), Cond.methodLink RX0 99 yX0_distance, Cond.instanceMethod yX0_distance, Cond.selects RX0 yX0_distance yX0_distance, Cond.code yX0_distance cX0_distance 4 (some .int), Cond.methodLink RX0 95 yX0_hang, Cond.instanceMethod yX0_hang, Cond.selects RX0 yX0_hang yX0_hang, Cond.code yX0_hang cX0_hang 3 none, Cond.methodLink RX4 282 yX4_triesPutting, Cond.instanceMethod yX4_triesPutting, Cond.selects RX4 yX4_triesPutting yX4_triesPutting, Cond.code yX4_triesPutting cX4_triesPutting 3 (some .boolean), Cond.methodLink RX4 120 yX0_has, Cond.instanceMethod yX0_has, Cond.selects RX0 yX0_has yX0_has, Cond.code yX0_has cX0_has 2 (some .boolean), Cond.methodLink RX4 138 yX0_hasSlot, Cond.instanceMethod yX0_hasSlot, Cond.selects RX0 yX0_hasSlot yX0_hasSlot, Cond.code yX0_hasSlot cX0_hasSlot 2 (some .boolean), Cond.methodLink RX4 180 yX0_isIn]
def wsX4_obeys_r4 : List Cond := [Cond.instanceMethod yX0_isIn, Cond.selects RX0 yX0_isIn yX0_isIn, Cond.code yX0_isIn cX0_isIn 3 (some .boolean), Cond.methodLink RX4 184 yX0_isRoomAt, Cond.methodLink RX4 189 yX0_hang, Cond.methodLink RX4 285 yX4_triesTaking, Cond.instanceMethod yX4_triesTaking, Cond.selects RX4 yX4_triesTaking yX4_triesTaking, Cond.code yX4_triesTaking cX4_triesTaking 2 (some .boolean), Cond.methodLink RX4 198 yX0_move, Cond.instanceMethod yX0_move, Cond.selects RX0 yX0_move yX0_move, Cond.code yX0_move cX0_move 3 none, Cond.methodLink RX4 288 yX4_triesLimit, Cond.instanceMethod yX4_triesLimit, Cond.selects RX4 yX4_triesLimit yX4_triesLimit, Cond.code yX4_triesLimit cX4_triesLimit 3 (some .boolean), Cond.fieldLink RX4 114 "GripInspector$Lift" "limits" "[I", Cond.methodLink RX4 206 yX4_isLimit, Cond.static yX4_isLimit, Cond.code yX4_isLimit cX4_isLimit 2 (some .boolean), Cond.fieldLink RX4 249 "GripInspector" "GREATEST_LIMITS" "[I", Cond.methodLink RX4 104 yX0_count, Cond.instanceMethod yX0_count]
def wsX4_obeys_r5 : List Cond := [Cond.selects RX0 yX0_count yX0_count, Cond.code yX0_count cX0_count 4 (some .int)]
def wsX4_obeys : List Cond := .code yX4_obeys cX4_obeys 4 (some .boolean) :: ((wsX4_obeys_r1 ++ (wsX4_obeys_r2 ++ (wsX4_obeys_r3 ++ (wsX4_obeys_r4 ++ wsX4_obeys_r5)))) ++ wsX40 ++ wsX00)
def wsX4_runScript_r1 : List Cond := [Cond.classLink RX4 56 "java/lang/IllegalArgumentException", Cond.initialized "java/lang/IllegalArgumentException", Cond.fieldLink RX4 16 "GripInspector" "trial" "LGripInspector$Lift;", Cond.fieldLink RX4 10 "GripInspector" "lift" "LGripInspector$Lift;", Cond.methodLink RX4 257 yX4_groupPower, Cond.static yX4_groupPower, Cond.initialized RX4, Cond.code yX4_groupPower cX4_groupPower 4 (some .long), Cond.constantLong RX4 280 (100000), Cond.methodLink RX4 94 yX0_become, Cond.instanceMethod yX0_become, Cond.selects RX0 yX0_become yX0_become, Cond.initialized RX0, Cond.code yX0_become cX0_become 2 none, Cond.fieldLink RX0 9 "GripInspector$Lift" "weight" "[I", Cond.methodLink RX0 56 arraycopyName, Cond.native arraycopyName, Cond.static arraycopyName, Cond.initialized "java/lang/System", Cond.fieldLink RX0 15 "GripInspector$Lift" "cycles" "[I", Cond.fieldLink RX0 18 "GripInspector$Lift" "wear" "[I", Cond.fieldLink RX0 21 "GripInspector$Lift" "pulls" "[I", Cond.fieldLink RX0 24 "GripInspector$Lift" "lastSlip" "[I", Cond.fieldLink RX0 27 "GripInspector$Lift" "place" "[I"]
def wsX4_runScript_r2 : List Cond := [Cond.fieldLink RX0 30 "GripInspector$Lift" "spot" "[I", Cond.fieldLink RX0 33 "GripInspector$Lift" "stepsLeft" "[I", Cond.fieldLink RX0 36 "GripInspector$Lift" "limits" "[I", Cond.fieldLink RX0 42 "GripInspector$Lift" "n" "I", Cond.fieldLink RX0 46 "GripInspector$Lift" "station" "I", Cond.fieldLink RX0 49 "GripInspector$Lift" "clock" "I", Cond.fieldLink RX0 52 "GripInspector$Lift" "randomState" "J", Cond.methodLink RX4 263 yX4_groupAt, Cond.static yX4_groupAt, Cond.code yX4_groupAt cX4_groupAt 6 (some .int), Cond.methodLink RX4 267 yX4_obeys, Cond.instanceMethod yX4_obeys, Cond.selects RX4 yX4_obeys yX4_obeys, Cond.code yX4_obeys cX4_obeys 4 (some .boolean), Cond.fieldLink RX4 291 "GripInspector$Lift" "cycles" "[I", Cond.fieldLink RX4 195 "GripInspector$Lift" "spot" "[I", Cond.methodLink RX4 159 yX4_isStepNumber, Cond.static yX4_isStepNumber, Cond.code yX4_isStepNumber cX4_isStepNumber 1 (some .boolean), Cond.methodLink RX4 167 yX0_advanceBy, Cond.instanceMethod yX0_advanceBy, Cond.selects RX0 yX0_advanceBy yX0_advanceBy, Cond.code yX0_advanceBy cX0_advanceBy 3 none, Cond.methodLink RX0 70 yX0_advance]
def wsX4_runScript_r3 : List Cond := [Cond.instanceMethod yX0_advance, Cond.selects RX0 yX0_advance yX0_advance, Cond.code yX0_advance cX0_advance 3 (some .int), Cond.constantLong RX0 73 (6364136223846793005), Cond.constantLong RX0 75 (1442695040888963407), Cond.methodLink RX0 77 yX0_gripAt, Cond.instanceMethod yX0_gripAt, Cond.selects RX0 yX0_gripAt yX0_gripAt, Cond.code yX0_gripAt cX0_gripAt 3 (some .int), Cond.methodLink RX0 80 yX0_pass, Cond.instanceMethod yX0_pass, Cond.selects RX0 yX0_pass yX0_pass, Cond.code yX0_pass cX0_pass 6 (some .int), Cond.methodLink RX0 84 yX0_repairAllBut, Cond.instanceMethod yX0_repairAllBut, Cond.selects RX0 yX0_repairAllBut yX0_repairAllBut, Cond.code yX0_repairAllBut cX0_repairAllBut 3 none, Cond.methodLink RX0 88 yX0_fillStation, Cond.instanceMethod yX0_fillStation, Cond.selects RX0 yX0_fillStation yX0_fillStation, Cond.code yX0_fillStation cX0_fillStation 3 (some .int), Cond.methodLink RX0 91 yX0_isRoomAt, Cond.instanceMethod yX0_isRoomAt, Cond.selects RX0 yX0_isRoomAt yX0_isRoomAt]
def wsX4_runScript_r4 : List Cond := [Cond.code yX0_isRoomAt cX0_isRoomAt 3 (some .boolean), Cond.methodLink RX0 99 yX0_distance, Cond.instanceMethod yX0_distance, Cond.selects RX0 yX0_distance yX0_distance, Cond.code yX0_distance cX0_distance 4 (some .int), Cond.methodLink RX0 95 yX0_hang, Cond.instanceMethod yX0_hang, Cond.selects RX0 yX0_hang yX0_hang, Cond.code yX0_hang cX0_hang 3 none, Cond.methodLink RX4 282 yX4_triesPutting, Cond.instanceMethod yX4_triesPutting, Cond.selects RX4 yX4_triesPutting yX4_triesPutting, Cond.code yX4_triesPutting cX4_triesPutting 3 (some .boolean), Cond.methodLink RX4 120 yX0_has, Cond.instanceMethod yX0_has, Cond.selects RX0 yX0_has yX0_has, Cond.code yX0_has cX0_has 2 (some .boolean), Cond.methodLink RX4 138 yX0_hasSlot, Cond.instanceMethod yX0_hasSlot, Cond.selects RX0 yX0_hasSlot yX0_hasSlot, Cond.code yX0_hasSlot cX0_hasSlot 2 (some .boolean), Cond.methodLink RX4 180 yX0_isIn, Cond.instanceMethod yX0_isIn, Cond.selects RX0 yX0_isIn yX0_isIn]
def wsX4_runScript_r5 : List Cond := [Cond.code yX0_isIn cX0_isIn 3 (some .boolean), Cond.methodLink RX4 184 yX0_isRoomAt, Cond.methodLink RX4 189 yX0_hang, Cond.methodLink RX4 285 yX4_triesTaking, Cond.instanceMethod yX4_triesTaking, Cond.selects RX4 yX4_triesTaking yX4_triesTaking, Cond.code yX4_triesTaking cX4_triesTaking 2 (some .boolean), Cond.methodLink RX4 198 yX0_move, Cond.instanceMethod yX0_move, Cond.selects RX0 yX0_move yX0_move, Cond.code yX0_move cX0_move 3 none, Cond.methodLink RX4 288 yX4_triesLimit, Cond.instanceMethod yX4_triesLimit, Cond.selects RX4 yX4_triesLimit yX4_triesLimit, Cond.code yX4_triesLimit cX4_triesLimit 3 (some .boolean), Cond.fieldLink RX4 114 "GripInspector$Lift" "limits" "[I", Cond.methodLink RX4 206 yX4_isLimit, Cond.static yX4_isLimit, Cond.code yX4_isLimit cX4_isLimit 2 (some .boolean), Cond.fieldLink RX4 249 "GripInspector" "GREATEST_LIMITS" "[I", Cond.methodLink RX4 104 yX0_count, Cond.instanceMethod yX0_count, Cond.selects RX0 yX0_count yX0_count, Cond.code yX0_count cX0_count 4 (some .int)]
def wsX4_runScript : List Cond := .code yX4_runScript cX4_runScript 5 (some .int) :: ((wsX4_runScript_r1 ++ (wsX4_runScript_r2 ++ (wsX4_runScript_r3 ++ (wsX4_runScript_r4 ++ wsX4_runScript_r5)))) ++ wsX40 ++ wsX00 ++ (vx_atS RX4 60 "java/lang/IllegalArgumentException" ["java/lang/RuntimeException", "java/lang/Exception"]).filter goodWord)
def wsX4_simulate_r1 : List Cond := [Cond.classLink RX4 56 "java/lang/IllegalArgumentException", Cond.initialized "java/lang/IllegalArgumentException", Cond.fieldLink RX4 16 "GripInspector" "trial" "LGripInspector$Lift;", Cond.fieldLink RX4 10 "GripInspector" "lift" "LGripInspector$Lift;", Cond.fieldLink RX4 146 "GripInspector$Lift" "randomState" "J", Cond.methodLink RX4 159 yX4_isStepNumber, Cond.static yX4_isStepNumber, Cond.initialized RX4, Cond.code yX4_isStepNumber cX4_isStepNumber 1 (some .boolean), Cond.methodLink RX4 94 yX0_become, Cond.instanceMethod yX0_become, Cond.selects RX0 yX0_become yX0_become, Cond.initialized RX0, Cond.code yX0_become cX0_become 2 none, Cond.fieldLink RX0 9 "GripInspector$Lift" "weight" "[I", Cond.methodLink RX0 56 arraycopyName, Cond.native arraycopyName, Cond.static arraycopyName, Cond.initialized "java/lang/System", Cond.fieldLink RX0 15 "GripInspector$Lift" "cycles" "[I", Cond.fieldLink RX0 18 "GripInspector$Lift" "wear" "[I", Cond.fieldLink RX0 21 "GripInspector$Lift" "pulls" "[I", Cond.fieldLink RX0 24 "GripInspector$Lift" "lastSlip" "[I", Cond.fieldLink RX0 27 "GripInspector$Lift" "place" "[I"]
def wsX4_simulate_r2 : List Cond := [Cond.fieldLink RX0 30 "GripInspector$Lift" "spot" "[I", Cond.fieldLink RX0 33 "GripInspector$Lift" "stepsLeft" "[I", Cond.fieldLink RX0 36 "GripInspector$Lift" "limits" "[I", Cond.fieldLink RX0 42 "GripInspector$Lift" "n" "I", Cond.fieldLink RX0 46 "GripInspector$Lift" "station" "I", Cond.fieldLink RX0 49 "GripInspector$Lift" "clock" "I", Cond.fieldLink RX0 52 "GripInspector$Lift" "randomState" "J", Cond.methodLink RX4 167 yX0_advanceBy, Cond.instanceMethod yX0_advanceBy, Cond.selects RX0 yX0_advanceBy yX0_advanceBy, Cond.code yX0_advanceBy cX0_advanceBy 3 none, Cond.methodLink RX0 70 yX0_advance, Cond.instanceMethod yX0_advance, Cond.selects RX0 yX0_advance yX0_advance, Cond.code yX0_advance cX0_advance 3 (some .int), Cond.constantLong RX0 73 (6364136223846793005), Cond.constantLong RX0 75 (1442695040888963407), Cond.methodLink RX0 77 yX0_gripAt, Cond.instanceMethod yX0_gripAt, Cond.selects RX0 yX0_gripAt yX0_gripAt, Cond.code yX0_gripAt cX0_gripAt 3 (some .int), Cond.methodLink RX0 80 yX0_pass, Cond.instanceMethod yX0_pass, Cond.selects RX0 yX0_pass yX0_pass]
def wsX4_simulate_r3 : List Cond := [Cond.code yX0_pass cX0_pass 6 (some .int), Cond.methodLink RX0 84 yX0_repairAllBut, Cond.instanceMethod yX0_repairAllBut, Cond.selects RX0 yX0_repairAllBut yX0_repairAllBut, Cond.code yX0_repairAllBut cX0_repairAllBut 3 none, Cond.methodLink RX0 88 yX0_fillStation, Cond.instanceMethod yX0_fillStation, Cond.selects RX0 yX0_fillStation yX0_fillStation, Cond.code yX0_fillStation cX0_fillStation 3 (some .int), Cond.methodLink RX0 91 yX0_isRoomAt, Cond.instanceMethod yX0_isRoomAt, Cond.selects RX0 yX0_isRoomAt yX0_isRoomAt, Cond.code yX0_isRoomAt cX0_isRoomAt 3 (some .boolean), Cond.methodLink RX0 99 yX0_distance, Cond.instanceMethod yX0_distance, Cond.selects RX0 yX0_distance yX0_distance, Cond.code yX0_distance cX0_distance 4 (some .int), Cond.methodLink RX0 95 yX0_hang, Cond.instanceMethod yX0_hang, Cond.selects RX0 yX0_hang yX0_hang, Cond.code yX0_hang cX0_hang 3 none, Cond.methodLink RX4 270 yX0_allPulls, Cond.instanceMethod yX0_allPulls, Cond.selects RX0 yX0_allPulls yX0_allPulls]
def wsX4_simulate_r4 : List Cond := [Cond.code yX0_allPulls cX0_allPulls 3 (some .int), Cond.methodLink RX4 104 yX0_count, Cond.instanceMethod yX0_count, Cond.selects RX0 yX0_count yX0_count, Cond.code yX0_count cX0_count 4 (some .int)]
def wsX4_simulate : List Cond := .code yX4_simulate cX4_simulate 4 (some .int) :: ((wsX4_simulate_r1 ++ (wsX4_simulate_r2 ++ (wsX4_simulate_r3 ++ wsX4_simulate_r4))) ++ wsX40 ++ wsX00 ++ (vx_atS RX4 60 "java/lang/IllegalArgumentException" ["java/lang/RuntimeException", "java/lang/Exception"]).filter goodWord)
def wsX4_save_r1 : List Cond := [Cond.classLink RX4 124 "java/lang/IndexOutOfBoundsException", Cond.initialized "java/lang/IndexOutOfBoundsException", Cond.fieldLink RX4 42 "GripInspector" "saves" "LGripInspector$Memory;", Cond.fieldLink RX4 10 "GripInspector" "lift" "LGripInspector$Lift;", Cond.fieldLink RX4 45 "GripInspector" "saved" "[Z", Cond.fieldLink RX4 111 "GripInspector$Lift" "clock" "I", Cond.methodLink RX4 275 yX2_keep, Cond.instanceMethod yX2_keep, Cond.selects RX2 yX2_keep yX2_keep, Cond.initialized RX2, Cond.code yX2_keep cX2_keep 4 none, Cond.methodLink RX2 16 yX2_rowAt, Cond.instanceMethod yX2_rowAt, Cond.selects RX2 yX2_rowAt yX2_rowAt, Cond.code yX2_rowAt cX2_rowAt 2 (some (.object "GripInspector$Lift")), Cond.fieldLink RX2 9 "GripInspector$Memory" "rows" "[LGripInspector$Lift;", Cond.methodLink RX2 20 yX0_become, Cond.instanceMethod yX0_become, Cond.selects RX0 yX0_become yX0_become, Cond.initialized RX0, Cond.code yX0_become cX0_become 2 none, Cond.fieldLink RX0 9 "GripInspector$Lift" "weight" "[I", Cond.methodLink RX0 56 arraycopyName, Cond.native arraycopyName]
def wsX4_save_r2 : List Cond := [Cond.static arraycopyName, Cond.initialized "java/lang/System", Cond.fieldLink RX0 15 "GripInspector$Lift" "cycles" "[I", Cond.fieldLink RX0 18 "GripInspector$Lift" "wear" "[I", Cond.fieldLink RX0 21 "GripInspector$Lift" "pulls" "[I", Cond.fieldLink RX0 24 "GripInspector$Lift" "lastSlip" "[I", Cond.fieldLink RX0 27 "GripInspector$Lift" "place" "[I", Cond.fieldLink RX0 30 "GripInspector$Lift" "spot" "[I", Cond.fieldLink RX0 33 "GripInspector$Lift" "stepsLeft" "[I", Cond.fieldLink RX0 36 "GripInspector$Lift" "limits" "[I", Cond.fieldLink RX0 42 "GripInspector$Lift" "n" "I", Cond.fieldLink RX0 46 "GripInspector$Lift" "station" "I", Cond.fieldLink RX0 49 "GripInspector$Lift" "clock" "I", Cond.fieldLink RX0 52 "GripInspector$Lift" "randomState" "J"]
def wsX4_save : List Cond := .code yX4_save cX4_save 2 (some .int) :: ((wsX4_save_r1 ++ wsX4_save_r2) ++ wsX40 ++ wsX00 ++ wsX20 ++ (vx_atS RX4 128 "java/lang/IndexOutOfBoundsException" ["java/lang/RuntimeException", "java/lang/Exception"]).filter goodWord)
def wsX4_restore_r1 : List Cond := [Cond.classLink RX4 124 "java/lang/IndexOutOfBoundsException", Cond.initialized "java/lang/IndexOutOfBoundsException", Cond.classLink RX4 70 "java/lang/IllegalStateException", Cond.initialized "java/lang/IllegalStateException", Cond.fieldLink RX4 45 "GripInspector" "saved" "[Z", Cond.fieldLink RX4 42 "GripInspector" "saves" "LGripInspector$Memory;", Cond.fieldLink RX4 10 "GripInspector" "lift" "LGripInspector$Lift;", Cond.fieldLink RX4 49 "GripInspector" "remembered" "I", Cond.fieldLink RX4 111 "GripInspector$Lift" "clock" "I", Cond.methodLink RX4 213 yX2_recall, Cond.instanceMethod yX2_recall, Cond.selects RX2 yX2_recall yX2_recall, Cond.initialized RX2, Cond.code yX2_recall cX2_recall 4 none, Cond.methodLink RX2 16 yX2_rowAt, Cond.instanceMethod yX2_rowAt, Cond.selects RX2 yX2_rowAt yX2_rowAt, Cond.code yX2_rowAt cX2_rowAt 2 (some (.object "GripInspector$Lift")), Cond.fieldLink RX2 9 "GripInspector$Memory" "rows" "[LGripInspector$Lift;", Cond.methodLink RX2 20 yX0_become, Cond.instanceMethod yX0_become, Cond.selects RX0 yX0_become yX0_become, Cond.initialized RX0, Cond.code yX0_become cX0_become 2 none]
def wsX4_restore_r2 : List Cond := [Cond.fieldLink RX0 9 "GripInspector$Lift" "weight" "[I", Cond.methodLink RX0 56 arraycopyName, Cond.native arraycopyName, Cond.static arraycopyName, Cond.initialized "java/lang/System", Cond.fieldLink RX0 15 "GripInspector$Lift" "cycles" "[I", Cond.fieldLink RX0 18 "GripInspector$Lift" "wear" "[I", Cond.fieldLink RX0 21 "GripInspector$Lift" "pulls" "[I", Cond.fieldLink RX0 24 "GripInspector$Lift" "lastSlip" "[I", Cond.fieldLink RX0 27 "GripInspector$Lift" "place" "[I", Cond.fieldLink RX0 30 "GripInspector$Lift" "spot" "[I", Cond.fieldLink RX0 33 "GripInspector$Lift" "stepsLeft" "[I", Cond.fieldLink RX0 36 "GripInspector$Lift" "limits" "[I", Cond.fieldLink RX0 42 "GripInspector$Lift" "n" "I", Cond.fieldLink RX0 46 "GripInspector$Lift" "station" "I", Cond.fieldLink RX0 49 "GripInspector$Lift" "clock" "I", Cond.fieldLink RX0 52 "GripInspector$Lift" "randomState" "J"]
def wsX4_restore : List Cond := .code yX4_restore cX4_restore 2 (some .int) :: ((wsX4_restore_r1 ++ wsX4_restore_r2) ++ wsX40 ++ wsX00 ++ wsX20 ++ (vx_atS RX4 128 "java/lang/IndexOutOfBoundsException" ["java/lang/RuntimeException", "java/lang/Exception"]).filter goodWord ++ (vx_atS RX4 74 "java/lang/IllegalStateException" ["java/lang/RuntimeException", "java/lang/Exception"]).filter goodWord)
def wsX5_init : List Cond := .code yX5_init cX5_init 1 none :: ([.methodLink RX5 1 objectInit, .instanceMethod objectInit, .code objectInit ⟨#[0xb1]⟩ 1 none, .arrayClass .int, .fieldLink RX5 7 "GripInspectorModel" "script" "[I", .fieldLink RX5 13 "GripInspectorModel" "readRow" "[I", .fieldLink RX5 16 "GripInspectorModel" "now" "[I", .fieldLink RX5 19 "GripInspectorModel" "trial" "[I", .fieldLink RX5 22 "GripInspectorModel" "diary" "[I", .fieldLink RX5 25 "GripInspectorModel" "kept" "[I", .arrayClass .boolean, .fieldLink RX5 28 "GripInspectorModel" "isKept" "[Z", .fieldLink RX5 32 "GripInspectorModel" "counts" "[I", .fieldLink RX5 35 "GripInspectorModel" "report" "[I", .fieldLink RX5 38 "GripInspectorModel" "n" "I"] ++ wsX50)
def wsX5_thrown : List Cond := .code yX5_thrown cX5_thrown 1 (some .int) :: ([.fieldLink RX5 42 "GripInspectorModel" "refusal" "I"] ++ wsX50)
def wsX5_refused : List Cond := .code yX5_refused cX5_refused 2 (some .boolean) :: ([.fieldLink RX5 42 "GripInspectorModel" "refusal" "I"] ++ wsX50)
def wsX5_in : List Cond := .code yX5_in cX5_in 6 (some .boolean) :: ([])
def wsX5_copy : List Cond := .code yX5_copy cX5_copy 6 none :: ([])
def wsX5_tenTo : List Cond := .code yX5_tenTo cX5_tenTo 4 (some .long) :: ([.constantLong RX5 45 (10)])
def wsX5_note : List Cond := .code yX5_note cX5_note 1 none :: ([.fieldLink RX5 47 "GripInspectorModel" "acts" "I", .fieldLink RX5 22 "GripInspectorModel" "diary" "[I", .fieldLink RX5 16 "GripInspectorModel" "now" "[I", .methodLink RX5 50 yX5_copy, .static yX5_copy, .initialized RX5, .code yX5_copy cX5_copy 6 none] ++ wsX50)
def wsX5_isGrip : List Cond := .code yX5_isGrip cX5_isGrip 2 (some .boolean) :: ([.fieldLink RX5 16 "GripInspectorModel" "now" "[I", .methodLink RX5 54 yX5_in, .static yX5_in, .initialized RX5, .code yX5_in cX5_in 6 (some .boolean)] ++ wsX50)
def wsX5_isSlot : List Cond := .code yX5_isSlot cX5_isSlot 2 (some .boolean) :: ([.fieldLink RX5 38 "GripInspectorModel" "n" "I", .methodLink RX5 54 yX5_in, .static yX5_in, .initialized RX5, .code yX5_in cX5_in 6 (some .boolean)] ++ wsX50)
def wsX5_randomOf : List Cond := .code yX5_randomOf cX5_randomOf 1 (some .long) :: ([.constantLong RX5 58 (4294967295)])
def wsX5_setRandomOn : List Cond := .code yX5_setRandomOn cX5_setRandomOn 3 none :: ([])
def wsX5_gripAt : List Cond := .code yX5_gripAt cX5_gripAt 3 (some .int) :: ([])
def wsX5_apart : List Cond := .code yX5_apart cX5_apart 4 (some .int) :: ([.fieldLink RX5 38 "GripInspectorModel" "n" "I"] ++ wsX50)
def wsX5_isFree : List Cond := .code yX5_isFree cX5_isFree 5 (some .boolean) :: ([.methodLink RX5 60 yX5_gripAt, .static yX5_gripAt, .initialized RX5, .code yX5_gripAt cX5_gripAt 3 (some .int), .methodLink RX5 64 yX5_apart, .instanceMethod yX5_apart, .selects RX5 yX5_apart yX5_apart, .code yX5_apart cX5_apart 4 (some .int), .fieldLink RX5 38 "GripInspectorModel" "n" "I"] ++ wsX50)
def wsX5_count : List Cond := .code yX5_count cX5_count 4 (some .int) :: ([])
def wsX5_pass : List Cond := .code yX5_pass cX5_pass 5 (some .int) :: ([.fieldLink RX5 32 "GripInspectorModel" "counts" "[I"] ++ wsX50)
def wsX5_stepOn_r1 : List Cond := [Cond.fieldLink RX5 38 "GripInspectorModel" "n" "I", Cond.constantLong RX5 72 (6364136223846793005), Cond.constantLong RX5 74 (1442695040888963407), Cond.fieldLink RX5 32 "GripInspectorModel" "counts" "[I", Cond.methodLink RX5 68 yX5_randomOf, Cond.static yX5_randomOf, Cond.initialized RX5, Cond.code yX5_randomOf cX5_randomOf 1 (some .long), Cond.constantLong RX5 58 (4294967295), Cond.methodLink RX5 76 yX5_setRandomOn, Cond.static yX5_setRandomOn, Cond.code yX5_setRandomOn cX5_setRandomOn 3 none, Cond.methodLink RX5 60 yX5_gripAt, Cond.static yX5_gripAt, Cond.code yX5_gripAt cX5_gripAt 3 (some .int), Cond.methodLink RX5 80 yX5_pass, Cond.instanceMethod yX5_pass, Cond.selects RX5 yX5_pass yX5_pass, Cond.code yX5_pass cX5_pass 5 (some .int), Cond.methodLink RX5 84 yX5_isFree, Cond.instanceMethod yX5_isFree, Cond.selects RX5 yX5_isFree yX5_isFree, Cond.code yX5_isFree cX5_isFree 5 (some .boolean), Cond.methodLink RX5 64 yX5_apart]
def wsX5_stepOn_r2 : List Cond := [Cond.instanceMethod yX5_apart, Cond.selects RX5 yX5_apart yX5_apart, Cond.code yX5_apart cX5_apart 4 (some .int)]
def wsX5_stepOn : List Cond := .code yX5_stepOn cX5_stepOn 9 none :: ((wsX5_stepOn_r1 ++ wsX5_stepOn_r2) ++ wsX50)
def wsX5_stepsOn_r1 : List Cond := [Cond.fieldLink RX5 32 "GripInspectorModel" "counts" "[I", Cond.methodLink RX5 88 yX5_stepOn, Cond.instanceMethod yX5_stepOn, Cond.selects RX5 yX5_stepOn yX5_stepOn, Cond.initialized RX5, Cond.code yX5_stepOn cX5_stepOn 9 none, Cond.fieldLink RX5 38 "GripInspectorModel" "n" "I", Cond.constantLong RX5 72 (6364136223846793005), Cond.constantLong RX5 74 (1442695040888963407), Cond.methodLink RX5 68 yX5_randomOf, Cond.static yX5_randomOf, Cond.code yX5_randomOf cX5_randomOf 1 (some .long), Cond.constantLong RX5 58 (4294967295), Cond.methodLink RX5 76 yX5_setRandomOn, Cond.static yX5_setRandomOn, Cond.code yX5_setRandomOn cX5_setRandomOn 3 none, Cond.methodLink RX5 60 yX5_gripAt, Cond.static yX5_gripAt, Cond.code yX5_gripAt cX5_gripAt 3 (some .int), Cond.methodLink RX5 80 yX5_pass, Cond.instanceMethod yX5_pass, Cond.selects RX5 yX5_pass yX5_pass, Cond.code yX5_pass cX5_pass 5 (some .int), Cond.methodLink RX5 84 yX5_isFree]
def wsX5_stepsOn_r2 : List Cond := [Cond.instanceMethod yX5_isFree, Cond.selects RX5 yX5_isFree yX5_isFree, Cond.code yX5_isFree cX5_isFree 5 (some .boolean), Cond.methodLink RX5 64 yX5_apart, Cond.instanceMethod yX5_apart, Cond.selects RX5 yX5_apart yX5_apart, Cond.code yX5_apart cX5_apart 4 (some .int)]
def wsX5_stepsOn : List Cond := .code yX5_stepsOn cX5_stepsOn 4 none :: ((wsX5_stepsOn_r1 ++ wsX5_stepsOn_r2) ++ wsX50)
def wsX5_addOn : List Cond := .code yX5_addOn cX5_addOn 5 none :: ([])
def wsX5_append : List Cond := .code yX5_append cX5_append 2 (some .int) :: ([.constantLong RX5 92 (255), .fieldLink RX5 94 "GripInspectorModel" "scriptSize" "I", .fieldLink RX5 7 "GripInspectorModel" "script" "[I", .methodLink RX5 54 yX5_in, .static yX5_in, .initialized RX5, .code yX5_in cX5_in 6 (some .boolean), .methodLink RX5 97 yX5_refused, .instanceMethod yX5_refused, .selects RX5 yX5_refused yX5_refused, .code yX5_refused cX5_refused 2 (some .boolean), .fieldLink RX5 42 "GripInspectorModel" "refusal" "I"] ++ wsX50)
def wsX5_clearText : List Cond := .code yX5_clearText cX5_clearText 2 (some .int) :: ([.fieldLink RX5 42 "GripInspectorModel" "refusal" "I", .fieldLink RX5 94 "GripInspectorModel" "scriptSize" "I"] ++ wsX50)
def wsX5_digit : List Cond := .code yX5_digit cX5_digit 4 (some .int) :: ([.fieldLink RX5 101 "GripInspectorModel" "spot" "I", .fieldLink RX5 94 "GripInspectorModel" "scriptSize" "I", .fieldLink RX5 7 "GripInspectorModel" "script" "[I", .methodLink RX5 54 yX5_in, .static yX5_in, .initialized RX5, .code yX5_in cX5_in 6 (some .boolean)] ++ wsX50)
def wsX5_two : List Cond := .code yX5_two cX5_two 5 (some .int) :: ([.methodLink RX5 104 yX5_digit, .instanceMethod yX5_digit, .selects RX5 yX5_digit yX5_digit, .initialized RX5, .code yX5_digit cX5_digit 4 (some .int), .fieldLink RX5 101 "GripInspectorModel" "spot" "I", .fieldLink RX5 94 "GripInspectorModel" "scriptSize" "I", .fieldLink RX5 7 "GripInspectorModel" "script" "[I", .methodLink RX5 54 yX5_in, .static yX5_in, .code yX5_in cX5_in 6 (some .boolean)] ++ wsX50)
def wsX5_mayHang : List Cond := .code yX5_mayHang cX5_mayHang 2 (some .boolean) :: ([.fieldLink RX5 107 "GripInspectorModel" "readN" "I", .fieldLink RX5 13 "GripInspectorModel" "readRow" "[I", .methodLink RX5 54 yX5_in, .static yX5_in, .initialized RX5, .code yX5_in cX5_in 6 (some .boolean), .methodLink RX5 60 yX5_gripAt, .static yX5_gripAt, .code yX5_gripAt cX5_gripAt 3 (some .int)] ++ wsX50)
def wsX5_readSlot : List Cond := .code yX5_readSlot cX5_readSlot 4 (some .int) :: ([.fieldLink RX5 101 "GripInspectorModel" "spot" "I", .fieldLink RX5 94 "GripInspectorModel" "scriptSize" "I", .fieldLink RX5 7 "GripInspectorModel" "script" "[I", .constantLong RX5 110 (9), .methodLink RX5 54 yX5_in, .static yX5_in, .initialized RX5, .code yX5_in cX5_in 6 (some .boolean), .methodLink RX5 112 yX5_mayHang, .instanceMethod yX5_mayHang, .selects RX5 yX5_mayHang yX5_mayHang, .code yX5_mayHang cX5_mayHang 2 (some .boolean), .fieldLink RX5 107 "GripInspectorModel" "readN" "I", .fieldLink RX5 13 "GripInspectorModel" "readRow" "[I", .methodLink RX5 60 yX5_gripAt, .static yX5_gripAt, .code yX5_gripAt cX5_gripAt 3 (some .int)] ++ wsX50)
def wsX5_readItem_r1 : List Cond := [Cond.fieldLink RX5 7 "GripInspectorModel" "script" "[I", Cond.fieldLink RX5 101 "GripInspectorModel" "spot" "I", Cond.fieldLink RX5 13 "GripInspectorModel" "readRow" "[I", Cond.fieldLink RX5 107 "GripInspectorModel" "readN" "I", Cond.methodLink RX5 115 yX5_count, Cond.static yX5_count, Cond.initialized RX5, Cond.code yX5_count cX5_count 4 (some .int), Cond.methodLink RX5 104 yX5_digit, Cond.instanceMethod yX5_digit, Cond.selects RX5 yX5_digit yX5_digit, Cond.code yX5_digit cX5_digit 4 (some .int), Cond.fieldLink RX5 94 "GripInspectorModel" "scriptSize" "I", Cond.methodLink RX5 54 yX5_in, Cond.static yX5_in, Cond.code yX5_in cX5_in 6 (some .boolean), Cond.methodLink RX5 118 yX5_readSlot, Cond.instanceMethod yX5_readSlot, Cond.selects RX5 yX5_readSlot yX5_readSlot, Cond.code yX5_readSlot cX5_readSlot 4 (some .int), Cond.constantLong RX5 110 (9), Cond.methodLink RX5 112 yX5_mayHang, Cond.instanceMethod yX5_mayHang, Cond.selects RX5 yX5_mayHang yX5_mayHang]
def wsX5_readItem_r2 : List Cond := [Cond.code yX5_mayHang cX5_mayHang 2 (some .boolean), Cond.methodLink RX5 60 yX5_gripAt, Cond.static yX5_gripAt, Cond.code yX5_gripAt cX5_gripAt 3 (some .int), Cond.methodLink RX5 122 yX5_addOn, Cond.static yX5_addOn, Cond.code yX5_addOn cX5_addOn 5 none]
def wsX5_readItem : List Cond := .code yX5_readItem cX5_readItem 5 (some .boolean) :: ((wsX5_readItem_r1 ++ wsX5_readItem_r2) ++ wsX50)
def wsX5_readText_r1 : List Cond := [Cond.fieldLink RX5 13 "GripInspectorModel" "readRow" "[I", Cond.fieldLink RX5 101 "GripInspectorModel" "spot" "I", Cond.fieldLink RX5 94 "GripInspectorModel" "scriptSize" "I", Cond.fieldLink RX5 7 "GripInspectorModel" "script" "[I", Cond.fieldLink RX5 107 "GripInspectorModel" "readN" "I", Cond.methodLink RX5 126 yX5_two, Cond.instanceMethod yX5_two, Cond.selects RX5 yX5_two yX5_two, Cond.initialized RX5, Cond.code yX5_two cX5_two 5 (some .int), Cond.methodLink RX5 104 yX5_digit, Cond.instanceMethod yX5_digit, Cond.selects RX5 yX5_digit yX5_digit, Cond.code yX5_digit cX5_digit 4 (some .int), Cond.methodLink RX5 54 yX5_in, Cond.static yX5_in, Cond.code yX5_in cX5_in 6 (some .boolean), Cond.methodLink RX5 129 yX5_readItem, Cond.instanceMethod yX5_readItem, Cond.selects RX5 yX5_readItem yX5_readItem, Cond.code yX5_readItem cX5_readItem 5 (some .boolean), Cond.methodLink RX5 115 yX5_count, Cond.static yX5_count, Cond.code yX5_count cX5_count 4 (some .int)]
def wsX5_readText_r2 : List Cond := [Cond.methodLink RX5 118 yX5_readSlot, Cond.instanceMethod yX5_readSlot, Cond.selects RX5 yX5_readSlot yX5_readSlot, Cond.code yX5_readSlot cX5_readSlot 4 (some .int), Cond.constantLong RX5 110 (9), Cond.methodLink RX5 112 yX5_mayHang, Cond.instanceMethod yX5_mayHang, Cond.selects RX5 yX5_mayHang yX5_mayHang, Cond.code yX5_mayHang cX5_mayHang 2 (some .boolean), Cond.methodLink RX5 60 yX5_gripAt, Cond.static yX5_gripAt, Cond.code yX5_gripAt cX5_gripAt 3 (some .int), Cond.methodLink RX5 122 yX5_addOn, Cond.static yX5_addOn, Cond.code yX5_addOn cX5_addOn 5 none]
def wsX5_readText : List Cond := .code yX5_readText cX5_readText 3 (some .int) :: ((wsX5_readText_r1 ++ wsX5_readText_r2) ++ wsX50)
def wsX5_errorPosition_r1 : List Cond := [Cond.fieldLink RX5 42 "GripInspectorModel" "refusal" "I", Cond.methodLink RX5 133 yX5_readText, Cond.instanceMethod yX5_readText, Cond.selects RX5 yX5_readText yX5_readText, Cond.initialized RX5, Cond.code yX5_readText cX5_readText 3 (some .int), Cond.fieldLink RX5 13 "GripInspectorModel" "readRow" "[I", Cond.fieldLink RX5 101 "GripInspectorModel" "spot" "I", Cond.fieldLink RX5 94 "GripInspectorModel" "scriptSize" "I", Cond.fieldLink RX5 7 "GripInspectorModel" "script" "[I", Cond.fieldLink RX5 107 "GripInspectorModel" "readN" "I", Cond.methodLink RX5 126 yX5_two, Cond.instanceMethod yX5_two, Cond.selects RX5 yX5_two yX5_two, Cond.code yX5_two cX5_two 5 (some .int), Cond.methodLink RX5 104 yX5_digit, Cond.instanceMethod yX5_digit, Cond.selects RX5 yX5_digit yX5_digit, Cond.code yX5_digit cX5_digit 4 (some .int), Cond.methodLink RX5 54 yX5_in, Cond.static yX5_in, Cond.code yX5_in cX5_in 6 (some .boolean), Cond.methodLink RX5 129 yX5_readItem, Cond.instanceMethod yX5_readItem]
def wsX5_errorPosition_r2 : List Cond := [Cond.selects RX5 yX5_readItem yX5_readItem, Cond.code yX5_readItem cX5_readItem 5 (some .boolean), Cond.methodLink RX5 115 yX5_count, Cond.static yX5_count, Cond.code yX5_count cX5_count 4 (some .int), Cond.methodLink RX5 118 yX5_readSlot, Cond.instanceMethod yX5_readSlot, Cond.selects RX5 yX5_readSlot yX5_readSlot, Cond.code yX5_readSlot cX5_readSlot 4 (some .int), Cond.constantLong RX5 110 (9), Cond.methodLink RX5 112 yX5_mayHang, Cond.instanceMethod yX5_mayHang, Cond.selects RX5 yX5_mayHang yX5_mayHang, Cond.code yX5_mayHang cX5_mayHang 2 (some .boolean), Cond.methodLink RX5 60 yX5_gripAt, Cond.static yX5_gripAt, Cond.code yX5_gripAt cX5_gripAt 3 (some .int), Cond.methodLink RX5 122 yX5_addOn, Cond.static yX5_addOn, Cond.code yX5_addOn cX5_addOn 5 none]
def wsX5_errorPosition : List Cond := .code yX5_errorPosition cX5_errorPosition 1 (some .int) :: ((wsX5_errorPosition_r1 ++ wsX5_errorPosition_r2) ++ wsX50)
def wsX5_load_r1 : List Cond := [Cond.fieldLink RX5 107 "GripInspectorModel" "readN" "I", Cond.fieldLink RX5 38 "GripInspectorModel" "n" "I", Cond.fieldLink RX5 13 "GripInspectorModel" "readRow" "[I", Cond.fieldLink RX5 16 "GripInspectorModel" "now" "[I", Cond.fieldLink RX5 47 "GripInspectorModel" "acts" "I", Cond.fieldLink RX5 28 "GripInspectorModel" "isKept" "[Z", Cond.methodLink RX5 133 yX5_readText, Cond.instanceMethod yX5_readText, Cond.selects RX5 yX5_readText yX5_readText, Cond.initialized RX5, Cond.code yX5_readText cX5_readText 3 (some .int), Cond.fieldLink RX5 101 "GripInspectorModel" "spot" "I", Cond.fieldLink RX5 94 "GripInspectorModel" "scriptSize" "I", Cond.fieldLink RX5 7 "GripInspectorModel" "script" "[I", Cond.methodLink RX5 126 yX5_two, Cond.instanceMethod yX5_two, Cond.selects RX5 yX5_two yX5_two, Cond.code yX5_two cX5_two 5 (some .int), Cond.methodLink RX5 104 yX5_digit, Cond.instanceMethod yX5_digit, Cond.selects RX5 yX5_digit yX5_digit, Cond.code yX5_digit cX5_digit 4 (some .int), Cond.methodLink RX5 54 yX5_in, Cond.static yX5_in]
def wsX5_load_r2 : List Cond := [Cond.code yX5_in cX5_in 6 (some .boolean), Cond.methodLink RX5 129 yX5_readItem, Cond.instanceMethod yX5_readItem, Cond.selects RX5 yX5_readItem yX5_readItem, Cond.code yX5_readItem cX5_readItem 5 (some .boolean), Cond.methodLink RX5 115 yX5_count, Cond.static yX5_count, Cond.code yX5_count cX5_count 4 (some .int), Cond.methodLink RX5 118 yX5_readSlot, Cond.instanceMethod yX5_readSlot, Cond.selects RX5 yX5_readSlot yX5_readSlot, Cond.code yX5_readSlot cX5_readSlot 4 (some .int), Cond.constantLong RX5 110 (9), Cond.methodLink RX5 112 yX5_mayHang, Cond.instanceMethod yX5_mayHang, Cond.selects RX5 yX5_mayHang yX5_mayHang, Cond.code yX5_mayHang cX5_mayHang 2 (some .boolean), Cond.methodLink RX5 60 yX5_gripAt, Cond.static yX5_gripAt, Cond.code yX5_gripAt cX5_gripAt 3 (some .int), Cond.methodLink RX5 122 yX5_addOn, Cond.static yX5_addOn, Cond.code yX5_addOn cX5_addOn 5 none, Cond.methodLink RX5 97 yX5_refused]
def wsX5_load_r3 : List Cond := [Cond.instanceMethod yX5_refused, Cond.selects RX5 yX5_refused yX5_refused, Cond.code yX5_refused cX5_refused 2 (some .boolean), Cond.fieldLink RX5 42 "GripInspectorModel" "refusal" "I", Cond.methodLink RX5 50 yX5_copy, Cond.static yX5_copy, Cond.code yX5_copy cX5_copy 6 none]
def wsX5_load : List Cond := .code yX5_load cX5_load 1 (some .int) :: ((wsX5_load_r1 ++ (wsX5_load_r2 ++ wsX5_load_r3)) ++ wsX50)
def wsX5_about : List Cond := .code yX5_about cX5_about 2 (some .int) :: ([.constantLong RX5 136 (12), .fieldLink RX5 38 "GripInspectorModel" "n" "I", .fieldLink RX5 16 "GripInspectorModel" "now" "[I", .methodLink RX5 54 yX5_in, .static yX5_in, .initialized RX5, .code yX5_in cX5_in 6 (some .boolean), .methodLink RX5 97 yX5_refused, .instanceMethod yX5_refused, .selects RX5 yX5_refused yX5_refused, .code yX5_refused cX5_refused 2 (some .boolean), .fieldLink RX5 42 "GripInspectorModel" "refusal" "I", .methodLink RX5 115 yX5_count, .static yX5_count, .code yX5_count cX5_count 4 (some .int)] ++ wsX50)
def wsX5_detail : List Cond := .code yX5_detail cX5_detail 3 (some .int) :: ([])
def wsX5_grip : List Cond := .code yX5_grip cX5_grip 3 (some .int) :: ([.constantLong RX5 141 (7), .fieldLink RX5 16 "GripInspectorModel" "now" "[I", .methodLink RX5 138 yX5_isGrip, .instanceMethod yX5_isGrip, .selects RX5 yX5_isGrip yX5_isGrip, .initialized RX5, .code yX5_isGrip cX5_isGrip 2 (some .boolean), .methodLink RX5 54 yX5_in, .static yX5_in, .code yX5_in cX5_in 6 (some .boolean), .methodLink RX5 97 yX5_refused, .instanceMethod yX5_refused, .selects RX5 yX5_refused yX5_refused, .code yX5_refused cX5_refused 2 (some .boolean), .fieldLink RX5 42 "GripInspectorModel" "refusal" "I", .methodLink RX5 143 yX5_detail, .static yX5_detail, .code yX5_detail cX5_detail 3 (some .int)] ++ wsX50)
def wsX5_slot : List Cond := .code yX5_slot cX5_slot 2 (some .int) :: ([.fieldLink RX5 16 "GripInspectorModel" "now" "[I", .methodLink RX5 146 yX5_isSlot, .instanceMethod yX5_isSlot, .selects RX5 yX5_isSlot yX5_isSlot, .initialized RX5, .code yX5_isSlot cX5_isSlot 2 (some .boolean), .fieldLink RX5 38 "GripInspectorModel" "n" "I", .methodLink RX5 54 yX5_in, .static yX5_in, .code yX5_in cX5_in 6 (some .boolean), .methodLink RX5 97 yX5_refused, .instanceMethod yX5_refused, .selects RX5 yX5_refused yX5_refused, .code yX5_refused cX5_refused 2 (some .boolean), .fieldLink RX5 42 "GripInspectorModel" "refusal" "I", .methodLink RX5 60 yX5_gripAt, .static yX5_gripAt, .code yX5_gripAt cX5_gripAt 3 (some .int)] ++ wsX50)
def wsX5_random : List Cond := .code yX5_random cX5_random 1 (some .long) :: ([.fieldLink RX5 42 "GripInspectorModel" "refusal" "I", .fieldLink RX5 16 "GripInspectorModel" "now" "[I", .methodLink RX5 68 yX5_randomOf, .static yX5_randomOf, .initialized RX5, .code yX5_randomOf cX5_randomOf 1 (some .long), .constantLong RX5 58 (4294967295)] ++ wsX50)
def wsX5_layReport : List Cond := .code yX5_layReport cX5_layReport 5 (some .int) :: ([.fieldLink RX5 16 "GripInspectorModel" "now" "[I", .fieldLink RX5 35 "GripInspectorModel" "report" "[I"] ++ wsX50)
def wsX5_report : List Cond := .code yX5_report cX5_report 2 (some .int) :: ([.fieldLink RX5 35 "GripInspectorModel" "report" "[I", .methodLink RX5 97 yX5_refused, .instanceMethod yX5_refused, .selects RX5 yX5_refused yX5_refused, .initialized RX5, .code yX5_refused cX5_refused 2 (some .boolean), .fieldLink RX5 42 "GripInspectorModel" "refusal" "I", .methodLink RX5 149 yX5_layReport, .instanceMethod yX5_layReport, .selects RX5 yX5_layReport yX5_layReport, .code yX5_layReport cX5_layReport 5 (some .int), .fieldLink RX5 16 "GripInspectorModel" "now" "[I"] ++ wsX50)
def wsX5_step_r1 : List Cond := [Cond.constantLong RX5 152 (99), Cond.fieldLink RX5 16 "GripInspectorModel" "now" "[I", Cond.methodLink RX5 54 yX5_in, Cond.static yX5_in, Cond.initialized RX5, Cond.code yX5_in cX5_in 6 (some .boolean), Cond.methodLink RX5 97 yX5_refused, Cond.instanceMethod yX5_refused, Cond.selects RX5 yX5_refused yX5_refused, Cond.code yX5_refused cX5_refused 2 (some .boolean), Cond.fieldLink RX5 42 "GripInspectorModel" "refusal" "I", Cond.methodLink RX5 154 yX5_note, Cond.instanceMethod yX5_note, Cond.selects RX5 yX5_note yX5_note, Cond.code yX5_note cX5_note 1 none, Cond.fieldLink RX5 47 "GripInspectorModel" "acts" "I", Cond.fieldLink RX5 22 "GripInspectorModel" "diary" "[I", Cond.methodLink RX5 50 yX5_copy, Cond.static yX5_copy, Cond.code yX5_copy cX5_copy 6 none, Cond.methodLink RX5 157 yX5_stepsOn, Cond.instanceMethod yX5_stepsOn, Cond.selects RX5 yX5_stepsOn yX5_stepsOn, Cond.code yX5_stepsOn cX5_stepsOn 4 none]
def wsX5_step_r2 : List Cond := [Cond.fieldLink RX5 32 "GripInspectorModel" "counts" "[I", Cond.methodLink RX5 88 yX5_stepOn, Cond.instanceMethod yX5_stepOn, Cond.selects RX5 yX5_stepOn yX5_stepOn, Cond.code yX5_stepOn cX5_stepOn 9 none, Cond.fieldLink RX5 38 "GripInspectorModel" "n" "I", Cond.constantLong RX5 72 (6364136223846793005), Cond.constantLong RX5 74 (1442695040888963407), Cond.methodLink RX5 68 yX5_randomOf, Cond.static yX5_randomOf, Cond.code yX5_randomOf cX5_randomOf 1 (some .long), Cond.constantLong RX5 58 (4294967295), Cond.methodLink RX5 76 yX5_setRandomOn, Cond.static yX5_setRandomOn, Cond.code yX5_setRandomOn cX5_setRandomOn 3 none, Cond.methodLink RX5 60 yX5_gripAt, Cond.static yX5_gripAt, Cond.code yX5_gripAt cX5_gripAt 3 (some .int), Cond.methodLink RX5 80 yX5_pass, Cond.instanceMethod yX5_pass, Cond.selects RX5 yX5_pass yX5_pass, Cond.code yX5_pass cX5_pass 5 (some .int), Cond.methodLink RX5 84 yX5_isFree, Cond.instanceMethod yX5_isFree]
def wsX5_step_r3 : List Cond := [Cond.selects RX5 yX5_isFree yX5_isFree, Cond.code yX5_isFree cX5_isFree 5 (some .boolean), Cond.methodLink RX5 64 yX5_apart, Cond.instanceMethod yX5_apart, Cond.selects RX5 yX5_apart yX5_apart, Cond.code yX5_apart cX5_apart 4 (some .int), Cond.methodLink RX5 115 yX5_count, Cond.static yX5_count, Cond.code yX5_count cX5_count 4 (some .int)]
def wsX5_step : List Cond := .code yX5_step cX5_step 2 (some .int) :: ((wsX5_step_r1 ++ (wsX5_step_r2 ++ wsX5_step_r3)) ++ wsX50)
def wsX5_addGrip : List Cond := .code yX5_addGrip cX5_addGrip 2 (some .int) :: ([.constantLong RX5 161 (3), .fieldLink RX5 16 "GripInspectorModel" "now" "[I", .methodLink RX5 54 yX5_in, .static yX5_in, .initialized RX5, .code yX5_in cX5_in 6 (some .boolean), .methodLink RX5 97 yX5_refused, .instanceMethod yX5_refused, .selects RX5 yX5_refused yX5_refused, .code yX5_refused cX5_refused 2 (some .boolean), .fieldLink RX5 42 "GripInspectorModel" "refusal" "I", .methodLink RX5 154 yX5_note, .instanceMethod yX5_note, .selects RX5 yX5_note yX5_note, .code yX5_note cX5_note 1 none, .fieldLink RX5 47 "GripInspectorModel" "acts" "I", .fieldLink RX5 22 "GripInspectorModel" "diary" "[I", .methodLink RX5 50 yX5_copy, .static yX5_copy, .code yX5_copy cX5_copy 6 none, .methodLink RX5 122 yX5_addOn, .static yX5_addOn, .code yX5_addOn cX5_addOn 5 none] ++ wsX50)
def wsX5_canPut : List Cond := .code yX5_canPut cX5_canPut 4 (some .boolean) :: ([.methodLink RX5 84 yX5_isFree, .instanceMethod yX5_isFree, .selects RX5 yX5_isFree yX5_isFree, .initialized RX5, .code yX5_isFree cX5_isFree 5 (some .boolean), .methodLink RX5 60 yX5_gripAt, .static yX5_gripAt, .code yX5_gripAt cX5_gripAt 3 (some .int), .methodLink RX5 64 yX5_apart, .instanceMethod yX5_apart, .selects RX5 yX5_apart yX5_apart, .code yX5_apart cX5_apart 4 (some .int), .fieldLink RX5 38 "GripInspectorModel" "n" "I"] ++ wsX50)
def wsX5_putAt : List Cond := .code yX5_putAt cX5_putAt 3 none :: ([])
def wsX5_putOn_r1 : List Cond := [Cond.fieldLink RX5 16 "GripInspectorModel" "now" "[I", Cond.methodLink RX5 138 yX5_isGrip, Cond.instanceMethod yX5_isGrip, Cond.selects RX5 yX5_isGrip yX5_isGrip, Cond.initialized RX5, Cond.code yX5_isGrip cX5_isGrip 2 (some .boolean), Cond.methodLink RX5 54 yX5_in, Cond.static yX5_in, Cond.code yX5_in cX5_in 6 (some .boolean), Cond.methodLink RX5 146 yX5_isSlot, Cond.instanceMethod yX5_isSlot, Cond.selects RX5 yX5_isSlot yX5_isSlot, Cond.code yX5_isSlot cX5_isSlot 2 (some .boolean), Cond.fieldLink RX5 38 "GripInspectorModel" "n" "I", Cond.methodLink RX5 163 yX5_canPut, Cond.instanceMethod yX5_canPut, Cond.selects RX5 yX5_canPut yX5_canPut, Cond.code yX5_canPut cX5_canPut 4 (some .boolean), Cond.methodLink RX5 84 yX5_isFree, Cond.instanceMethod yX5_isFree, Cond.selects RX5 yX5_isFree yX5_isFree, Cond.code yX5_isFree cX5_isFree 5 (some .boolean), Cond.methodLink RX5 60 yX5_gripAt, Cond.static yX5_gripAt]
def wsX5_putOn_r2 : List Cond := [Cond.code yX5_gripAt cX5_gripAt 3 (some .int), Cond.methodLink RX5 64 yX5_apart, Cond.instanceMethod yX5_apart, Cond.selects RX5 yX5_apart yX5_apart, Cond.code yX5_apart cX5_apart 4 (some .int), Cond.methodLink RX5 97 yX5_refused, Cond.instanceMethod yX5_refused, Cond.selects RX5 yX5_refused yX5_refused, Cond.code yX5_refused cX5_refused 2 (some .boolean), Cond.fieldLink RX5 42 "GripInspectorModel" "refusal" "I", Cond.methodLink RX5 154 yX5_note, Cond.instanceMethod yX5_note, Cond.selects RX5 yX5_note yX5_note, Cond.code yX5_note cX5_note 1 none, Cond.fieldLink RX5 47 "GripInspectorModel" "acts" "I", Cond.fieldLink RX5 22 "GripInspectorModel" "diary" "[I", Cond.methodLink RX5 50 yX5_copy, Cond.static yX5_copy, Cond.code yX5_copy cX5_copy 6 none, Cond.methodLink RX5 167 yX5_putAt, Cond.static yX5_putAt, Cond.code yX5_putAt cX5_putAt 3 none, Cond.methodLink RX5 115 yX5_count, Cond.static yX5_count]
def wsX5_putOn_r3 : List Cond := [Cond.code yX5_count cX5_count 4 (some .int)]
def wsX5_putOn : List Cond := .code yX5_putOn cX5_putOn 3 (some .int) :: ((wsX5_putOn_r1 ++ (wsX5_putOn_r2 ++ wsX5_putOn_r3)) ++ wsX50)
def wsX5_takeOff : List Cond := .code yX5_takeOff cX5_takeOff 2 (some .int) :: ([.fieldLink RX5 16 "GripInspectorModel" "now" "[I", .methodLink RX5 138 yX5_isGrip, .instanceMethod yX5_isGrip, .selects RX5 yX5_isGrip yX5_isGrip, .initialized RX5, .code yX5_isGrip cX5_isGrip 2 (some .boolean), .methodLink RX5 54 yX5_in, .static yX5_in, .code yX5_in cX5_in 6 (some .boolean), .methodLink RX5 97 yX5_refused, .instanceMethod yX5_refused, .selects RX5 yX5_refused yX5_refused, .code yX5_refused cX5_refused 2 (some .boolean), .fieldLink RX5 42 "GripInspectorModel" "refusal" "I", .methodLink RX5 154 yX5_note, .instanceMethod yX5_note, .selects RX5 yX5_note yX5_note, .code yX5_note cX5_note 1 none, .fieldLink RX5 47 "GripInspectorModel" "acts" "I", .fieldLink RX5 22 "GripInspectorModel" "diary" "[I", .methodLink RX5 50 yX5_copy, .static yX5_copy, .code yX5_copy cX5_copy 6 none] ++ wsX50)
def wsX5_scrap : List Cond := .code yX5_scrap cX5_scrap 3 (some .int) :: ([.fieldLink RX5 16 "GripInspectorModel" "now" "[I", .methodLink RX5 138 yX5_isGrip, .instanceMethod yX5_isGrip, .selects RX5 yX5_isGrip yX5_isGrip, .initialized RX5, .code yX5_isGrip cX5_isGrip 2 (some .boolean), .methodLink RX5 54 yX5_in, .static yX5_in, .code yX5_in cX5_in 6 (some .boolean), .methodLink RX5 97 yX5_refused, .instanceMethod yX5_refused, .selects RX5 yX5_refused yX5_refused, .code yX5_refused cX5_refused 2 (some .boolean), .fieldLink RX5 42 "GripInspectorModel" "refusal" "I", .methodLink RX5 154 yX5_note, .instanceMethod yX5_note, .selects RX5 yX5_note yX5_note, .code yX5_note cX5_note 1 none, .fieldLink RX5 47 "GripInspectorModel" "acts" "I", .fieldLink RX5 22 "GripInspectorModel" "diary" "[I", .methodLink RX5 50 yX5_copy, .static yX5_copy, .code yX5_copy cX5_copy 6 none] ++ wsX50)
def wsX5_isLimit : List Cond := .code yX5_isLimit cX5_isLimit 3 (some .boolean) :: ([.constantLong RX5 171 (4), .methodLink RX5 54 yX5_in, .static yX5_in, .initialized RX5, .code yX5_in cX5_in 6 (some .boolean)])
def wsX5_setLimit : List Cond := .code yX5_setLimit cX5_setLimit 4 (some .int) :: ([.fieldLink RX5 16 "GripInspectorModel" "now" "[I", .methodLink RX5 173 yX5_isLimit, .static yX5_isLimit, .initialized RX5, .code yX5_isLimit cX5_isLimit 3 (some .boolean), .constantLong RX5 171 (4), .methodLink RX5 54 yX5_in, .static yX5_in, .code yX5_in cX5_in 6 (some .boolean), .methodLink RX5 97 yX5_refused, .instanceMethod yX5_refused, .selects RX5 yX5_refused yX5_refused, .code yX5_refused cX5_refused 2 (some .boolean), .fieldLink RX5 42 "GripInspectorModel" "refusal" "I", .methodLink RX5 154 yX5_note, .instanceMethod yX5_note, .selects RX5 yX5_note yX5_note, .code yX5_note cX5_note 1 none, .fieldLink RX5 47 "GripInspectorModel" "acts" "I", .fieldLink RX5 22 "GripInspectorModel" "diary" "[I", .methodLink RX5 50 yX5_copy, .static yX5_copy, .code yX5_copy cX5_copy 6 none] ++ wsX50)
def wsX5_setRandom : List Cond := .code yX5_setRandom cX5_setRandom 5 (some .long) :: ([.fieldLink RX5 42 "GripInspectorModel" "refusal" "I", .fieldLink RX5 16 "GripInspectorModel" "now" "[I", .methodLink RX5 154 yX5_note, .instanceMethod yX5_note, .selects RX5 yX5_note yX5_note, .initialized RX5, .code yX5_note cX5_note 1 none, .fieldLink RX5 47 "GripInspectorModel" "acts" "I", .fieldLink RX5 22 "GripInspectorModel" "diary" "[I", .methodLink RX5 50 yX5_copy, .static yX5_copy, .code yX5_copy cX5_copy 6 none, .methodLink RX5 68 yX5_randomOf, .static yX5_randomOf, .code yX5_randomOf cX5_randomOf 1 (some .long), .constantLong RX5 58 (4294967295), .methodLink RX5 76 yX5_setRandomOn, .static yX5_setRandomOn, .code yX5_setRandomOn cX5_setRandomOn 3 none] ++ wsX50)
def wsX5_undo : List Cond := .code yX5_undo cX5_undo 1 (some .int) :: ([.fieldLink RX5 47 "GripInspectorModel" "acts" "I", .fieldLink RX5 22 "GripInspectorModel" "diary" "[I", .fieldLink RX5 16 "GripInspectorModel" "now" "[I", .methodLink RX5 97 yX5_refused, .instanceMethod yX5_refused, .selects RX5 yX5_refused yX5_refused, .initialized RX5, .code yX5_refused cX5_refused 2 (some .boolean), .fieldLink RX5 42 "GripInspectorModel" "refusal" "I", .methodLink RX5 50 yX5_copy, .static yX5_copy, .code yX5_copy cX5_copy 6 none] ++ wsX50)
def wsX5_gapOf : List Cond := .code yX5_gapOf cX5_gapOf 3 (some .int) :: ([.fieldLink RX5 16 "GripInspectorModel" "now" "[I", .fieldLink RX5 38 "GripInspectorModel" "n" "I", .methodLink RX5 60 yX5_gripAt, .static yX5_gripAt, .initialized RX5, .code yX5_gripAt cX5_gripAt 3 (some .int)] ++ wsX50)
def wsX5_gap : List Cond := .code yX5_gap cX5_gap 2 (some .int) :: ([.fieldLink RX5 16 "GripInspectorModel" "now" "[I", .methodLink RX5 138 yX5_isGrip, .instanceMethod yX5_isGrip, .selects RX5 yX5_isGrip yX5_isGrip, .initialized RX5, .code yX5_isGrip cX5_isGrip 2 (some .boolean), .methodLink RX5 54 yX5_in, .static yX5_in, .code yX5_in cX5_in 6 (some .boolean), .methodLink RX5 97 yX5_refused, .instanceMethod yX5_refused, .selects RX5 yX5_refused yX5_refused, .code yX5_refused cX5_refused 2 (some .boolean), .fieldLink RX5 42 "GripInspectorModel" "refusal" "I", .methodLink RX5 177 yX5_gapOf, .instanceMethod yX5_gapOf, .selects RX5 yX5_gapOf yX5_gapOf, .code yX5_gapOf cX5_gapOf 3 (some .int), .fieldLink RX5 38 "GripInspectorModel" "n" "I", .methodLink RX5 60 yX5_gripAt, .static yX5_gripAt, .code yX5_gripAt cX5_gripAt 3 (some .int)] ++ wsX50)
def wsX5_room_r1 : List Cond := [Cond.constantLong RX5 181 (2), Cond.fieldLink RX5 38 "GripInspectorModel" "n" "I", Cond.fieldLink RX5 16 "GripInspectorModel" "now" "[I", Cond.methodLink RX5 54 yX5_in, Cond.static yX5_in, Cond.initialized RX5, Cond.code yX5_in cX5_in 6 (some .boolean), Cond.methodLink RX5 97 yX5_refused, Cond.instanceMethod yX5_refused, Cond.selects RX5 yX5_refused yX5_refused, Cond.code yX5_refused cX5_refused 2 (some .boolean), Cond.fieldLink RX5 42 "GripInspectorModel" "refusal" "I", Cond.methodLink RX5 84 yX5_isFree, Cond.instanceMethod yX5_isFree, Cond.selects RX5 yX5_isFree yX5_isFree, Cond.code yX5_isFree cX5_isFree 5 (some .boolean), Cond.methodLink RX5 60 yX5_gripAt, Cond.static yX5_gripAt, Cond.code yX5_gripAt cX5_gripAt 3 (some .int), Cond.methodLink RX5 64 yX5_apart, Cond.instanceMethod yX5_apart, Cond.selects RX5 yX5_apart yX5_apart, Cond.code yX5_apart cX5_apart 4 (some .int), Cond.methodLink RX5 177 yX5_gapOf]
def wsX5_room_r2 : List Cond := [Cond.instanceMethod yX5_gapOf, Cond.selects RX5 yX5_gapOf yX5_gapOf, Cond.code yX5_gapOf cX5_gapOf 3 (some .int)]
def wsX5_room : List Cond := .code yX5_room cX5_room 4 (some .int) :: ((wsX5_room_r1 ++ wsX5_room_r2) ++ wsX50)
def wsX5_isLike : List Cond := .code yX5_isLike cX5_isLike 3 (some .boolean) :: ([.fieldLink RX5 16 "GripInspectorModel" "now" "[I"] ++ wsX50)
def wsX5_groups : List Cond := .code yX5_groups cX5_groups 9 (some .int) :: ([.constantLong RX5 181 (2), .fieldLink RX5 16 "GripInspectorModel" "now" "[I", .methodLink RX5 54 yX5_in, .static yX5_in, .initialized RX5, .code yX5_in cX5_in 6 (some .boolean), .methodLink RX5 97 yX5_refused, .instanceMethod yX5_refused, .selects RX5 yX5_refused yX5_refused, .code yX5_refused cX5_refused 2 (some .boolean), .fieldLink RX5 42 "GripInspectorModel" "refusal" "I", .methodLink RX5 183 yX5_isLike, .instanceMethod yX5_isLike, .selects RX5 yX5_isLike yX5_isLike, .code yX5_isLike cX5_isLike 3 (some .boolean)] ++ wsX50)
def wsX5_dueAfter : List Cond := .code yX5_dueAfter cX5_dueAfter 4 (some .int) :: ([.fieldLink RX5 16 "GripInspectorModel" "now" "[I", .fieldLink RX5 38 "GripInspectorModel" "n" "I", .methodLink RX5 138 yX5_isGrip, .instanceMethod yX5_isGrip, .selects RX5 yX5_isGrip yX5_isGrip, .initialized RX5, .code yX5_isGrip cX5_isGrip 2 (some .boolean), .methodLink RX5 54 yX5_in, .static yX5_in, .code yX5_in cX5_in 6 (some .boolean), .methodLink RX5 97 yX5_refused, .instanceMethod yX5_refused, .selects RX5 yX5_refused yX5_refused, .code yX5_refused cX5_refused 2 (some .boolean), .fieldLink RX5 42 "GripInspectorModel" "refusal" "I"] ++ wsX50)
def wsX5_chance : List Cond := .code yX5_chance cX5_chance 6 (some .int) :: ([.constantLong RX5 110 (9), .fieldLink RX5 16 "GripInspectorModel" "now" "[I", .methodLink RX5 54 yX5_in, .static yX5_in, .initialized RX5, .code yX5_in cX5_in 6 (some .boolean), .methodLink RX5 97 yX5_refused, .instanceMethod yX5_refused, .selects RX5 yX5_refused yX5_refused, .code yX5_refused cX5_refused 2 (some .boolean), .fieldLink RX5 42 "GripInspectorModel" "refusal" "I"] ++ wsX50)
def wsX5_ahead_r1 : List Cond := [Cond.constantLong RX5 152 (99), Cond.constantLong RX5 141 (7), Cond.fieldLink RX5 16 "GripInspectorModel" "now" "[I", Cond.fieldLink RX5 19 "GripInspectorModel" "trial" "[I", Cond.methodLink RX5 138 yX5_isGrip, Cond.instanceMethod yX5_isGrip, Cond.selects RX5 yX5_isGrip yX5_isGrip, Cond.initialized RX5, Cond.code yX5_isGrip cX5_isGrip 2 (some .boolean), Cond.methodLink RX5 54 yX5_in, Cond.static yX5_in, Cond.code yX5_in cX5_in 6 (some .boolean), Cond.methodLink RX5 97 yX5_refused, Cond.instanceMethod yX5_refused, Cond.selects RX5 yX5_refused yX5_refused, Cond.code yX5_refused cX5_refused 2 (some .boolean), Cond.fieldLink RX5 42 "GripInspectorModel" "refusal" "I", Cond.methodLink RX5 50 yX5_copy, Cond.static yX5_copy, Cond.code yX5_copy cX5_copy 6 none, Cond.methodLink RX5 157 yX5_stepsOn, Cond.instanceMethod yX5_stepsOn, Cond.selects RX5 yX5_stepsOn yX5_stepsOn, Cond.code yX5_stepsOn cX5_stepsOn 4 none]
def wsX5_ahead_r2 : List Cond := [Cond.fieldLink RX5 32 "GripInspectorModel" "counts" "[I", Cond.methodLink RX5 88 yX5_stepOn, Cond.instanceMethod yX5_stepOn, Cond.selects RX5 yX5_stepOn yX5_stepOn, Cond.code yX5_stepOn cX5_stepOn 9 none, Cond.fieldLink RX5 38 "GripInspectorModel" "n" "I", Cond.constantLong RX5 72 (6364136223846793005), Cond.constantLong RX5 74 (1442695040888963407), Cond.methodLink RX5 68 yX5_randomOf, Cond.static yX5_randomOf, Cond.code yX5_randomOf cX5_randomOf 1 (some .long), Cond.constantLong RX5 58 (4294967295), Cond.methodLink RX5 76 yX5_setRandomOn, Cond.static yX5_setRandomOn, Cond.code yX5_setRandomOn cX5_setRandomOn 3 none, Cond.methodLink RX5 60 yX5_gripAt, Cond.static yX5_gripAt, Cond.code yX5_gripAt cX5_gripAt 3 (some .int), Cond.methodLink RX5 80 yX5_pass, Cond.instanceMethod yX5_pass, Cond.selects RX5 yX5_pass yX5_pass, Cond.code yX5_pass cX5_pass 5 (some .int), Cond.methodLink RX5 84 yX5_isFree, Cond.instanceMethod yX5_isFree]
def wsX5_ahead_r3 : List Cond := [Cond.selects RX5 yX5_isFree yX5_isFree, Cond.code yX5_isFree cX5_isFree 5 (some .boolean), Cond.methodLink RX5 64 yX5_apart, Cond.instanceMethod yX5_apart, Cond.selects RX5 yX5_apart yX5_apart, Cond.code yX5_apart cX5_apart 4 (some .int), Cond.methodLink RX5 143 yX5_detail, Cond.static yX5_detail, Cond.code yX5_detail cX5_detail 3 (some .int)]
def wsX5_ahead : List Cond := .code yX5_ahead cX5_ahead 4 (some .int) :: ((wsX5_ahead_r1 ++ (wsX5_ahead_r2 ++ wsX5_ahead_r3)) ++ wsX50)
def wsX5_happens_r1 : List Cond := [Cond.constantLong RX5 152 (99), Cond.constantLong RX5 161 (3), Cond.fieldLink RX5 16 "GripInspectorModel" "now" "[I", Cond.fieldLink RX5 19 "GripInspectorModel" "trial" "[I", Cond.fieldLink RX5 32 "GripInspectorModel" "counts" "[I", Cond.methodLink RX5 54 yX5_in, Cond.static yX5_in, Cond.initialized RX5, Cond.code yX5_in cX5_in 6 (some .boolean), Cond.methodLink RX5 97 yX5_refused, Cond.instanceMethod yX5_refused, Cond.selects RX5 yX5_refused yX5_refused, Cond.code yX5_refused cX5_refused 2 (some .boolean), Cond.fieldLink RX5 42 "GripInspectorModel" "refusal" "I", Cond.methodLink RX5 50 yX5_copy, Cond.static yX5_copy, Cond.code yX5_copy cX5_copy 6 none, Cond.methodLink RX5 157 yX5_stepsOn, Cond.instanceMethod yX5_stepsOn, Cond.selects RX5 yX5_stepsOn yX5_stepsOn, Cond.code yX5_stepsOn cX5_stepsOn 4 none, Cond.methodLink RX5 88 yX5_stepOn, Cond.instanceMethod yX5_stepOn, Cond.selects RX5 yX5_stepOn yX5_stepOn]
def wsX5_happens_r2 : List Cond := [Cond.code yX5_stepOn cX5_stepOn 9 none, Cond.fieldLink RX5 38 "GripInspectorModel" "n" "I", Cond.constantLong RX5 72 (6364136223846793005), Cond.constantLong RX5 74 (1442695040888963407), Cond.methodLink RX5 68 yX5_randomOf, Cond.static yX5_randomOf, Cond.code yX5_randomOf cX5_randomOf 1 (some .long), Cond.constantLong RX5 58 (4294967295), Cond.methodLink RX5 76 yX5_setRandomOn, Cond.static yX5_setRandomOn, Cond.code yX5_setRandomOn cX5_setRandomOn 3 none, Cond.methodLink RX5 60 yX5_gripAt, Cond.static yX5_gripAt, Cond.code yX5_gripAt cX5_gripAt 3 (some .int), Cond.methodLink RX5 80 yX5_pass, Cond.instanceMethod yX5_pass, Cond.selects RX5 yX5_pass yX5_pass, Cond.code yX5_pass cX5_pass 5 (some .int), Cond.methodLink RX5 84 yX5_isFree, Cond.instanceMethod yX5_isFree, Cond.selects RX5 yX5_isFree yX5_isFree, Cond.code yX5_isFree cX5_isFree 5 (some .boolean), Cond.methodLink RX5 64 yX5_apart, Cond.instanceMethod yX5_apart]
def wsX5_happens_r3 : List Cond := [Cond.selects RX5 yX5_apart yX5_apart, Cond.code yX5_apart cX5_apart 4 (some .int)]
def wsX5_happens : List Cond := .code yX5_happens cX5_happens 3 (some .int) :: ((wsX5_happens_r1 ++ (wsX5_happens_r2 ++ wsX5_happens_r3)) ++ wsX50)
def wsX5_bestLimit_r1 : List Cond := [Cond.constantLong RX5 152 (99), Cond.fieldLink RX5 16 "GripInspectorModel" "now" "[I", Cond.fieldLink RX5 19 "GripInspectorModel" "trial" "[I", Cond.fieldLink RX5 32 "GripInspectorModel" "counts" "[I", Cond.methodLink RX5 54 yX5_in, Cond.static yX5_in, Cond.initialized RX5, Cond.code yX5_in cX5_in 6 (some .boolean), Cond.methodLink RX5 97 yX5_refused, Cond.instanceMethod yX5_refused, Cond.selects RX5 yX5_refused yX5_refused, Cond.code yX5_refused cX5_refused 2 (some .boolean), Cond.fieldLink RX5 42 "GripInspectorModel" "refusal" "I", Cond.methodLink RX5 50 yX5_copy, Cond.static yX5_copy, Cond.code yX5_copy cX5_copy 6 none, Cond.methodLink RX5 157 yX5_stepsOn, Cond.instanceMethod yX5_stepsOn, Cond.selects RX5 yX5_stepsOn yX5_stepsOn, Cond.code yX5_stepsOn cX5_stepsOn 4 none, Cond.methodLink RX5 88 yX5_stepOn, Cond.instanceMethod yX5_stepOn, Cond.selects RX5 yX5_stepOn yX5_stepOn, Cond.code yX5_stepOn cX5_stepOn 9 none]
def wsX5_bestLimit_r2 : List Cond := [Cond.fieldLink RX5 38 "GripInspectorModel" "n" "I", Cond.constantLong RX5 72 (6364136223846793005), Cond.constantLong RX5 74 (1442695040888963407), Cond.methodLink RX5 68 yX5_randomOf, Cond.static yX5_randomOf, Cond.code yX5_randomOf cX5_randomOf 1 (some .long), Cond.constantLong RX5 58 (4294967295), Cond.methodLink RX5 76 yX5_setRandomOn, Cond.static yX5_setRandomOn, Cond.code yX5_setRandomOn cX5_setRandomOn 3 none, Cond.methodLink RX5 60 yX5_gripAt, Cond.static yX5_gripAt, Cond.code yX5_gripAt cX5_gripAt 3 (some .int), Cond.methodLink RX5 80 yX5_pass, Cond.instanceMethod yX5_pass, Cond.selects RX5 yX5_pass yX5_pass, Cond.code yX5_pass cX5_pass 5 (some .int), Cond.methodLink RX5 84 yX5_isFree, Cond.instanceMethod yX5_isFree, Cond.selects RX5 yX5_isFree yX5_isFree, Cond.code yX5_isFree cX5_isFree 5 (some .boolean), Cond.methodLink RX5 64 yX5_apart, Cond.instanceMethod yX5_apart, Cond.selects RX5 yX5_apart yX5_apart]
def wsX5_bestLimit_r3 : List Cond := [Cond.code yX5_apart cX5_apart 4 (some .int)]
def wsX5_bestLimit : List Cond := .code yX5_bestLimit cX5_bestLimit 3 (some .int) :: ((wsX5_bestLimit_r1 ++ (wsX5_bestLimit_r2 ++ wsX5_bestLimit_r3)) ++ wsX50)
def wsX5_emptyAfter_r1 : List Cond := [Cond.fieldLink RX5 42 "GripInspectorModel" "refusal" "I", Cond.fieldLink RX5 16 "GripInspectorModel" "now" "[I", Cond.fieldLink RX5 19 "GripInspectorModel" "trial" "[I", Cond.methodLink RX5 50 yX5_copy, Cond.static yX5_copy, Cond.initialized RX5, Cond.code yX5_copy cX5_copy 6 none, Cond.methodLink RX5 115 yX5_count, Cond.static yX5_count, Cond.code yX5_count cX5_count 4 (some .int), Cond.methodLink RX5 88 yX5_stepOn, Cond.instanceMethod yX5_stepOn, Cond.selects RX5 yX5_stepOn yX5_stepOn, Cond.code yX5_stepOn cX5_stepOn 9 none, Cond.fieldLink RX5 38 "GripInspectorModel" "n" "I", Cond.constantLong RX5 72 (6364136223846793005), Cond.constantLong RX5 74 (1442695040888963407), Cond.fieldLink RX5 32 "GripInspectorModel" "counts" "[I", Cond.methodLink RX5 68 yX5_randomOf, Cond.static yX5_randomOf, Cond.code yX5_randomOf cX5_randomOf 1 (some .long), Cond.constantLong RX5 58 (4294967295), Cond.methodLink RX5 76 yX5_setRandomOn, Cond.static yX5_setRandomOn]
def wsX5_emptyAfter_r2 : List Cond := [Cond.code yX5_setRandomOn cX5_setRandomOn 3 none, Cond.methodLink RX5 60 yX5_gripAt, Cond.static yX5_gripAt, Cond.code yX5_gripAt cX5_gripAt 3 (some .int), Cond.methodLink RX5 80 yX5_pass, Cond.instanceMethod yX5_pass, Cond.selects RX5 yX5_pass yX5_pass, Cond.code yX5_pass cX5_pass 5 (some .int), Cond.methodLink RX5 84 yX5_isFree, Cond.instanceMethod yX5_isFree, Cond.selects RX5 yX5_isFree yX5_isFree, Cond.code yX5_isFree cX5_isFree 5 (some .boolean), Cond.methodLink RX5 64 yX5_apart, Cond.instanceMethod yX5_apart, Cond.selects RX5 yX5_apart yX5_apart, Cond.code yX5_apart cX5_apart 4 (some .int)]
def wsX5_emptyAfter : List Cond := .code yX5_emptyAfter cX5_emptyAfter 2 (some .int) :: ((wsX5_emptyAfter_r1 ++ wsX5_emptyAfter_r2) ++ wsX50)
def wsX5_command_r1 : List Cond := [Cond.fieldLink RX5 19 "GripInspectorModel" "trial" "[I", Cond.methodLink RX5 157 yX5_stepsOn, Cond.instanceMethod yX5_stepsOn, Cond.selects RX5 yX5_stepsOn yX5_stepsOn, Cond.initialized RX5, Cond.code yX5_stepsOn cX5_stepsOn 4 none, Cond.fieldLink RX5 32 "GripInspectorModel" "counts" "[I", Cond.methodLink RX5 88 yX5_stepOn, Cond.instanceMethod yX5_stepOn, Cond.selects RX5 yX5_stepOn yX5_stepOn, Cond.code yX5_stepOn cX5_stepOn 9 none, Cond.fieldLink RX5 38 "GripInspectorModel" "n" "I", Cond.constantLong RX5 72 (6364136223846793005), Cond.constantLong RX5 74 (1442695040888963407), Cond.methodLink RX5 68 yX5_randomOf, Cond.static yX5_randomOf, Cond.code yX5_randomOf cX5_randomOf 1 (some .long), Cond.constantLong RX5 58 (4294967295), Cond.methodLink RX5 76 yX5_setRandomOn, Cond.static yX5_setRandomOn, Cond.code yX5_setRandomOn cX5_setRandomOn 3 none, Cond.methodLink RX5 60 yX5_gripAt, Cond.static yX5_gripAt, Cond.code yX5_gripAt cX5_gripAt 3 (some .int)]
def wsX5_command_r2 : List Cond := [Cond.methodLink RX5 80 yX5_pass, Cond.instanceMethod yX5_pass, Cond.selects RX5 yX5_pass yX5_pass, Cond.code yX5_pass cX5_pass 5 (some .int), Cond.methodLink RX5 84 yX5_isFree, Cond.instanceMethod yX5_isFree, Cond.selects RX5 yX5_isFree yX5_isFree, Cond.code yX5_isFree cX5_isFree 5 (some .boolean), Cond.methodLink RX5 64 yX5_apart, Cond.instanceMethod yX5_apart, Cond.selects RX5 yX5_apart yX5_apart, Cond.code yX5_apart cX5_apart 4 (some .int), Cond.methodLink RX5 146 yX5_isSlot, Cond.instanceMethod yX5_isSlot, Cond.selects RX5 yX5_isSlot yX5_isSlot, Cond.code yX5_isSlot cX5_isSlot 2 (some .boolean), Cond.methodLink RX5 54 yX5_in, Cond.static yX5_in, Cond.code yX5_in cX5_in 6 (some .boolean), Cond.methodLink RX5 163 yX5_canPut, Cond.instanceMethod yX5_canPut, Cond.selects RX5 yX5_canPut yX5_canPut, Cond.code yX5_canPut cX5_canPut 4 (some .boolean), Cond.methodLink RX5 167 yX5_putAt]
def wsX5_command_r3 : List Cond := [Cond.static yX5_putAt, Cond.code yX5_putAt cX5_putAt 3 none, Cond.methodLink RX5 173 yX5_isLimit, Cond.static yX5_isLimit, Cond.code yX5_isLimit cX5_isLimit 3 (some .boolean), Cond.constantLong RX5 171 (4), Cond.methodLink RX5 115 yX5_count, Cond.static yX5_count, Cond.code yX5_count cX5_count 4 (some .int)]
def wsX5_command : List Cond := .code yX5_command cX5_command 7 (some .boolean) :: ((wsX5_command_r1 ++ (wsX5_command_r2 ++ wsX5_command_r3)) ++ wsX50)
def wsX5_runScript_r1 : List Cond := [Cond.constantLong RX5 161 (3), Cond.fieldLink RX5 16 "GripInspectorModel" "now" "[I", Cond.fieldLink RX5 19 "GripInspectorModel" "trial" "[I", Cond.constantLong RX5 190 (100000), Cond.methodLink RX5 54 yX5_in, Cond.static yX5_in, Cond.initialized RX5, Cond.code yX5_in cX5_in 6 (some .boolean), Cond.methodLink RX5 186 yX5_tenTo, Cond.static yX5_tenTo, Cond.code yX5_tenTo cX5_tenTo 4 (some .long), Cond.constantLong RX5 45 (10), Cond.methodLink RX5 97 yX5_refused, Cond.instanceMethod yX5_refused, Cond.selects RX5 yX5_refused yX5_refused, Cond.code yX5_refused cX5_refused 2 (some .boolean), Cond.fieldLink RX5 42 "GripInspectorModel" "refusal" "I", Cond.methodLink RX5 50 yX5_copy, Cond.static yX5_copy, Cond.code yX5_copy cX5_copy 6 none, Cond.methodLink RX5 192 yX5_command, Cond.instanceMethod yX5_command, Cond.selects RX5 yX5_command yX5_command, Cond.code yX5_command cX5_command 7 (some .boolean)]
def wsX5_runScript_r2 : List Cond := [Cond.methodLink RX5 157 yX5_stepsOn, Cond.instanceMethod yX5_stepsOn, Cond.selects RX5 yX5_stepsOn yX5_stepsOn, Cond.code yX5_stepsOn cX5_stepsOn 4 none, Cond.fieldLink RX5 32 "GripInspectorModel" "counts" "[I", Cond.methodLink RX5 88 yX5_stepOn, Cond.instanceMethod yX5_stepOn, Cond.selects RX5 yX5_stepOn yX5_stepOn, Cond.code yX5_stepOn cX5_stepOn 9 none, Cond.fieldLink RX5 38 "GripInspectorModel" "n" "I", Cond.constantLong RX5 72 (6364136223846793005), Cond.constantLong RX5 74 (1442695040888963407), Cond.methodLink RX5 68 yX5_randomOf, Cond.static yX5_randomOf, Cond.code yX5_randomOf cX5_randomOf 1 (some .long), Cond.constantLong RX5 58 (4294967295), Cond.methodLink RX5 76 yX5_setRandomOn, Cond.static yX5_setRandomOn, Cond.code yX5_setRandomOn cX5_setRandomOn 3 none, Cond.methodLink RX5 60 yX5_gripAt, Cond.static yX5_gripAt, Cond.code yX5_gripAt cX5_gripAt 3 (some .int), Cond.methodLink RX5 80 yX5_pass, Cond.instanceMethod yX5_pass]
def wsX5_runScript_r3 : List Cond := [Cond.selects RX5 yX5_pass yX5_pass, Cond.code yX5_pass cX5_pass 5 (some .int), Cond.methodLink RX5 84 yX5_isFree, Cond.instanceMethod yX5_isFree, Cond.selects RX5 yX5_isFree yX5_isFree, Cond.code yX5_isFree cX5_isFree 5 (some .boolean), Cond.methodLink RX5 64 yX5_apart, Cond.instanceMethod yX5_apart, Cond.selects RX5 yX5_apart yX5_apart, Cond.code yX5_apart cX5_apart 4 (some .int), Cond.methodLink RX5 146 yX5_isSlot, Cond.instanceMethod yX5_isSlot, Cond.selects RX5 yX5_isSlot yX5_isSlot, Cond.code yX5_isSlot cX5_isSlot 2 (some .boolean), Cond.methodLink RX5 163 yX5_canPut, Cond.instanceMethod yX5_canPut, Cond.selects RX5 yX5_canPut yX5_canPut, Cond.code yX5_canPut cX5_canPut 4 (some .boolean), Cond.methodLink RX5 167 yX5_putAt, Cond.static yX5_putAt, Cond.code yX5_putAt cX5_putAt 3 none, Cond.methodLink RX5 173 yX5_isLimit, Cond.static yX5_isLimit, Cond.code yX5_isLimit cX5_isLimit 3 (some .boolean)]
def wsX5_runScript_r4 : List Cond := [Cond.constantLong RX5 171 (4), Cond.methodLink RX5 115 yX5_count, Cond.static yX5_count, Cond.code yX5_count cX5_count 4 (some .int)]
def wsX5_runScript : List Cond := .code yX5_runScript cX5_runScript 5 (some .int) :: ((wsX5_runScript_r1 ++ (wsX5_runScript_r2 ++ (wsX5_runScript_r3 ++ wsX5_runScript_r4))) ++ wsX50)
def wsX5_simulate_r1 : List Cond := [Cond.constantLong RX5 152 (99), Cond.fieldLink RX5 16 "GripInspectorModel" "now" "[I", Cond.fieldLink RX5 19 "GripInspectorModel" "trial" "[I", Cond.methodLink RX5 54 yX5_in, Cond.static yX5_in, Cond.initialized RX5, Cond.code yX5_in cX5_in 6 (some .boolean), Cond.methodLink RX5 97 yX5_refused, Cond.instanceMethod yX5_refused, Cond.selects RX5 yX5_refused yX5_refused, Cond.code yX5_refused cX5_refused 2 (some .boolean), Cond.fieldLink RX5 42 "GripInspectorModel" "refusal" "I", Cond.methodLink RX5 50 yX5_copy, Cond.static yX5_copy, Cond.code yX5_copy cX5_copy 6 none, Cond.methodLink RX5 76 yX5_setRandomOn, Cond.static yX5_setRandomOn, Cond.code yX5_setRandomOn cX5_setRandomOn 3 none, Cond.methodLink RX5 157 yX5_stepsOn, Cond.instanceMethod yX5_stepsOn, Cond.selects RX5 yX5_stepsOn yX5_stepsOn, Cond.code yX5_stepsOn cX5_stepsOn 4 none, Cond.fieldLink RX5 32 "GripInspectorModel" "counts" "[I", Cond.methodLink RX5 88 yX5_stepOn]
def wsX5_simulate_r2 : List Cond := [Cond.instanceMethod yX5_stepOn, Cond.selects RX5 yX5_stepOn yX5_stepOn, Cond.code yX5_stepOn cX5_stepOn 9 none, Cond.fieldLink RX5 38 "GripInspectorModel" "n" "I", Cond.constantLong RX5 72 (6364136223846793005), Cond.constantLong RX5 74 (1442695040888963407), Cond.methodLink RX5 68 yX5_randomOf, Cond.static yX5_randomOf, Cond.code yX5_randomOf cX5_randomOf 1 (some .long), Cond.constantLong RX5 58 (4294967295), Cond.methodLink RX5 60 yX5_gripAt, Cond.static yX5_gripAt, Cond.code yX5_gripAt cX5_gripAt 3 (some .int), Cond.methodLink RX5 80 yX5_pass, Cond.instanceMethod yX5_pass, Cond.selects RX5 yX5_pass yX5_pass, Cond.code yX5_pass cX5_pass 5 (some .int), Cond.methodLink RX5 84 yX5_isFree, Cond.instanceMethod yX5_isFree, Cond.selects RX5 yX5_isFree yX5_isFree, Cond.code yX5_isFree cX5_isFree 5 (some .boolean), Cond.methodLink RX5 64 yX5_apart, Cond.instanceMethod yX5_apart, Cond.selects RX5 yX5_apart yX5_apart]
def wsX5_simulate_r3 : List Cond := [Cond.code yX5_apart cX5_apart 4 (some .int), Cond.methodLink RX5 115 yX5_count, Cond.static yX5_count, Cond.code yX5_count cX5_count 4 (some .int)]
def wsX5_simulate : List Cond := .code yX5_simulate cX5_simulate 6 (some .int) :: ((wsX5_simulate_r1 ++ (wsX5_simulate_r2 ++ wsX5_simulate_r3)) ++ wsX50)
def wsX5_save : List Cond := .code yX5_save cX5_save 2 (some .int) :: ([.fieldLink RX5 28 "GripInspectorModel" "isKept" "[Z", .fieldLink RX5 16 "GripInspectorModel" "now" "[I", .fieldLink RX5 25 "GripInspectorModel" "kept" "[I", .methodLink RX5 54 yX5_in, .static yX5_in, .initialized RX5, .code yX5_in cX5_in 6 (some .boolean), .methodLink RX5 97 yX5_refused, .instanceMethod yX5_refused, .selects RX5 yX5_refused yX5_refused, .code yX5_refused cX5_refused 2 (some .boolean), .fieldLink RX5 42 "GripInspectorModel" "refusal" "I", .methodLink RX5 50 yX5_copy, .static yX5_copy, .code yX5_copy cX5_copy 6 none] ++ wsX50)
def wsX5_restore : List Cond := .code yX5_restore cX5_restore 2 (some .int) :: ([.fieldLink RX5 28 "GripInspectorModel" "isKept" "[Z", .fieldLink RX5 25 "GripInspectorModel" "kept" "[I", .fieldLink RX5 16 "GripInspectorModel" "now" "[I", .fieldLink RX5 47 "GripInspectorModel" "acts" "I", .methodLink RX5 54 yX5_in, .static yX5_in, .initialized RX5, .code yX5_in cX5_in 6 (some .boolean), .methodLink RX5 97 yX5_refused, .instanceMethod yX5_refused, .selects RX5 yX5_refused yX5_refused, .code yX5_refused cX5_refused 2 (some .boolean), .fieldLink RX5 42 "GripInspectorModel" "refusal" "I", .methodLink RX5 50 yX5_copy, .static yX5_copy, .code yX5_copy cX5_copy 6 none] ++ wsX50)
def wsJ9_max_7cf53 : List Cond := .code yJ9_max_7cf53 cJ9_max_7cf53 2 (some .int) :: ([])
def wsJ9_min_7cf53 : List Cond := .code yJ9_min_7cf53 cJ9_min_7cf53 2 (some .int) :: ([])
def wsL_append_r1 : List Cond := [Cond.classLink RL 13 "java/lang/IllegalArgumentException", Cond.classLink RL 15 "java/lang/IllegalStateException", Cond.methodLink RL 7 yX4_append, Cond.instanceMethod yX4_append, Cond.selects RX4 yX4_append yX4_append, Cond.initialized RX4, Cond.code yX4_append cX4_append 2 (some .int), Cond.classLink RX4 56 "java/lang/IllegalArgumentException", Cond.initialized "java/lang/IllegalArgumentException", Cond.classLink RX4 70 "java/lang/IllegalStateException", Cond.initialized "java/lang/IllegalStateException", Cond.fieldLink RX4 22 "GripInspector" "text" "LGripInspector$LiftText;", Cond.fieldLink RX4 63 "GripInspector$LiftText" "signs" "LGripInspector$Signs;", Cond.fieldLink RX4 79 "GripInspector$Signs" "length" "I", Cond.methodLink RX4 66 yX3_isFull, Cond.instanceMethod yX3_isFull, Cond.selects RX3 yX3_isFull yX3_isFull, Cond.initialized RX3, Cond.code yX3_isFull cX3_isFull 1 (some .boolean), Cond.fieldLink RX3 15 "GripInspector$Signs" "length" "I", Cond.methodLink RX4 75 yX3_put, Cond.instanceMethod yX3_put, Cond.selects RX3 yX3_put yX3_put, Cond.code yX3_put cX3_put 2 none]
def wsL_append_r2 : List Cond := [Cond.fieldLink RX3 9 "GripInspector$Signs" "row" "[C"]
def wsL_append : List Cond := .codeWith yL_append cL_append 4 (some .int) [(0, 9, 12, 13), (0, 9, 15, 15)] :: ((wsL_append_r1 ++ wsL_append_r2) ++ wsX40 ++ wsX10 ++ wsX30 ++ (vx_atS RX4 60 "java/lang/IllegalArgumentException" ["java/lang/RuntimeException", "java/lang/Exception"]).filter goodWord ++ (vx_atS RX4 74 "java/lang/IllegalStateException" ["java/lang/RuntimeException", "java/lang/Exception"]).filter goodWord)
def wsL_load_r1 : List Cond := [Cond.classLink RL 15 "java/lang/IllegalStateException", Cond.methodLink RL 17 yX4_load, Cond.instanceMethod yX4_load, Cond.selects RX4 yX4_load yX4_load, Cond.initialized RX4, Cond.code yX4_load cX4_load 2 (some .int), Cond.classLink RX4 70 "java/lang/IllegalStateException", Cond.initialized "java/lang/IllegalStateException", Cond.fieldLink RX4 22 "GripInspector" "text" "LGripInspector$LiftText;", Cond.fieldLink RX4 10 "GripInspector" "lift" "LGripInspector$Lift;", Cond.fieldLink RX4 91 "GripInspector$LiftText" "draft" "LGripInspector$Lift;", Cond.fieldLink RX4 49 "GripInspector" "remembered" "I", Cond.fieldLink RX4 45 "GripInspector" "saved" "[Z", Cond.methodLink RX4 85 yX1_findError, Cond.instanceMethod yX1_findError, Cond.selects RX1 yX1_findError yX1_findError, Cond.initialized RX1, Cond.code yX1_findError cX1_findError 3 (some .int), Cond.fieldLink RX1 25 "GripInspector$LiftText" "at" "I", Cond.fieldLink RX1 21 "GripInspector$LiftText" "draft" "LGripInspector$Lift;", Cond.fieldLink RX1 12 "GripInspector$LiftText" "signs" "LGripInspector$Signs;", Cond.fieldLink RX1 36 "GripInspector$Signs" "length" "I", Cond.methodLink RX1 29 yX0_clear, Cond.instanceMethod yX0_clear]
def wsL_load_r2 : List Cond := [Cond.selects RX0 yX0_clear yX0_clear, Cond.initialized RX0, Cond.code yX0_clear cX0_clear 2 none, Cond.fieldLink RX0 27 "GripInspector$Lift" "place" "[I", Cond.fieldLink RX0 46 "GripInspector$Lift" "station" "I", Cond.fieldLink RX0 49 "GripInspector$Lift" "clock" "I", Cond.fieldLink RX0 52 "GripInspector$Lift" "randomState" "J", Cond.methodLink RX1 32 yX1_readHead, Cond.instanceMethod yX1_readHead, Cond.selects RX1 yX1_readHead yX1_readHead, Cond.code yX1_readHead cX1_readHead 5 (some .boolean), Cond.fieldLink RX1 49 "GripInspector$Lift" "n" "I", Cond.fieldLink RX1 60 "GripInspector$Lift" "limits" "[I", Cond.methodLink RX1 42 yX3_at, Cond.instanceMethod yX3_at, Cond.selects RX3 yX3_at yX3_at, Cond.initialized RX3, Cond.code yX3_at cX3_at 2 (some .int), Cond.fieldLink RX3 15 "GripInspector$Signs" "length" "I", Cond.fieldLink RX3 9 "GripInspector$Signs" "row" "[C", Cond.methodLink RX1 45 yX1_readPair, Cond.instanceMethod yX1_readPair, Cond.selects RX1 yX1_readPair yX1_readPair, Cond.code yX1_readPair cX1_readPair 6 (some .int)]
def wsL_load_r3 : List Cond := [Cond.methodLink RX1 78 yX1_isBegin, Cond.instanceMethod yX1_isBegin, Cond.selects RX1 yX1_isBegin yX1_isBegin, Cond.code yX1_isBegin cX1_isBegin 6 (some .boolean), Cond.methodLink RX1 82 yX1_isAllowed, Cond.instanceMethod yX1_isAllowed, Cond.selects RX1 yX1_isAllowed yX1_isAllowed, Cond.code yX1_isAllowed cX1_isAllowed 5 (some .boolean), Cond.methodLink RX1 85 yX0_gripAt, Cond.instanceMethod yX0_gripAt, Cond.selects RX0 yX0_gripAt yX0_gripAt, Cond.code yX0_gripAt cX0_gripAt 3 (some .int), Cond.fieldLink RX0 30 "GripInspector$Lift" "spot" "[I", Cond.methodLink RX1 56 yX1_readDigit, Cond.instanceMethod yX1_readDigit, Cond.selects RX1 yX1_readDigit yX1_readDigit, Cond.code yX1_readDigit cX1_readDigit 4 (some .int), Cond.methodLink RX1 39 yX1_readItem, Cond.instanceMethod yX1_readItem, Cond.selects RX1 yX1_readItem yX1_readItem, Cond.code yX1_readItem cX1_readItem 6 (some .boolean), Cond.methodLink RX1 63 yX0_grips, Cond.instanceMethod yX0_grips, Cond.selects RX0 yX0_grips yX0_grips]
def wsL_load_r4 : List Cond := [Cond.code yX0_grips cX0_grips 1 (some .int), Cond.methodLink RX0 62 yX0_count, Cond.instanceMethod yX0_count, Cond.selects RX0 yX0_count yX0_count, Cond.code yX0_count cX0_count 4 (some .int), Cond.methodLink RX1 67 yX0_count, Cond.methodLink RX1 70 yX0_add, Cond.instanceMethod yX0_add, Cond.selects RX0 yX0_add yX0_add, Cond.code yX0_add cX0_add 3 none, Cond.fieldLink RX0 9 "GripInspector$Lift" "weight" "[I", Cond.fieldLink RX0 15 "GripInspector$Lift" "cycles" "[I", Cond.fieldLink RX0 18 "GripInspector$Lift" "wear" "[I", Cond.fieldLink RX0 21 "GripInspector$Lift" "pulls" "[I", Cond.fieldLink RX0 24 "GripInspector$Lift" "lastSlip" "[I", Cond.methodLink RX0 66 yX0_grips, Cond.methodLink RX1 74 yX0_hang, Cond.instanceMethod yX0_hang, Cond.selects RX0 yX0_hang yX0_hang, Cond.code yX0_hang cX0_hang 3 none, Cond.methodLink RX4 94 yX0_become, Cond.instanceMethod yX0_become, Cond.selects RX0 yX0_become yX0_become, Cond.code yX0_become cX0_become 2 none]
def wsL_load_r5 : List Cond := [Cond.methodLink RX0 56 arraycopyName, Cond.native arraycopyName, Cond.static arraycopyName, Cond.initialized "java/lang/System", Cond.fieldLink RX0 33 "GripInspector$Lift" "stepsLeft" "[I", Cond.fieldLink RX0 36 "GripInspector$Lift" "limits" "[I", Cond.fieldLink RX0 42 "GripInspector$Lift" "n" "I", Cond.methodLink RX4 98 yX0_grips]
def wsL_load : List Cond := .codeWith yL_load cL_load 3 (some .int) [(0, 8, 11, 15)] :: ((wsL_load_r1 ++ (wsL_load_r2 ++ (wsL_load_r3 ++ (wsL_load_r4 ++ wsL_load_r5)))) ++ wsX40 ++ wsX10 ++ wsX30 ++ wsX00 ++ (vx_atS RX4 74 "java/lang/IllegalStateException" ["java/lang/RuntimeException", "java/lang/Exception"]).filter goodWord)
def wsL_about : List Cond := .codeWith yL_about cL_about 4 (some .int) [(0, 9, 12, 13)] :: ([.classLink RL 13 "java/lang/IllegalArgumentException", .methodLink RL 21 yX4_about, .instanceMethod yX4_about, .selects RX4 yX4_about yX4_about, .initialized RX4, .code yX4_about cX4_about 2 (some .int), .classLink RX4 56 "java/lang/IllegalArgumentException", .initialized "java/lang/IllegalArgumentException", .fieldLink RX4 10 "GripInspector" "lift" "LGripInspector$Lift;", .fieldLink RX4 101 "GripInspector$Lift" "n" "I", .fieldLink RX4 108 "GripInspector$Lift" "station" "I", .fieldLink RX4 111 "GripInspector$Lift" "clock" "I", .fieldLink RX4 114 "GripInspector$Lift" "limits" "[I", .methodLink RX4 98 yX0_grips, .instanceMethod yX0_grips, .selects RX0 yX0_grips yX0_grips, .initialized RX0, .code yX0_grips cX0_grips 1 (some .int), .methodLink RX0 62 yX0_count, .instanceMethod yX0_count, .selects RX0 yX0_count yX0_count, .code yX0_count cX0_count 4 (some .int), .fieldLink RX0 27 "GripInspector$Lift" "place" "[I", .methodLink RX4 104 yX0_count] ++ wsX40 ++ wsX00 ++ (vx_atS RX4 60 "java/lang/IllegalArgumentException" ["java/lang/RuntimeException", "java/lang/Exception"]).filter goodWord)
def wsL_grip_r1 : List Cond := [Cond.classLink RL 28 "java/lang/IndexOutOfBoundsException", Cond.classLink RL 13 "java/lang/IllegalArgumentException", Cond.methodLink RL 24 yX4_grip, Cond.instanceMethod yX4_grip, Cond.selects RX4 yX4_grip yX4_grip, Cond.initialized RX4, Cond.code yX4_grip cX4_grip 3 (some .int), Cond.classLink RX4 124 "java/lang/IndexOutOfBoundsException", Cond.initialized "java/lang/IndexOutOfBoundsException", Cond.classLink RX4 56 "java/lang/IllegalArgumentException", Cond.initialized "java/lang/IllegalArgumentException", Cond.fieldLink RX4 10 "GripInspector" "lift" "LGripInspector$Lift;", Cond.methodLink RX4 120 yX0_has, Cond.instanceMethod yX0_has, Cond.selects RX0 yX0_has yX0_has, Cond.initialized RX0, Cond.code yX0_has cX0_has 2 (some .boolean), Cond.fieldLink RX0 27 "GripInspector$Lift" "place" "[I", Cond.methodLink RX4 129 yX4_isGripNumber, Cond.static yX4_isGripNumber, Cond.code yX4_isGripNumber cX4_isGripNumber 1 (some .boolean), Cond.methodLink RX4 134 yX0_number, Cond.instanceMethod yX0_number, Cond.selects RX0 yX0_number yX0_number]
def wsL_grip_r2 : List Cond := [Cond.code yX0_number cX0_number 3 (some .int), Cond.fieldLink RX0 9 "GripInspector$Lift" "weight" "[I", Cond.fieldLink RX0 15 "GripInspector$Lift" "cycles" "[I", Cond.fieldLink RX0 18 "GripInspector$Lift" "wear" "[I", Cond.fieldLink RX0 21 "GripInspector$Lift" "pulls" "[I", Cond.fieldLink RX0 24 "GripInspector$Lift" "lastSlip" "[I", Cond.fieldLink RX0 30 "GripInspector$Lift" "spot" "[I", Cond.fieldLink RX0 33 "GripInspector$Lift" "stepsLeft" "[I"]
def wsL_grip : List Cond := .codeWith yL_grip cL_grip 5 (some .int) [(0, 10, 13, 28), (0, 10, 17, 13)] :: ((wsL_grip_r1 ++ wsL_grip_r2) ++ wsX40 ++ wsX00 ++ (vx_atS RX4 128 "java/lang/IndexOutOfBoundsException" ["java/lang/RuntimeException", "java/lang/Exception"]).filter goodWord ++ (vx_atS RX4 60 "java/lang/IllegalArgumentException" ["java/lang/RuntimeException", "java/lang/Exception"]).filter goodWord)
def wsL_slot : List Cond := .codeWith yL_slot cL_slot 4 (some .int) [(0, 9, 12, 28)] :: ([.classLink RL 28 "java/lang/IndexOutOfBoundsException", .methodLink RL 30 yX4_slot, .instanceMethod yX4_slot, .selects RX4 yX4_slot yX4_slot, .initialized RX4, .code yX4_slot cX4_slot 2 (some .int), .classLink RX4 124 "java/lang/IndexOutOfBoundsException", .initialized "java/lang/IndexOutOfBoundsException", .fieldLink RX4 10 "GripInspector" "lift" "LGripInspector$Lift;", .methodLink RX4 138 yX0_hasSlot, .instanceMethod yX0_hasSlot, .selects RX0 yX0_hasSlot yX0_hasSlot, .initialized RX0, .code yX0_hasSlot cX0_hasSlot 2 (some .boolean), .fieldLink RX0 42 "GripInspector$Lift" "n" "I", .methodLink RX4 143 yX0_gripAt, .instanceMethod yX0_gripAt, .selects RX0 yX0_gripAt yX0_gripAt, .code yX0_gripAt cX0_gripAt 3 (some .int), .fieldLink RX0 27 "GripInspector$Lift" "place" "[I", .fieldLink RX0 30 "GripInspector$Lift" "spot" "[I"] ++ wsX40 ++ wsX00 ++ (vx_atS RX4 128 "java/lang/IndexOutOfBoundsException" ["java/lang/RuntimeException", "java/lang/Exception"]).filter goodWord)
def wsL_report_r1 : List Cond := [Cond.classLink RL 13 "java/lang/IllegalArgumentException", Cond.methodLink RL 33 yX4_report, Cond.instanceMethod yX4_report, Cond.selects RX4 yX4_report yX4_report, Cond.initialized RX4, Cond.code yX4_report cX4_report 2 (some .int), Cond.classLink RX4 56 "java/lang/IllegalArgumentException", Cond.initialized "java/lang/IllegalArgumentException", Cond.fieldLink RX4 10 "GripInspector" "lift" "LGripInspector$Lift;", Cond.fieldLink RX4 29 "GripInspector" "summary" "LGripInspector$Signs;", Cond.methodLink RX4 152 yX0_describe, Cond.instanceMethod yX0_describe, Cond.selects RX0 yX0_describe yX0_describe, Cond.initialized RX0, Cond.code yX0_describe cX0_describe 3 none, Cond.fieldLink RX0 27 "GripInspector$Lift" "place" "[I", Cond.methodLink RX0 123 yX3_clear, Cond.instanceMethod yX3_clear, Cond.selects RX3 yX3_clear yX3_clear, Cond.initialized RX3, Cond.code yX3_clear cX3_clear 1 none, Cond.fieldLink RX3 15 "GripInspector$Signs" "length" "I", Cond.methodLink RX0 126 yX0_describeGrip, Cond.instanceMethod yX0_describeGrip]
def wsL_report_r2 : List Cond := [Cond.selects RX0 yX0_describeGrip yX0_describeGrip, Cond.code yX0_describeGrip cX0_describeGrip 3 none, Cond.fieldLink RX0 130 "GripInspector$Signs" "length" "I", Cond.fieldLink RX0 30 "GripInspector$Lift" "spot" "[I", Cond.fieldLink RX0 33 "GripInspector$Lift" "stepsLeft" "[I", Cond.methodLink RX0 133 yX3_put, Cond.instanceMethod yX3_put, Cond.selects RX3 yX3_put yX3_put, Cond.code yX3_put cX3_put 2 none, Cond.fieldLink RX3 9 "GripInspector$Signs" "row" "[C", Cond.methodLink RX0 137 yX3_putNumber, Cond.instanceMethod yX3_putNumber, Cond.selects RX3 yX3_putNumber yX3_putNumber, Cond.code yX3_putNumber cX3_putNumber 2 none, Cond.methodLink RX3 19 yX3_put, Cond.methodLink RX4 156 yX3_at, Cond.instanceMethod yX3_at, Cond.selects RX3 yX3_at yX3_at, Cond.code yX3_at cX3_at 2 (some .int)]
def wsL_report : List Cond := .codeWith yL_report cL_report 4 (some .int) [(0, 9, 12, 13)] :: ((wsL_report_r1 ++ wsL_report_r2) ++ wsX40 ++ wsX00 ++ wsX30 ++ (vx_atS RX4 60 "java/lang/IllegalArgumentException" ["java/lang/RuntimeException", "java/lang/Exception"]).filter goodWord)
def wsL_step_r1 : List Cond := [Cond.classLink RL 13 "java/lang/IllegalArgumentException", Cond.methodLink RL 36 yX4_step, Cond.instanceMethod yX4_step, Cond.selects RX4 yX4_step yX4_step, Cond.initialized RX4, Cond.code yX4_step cX4_step 2 (some .int), Cond.classLink RX4 56 "java/lang/IllegalArgumentException", Cond.initialized "java/lang/IllegalArgumentException", Cond.fieldLink RX4 10 "GripInspector" "lift" "LGripInspector$Lift;", Cond.methodLink RX4 159 yX4_isStepNumber, Cond.static yX4_isStepNumber, Cond.code yX4_isStepNumber cX4_isStepNumber 1 (some .boolean), Cond.methodLink RX4 164 yX4_remember, Cond.instanceMethod yX4_remember, Cond.selects RX4 yX4_remember yX4_remember, Cond.code yX4_remember cX4_remember 1 none, Cond.fieldLink RX4 38 "GripInspector" "history" "LGripInspector$Memory;", Cond.fieldLink RX4 53 "GripInspector" "nextRemembered" "I", Cond.fieldLink RX4 49 "GripInspector" "remembered" "I", Cond.methodLink RX4 275 yX2_keep, Cond.instanceMethod yX2_keep, Cond.selects RX2 yX2_keep yX2_keep, Cond.initialized RX2, Cond.code yX2_keep cX2_keep 4 none]
def wsL_step_r2 : List Cond := [Cond.methodLink RX2 16 yX2_rowAt, Cond.instanceMethod yX2_rowAt, Cond.selects RX2 yX2_rowAt yX2_rowAt, Cond.code yX2_rowAt cX2_rowAt 2 (some (.object "GripInspector$Lift")), Cond.fieldLink RX2 9 "GripInspector$Memory" "rows" "[LGripInspector$Lift;", Cond.methodLink RX2 20 yX0_become, Cond.instanceMethod yX0_become, Cond.selects RX0 yX0_become yX0_become, Cond.initialized RX0, Cond.code yX0_become cX0_become 2 none, Cond.fieldLink RX0 9 "GripInspector$Lift" "weight" "[I", Cond.methodLink RX0 56 arraycopyName, Cond.native arraycopyName, Cond.static arraycopyName, Cond.initialized "java/lang/System", Cond.fieldLink RX0 15 "GripInspector$Lift" "cycles" "[I", Cond.fieldLink RX0 18 "GripInspector$Lift" "wear" "[I", Cond.fieldLink RX0 21 "GripInspector$Lift" "pulls" "[I", Cond.fieldLink RX0 24 "GripInspector$Lift" "lastSlip" "[I", Cond.fieldLink RX0 27 "GripInspector$Lift" "place" "[I", Cond.fieldLink RX0 30 "GripInspector$Lift" "spot" "[I", Cond.fieldLink RX0 33 "GripInspector$Lift" "stepsLeft" "[I", Cond.fieldLink RX0 36 "GripInspector$Lift" "limits" "[I", Cond.fieldLink RX0 42 "GripInspector$Lift" "n" "I"]
def wsL_step_r3 : List Cond := [Cond.fieldLink RX0 46 "GripInspector$Lift" "station" "I", Cond.fieldLink RX0 49 "GripInspector$Lift" "clock" "I", Cond.fieldLink RX0 52 "GripInspector$Lift" "randomState" "J", Cond.methodLink RX4 167 yX0_advanceBy, Cond.instanceMethod yX0_advanceBy, Cond.selects RX0 yX0_advanceBy yX0_advanceBy, Cond.code yX0_advanceBy cX0_advanceBy 3 none, Cond.methodLink RX0 70 yX0_advance, Cond.instanceMethod yX0_advance, Cond.selects RX0 yX0_advance yX0_advance, Cond.code yX0_advance cX0_advance 3 (some .int), Cond.constantLong RX0 73 (6364136223846793005), Cond.constantLong RX0 75 (1442695040888963407), Cond.methodLink RX0 77 yX0_gripAt, Cond.instanceMethod yX0_gripAt, Cond.selects RX0 yX0_gripAt yX0_gripAt, Cond.code yX0_gripAt cX0_gripAt 3 (some .int), Cond.methodLink RX0 80 yX0_pass, Cond.instanceMethod yX0_pass, Cond.selects RX0 yX0_pass yX0_pass, Cond.code yX0_pass cX0_pass 6 (some .int), Cond.methodLink RX0 84 yX0_repairAllBut, Cond.instanceMethod yX0_repairAllBut, Cond.selects RX0 yX0_repairAllBut yX0_repairAllBut]
def wsL_step_r4 : List Cond := [Cond.code yX0_repairAllBut cX0_repairAllBut 3 none, Cond.methodLink RX0 88 yX0_fillStation, Cond.instanceMethod yX0_fillStation, Cond.selects RX0 yX0_fillStation yX0_fillStation, Cond.code yX0_fillStation cX0_fillStation 3 (some .int), Cond.methodLink RX0 91 yX0_isRoomAt, Cond.instanceMethod yX0_isRoomAt, Cond.selects RX0 yX0_isRoomAt yX0_isRoomAt, Cond.code yX0_isRoomAt cX0_isRoomAt 3 (some .boolean), Cond.methodLink RX0 99 yX0_distance, Cond.instanceMethod yX0_distance, Cond.selects RX0 yX0_distance yX0_distance, Cond.code yX0_distance cX0_distance 4 (some .int), Cond.methodLink RX0 95 yX0_hang, Cond.instanceMethod yX0_hang, Cond.selects RX0 yX0_hang yX0_hang, Cond.code yX0_hang cX0_hang 3 none, Cond.methodLink RX4 104 yX0_count, Cond.instanceMethod yX0_count, Cond.selects RX0 yX0_count yX0_count, Cond.code yX0_count cX0_count 4 (some .int)]
def wsL_step : List Cond := .codeWith yL_step cL_step 4 (some .int) [(0, 9, 12, 13)] :: ((wsL_step_r1 ++ (wsL_step_r2 ++ (wsL_step_r3 ++ wsL_step_r4))) ++ wsX40 ++ wsX20 ++ wsX00 ++ (vx_atS RX4 60 "java/lang/IllegalArgumentException" ["java/lang/RuntimeException", "java/lang/Exception"]).filter goodWord)
def wsL_addGrip_r1 : List Cond := [Cond.classLink RL 13 "java/lang/IllegalArgumentException", Cond.classLink RL 15 "java/lang/IllegalStateException", Cond.methodLink RL 39 yX4_addGrip, Cond.instanceMethod yX4_addGrip, Cond.selects RX4 yX4_addGrip yX4_addGrip, Cond.initialized RX4, Cond.code yX4_addGrip cX4_addGrip 2 (some .int), Cond.classLink RX4 56 "java/lang/IllegalArgumentException", Cond.initialized "java/lang/IllegalArgumentException", Cond.classLink RX4 70 "java/lang/IllegalStateException", Cond.initialized "java/lang/IllegalStateException", Cond.fieldLink RX4 10 "GripInspector" "lift" "LGripInspector$Lift;", Cond.methodLink RX4 172 yX0_isFull, Cond.instanceMethod yX0_isFull, Cond.selects RX0 yX0_isFull yX0_isFull, Cond.initialized RX0, Cond.code yX0_isFull cX0_isFull 1 (some .boolean), Cond.methodLink RX0 62 yX0_count, Cond.instanceMethod yX0_count, Cond.selects RX0 yX0_count yX0_count, Cond.code yX0_count cX0_count 4 (some .int), Cond.fieldLink RX0 27 "GripInspector$Lift" "place" "[I", Cond.methodLink RX4 164 yX4_remember, Cond.instanceMethod yX4_remember]
def wsL_addGrip_r2 : List Cond := [Cond.selects RX4 yX4_remember yX4_remember, Cond.code yX4_remember cX4_remember 1 none, Cond.fieldLink RX4 38 "GripInspector" "history" "LGripInspector$Memory;", Cond.fieldLink RX4 53 "GripInspector" "nextRemembered" "I", Cond.fieldLink RX4 49 "GripInspector" "remembered" "I", Cond.methodLink RX4 275 yX2_keep, Cond.instanceMethod yX2_keep, Cond.selects RX2 yX2_keep yX2_keep, Cond.initialized RX2, Cond.code yX2_keep cX2_keep 4 none, Cond.methodLink RX2 16 yX2_rowAt, Cond.instanceMethod yX2_rowAt, Cond.selects RX2 yX2_rowAt yX2_rowAt, Cond.code yX2_rowAt cX2_rowAt 2 (some (.object "GripInspector$Lift")), Cond.fieldLink RX2 9 "GripInspector$Memory" "rows" "[LGripInspector$Lift;", Cond.methodLink RX2 20 yX0_become, Cond.instanceMethod yX0_become, Cond.selects RX0 yX0_become yX0_become, Cond.code yX0_become cX0_become 2 none, Cond.fieldLink RX0 9 "GripInspector$Lift" "weight" "[I", Cond.methodLink RX0 56 arraycopyName, Cond.native arraycopyName, Cond.static arraycopyName, Cond.initialized "java/lang/System"]
def wsL_addGrip_r3 : List Cond := [Cond.fieldLink RX0 15 "GripInspector$Lift" "cycles" "[I", Cond.fieldLink RX0 18 "GripInspector$Lift" "wear" "[I", Cond.fieldLink RX0 21 "GripInspector$Lift" "pulls" "[I", Cond.fieldLink RX0 24 "GripInspector$Lift" "lastSlip" "[I", Cond.fieldLink RX0 30 "GripInspector$Lift" "spot" "[I", Cond.fieldLink RX0 33 "GripInspector$Lift" "stepsLeft" "[I", Cond.fieldLink RX0 36 "GripInspector$Lift" "limits" "[I", Cond.fieldLink RX0 42 "GripInspector$Lift" "n" "I", Cond.fieldLink RX0 46 "GripInspector$Lift" "station" "I", Cond.fieldLink RX0 49 "GripInspector$Lift" "clock" "I", Cond.fieldLink RX0 52 "GripInspector$Lift" "randomState" "J", Cond.methodLink RX4 175 yX0_add, Cond.instanceMethod yX0_add, Cond.selects RX0 yX0_add yX0_add, Cond.code yX0_add cX0_add 3 none, Cond.methodLink RX0 66 yX0_grips, Cond.instanceMethod yX0_grips, Cond.selects RX0 yX0_grips yX0_grips, Cond.code yX0_grips cX0_grips 1 (some .int), Cond.methodLink RX4 98 yX0_grips]
def wsL_addGrip : List Cond := .codeWith yL_addGrip cL_addGrip 4 (some .int) [(0, 9, 12, 13), (0, 9, 15, 15)] :: ((wsL_addGrip_r1 ++ (wsL_addGrip_r2 ++ wsL_addGrip_r3)) ++ wsX40 ++ wsX00 ++ wsX20 ++ (vx_atS RX4 60 "java/lang/IllegalArgumentException" ["java/lang/RuntimeException", "java/lang/Exception"]).filter goodWord ++ (vx_atS RX4 74 "java/lang/IllegalStateException" ["java/lang/RuntimeException", "java/lang/Exception"]).filter goodWord)
def wsL_putOn_r1 : List Cond := [Cond.classLink RL 28 "java/lang/IndexOutOfBoundsException", Cond.classLink RL 15 "java/lang/IllegalStateException", Cond.methodLink RL 42 yX4_putOn, Cond.instanceMethod yX4_putOn, Cond.selects RX4 yX4_putOn yX4_putOn, Cond.initialized RX4, Cond.code yX4_putOn cX4_putOn 3 (some .int), Cond.classLink RX4 124 "java/lang/IndexOutOfBoundsException", Cond.initialized "java/lang/IndexOutOfBoundsException", Cond.classLink RX4 70 "java/lang/IllegalStateException", Cond.initialized "java/lang/IllegalStateException", Cond.fieldLink RX4 10 "GripInspector" "lift" "LGripInspector$Lift;", Cond.methodLink RX4 120 yX0_has, Cond.instanceMethod yX0_has, Cond.selects RX0 yX0_has yX0_has, Cond.initialized RX0, Cond.code yX0_has cX0_has 2 (some .boolean), Cond.fieldLink RX0 27 "GripInspector$Lift" "place" "[I", Cond.methodLink RX4 138 yX0_hasSlot, Cond.instanceMethod yX0_hasSlot, Cond.selects RX0 yX0_hasSlot yX0_hasSlot, Cond.code yX0_hasSlot cX0_hasSlot 2 (some .boolean), Cond.fieldLink RX0 42 "GripInspector$Lift" "n" "I", Cond.methodLink RX4 180 yX0_isIn]
def wsL_putOn_r2 : List Cond := [Cond.instanceMethod yX0_isIn, Cond.selects RX0 yX0_isIn yX0_isIn, Cond.code yX0_isIn cX0_isIn 3 (some .boolean), Cond.methodLink RX4 184 yX0_isRoomAt, Cond.instanceMethod yX0_isRoomAt, Cond.selects RX0 yX0_isRoomAt yX0_isRoomAt, Cond.code yX0_isRoomAt cX0_isRoomAt 3 (some .boolean), Cond.fieldLink RX0 30 "GripInspector$Lift" "spot" "[I", Cond.fieldLink RX0 36 "GripInspector$Lift" "limits" "[I", Cond.methodLink RX0 99 yX0_distance, Cond.instanceMethod yX0_distance, Cond.selects RX0 yX0_distance yX0_distance, Cond.code yX0_distance cX0_distance 4 (some .int), Cond.methodLink RX4 164 yX4_remember, Cond.instanceMethod yX4_remember, Cond.selects RX4 yX4_remember yX4_remember, Cond.code yX4_remember cX4_remember 1 none, Cond.fieldLink RX4 38 "GripInspector" "history" "LGripInspector$Memory;", Cond.fieldLink RX4 53 "GripInspector" "nextRemembered" "I", Cond.fieldLink RX4 49 "GripInspector" "remembered" "I", Cond.methodLink RX4 275 yX2_keep, Cond.instanceMethod yX2_keep, Cond.selects RX2 yX2_keep yX2_keep, Cond.initialized RX2]
def wsL_putOn_r3 : List Cond := [Cond.code yX2_keep cX2_keep 4 none, Cond.methodLink RX2 16 yX2_rowAt, Cond.instanceMethod yX2_rowAt, Cond.selects RX2 yX2_rowAt yX2_rowAt, Cond.code yX2_rowAt cX2_rowAt 2 (some (.object "GripInspector$Lift")), Cond.fieldLink RX2 9 "GripInspector$Memory" "rows" "[LGripInspector$Lift;", Cond.methodLink RX2 20 yX0_become, Cond.instanceMethod yX0_become, Cond.selects RX0 yX0_become yX0_become, Cond.code yX0_become cX0_become 2 none, Cond.fieldLink RX0 9 "GripInspector$Lift" "weight" "[I", Cond.methodLink RX0 56 arraycopyName, Cond.native arraycopyName, Cond.static arraycopyName, Cond.initialized "java/lang/System", Cond.fieldLink RX0 15 "GripInspector$Lift" "cycles" "[I", Cond.fieldLink RX0 18 "GripInspector$Lift" "wear" "[I", Cond.fieldLink RX0 21 "GripInspector$Lift" "pulls" "[I", Cond.fieldLink RX0 24 "GripInspector$Lift" "lastSlip" "[I", Cond.fieldLink RX0 33 "GripInspector$Lift" "stepsLeft" "[I", Cond.fieldLink RX0 46 "GripInspector$Lift" "station" "I", Cond.fieldLink RX0 49 "GripInspector$Lift" "clock" "I", Cond.fieldLink RX0 52 "GripInspector$Lift" "randomState" "J", Cond.methodLink RX4 189 yX0_hang]
def wsL_putOn_r4 : List Cond := [Cond.instanceMethod yX0_hang, Cond.selects RX0 yX0_hang yX0_hang, Cond.code yX0_hang cX0_hang 3 none, Cond.methodLink RX4 104 yX0_count, Cond.instanceMethod yX0_count, Cond.selects RX0 yX0_count yX0_count, Cond.code yX0_count cX0_count 4 (some .int)]
def wsL_putOn : List Cond := .codeWith yL_putOn cL_putOn 5 (some .int) [(0, 10, 13, 28), (0, 10, 17, 15)] :: ((wsL_putOn_r1 ++ (wsL_putOn_r2 ++ (wsL_putOn_r3 ++ wsL_putOn_r4))) ++ wsX40 ++ wsX00 ++ wsX20 ++ (vx_atS RX4 128 "java/lang/IndexOutOfBoundsException" ["java/lang/RuntimeException", "java/lang/Exception"]).filter goodWord ++ (vx_atS RX4 74 "java/lang/IllegalStateException" ["java/lang/RuntimeException", "java/lang/Exception"]).filter goodWord)
def wsL_takeOff_r1 : List Cond := [Cond.classLink RL 28 "java/lang/IndexOutOfBoundsException", Cond.classLink RL 15 "java/lang/IllegalStateException", Cond.methodLink RL 45 yX4_takeOff, Cond.instanceMethod yX4_takeOff, Cond.selects RX4 yX4_takeOff yX4_takeOff, Cond.initialized RX4, Cond.code yX4_takeOff cX4_takeOff 3 (some .int), Cond.classLink RX4 124 "java/lang/IndexOutOfBoundsException", Cond.initialized "java/lang/IndexOutOfBoundsException", Cond.classLink RX4 70 "java/lang/IllegalStateException", Cond.initialized "java/lang/IllegalStateException", Cond.fieldLink RX4 10 "GripInspector" "lift" "LGripInspector$Lift;", Cond.fieldLink RX4 195 "GripInspector$Lift" "spot" "[I", Cond.methodLink RX4 120 yX0_has, Cond.instanceMethod yX0_has, Cond.selects RX0 yX0_has yX0_has, Cond.initialized RX0, Cond.code yX0_has cX0_has 2 (some .boolean), Cond.fieldLink RX0 27 "GripInspector$Lift" "place" "[I", Cond.methodLink RX4 180 yX0_isIn, Cond.instanceMethod yX0_isIn, Cond.selects RX0 yX0_isIn yX0_isIn, Cond.code yX0_isIn cX0_isIn 3 (some .boolean), Cond.methodLink RX4 164 yX4_remember]
def wsL_takeOff_r2 : List Cond := [Cond.instanceMethod yX4_remember, Cond.selects RX4 yX4_remember yX4_remember, Cond.code yX4_remember cX4_remember 1 none, Cond.fieldLink RX4 38 "GripInspector" "history" "LGripInspector$Memory;", Cond.fieldLink RX4 53 "GripInspector" "nextRemembered" "I", Cond.fieldLink RX4 49 "GripInspector" "remembered" "I", Cond.methodLink RX4 275 yX2_keep, Cond.instanceMethod yX2_keep, Cond.selects RX2 yX2_keep yX2_keep, Cond.initialized RX2, Cond.code yX2_keep cX2_keep 4 none, Cond.methodLink RX2 16 yX2_rowAt, Cond.instanceMethod yX2_rowAt, Cond.selects RX2 yX2_rowAt yX2_rowAt, Cond.code yX2_rowAt cX2_rowAt 2 (some (.object "GripInspector$Lift")), Cond.fieldLink RX2 9 "GripInspector$Memory" "rows" "[LGripInspector$Lift;", Cond.methodLink RX2 20 yX0_become, Cond.instanceMethod yX0_become, Cond.selects RX0 yX0_become yX0_become, Cond.code yX0_become cX0_become 2 none, Cond.fieldLink RX0 9 "GripInspector$Lift" "weight" "[I", Cond.methodLink RX0 56 arraycopyName, Cond.native arraycopyName, Cond.static arraycopyName]
def wsL_takeOff_r3 : List Cond := [Cond.initialized "java/lang/System", Cond.fieldLink RX0 15 "GripInspector$Lift" "cycles" "[I", Cond.fieldLink RX0 18 "GripInspector$Lift" "wear" "[I", Cond.fieldLink RX0 21 "GripInspector$Lift" "pulls" "[I", Cond.fieldLink RX0 24 "GripInspector$Lift" "lastSlip" "[I", Cond.fieldLink RX0 30 "GripInspector$Lift" "spot" "[I", Cond.fieldLink RX0 33 "GripInspector$Lift" "stepsLeft" "[I", Cond.fieldLink RX0 36 "GripInspector$Lift" "limits" "[I", Cond.fieldLink RX0 42 "GripInspector$Lift" "n" "I", Cond.fieldLink RX0 46 "GripInspector$Lift" "station" "I", Cond.fieldLink RX0 49 "GripInspector$Lift" "clock" "I", Cond.fieldLink RX0 52 "GripInspector$Lift" "randomState" "J", Cond.methodLink RX4 198 yX0_move, Cond.instanceMethod yX0_move, Cond.selects RX0 yX0_move yX0_move, Cond.code yX0_move cX0_move 3 none]
def wsL_takeOff : List Cond := .codeWith yL_takeOff cL_takeOff 4 (some .int) [(0, 9, 12, 28), (0, 9, 15, 15)] :: ((wsL_takeOff_r1 ++ (wsL_takeOff_r2 ++ wsL_takeOff_r3)) ++ wsX40 ++ wsX00 ++ wsX20 ++ (vx_atS RX4 128 "java/lang/IndexOutOfBoundsException" ["java/lang/RuntimeException", "java/lang/Exception"]).filter goodWord ++ (vx_atS RX4 74 "java/lang/IllegalStateException" ["java/lang/RuntimeException", "java/lang/Exception"]).filter goodWord)
def wsL_scrap_r1 : List Cond := [Cond.classLink RL 28 "java/lang/IndexOutOfBoundsException", Cond.classLink RL 15 "java/lang/IllegalStateException", Cond.methodLink RL 48 yX4_scrap, Cond.instanceMethod yX4_scrap, Cond.selects RX4 yX4_scrap yX4_scrap, Cond.initialized RX4, Cond.code yX4_scrap cX4_scrap 3 (some .int), Cond.classLink RX4 124 "java/lang/IndexOutOfBoundsException", Cond.initialized "java/lang/IndexOutOfBoundsException", Cond.classLink RX4 70 "java/lang/IllegalStateException", Cond.initialized "java/lang/IllegalStateException", Cond.fieldLink RX4 10 "GripInspector" "lift" "LGripInspector$Lift;", Cond.fieldLink RX4 203 "GripInspector$Lift" "place" "[I", Cond.methodLink RX4 120 yX0_has, Cond.instanceMethod yX0_has, Cond.selects RX0 yX0_has yX0_has, Cond.initialized RX0, Cond.code yX0_has cX0_has 2 (some .boolean), Cond.fieldLink RX0 27 "GripInspector$Lift" "place" "[I", Cond.methodLink RX4 180 yX0_isIn, Cond.instanceMethod yX0_isIn, Cond.selects RX0 yX0_isIn yX0_isIn, Cond.code yX0_isIn cX0_isIn 3 (some .boolean), Cond.methodLink RX4 164 yX4_remember]
def wsL_scrap_r2 : List Cond := [Cond.instanceMethod yX4_remember, Cond.selects RX4 yX4_remember yX4_remember, Cond.code yX4_remember cX4_remember 1 none, Cond.fieldLink RX4 38 "GripInspector" "history" "LGripInspector$Memory;", Cond.fieldLink RX4 53 "GripInspector" "nextRemembered" "I", Cond.fieldLink RX4 49 "GripInspector" "remembered" "I", Cond.methodLink RX4 275 yX2_keep, Cond.instanceMethod yX2_keep, Cond.selects RX2 yX2_keep yX2_keep, Cond.initialized RX2, Cond.code yX2_keep cX2_keep 4 none, Cond.methodLink RX2 16 yX2_rowAt, Cond.instanceMethod yX2_rowAt, Cond.selects RX2 yX2_rowAt yX2_rowAt, Cond.code yX2_rowAt cX2_rowAt 2 (some (.object "GripInspector$Lift")), Cond.fieldLink RX2 9 "GripInspector$Memory" "rows" "[LGripInspector$Lift;", Cond.methodLink RX2 20 yX0_become, Cond.instanceMethod yX0_become, Cond.selects RX0 yX0_become yX0_become, Cond.code yX0_become cX0_become 2 none, Cond.fieldLink RX0 9 "GripInspector$Lift" "weight" "[I", Cond.methodLink RX0 56 arraycopyName, Cond.native arraycopyName, Cond.static arraycopyName]
def wsL_scrap_r3 : List Cond := [Cond.initialized "java/lang/System", Cond.fieldLink RX0 15 "GripInspector$Lift" "cycles" "[I", Cond.fieldLink RX0 18 "GripInspector$Lift" "wear" "[I", Cond.fieldLink RX0 21 "GripInspector$Lift" "pulls" "[I", Cond.fieldLink RX0 24 "GripInspector$Lift" "lastSlip" "[I", Cond.fieldLink RX0 30 "GripInspector$Lift" "spot" "[I", Cond.fieldLink RX0 33 "GripInspector$Lift" "stepsLeft" "[I", Cond.fieldLink RX0 36 "GripInspector$Lift" "limits" "[I", Cond.fieldLink RX0 42 "GripInspector$Lift" "n" "I", Cond.fieldLink RX0 46 "GripInspector$Lift" "station" "I", Cond.fieldLink RX0 49 "GripInspector$Lift" "clock" "I", Cond.fieldLink RX0 52 "GripInspector$Lift" "randomState" "J", Cond.methodLink RX4 198 yX0_move, Cond.instanceMethod yX0_move, Cond.selects RX0 yX0_move yX0_move, Cond.code yX0_move cX0_move 3 none]
def wsL_scrap : List Cond := .codeWith yL_scrap cL_scrap 4 (some .int) [(0, 9, 12, 28), (0, 9, 15, 15)] :: ((wsL_scrap_r1 ++ (wsL_scrap_r2 ++ wsL_scrap_r3)) ++ wsX40 ++ wsX00 ++ wsX20 ++ (vx_atS RX4 128 "java/lang/IndexOutOfBoundsException" ["java/lang/RuntimeException", "java/lang/Exception"]).filter goodWord ++ (vx_atS RX4 74 "java/lang/IllegalStateException" ["java/lang/RuntimeException", "java/lang/Exception"]).filter goodWord)
def wsL_setLimit_r1 : List Cond := [Cond.classLink RL 13 "java/lang/IllegalArgumentException", Cond.methodLink RL 51 yX4_setLimit, Cond.instanceMethod yX4_setLimit, Cond.selects RX4 yX4_setLimit yX4_setLimit, Cond.initialized RX4, Cond.code yX4_setLimit cX4_setLimit 4 (some .int), Cond.classLink RX4 56 "java/lang/IllegalArgumentException", Cond.initialized "java/lang/IllegalArgumentException", Cond.fieldLink RX4 10 "GripInspector" "lift" "LGripInspector$Lift;", Cond.fieldLink RX4 114 "GripInspector$Lift" "limits" "[I", Cond.methodLink RX4 206 yX4_isLimit, Cond.static yX4_isLimit, Cond.code yX4_isLimit cX4_isLimit 2 (some .boolean), Cond.fieldLink RX4 249 "GripInspector" "GREATEST_LIMITS" "[I", Cond.methodLink RX4 164 yX4_remember, Cond.instanceMethod yX4_remember, Cond.selects RX4 yX4_remember yX4_remember, Cond.code yX4_remember cX4_remember 1 none, Cond.fieldLink RX4 38 "GripInspector" "history" "LGripInspector$Memory;", Cond.fieldLink RX4 53 "GripInspector" "nextRemembered" "I", Cond.fieldLink RX4 49 "GripInspector" "remembered" "I", Cond.methodLink RX4 275 yX2_keep, Cond.instanceMethod yX2_keep, Cond.selects RX2 yX2_keep yX2_keep]
def wsL_setLimit_r2 : List Cond := [Cond.initialized RX2, Cond.code yX2_keep cX2_keep 4 none, Cond.methodLink RX2 16 yX2_rowAt, Cond.instanceMethod yX2_rowAt, Cond.selects RX2 yX2_rowAt yX2_rowAt, Cond.code yX2_rowAt cX2_rowAt 2 (some (.object "GripInspector$Lift")), Cond.fieldLink RX2 9 "GripInspector$Memory" "rows" "[LGripInspector$Lift;", Cond.methodLink RX2 20 yX0_become, Cond.instanceMethod yX0_become, Cond.selects RX0 yX0_become yX0_become, Cond.initialized RX0, Cond.code yX0_become cX0_become 2 none, Cond.fieldLink RX0 9 "GripInspector$Lift" "weight" "[I", Cond.methodLink RX0 56 arraycopyName, Cond.native arraycopyName, Cond.static arraycopyName, Cond.initialized "java/lang/System", Cond.fieldLink RX0 15 "GripInspector$Lift" "cycles" "[I", Cond.fieldLink RX0 18 "GripInspector$Lift" "wear" "[I", Cond.fieldLink RX0 21 "GripInspector$Lift" "pulls" "[I", Cond.fieldLink RX0 24 "GripInspector$Lift" "lastSlip" "[I", Cond.fieldLink RX0 27 "GripInspector$Lift" "place" "[I", Cond.fieldLink RX0 30 "GripInspector$Lift" "spot" "[I", Cond.fieldLink RX0 33 "GripInspector$Lift" "stepsLeft" "[I"]
def wsL_setLimit_r3 : List Cond := [Cond.fieldLink RX0 36 "GripInspector$Lift" "limits" "[I", Cond.fieldLink RX0 42 "GripInspector$Lift" "n" "I", Cond.fieldLink RX0 46 "GripInspector$Lift" "station" "I", Cond.fieldLink RX0 49 "GripInspector$Lift" "clock" "I", Cond.fieldLink RX0 52 "GripInspector$Lift" "randomState" "J"]
def wsL_setLimit : List Cond := .codeWith yL_setLimit cL_setLimit 5 (some .int) [(0, 10, 13, 13)] :: ((wsL_setLimit_r1 ++ (wsL_setLimit_r2 ++ wsL_setLimit_r3)) ++ wsX40 ++ wsX00 ++ wsX20 ++ (vx_atS RX4 60 "java/lang/IllegalArgumentException" ["java/lang/RuntimeException", "java/lang/Exception"]).filter goodWord)
def wsL_undo_r1 : List Cond := [Cond.classLink RL 15 "java/lang/IllegalStateException", Cond.methodLink RL 54 yX4_undo, Cond.instanceMethod yX4_undo, Cond.selects RX4 yX4_undo yX4_undo, Cond.initialized RX4, Cond.code yX4_undo cX4_undo 1 (some .int), Cond.classLink RX4 70 "java/lang/IllegalStateException", Cond.initialized "java/lang/IllegalStateException", Cond.fieldLink RX4 49 "GripInspector" "remembered" "I", Cond.fieldLink RX4 53 "GripInspector" "nextRemembered" "I", Cond.fieldLink RX4 38 "GripInspector" "history" "LGripInspector$Memory;", Cond.fieldLink RX4 10 "GripInspector" "lift" "LGripInspector$Lift;", Cond.methodLink RX4 213 yX2_recall, Cond.instanceMethod yX2_recall, Cond.selects RX2 yX2_recall yX2_recall, Cond.initialized RX2, Cond.code yX2_recall cX2_recall 4 none, Cond.methodLink RX2 16 yX2_rowAt, Cond.instanceMethod yX2_rowAt, Cond.selects RX2 yX2_rowAt yX2_rowAt, Cond.code yX2_rowAt cX2_rowAt 2 (some (.object "GripInspector$Lift")), Cond.fieldLink RX2 9 "GripInspector$Memory" "rows" "[LGripInspector$Lift;", Cond.methodLink RX2 20 yX0_become, Cond.instanceMethod yX0_become]
def wsL_undo_r2 : List Cond := [Cond.selects RX0 yX0_become yX0_become, Cond.initialized RX0, Cond.code yX0_become cX0_become 2 none, Cond.fieldLink RX0 9 "GripInspector$Lift" "weight" "[I", Cond.methodLink RX0 56 arraycopyName, Cond.native arraycopyName, Cond.static arraycopyName, Cond.initialized "java/lang/System", Cond.fieldLink RX0 15 "GripInspector$Lift" "cycles" "[I", Cond.fieldLink RX0 18 "GripInspector$Lift" "wear" "[I", Cond.fieldLink RX0 21 "GripInspector$Lift" "pulls" "[I", Cond.fieldLink RX0 24 "GripInspector$Lift" "lastSlip" "[I", Cond.fieldLink RX0 27 "GripInspector$Lift" "place" "[I", Cond.fieldLink RX0 30 "GripInspector$Lift" "spot" "[I", Cond.fieldLink RX0 33 "GripInspector$Lift" "stepsLeft" "[I", Cond.fieldLink RX0 36 "GripInspector$Lift" "limits" "[I", Cond.fieldLink RX0 42 "GripInspector$Lift" "n" "I", Cond.fieldLink RX0 46 "GripInspector$Lift" "station" "I", Cond.fieldLink RX0 49 "GripInspector$Lift" "clock" "I", Cond.fieldLink RX0 52 "GripInspector$Lift" "randomState" "J"]
def wsL_undo : List Cond := .codeWith yL_undo cL_undo 3 (some .int) [(0, 8, 11, 15)] :: ((wsL_undo_r1 ++ wsL_undo_r2) ++ wsX40 ++ wsX20 ++ wsX00 ++ (vx_atS RX4 74 "java/lang/IllegalStateException" ["java/lang/RuntimeException", "java/lang/Exception"]).filter goodWord)
def wsL_gap_r1 : List Cond := [Cond.classLink RL 28 "java/lang/IndexOutOfBoundsException", Cond.methodLink RL 57 yX4_gap, Cond.instanceMethod yX4_gap, Cond.selects RX4 yX4_gap yX4_gap, Cond.initialized RX4, Cond.code yX4_gap cX4_gap 2 (some .int), Cond.classLink RX4 124 "java/lang/IndexOutOfBoundsException", Cond.initialized "java/lang/IndexOutOfBoundsException", Cond.fieldLink RX4 10 "GripInspector" "lift" "LGripInspector$Lift;", Cond.methodLink RX4 120 yX0_has, Cond.instanceMethod yX0_has, Cond.selects RX0 yX0_has yX0_has, Cond.initialized RX0, Cond.code yX0_has cX0_has 2 (some .boolean), Cond.fieldLink RX0 27 "GripInspector$Lift" "place" "[I", Cond.methodLink RX4 180 yX0_isIn, Cond.instanceMethod yX0_isIn, Cond.selects RX0 yX0_isIn yX0_isIn, Cond.code yX0_isIn cX0_isIn 3 (some .boolean), Cond.methodLink RX4 217 yX0_gapBehind, Cond.instanceMethod yX0_gapBehind, Cond.selects RX0 yX0_gapBehind yX0_gapBehind, Cond.code yX0_gapBehind cX0_gapBehind 4 (some .int), Cond.fieldLink RX0 42 "GripInspector$Lift" "n" "I"]
def wsL_gap_r2 : List Cond := [Cond.fieldLink RX0 30 "GripInspector$Lift" "spot" "[I", Cond.methodLink RX0 105 Lib.Math.min.name, Cond.static Lib.Math.min.name, Cond.initialized "java/lang/Math", Cond.code Lib.Math.min.name Lib.Math.min.code 2 (some .int), Cond.methodLink RX0 102 yX0_slotsOn, Cond.instanceMethod yX0_slotsOn, Cond.selects RX0 yX0_slotsOn yX0_slotsOn, Cond.code yX0_slotsOn cX0_slotsOn 3 (some .int)]
def wsL_gap : List Cond := .codeWith yL_gap cL_gap 4 (some .int) [(0, 9, 12, 28)] :: ((wsL_gap_r1 ++ wsL_gap_r2) ++ wsX40 ++ wsX00 ++ (vx_atS RX4 128 "java/lang/IndexOutOfBoundsException" ["java/lang/RuntimeException", "java/lang/Exception"]).filter goodWord)
def wsL_room_r1 : List Cond := [Cond.classLink RL 13 "java/lang/IllegalArgumentException", Cond.methodLink RL 60 yX4_room, Cond.instanceMethod yX4_room, Cond.selects RX4 yX4_room yX4_room, Cond.initialized RX4, Cond.code yX4_room cX4_room 2 (some .int), Cond.classLink RX4 56 "java/lang/IllegalArgumentException", Cond.initialized "java/lang/IllegalArgumentException", Cond.fieldLink RX4 10 "GripInspector" "lift" "LGripInspector$Lift;", Cond.methodLink RX4 220 yX0_roomySlots, Cond.instanceMethod yX0_roomySlots, Cond.selects RX0 yX0_roomySlots yX0_roomySlots, Cond.initialized RX0, Cond.code yX0_roomySlots cX0_roomySlots 3 (some .int), Cond.fieldLink RX0 42 "GripInspector$Lift" "n" "I", Cond.methodLink RX0 91 yX0_isRoomAt, Cond.instanceMethod yX0_isRoomAt, Cond.selects RX0 yX0_isRoomAt yX0_isRoomAt, Cond.code yX0_isRoomAt cX0_isRoomAt 3 (some .boolean), Cond.fieldLink RX0 27 "GripInspector$Lift" "place" "[I", Cond.fieldLink RX0 30 "GripInspector$Lift" "spot" "[I", Cond.fieldLink RX0 36 "GripInspector$Lift" "limits" "[I", Cond.methodLink RX0 99 yX0_distance, Cond.instanceMethod yX0_distance]
def wsL_room_r2 : List Cond := [Cond.selects RX0 yX0_distance yX0_distance, Cond.code yX0_distance cX0_distance 4 (some .int), Cond.methodLink RX4 223 yX0_smallestGap, Cond.instanceMethod yX0_smallestGap, Cond.selects RX0 yX0_smallestGap yX0_smallestGap, Cond.code yX0_smallestGap cX0_smallestGap 4 (some .int), Cond.methodLink RX0 110 yX0_gapBehind, Cond.instanceMethod yX0_gapBehind, Cond.selects RX0 yX0_gapBehind yX0_gapBehind, Cond.code yX0_gapBehind cX0_gapBehind 4 (some .int), Cond.methodLink RX0 105 Lib.Math.min.name, Cond.static Lib.Math.min.name, Cond.initialized "java/lang/Math", Cond.code Lib.Math.min.name Lib.Math.min.code 2 (some .int), Cond.methodLink RX0 102 yX0_slotsOn, Cond.instanceMethod yX0_slotsOn, Cond.selects RX0 yX0_slotsOn yX0_slotsOn, Cond.code yX0_slotsOn cX0_slotsOn 3 (some .int), Cond.methodLink RX4 226 yX0_capacity, Cond.instanceMethod yX0_capacity, Cond.selects RX0 yX0_capacity yX0_capacity, Cond.code yX0_capacity cX0_capacity 2 (some .int)]
def wsL_room : List Cond := .codeWith yL_room cL_room 4 (some .int) [(0, 9, 12, 13)] :: ((wsL_room_r1 ++ wsL_room_r2) ++ wsX40 ++ wsX00 ++ (vx_atS RX4 60 "java/lang/IllegalArgumentException" ["java/lang/RuntimeException", "java/lang/Exception"]).filter goodWord)
def wsL_groups_r1 : List Cond := [Cond.classLink RL 13 "java/lang/IllegalArgumentException", Cond.methodLink RL 63 yX4_groups, Cond.instanceMethod yX4_groups, Cond.selects RX4 yX4_groups yX4_groups, Cond.initialized RX4, Cond.code yX4_groups cX4_groups 7 (some .int), Cond.classLink RX4 56 "java/lang/IllegalArgumentException", Cond.initialized "java/lang/IllegalArgumentException", Cond.fieldLink RX4 10 "GripInspector" "lift" "LGripInspector$Lift;", Cond.methodLink RX4 231 yX0_opensGroup, Cond.instanceMethod yX0_opensGroup, Cond.selects RX0 yX0_opensGroup yX0_opensGroup, Cond.initialized RX0, Cond.code yX0_opensGroup cX0_opensGroup 3 (some .boolean), Cond.methodLink RX0 119 yX0_areTogether, Cond.instanceMethod yX0_areTogether, Cond.selects RX0 yX0_areTogether yX0_areTogether, Cond.code yX0_areTogether cX0_areTogether 4 (some .boolean), Cond.fieldLink RX0 9 "GripInspector$Lift" "weight" "[I", Cond.fieldLink RX0 15 "GripInspector$Lift" "cycles" "[I", Cond.methodLink RX0 116 yX0_isGrouped, Cond.instanceMethod yX0_isGrouped, Cond.selects RX0 yX0_isGrouped yX0_isGrouped, Cond.code yX0_isGrouped cX0_isGrouped 2 (some .boolean)]
def wsL_groups_r2 : List Cond := [Cond.fieldLink RX0 27 "GripInspector$Lift" "place" "[I", Cond.methodLink RX4 234 yX0_groupSize, Cond.instanceMethod yX0_groupSize, Cond.selects RX0 yX0_groupSize yX0_groupSize, Cond.code yX0_groupSize cX0_groupSize 4 (some .int)]
def wsL_groups : List Cond := .codeWith yL_groups cL_groups 4 (some .int) [(0, 9, 12, 13)] :: ((wsL_groups_r1 ++ wsL_groups_r2) ++ wsX40 ++ wsX00 ++ (vx_atS RX4 60 "java/lang/IllegalArgumentException" ["java/lang/RuntimeException", "java/lang/Exception"]).filter goodWord)
def wsL_dueAfter_r1 : List Cond := [Cond.classLink RL 28 "java/lang/IndexOutOfBoundsException", Cond.methodLink RL 66 yX4_dueAfter, Cond.instanceMethod yX4_dueAfter, Cond.selects RX4 yX4_dueAfter yX4_dueAfter, Cond.initialized RX4, Cond.code yX4_dueAfter cX4_dueAfter 2 (some .int), Cond.classLink RX4 124 "java/lang/IndexOutOfBoundsException", Cond.initialized "java/lang/IndexOutOfBoundsException", Cond.fieldLink RX4 10 "GripInspector" "lift" "LGripInspector$Lift;", Cond.methodLink RX4 120 yX0_has, Cond.instanceMethod yX0_has, Cond.selects RX0 yX0_has yX0_has, Cond.initialized RX0, Cond.code yX0_has cX0_has 2 (some .boolean), Cond.fieldLink RX0 27 "GripInspector$Lift" "place" "[I", Cond.methodLink RX4 180 yX0_isIn, Cond.instanceMethod yX0_isIn, Cond.selects RX0 yX0_isIn yX0_isIn, Cond.code yX0_isIn cX0_isIn 3 (some .boolean), Cond.methodLink RX4 237 yX0_stepsUntilDue, Cond.instanceMethod yX0_stepsUntilDue, Cond.selects RX0 yX0_stepsUntilDue yX0_stepsUntilDue, Cond.code yX0_stepsUntilDue cX0_stepsUntilDue 3 (some .int), Cond.fieldLink RX0 36 "GripInspector$Lift" "limits" "[I"]
def wsL_dueAfter_r2 : List Cond := [Cond.fieldLink RX0 15 "GripInspector$Lift" "cycles" "[I", Cond.methodLink RX0 113 Lib.Math.max.name, Cond.static Lib.Math.max.name, Cond.initialized "java/lang/Math", Cond.code Lib.Math.max.name Lib.Math.max.code 2 (some .int), Cond.fieldLink RX0 46 "GripInspector$Lift" "station" "I", Cond.fieldLink RX0 30 "GripInspector$Lift" "spot" "[I", Cond.fieldLink RX0 42 "GripInspector$Lift" "n" "I", Cond.methodLink RX0 102 yX0_slotsOn, Cond.instanceMethod yX0_slotsOn, Cond.selects RX0 yX0_slotsOn yX0_slotsOn, Cond.code yX0_slotsOn cX0_slotsOn 3 (some .int)]
def wsL_dueAfter : List Cond := .codeWith yL_dueAfter cL_dueAfter 4 (some .int) [(0, 9, 12, 28)] :: ((wsL_dueAfter_r1 ++ wsL_dueAfter_r2) ++ wsX40 ++ wsX00 ++ (vx_atS RX4 128 "java/lang/IndexOutOfBoundsException" ["java/lang/RuntimeException", "java/lang/Exception"]).filter goodWord)
def wsL_chance : List Cond := .codeWith yL_chance cL_chance 5 (some .int) [(0, 10, 13, 13)] :: ([.classLink RL 13 "java/lang/IllegalArgumentException", .methodLink RL 69 yX4_chance, .instanceMethod yX4_chance, .selects RX4 yX4_chance yX4_chance, .initialized RX4, .code yX4_chance cX4_chance 7 (some .int), .classLink RX4 56 "java/lang/IllegalArgumentException", .initialized "java/lang/IllegalArgumentException", .fieldLink RX4 10 "GripInspector" "lift" "LGripInspector$Lift;", .fieldLink RX4 114 "GripInspector$Lift" "limits" "[I"] ++ wsX40 ++ wsX00 ++ (vx_atS RX4 60 "java/lang/IllegalArgumentException" ["java/lang/RuntimeException", "java/lang/Exception"]).filter goodWord)
def wsL_ahead_r1 : List Cond := [Cond.classLink RL 28 "java/lang/IndexOutOfBoundsException", Cond.classLink RL 13 "java/lang/IllegalArgumentException", Cond.methodLink RL 73 yX4_ahead, Cond.instanceMethod yX4_ahead, Cond.selects RX4 yX4_ahead yX4_ahead, Cond.initialized RX4, Cond.code yX4_ahead cX4_ahead 4 (some .int), Cond.classLink RX4 124 "java/lang/IndexOutOfBoundsException", Cond.initialized "java/lang/IndexOutOfBoundsException", Cond.classLink RX4 56 "java/lang/IllegalArgumentException", Cond.initialized "java/lang/IllegalArgumentException", Cond.fieldLink RX4 10 "GripInspector" "lift" "LGripInspector$Lift;", Cond.fieldLink RX4 16 "GripInspector" "trial" "LGripInspector$Lift;", Cond.methodLink RX4 120 yX0_has, Cond.instanceMethod yX0_has, Cond.selects RX0 yX0_has yX0_has, Cond.initialized RX0, Cond.code yX0_has cX0_has 2 (some .boolean), Cond.fieldLink RX0 27 "GripInspector$Lift" "place" "[I", Cond.methodLink RX4 129 yX4_isGripNumber, Cond.static yX4_isGripNumber, Cond.code yX4_isGripNumber cX4_isGripNumber 1 (some .boolean), Cond.methodLink RX4 94 yX0_become, Cond.instanceMethod yX0_become]
def wsL_ahead_r2 : List Cond := [Cond.selects RX0 yX0_become yX0_become, Cond.code yX0_become cX0_become 2 none, Cond.fieldLink RX0 9 "GripInspector$Lift" "weight" "[I", Cond.methodLink RX0 56 arraycopyName, Cond.native arraycopyName, Cond.static arraycopyName, Cond.initialized "java/lang/System", Cond.fieldLink RX0 15 "GripInspector$Lift" "cycles" "[I", Cond.fieldLink RX0 18 "GripInspector$Lift" "wear" "[I", Cond.fieldLink RX0 21 "GripInspector$Lift" "pulls" "[I", Cond.fieldLink RX0 24 "GripInspector$Lift" "lastSlip" "[I", Cond.fieldLink RX0 30 "GripInspector$Lift" "spot" "[I", Cond.fieldLink RX0 33 "GripInspector$Lift" "stepsLeft" "[I", Cond.fieldLink RX0 36 "GripInspector$Lift" "limits" "[I", Cond.fieldLink RX0 42 "GripInspector$Lift" "n" "I", Cond.fieldLink RX0 46 "GripInspector$Lift" "station" "I", Cond.fieldLink RX0 49 "GripInspector$Lift" "clock" "I", Cond.fieldLink RX0 52 "GripInspector$Lift" "randomState" "J", Cond.methodLink RX4 167 yX0_advanceBy, Cond.instanceMethod yX0_advanceBy, Cond.selects RX0 yX0_advanceBy yX0_advanceBy, Cond.code yX0_advanceBy cX0_advanceBy 3 none, Cond.methodLink RX0 70 yX0_advance, Cond.instanceMethod yX0_advance]
def wsL_ahead_r3 : List Cond := [Cond.selects RX0 yX0_advance yX0_advance, Cond.code yX0_advance cX0_advance 3 (some .int), Cond.constantLong RX0 73 (6364136223846793005), Cond.constantLong RX0 75 (1442695040888963407), Cond.methodLink RX0 77 yX0_gripAt, Cond.instanceMethod yX0_gripAt, Cond.selects RX0 yX0_gripAt yX0_gripAt, Cond.code yX0_gripAt cX0_gripAt 3 (some .int), Cond.methodLink RX0 80 yX0_pass, Cond.instanceMethod yX0_pass, Cond.selects RX0 yX0_pass yX0_pass, Cond.code yX0_pass cX0_pass 6 (some .int), Cond.methodLink RX0 84 yX0_repairAllBut, Cond.instanceMethod yX0_repairAllBut, Cond.selects RX0 yX0_repairAllBut yX0_repairAllBut, Cond.code yX0_repairAllBut cX0_repairAllBut 3 none, Cond.methodLink RX0 88 yX0_fillStation, Cond.instanceMethod yX0_fillStation, Cond.selects RX0 yX0_fillStation yX0_fillStation, Cond.code yX0_fillStation cX0_fillStation 3 (some .int), Cond.methodLink RX0 91 yX0_isRoomAt, Cond.instanceMethod yX0_isRoomAt, Cond.selects RX0 yX0_isRoomAt yX0_isRoomAt, Cond.code yX0_isRoomAt cX0_isRoomAt 3 (some .boolean)]
def wsL_ahead_r4 : List Cond := [Cond.methodLink RX0 99 yX0_distance, Cond.instanceMethod yX0_distance, Cond.selects RX0 yX0_distance yX0_distance, Cond.code yX0_distance cX0_distance 4 (some .int), Cond.methodLink RX0 95 yX0_hang, Cond.instanceMethod yX0_hang, Cond.selects RX0 yX0_hang yX0_hang, Cond.code yX0_hang cX0_hang 3 none, Cond.methodLink RX4 134 yX0_number, Cond.instanceMethod yX0_number, Cond.selects RX0 yX0_number yX0_number, Cond.code yX0_number cX0_number 3 (some .int)]
def wsL_ahead : List Cond := .codeWith yL_ahead cL_ahead 6 (some .int) [(0, 12, 15, 28), (0, 12, 19, 13)] :: ((wsL_ahead_r1 ++ (wsL_ahead_r2 ++ (wsL_ahead_r3 ++ wsL_ahead_r4))) ++ wsX40 ++ wsX00 ++ (vx_atS RX4 128 "java/lang/IndexOutOfBoundsException" ["java/lang/RuntimeException", "java/lang/Exception"]).filter goodWord ++ (vx_atS RX4 60 "java/lang/IllegalArgumentException" ["java/lang/RuntimeException", "java/lang/Exception"]).filter goodWord)
def wsL_happens_r1 : List Cond := [Cond.classLink RL 13 "java/lang/IllegalArgumentException", Cond.methodLink RL 77 yX4_happens, Cond.instanceMethod yX4_happens, Cond.selects RX4 yX4_happens yX4_happens, Cond.initialized RX4, Cond.code yX4_happens cX4_happens 5 (some .int), Cond.classLink RX4 56 "java/lang/IllegalArgumentException", Cond.initialized "java/lang/IllegalArgumentException", Cond.fieldLink RX4 16 "GripInspector" "trial" "LGripInspector$Lift;", Cond.fieldLink RX4 10 "GripInspector" "lift" "LGripInspector$Lift;", Cond.methodLink RX4 159 yX4_isStepNumber, Cond.static yX4_isStepNumber, Cond.code yX4_isStepNumber cX4_isStepNumber 1 (some .boolean), Cond.methodLink RX4 94 yX0_become, Cond.instanceMethod yX0_become, Cond.selects RX0 yX0_become yX0_become, Cond.initialized RX0, Cond.code yX0_become cX0_become 2 none, Cond.fieldLink RX0 9 "GripInspector$Lift" "weight" "[I", Cond.methodLink RX0 56 arraycopyName, Cond.native arraycopyName, Cond.static arraycopyName, Cond.initialized "java/lang/System", Cond.fieldLink RX0 15 "GripInspector$Lift" "cycles" "[I"]
def wsL_happens_r2 : List Cond := [Cond.fieldLink RX0 18 "GripInspector$Lift" "wear" "[I", Cond.fieldLink RX0 21 "GripInspector$Lift" "pulls" "[I", Cond.fieldLink RX0 24 "GripInspector$Lift" "lastSlip" "[I", Cond.fieldLink RX0 27 "GripInspector$Lift" "place" "[I", Cond.fieldLink RX0 30 "GripInspector$Lift" "spot" "[I", Cond.fieldLink RX0 33 "GripInspector$Lift" "stepsLeft" "[I", Cond.fieldLink RX0 36 "GripInspector$Lift" "limits" "[I", Cond.fieldLink RX0 42 "GripInspector$Lift" "n" "I", Cond.fieldLink RX0 46 "GripInspector$Lift" "station" "I", Cond.fieldLink RX0 49 "GripInspector$Lift" "clock" "I", Cond.fieldLink RX0 52 "GripInspector$Lift" "randomState" "J", Cond.methodLink RX4 246 yX0_advance, Cond.instanceMethod yX0_advance, Cond.selects RX0 yX0_advance yX0_advance, Cond.code yX0_advance cX0_advance 3 (some .int), Cond.constantLong RX0 73 (6364136223846793005), Cond.constantLong RX0 75 (1442695040888963407), Cond.methodLink RX0 77 yX0_gripAt, Cond.instanceMethod yX0_gripAt, Cond.selects RX0 yX0_gripAt yX0_gripAt, Cond.code yX0_gripAt cX0_gripAt 3 (some .int), Cond.methodLink RX0 80 yX0_pass, Cond.instanceMethod yX0_pass, Cond.selects RX0 yX0_pass yX0_pass]
def wsL_happens_r3 : List Cond := [Cond.code yX0_pass cX0_pass 6 (some .int), Cond.methodLink RX0 84 yX0_repairAllBut, Cond.instanceMethod yX0_repairAllBut, Cond.selects RX0 yX0_repairAllBut yX0_repairAllBut, Cond.code yX0_repairAllBut cX0_repairAllBut 3 none, Cond.methodLink RX0 88 yX0_fillStation, Cond.instanceMethod yX0_fillStation, Cond.selects RX0 yX0_fillStation yX0_fillStation, Cond.code yX0_fillStation cX0_fillStation 3 (some .int), Cond.methodLink RX0 91 yX0_isRoomAt, Cond.instanceMethod yX0_isRoomAt, Cond.selects RX0 yX0_isRoomAt yX0_isRoomAt, Cond.code yX0_isRoomAt cX0_isRoomAt 3 (some .boolean), Cond.methodLink RX0 99 yX0_distance, Cond.instanceMethod yX0_distance, Cond.selects RX0 yX0_distance yX0_distance, Cond.code yX0_distance cX0_distance 4 (some .int), Cond.methodLink RX0 95 yX0_hang, Cond.instanceMethod yX0_hang, Cond.selects RX0 yX0_hang yX0_hang, Cond.code yX0_hang cX0_hang 3 none]
def wsL_happens : List Cond := .codeWith yL_happens cL_happens 5 (some .int) [(0, 10, 13, 13)] :: ((wsL_happens_r1 ++ (wsL_happens_r2 ++ wsL_happens_r3)) ++ wsX40 ++ wsX00 ++ (vx_atS RX4 60 "java/lang/IllegalArgumentException" ["java/lang/RuntimeException", "java/lang/Exception"]).filter goodWord)
def wsL_bestLimit_r1 : List Cond := [Cond.classLink RL 13 "java/lang/IllegalArgumentException", Cond.methodLink RL 80 yX4_bestLimit, Cond.instanceMethod yX4_bestLimit, Cond.selects RX4 yX4_bestLimit yX4_bestLimit, Cond.initialized RX4, Cond.code yX4_bestLimit cX4_bestLimit 3 (some .int), Cond.classLink RX4 56 "java/lang/IllegalArgumentException", Cond.initialized "java/lang/IllegalArgumentException", Cond.fieldLink RX4 249 "GripInspector" "GREATEST_LIMITS" "[I", Cond.methodLink RX4 159 yX4_isStepNumber, Cond.static yX4_isStepNumber, Cond.code yX4_isStepNumber cX4_isStepNumber 1 (some .boolean), Cond.methodLink RX4 252 yX4_isSlipFree, Cond.instanceMethod yX4_isSlipFree, Cond.selects RX4 yX4_isSlipFree yX4_isSlipFree, Cond.code yX4_isSlipFree cX4_isSlipFree 4 (some .boolean), Cond.fieldLink RX4 16 "GripInspector" "trial" "LGripInspector$Lift;", Cond.fieldLink RX4 10 "GripInspector" "lift" "LGripInspector$Lift;", Cond.fieldLink RX4 114 "GripInspector$Lift" "limits" "[I", Cond.methodLink RX4 94 yX0_become, Cond.instanceMethod yX0_become, Cond.selects RX0 yX0_become yX0_become, Cond.initialized RX0, Cond.code yX0_become cX0_become 2 none]
def wsL_bestLimit_r2 : List Cond := [Cond.fieldLink RX0 9 "GripInspector$Lift" "weight" "[I", Cond.methodLink RX0 56 arraycopyName, Cond.native arraycopyName, Cond.static arraycopyName, Cond.initialized "java/lang/System", Cond.fieldLink RX0 15 "GripInspector$Lift" "cycles" "[I", Cond.fieldLink RX0 18 "GripInspector$Lift" "wear" "[I", Cond.fieldLink RX0 21 "GripInspector$Lift" "pulls" "[I", Cond.fieldLink RX0 24 "GripInspector$Lift" "lastSlip" "[I", Cond.fieldLink RX0 27 "GripInspector$Lift" "place" "[I", Cond.fieldLink RX0 30 "GripInspector$Lift" "spot" "[I", Cond.fieldLink RX0 33 "GripInspector$Lift" "stepsLeft" "[I", Cond.fieldLink RX0 36 "GripInspector$Lift" "limits" "[I", Cond.fieldLink RX0 42 "GripInspector$Lift" "n" "I", Cond.fieldLink RX0 46 "GripInspector$Lift" "station" "I", Cond.fieldLink RX0 49 "GripInspector$Lift" "clock" "I", Cond.fieldLink RX0 52 "GripInspector$Lift" "randomState" "J", Cond.methodLink RX4 246 yX0_advance, Cond.instanceMethod yX0_advance, Cond.selects RX0 yX0_advance yX0_advance, Cond.code yX0_advance cX0_advance 3 (some .int), Cond.constantLong RX0 73 (6364136223846793005), Cond.constantLong RX0 75 (1442695040888963407), Cond.methodLink RX0 77 yX0_gripAt]
def wsL_bestLimit_r3 : List Cond := [Cond.instanceMethod yX0_gripAt, Cond.selects RX0 yX0_gripAt yX0_gripAt, Cond.code yX0_gripAt cX0_gripAt 3 (some .int), Cond.methodLink RX0 80 yX0_pass, Cond.instanceMethod yX0_pass, Cond.selects RX0 yX0_pass yX0_pass, Cond.code yX0_pass cX0_pass 6 (some .int), Cond.methodLink RX0 84 yX0_repairAllBut, Cond.instanceMethod yX0_repairAllBut, Cond.selects RX0 yX0_repairAllBut yX0_repairAllBut, Cond.code yX0_repairAllBut cX0_repairAllBut 3 none, Cond.methodLink RX0 88 yX0_fillStation, Cond.instanceMethod yX0_fillStation, Cond.selects RX0 yX0_fillStation yX0_fillStation, Cond.code yX0_fillStation cX0_fillStation 3 (some .int), Cond.methodLink RX0 91 yX0_isRoomAt, Cond.instanceMethod yX0_isRoomAt, Cond.selects RX0 yX0_isRoomAt yX0_isRoomAt, Cond.code yX0_isRoomAt cX0_isRoomAt 3 (some .boolean), Cond.methodLink RX0 99 yX0_distance, Cond.instanceMethod yX0_distance, Cond.selects RX0 yX0_distance yX0_distance, Cond.code yX0_distance cX0_distance 4 (some .int), Cond.methodLink RX0 95 yX0_hang]
def wsL_bestLimit_r4 : List Cond := [Cond.instanceMethod yX0_hang, Cond.selects RX0 yX0_hang yX0_hang, Cond.code yX0_hang cX0_hang 3 none]
def wsL_bestLimit : List Cond := .codeWith yL_bestLimit cL_bestLimit 4 (some .int) [(0, 9, 12, 13)] :: ((wsL_bestLimit_r1 ++ (wsL_bestLimit_r2 ++ (wsL_bestLimit_r3 ++ wsL_bestLimit_r4))) ++ wsX40 ++ wsX00 ++ (vx_atS RX4 60 "java/lang/IllegalArgumentException" ["java/lang/RuntimeException", "java/lang/Exception"]).filter goodWord)
def wsL_runScript_r1 : List Cond := [Cond.classLink RL 13 "java/lang/IllegalArgumentException", Cond.methodLink RL 83 yX4_runScript, Cond.instanceMethod yX4_runScript, Cond.selects RX4 yX4_runScript yX4_runScript, Cond.initialized RX4, Cond.code yX4_runScript cX4_runScript 5 (some .int), Cond.classLink RX4 56 "java/lang/IllegalArgumentException", Cond.initialized "java/lang/IllegalArgumentException", Cond.fieldLink RX4 16 "GripInspector" "trial" "LGripInspector$Lift;", Cond.fieldLink RX4 10 "GripInspector" "lift" "LGripInspector$Lift;", Cond.methodLink RX4 257 yX4_groupPower, Cond.static yX4_groupPower, Cond.code yX4_groupPower cX4_groupPower 4 (some .long), Cond.constantLong RX4 280 (100000), Cond.methodLink RX4 94 yX0_become, Cond.instanceMethod yX0_become, Cond.selects RX0 yX0_become yX0_become, Cond.initialized RX0, Cond.code yX0_become cX0_become 2 none, Cond.fieldLink RX0 9 "GripInspector$Lift" "weight" "[I", Cond.methodLink RX0 56 arraycopyName, Cond.native arraycopyName, Cond.static arraycopyName, Cond.initialized "java/lang/System"]
def wsL_runScript_r2 : List Cond := [Cond.fieldLink RX0 15 "GripInspector$Lift" "cycles" "[I", Cond.fieldLink RX0 18 "GripInspector$Lift" "wear" "[I", Cond.fieldLink RX0 21 "GripInspector$Lift" "pulls" "[I", Cond.fieldLink RX0 24 "GripInspector$Lift" "lastSlip" "[I", Cond.fieldLink RX0 27 "GripInspector$Lift" "place" "[I", Cond.fieldLink RX0 30 "GripInspector$Lift" "spot" "[I", Cond.fieldLink RX0 33 "GripInspector$Lift" "stepsLeft" "[I", Cond.fieldLink RX0 36 "GripInspector$Lift" "limits" "[I", Cond.fieldLink RX0 42 "GripInspector$Lift" "n" "I", Cond.fieldLink RX0 46 "GripInspector$Lift" "station" "I", Cond.fieldLink RX0 49 "GripInspector$Lift" "clock" "I", Cond.fieldLink RX0 52 "GripInspector$Lift" "randomState" "J", Cond.methodLink RX4 263 yX4_groupAt, Cond.static yX4_groupAt, Cond.code yX4_groupAt cX4_groupAt 6 (some .int), Cond.methodLink RX4 267 yX4_obeys, Cond.instanceMethod yX4_obeys, Cond.selects RX4 yX4_obeys yX4_obeys, Cond.code yX4_obeys cX4_obeys 4 (some .boolean), Cond.fieldLink RX4 291 "GripInspector$Lift" "cycles" "[I", Cond.fieldLink RX4 195 "GripInspector$Lift" "spot" "[I", Cond.methodLink RX4 159 yX4_isStepNumber, Cond.static yX4_isStepNumber, Cond.code yX4_isStepNumber cX4_isStepNumber 1 (some .boolean)]
def wsL_runScript_r3 : List Cond := [Cond.methodLink RX4 167 yX0_advanceBy, Cond.instanceMethod yX0_advanceBy, Cond.selects RX0 yX0_advanceBy yX0_advanceBy, Cond.code yX0_advanceBy cX0_advanceBy 3 none, Cond.methodLink RX0 70 yX0_advance, Cond.instanceMethod yX0_advance, Cond.selects RX0 yX0_advance yX0_advance, Cond.code yX0_advance cX0_advance 3 (some .int), Cond.constantLong RX0 73 (6364136223846793005), Cond.constantLong RX0 75 (1442695040888963407), Cond.methodLink RX0 77 yX0_gripAt, Cond.instanceMethod yX0_gripAt, Cond.selects RX0 yX0_gripAt yX0_gripAt, Cond.code yX0_gripAt cX0_gripAt 3 (some .int), Cond.methodLink RX0 80 yX0_pass, Cond.instanceMethod yX0_pass, Cond.selects RX0 yX0_pass yX0_pass, Cond.code yX0_pass cX0_pass 6 (some .int), Cond.methodLink RX0 84 yX0_repairAllBut, Cond.instanceMethod yX0_repairAllBut, Cond.selects RX0 yX0_repairAllBut yX0_repairAllBut, Cond.code yX0_repairAllBut cX0_repairAllBut 3 none, Cond.methodLink RX0 88 yX0_fillStation, Cond.instanceMethod yX0_fillStation]
def wsL_runScript_r4 : List Cond := [Cond.selects RX0 yX0_fillStation yX0_fillStation, Cond.code yX0_fillStation cX0_fillStation 3 (some .int), Cond.methodLink RX0 91 yX0_isRoomAt, Cond.instanceMethod yX0_isRoomAt, Cond.selects RX0 yX0_isRoomAt yX0_isRoomAt, Cond.code yX0_isRoomAt cX0_isRoomAt 3 (some .boolean), Cond.methodLink RX0 99 yX0_distance, Cond.instanceMethod yX0_distance, Cond.selects RX0 yX0_distance yX0_distance, Cond.code yX0_distance cX0_distance 4 (some .int), Cond.methodLink RX0 95 yX0_hang, Cond.instanceMethod yX0_hang, Cond.selects RX0 yX0_hang yX0_hang, Cond.code yX0_hang cX0_hang 3 none, Cond.methodLink RX4 282 yX4_triesPutting, Cond.instanceMethod yX4_triesPutting, Cond.selects RX4 yX4_triesPutting yX4_triesPutting, Cond.code yX4_triesPutting cX4_triesPutting 3 (some .boolean), Cond.methodLink RX4 120 yX0_has, Cond.instanceMethod yX0_has, Cond.selects RX0 yX0_has yX0_has, Cond.code yX0_has cX0_has 2 (some .boolean), Cond.methodLink RX4 138 yX0_hasSlot, Cond.instanceMethod yX0_hasSlot]
def wsL_runScript_r5 : List Cond := [Cond.selects RX0 yX0_hasSlot yX0_hasSlot, Cond.code yX0_hasSlot cX0_hasSlot 2 (some .boolean), Cond.methodLink RX4 180 yX0_isIn, Cond.instanceMethod yX0_isIn, Cond.selects RX0 yX0_isIn yX0_isIn, Cond.code yX0_isIn cX0_isIn 3 (some .boolean), Cond.methodLink RX4 184 yX0_isRoomAt, Cond.methodLink RX4 189 yX0_hang, Cond.methodLink RX4 285 yX4_triesTaking, Cond.instanceMethod yX4_triesTaking, Cond.selects RX4 yX4_triesTaking yX4_triesTaking, Cond.code yX4_triesTaking cX4_triesTaking 2 (some .boolean), Cond.methodLink RX4 198 yX0_move, Cond.instanceMethod yX0_move, Cond.selects RX0 yX0_move yX0_move, Cond.code yX0_move cX0_move 3 none, Cond.methodLink RX4 288 yX4_triesLimit, Cond.instanceMethod yX4_triesLimit, Cond.selects RX4 yX4_triesLimit yX4_triesLimit, Cond.code yX4_triesLimit cX4_triesLimit 3 (some .boolean), Cond.fieldLink RX4 114 "GripInspector$Lift" "limits" "[I", Cond.methodLink RX4 206 yX4_isLimit, Cond.static yX4_isLimit, Cond.code yX4_isLimit cX4_isLimit 2 (some .boolean)]
def wsL_runScript_r6 : List Cond := [Cond.fieldLink RX4 249 "GripInspector" "GREATEST_LIMITS" "[I", Cond.methodLink RX4 104 yX0_count, Cond.instanceMethod yX0_count, Cond.selects RX0 yX0_count yX0_count, Cond.code yX0_count cX0_count 4 (some .int)]
def wsL_runScript : List Cond := .codeWith yL_runScript cL_runScript 6 (some .int) [(0, 11, 14, 13)] :: ((wsL_runScript_r1 ++ (wsL_runScript_r2 ++ (wsL_runScript_r3 ++ (wsL_runScript_r4 ++ (wsL_runScript_r5 ++ wsL_runScript_r6))))) ++ wsX40 ++ wsX00 ++ (vx_atS RX4 60 "java/lang/IllegalArgumentException" ["java/lang/RuntimeException", "java/lang/Exception"]).filter goodWord)
def wsL_simulate_r1 : List Cond := [Cond.classLink RL 13 "java/lang/IllegalArgumentException", Cond.methodLink RL 87 yX4_simulate, Cond.instanceMethod yX4_simulate, Cond.selects RX4 yX4_simulate yX4_simulate, Cond.initialized RX4, Cond.code yX4_simulate cX4_simulate 4 (some .int), Cond.classLink RX4 56 "java/lang/IllegalArgumentException", Cond.initialized "java/lang/IllegalArgumentException", Cond.fieldLink RX4 16 "GripInspector" "trial" "LGripInspector$Lift;", Cond.fieldLink RX4 10 "GripInspector" "lift" "LGripInspector$Lift;", Cond.fieldLink RX4 146 "GripInspector$Lift" "randomState" "J", Cond.methodLink RX4 159 yX4_isStepNumber, Cond.static yX4_isStepNumber, Cond.code yX4_isStepNumber cX4_isStepNumber 1 (some .boolean), Cond.methodLink RX4 94 yX0_become, Cond.instanceMethod yX0_become, Cond.selects RX0 yX0_become yX0_become, Cond.initialized RX0, Cond.code yX0_become cX0_become 2 none, Cond.fieldLink RX0 9 "GripInspector$Lift" "weight" "[I", Cond.methodLink RX0 56 arraycopyName, Cond.native arraycopyName, Cond.static arraycopyName, Cond.initialized "java/lang/System"]
def wsL_simulate_r2 : List Cond := [Cond.fieldLink RX0 15 "GripInspector$Lift" "cycles" "[I", Cond.fieldLink RX0 18 "GripInspector$Lift" "wear" "[I", Cond.fieldLink RX0 21 "GripInspector$Lift" "pulls" "[I", Cond.fieldLink RX0 24 "GripInspector$Lift" "lastSlip" "[I", Cond.fieldLink RX0 27 "GripInspector$Lift" "place" "[I", Cond.fieldLink RX0 30 "GripInspector$Lift" "spot" "[I", Cond.fieldLink RX0 33 "GripInspector$Lift" "stepsLeft" "[I", Cond.fieldLink RX0 36 "GripInspector$Lift" "limits" "[I", Cond.fieldLink RX0 42 "GripInspector$Lift" "n" "I", Cond.fieldLink RX0 46 "GripInspector$Lift" "station" "I", Cond.fieldLink RX0 49 "GripInspector$Lift" "clock" "I", Cond.fieldLink RX0 52 "GripInspector$Lift" "randomState" "J", Cond.methodLink RX4 167 yX0_advanceBy, Cond.instanceMethod yX0_advanceBy, Cond.selects RX0 yX0_advanceBy yX0_advanceBy, Cond.code yX0_advanceBy cX0_advanceBy 3 none, Cond.methodLink RX0 70 yX0_advance, Cond.instanceMethod yX0_advance, Cond.selects RX0 yX0_advance yX0_advance, Cond.code yX0_advance cX0_advance 3 (some .int), Cond.constantLong RX0 73 (6364136223846793005), Cond.constantLong RX0 75 (1442695040888963407), Cond.methodLink RX0 77 yX0_gripAt, Cond.instanceMethod yX0_gripAt]
def wsL_simulate_r3 : List Cond := [Cond.selects RX0 yX0_gripAt yX0_gripAt, Cond.code yX0_gripAt cX0_gripAt 3 (some .int), Cond.methodLink RX0 80 yX0_pass, Cond.instanceMethod yX0_pass, Cond.selects RX0 yX0_pass yX0_pass, Cond.code yX0_pass cX0_pass 6 (some .int), Cond.methodLink RX0 84 yX0_repairAllBut, Cond.instanceMethod yX0_repairAllBut, Cond.selects RX0 yX0_repairAllBut yX0_repairAllBut, Cond.code yX0_repairAllBut cX0_repairAllBut 3 none, Cond.methodLink RX0 88 yX0_fillStation, Cond.instanceMethod yX0_fillStation, Cond.selects RX0 yX0_fillStation yX0_fillStation, Cond.code yX0_fillStation cX0_fillStation 3 (some .int), Cond.methodLink RX0 91 yX0_isRoomAt, Cond.instanceMethod yX0_isRoomAt, Cond.selects RX0 yX0_isRoomAt yX0_isRoomAt, Cond.code yX0_isRoomAt cX0_isRoomAt 3 (some .boolean), Cond.methodLink RX0 99 yX0_distance, Cond.instanceMethod yX0_distance, Cond.selects RX0 yX0_distance yX0_distance, Cond.code yX0_distance cX0_distance 4 (some .int), Cond.methodLink RX0 95 yX0_hang, Cond.instanceMethod yX0_hang]
def wsL_simulate_r4 : List Cond := [Cond.selects RX0 yX0_hang yX0_hang, Cond.code yX0_hang cX0_hang 3 none, Cond.methodLink RX4 270 yX0_allPulls, Cond.instanceMethod yX0_allPulls, Cond.selects RX0 yX0_allPulls yX0_allPulls, Cond.code yX0_allPulls cX0_allPulls 3 (some .int), Cond.methodLink RX4 104 yX0_count, Cond.instanceMethod yX0_count, Cond.selects RX0 yX0_count yX0_count, Cond.code yX0_count cX0_count 4 (some .int)]
def wsL_simulate : List Cond := .codeWith yL_simulate cL_simulate 6 (some .int) [(0, 11, 14, 13)] :: ((wsL_simulate_r1 ++ (wsL_simulate_r2 ++ (wsL_simulate_r3 ++ wsL_simulate_r4))) ++ wsX40 ++ wsX00 ++ (vx_atS RX4 60 "java/lang/IllegalArgumentException" ["java/lang/RuntimeException", "java/lang/Exception"]).filter goodWord)
def wsL_save_r1 : List Cond := [Cond.classLink RL 28 "java/lang/IndexOutOfBoundsException", Cond.methodLink RL 91 yX4_save, Cond.instanceMethod yX4_save, Cond.selects RX4 yX4_save yX4_save, Cond.initialized RX4, Cond.code yX4_save cX4_save 2 (some .int), Cond.classLink RX4 124 "java/lang/IndexOutOfBoundsException", Cond.initialized "java/lang/IndexOutOfBoundsException", Cond.fieldLink RX4 42 "GripInspector" "saves" "LGripInspector$Memory;", Cond.fieldLink RX4 10 "GripInspector" "lift" "LGripInspector$Lift;", Cond.fieldLink RX4 45 "GripInspector" "saved" "[Z", Cond.fieldLink RX4 111 "GripInspector$Lift" "clock" "I", Cond.methodLink RX4 275 yX2_keep, Cond.instanceMethod yX2_keep, Cond.selects RX2 yX2_keep yX2_keep, Cond.initialized RX2, Cond.code yX2_keep cX2_keep 4 none, Cond.methodLink RX2 16 yX2_rowAt, Cond.instanceMethod yX2_rowAt, Cond.selects RX2 yX2_rowAt yX2_rowAt, Cond.code yX2_rowAt cX2_rowAt 2 (some (.object "GripInspector$Lift")), Cond.fieldLink RX2 9 "GripInspector$Memory" "rows" "[LGripInspector$Lift;", Cond.methodLink RX2 20 yX0_become, Cond.instanceMethod yX0_become]
def wsL_save_r2 : List Cond := [Cond.selects RX0 yX0_become yX0_become, Cond.initialized RX0, Cond.code yX0_become cX0_become 2 none, Cond.fieldLink RX0 9 "GripInspector$Lift" "weight" "[I", Cond.methodLink RX0 56 arraycopyName, Cond.native arraycopyName, Cond.static arraycopyName, Cond.initialized "java/lang/System", Cond.fieldLink RX0 15 "GripInspector$Lift" "cycles" "[I", Cond.fieldLink RX0 18 "GripInspector$Lift" "wear" "[I", Cond.fieldLink RX0 21 "GripInspector$Lift" "pulls" "[I", Cond.fieldLink RX0 24 "GripInspector$Lift" "lastSlip" "[I", Cond.fieldLink RX0 27 "GripInspector$Lift" "place" "[I", Cond.fieldLink RX0 30 "GripInspector$Lift" "spot" "[I", Cond.fieldLink RX0 33 "GripInspector$Lift" "stepsLeft" "[I", Cond.fieldLink RX0 36 "GripInspector$Lift" "limits" "[I", Cond.fieldLink RX0 42 "GripInspector$Lift" "n" "I", Cond.fieldLink RX0 46 "GripInspector$Lift" "station" "I", Cond.fieldLink RX0 49 "GripInspector$Lift" "clock" "I", Cond.fieldLink RX0 52 "GripInspector$Lift" "randomState" "J"]
def wsL_save : List Cond := .codeWith yL_save cL_save 4 (some .int) [(0, 9, 12, 28)] :: ((wsL_save_r1 ++ wsL_save_r2) ++ wsX40 ++ wsX00 ++ wsX20 ++ (vx_atS RX4 128 "java/lang/IndexOutOfBoundsException" ["java/lang/RuntimeException", "java/lang/Exception"]).filter goodWord)
def wsL_restore_r1 : List Cond := [Cond.classLink RL 28 "java/lang/IndexOutOfBoundsException", Cond.classLink RL 15 "java/lang/IllegalStateException", Cond.methodLink RL 94 yX4_restore, Cond.instanceMethod yX4_restore, Cond.selects RX4 yX4_restore yX4_restore, Cond.initialized RX4, Cond.code yX4_restore cX4_restore 2 (some .int), Cond.classLink RX4 124 "java/lang/IndexOutOfBoundsException", Cond.initialized "java/lang/IndexOutOfBoundsException", Cond.classLink RX4 70 "java/lang/IllegalStateException", Cond.initialized "java/lang/IllegalStateException", Cond.fieldLink RX4 45 "GripInspector" "saved" "[Z", Cond.fieldLink RX4 42 "GripInspector" "saves" "LGripInspector$Memory;", Cond.fieldLink RX4 10 "GripInspector" "lift" "LGripInspector$Lift;", Cond.fieldLink RX4 49 "GripInspector" "remembered" "I", Cond.fieldLink RX4 111 "GripInspector$Lift" "clock" "I", Cond.methodLink RX4 213 yX2_recall, Cond.instanceMethod yX2_recall, Cond.selects RX2 yX2_recall yX2_recall, Cond.initialized RX2, Cond.code yX2_recall cX2_recall 4 none, Cond.methodLink RX2 16 yX2_rowAt, Cond.instanceMethod yX2_rowAt, Cond.selects RX2 yX2_rowAt yX2_rowAt]
def wsL_restore_r2 : List Cond := [Cond.code yX2_rowAt cX2_rowAt 2 (some (.object "GripInspector$Lift")), Cond.fieldLink RX2 9 "GripInspector$Memory" "rows" "[LGripInspector$Lift;", Cond.methodLink RX2 20 yX0_become, Cond.instanceMethod yX0_become, Cond.selects RX0 yX0_become yX0_become, Cond.initialized RX0, Cond.code yX0_become cX0_become 2 none, Cond.fieldLink RX0 9 "GripInspector$Lift" "weight" "[I", Cond.methodLink RX0 56 arraycopyName, Cond.native arraycopyName, Cond.static arraycopyName, Cond.initialized "java/lang/System", Cond.fieldLink RX0 15 "GripInspector$Lift" "cycles" "[I", Cond.fieldLink RX0 18 "GripInspector$Lift" "wear" "[I", Cond.fieldLink RX0 21 "GripInspector$Lift" "pulls" "[I", Cond.fieldLink RX0 24 "GripInspector$Lift" "lastSlip" "[I", Cond.fieldLink RX0 27 "GripInspector$Lift" "place" "[I", Cond.fieldLink RX0 30 "GripInspector$Lift" "spot" "[I", Cond.fieldLink RX0 33 "GripInspector$Lift" "stepsLeft" "[I", Cond.fieldLink RX0 36 "GripInspector$Lift" "limits" "[I", Cond.fieldLink RX0 42 "GripInspector$Lift" "n" "I", Cond.fieldLink RX0 46 "GripInspector$Lift" "station" "I", Cond.fieldLink RX0 49 "GripInspector$Lift" "clock" "I", Cond.fieldLink RX0 52 "GripInspector$Lift" "randomState" "J"]
def wsL_restore : List Cond := .codeWith yL_restore cL_restore 4 (some .int) [(0, 9, 12, 28), (0, 9, 15, 15)] :: ((wsL_restore_r1 ++ wsL_restore_r2) ++ wsX40 ++ wsX00 ++ wsX20 ++ (vx_atS RX4 128 "java/lang/IndexOutOfBoundsException" ["java/lang/RuntimeException", "java/lang/Exception"]).filter goodWord ++ (vx_atS RX4 74 "java/lang/IllegalStateException" ["java/lang/RuntimeException", "java/lang/Exception"]).filter goodWord)
def wsL_law0_r1 : List Cond := [Cond.classLink RL 8 RX4, Cond.instantiable RX4 9, Cond.initialized RX4, Cond.classLink RL 98 RX5, Cond.instantiable RX5 15, Cond.initialized RX5, Cond.arrayClass .long, Cond.constantLong RL 158 (4294967295), Cond.methodLink RL 97 yX4_init, Cond.instanceMethod yX4_init, Cond.code yX4_init cX4_init 1 none, Cond.methodLink RX4 1 objectInit, Cond.instanceMethod objectInit, Cond.code objectInit ⟨#[0xb1]⟩ 1 none, Cond.classLink RX4 7 RX0, Cond.instantiable RX0 13, Cond.initialized RX0, Cond.fieldLink RX4 10 "GripInspector" "lift" "LGripInspector$Lift;", Cond.fieldLink RX4 16 "GripInspector" "trial" "LGripInspector$Lift;", Cond.classLink RX4 19 RX1, Cond.instantiable RX1 3, Cond.initialized RX1, Cond.fieldLink RX4 22 "GripInspector" "text" "LGripInspector$LiftText;", Cond.classLink RX4 26 RX3]
def wsL_law0_r2 : List Cond := [Cond.instantiable RX3 2, Cond.initialized RX3, Cond.fieldLink RX4 29 "GripInspector" "summary" "LGripInspector$Signs;", Cond.classLink RX4 33 RX2, Cond.instantiable RX2 1, Cond.initialized RX2, Cond.fieldLink RX4 38 "GripInspector" "history" "LGripInspector$Memory;", Cond.fieldLink RX4 42 "GripInspector" "saves" "LGripInspector$Memory;", Cond.arrayClass .boolean, Cond.fieldLink RX4 45 "GripInspector" "saved" "[Z", Cond.fieldLink RX4 49 "GripInspector" "remembered" "I", Cond.fieldLink RX4 53 "GripInspector" "nextRemembered" "I", Cond.methodLink RX4 9 yX0_init, Cond.instanceMethod yX0_init, Cond.code yX0_init cX0_init 1 none, Cond.methodLink RX0 3 objectInit, Cond.arrayClass .int, Cond.fieldLink RX0 9 "GripInspector$Lift" "weight" "[I", Cond.fieldLink RX0 15 "GripInspector$Lift" "cycles" "[I", Cond.fieldLink RX0 18 "GripInspector$Lift" "wear" "[I", Cond.fieldLink RX0 21 "GripInspector$Lift" "pulls" "[I", Cond.fieldLink RX0 24 "GripInspector$Lift" "lastSlip" "[I", Cond.fieldLink RX0 27 "GripInspector$Lift" "place" "[I", Cond.fieldLink RX0 30 "GripInspector$Lift" "spot" "[I"]
def wsL_law0_r3 : List Cond := [Cond.fieldLink RX0 33 "GripInspector$Lift" "stepsLeft" "[I", Cond.fieldLink RX0 36 "GripInspector$Lift" "limits" "[I", Cond.fieldLink RX0 42 "GripInspector$Lift" "n" "I", Cond.methodLink RX0 39 yX0_clear, Cond.instanceMethod yX0_clear, Cond.selects RX0 yX0_clear yX0_clear, Cond.code yX0_clear cX0_clear 2 none, Cond.fieldLink RX0 46 "GripInspector$Lift" "station" "I", Cond.fieldLink RX0 49 "GripInspector$Lift" "clock" "I", Cond.fieldLink RX0 52 "GripInspector$Lift" "randomState" "J", Cond.instanceMethod yX1_init, Cond.code yX1_init cX1_init 1 none, Cond.methodLink RX1 3 objectInit, Cond.classLink RX1 9 RX3, Cond.fieldLink RX1 12 "GripInspector$LiftText" "signs" "LGripInspector$Signs;", Cond.classLink RX1 18 RX0, Cond.fieldLink RX1 21 "GripInspector$LiftText" "draft" "LGripInspector$Lift;", Cond.instanceMethod yX3_init, Cond.code yX3_init cX3_init 1 none, Cond.methodLink RX3 3 objectInit, Cond.arrayClass .char, Cond.fieldLink RX3 9 "GripInspector$Signs" "row" "[C", Cond.fieldLink RX3 15 "GripInspector$Signs" "length" "I", Cond.methodLink RX1 20 yX0_init]
def wsL_law0_r4 : List Cond := [Cond.methodLink RX4 35 yX2_init, Cond.instanceMethod yX2_init, Cond.code yX2_init cX2_init 3 none, Cond.methodLink RX2 1 objectInit, Cond.classLink RX2 7 RX0, Cond.fieldLink RX2 9 "GripInspector$Memory" "rows" "[LGripInspector$Lift;", Cond.methodLink RX2 15 yX0_init, Cond.methodLink RL 100 yX5_init, Cond.instanceMethod yX5_init, Cond.code yX5_init cX5_init 1 none, Cond.methodLink RX5 1 objectInit, Cond.fieldLink RX5 7 "GripInspectorModel" "script" "[I", Cond.fieldLink RX5 13 "GripInspectorModel" "readRow" "[I", Cond.fieldLink RX5 16 "GripInspectorModel" "now" "[I", Cond.fieldLink RX5 19 "GripInspectorModel" "trial" "[I", Cond.fieldLink RX5 22 "GripInspectorModel" "diary" "[I", Cond.fieldLink RX5 25 "GripInspectorModel" "kept" "[I", Cond.fieldLink RX5 28 "GripInspectorModel" "isKept" "[Z", Cond.fieldLink RX5 32 "GripInspectorModel" "counts" "[I", Cond.fieldLink RX5 35 "GripInspectorModel" "report" "[I", Cond.fieldLink RX5 38 "GripInspectorModel" "n" "I", Cond.methodLink RL 101 yL_append, Cond.static yL_append, Cond.initialized RL]
def wsL_law0_r5 : List Cond := [Cond.codeWith yL_append cL_append 4 (some .int) [(0, 9, 12, 13), (0, 9, 15, 15)], Cond.classLink RL 13 "java/lang/IllegalArgumentException", Cond.classLink RL 15 "java/lang/IllegalStateException", Cond.methodLink RL 7 yX4_append, Cond.instanceMethod yX4_append, Cond.selects RX4 yX4_append yX4_append, Cond.code yX4_append cX4_append 2 (some .int), Cond.classLink RX4 56 "java/lang/IllegalArgumentException", Cond.initialized "java/lang/IllegalArgumentException", Cond.classLink RX4 70 "java/lang/IllegalStateException", Cond.initialized "java/lang/IllegalStateException", Cond.fieldLink RX4 63 "GripInspector$LiftText" "signs" "LGripInspector$Signs;", Cond.fieldLink RX4 79 "GripInspector$Signs" "length" "I", Cond.methodLink RX4 66 yX3_isFull, Cond.instanceMethod yX3_isFull, Cond.selects RX3 yX3_isFull yX3_isFull, Cond.code yX3_isFull cX3_isFull 1 (some .boolean), Cond.methodLink RX4 75 yX3_put, Cond.instanceMethod yX3_put, Cond.selects RX3 yX3_put yX3_put, Cond.code yX3_put cX3_put 2 none, Cond.methodLink RL 106 yX5_append, Cond.instanceMethod yX5_append, Cond.selects RX5 yX5_append yX5_append]
def wsL_law0_r6 : List Cond := [Cond.code yX5_append cX5_append 2 (some .int), Cond.constantLong RX5 92 (255), Cond.fieldLink RX5 94 "GripInspectorModel" "scriptSize" "I", Cond.methodLink RX5 54 yX5_in, Cond.static yX5_in, Cond.code yX5_in cX5_in 6 (some .boolean), Cond.methodLink RX5 97 yX5_refused, Cond.instanceMethod yX5_refused, Cond.selects RX5 yX5_refused yX5_refused, Cond.code yX5_refused cX5_refused 2 (some .boolean), Cond.fieldLink RX5 42 "GripInspectorModel" "refusal" "I", Cond.methodLink RL 107 yX5_thrown, Cond.instanceMethod yX5_thrown, Cond.selects RX5 yX5_thrown yX5_thrown, Cond.code yX5_thrown cX5_thrown 1 (some .int), Cond.methodLink RL 110 yX4_clearText, Cond.instanceMethod yX4_clearText, Cond.selects RX4 yX4_clearText yX4_clearText, Cond.code yX4_clearText cX4_clearText 2 (some .int), Cond.methodLink RX4 82 yX3_clear, Cond.instanceMethod yX3_clear, Cond.selects RX3 yX3_clear yX3_clear, Cond.code yX3_clear cX3_clear 1 none, Cond.methodLink RL 113 yX5_clearText]
def wsL_law0_r7 : List Cond := [Cond.instanceMethod yX5_clearText, Cond.selects RX5 yX5_clearText yX5_clearText, Cond.code yX5_clearText cX5_clearText 2 (some .int), Cond.methodLink RL 114 yX4_errorPosition, Cond.instanceMethod yX4_errorPosition, Cond.selects RX4 yX4_errorPosition yX4_errorPosition, Cond.code yX4_errorPosition cX4_errorPosition 1 (some .int), Cond.methodLink RX4 85 yX1_findError, Cond.instanceMethod yX1_findError, Cond.selects RX1 yX1_findError yX1_findError, Cond.code yX1_findError cX1_findError 3 (some .int), Cond.fieldLink RX1 25 "GripInspector$LiftText" "at" "I", Cond.fieldLink RX1 36 "GripInspector$Signs" "length" "I", Cond.methodLink RX1 29 yX0_clear, Cond.methodLink RX1 32 yX1_readHead, Cond.instanceMethod yX1_readHead, Cond.selects RX1 yX1_readHead yX1_readHead, Cond.code yX1_readHead cX1_readHead 5 (some .boolean), Cond.fieldLink RX1 49 "GripInspector$Lift" "n" "I", Cond.fieldLink RX1 60 "GripInspector$Lift" "limits" "[I", Cond.methodLink RX1 42 yX3_at, Cond.instanceMethod yX3_at, Cond.selects RX3 yX3_at yX3_at, Cond.code yX3_at cX3_at 2 (some .int)]
def wsL_law0_r8 : List Cond := [Cond.methodLink RX1 45 yX1_readPair, Cond.instanceMethod yX1_readPair, Cond.selects RX1 yX1_readPair yX1_readPair, Cond.code yX1_readPair cX1_readPair 6 (some .int), Cond.methodLink RX1 78 yX1_isBegin, Cond.instanceMethod yX1_isBegin, Cond.selects RX1 yX1_isBegin yX1_isBegin, Cond.code yX1_isBegin cX1_isBegin 6 (some .boolean), Cond.methodLink RX1 82 yX1_isAllowed, Cond.instanceMethod yX1_isAllowed, Cond.selects RX1 yX1_isAllowed yX1_isAllowed, Cond.code yX1_isAllowed cX1_isAllowed 5 (some .boolean), Cond.methodLink RX1 85 yX0_gripAt, Cond.instanceMethod yX0_gripAt, Cond.selects RX0 yX0_gripAt yX0_gripAt, Cond.code yX0_gripAt cX0_gripAt 3 (some .int), Cond.methodLink RX1 56 yX1_readDigit, Cond.instanceMethod yX1_readDigit, Cond.selects RX1 yX1_readDigit yX1_readDigit, Cond.code yX1_readDigit cX1_readDigit 4 (some .int), Cond.methodLink RX1 39 yX1_readItem, Cond.instanceMethod yX1_readItem, Cond.selects RX1 yX1_readItem yX1_readItem, Cond.code yX1_readItem cX1_readItem 6 (some .boolean)]
def wsL_law0_r9 : List Cond := [Cond.methodLink RX1 63 yX0_grips, Cond.instanceMethod yX0_grips, Cond.selects RX0 yX0_grips yX0_grips, Cond.code yX0_grips cX0_grips 1 (some .int), Cond.methodLink RX0 62 yX0_count, Cond.instanceMethod yX0_count, Cond.selects RX0 yX0_count yX0_count, Cond.code yX0_count cX0_count 4 (some .int), Cond.methodLink RX1 67 yX0_count, Cond.methodLink RX1 70 yX0_add, Cond.instanceMethod yX0_add, Cond.selects RX0 yX0_add yX0_add, Cond.code yX0_add cX0_add 3 none, Cond.methodLink RX0 66 yX0_grips, Cond.methodLink RX1 74 yX0_hang, Cond.instanceMethod yX0_hang, Cond.selects RX0 yX0_hang yX0_hang, Cond.code yX0_hang cX0_hang 3 none, Cond.methodLink RL 117 yX5_errorPosition, Cond.instanceMethod yX5_errorPosition, Cond.selects RX5 yX5_errorPosition yX5_errorPosition, Cond.code yX5_errorPosition cX5_errorPosition 1 (some .int), Cond.methodLink RX5 133 yX5_readText, Cond.instanceMethod yX5_readText]
def wsL_law0_r10 : List Cond := [Cond.selects RX5 yX5_readText yX5_readText, Cond.code yX5_readText cX5_readText 3 (some .int), Cond.fieldLink RX5 101 "GripInspectorModel" "spot" "I", Cond.fieldLink RX5 107 "GripInspectorModel" "readN" "I", Cond.methodLink RX5 126 yX5_two, Cond.instanceMethod yX5_two, Cond.selects RX5 yX5_two yX5_two, Cond.code yX5_two cX5_two 5 (some .int), Cond.methodLink RX5 104 yX5_digit, Cond.instanceMethod yX5_digit, Cond.selects RX5 yX5_digit yX5_digit, Cond.code yX5_digit cX5_digit 4 (some .int), Cond.methodLink RX5 129 yX5_readItem, Cond.instanceMethod yX5_readItem, Cond.selects RX5 yX5_readItem yX5_readItem, Cond.code yX5_readItem cX5_readItem 5 (some .boolean), Cond.methodLink RX5 115 yX5_count, Cond.static yX5_count, Cond.code yX5_count cX5_count 4 (some .int), Cond.methodLink RX5 118 yX5_readSlot, Cond.instanceMethod yX5_readSlot, Cond.selects RX5 yX5_readSlot yX5_readSlot, Cond.code yX5_readSlot cX5_readSlot 4 (some .int), Cond.constantLong RX5 110 (9)]
def wsL_law0_r11 : List Cond := [Cond.methodLink RX5 112 yX5_mayHang, Cond.instanceMethod yX5_mayHang, Cond.selects RX5 yX5_mayHang yX5_mayHang, Cond.code yX5_mayHang cX5_mayHang 2 (some .boolean), Cond.methodLink RX5 60 yX5_gripAt, Cond.static yX5_gripAt, Cond.code yX5_gripAt cX5_gripAt 3 (some .int), Cond.methodLink RX5 122 yX5_addOn, Cond.static yX5_addOn, Cond.code yX5_addOn cX5_addOn 5 none, Cond.methodLink RL 118 yL_load, Cond.static yL_load, Cond.codeWith yL_load cL_load 3 (some .int) [(0, 8, 11, 15)], Cond.methodLink RL 17 yX4_load, Cond.instanceMethod yX4_load, Cond.selects RX4 yX4_load yX4_load, Cond.code yX4_load cX4_load 2 (some .int), Cond.fieldLink RX4 91 "GripInspector$LiftText" "draft" "LGripInspector$Lift;", Cond.methodLink RX4 94 yX0_become, Cond.instanceMethod yX0_become, Cond.selects RX0 yX0_become yX0_become, Cond.code yX0_become cX0_become 2 none, Cond.methodLink RX0 56 arraycopyName, Cond.native arraycopyName]
def wsL_law0_r12 : List Cond := [Cond.static arraycopyName, Cond.initialized "java/lang/System", Cond.methodLink RX4 98 yX0_grips, Cond.methodLink RL 121 yX5_load, Cond.instanceMethod yX5_load, Cond.selects RX5 yX5_load yX5_load, Cond.code yX5_load cX5_load 1 (some .int), Cond.fieldLink RX5 47 "GripInspectorModel" "acts" "I", Cond.methodLink RX5 50 yX5_copy, Cond.static yX5_copy, Cond.code yX5_copy cX5_copy 6 none, Cond.methodLink RL 122 yL_about, Cond.static yL_about, Cond.codeWith yL_about cL_about 4 (some .int) [(0, 9, 12, 13)], Cond.methodLink RL 21 yX4_about, Cond.instanceMethod yX4_about, Cond.selects RX4 yX4_about yX4_about, Cond.code yX4_about cX4_about 2 (some .int), Cond.fieldLink RX4 101 "GripInspector$Lift" "n" "I", Cond.fieldLink RX4 108 "GripInspector$Lift" "station" "I", Cond.fieldLink RX4 111 "GripInspector$Lift" "clock" "I", Cond.fieldLink RX4 114 "GripInspector$Lift" "limits" "[I", Cond.methodLink RX4 104 yX0_count, Cond.methodLink RL 124 yX5_about]
def wsL_law0_r13 : List Cond := [Cond.instanceMethod yX5_about, Cond.selects RX5 yX5_about yX5_about, Cond.code yX5_about cX5_about 2 (some .int), Cond.constantLong RX5 136 (12), Cond.methodLink RL 125 yL_grip, Cond.static yL_grip, Cond.codeWith yL_grip cL_grip 5 (some .int) [(0, 10, 13, 28), (0, 10, 17, 13)], Cond.classLink RL 28 "java/lang/IndexOutOfBoundsException", Cond.methodLink RL 24 yX4_grip, Cond.instanceMethod yX4_grip, Cond.selects RX4 yX4_grip yX4_grip, Cond.code yX4_grip cX4_grip 3 (some .int), Cond.classLink RX4 124 "java/lang/IndexOutOfBoundsException", Cond.initialized "java/lang/IndexOutOfBoundsException", Cond.methodLink RX4 120 yX0_has, Cond.instanceMethod yX0_has, Cond.selects RX0 yX0_has yX0_has, Cond.code yX0_has cX0_has 2 (some .boolean), Cond.methodLink RX4 129 yX4_isGripNumber, Cond.static yX4_isGripNumber, Cond.code yX4_isGripNumber cX4_isGripNumber 1 (some .boolean), Cond.methodLink RX4 134 yX0_number, Cond.instanceMethod yX0_number, Cond.selects RX0 yX0_number yX0_number]
def wsL_law0_r14 : List Cond := [Cond.code yX0_number cX0_number 3 (some .int), Cond.methodLink RL 128 yX5_grip, Cond.instanceMethod yX5_grip, Cond.selects RX5 yX5_grip yX5_grip, Cond.code yX5_grip cX5_grip 3 (some .int), Cond.constantLong RX5 141 (7), Cond.methodLink RX5 138 yX5_isGrip, Cond.instanceMethod yX5_isGrip, Cond.selects RX5 yX5_isGrip yX5_isGrip, Cond.code yX5_isGrip cX5_isGrip 2 (some .boolean), Cond.methodLink RX5 143 yX5_detail, Cond.static yX5_detail, Cond.code yX5_detail cX5_detail 3 (some .int), Cond.methodLink RL 129 yL_slot, Cond.static yL_slot, Cond.codeWith yL_slot cL_slot 4 (some .int) [(0, 9, 12, 28)], Cond.methodLink RL 30 yX4_slot, Cond.instanceMethod yX4_slot, Cond.selects RX4 yX4_slot yX4_slot, Cond.code yX4_slot cX4_slot 2 (some .int), Cond.methodLink RX4 138 yX0_hasSlot, Cond.instanceMethod yX0_hasSlot, Cond.selects RX0 yX0_hasSlot yX0_hasSlot, Cond.code yX0_hasSlot cX0_hasSlot 2 (some .boolean)]
def wsL_law0_r15 : List Cond := [Cond.methodLink RX4 143 yX0_gripAt, Cond.methodLink RL 131 yX5_slot, Cond.instanceMethod yX5_slot, Cond.selects RX5 yX5_slot yX5_slot, Cond.code yX5_slot cX5_slot 2 (some .int), Cond.methodLink RX5 146 yX5_isSlot, Cond.instanceMethod yX5_isSlot, Cond.selects RX5 yX5_isSlot yX5_isSlot, Cond.code yX5_isSlot cX5_isSlot 2 (some .boolean), Cond.methodLink RL 132 yX4_random, Cond.instanceMethod yX4_random, Cond.selects RX4 yX4_random yX4_random, Cond.code yX4_random cX4_random 1 (some .long), Cond.fieldLink RX4 146 "GripInspector$Lift" "randomState" "J", Cond.methodLink RL 136 yX5_random, Cond.instanceMethod yX5_random, Cond.selects RX5 yX5_random yX5_random, Cond.code yX5_random cX5_random 1 (some .long), Cond.methodLink RX5 68 yX5_randomOf, Cond.static yX5_randomOf, Cond.code yX5_randomOf cX5_randomOf 1 (some .long), Cond.constantLong RX5 58 (4294967295), Cond.methodLink RL 137 yL_report, Cond.static yL_report]
def wsL_law0_r16 : List Cond := [Cond.codeWith yL_report cL_report 4 (some .int) [(0, 9, 12, 13)], Cond.methodLink RL 33 yX4_report, Cond.instanceMethod yX4_report, Cond.selects RX4 yX4_report yX4_report, Cond.code yX4_report cX4_report 2 (some .int), Cond.methodLink RX4 152 yX0_describe, Cond.instanceMethod yX0_describe, Cond.selects RX0 yX0_describe yX0_describe, Cond.code yX0_describe cX0_describe 3 none, Cond.methodLink RX0 123 yX3_clear, Cond.methodLink RX0 126 yX0_describeGrip, Cond.instanceMethod yX0_describeGrip, Cond.selects RX0 yX0_describeGrip yX0_describeGrip, Cond.code yX0_describeGrip cX0_describeGrip 3 none, Cond.fieldLink RX0 130 "GripInspector$Signs" "length" "I", Cond.methodLink RX0 133 yX3_put, Cond.methodLink RX0 137 yX3_putNumber, Cond.instanceMethod yX3_putNumber, Cond.selects RX3 yX3_putNumber yX3_putNumber, Cond.code yX3_putNumber cX3_putNumber 2 none, Cond.methodLink RX3 19 yX3_put, Cond.methodLink RX4 156 yX3_at, Cond.methodLink RL 139 yX5_report, Cond.instanceMethod yX5_report]
def wsL_law0_r17 : List Cond := [Cond.selects RX5 yX5_report yX5_report, Cond.code yX5_report cX5_report 2 (some .int), Cond.methodLink RX5 149 yX5_layReport, Cond.instanceMethod yX5_layReport, Cond.selects RX5 yX5_layReport yX5_layReport, Cond.code yX5_layReport cX5_layReport 5 (some .int), Cond.methodLink RL 140 yL_step, Cond.static yL_step, Cond.codeWith yL_step cL_step 4 (some .int) [(0, 9, 12, 13)], Cond.methodLink RL 36 yX4_step, Cond.instanceMethod yX4_step, Cond.selects RX4 yX4_step yX4_step, Cond.code yX4_step cX4_step 2 (some .int), Cond.methodLink RX4 159 yX4_isStepNumber, Cond.static yX4_isStepNumber, Cond.code yX4_isStepNumber cX4_isStepNumber 1 (some .boolean), Cond.methodLink RX4 164 yX4_remember, Cond.instanceMethod yX4_remember, Cond.selects RX4 yX4_remember yX4_remember, Cond.code yX4_remember cX4_remember 1 none, Cond.methodLink RX4 275 yX2_keep, Cond.instanceMethod yX2_keep, Cond.selects RX2 yX2_keep yX2_keep, Cond.code yX2_keep cX2_keep 4 none]
def wsL_law0_r18 : List Cond := [Cond.methodLink RX2 16 yX2_rowAt, Cond.instanceMethod yX2_rowAt, Cond.selects RX2 yX2_rowAt yX2_rowAt, Cond.code yX2_rowAt cX2_rowAt 2 (some (.object "GripInspector$Lift")), Cond.methodLink RX2 20 yX0_become, Cond.methodLink RX4 167 yX0_advanceBy, Cond.instanceMethod yX0_advanceBy, Cond.selects RX0 yX0_advanceBy yX0_advanceBy, Cond.code yX0_advanceBy cX0_advanceBy 3 none, Cond.methodLink RX0 70 yX0_advance, Cond.instanceMethod yX0_advance, Cond.selects RX0 yX0_advance yX0_advance, Cond.code yX0_advance cX0_advance 3 (some .int), Cond.constantLong RX0 73 (6364136223846793005), Cond.constantLong RX0 75 (1442695040888963407), Cond.methodLink RX0 77 yX0_gripAt, Cond.methodLink RX0 80 yX0_pass, Cond.instanceMethod yX0_pass, Cond.selects RX0 yX0_pass yX0_pass, Cond.code yX0_pass cX0_pass 6 (some .int), Cond.methodLink RX0 84 yX0_repairAllBut, Cond.instanceMethod yX0_repairAllBut, Cond.selects RX0 yX0_repairAllBut yX0_repairAllBut, Cond.code yX0_repairAllBut cX0_repairAllBut 3 none]
def wsL_law0_r19 : List Cond := [Cond.methodLink RX0 88 yX0_fillStation, Cond.instanceMethod yX0_fillStation, Cond.selects RX0 yX0_fillStation yX0_fillStation, Cond.code yX0_fillStation cX0_fillStation 3 (some .int), Cond.methodLink RX0 91 yX0_isRoomAt, Cond.instanceMethod yX0_isRoomAt, Cond.selects RX0 yX0_isRoomAt yX0_isRoomAt, Cond.code yX0_isRoomAt cX0_isRoomAt 3 (some .boolean), Cond.methodLink RX0 99 yX0_distance, Cond.instanceMethod yX0_distance, Cond.selects RX0 yX0_distance yX0_distance, Cond.code yX0_distance cX0_distance 4 (some .int), Cond.methodLink RX0 95 yX0_hang, Cond.methodLink RL 142 yX5_step, Cond.instanceMethod yX5_step, Cond.selects RX5 yX5_step yX5_step, Cond.code yX5_step cX5_step 2 (some .int), Cond.constantLong RX5 152 (99), Cond.methodLink RX5 154 yX5_note, Cond.instanceMethod yX5_note, Cond.selects RX5 yX5_note yX5_note, Cond.code yX5_note cX5_note 1 none, Cond.methodLink RX5 157 yX5_stepsOn, Cond.instanceMethod yX5_stepsOn]
def wsL_law0_r20 : List Cond := [Cond.selects RX5 yX5_stepsOn yX5_stepsOn, Cond.code yX5_stepsOn cX5_stepsOn 4 none, Cond.methodLink RX5 88 yX5_stepOn, Cond.instanceMethod yX5_stepOn, Cond.selects RX5 yX5_stepOn yX5_stepOn, Cond.code yX5_stepOn cX5_stepOn 9 none, Cond.constantLong RX5 72 (6364136223846793005), Cond.constantLong RX5 74 (1442695040888963407), Cond.methodLink RX5 76 yX5_setRandomOn, Cond.static yX5_setRandomOn, Cond.code yX5_setRandomOn cX5_setRandomOn 3 none, Cond.methodLink RX5 80 yX5_pass, Cond.instanceMethod yX5_pass, Cond.selects RX5 yX5_pass yX5_pass, Cond.code yX5_pass cX5_pass 5 (some .int), Cond.methodLink RX5 84 yX5_isFree, Cond.instanceMethod yX5_isFree, Cond.selects RX5 yX5_isFree yX5_isFree, Cond.code yX5_isFree cX5_isFree 5 (some .boolean), Cond.methodLink RX5 64 yX5_apart, Cond.instanceMethod yX5_apart, Cond.selects RX5 yX5_apart yX5_apart, Cond.code yX5_apart cX5_apart 4 (some .int), Cond.methodLink RL 143 yL_addGrip]
def wsL_law0_r21 : List Cond := [Cond.static yL_addGrip, Cond.codeWith yL_addGrip cL_addGrip 4 (some .int) [(0, 9, 12, 13), (0, 9, 15, 15)], Cond.methodLink RL 39 yX4_addGrip, Cond.instanceMethod yX4_addGrip, Cond.selects RX4 yX4_addGrip yX4_addGrip, Cond.code yX4_addGrip cX4_addGrip 2 (some .int), Cond.methodLink RX4 172 yX0_isFull, Cond.instanceMethod yX0_isFull, Cond.selects RX0 yX0_isFull yX0_isFull, Cond.code yX0_isFull cX0_isFull 1 (some .boolean), Cond.methodLink RX4 175 yX0_add, Cond.methodLink RL 145 yX5_addGrip, Cond.instanceMethod yX5_addGrip, Cond.selects RX5 yX5_addGrip yX5_addGrip, Cond.code yX5_addGrip cX5_addGrip 2 (some .int), Cond.constantLong RX5 161 (3), Cond.methodLink RL 146 yL_putOn, Cond.static yL_putOn, Cond.codeWith yL_putOn cL_putOn 5 (some .int) [(0, 10, 13, 28), (0, 10, 17, 15)], Cond.methodLink RL 42 yX4_putOn, Cond.instanceMethod yX4_putOn, Cond.selects RX4 yX4_putOn yX4_putOn, Cond.code yX4_putOn cX4_putOn 3 (some .int), Cond.methodLink RX4 180 yX0_isIn]
def wsL_law0_r22 : List Cond := [Cond.instanceMethod yX0_isIn, Cond.selects RX0 yX0_isIn yX0_isIn, Cond.code yX0_isIn cX0_isIn 3 (some .boolean), Cond.methodLink RX4 184 yX0_isRoomAt, Cond.methodLink RX4 189 yX0_hang, Cond.methodLink RL 148 yX5_putOn, Cond.instanceMethod yX5_putOn, Cond.selects RX5 yX5_putOn yX5_putOn, Cond.code yX5_putOn cX5_putOn 3 (some .int), Cond.methodLink RX5 163 yX5_canPut, Cond.instanceMethod yX5_canPut, Cond.selects RX5 yX5_canPut yX5_canPut, Cond.code yX5_canPut cX5_canPut 4 (some .boolean), Cond.methodLink RX5 167 yX5_putAt, Cond.static yX5_putAt, Cond.code yX5_putAt cX5_putAt 3 none, Cond.methodLink RL 149 yL_takeOff, Cond.static yL_takeOff, Cond.codeWith yL_takeOff cL_takeOff 4 (some .int) [(0, 9, 12, 28), (0, 9, 15, 15)], Cond.methodLink RL 45 yX4_takeOff, Cond.instanceMethod yX4_takeOff, Cond.selects RX4 yX4_takeOff yX4_takeOff, Cond.code yX4_takeOff cX4_takeOff 3 (some .int), Cond.fieldLink RX4 195 "GripInspector$Lift" "spot" "[I"]
def wsL_law0_r23 : List Cond := [Cond.methodLink RX4 198 yX0_move, Cond.instanceMethod yX0_move, Cond.selects RX0 yX0_move yX0_move, Cond.code yX0_move cX0_move 3 none, Cond.methodLink RL 151 yX5_takeOff, Cond.instanceMethod yX5_takeOff, Cond.selects RX5 yX5_takeOff yX5_takeOff, Cond.code yX5_takeOff cX5_takeOff 2 (some .int), Cond.methodLink RL 152 yL_scrap, Cond.static yL_scrap, Cond.codeWith yL_scrap cL_scrap 4 (some .int) [(0, 9, 12, 28), (0, 9, 15, 15)], Cond.methodLink RL 48 yX4_scrap, Cond.instanceMethod yX4_scrap, Cond.selects RX4 yX4_scrap yX4_scrap, Cond.code yX4_scrap cX4_scrap 3 (some .int), Cond.fieldLink RX4 203 "GripInspector$Lift" "place" "[I", Cond.methodLink RL 154 yX5_scrap, Cond.instanceMethod yX5_scrap, Cond.selects RX5 yX5_scrap yX5_scrap, Cond.code yX5_scrap cX5_scrap 3 (some .int), Cond.methodLink RL 155 yL_setLimit, Cond.static yL_setLimit, Cond.codeWith yL_setLimit cL_setLimit 5 (some .int) [(0, 10, 13, 13)], Cond.methodLink RL 51 yX4_setLimit]
def wsL_law0_r24 : List Cond := [Cond.instanceMethod yX4_setLimit, Cond.selects RX4 yX4_setLimit yX4_setLimit, Cond.code yX4_setLimit cX4_setLimit 4 (some .int), Cond.methodLink RX4 206 yX4_isLimit, Cond.static yX4_isLimit, Cond.code yX4_isLimit cX4_isLimit 2 (some .boolean), Cond.fieldLink RX4 249 "GripInspector" "GREATEST_LIMITS" "[I", Cond.methodLink RL 157 yX5_setLimit, Cond.instanceMethod yX5_setLimit, Cond.selects RX5 yX5_setLimit yX5_setLimit, Cond.code yX5_setLimit cX5_setLimit 4 (some .int), Cond.methodLink RX5 173 yX5_isLimit, Cond.static yX5_isLimit, Cond.code yX5_isLimit cX5_isLimit 3 (some .boolean), Cond.constantLong RX5 171 (4), Cond.methodLink RL 160 yX4_setRandom, Cond.instanceMethod yX4_setRandom, Cond.selects RX4 yX4_setRandom yX4_setRandom, Cond.code yX4_setRandom cX4_setRandom 5 (some .long), Cond.methodLink RL 164 yX5_setRandom, Cond.instanceMethod yX5_setRandom, Cond.selects RX5 yX5_setRandom yX5_setRandom, Cond.code yX5_setRandom cX5_setRandom 5 (some .long), Cond.methodLink RL 165 yL_undo]
def wsL_law0_r25 : List Cond := [Cond.static yL_undo, Cond.codeWith yL_undo cL_undo 3 (some .int) [(0, 8, 11, 15)], Cond.methodLink RL 54 yX4_undo, Cond.instanceMethod yX4_undo, Cond.selects RX4 yX4_undo yX4_undo, Cond.code yX4_undo cX4_undo 1 (some .int), Cond.methodLink RX4 213 yX2_recall, Cond.instanceMethod yX2_recall, Cond.selects RX2 yX2_recall yX2_recall, Cond.code yX2_recall cX2_recall 4 none, Cond.methodLink RL 167 yX5_undo, Cond.instanceMethod yX5_undo, Cond.selects RX5 yX5_undo yX5_undo, Cond.code yX5_undo cX5_undo 1 (some .int), Cond.methodLink RL 168 yL_gap, Cond.static yL_gap, Cond.codeWith yL_gap cL_gap 4 (some .int) [(0, 9, 12, 28)], Cond.methodLink RL 57 yX4_gap, Cond.instanceMethod yX4_gap, Cond.selects RX4 yX4_gap yX4_gap, Cond.code yX4_gap cX4_gap 2 (some .int), Cond.methodLink RX4 217 yX0_gapBehind, Cond.instanceMethod yX0_gapBehind, Cond.selects RX0 yX0_gapBehind yX0_gapBehind]
def wsL_law0_r26 : List Cond := [Cond.code yX0_gapBehind cX0_gapBehind 4 (some .int), Cond.methodLink RX0 105 Lib.Math.min.name, Cond.static Lib.Math.min.name, Cond.initialized "java/lang/Math", Cond.code Lib.Math.min.name Lib.Math.min.code 2 (some .int), Cond.methodLink RX0 102 yX0_slotsOn, Cond.instanceMethod yX0_slotsOn, Cond.selects RX0 yX0_slotsOn yX0_slotsOn, Cond.code yX0_slotsOn cX0_slotsOn 3 (some .int), Cond.methodLink RL 170 yX5_gap, Cond.instanceMethod yX5_gap, Cond.selects RX5 yX5_gap yX5_gap, Cond.code yX5_gap cX5_gap 2 (some .int), Cond.methodLink RX5 177 yX5_gapOf, Cond.instanceMethod yX5_gapOf, Cond.selects RX5 yX5_gapOf yX5_gapOf, Cond.code yX5_gapOf cX5_gapOf 3 (some .int), Cond.methodLink RL 171 yL_room, Cond.static yL_room, Cond.codeWith yL_room cL_room 4 (some .int) [(0, 9, 12, 13)], Cond.methodLink RL 60 yX4_room, Cond.instanceMethod yX4_room, Cond.selects RX4 yX4_room yX4_room, Cond.code yX4_room cX4_room 2 (some .int)]
def wsL_law0_r27 : List Cond := [Cond.methodLink RX4 220 yX0_roomySlots, Cond.instanceMethod yX0_roomySlots, Cond.selects RX0 yX0_roomySlots yX0_roomySlots, Cond.code yX0_roomySlots cX0_roomySlots 3 (some .int), Cond.methodLink RX4 223 yX0_smallestGap, Cond.instanceMethod yX0_smallestGap, Cond.selects RX0 yX0_smallestGap yX0_smallestGap, Cond.code yX0_smallestGap cX0_smallestGap 4 (some .int), Cond.methodLink RX0 110 yX0_gapBehind, Cond.methodLink RX4 226 yX0_capacity, Cond.instanceMethod yX0_capacity, Cond.selects RX0 yX0_capacity yX0_capacity, Cond.code yX0_capacity cX0_capacity 2 (some .int), Cond.methodLink RL 173 yX5_room, Cond.instanceMethod yX5_room, Cond.selects RX5 yX5_room yX5_room, Cond.code yX5_room cX5_room 4 (some .int), Cond.constantLong RX5 181 (2), Cond.methodLink RL 174 yL_groups, Cond.static yL_groups, Cond.codeWith yL_groups cL_groups 4 (some .int) [(0, 9, 12, 13)], Cond.methodLink RL 63 yX4_groups, Cond.instanceMethod yX4_groups, Cond.selects RX4 yX4_groups yX4_groups]
def wsL_law0_r28 : List Cond := [Cond.code yX4_groups cX4_groups 7 (some .int), Cond.methodLink RX4 231 yX0_opensGroup, Cond.instanceMethod yX0_opensGroup, Cond.selects RX0 yX0_opensGroup yX0_opensGroup, Cond.code yX0_opensGroup cX0_opensGroup 3 (some .boolean), Cond.methodLink RX0 119 yX0_areTogether, Cond.instanceMethod yX0_areTogether, Cond.selects RX0 yX0_areTogether yX0_areTogether, Cond.code yX0_areTogether cX0_areTogether 4 (some .boolean), Cond.methodLink RX0 116 yX0_isGrouped, Cond.instanceMethod yX0_isGrouped, Cond.selects RX0 yX0_isGrouped yX0_isGrouped, Cond.code yX0_isGrouped cX0_isGrouped 2 (some .boolean), Cond.methodLink RX4 234 yX0_groupSize, Cond.instanceMethod yX0_groupSize, Cond.selects RX0 yX0_groupSize yX0_groupSize, Cond.code yX0_groupSize cX0_groupSize 4 (some .int), Cond.methodLink RL 176 yX5_groups, Cond.instanceMethod yX5_groups, Cond.selects RX5 yX5_groups yX5_groups, Cond.code yX5_groups cX5_groups 9 (some .int), Cond.methodLink RX5 183 yX5_isLike, Cond.instanceMethod yX5_isLike, Cond.selects RX5 yX5_isLike yX5_isLike]
def wsL_law0_r29 : List Cond := [Cond.code yX5_isLike cX5_isLike 3 (some .boolean), Cond.methodLink RL 177 yL_dueAfter, Cond.static yL_dueAfter, Cond.codeWith yL_dueAfter cL_dueAfter 4 (some .int) [(0, 9, 12, 28)], Cond.methodLink RL 66 yX4_dueAfter, Cond.instanceMethod yX4_dueAfter, Cond.selects RX4 yX4_dueAfter yX4_dueAfter, Cond.code yX4_dueAfter cX4_dueAfter 2 (some .int), Cond.methodLink RX4 237 yX0_stepsUntilDue, Cond.instanceMethod yX0_stepsUntilDue, Cond.selects RX0 yX0_stepsUntilDue yX0_stepsUntilDue, Cond.code yX0_stepsUntilDue cX0_stepsUntilDue 3 (some .int), Cond.methodLink RX0 113 Lib.Math.max.name, Cond.static Lib.Math.max.name, Cond.code Lib.Math.max.name Lib.Math.max.code 2 (some .int), Cond.methodLink RL 179 yX5_dueAfter, Cond.instanceMethod yX5_dueAfter, Cond.selects RX5 yX5_dueAfter yX5_dueAfter, Cond.code yX5_dueAfter cX5_dueAfter 4 (some .int), Cond.methodLink RL 180 yL_chance, Cond.static yL_chance, Cond.codeWith yL_chance cL_chance 5 (some .int) [(0, 10, 13, 13)], Cond.methodLink RL 69 yX4_chance, Cond.instanceMethod yX4_chance]
def wsL_law0_r30 : List Cond := [Cond.selects RX4 yX4_chance yX4_chance, Cond.code yX4_chance cX4_chance 7 (some .int), Cond.methodLink RL 183 yX5_chance, Cond.instanceMethod yX5_chance, Cond.selects RX5 yX5_chance yX5_chance, Cond.code yX5_chance cX5_chance 6 (some .int), Cond.methodLink RL 184 yL_ahead, Cond.static yL_ahead, Cond.codeWith yL_ahead cL_ahead 6 (some .int) [(0, 12, 15, 28), (0, 12, 19, 13)], Cond.methodLink RL 73 yX4_ahead, Cond.instanceMethod yX4_ahead, Cond.selects RX4 yX4_ahead yX4_ahead, Cond.code yX4_ahead cX4_ahead 4 (some .int), Cond.methodLink RL 187 yX5_ahead, Cond.instanceMethod yX5_ahead, Cond.selects RX5 yX5_ahead yX5_ahead, Cond.code yX5_ahead cX5_ahead 4 (some .int), Cond.methodLink RL 188 yL_happens, Cond.static yL_happens, Cond.codeWith yL_happens cL_happens 5 (some .int) [(0, 10, 13, 13)], Cond.methodLink RL 77 yX4_happens, Cond.instanceMethod yX4_happens, Cond.selects RX4 yX4_happens yX4_happens, Cond.code yX4_happens cX4_happens 5 (some .int)]
def wsL_law0_r31 : List Cond := [Cond.methodLink RX4 246 yX0_advance, Cond.methodLink RL 190 yX5_happens, Cond.instanceMethod yX5_happens, Cond.selects RX5 yX5_happens yX5_happens, Cond.code yX5_happens cX5_happens 3 (some .int), Cond.methodLink RL 191 yL_bestLimit, Cond.static yL_bestLimit, Cond.codeWith yL_bestLimit cL_bestLimit 4 (some .int) [(0, 9, 12, 13)], Cond.methodLink RL 80 yX4_bestLimit, Cond.instanceMethod yX4_bestLimit, Cond.selects RX4 yX4_bestLimit yX4_bestLimit, Cond.code yX4_bestLimit cX4_bestLimit 3 (some .int), Cond.methodLink RX4 252 yX4_isSlipFree, Cond.instanceMethod yX4_isSlipFree, Cond.selects RX4 yX4_isSlipFree yX4_isSlipFree, Cond.code yX4_isSlipFree cX4_isSlipFree 4 (some .boolean), Cond.methodLink RL 193 yX5_bestLimit, Cond.instanceMethod yX5_bestLimit, Cond.selects RX5 yX5_bestLimit yX5_bestLimit, Cond.code yX5_bestLimit cX5_bestLimit 3 (some .int), Cond.methodLink RL 194 yX4_emptyAfter, Cond.instanceMethod yX4_emptyAfter, Cond.selects RX4 yX4_emptyAfter yX4_emptyAfter, Cond.code yX4_emptyAfter cX4_emptyAfter 2 (some .int)]
def wsL_law0_r32 : List Cond := [Cond.methodLink RL 197 yX5_emptyAfter, Cond.instanceMethod yX5_emptyAfter, Cond.selects RX5 yX5_emptyAfter yX5_emptyAfter, Cond.code yX5_emptyAfter cX5_emptyAfter 2 (some .int), Cond.methodLink RL 198 yL_runScript, Cond.static yL_runScript, Cond.codeWith yL_runScript cL_runScript 6 (some .int) [(0, 11, 14, 13)], Cond.methodLink RL 83 yX4_runScript, Cond.instanceMethod yX4_runScript, Cond.selects RX4 yX4_runScript yX4_runScript, Cond.code yX4_runScript cX4_runScript 5 (some .int), Cond.methodLink RX4 257 yX4_groupPower, Cond.static yX4_groupPower, Cond.code yX4_groupPower cX4_groupPower 4 (some .long), Cond.constantLong RX4 280 (100000), Cond.methodLink RX4 263 yX4_groupAt, Cond.static yX4_groupAt, Cond.code yX4_groupAt cX4_groupAt 6 (some .int), Cond.methodLink RX4 267 yX4_obeys, Cond.instanceMethod yX4_obeys, Cond.selects RX4 yX4_obeys yX4_obeys, Cond.code yX4_obeys cX4_obeys 4 (some .boolean), Cond.fieldLink RX4 291 "GripInspector$Lift" "cycles" "[I", Cond.methodLink RX4 282 yX4_triesPutting]
def wsL_law0_r33 : List Cond := [Cond.instanceMethod yX4_triesPutting, Cond.selects RX4 yX4_triesPutting yX4_triesPutting, Cond.code yX4_triesPutting cX4_triesPutting 3 (some .boolean), Cond.methodLink RX4 285 yX4_triesTaking, Cond.instanceMethod yX4_triesTaking, Cond.selects RX4 yX4_triesTaking yX4_triesTaking, Cond.code yX4_triesTaking cX4_triesTaking 2 (some .boolean), Cond.methodLink RX4 288 yX4_triesLimit, Cond.instanceMethod yX4_triesLimit, Cond.selects RX4 yX4_triesLimit yX4_triesLimit, Cond.code yX4_triesLimit cX4_triesLimit 3 (some .boolean), Cond.methodLink RL 201 yX5_runScript, Cond.instanceMethod yX5_runScript, Cond.selects RX5 yX5_runScript yX5_runScript, Cond.code yX5_runScript cX5_runScript 5 (some .int), Cond.constantLong RX5 190 (100000), Cond.methodLink RX5 186 yX5_tenTo, Cond.static yX5_tenTo, Cond.code yX5_tenTo cX5_tenTo 4 (some .long), Cond.constantLong RX5 45 (10), Cond.methodLink RX5 192 yX5_command, Cond.instanceMethod yX5_command, Cond.selects RX5 yX5_command yX5_command, Cond.code yX5_command cX5_command 7 (some .boolean)]
def wsL_law0_r34 : List Cond := [Cond.methodLink RL 202 yL_simulate, Cond.static yL_simulate, Cond.codeWith yL_simulate cL_simulate 6 (some .int) [(0, 11, 14, 13)], Cond.methodLink RL 87 yX4_simulate, Cond.instanceMethod yX4_simulate, Cond.selects RX4 yX4_simulate yX4_simulate, Cond.code yX4_simulate cX4_simulate 4 (some .int), Cond.methodLink RX4 270 yX0_allPulls, Cond.instanceMethod yX0_allPulls, Cond.selects RX0 yX0_allPulls yX0_allPulls, Cond.code yX0_allPulls cX0_allPulls 3 (some .int), Cond.methodLink RL 205 yX5_simulate, Cond.instanceMethod yX5_simulate, Cond.selects RX5 yX5_simulate yX5_simulate, Cond.code yX5_simulate cX5_simulate 6 (some .int), Cond.methodLink RL 206 yL_save, Cond.static yL_save, Cond.codeWith yL_save cL_save 4 (some .int) [(0, 9, 12, 28)], Cond.methodLink RL 91 yX4_save, Cond.instanceMethod yX4_save, Cond.selects RX4 yX4_save yX4_save, Cond.code yX4_save cX4_save 2 (some .int), Cond.methodLink RL 208 yX5_save, Cond.instanceMethod yX5_save]
def wsL_law0_r35 : List Cond := [Cond.selects RX5 yX5_save yX5_save, Cond.code yX5_save cX5_save 2 (some .int), Cond.methodLink RL 209 yL_restore, Cond.static yL_restore, Cond.codeWith yL_restore cL_restore 4 (some .int) [(0, 9, 12, 28), (0, 9, 15, 15)], Cond.methodLink RL 94 yX4_restore, Cond.instanceMethod yX4_restore, Cond.selects RX4 yX4_restore yX4_restore, Cond.code yX4_restore cX4_restore 2 (some .int), Cond.methodLink RL 211 yX5_restore, Cond.instanceMethod yX5_restore, Cond.selects RX5 yX5_restore yX5_restore, Cond.code yX5_restore cX5_restore 2 (some .int)]
def wsL_law0 : List Cond := (wsL_law0_r1 ++ (wsL_law0_r2 ++ (wsL_law0_r3 ++ (wsL_law0_r4 ++ (wsL_law0_r5 ++ (wsL_law0_r6 ++ (wsL_law0_r7 ++ (wsL_law0_r8 ++ (wsL_law0_r9 ++ (wsL_law0_r10 ++ (wsL_law0_r11 ++ (wsL_law0_r12 ++ (wsL_law0_r13 ++ (wsL_law0_r14 ++ (wsL_law0_r15 ++ (wsL_law0_r16 ++ (wsL_law0_r17 ++ (wsL_law0_r18 ++ (wsL_law0_r19 ++ (wsL_law0_r20 ++ (wsL_law0_r21 ++ (wsL_law0_r22 ++ (wsL_law0_r23 ++ (wsL_law0_r24 ++ (wsL_law0_r25 ++ (wsL_law0_r26 ++ (wsL_law0_r27 ++ (wsL_law0_r28 ++ (wsL_law0_r29 ++ (wsL_law0_r30 ++ (wsL_law0_r31 ++ (wsL_law0_r32 ++ (wsL_law0_r33 ++ (wsL_law0_r34 ++ wsL_law0_r35)))))))))))))))))))))))))))))))))) ++ wsX40 ++ wsX50 ++ wsX00 ++ wsX10 ++ wsX30 ++ wsX20 ++ ([] : List Cond)
def wsL_law : List Cond := wsL_law0 ++ (vx_atS RX4 60 "java/lang/IllegalArgumentException" ["java/lang/RuntimeException", "java/lang/Exception"]).filter goodWord ++ (vx_atS RX4 74 "java/lang/IllegalStateException" ["java/lang/RuntimeException", "java/lang/Exception"]).filter goodWord ++ (vx_atS RX4 128 "java/lang/IndexOutOfBoundsException" ["java/lang/RuntimeException", "java/lang/Exception"]).filter goodWord
set_option maxRecDepth 20000 in
abbrev vwCl : List vw_C := [(RX0, TX0, 13), (RX1, TX1, 3), (RX2, TX2, 1), (RX3, TX3, 2), (RX4, TX4, 9), (RX5, TX5, 15)]
end
section
set_option maxRecDepth 20000 in
theorem ggX0_init_X0_clear : GoodIn wsX0_init wsX0_clear := goodIn_r _ [19, 10, 20, 21, 22, 23, 24, 25, 26, 27, 28, 29, 30, 31, 32, 33, 34, 35] (by decide +kernel) (by decide +kernel)
set_option maxRecDepth 20000 in
theorem gX0_init_X0_clear : GoodIn wsX0_init (wsV RX0 39 RX0 yX0_clear wsX0_clear) := goodIn_app (goodIn_of _ (by decide +kernel)) ggX0_init_X0_clear
theorem dX0_init_0 : decode cX0_init 0 = .ok (.aload_n 0, 1) := by decide +kernel
theorem dX0_init_1 : decode cX0_init 1 = .ok (.invokespecial 3, 3) := by decide +kernel
theorem dX0_init_4 : decode cX0_init 4 = .ok (.aload_n 0, 1) := by decide +kernel
theorem dX0_init_5 : decode cX0_init 5 = .ok (.bipush 12, 2) := by decide +kernel
theorem dX0_init_7 : decode cX0_init 7 = .ok (.newarray .int, 2) := by decide +kernel
theorem dX0_init_9 : decode cX0_init 9 = .ok (.putfield 9, 3) := by decide +kernel
theorem dX0_init_12 : decode cX0_init 12 = .ok (.aload_n 0, 1) := by decide +kernel
theorem dX0_init_13 : decode cX0_init 13 = .ok (.bipush 12, 2) := by decide +kernel
theorem dX0_init_15 : decode cX0_init 15 = .ok (.newarray .int, 2) := by decide +kernel
theorem dX0_init_17 : decode cX0_init 17 = .ok (.putfield 15, 3) := by decide +kernel
theorem dX0_init_20 : decode cX0_init 20 = .ok (.aload_n 0, 1) := by decide +kernel
theorem dX0_init_21 : decode cX0_init 21 = .ok (.bipush 12, 2) := by decide +kernel
theorem dX0_init_23 : decode cX0_init 23 = .ok (.newarray .int, 2) := by decide +kernel
theorem dX0_init_25 : decode cX0_init 25 = .ok (.putfield 18, 3) := by decide +kernel
theorem dX0_init_28 : decode cX0_init 28 = .ok (.aload_n 0, 1) := by decide +kernel
theorem dX0_init_29 : decode cX0_init 29 = .ok (.bipush 12, 2) := by decide +kernel
theorem dX0_init_31 : decode cX0_init 31 = .ok (.newarray .int, 2) := by decide +kernel
theorem dX0_init_33 : decode cX0_init 33 = .ok (.putfield 21, 3) := by decide +kernel
theorem dX0_init_36 : decode cX0_init 36 = .ok (.aload_n 0, 1) := by decide +kernel
theorem dX0_init_37 : decode cX0_init 37 = .ok (.bipush 12, 2) := by decide +kernel
theorem dX0_init_39 : decode cX0_init 39 = .ok (.newarray .int, 2) := by decide +kernel
theorem dX0_init_41 : decode cX0_init 41 = .ok (.putfield 24, 3) := by decide +kernel
theorem dX0_init_44 : decode cX0_init 44 = .ok (.aload_n 0, 1) := by decide +kernel
theorem dX0_init_45 : decode cX0_init 45 = .ok (.bipush 12, 2) := by decide +kernel
theorem dX0_init_47 : decode cX0_init 47 = .ok (.newarray .int, 2) := by decide +kernel
theorem dX0_init_49 : decode cX0_init 49 = .ok (.putfield 27, 3) := by decide +kernel
theorem dX0_init_52 : decode cX0_init 52 = .ok (.aload_n 0, 1) := by decide +kernel
theorem dX0_init_53 : decode cX0_init 53 = .ok (.bipush 12, 2) := by decide +kernel
theorem dX0_init_55 : decode cX0_init 55 = .ok (.newarray .int, 2) := by decide +kernel
theorem dX0_init_57 : decode cX0_init 57 = .ok (.putfield 30, 3) := by decide +kernel
theorem dX0_init_60 : decode cX0_init 60 = .ok (.aload_n 0, 1) := by decide +kernel
theorem dX0_init_61 : decode cX0_init 61 = .ok (.bipush 12, 2) := by decide +kernel
theorem dX0_init_63 : decode cX0_init 63 = .ok (.newarray .int, 2) := by decide +kernel
theorem dX0_init_65 : decode cX0_init 65 = .ok (.putfield 33, 3) := by decide +kernel
theorem dX0_init_68 : decode cX0_init 68 = .ok (.aload_n 0, 1) := by decide +kernel
theorem dX0_init_69 : decode cX0_init 69 = .ok (.iconst 5, 1) := by decide +kernel
theorem dX0_init_70 : decode cX0_init 70 = .ok (.newarray .int, 2) := by decide +kernel
theorem dX0_init_72 : decode cX0_init 72 = .ok (.putfield 36, 3) := by decide +kernel
theorem dX0_init_75 : decode cX0_init 75 = .ok (.aload_n 0, 1) := by decide +kernel
theorem dX0_init_76 : decode cX0_init 76 = .ok (.invokevirtual 39, 3) := by decide +kernel
theorem dX0_init_79 : decode cX0_init 79 = .ok (.aload_n 0, 1) := by decide +kernel
theorem dX0_init_80 : decode cX0_init 80 = .ok (.bipush 8, 2) := by decide +kernel
theorem dX0_init_82 : decode cX0_init 82 = .ok (.putfield 42, 3) := by decide +kernel
theorem dX0_init_85 : decode cX0_init 85 = .ok (.aload_n 0, 1) := by decide +kernel
theorem dX0_init_86 : decode cX0_init 86 = .ok (.getfield 36, 3) := by decide +kernel
theorem dX0_init_89 : decode cX0_init 89 = .ok (.iconst 0, 1) := by decide +kernel
theorem dX0_init_90 : decode cX0_init 90 = .ok (.bipush 10, 2) := by decide +kernel
theorem dX0_init_92 : decode cX0_init 92 = .ok (.iastore, 1) := by decide +kernel
theorem dX0_init_93 : decode cX0_init 93 = .ok (.aload_n 0, 1) := by decide +kernel
theorem dX0_init_94 : decode cX0_init 94 = .ok (.getfield 36, 3) := by decide +kernel
theorem dX0_init_97 : decode cX0_init 97 = .ok (.iconst 1, 1) := by decide +kernel
theorem dX0_init_98 : decode cX0_init 98 = .ok (.bipush 20, 2) := by decide +kernel
theorem dX0_init_100 : decode cX0_init 100 = .ok (.iastore, 1) := by decide +kernel
theorem dX0_init_101 : decode cX0_init 101 = .ok (.aload_n 0, 1) := by decide +kernel
theorem dX0_init_102 : decode cX0_init 102 = .ok (.getfield 36, 3) := by decide +kernel
theorem dX0_init_105 : decode cX0_init 105 = .ok (.iconst 2, 1) := by decide +kernel
theorem dX0_init_106 : decode cX0_init 106 = .ok (.iconst 4, 1) := by decide +kernel
theorem dX0_init_107 : decode cX0_init 107 = .ok (.iastore, 1) := by decide +kernel
theorem dX0_init_108 : decode cX0_init 108 = .ok (.aload_n 0, 1) := by decide +kernel
theorem dX0_init_109 : decode cX0_init 109 = .ok (.getfield 36, 3) := by decide +kernel
theorem dX0_init_112 : decode cX0_init 112 = .ok (.iconst 3, 1) := by decide +kernel
theorem dX0_init_113 : decode cX0_init 113 = .ok (.iconst 2, 1) := by decide +kernel
theorem dX0_init_114 : decode cX0_init 114 = .ok (.iastore, 1) := by decide +kernel
theorem dX0_init_115 : decode cX0_init 115 = .ok (.aload_n 0, 1) := by decide +kernel
theorem dX0_init_116 : decode cX0_init 116 = .ok (.getfield 36, 3) := by decide +kernel
theorem dX0_init_119 : decode cX0_init 119 = .ok (.iconst 4, 1) := by decide +kernel
theorem dX0_init_120 : decode cX0_init 120 = .ok (.iconst 3, 1) := by decide +kernel
theorem dX0_init_121 : decode cX0_init 121 = .ok (.iastore, 1) := by decide +kernel
theorem dX0_init_122 : decode cX0_init 122 = .ok (.return_, 1) := by decide +kernel
theorem dX0_clear_0 : decode cX0_clear 0 = .ok (.iconst 0, 1) := by decide +kernel
theorem dX0_clear_1 : decode cX0_clear 1 = .ok (.istore_n 1, 1) := by decide +kernel
theorem dX0_clear_2 : decode cX0_clear 2 = .ok (.iload_n 1, 1) := by decide +kernel
theorem dX0_clear_3 : decode cX0_clear 3 = .ok (.bipush 12, 2) := by decide +kernel
theorem dX0_clear_5 : decode cX0_clear 5 = .ok (.if_icmp .ge 16, 3) := by decide +kernel
theorem dX0_clear_8 : decode cX0_clear 8 = .ok (.aload_n 0, 1) := by decide +kernel
theorem dX0_clear_9 : decode cX0_clear 9 = .ok (.getfield 27, 3) := by decide +kernel
theorem dX0_clear_12 : decode cX0_clear 12 = .ok (.iload_n 1, 1) := by decide +kernel
theorem dX0_clear_13 : decode cX0_clear 13 = .ok (.iconst (-1), 1) := by decide +kernel
theorem dX0_clear_14 : decode cX0_clear 14 = .ok (.iastore, 1) := by decide +kernel
theorem dX0_clear_15 : decode cX0_clear 15 = .ok (.iinc 1 1, 3) := by decide +kernel
theorem dX0_clear_18 : decode cX0_clear 18 = .ok (.goto (-16), 3) := by decide +kernel
theorem dX0_clear_21 : decode cX0_clear 21 = .ok (.aload_n 0, 1) := by decide +kernel
theorem dX0_clear_22 : decode cX0_clear 22 = .ok (.iconst 0, 1) := by decide +kernel
theorem dX0_clear_23 : decode cX0_clear 23 = .ok (.putfield 46, 3) := by decide +kernel
theorem dX0_clear_26 : decode cX0_clear 26 = .ok (.aload_n 0, 1) := by decide +kernel
theorem dX0_clear_27 : decode cX0_clear 27 = .ok (.iconst 0, 1) := by decide +kernel
theorem dX0_clear_28 : decode cX0_clear 28 = .ok (.putfield 49, 3) := by decide +kernel
theorem dX0_clear_31 : decode cX0_clear 31 = .ok (.aload_n 0, 1) := by decide +kernel
theorem dX0_clear_32 : decode cX0_clear 32 = .ok (.lconst 0, 1) := by decide +kernel
theorem dX0_clear_33 : decode cX0_clear 33 = .ok (.putfield 52, 3) := by decide +kernel
theorem dX0_clear_36 : decode cX0_clear 36 = .ok (.return_, 1) := by decide +kernel
theorem dX0_become_0 : decode cX0_become 0 = .ok (.aload_n 1, 1) := by decide +kernel
theorem dX0_become_1 : decode cX0_become 1 = .ok (.getfield 9, 3) := by decide +kernel
theorem dX0_become_4 : decode cX0_become 4 = .ok (.iconst 0, 1) := by decide +kernel
theorem dX0_become_5 : decode cX0_become 5 = .ok (.aload_n 0, 1) := by decide +kernel
theorem dX0_become_6 : decode cX0_become 6 = .ok (.getfield 9, 3) := by decide +kernel
theorem dX0_become_9 : decode cX0_become 9 = .ok (.iconst 0, 1) := by decide +kernel
theorem dX0_become_10 : decode cX0_become 10 = .ok (.bipush 12, 2) := by decide +kernel
theorem dX0_become_12 : decode cX0_become 12 = .ok (.invokestatic 56, 3) := by decide +kernel
theorem dX0_become_15 : decode cX0_become 15 = .ok (.aload_n 1, 1) := by decide +kernel
theorem dX0_become_16 : decode cX0_become 16 = .ok (.getfield 15, 3) := by decide +kernel
theorem dX0_become_19 : decode cX0_become 19 = .ok (.iconst 0, 1) := by decide +kernel
theorem dX0_become_20 : decode cX0_become 20 = .ok (.aload_n 0, 1) := by decide +kernel
theorem dX0_become_21 : decode cX0_become 21 = .ok (.getfield 15, 3) := by decide +kernel
theorem dX0_become_24 : decode cX0_become 24 = .ok (.iconst 0, 1) := by decide +kernel
theorem dX0_become_25 : decode cX0_become 25 = .ok (.bipush 12, 2) := by decide +kernel
theorem dX0_become_27 : decode cX0_become 27 = .ok (.invokestatic 56, 3) := by decide +kernel
theorem dX0_become_30 : decode cX0_become 30 = .ok (.aload_n 1, 1) := by decide +kernel
theorem dX0_become_31 : decode cX0_become 31 = .ok (.getfield 18, 3) := by decide +kernel
theorem dX0_become_34 : decode cX0_become 34 = .ok (.iconst 0, 1) := by decide +kernel
theorem dX0_become_35 : decode cX0_become 35 = .ok (.aload_n 0, 1) := by decide +kernel
theorem dX0_become_36 : decode cX0_become 36 = .ok (.getfield 18, 3) := by decide +kernel
theorem dX0_become_39 : decode cX0_become 39 = .ok (.iconst 0, 1) := by decide +kernel
theorem dX0_become_40 : decode cX0_become 40 = .ok (.bipush 12, 2) := by decide +kernel
theorem dX0_become_42 : decode cX0_become 42 = .ok (.invokestatic 56, 3) := by decide +kernel
theorem dX0_become_45 : decode cX0_become 45 = .ok (.aload_n 1, 1) := by decide +kernel
theorem dX0_become_46 : decode cX0_become 46 = .ok (.getfield 21, 3) := by decide +kernel
theorem dX0_become_49 : decode cX0_become 49 = .ok (.iconst 0, 1) := by decide +kernel
theorem dX0_become_50 : decode cX0_become 50 = .ok (.aload_n 0, 1) := by decide +kernel
theorem dX0_become_51 : decode cX0_become 51 = .ok (.getfield 21, 3) := by decide +kernel
theorem dX0_become_54 : decode cX0_become 54 = .ok (.iconst 0, 1) := by decide +kernel
theorem dX0_become_55 : decode cX0_become 55 = .ok (.bipush 12, 2) := by decide +kernel
theorem dX0_become_57 : decode cX0_become 57 = .ok (.invokestatic 56, 3) := by decide +kernel
theorem dX0_become_60 : decode cX0_become 60 = .ok (.aload_n 1, 1) := by decide +kernel
theorem dX0_become_61 : decode cX0_become 61 = .ok (.getfield 24, 3) := by decide +kernel
theorem dX0_become_64 : decode cX0_become 64 = .ok (.iconst 0, 1) := by decide +kernel
theorem dX0_become_65 : decode cX0_become 65 = .ok (.aload_n 0, 1) := by decide +kernel
theorem dX0_become_66 : decode cX0_become 66 = .ok (.getfield 24, 3) := by decide +kernel
theorem dX0_become_69 : decode cX0_become 69 = .ok (.iconst 0, 1) := by decide +kernel
theorem dX0_become_70 : decode cX0_become 70 = .ok (.bipush 12, 2) := by decide +kernel
theorem dX0_become_72 : decode cX0_become 72 = .ok (.invokestatic 56, 3) := by decide +kernel
theorem dX0_become_75 : decode cX0_become 75 = .ok (.aload_n 1, 1) := by decide +kernel
theorem dX0_become_76 : decode cX0_become 76 = .ok (.getfield 27, 3) := by decide +kernel
theorem dX0_become_79 : decode cX0_become 79 = .ok (.iconst 0, 1) := by decide +kernel
theorem dX0_become_80 : decode cX0_become 80 = .ok (.aload_n 0, 1) := by decide +kernel
theorem dX0_become_81 : decode cX0_become 81 = .ok (.getfield 27, 3) := by decide +kernel
theorem dX0_become_84 : decode cX0_become 84 = .ok (.iconst 0, 1) := by decide +kernel
theorem dX0_become_85 : decode cX0_become 85 = .ok (.bipush 12, 2) := by decide +kernel
theorem dX0_become_87 : decode cX0_become 87 = .ok (.invokestatic 56, 3) := by decide +kernel
theorem dX0_become_90 : decode cX0_become 90 = .ok (.aload_n 1, 1) := by decide +kernel
theorem dX0_become_91 : decode cX0_become 91 = .ok (.getfield 30, 3) := by decide +kernel
theorem dX0_become_94 : decode cX0_become 94 = .ok (.iconst 0, 1) := by decide +kernel
theorem dX0_become_95 : decode cX0_become 95 = .ok (.aload_n 0, 1) := by decide +kernel
theorem dX0_become_96 : decode cX0_become 96 = .ok (.getfield 30, 3) := by decide +kernel
theorem dX0_become_99 : decode cX0_become 99 = .ok (.iconst 0, 1) := by decide +kernel
theorem dX0_become_100 : decode cX0_become 100 = .ok (.bipush 12, 2) := by decide +kernel
theorem dX0_become_102 : decode cX0_become 102 = .ok (.invokestatic 56, 3) := by decide +kernel
theorem dX0_become_105 : decode cX0_become 105 = .ok (.aload_n 1, 1) := by decide +kernel
theorem dX0_become_106 : decode cX0_become 106 = .ok (.getfield 33, 3) := by decide +kernel
theorem dX0_become_109 : decode cX0_become 109 = .ok (.iconst 0, 1) := by decide +kernel
theorem dX0_become_110 : decode cX0_become 110 = .ok (.aload_n 0, 1) := by decide +kernel
theorem dX0_become_111 : decode cX0_become 111 = .ok (.getfield 33, 3) := by decide +kernel
theorem dX0_become_114 : decode cX0_become 114 = .ok (.iconst 0, 1) := by decide +kernel
theorem dX0_become_115 : decode cX0_become 115 = .ok (.bipush 12, 2) := by decide +kernel
theorem dX0_become_117 : decode cX0_become 117 = .ok (.invokestatic 56, 3) := by decide +kernel
theorem dX0_become_120 : decode cX0_become 120 = .ok (.aload_n 1, 1) := by decide +kernel
theorem dX0_become_121 : decode cX0_become 121 = .ok (.getfield 36, 3) := by decide +kernel
theorem dX0_become_124 : decode cX0_become 124 = .ok (.iconst 0, 1) := by decide +kernel
theorem dX0_become_125 : decode cX0_become 125 = .ok (.aload_n 0, 1) := by decide +kernel
theorem dX0_become_126 : decode cX0_become 126 = .ok (.getfield 36, 3) := by decide +kernel
theorem dX0_become_129 : decode cX0_become 129 = .ok (.iconst 0, 1) := by decide +kernel
theorem dX0_become_130 : decode cX0_become 130 = .ok (.iconst 5, 1) := by decide +kernel
theorem dX0_become_131 : decode cX0_become 131 = .ok (.invokestatic 56, 3) := by decide +kernel
theorem dX0_become_134 : decode cX0_become 134 = .ok (.aload_n 0, 1) := by decide +kernel
theorem dX0_become_135 : decode cX0_become 135 = .ok (.aload_n 1, 1) := by decide +kernel
theorem dX0_become_136 : decode cX0_become 136 = .ok (.getfield 42, 3) := by decide +kernel
theorem dX0_become_139 : decode cX0_become 139 = .ok (.putfield 42, 3) := by decide +kernel
theorem dX0_become_142 : decode cX0_become 142 = .ok (.aload_n 0, 1) := by decide +kernel
theorem dX0_become_143 : decode cX0_become 143 = .ok (.aload_n 1, 1) := by decide +kernel
theorem dX0_become_144 : decode cX0_become 144 = .ok (.getfield 46, 3) := by decide +kernel
theorem dX0_become_147 : decode cX0_become 147 = .ok (.putfield 46, 3) := by decide +kernel
theorem dX0_become_150 : decode cX0_become 150 = .ok (.aload_n 0, 1) := by decide +kernel
theorem dX0_become_151 : decode cX0_become 151 = .ok (.aload_n 1, 1) := by decide +kernel
theorem dX0_become_152 : decode cX0_become 152 = .ok (.getfield 49, 3) := by decide +kernel
theorem dX0_become_155 : decode cX0_become 155 = .ok (.putfield 49, 3) := by decide +kernel
theorem dX0_become_158 : decode cX0_become 158 = .ok (.aload_n 0, 1) := by decide +kernel
theorem dX0_become_159 : decode cX0_become 159 = .ok (.aload_n 1, 1) := by decide +kernel
theorem dX0_become_160 : decode cX0_become 160 = .ok (.getfield 52, 3) := by decide +kernel
theorem dX0_become_163 : decode cX0_become 163 = .ok (.putfield 52, 3) := by decide +kernel
theorem dX0_become_166 : decode cX0_become 166 = .ok (.return_, 1) := by decide +kernel
theorem dX0_has_0 : decode cX0_has 0 = .ok (.iload_n 1, 1) := by decide +kernel
theorem dX0_has_1 : decode cX0_has 1 = .ok (.ifCond .lt 23, 3) := by decide +kernel
theorem dX0_has_4 : decode cX0_has 4 = .ok (.iload_n 1, 1) := by decide +kernel
theorem dX0_has_5 : decode cX0_has 5 = .ok (.bipush 12, 2) := by decide +kernel
theorem dX0_has_7 : decode cX0_has 7 = .ok (.if_icmp .ge 17, 3) := by decide +kernel
theorem dX0_has_10 : decode cX0_has 10 = .ok (.aload_n 0, 1) := by decide +kernel
theorem dX0_has_11 : decode cX0_has 11 = .ok (.getfield 27, 3) := by decide +kernel
theorem dX0_has_14 : decode cX0_has 14 = .ok (.iload_n 1, 1) := by decide +kernel
theorem dX0_has_15 : decode cX0_has 15 = .ok (.iaload, 1) := by decide +kernel
theorem dX0_has_16 : decode cX0_has 16 = .ok (.iconst (-1), 1) := by decide +kernel
theorem dX0_has_17 : decode cX0_has 17 = .ok (.if_icmp .eq 7, 3) := by decide +kernel
theorem dX0_has_20 : decode cX0_has 20 = .ok (.iconst 1, 1) := by decide +kernel
theorem dX0_has_21 : decode cX0_has 21 = .ok (.goto 4, 3) := by decide +kernel
theorem dX0_has_24 : decode cX0_has 24 = .ok (.iconst 0, 1) := by decide +kernel
theorem dX0_has_25 : decode cX0_has 25 = .ok (.ireturn, 1) := by decide +kernel
theorem dX0_hasSlot_0 : decode cX0_hasSlot 0 = .ok (.iload_n 1, 1) := by decide +kernel
theorem dX0_hasSlot_1 : decode cX0_hasSlot 1 = .ok (.ifCond .lt 15, 3) := by decide +kernel
theorem dX0_hasSlot_4 : decode cX0_hasSlot 4 = .ok (.iload_n 1, 1) := by decide +kernel
theorem dX0_hasSlot_5 : decode cX0_hasSlot 5 = .ok (.aload_n 0, 1) := by decide +kernel
theorem dX0_hasSlot_6 : decode cX0_hasSlot 6 = .ok (.getfield 42, 3) := by decide +kernel
theorem dX0_hasSlot_9 : decode cX0_hasSlot 9 = .ok (.if_icmp .ge 7, 3) := by decide +kernel
theorem dX0_hasSlot_12 : decode cX0_hasSlot 12 = .ok (.iconst 1, 1) := by decide +kernel
theorem dX0_hasSlot_13 : decode cX0_hasSlot 13 = .ok (.goto 4, 3) := by decide +kernel
theorem dX0_hasSlot_16 : decode cX0_hasSlot 16 = .ok (.iconst 0, 1) := by decide +kernel
theorem dX0_hasSlot_17 : decode cX0_hasSlot 17 = .ok (.ireturn, 1) := by decide +kernel
theorem dX0_isIn_0 : decode cX0_isIn 0 = .ok (.aload_n 0, 1) := by decide +kernel
theorem dX0_isIn_1 : decode cX0_isIn 1 = .ok (.getfield 27, 3) := by decide +kernel
theorem dX0_isIn_4 : decode cX0_isIn 4 = .ok (.iload_n 1, 1) := by decide +kernel
theorem dX0_isIn_5 : decode cX0_isIn 5 = .ok (.iaload, 1) := by decide +kernel
theorem dX0_isIn_6 : decode cX0_isIn 6 = .ok (.iload_n 2, 1) := by decide +kernel
theorem dX0_isIn_7 : decode cX0_isIn 7 = .ok (.if_icmp .ne 7, 3) := by decide +kernel
theorem dX0_isIn_10 : decode cX0_isIn 10 = .ok (.iconst 1, 1) := by decide +kernel
theorem dX0_isIn_11 : decode cX0_isIn 11 = .ok (.goto 4, 3) := by decide +kernel
theorem dX0_isIn_14 : decode cX0_isIn 14 = .ok (.iconst 0, 1) := by decide +kernel
theorem dX0_isIn_15 : decode cX0_isIn 15 = .ok (.ireturn, 1) := by decide +kernel
theorem dX0_count_0 : decode cX0_count 0 = .ok (.iconst 0, 1) := by decide +kernel
theorem dX0_count_1 : decode cX0_count 1 = .ok (.istore_n 2, 1) := by decide +kernel
theorem dX0_count_2 : decode cX0_count 2 = .ok (.iconst 0, 1) := by decide +kernel
theorem dX0_count_3 : decode cX0_count 3 = .ok (.istore_n 3, 1) := by decide +kernel
theorem dX0_count_4 : decode cX0_count 4 = .ok (.iload_n 3, 1) := by decide +kernel
theorem dX0_count_5 : decode cX0_count 5 = .ok (.bipush 12, 2) := by decide +kernel
theorem dX0_count_7 : decode cX0_count 7 = .ok (.if_icmp .ge 22, 3) := by decide +kernel
theorem dX0_count_10 : decode cX0_count 10 = .ok (.aload_n 0, 1) := by decide +kernel
theorem dX0_count_11 : decode cX0_count 11 = .ok (.getfield 27, 3) := by decide +kernel
theorem dX0_count_14 : decode cX0_count 14 = .ok (.iload_n 3, 1) := by decide +kernel
theorem dX0_count_15 : decode cX0_count 15 = .ok (.iaload, 1) := by decide +kernel
theorem dX0_count_16 : decode cX0_count 16 = .ok (.iload_n 1, 1) := by decide +kernel
theorem dX0_count_17 : decode cX0_count 17 = .ok (.if_icmp .ne 6, 3) := by decide +kernel
theorem dX0_count_20 : decode cX0_count 20 = .ok (.iinc 2 1, 3) := by decide +kernel
theorem dX0_count_23 : decode cX0_count 23 = .ok (.iinc 3 1, 3) := by decide +kernel
theorem dX0_count_26 : decode cX0_count 26 = .ok (.goto (-22), 3) := by decide +kernel
theorem dX0_count_29 : decode cX0_count 29 = .ok (.iload_n 2, 1) := by decide +kernel
theorem dX0_count_30 : decode cX0_count 30 = .ok (.ireturn, 1) := by decide +kernel
set_option maxRecDepth 20000 in
theorem ggX0_grips_X0_count : GoodIn wsX0_grips wsX0_count := goodIn_r _ [5, 6, 7, 8, 9, 10, 11, 12, 13, 14, 15, 16, 17, 18, 19] (by decide +kernel) (by decide +kernel)
set_option maxRecDepth 20000 in
theorem gX0_grips_X0_count : GoodIn wsX0_grips (wsV RX0 62 RX0 yX0_count wsX0_count) := goodIn_app (goodIn_of _ (by decide +kernel)) ggX0_grips_X0_count
theorem dX0_grips_0 : decode cX0_grips 0 = .ok (.bipush 12, 2) := by decide +kernel
theorem dX0_grips_2 : decode cX0_grips 2 = .ok (.aload_n 0, 1) := by decide +kernel
theorem dX0_grips_3 : decode cX0_grips 3 = .ok (.iconst (-1), 1) := by decide +kernel
theorem dX0_grips_4 : decode cX0_grips 4 = .ok (.invokevirtual 62, 3) := by decide +kernel
theorem dX0_grips_7 : decode cX0_grips 7 = .ok (.isub, 1) := by decide +kernel
theorem dX0_grips_8 : decode cX0_grips 8 = .ok (.ireturn, 1) := by decide +kernel
set_option maxRecDepth 20000 in
theorem ggX0_isFull_X0_count : GoodIn wsX0_isFull wsX0_count := goodIn_r _ [5, 6, 7, 8, 9, 10, 11, 12, 13, 14, 15, 16, 17, 18, 19] (by decide +kernel) (by decide +kernel)
set_option maxRecDepth 20000 in
theorem gX0_isFull_X0_count : GoodIn wsX0_isFull (wsV RX0 62 RX0 yX0_count wsX0_count) := goodIn_app (goodIn_of _ (by decide +kernel)) ggX0_isFull_X0_count
theorem dX0_isFull_0 : decode cX0_isFull 0 = .ok (.aload_n 0, 1) := by decide +kernel
theorem dX0_isFull_1 : decode cX0_isFull 1 = .ok (.iconst (-1), 1) := by decide +kernel
theorem dX0_isFull_2 : decode cX0_isFull 2 = .ok (.invokevirtual 62, 3) := by decide +kernel
theorem dX0_isFull_5 : decode cX0_isFull 5 = .ok (.ifCond .ne 7, 3) := by decide +kernel
theorem dX0_isFull_8 : decode cX0_isFull 8 = .ok (.iconst 1, 1) := by decide +kernel
theorem dX0_isFull_9 : decode cX0_isFull 9 = .ok (.goto 4, 3) := by decide +kernel
theorem dX0_isFull_12 : decode cX0_isFull 12 = .ok (.iconst 0, 1) := by decide +kernel
theorem dX0_isFull_13 : decode cX0_isFull 13 = .ok (.ireturn, 1) := by decide +kernel
theorem dX0_gripAt_0 : decode cX0_gripAt 0 = .ok (.iconst 0, 1) := by decide +kernel
theorem dX0_gripAt_1 : decode cX0_gripAt 1 = .ok (.istore_n 2, 1) := by decide +kernel
theorem dX0_gripAt_2 : decode cX0_gripAt 2 = .ok (.iload_n 2, 1) := by decide +kernel
theorem dX0_gripAt_3 : decode cX0_gripAt 3 = .ok (.bipush 12, 2) := by decide +kernel
theorem dX0_gripAt_5 : decode cX0_gripAt 5 = .ok (.if_icmp .ge 30, 3) := by decide +kernel
theorem dX0_gripAt_8 : decode cX0_gripAt 8 = .ok (.aload_n 0, 1) := by decide +kernel
theorem dX0_gripAt_9 : decode cX0_gripAt 9 = .ok (.getfield 27, 3) := by decide +kernel
theorem dX0_gripAt_12 : decode cX0_gripAt 12 = .ok (.iload_n 2, 1) := by decide +kernel
theorem dX0_gripAt_13 : decode cX0_gripAt 13 = .ok (.iaload, 1) := by decide +kernel
theorem dX0_gripAt_14 : decode cX0_gripAt 14 = .ok (.ifCond .ne 15, 3) := by decide +kernel
theorem dX0_gripAt_17 : decode cX0_gripAt 17 = .ok (.aload_n 0, 1) := by decide +kernel
theorem dX0_gripAt_18 : decode cX0_gripAt 18 = .ok (.getfield 30, 3) := by decide +kernel
theorem dX0_gripAt_21 : decode cX0_gripAt 21 = .ok (.iload_n 2, 1) := by decide +kernel
theorem dX0_gripAt_22 : decode cX0_gripAt 22 = .ok (.iaload, 1) := by decide +kernel
theorem dX0_gripAt_23 : decode cX0_gripAt 23 = .ok (.iload_n 1, 1) := by decide +kernel
theorem dX0_gripAt_24 : decode cX0_gripAt 24 = .ok (.if_icmp .ne 5, 3) := by decide +kernel
theorem dX0_gripAt_27 : decode cX0_gripAt 27 = .ok (.iload_n 2, 1) := by decide +kernel
theorem dX0_gripAt_28 : decode cX0_gripAt 28 = .ok (.ireturn, 1) := by decide +kernel
theorem dX0_gripAt_29 : decode cX0_gripAt 29 = .ok (.iinc 2 1, 3) := by decide +kernel
theorem dX0_gripAt_32 : decode cX0_gripAt 32 = .ok (.goto (-30), 3) := by decide +kernel
theorem dX0_gripAt_35 : decode cX0_gripAt 35 = .ok (.bipush (-9), 2) := by decide +kernel
theorem dX0_gripAt_37 : decode cX0_gripAt 37 = .ok (.ireturn, 1) := by decide +kernel
theorem dX0_number_0 : decode cX0_number 0 = .ok (.iload_n 2, 1) := by decide +kernel
theorem dX0_number_1 : decode cX0_number 1 = .ok (.tableswitch 106 0 6 #[43, 50, 57, 64, 71, 78, 85], 43) := by decide +kernel
theorem dX0_number_44 : decode cX0_number 44 = .ok (.aload_n 0, 1) := by decide +kernel
theorem dX0_number_45 : decode cX0_number 45 = .ok (.getfield 9, 3) := by decide +kernel
theorem dX0_number_48 : decode cX0_number 48 = .ok (.iload_n 1, 1) := by decide +kernel
theorem dX0_number_49 : decode cX0_number 49 = .ok (.iaload, 1) := by decide +kernel
theorem dX0_number_50 : decode cX0_number 50 = .ok (.ireturn, 1) := by decide +kernel
theorem dX0_number_51 : decode cX0_number 51 = .ok (.aload_n 0, 1) := by decide +kernel
theorem dX0_number_52 : decode cX0_number 52 = .ok (.getfield 15, 3) := by decide +kernel
theorem dX0_number_55 : decode cX0_number 55 = .ok (.iload_n 1, 1) := by decide +kernel
theorem dX0_number_56 : decode cX0_number 56 = .ok (.iaload, 1) := by decide +kernel
theorem dX0_number_57 : decode cX0_number 57 = .ok (.ireturn, 1) := by decide +kernel
theorem dX0_number_58 : decode cX0_number 58 = .ok (.aload_n 0, 1) := by decide +kernel
theorem dX0_number_59 : decode cX0_number 59 = .ok (.getfield 18, 3) := by decide +kernel
theorem dX0_number_62 : decode cX0_number 62 = .ok (.iload_n 1, 1) := by decide +kernel
theorem dX0_number_63 : decode cX0_number 63 = .ok (.iaload, 1) := by decide +kernel
theorem dX0_number_64 : decode cX0_number 64 = .ok (.ireturn, 1) := by decide +kernel
theorem dX0_number_65 : decode cX0_number 65 = .ok (.aload_n 0, 1) := by decide +kernel
theorem dX0_number_66 : decode cX0_number 66 = .ok (.getfield 21, 3) := by decide +kernel
theorem dX0_number_69 : decode cX0_number 69 = .ok (.iload_n 1, 1) := by decide +kernel
theorem dX0_number_70 : decode cX0_number 70 = .ok (.iaload, 1) := by decide +kernel
theorem dX0_number_71 : decode cX0_number 71 = .ok (.ireturn, 1) := by decide +kernel
theorem dX0_number_72 : decode cX0_number 72 = .ok (.aload_n 0, 1) := by decide +kernel
theorem dX0_number_73 : decode cX0_number 73 = .ok (.getfield 24, 3) := by decide +kernel
theorem dX0_number_76 : decode cX0_number 76 = .ok (.iload_n 1, 1) := by decide +kernel
theorem dX0_number_77 : decode cX0_number 77 = .ok (.iaload, 1) := by decide +kernel
theorem dX0_number_78 : decode cX0_number 78 = .ok (.ireturn, 1) := by decide +kernel
theorem dX0_number_79 : decode cX0_number 79 = .ok (.aload_n 0, 1) := by decide +kernel
theorem dX0_number_80 : decode cX0_number 80 = .ok (.getfield 27, 3) := by decide +kernel
theorem dX0_number_83 : decode cX0_number 83 = .ok (.iload_n 1, 1) := by decide +kernel
theorem dX0_number_84 : decode cX0_number 84 = .ok (.iaload, 1) := by decide +kernel
theorem dX0_number_85 : decode cX0_number 85 = .ok (.ireturn, 1) := by decide +kernel
theorem dX0_number_86 : decode cX0_number 86 = .ok (.aload_n 0, 1) := by decide +kernel
theorem dX0_number_87 : decode cX0_number 87 = .ok (.getfield 27, 3) := by decide +kernel
theorem dX0_number_90 : decode cX0_number 90 = .ok (.iload_n 1, 1) := by decide +kernel
theorem dX0_number_91 : decode cX0_number 91 = .ok (.iaload, 1) := by decide +kernel
theorem dX0_number_92 : decode cX0_number 92 = .ok (.ifCond .ne 12, 3) := by decide +kernel
theorem dX0_number_95 : decode cX0_number 95 = .ok (.aload_n 0, 1) := by decide +kernel
theorem dX0_number_96 : decode cX0_number 96 = .ok (.getfield 30, 3) := by decide +kernel
theorem dX0_number_99 : decode cX0_number 99 = .ok (.iload_n 1, 1) := by decide +kernel
theorem dX0_number_100 : decode cX0_number 100 = .ok (.iaload, 1) := by decide +kernel
theorem dX0_number_101 : decode cX0_number 101 = .ok (.goto 5, 3) := by decide +kernel
theorem dX0_number_104 : decode cX0_number 104 = .ok (.bipush (-9), 2) := by decide +kernel
theorem dX0_number_106 : decode cX0_number 106 = .ok (.ireturn, 1) := by decide +kernel
theorem dX0_number_107 : decode cX0_number 107 = .ok (.aload_n 0, 1) := by decide +kernel
theorem dX0_number_108 : decode cX0_number 108 = .ok (.getfield 27, 3) := by decide +kernel
theorem dX0_number_111 : decode cX0_number 111 = .ok (.iload_n 1, 1) := by decide +kernel
theorem dX0_number_112 : decode cX0_number 112 = .ok (.iaload, 1) := by decide +kernel
theorem dX0_number_113 : decode cX0_number 113 = .ok (.iconst 2, 1) := by decide +kernel
theorem dX0_number_114 : decode cX0_number 114 = .ok (.if_icmp .ne 12, 3) := by decide +kernel
theorem dX0_number_117 : decode cX0_number 117 = .ok (.aload_n 0, 1) := by decide +kernel
theorem dX0_number_118 : decode cX0_number 118 = .ok (.getfield 33, 3) := by decide +kernel
theorem dX0_number_121 : decode cX0_number 121 = .ok (.iload_n 1, 1) := by decide +kernel
theorem dX0_number_122 : decode cX0_number 122 = .ok (.iaload, 1) := by decide +kernel
theorem dX0_number_123 : decode cX0_number 123 = .ok (.goto 5, 3) := by decide +kernel
theorem dX0_number_126 : decode cX0_number 126 = .ok (.bipush (-9), 2) := by decide +kernel
theorem dX0_number_128 : decode cX0_number 128 = .ok (.ireturn, 1) := by decide +kernel
theorem dX0_allPulls_0 : decode cX0_allPulls 0 = .ok (.iconst 0, 1) := by decide +kernel
theorem dX0_allPulls_1 : decode cX0_allPulls 1 = .ok (.istore_n 1, 1) := by decide +kernel
theorem dX0_allPulls_2 : decode cX0_allPulls 2 = .ok (.iconst 0, 1) := by decide +kernel
theorem dX0_allPulls_3 : decode cX0_allPulls 3 = .ok (.istore_n 2, 1) := by decide +kernel
theorem dX0_allPulls_4 : decode cX0_allPulls 4 = .ok (.iload_n 2, 1) := by decide +kernel
theorem dX0_allPulls_5 : decode cX0_allPulls 5 = .ok (.bipush 12, 2) := by decide +kernel
theorem dX0_allPulls_7 : decode cX0_allPulls 7 = .ok (.if_icmp .ge 28, 3) := by decide +kernel
theorem dX0_allPulls_10 : decode cX0_allPulls 10 = .ok (.aload_n 0, 1) := by decide +kernel
theorem dX0_allPulls_11 : decode cX0_allPulls 11 = .ok (.getfield 27, 3) := by decide +kernel
theorem dX0_allPulls_14 : decode cX0_allPulls 14 = .ok (.iload_n 2, 1) := by decide +kernel
theorem dX0_allPulls_15 : decode cX0_allPulls 15 = .ok (.iaload, 1) := by decide +kernel
theorem dX0_allPulls_16 : decode cX0_allPulls 16 = .ok (.iconst (-1), 1) := by decide +kernel
theorem dX0_allPulls_17 : decode cX0_allPulls 17 = .ok (.if_icmp .eq 12, 3) := by decide +kernel
theorem dX0_allPulls_20 : decode cX0_allPulls 20 = .ok (.iload_n 1, 1) := by decide +kernel
theorem dX0_allPulls_21 : decode cX0_allPulls 21 = .ok (.aload_n 0, 1) := by decide +kernel
theorem dX0_allPulls_22 : decode cX0_allPulls 22 = .ok (.getfield 21, 3) := by decide +kernel
theorem dX0_allPulls_25 : decode cX0_allPulls 25 = .ok (.iload_n 2, 1) := by decide +kernel
theorem dX0_allPulls_26 : decode cX0_allPulls 26 = .ok (.iaload, 1) := by decide +kernel
theorem dX0_allPulls_27 : decode cX0_allPulls 27 = .ok (.iadd, 1) := by decide +kernel
theorem dX0_allPulls_28 : decode cX0_allPulls 28 = .ok (.istore_n 1, 1) := by decide +kernel
theorem dX0_allPulls_29 : decode cX0_allPulls 29 = .ok (.iinc 2 1, 3) := by decide +kernel
theorem dX0_allPulls_32 : decode cX0_allPulls 32 = .ok (.goto (-28), 3) := by decide +kernel
theorem dX0_allPulls_35 : decode cX0_allPulls 35 = .ok (.iload_n 1, 1) := by decide +kernel
theorem dX0_allPulls_36 : decode cX0_allPulls 36 = .ok (.ireturn, 1) := by decide +kernel
set_option maxRecDepth 20000 in
theorem ggX0_add_X0_grips : GoodIn wsX0_add wsX0_grips := goodIn_r _ [11, 12, 13, 14, 10, 15, 6, 16, 17, 18, 19, 20, 21, 22, 23, 24, 25, 26, 27, 28] (by decide +kernel) (by decide +kernel)
set_option maxRecDepth 20000 in
theorem gX0_add_X0_grips : GoodIn wsX0_add (wsV RX0 66 RX0 yX0_grips wsX0_grips) := goodIn_app (goodIn_of _ (by decide +kernel)) ggX0_add_X0_grips
theorem dX0_add_0 : decode cX0_add 0 = .ok (.aload_n 0, 1) := by decide +kernel
theorem dX0_add_1 : decode cX0_add 1 = .ok (.invokevirtual 66, 3) := by decide +kernel
theorem dX0_add_4 : decode cX0_add 4 = .ok (.istore_n 2, 1) := by decide +kernel
theorem dX0_add_5 : decode cX0_add 5 = .ok (.iload_n 2, 1) := by decide +kernel
theorem dX0_add_6 : decode cX0_add 6 = .ok (.bipush 12, 2) := by decide +kernel
theorem dX0_add_8 : decode cX0_add 8 = .ok (.if_icmp .lt 4, 3) := by decide +kernel
theorem dX0_add_11 : decode cX0_add 11 = .ok (.return_, 1) := by decide +kernel
theorem dX0_add_12 : decode cX0_add 12 = .ok (.aload_n 0, 1) := by decide +kernel
theorem dX0_add_13 : decode cX0_add 13 = .ok (.getfield 9, 3) := by decide +kernel
theorem dX0_add_16 : decode cX0_add 16 = .ok (.iload_n 2, 1) := by decide +kernel
theorem dX0_add_17 : decode cX0_add 17 = .ok (.iload_n 1, 1) := by decide +kernel
theorem dX0_add_18 : decode cX0_add 18 = .ok (.iastore, 1) := by decide +kernel
theorem dX0_add_19 : decode cX0_add 19 = .ok (.aload_n 0, 1) := by decide +kernel
theorem dX0_add_20 : decode cX0_add 20 = .ok (.getfield 15, 3) := by decide +kernel
theorem dX0_add_23 : decode cX0_add 23 = .ok (.iload_n 2, 1) := by decide +kernel
theorem dX0_add_24 : decode cX0_add 24 = .ok (.iconst 0, 1) := by decide +kernel
theorem dX0_add_25 : decode cX0_add 25 = .ok (.iastore, 1) := by decide +kernel
theorem dX0_add_26 : decode cX0_add 26 = .ok (.aload_n 0, 1) := by decide +kernel
theorem dX0_add_27 : decode cX0_add 27 = .ok (.getfield 18, 3) := by decide +kernel
theorem dX0_add_30 : decode cX0_add 30 = .ok (.iload_n 2, 1) := by decide +kernel
theorem dX0_add_31 : decode cX0_add 31 = .ok (.iconst 0, 1) := by decide +kernel
theorem dX0_add_32 : decode cX0_add 32 = .ok (.iastore, 1) := by decide +kernel
theorem dX0_add_33 : decode cX0_add 33 = .ok (.aload_n 0, 1) := by decide +kernel
theorem dX0_add_34 : decode cX0_add 34 = .ok (.getfield 21, 3) := by decide +kernel
theorem dX0_add_37 : decode cX0_add 37 = .ok (.iload_n 2, 1) := by decide +kernel
theorem dX0_add_38 : decode cX0_add 38 = .ok (.iconst 0, 1) := by decide +kernel
theorem dX0_add_39 : decode cX0_add 39 = .ok (.iastore, 1) := by decide +kernel
theorem dX0_add_40 : decode cX0_add 40 = .ok (.aload_n 0, 1) := by decide +kernel
theorem dX0_add_41 : decode cX0_add 41 = .ok (.getfield 24, 3) := by decide +kernel
theorem dX0_add_44 : decode cX0_add 44 = .ok (.iload_n 2, 1) := by decide +kernel
theorem dX0_add_45 : decode cX0_add 45 = .ok (.bipush (-9), 2) := by decide +kernel
theorem dX0_add_47 : decode cX0_add 47 = .ok (.iastore, 1) := by decide +kernel
theorem dX0_add_48 : decode cX0_add 48 = .ok (.aload_n 0, 1) := by decide +kernel
theorem dX0_add_49 : decode cX0_add 49 = .ok (.getfield 27, 3) := by decide +kernel
theorem dX0_add_52 : decode cX0_add 52 = .ok (.iload_n 2, 1) := by decide +kernel
theorem dX0_add_53 : decode cX0_add 53 = .ok (.iconst 1, 1) := by decide +kernel
theorem dX0_add_54 : decode cX0_add 54 = .ok (.iastore, 1) := by decide +kernel
theorem dX0_add_55 : decode cX0_add 55 = .ok (.return_, 1) := by decide +kernel
theorem dX0_hang_0 : decode cX0_hang 0 = .ok (.aload_n 0, 1) := by decide +kernel
theorem dX0_hang_1 : decode cX0_hang 1 = .ok (.getfield 27, 3) := by decide +kernel
theorem dX0_hang_4 : decode cX0_hang 4 = .ok (.iload_n 1, 1) := by decide +kernel
theorem dX0_hang_5 : decode cX0_hang 5 = .ok (.iconst 0, 1) := by decide +kernel
theorem dX0_hang_6 : decode cX0_hang 6 = .ok (.iastore, 1) := by decide +kernel
theorem dX0_hang_7 : decode cX0_hang 7 = .ok (.aload_n 0, 1) := by decide +kernel
theorem dX0_hang_8 : decode cX0_hang 8 = .ok (.getfield 30, 3) := by decide +kernel
theorem dX0_hang_11 : decode cX0_hang 11 = .ok (.iload_n 1, 1) := by decide +kernel
theorem dX0_hang_12 : decode cX0_hang 12 = .ok (.iload_n 2, 1) := by decide +kernel
theorem dX0_hang_13 : decode cX0_hang 13 = .ok (.iastore, 1) := by decide +kernel
theorem dX0_hang_14 : decode cX0_hang 14 = .ok (.return_, 1) := by decide +kernel
theorem dX0_move_0 : decode cX0_move 0 = .ok (.aload_n 0, 1) := by decide +kernel
theorem dX0_move_1 : decode cX0_move 1 = .ok (.getfield 27, 3) := by decide +kernel
theorem dX0_move_4 : decode cX0_move 4 = .ok (.iload_n 1, 1) := by decide +kernel
theorem dX0_move_5 : decode cX0_move 5 = .ok (.iload_n 2, 1) := by decide +kernel
theorem dX0_move_6 : decode cX0_move 6 = .ok (.iastore, 1) := by decide +kernel
theorem dX0_move_7 : decode cX0_move 7 = .ok (.return_, 1) := by decide +kernel
set_option maxRecDepth 20000 in
theorem ggX0_advanceBy_X0_advance : GoodIn wsX0_advanceBy wsX0_advance := goodIn_r _ [5, 6, 7, 8, 9, 10, 11, 12, 13, 14, 4, 15, 16, 17, 18, 19, 20, 21, 22, 23, 24, 25, 26, 27, 28, 29, 30, 31, 32, 33, 34, 35, 36, 37, 38, 39, 40, 41, 42, 43, 44, 45, 46, 47, 48, 49, 50, 51, 52, 53, 54, 55, 56, 57, 58, 59, 60, 61] (by decide +kernel) (by decide +kernel)
set_option maxRecDepth 20000 in
theorem gX0_advanceBy_X0_advance : GoodIn wsX0_advanceBy (wsV RX0 70 RX0 yX0_advance wsX0_advance) := goodIn_app (goodIn_of _ (by decide +kernel)) ggX0_advanceBy_X0_advance
theorem dX0_advanceBy_0 : decode cX0_advanceBy 0 = .ok (.iconst 0, 1) := by decide +kernel
theorem dX0_advanceBy_1 : decode cX0_advanceBy 1 = .ok (.istore_n 2, 1) := by decide +kernel
theorem dX0_advanceBy_2 : decode cX0_advanceBy 2 = .ok (.iload_n 2, 1) := by decide +kernel
theorem dX0_advanceBy_3 : decode cX0_advanceBy 3 = .ok (.iload_n 1, 1) := by decide +kernel
theorem dX0_advanceBy_4 : decode cX0_advanceBy 4 = .ok (.if_icmp .ge 14, 3) := by decide +kernel
theorem dX0_advanceBy_7 : decode cX0_advanceBy 7 = .ok (.aload_n 0, 1) := by decide +kernel
theorem dX0_advanceBy_8 : decode cX0_advanceBy 8 = .ok (.invokevirtual 70, 3) := by decide +kernel
theorem dX0_advanceBy_11 : decode cX0_advanceBy 11 = .ok (.pop, 1) := by decide +kernel
theorem dX0_advanceBy_12 : decode cX0_advanceBy 12 = .ok (.iinc 2 1, 3) := by decide +kernel
theorem dX0_advanceBy_15 : decode cX0_advanceBy 15 = .ok (.goto (-13), 3) := by decide +kernel
theorem dX0_advanceBy_18 : decode cX0_advanceBy 18 = .ok (.return_, 1) := by decide +kernel
set_option maxRecDepth 20000 in
theorem ggX0_advance_X0_gripAt : GoodIn wsX0_advance wsX0_gripAt := goodIn_r _ [11, 12, 13, 45, 46, 47, 48, 49, 50, 51, 52, 53, 54, 55, 56, 57] (by decide +kernel) (by decide +kernel)
set_option maxRecDepth 20000 in
theorem gX0_advance_X0_gripAt : GoodIn wsX0_advance (wsV RX0 77 RX0 yX0_gripAt wsX0_gripAt) := goodIn_app (goodIn_of _ (by decide +kernel)) ggX0_advance_X0_gripAt
set_option maxRecDepth 20000 in
theorem ggX0_advance_X0_pass : GoodIn wsX0_advance wsX0_pass := goodIn_r _ [17, 18, 19, 20, 21, 22, 23, 12, 24, 45, 46, 47, 48, 49, 50, 51, 52, 53, 54, 55, 56, 57] (by decide +kernel) (by decide +kernel)
set_option maxRecDepth 20000 in
theorem gX0_advance_X0_pass : GoodIn wsX0_advance (wsV RX0 80 RX0 yX0_pass wsX0_pass) := goodIn_app (goodIn_of _ (by decide +kernel)) ggX0_advance_X0_pass
set_option maxRecDepth 20000 in
theorem ggX0_advance_X0_repairAllBut : GoodIn wsX0_advance wsX0_repairAllBut := goodIn_r _ [28, 12, 24, 18, 19, 45, 46, 47, 48, 49, 50, 51, 52, 53, 54, 55, 56, 57] (by decide +kernel) (by decide +kernel)
set_option maxRecDepth 20000 in
theorem gX0_advance_X0_repairAllBut : GoodIn wsX0_advance (wsV RX0 84 RX0 yX0_repairAllBut wsX0_repairAllBut) := goodIn_app (goodIn_of _ (by decide +kernel)) ggX0_advance_X0_repairAllBut
set_option maxRecDepth 20000 in
theorem ggX0_advance_X0_fillStation : GoodIn wsX0_advance wsX0_fillStation := goodIn_r _ [32, 12, 18, 1, 33, 34, 35, 10, 36, 13, 21, 37, 38, 39, 40, 2, 41, 42, 43, 44, 45, 46, 47, 48, 49, 50, 51, 52, 53, 54, 55, 56, 57] (by decide +kernel) (by decide +kernel)
set_option maxRecDepth 20000 in
theorem gX0_advance_X0_fillStation : GoodIn wsX0_advance (wsV RX0 88 RX0 yX0_fillStation wsX0_fillStation) := goodIn_app (goodIn_of _ (by decide +kernel)) ggX0_advance_X0_fillStation
theorem dX0_advance_0 : decode cX0_advance 0 = .ok (.aload_n 0, 1) := by decide +kernel
theorem dX0_advance_1 : decode cX0_advance 1 = .ok (.aload_n 0, 1) := by decide +kernel
theorem dX0_advance_2 : decode cX0_advance 2 = .ok (.getfield 46, 3) := by decide +kernel
theorem dX0_advance_5 : decode cX0_advance 5 = .ok (.iconst 1, 1) := by decide +kernel
theorem dX0_advance_6 : decode cX0_advance 6 = .ok (.iadd, 1) := by decide +kernel
theorem dX0_advance_7 : decode cX0_advance 7 = .ok (.aload_n 0, 1) := by decide +kernel
theorem dX0_advance_8 : decode cX0_advance 8 = .ok (.getfield 42, 3) := by decide +kernel
theorem dX0_advance_11 : decode cX0_advance 11 = .ok (.if_icmp .ge 12, 3) := by decide +kernel
theorem dX0_advance_14 : decode cX0_advance 14 = .ok (.aload_n 0, 1) := by decide +kernel
theorem dX0_advance_15 : decode cX0_advance 15 = .ok (.getfield 46, 3) := by decide +kernel
theorem dX0_advance_18 : decode cX0_advance 18 = .ok (.iconst 1, 1) := by decide +kernel
theorem dX0_advance_19 : decode cX0_advance 19 = .ok (.iadd, 1) := by decide +kernel
theorem dX0_advance_20 : decode cX0_advance 20 = .ok (.goto 4, 3) := by decide +kernel
theorem dX0_advance_23 : decode cX0_advance 23 = .ok (.iconst 0, 1) := by decide +kernel
theorem dX0_advance_24 : decode cX0_advance 24 = .ok (.putfield 46, 3) := by decide +kernel
theorem dX0_advance_27 : decode cX0_advance 27 = .ok (.aload_n 0, 1) := by decide +kernel
theorem dX0_advance_28 : decode cX0_advance 28 = .ok (.aload_n 0, 1) := by decide +kernel
theorem dX0_advance_29 : decode cX0_advance 29 = .ok (.getfield 52, 3) := by decide +kernel
theorem dX0_advance_32 : decode cX0_advance 32 = .ok (.ldc2_w 73, 3) := by decide +kernel
theorem dX0_advance_35 : decode cX0_advance 35 = .ok (.lmul, 1) := by decide +kernel
theorem dX0_advance_36 : decode cX0_advance 36 = .ok (.ldc2_w 75, 3) := by decide +kernel
theorem dX0_advance_39 : decode cX0_advance 39 = .ok (.ladd, 1) := by decide +kernel
theorem dX0_advance_40 : decode cX0_advance 40 = .ok (.putfield 52, 3) := by decide +kernel
theorem dX0_advance_43 : decode cX0_advance 43 = .ok (.aload_n 0, 1) := by decide +kernel
theorem dX0_advance_44 : decode cX0_advance 44 = .ok (.aload_n 0, 1) := by decide +kernel
theorem dX0_advance_45 : decode cX0_advance 45 = .ok (.getfield 46, 3) := by decide +kernel
theorem dX0_advance_48 : decode cX0_advance 48 = .ok (.invokevirtual 77, 3) := by decide +kernel
theorem dX0_advance_51 : decode cX0_advance 51 = .ok (.istore_n 1, 1) := by decide +kernel
theorem dX0_advance_52 : decode cX0_advance 52 = .ok (.iload_n 1, 1) := by decide +kernel
theorem dX0_advance_53 : decode cX0_advance 53 = .ok (.ifCond .ge 7, 3) := by decide +kernel
theorem dX0_advance_56 : decode cX0_advance 56 = .ok (.iconst 0, 1) := by decide +kernel
theorem dX0_advance_57 : decode cX0_advance 57 = .ok (.goto 16, 3) := by decide +kernel
theorem dX0_advance_60 : decode cX0_advance 60 = .ok (.aload_n 0, 1) := by decide +kernel
theorem dX0_advance_61 : decode cX0_advance 61 = .ok (.iload_n 1, 1) := by decide +kernel
theorem dX0_advance_62 : decode cX0_advance 62 = .ok (.aload_n 0, 1) := by decide +kernel
theorem dX0_advance_63 : decode cX0_advance 63 = .ok (.getfield 52, 3) := by decide +kernel
theorem dX0_advance_66 : decode cX0_advance 66 = .ok (.bipush 33, 2) := by decide +kernel
theorem dX0_advance_68 : decode cX0_advance 68 = .ok (.lushr, 1) := by decide +kernel
theorem dX0_advance_69 : decode cX0_advance 69 = .ok (.l2i, 1) := by decide +kernel
theorem dX0_advance_70 : decode cX0_advance 70 = .ok (.invokevirtual 80, 3) := by decide +kernel
theorem dX0_advance_73 : decode cX0_advance 73 = .ok (.istore_n 2, 1) := by decide +kernel
theorem dX0_advance_74 : decode cX0_advance 74 = .ok (.aload_n 0, 1) := by decide +kernel
theorem dX0_advance_75 : decode cX0_advance 75 = .ok (.iload_n 1, 1) := by decide +kernel
theorem dX0_advance_76 : decode cX0_advance 76 = .ok (.invokevirtual 84, 3) := by decide +kernel
theorem dX0_advance_79 : decode cX0_advance 79 = .ok (.iload_n 2, 1) := by decide +kernel
theorem dX0_advance_80 : decode cX0_advance 80 = .ok (.aload_n 0, 1) := by decide +kernel
theorem dX0_advance_81 : decode cX0_advance 81 = .ok (.invokevirtual 88, 3) := by decide +kernel
theorem dX0_advance_84 : decode cX0_advance 84 = .ok (.ior, 1) := by decide +kernel
theorem dX0_advance_85 : decode cX0_advance 85 = .ok (.istore_n 2, 1) := by decide +kernel
theorem dX0_advance_86 : decode cX0_advance 86 = .ok (.aload_n 0, 1) := by decide +kernel
theorem dX0_advance_87 : decode cX0_advance 87 = .ok (.dup, 1) := by decide +kernel
theorem dX0_advance_88 : decode cX0_advance 88 = .ok (.getfield 49, 3) := by decide +kernel
theorem dX0_advance_91 : decode cX0_advance 91 = .ok (.iconst 1, 1) := by decide +kernel
theorem dX0_advance_92 : decode cX0_advance 92 = .ok (.iadd, 1) := by decide +kernel
theorem dX0_advance_93 : decode cX0_advance 93 = .ok (.putfield 49, 3) := by decide +kernel
theorem dX0_advance_96 : decode cX0_advance 96 = .ok (.iload_n 2, 1) := by decide +kernel
theorem dX0_advance_97 : decode cX0_advance 97 = .ok (.ireturn, 1) := by decide +kernel
theorem dX0_pass_0 : decode cX0_pass 0 = .ok (.aload_n 0, 1) := by decide +kernel
theorem dX0_pass_1 : decode cX0_pass 1 = .ok (.getfield 15, 3) := by decide +kernel
theorem dX0_pass_4 : decode cX0_pass 4 = .ok (.iload_n 1, 1) := by decide +kernel
theorem dX0_pass_5 : decode cX0_pass 5 = .ok (.dup2, 1) := by decide +kernel
theorem dX0_pass_6 : decode cX0_pass 6 = .ok (.iaload, 1) := by decide +kernel
theorem dX0_pass_7 : decode cX0_pass 7 = .ok (.iconst 1, 1) := by decide +kernel
theorem dX0_pass_8 : decode cX0_pass 8 = .ok (.iadd, 1) := by decide +kernel
theorem dX0_pass_9 : decode cX0_pass 9 = .ok (.iastore, 1) := by decide +kernel
theorem dX0_pass_10 : decode cX0_pass 10 = .ok (.aload_n 0, 1) := by decide +kernel
theorem dX0_pass_11 : decode cX0_pass 11 = .ok (.getfield 18, 3) := by decide +kernel
theorem dX0_pass_14 : decode cX0_pass 14 = .ok (.iload_n 1, 1) := by decide +kernel
theorem dX0_pass_15 : decode cX0_pass 15 = .ok (.dup2, 1) := by decide +kernel
theorem dX0_pass_16 : decode cX0_pass 16 = .ok (.iaload, 1) := by decide +kernel
theorem dX0_pass_17 : decode cX0_pass 17 = .ok (.iconst 1, 1) := by decide +kernel
theorem dX0_pass_18 : decode cX0_pass 18 = .ok (.aload_n 0, 1) := by decide +kernel
theorem dX0_pass_19 : decode cX0_pass 19 = .ok (.getfield 9, 3) := by decide +kernel
theorem dX0_pass_22 : decode cX0_pass 22 = .ok (.iload_n 1, 1) := by decide +kernel
theorem dX0_pass_23 : decode cX0_pass 23 = .ok (.iaload, 1) := by decide +kernel
theorem dX0_pass_24 : decode cX0_pass 24 = .ok (.iadd, 1) := by decide +kernel
theorem dX0_pass_25 : decode cX0_pass 25 = .ok (.iadd, 1) := by decide +kernel
theorem dX0_pass_26 : decode cX0_pass 26 = .ok (.iastore, 1) := by decide +kernel
theorem dX0_pass_27 : decode cX0_pass 27 = .ok (.aload_n 0, 1) := by decide +kernel
theorem dX0_pass_28 : decode cX0_pass 28 = .ok (.getfield 36, 3) := by decide +kernel
theorem dX0_pass_31 : decode cX0_pass 31 = .ok (.iconst 2, 1) := by decide +kernel
theorem dX0_pass_32 : decode cX0_pass 32 = .ok (.iaload, 1) := by decide +kernel
theorem dX0_pass_33 : decode cX0_pass 33 = .ok (.istore_n 3, 1) := by decide +kernel
theorem dX0_pass_34 : decode cX0_pass 34 = .ok (.aload_n 0, 1) := by decide +kernel
theorem dX0_pass_35 : decode cX0_pass 35 = .ok (.getfield 15, 3) := by decide +kernel
theorem dX0_pass_38 : decode cX0_pass 38 = .ok (.iload_n 1, 1) := by decide +kernel
theorem dX0_pass_39 : decode cX0_pass 39 = .ok (.iaload, 1) := by decide +kernel
theorem dX0_pass_40 : decode cX0_pass 40 = .ok (.aload_n 0, 1) := by decide +kernel
theorem dX0_pass_41 : decode cX0_pass 41 = .ok (.getfield 36, 3) := by decide +kernel
theorem dX0_pass_44 : decode cX0_pass 44 = .ok (.iconst 0, 1) := by decide +kernel
theorem dX0_pass_45 : decode cX0_pass 45 = .ok (.iaload, 1) := by decide +kernel
theorem dX0_pass_46 : decode cX0_pass 46 = .ok (.if_icmp .lt 7, 3) := by decide +kernel
theorem dX0_pass_49 : decode cX0_pass 49 = .ok (.iconst 1, 1) := by decide +kernel
theorem dX0_pass_50 : decode cX0_pass 50 = .ok (.goto 4, 3) := by decide +kernel
theorem dX0_pass_53 : decode cX0_pass 53 = .ok (.iconst 0, 1) := by decide +kernel
theorem dX0_pass_54 : decode cX0_pass 54 = .ok (.istore 4, 2) := by decide +kernel
theorem dX0_pass_56 : decode cX0_pass 56 = .ok (.iload_n 3, 1) := by decide +kernel
theorem dX0_pass_57 : decode cX0_pass 57 = .ok (.ifCond .le 13, 3) := by decide +kernel
theorem dX0_pass_60 : decode cX0_pass 60 = .ok (.iload_n 2, 1) := by decide +kernel
theorem dX0_pass_61 : decode cX0_pass 61 = .ok (.iload_n 3, 1) := by decide +kernel
theorem dX0_pass_62 : decode cX0_pass 62 = .ok (.irem, 1) := by decide +kernel
theorem dX0_pass_63 : decode cX0_pass 63 = .ok (.ifCond .ne 7, 3) := by decide +kernel
theorem dX0_pass_66 : decode cX0_pass 66 = .ok (.iconst 1, 1) := by decide +kernel
theorem dX0_pass_67 : decode cX0_pass 67 = .ok (.goto 4, 3) := by decide +kernel
theorem dX0_pass_70 : decode cX0_pass 70 = .ok (.iconst 0, 1) := by decide +kernel
theorem dX0_pass_71 : decode cX0_pass 71 = .ok (.istore 5, 2) := by decide +kernel
theorem dX0_pass_73 : decode cX0_pass 73 = .ok (.iload 4, 2) := by decide +kernel
theorem dX0_pass_75 : decode cX0_pass 75 = .ok (.ifCond .ne 10, 3) := by decide +kernel
theorem dX0_pass_78 : decode cX0_pass 78 = .ok (.iload 5, 2) := by decide +kernel
theorem dX0_pass_80 : decode cX0_pass 80 = .ok (.ifCond .ne 5, 3) := by decide +kernel
theorem dX0_pass_83 : decode cX0_pass 83 = .ok (.iconst 0, 1) := by decide +kernel
theorem dX0_pass_84 : decode cX0_pass 84 = .ok (.ireturn, 1) := by decide +kernel
theorem dX0_pass_85 : decode cX0_pass 85 = .ok (.aload_n 0, 1) := by decide +kernel
theorem dX0_pass_86 : decode cX0_pass 86 = .ok (.getfield 21, 3) := by decide +kernel
theorem dX0_pass_89 : decode cX0_pass 89 = .ok (.iload_n 1, 1) := by decide +kernel
theorem dX0_pass_90 : decode cX0_pass 90 = .ok (.dup2, 1) := by decide +kernel
theorem dX0_pass_91 : decode cX0_pass 91 = .ok (.iaload, 1) := by decide +kernel
theorem dX0_pass_92 : decode cX0_pass 92 = .ok (.iconst 1, 1) := by decide +kernel
theorem dX0_pass_93 : decode cX0_pass 93 = .ok (.iadd, 1) := by decide +kernel
theorem dX0_pass_94 : decode cX0_pass 94 = .ok (.iastore, 1) := by decide +kernel
theorem dX0_pass_95 : decode cX0_pass 95 = .ok (.aload_n 0, 1) := by decide +kernel
theorem dX0_pass_96 : decode cX0_pass 96 = .ok (.getfield 24, 3) := by decide +kernel
theorem dX0_pass_99 : decode cX0_pass 99 = .ok (.iload_n 1, 1) := by decide +kernel
theorem dX0_pass_100 : decode cX0_pass 100 = .ok (.aload_n 0, 1) := by decide +kernel
theorem dX0_pass_101 : decode cX0_pass 101 = .ok (.getfield 18, 3) := by decide +kernel
theorem dX0_pass_104 : decode cX0_pass 104 = .ok (.iload_n 1, 1) := by decide +kernel
theorem dX0_pass_105 : decode cX0_pass 105 = .ok (.iaload, 1) := by decide +kernel
theorem dX0_pass_106 : decode cX0_pass 106 = .ok (.iconst 4, 1) := by decide +kernel
theorem dX0_pass_107 : decode cX0_pass 107 = .ok (.idiv, 1) := by decide +kernel
theorem dX0_pass_108 : decode cX0_pass 108 = .ok (.iload_n 2, 1) := by decide +kernel
theorem dX0_pass_109 : decode cX0_pass 109 = .ok (.bipush 16, 2) := by decide +kernel
theorem dX0_pass_111 : decode cX0_pass 111 = .ok (.idiv, 1) := by decide +kernel
theorem dX0_pass_112 : decode cX0_pass 112 = .ok (.iconst 5, 1) := by decide +kernel
theorem dX0_pass_113 : decode cX0_pass 113 = .ok (.irem, 1) := by decide +kernel
theorem dX0_pass_114 : decode cX0_pass 114 = .ok (.iadd, 1) := by decide +kernel
theorem dX0_pass_115 : decode cX0_pass 115 = .ok (.iastore, 1) := by decide +kernel
theorem dX0_pass_116 : decode cX0_pass 116 = .ok (.iload 4, 2) := by decide +kernel
theorem dX0_pass_118 : decode cX0_pass 118 = .ok (.ifCond .ne 20, 3) := by decide +kernel
theorem dX0_pass_121 : decode cX0_pass 121 = .ok (.aload_n 0, 1) := by decide +kernel
theorem dX0_pass_122 : decode cX0_pass 122 = .ok (.getfield 24, 3) := by decide +kernel
theorem dX0_pass_125 : decode cX0_pass 125 = .ok (.iload_n 1, 1) := by decide +kernel
theorem dX0_pass_126 : decode cX0_pass 126 = .ok (.iaload, 1) := by decide +kernel
theorem dX0_pass_127 : decode cX0_pass 127 = .ok (.aload_n 0, 1) := by decide +kernel
theorem dX0_pass_128 : decode cX0_pass 128 = .ok (.getfield 36, 3) := by decide +kernel
theorem dX0_pass_131 : decode cX0_pass 131 = .ok (.iconst 1, 1) := by decide +kernel
theorem dX0_pass_132 : decode cX0_pass 132 = .ok (.iaload, 1) := by decide +kernel
theorem dX0_pass_133 : decode cX0_pass 133 = .ok (.if_icmp .gt 5, 3) := by decide +kernel
theorem dX0_pass_136 : decode cX0_pass 136 = .ok (.iconst 1, 1) := by decide +kernel
theorem dX0_pass_137 : decode cX0_pass 137 = .ok (.ireturn, 1) := by decide +kernel
theorem dX0_pass_138 : decode cX0_pass 138 = .ok (.aload_n 0, 1) := by decide +kernel
theorem dX0_pass_139 : decode cX0_pass 139 = .ok (.getfield 27, 3) := by decide +kernel
theorem dX0_pass_142 : decode cX0_pass 142 = .ok (.iload_n 1, 1) := by decide +kernel
theorem dX0_pass_143 : decode cX0_pass 143 = .ok (.iconst 2, 1) := by decide +kernel
theorem dX0_pass_144 : decode cX0_pass 144 = .ok (.iastore, 1) := by decide +kernel
theorem dX0_pass_145 : decode cX0_pass 145 = .ok (.aload_n 0, 1) := by decide +kernel
theorem dX0_pass_146 : decode cX0_pass 146 = .ok (.getfield 33, 3) := by decide +kernel
theorem dX0_pass_149 : decode cX0_pass 149 = .ok (.iload_n 1, 1) := by decide +kernel
theorem dX0_pass_150 : decode cX0_pass 150 = .ok (.aload_n 0, 1) := by decide +kernel
theorem dX0_pass_151 : decode cX0_pass 151 = .ok (.getfield 36, 3) := by decide +kernel
theorem dX0_pass_154 : decode cX0_pass 154 = .ok (.iconst 4, 1) := by decide +kernel
theorem dX0_pass_155 : decode cX0_pass 155 = .ok (.iaload, 1) := by decide +kernel
theorem dX0_pass_156 : decode cX0_pass 156 = .ok (.iastore, 1) := by decide +kernel
theorem dX0_pass_157 : decode cX0_pass 157 = .ok (.iconst 1, 1) := by decide +kernel
theorem dX0_pass_158 : decode cX0_pass 158 = .ok (.iload 4, 2) := by decide +kernel
theorem dX0_pass_160 : decode cX0_pass 160 = .ok (.ifCond .eq 7, 3) := by decide +kernel
theorem dX0_pass_163 : decode cX0_pass 163 = .ok (.iconst 2, 1) := by decide +kernel
theorem dX0_pass_164 : decode cX0_pass 164 = .ok (.goto 4, 3) := by decide +kernel
theorem dX0_pass_167 : decode cX0_pass 167 = .ok (.iconst 4, 1) := by decide +kernel
theorem dX0_pass_168 : decode cX0_pass 168 = .ok (.ior, 1) := by decide +kernel
theorem dX0_pass_169 : decode cX0_pass 169 = .ok (.ireturn, 1) := by decide +kernel
theorem dX0_repairAllBut_0 : decode cX0_repairAllBut 0 = .ok (.iconst 0, 1) := by decide +kernel
theorem dX0_repairAllBut_1 : decode cX0_repairAllBut 1 = .ok (.istore_n 2, 1) := by decide +kernel
theorem dX0_repairAllBut_2 : decode cX0_repairAllBut 2 = .ok (.iload_n 2, 1) := by decide +kernel
theorem dX0_repairAllBut_3 : decode cX0_repairAllBut 3 = .ok (.bipush 12, 2) := by decide +kernel
theorem dX0_repairAllBut_5 : decode cX0_repairAllBut 5 = .ok (.if_icmp .ge 70, 3) := by decide +kernel
theorem dX0_repairAllBut_8 : decode cX0_repairAllBut 8 = .ok (.aload_n 0, 1) := by decide +kernel
theorem dX0_repairAllBut_9 : decode cX0_repairAllBut 9 = .ok (.getfield 27, 3) := by decide +kernel
theorem dX0_repairAllBut_12 : decode cX0_repairAllBut 12 = .ok (.iload_n 2, 1) := by decide +kernel
theorem dX0_repairAllBut_13 : decode cX0_repairAllBut 13 = .ok (.iaload, 1) := by decide +kernel
theorem dX0_repairAllBut_14 : decode cX0_repairAllBut 14 = .ok (.iconst 2, 1) := by decide +kernel
theorem dX0_repairAllBut_15 : decode cX0_repairAllBut 15 = .ok (.if_icmp .ne 54, 3) := by decide +kernel
theorem dX0_repairAllBut_18 : decode cX0_repairAllBut 18 = .ok (.iload_n 2, 1) := by decide +kernel
theorem dX0_repairAllBut_19 : decode cX0_repairAllBut 19 = .ok (.iload_n 1, 1) := by decide +kernel
theorem dX0_repairAllBut_20 : decode cX0_repairAllBut 20 = .ok (.if_icmp .ne 6, 3) := by decide +kernel
theorem dX0_repairAllBut_23 : decode cX0_repairAllBut 23 = .ok (.goto 46, 3) := by decide +kernel
theorem dX0_repairAllBut_26 : decode cX0_repairAllBut 26 = .ok (.aload_n 0, 1) := by decide +kernel
theorem dX0_repairAllBut_27 : decode cX0_repairAllBut 27 = .ok (.getfield 33, 3) := by decide +kernel
theorem dX0_repairAllBut_30 : decode cX0_repairAllBut 30 = .ok (.iload_n 2, 1) := by decide +kernel
theorem dX0_repairAllBut_31 : decode cX0_repairAllBut 31 = .ok (.dup2, 1) := by decide +kernel
theorem dX0_repairAllBut_32 : decode cX0_repairAllBut 32 = .ok (.iaload, 1) := by decide +kernel
theorem dX0_repairAllBut_33 : decode cX0_repairAllBut 33 = .ok (.iconst 1, 1) := by decide +kernel
theorem dX0_repairAllBut_34 : decode cX0_repairAllBut 34 = .ok (.isub, 1) := by decide +kernel
theorem dX0_repairAllBut_35 : decode cX0_repairAllBut 35 = .ok (.iastore, 1) := by decide +kernel
theorem dX0_repairAllBut_36 : decode cX0_repairAllBut 36 = .ok (.aload_n 0, 1) := by decide +kernel
theorem dX0_repairAllBut_37 : decode cX0_repairAllBut 37 = .ok (.getfield 33, 3) := by decide +kernel
theorem dX0_repairAllBut_40 : decode cX0_repairAllBut 40 = .ok (.iload_n 2, 1) := by decide +kernel
theorem dX0_repairAllBut_41 : decode cX0_repairAllBut 41 = .ok (.iaload, 1) := by decide +kernel
theorem dX0_repairAllBut_42 : decode cX0_repairAllBut 42 = .ok (.ifCond .le 6, 3) := by decide +kernel
theorem dX0_repairAllBut_45 : decode cX0_repairAllBut 45 = .ok (.goto 24, 3) := by decide +kernel
theorem dX0_repairAllBut_48 : decode cX0_repairAllBut 48 = .ok (.aload_n 0, 1) := by decide +kernel
theorem dX0_repairAllBut_49 : decode cX0_repairAllBut 49 = .ok (.getfield 15, 3) := by decide +kernel
theorem dX0_repairAllBut_52 : decode cX0_repairAllBut 52 = .ok (.iload_n 2, 1) := by decide +kernel
theorem dX0_repairAllBut_53 : decode cX0_repairAllBut 53 = .ok (.iconst 0, 1) := by decide +kernel
theorem dX0_repairAllBut_54 : decode cX0_repairAllBut 54 = .ok (.iastore, 1) := by decide +kernel
theorem dX0_repairAllBut_55 : decode cX0_repairAllBut 55 = .ok (.aload_n 0, 1) := by decide +kernel
theorem dX0_repairAllBut_56 : decode cX0_repairAllBut 56 = .ok (.getfield 18, 3) := by decide +kernel
theorem dX0_repairAllBut_59 : decode cX0_repairAllBut 59 = .ok (.iload_n 2, 1) := by decide +kernel
theorem dX0_repairAllBut_60 : decode cX0_repairAllBut 60 = .ok (.iconst 0, 1) := by decide +kernel
theorem dX0_repairAllBut_61 : decode cX0_repairAllBut 61 = .ok (.iastore, 1) := by decide +kernel
theorem dX0_repairAllBut_62 : decode cX0_repairAllBut 62 = .ok (.aload_n 0, 1) := by decide +kernel
theorem dX0_repairAllBut_63 : decode cX0_repairAllBut 63 = .ok (.getfield 27, 3) := by decide +kernel
theorem dX0_repairAllBut_66 : decode cX0_repairAllBut 66 = .ok (.iload_n 2, 1) := by decide +kernel
theorem dX0_repairAllBut_67 : decode cX0_repairAllBut 67 = .ok (.iconst 1, 1) := by decide +kernel
theorem dX0_repairAllBut_68 : decode cX0_repairAllBut 68 = .ok (.iastore, 1) := by decide +kernel
theorem dX0_repairAllBut_69 : decode cX0_repairAllBut 69 = .ok (.iinc 2 1, 3) := by decide +kernel
theorem dX0_repairAllBut_72 : decode cX0_repairAllBut 72 = .ok (.goto (-70), 3) := by decide +kernel
theorem dX0_repairAllBut_75 : decode cX0_repairAllBut 75 = .ok (.return_, 1) := by decide +kernel
set_option maxRecDepth 20000 in
theorem ggX0_fillStation_X0_isRoomAt : GoodIn wsX0_fillStation wsX0_isRoomAt := goodIn_r _ [8, 1, 9, 10, 11, 12, 13, 7, 14, 15, 20, 21, 22, 23, 24, 25, 26, 27, 28, 29, 30, 31, 32] (by decide +kernel) (by decide +kernel)
set_option maxRecDepth 20000 in
theorem gX0_fillStation_X0_isRoomAt : GoodIn wsX0_fillStation (wsV RX0 91 RX0 yX0_isRoomAt wsX0_isRoomAt) := goodIn_app (goodIn_of _ (by decide +kernel)) ggX0_fillStation_X0_isRoomAt
set_option maxRecDepth 20000 in
theorem ggX0_fillStation_X0_hang : GoodIn wsX0_fillStation wsX0_hang := goodIn_r _ [19, 1, 9, 20, 21, 22, 23, 24, 25, 26, 27, 28, 29, 30, 31, 32] (by decide +kernel) (by decide +kernel)
set_option maxRecDepth 20000 in
theorem gX0_fillStation_X0_hang : GoodIn wsX0_fillStation (wsV RX0 95 RX0 yX0_hang wsX0_hang) := goodIn_app (goodIn_of _ (by decide +kernel)) ggX0_fillStation_X0_hang
theorem dX0_fillStation_0 : decode cX0_fillStation 0 = .ok (.bipush (-9), 2) := by decide +kernel
theorem dX0_fillStation_2 : decode cX0_fillStation 2 = .ok (.istore_n 1, 1) := by decide +kernel
theorem dX0_fillStation_3 : decode cX0_fillStation 3 = .ok (.bipush 11, 2) := by decide +kernel
theorem dX0_fillStation_5 : decode cX0_fillStation 5 = .ok (.istore_n 2, 1) := by decide +kernel
theorem dX0_fillStation_6 : decode cX0_fillStation 6 = .ok (.iload_n 2, 1) := by decide +kernel
theorem dX0_fillStation_7 : decode cX0_fillStation 7 = .ok (.ifCond .lt 43, 3) := by decide +kernel
theorem dX0_fillStation_10 : decode cX0_fillStation 10 = .ok (.aload_n 0, 1) := by decide +kernel
theorem dX0_fillStation_11 : decode cX0_fillStation 11 = .ok (.getfield 27, 3) := by decide +kernel
theorem dX0_fillStation_14 : decode cX0_fillStation 14 = .ok (.iload_n 2, 1) := by decide +kernel
theorem dX0_fillStation_15 : decode cX0_fillStation 15 = .ok (.iaload, 1) := by decide +kernel
theorem dX0_fillStation_16 : decode cX0_fillStation 16 = .ok (.iconst 1, 1) := by decide +kernel
theorem dX0_fillStation_17 : decode cX0_fillStation 17 = .ok (.if_icmp .eq 6, 3) := by decide +kernel
theorem dX0_fillStation_20 : decode cX0_fillStation 20 = .ok (.goto 24, 3) := by decide +kernel
theorem dX0_fillStation_23 : decode cX0_fillStation 23 = .ok (.iload_n 1, 1) := by decide +kernel
theorem dX0_fillStation_24 : decode cX0_fillStation 24 = .ok (.ifCond .lt 18, 3) := by decide +kernel
theorem dX0_fillStation_27 : decode cX0_fillStation 27 = .ok (.aload_n 0, 1) := by decide +kernel
theorem dX0_fillStation_28 : decode cX0_fillStation 28 = .ok (.getfield 15, 3) := by decide +kernel
theorem dX0_fillStation_31 : decode cX0_fillStation 31 = .ok (.iload_n 2, 1) := by decide +kernel
theorem dX0_fillStation_32 : decode cX0_fillStation 32 = .ok (.iaload, 1) := by decide +kernel
theorem dX0_fillStation_33 : decode cX0_fillStation 33 = .ok (.aload_n 0, 1) := by decide +kernel
theorem dX0_fillStation_34 : decode cX0_fillStation 34 = .ok (.getfield 15, 3) := by decide +kernel
theorem dX0_fillStation_37 : decode cX0_fillStation 37 = .ok (.iload_n 1, 1) := by decide +kernel
theorem dX0_fillStation_38 : decode cX0_fillStation 38 = .ok (.iaload, 1) := by decide +kernel
theorem dX0_fillStation_39 : decode cX0_fillStation 39 = .ok (.if_icmp .gt 5, 3) := by decide +kernel
theorem dX0_fillStation_42 : decode cX0_fillStation 42 = .ok (.iload_n 2, 1) := by decide +kernel
theorem dX0_fillStation_43 : decode cX0_fillStation 43 = .ok (.istore_n 1, 1) := by decide +kernel
theorem dX0_fillStation_44 : decode cX0_fillStation 44 = .ok (.iinc 2 (-1), 3) := by decide +kernel
theorem dX0_fillStation_47 : decode cX0_fillStation 47 = .ok (.goto (-41), 3) := by decide +kernel
theorem dX0_fillStation_50 : decode cX0_fillStation 50 = .ok (.iload_n 1, 1) := by decide +kernel
theorem dX0_fillStation_51 : decode cX0_fillStation 51 = .ok (.ifCond .lt 14, 3) := by decide +kernel
theorem dX0_fillStation_54 : decode cX0_fillStation 54 = .ok (.aload_n 0, 1) := by decide +kernel
theorem dX0_fillStation_55 : decode cX0_fillStation 55 = .ok (.aload_n 0, 1) := by decide +kernel
theorem dX0_fillStation_56 : decode cX0_fillStation 56 = .ok (.getfield 46, 3) := by decide +kernel
theorem dX0_fillStation_59 : decode cX0_fillStation 59 = .ok (.invokevirtual 91, 3) := by decide +kernel
theorem dX0_fillStation_62 : decode cX0_fillStation 62 = .ok (.ifCond .ne 5, 3) := by decide +kernel
theorem dX0_fillStation_65 : decode cX0_fillStation 65 = .ok (.iconst 0, 1) := by decide +kernel
theorem dX0_fillStation_66 : decode cX0_fillStation 66 = .ok (.ireturn, 1) := by decide +kernel
theorem dX0_fillStation_67 : decode cX0_fillStation 67 = .ok (.aload_n 0, 1) := by decide +kernel
theorem dX0_fillStation_68 : decode cX0_fillStation 68 = .ok (.iload_n 1, 1) := by decide +kernel
theorem dX0_fillStation_69 : decode cX0_fillStation 69 = .ok (.aload_n 0, 1) := by decide +kernel
theorem dX0_fillStation_70 : decode cX0_fillStation 70 = .ok (.getfield 46, 3) := by decide +kernel
theorem dX0_fillStation_73 : decode cX0_fillStation 73 = .ok (.invokevirtual 95, 3) := by decide +kernel
theorem dX0_fillStation_76 : decode cX0_fillStation 76 = .ok (.bipush 8, 2) := by decide +kernel
theorem dX0_fillStation_78 : decode cX0_fillStation 78 = .ok (.ireturn, 1) := by decide +kernel
set_option maxRecDepth 20000 in
theorem ggX0_isRoomAt_X0_distance : GoodIn wsX0_isRoomAt wsX0_distance := goodIn_r _ [8, 9, 10, 11, 12, 13, 14, 15, 16, 17, 18, 19, 20, 21, 22] (by decide +kernel) (by decide +kernel)
set_option maxRecDepth 20000 in
theorem gX0_isRoomAt_X0_distance : GoodIn wsX0_isRoomAt (wsV RX0 99 RX0 yX0_distance wsX0_distance) := goodIn_app (goodIn_of _ (by decide +kernel)) ggX0_isRoomAt_X0_distance
theorem dX0_isRoomAt_0 : decode cX0_isRoomAt 0 = .ok (.iconst 0, 1) := by decide +kernel
theorem dX0_isRoomAt_1 : decode cX0_isRoomAt 1 = .ok (.istore_n 2, 1) := by decide +kernel
theorem dX0_isRoomAt_2 : decode cX0_isRoomAt 2 = .ok (.iload_n 2, 1) := by decide +kernel
theorem dX0_isRoomAt_3 : decode cX0_isRoomAt 3 = .ok (.bipush 12, 2) := by decide +kernel
theorem dX0_isRoomAt_5 : decode cX0_isRoomAt 5 = .ok (.if_icmp .ge 40, 3) := by decide +kernel
theorem dX0_isRoomAt_8 : decode cX0_isRoomAt 8 = .ok (.aload_n 0, 1) := by decide +kernel
theorem dX0_isRoomAt_9 : decode cX0_isRoomAt 9 = .ok (.getfield 27, 3) := by decide +kernel
theorem dX0_isRoomAt_12 : decode cX0_isRoomAt 12 = .ok (.iload_n 2, 1) := by decide +kernel
theorem dX0_isRoomAt_13 : decode cX0_isRoomAt 13 = .ok (.iaload, 1) := by decide +kernel
theorem dX0_isRoomAt_14 : decode cX0_isRoomAt 14 = .ok (.ifCond .ne 25, 3) := by decide +kernel
theorem dX0_isRoomAt_17 : decode cX0_isRoomAt 17 = .ok (.aload_n 0, 1) := by decide +kernel
theorem dX0_isRoomAt_18 : decode cX0_isRoomAt 18 = .ok (.aload_n 0, 1) := by decide +kernel
theorem dX0_isRoomAt_19 : decode cX0_isRoomAt 19 = .ok (.getfield 30, 3) := by decide +kernel
theorem dX0_isRoomAt_22 : decode cX0_isRoomAt 22 = .ok (.iload_n 2, 1) := by decide +kernel
theorem dX0_isRoomAt_23 : decode cX0_isRoomAt 23 = .ok (.iaload, 1) := by decide +kernel
theorem dX0_isRoomAt_24 : decode cX0_isRoomAt 24 = .ok (.iload_n 1, 1) := by decide +kernel
theorem dX0_isRoomAt_25 : decode cX0_isRoomAt 25 = .ok (.invokevirtual 99, 3) := by decide +kernel
theorem dX0_isRoomAt_28 : decode cX0_isRoomAt 28 = .ok (.aload_n 0, 1) := by decide +kernel
theorem dX0_isRoomAt_29 : decode cX0_isRoomAt 29 = .ok (.getfield 36, 3) := by decide +kernel
theorem dX0_isRoomAt_32 : decode cX0_isRoomAt 32 = .ok (.iconst 3, 1) := by decide +kernel
theorem dX0_isRoomAt_33 : decode cX0_isRoomAt 33 = .ok (.iaload, 1) := by decide +kernel
theorem dX0_isRoomAt_34 : decode cX0_isRoomAt 34 = .ok (.if_icmp .ge 5, 3) := by decide +kernel
theorem dX0_isRoomAt_37 : decode cX0_isRoomAt 37 = .ok (.iconst 0, 1) := by decide +kernel
theorem dX0_isRoomAt_38 : decode cX0_isRoomAt 38 = .ok (.ireturn, 1) := by decide +kernel
theorem dX0_isRoomAt_39 : decode cX0_isRoomAt 39 = .ok (.iinc 2 1, 3) := by decide +kernel
theorem dX0_isRoomAt_42 : decode cX0_isRoomAt 42 = .ok (.goto (-40), 3) := by decide +kernel
theorem dX0_isRoomAt_45 : decode cX0_isRoomAt 45 = .ok (.iconst 1, 1) := by decide +kernel
theorem dX0_isRoomAt_46 : decode cX0_isRoomAt 46 = .ok (.ireturn, 1) := by decide +kernel
theorem dX0_distance_0 : decode cX0_distance 0 = .ok (.iload_n 1, 1) := by decide +kernel
theorem dX0_distance_1 : decode cX0_distance 1 = .ok (.iload_n 2, 1) := by decide +kernel
theorem dX0_distance_2 : decode cX0_distance 2 = .ok (.if_icmp .le 9, 3) := by decide +kernel
theorem dX0_distance_5 : decode cX0_distance 5 = .ok (.iload_n 1, 1) := by decide +kernel
theorem dX0_distance_6 : decode cX0_distance 6 = .ok (.iload_n 2, 1) := by decide +kernel
theorem dX0_distance_7 : decode cX0_distance 7 = .ok (.isub, 1) := by decide +kernel
theorem dX0_distance_8 : decode cX0_distance 8 = .ok (.goto 6, 3) := by decide +kernel
theorem dX0_distance_11 : decode cX0_distance 11 = .ok (.iload_n 2, 1) := by decide +kernel
theorem dX0_distance_12 : decode cX0_distance 12 = .ok (.iload_n 1, 1) := by decide +kernel
theorem dX0_distance_13 : decode cX0_distance 13 = .ok (.isub, 1) := by decide +kernel
theorem dX0_distance_14 : decode cX0_distance 14 = .ok (.istore_n 3, 1) := by decide +kernel
theorem dX0_distance_15 : decode cX0_distance 15 = .ok (.iload_n 3, 1) := by decide +kernel
theorem dX0_distance_16 : decode cX0_distance 16 = .ok (.aload_n 0, 1) := by decide +kernel
theorem dX0_distance_17 : decode cX0_distance 17 = .ok (.getfield 42, 3) := by decide +kernel
theorem dX0_distance_20 : decode cX0_distance 20 = .ok (.iload_n 3, 1) := by decide +kernel
theorem dX0_distance_21 : decode cX0_distance 21 = .ok (.isub, 1) := by decide +kernel
theorem dX0_distance_22 : decode cX0_distance 22 = .ok (.if_icmp .ge 7, 3) := by decide +kernel
theorem dX0_distance_25 : decode cX0_distance 25 = .ok (.iload_n 3, 1) := by decide +kernel
theorem dX0_distance_26 : decode cX0_distance 26 = .ok (.goto 9, 3) := by decide +kernel
theorem dX0_distance_29 : decode cX0_distance 29 = .ok (.aload_n 0, 1) := by decide +kernel
theorem dX0_distance_30 : decode cX0_distance 30 = .ok (.getfield 42, 3) := by decide +kernel
theorem dX0_distance_33 : decode cX0_distance 33 = .ok (.iload_n 3, 1) := by decide +kernel
theorem dX0_distance_34 : decode cX0_distance 34 = .ok (.isub, 1) := by decide +kernel
theorem dX0_distance_35 : decode cX0_distance 35 = .ok (.ireturn, 1) := by decide +kernel
set_option maxRecDepth 20000 in
theorem ggX0_roomySlots_X0_isRoomAt : GoodIn wsX0_roomySlots wsX0_isRoomAt := goodIn_r _ [6, 7, 8, 9, 10, 11, 12, 5, 13, 1, 14, 15, 16, 17, 18, 19, 20, 21, 22, 23, 24, 25, 26] (by decide +kernel) (by decide +kernel)
set_option maxRecDepth 20000 in
theorem gX0_roomySlots_X0_isRoomAt : GoodIn wsX0_roomySlots (wsV RX0 91 RX0 yX0_isRoomAt wsX0_isRoomAt) := goodIn_app (goodIn_of _ (by decide +kernel)) ggX0_roomySlots_X0_isRoomAt
theorem dX0_roomySlots_0 : decode cX0_roomySlots 0 = .ok (.iconst 0, 1) := by decide +kernel
theorem dX0_roomySlots_1 : decode cX0_roomySlots 1 = .ok (.istore_n 1, 1) := by decide +kernel
theorem dX0_roomySlots_2 : decode cX0_roomySlots 2 = .ok (.iconst 0, 1) := by decide +kernel
theorem dX0_roomySlots_3 : decode cX0_roomySlots 3 = .ok (.istore_n 2, 1) := by decide +kernel
theorem dX0_roomySlots_4 : decode cX0_roomySlots 4 = .ok (.iload_n 2, 1) := by decide +kernel
theorem dX0_roomySlots_5 : decode cX0_roomySlots 5 = .ok (.aload_n 0, 1) := by decide +kernel
theorem dX0_roomySlots_6 : decode cX0_roomySlots 6 = .ok (.getfield 42, 3) := by decide +kernel
theorem dX0_roomySlots_9 : decode cX0_roomySlots 9 = .ok (.if_icmp .ge 20, 3) := by decide +kernel
theorem dX0_roomySlots_12 : decode cX0_roomySlots 12 = .ok (.aload_n 0, 1) := by decide +kernel
theorem dX0_roomySlots_13 : decode cX0_roomySlots 13 = .ok (.iload_n 2, 1) := by decide +kernel
theorem dX0_roomySlots_14 : decode cX0_roomySlots 14 = .ok (.invokevirtual 91, 3) := by decide +kernel
theorem dX0_roomySlots_17 : decode cX0_roomySlots 17 = .ok (.ifCond .eq 6, 3) := by decide +kernel
theorem dX0_roomySlots_20 : decode cX0_roomySlots 20 = .ok (.iinc 1 1, 3) := by decide +kernel
theorem dX0_roomySlots_23 : decode cX0_roomySlots 23 = .ok (.iinc 2 1, 3) := by decide +kernel
theorem dX0_roomySlots_26 : decode cX0_roomySlots 26 = .ok (.goto (-22), 3) := by decide +kernel
theorem dX0_roomySlots_29 : decode cX0_roomySlots 29 = .ok (.iload_n 1, 1) := by decide +kernel
theorem dX0_roomySlots_30 : decode cX0_roomySlots 30 = .ok (.ireturn, 1) := by decide +kernel
theorem dX0_slotsOn_0 : decode cX0_slotsOn 0 = .ok (.iload_n 2, 1) := by decide +kernel
theorem dX0_slotsOn_1 : decode cX0_slotsOn 1 = .ok (.iload_n 1, 1) := by decide +kernel
theorem dX0_slotsOn_2 : decode cX0_slotsOn 2 = .ok (.if_icmp .le 9, 3) := by decide +kernel
theorem dX0_slotsOn_5 : decode cX0_slotsOn 5 = .ok (.iload_n 2, 1) := by decide +kernel
theorem dX0_slotsOn_6 : decode cX0_slotsOn 6 = .ok (.iload_n 1, 1) := by decide +kernel
theorem dX0_slotsOn_7 : decode cX0_slotsOn 7 = .ok (.isub, 1) := by decide +kernel
theorem dX0_slotsOn_8 : decode cX0_slotsOn 8 = .ok (.goto 11, 3) := by decide +kernel
theorem dX0_slotsOn_11 : decode cX0_slotsOn 11 = .ok (.iload_n 2, 1) := by decide +kernel
theorem dX0_slotsOn_12 : decode cX0_slotsOn 12 = .ok (.iload_n 1, 1) := by decide +kernel
theorem dX0_slotsOn_13 : decode cX0_slotsOn 13 = .ok (.isub, 1) := by decide +kernel
theorem dX0_slotsOn_14 : decode cX0_slotsOn 14 = .ok (.aload_n 0, 1) := by decide +kernel
theorem dX0_slotsOn_15 : decode cX0_slotsOn 15 = .ok (.getfield 42, 3) := by decide +kernel
theorem dX0_slotsOn_18 : decode cX0_slotsOn 18 = .ok (.iadd, 1) := by decide +kernel
theorem dX0_slotsOn_19 : decode cX0_slotsOn 19 = .ok (.ireturn, 1) := by decide +kernel
set_option maxRecDepth 20000 in
theorem ggX0_gapBehind_X0_slotsOn : GoodIn wsX0_gapBehind wsX0_slotsOn := goodIn_r _ [12, 1, 13, 14, 15, 16, 17, 18, 19, 20, 21, 22, 23, 24, 25] (by decide +kernel) (by decide +kernel)
set_option maxRecDepth 20000 in
theorem gX0_gapBehind_X0_slotsOn : GoodIn wsX0_gapBehind (wsV RX0 102 RX0 yX0_slotsOn wsX0_slotsOn) := goodIn_app (goodIn_of _ (by decide +kernel)) ggX0_gapBehind_X0_slotsOn
theorem dX0_gapBehind_0 : decode cX0_gapBehind 0 = .ok (.aload_n 0, 1) := by decide +kernel
theorem dX0_gapBehind_1 : decode cX0_gapBehind 1 = .ok (.getfield 42, 3) := by decide +kernel
theorem dX0_gapBehind_4 : decode cX0_gapBehind 4 = .ok (.istore_n 2, 1) := by decide +kernel
theorem dX0_gapBehind_5 : decode cX0_gapBehind 5 = .ok (.iconst 0, 1) := by decide +kernel
theorem dX0_gapBehind_6 : decode cX0_gapBehind 6 = .ok (.istore_n 3, 1) := by decide +kernel
theorem dX0_gapBehind_7 : decode cX0_gapBehind 7 = .ok (.iload_n 3, 1) := by decide +kernel
theorem dX0_gapBehind_8 : decode cX0_gapBehind 8 = .ok (.bipush 12, 2) := by decide +kernel
theorem dX0_gapBehind_10 : decode cX0_gapBehind 10 = .ok (.if_icmp .ge 39, 3) := by decide +kernel
theorem dX0_gapBehind_13 : decode cX0_gapBehind 13 = .ok (.aload_n 0, 1) := by decide +kernel
theorem dX0_gapBehind_14 : decode cX0_gapBehind 14 = .ok (.getfield 27, 3) := by decide +kernel
theorem dX0_gapBehind_17 : decode cX0_gapBehind 17 = .ok (.iload_n 3, 1) := by decide +kernel
theorem dX0_gapBehind_18 : decode cX0_gapBehind 18 = .ok (.iaload, 1) := by decide +kernel
theorem dX0_gapBehind_19 : decode cX0_gapBehind 19 = .ok (.ifCond .ne 24, 3) := by decide +kernel
theorem dX0_gapBehind_22 : decode cX0_gapBehind 22 = .ok (.iload_n 2, 1) := by decide +kernel
theorem dX0_gapBehind_23 : decode cX0_gapBehind 23 = .ok (.aload_n 0, 1) := by decide +kernel
theorem dX0_gapBehind_24 : decode cX0_gapBehind 24 = .ok (.aload_n 0, 1) := by decide +kernel
theorem dX0_gapBehind_25 : decode cX0_gapBehind 25 = .ok (.getfield 30, 3) := by decide +kernel
theorem dX0_gapBehind_28 : decode cX0_gapBehind 28 = .ok (.iload_n 1, 1) := by decide +kernel
theorem dX0_gapBehind_29 : decode cX0_gapBehind 29 = .ok (.iaload, 1) := by decide +kernel
theorem dX0_gapBehind_30 : decode cX0_gapBehind 30 = .ok (.aload_n 0, 1) := by decide +kernel
theorem dX0_gapBehind_31 : decode cX0_gapBehind 31 = .ok (.getfield 30, 3) := by decide +kernel
theorem dX0_gapBehind_34 : decode cX0_gapBehind 34 = .ok (.iload_n 3, 1) := by decide +kernel
theorem dX0_gapBehind_35 : decode cX0_gapBehind 35 = .ok (.iaload, 1) := by decide +kernel
theorem dX0_gapBehind_36 : decode cX0_gapBehind 36 = .ok (.invokevirtual 102, 3) := by decide +kernel
theorem dX0_gapBehind_39 : decode cX0_gapBehind 39 = .ok (.invokestatic 105, 3) := by decide +kernel
theorem dX0_gapBehind_42 : decode cX0_gapBehind 42 = .ok (.istore_n 2, 1) := by decide +kernel
theorem dX0_gapBehind_43 : decode cX0_gapBehind 43 = .ok (.iinc 3 1, 3) := by decide +kernel
theorem dX0_gapBehind_46 : decode cX0_gapBehind 46 = .ok (.goto (-39), 3) := by decide +kernel
theorem dX0_gapBehind_49 : decode cX0_gapBehind 49 = .ok (.iload_n 2, 1) := by decide +kernel
theorem dX0_gapBehind_50 : decode cX0_gapBehind 50 = .ok (.ireturn, 1) := by decide +kernel
set_option maxRecDepth 20000 in
theorem ggX0_smallestGap_X0_gapBehind : GoodIn wsX0_smallestGap wsX0_gapBehind := goodIn_r _ [6, 7, 1, 8, 9, 10, 11, 12, 13, 14, 15, 5, 16, 17, 18, 19, 20, 21, 22, 23, 24, 25, 26, 27, 28, 29] (by decide +kernel) (by decide +kernel)
set_option maxRecDepth 20000 in
theorem gX0_smallestGap_X0_gapBehind : GoodIn wsX0_smallestGap (wsV RX0 110 RX0 yX0_gapBehind wsX0_gapBehind) := goodIn_app (goodIn_of _ (by decide +kernel)) ggX0_smallestGap_X0_gapBehind
theorem dX0_smallestGap_0 : decode cX0_smallestGap 0 = .ok (.bipush (-9), 2) := by decide +kernel
theorem dX0_smallestGap_2 : decode cX0_smallestGap 2 = .ok (.istore_n 1, 1) := by decide +kernel
theorem dX0_smallestGap_3 : decode cX0_smallestGap 3 = .ok (.iconst 0, 1) := by decide +kernel
theorem dX0_smallestGap_4 : decode cX0_smallestGap 4 = .ok (.istore_n 2, 1) := by decide +kernel
theorem dX0_smallestGap_5 : decode cX0_smallestGap 5 = .ok (.iload_n 2, 1) := by decide +kernel
theorem dX0_smallestGap_6 : decode cX0_smallestGap 6 = .ok (.bipush 12, 2) := by decide +kernel
theorem dX0_smallestGap_8 : decode cX0_smallestGap 8 = .ok (.if_icmp .ge 40, 3) := by decide +kernel
theorem dX0_smallestGap_11 : decode cX0_smallestGap 11 = .ok (.aload_n 0, 1) := by decide +kernel
theorem dX0_smallestGap_12 : decode cX0_smallestGap 12 = .ok (.getfield 27, 3) := by decide +kernel
theorem dX0_smallestGap_15 : decode cX0_smallestGap 15 = .ok (.iload_n 2, 1) := by decide +kernel
theorem dX0_smallestGap_16 : decode cX0_smallestGap 16 = .ok (.iaload, 1) := by decide +kernel
theorem dX0_smallestGap_17 : decode cX0_smallestGap 17 = .ok (.ifCond .eq 6, 3) := by decide +kernel
theorem dX0_smallestGap_20 : decode cX0_smallestGap 20 = .ok (.goto 22, 3) := by decide +kernel
theorem dX0_smallestGap_23 : decode cX0_smallestGap 23 = .ok (.aload_n 0, 1) := by decide +kernel
theorem dX0_smallestGap_24 : decode cX0_smallestGap 24 = .ok (.iload_n 2, 1) := by decide +kernel
theorem dX0_smallestGap_25 : decode cX0_smallestGap 25 = .ok (.invokevirtual 110, 3) := by decide +kernel
theorem dX0_smallestGap_28 : decode cX0_smallestGap 28 = .ok (.istore_n 3, 1) := by decide +kernel
theorem dX0_smallestGap_29 : decode cX0_smallestGap 29 = .ok (.iload_n 1, 1) := by decide +kernel
theorem dX0_smallestGap_30 : decode cX0_smallestGap 30 = .ok (.bipush (-9), 2) := by decide +kernel
theorem dX0_smallestGap_32 : decode cX0_smallestGap 32 = .ok (.if_icmp .eq 8, 3) := by decide +kernel
theorem dX0_smallestGap_35 : decode cX0_smallestGap 35 = .ok (.iload_n 3, 1) := by decide +kernel
theorem dX0_smallestGap_36 : decode cX0_smallestGap 36 = .ok (.iload_n 1, 1) := by decide +kernel
theorem dX0_smallestGap_37 : decode cX0_smallestGap 37 = .ok (.if_icmp .ge 5, 3) := by decide +kernel
theorem dX0_smallestGap_40 : decode cX0_smallestGap 40 = .ok (.iload_n 3, 1) := by decide +kernel
theorem dX0_smallestGap_41 : decode cX0_smallestGap 41 = .ok (.istore_n 1, 1) := by decide +kernel
theorem dX0_smallestGap_42 : decode cX0_smallestGap 42 = .ok (.iinc 2 1, 3) := by decide +kernel
theorem dX0_smallestGap_45 : decode cX0_smallestGap 45 = .ok (.goto (-40), 3) := by decide +kernel
theorem dX0_smallestGap_48 : decode cX0_smallestGap 48 = .ok (.iload_n 1, 1) := by decide +kernel
theorem dX0_smallestGap_49 : decode cX0_smallestGap 49 = .ok (.ireturn, 1) := by decide +kernel
theorem dX0_capacity_0 : decode cX0_capacity 0 = .ok (.aload_n 0, 1) := by decide +kernel
theorem dX0_capacity_1 : decode cX0_capacity 1 = .ok (.getfield 36, 3) := by decide +kernel
theorem dX0_capacity_4 : decode cX0_capacity 4 = .ok (.iconst 3, 1) := by decide +kernel
theorem dX0_capacity_5 : decode cX0_capacity 5 = .ok (.iaload, 1) := by decide +kernel
theorem dX0_capacity_6 : decode cX0_capacity 6 = .ok (.istore_n 1, 1) := by decide +kernel
theorem dX0_capacity_7 : decode cX0_capacity 7 = .ok (.iload_n 1, 1) := by decide +kernel
theorem dX0_capacity_8 : decode cX0_capacity 8 = .ok (.ifCond .le 12, 3) := by decide +kernel
theorem dX0_capacity_11 : decode cX0_capacity 11 = .ok (.aload_n 0, 1) := by decide +kernel
theorem dX0_capacity_12 : decode cX0_capacity 12 = .ok (.getfield 42, 3) := by decide +kernel
theorem dX0_capacity_15 : decode cX0_capacity 15 = .ok (.iload_n 1, 1) := by decide +kernel
theorem dX0_capacity_16 : decode cX0_capacity 16 = .ok (.idiv, 1) := by decide +kernel
theorem dX0_capacity_17 : decode cX0_capacity 17 = .ok (.goto 4, 3) := by decide +kernel
theorem dX0_capacity_20 : decode cX0_capacity 20 = .ok (.iconst 0, 1) := by decide +kernel
theorem dX0_capacity_21 : decode cX0_capacity 21 = .ok (.ireturn, 1) := by decide +kernel
set_option maxRecDepth 20000 in
theorem ggX0_stepsUntilDue_X0_slotsOn : GoodIn wsX0_stepsUntilDue wsX0_slotsOn := goodIn_r _ [14, 9, 15, 16, 17, 18, 19, 20, 21, 22, 23, 24, 25, 26, 27] (by decide +kernel) (by decide +kernel)
set_option maxRecDepth 20000 in
theorem gX0_stepsUntilDue_X0_slotsOn : GoodIn wsX0_stepsUntilDue (wsV RX0 102 RX0 yX0_slotsOn wsX0_slotsOn) := goodIn_app (goodIn_of _ (by decide +kernel)) ggX0_stepsUntilDue_X0_slotsOn
theorem dX0_stepsUntilDue_0 : decode cX0_stepsUntilDue 0 = .ok (.iconst 1, 1) := by decide +kernel
theorem dX0_stepsUntilDue_1 : decode cX0_stepsUntilDue 1 = .ok (.aload_n 0, 1) := by decide +kernel
theorem dX0_stepsUntilDue_2 : decode cX0_stepsUntilDue 2 = .ok (.getfield 36, 3) := by decide +kernel
theorem dX0_stepsUntilDue_5 : decode cX0_stepsUntilDue 5 = .ok (.iconst 0, 1) := by decide +kernel
theorem dX0_stepsUntilDue_6 : decode cX0_stepsUntilDue 6 = .ok (.iaload, 1) := by decide +kernel
theorem dX0_stepsUntilDue_7 : decode cX0_stepsUntilDue 7 = .ok (.aload_n 0, 1) := by decide +kernel
theorem dX0_stepsUntilDue_8 : decode cX0_stepsUntilDue 8 = .ok (.getfield 15, 3) := by decide +kernel
theorem dX0_stepsUntilDue_11 : decode cX0_stepsUntilDue 11 = .ok (.iload_n 1, 1) := by decide +kernel
theorem dX0_stepsUntilDue_12 : decode cX0_stepsUntilDue 12 = .ok (.iaload, 1) := by decide +kernel
theorem dX0_stepsUntilDue_13 : decode cX0_stepsUntilDue 13 = .ok (.isub, 1) := by decide +kernel
theorem dX0_stepsUntilDue_14 : decode cX0_stepsUntilDue 14 = .ok (.invokestatic 113, 3) := by decide +kernel
theorem dX0_stepsUntilDue_17 : decode cX0_stepsUntilDue 17 = .ok (.istore_n 2, 1) := by decide +kernel
theorem dX0_stepsUntilDue_18 : decode cX0_stepsUntilDue 18 = .ok (.aload_n 0, 1) := by decide +kernel
theorem dX0_stepsUntilDue_19 : decode cX0_stepsUntilDue 19 = .ok (.aload_n 0, 1) := by decide +kernel
theorem dX0_stepsUntilDue_20 : decode cX0_stepsUntilDue 20 = .ok (.getfield 46, 3) := by decide +kernel
theorem dX0_stepsUntilDue_23 : decode cX0_stepsUntilDue 23 = .ok (.aload_n 0, 1) := by decide +kernel
theorem dX0_stepsUntilDue_24 : decode cX0_stepsUntilDue 24 = .ok (.getfield 30, 3) := by decide +kernel
theorem dX0_stepsUntilDue_27 : decode cX0_stepsUntilDue 27 = .ok (.iload_n 1, 1) := by decide +kernel
theorem dX0_stepsUntilDue_28 : decode cX0_stepsUntilDue 28 = .ok (.iaload, 1) := by decide +kernel
theorem dX0_stepsUntilDue_29 : decode cX0_stepsUntilDue 29 = .ok (.invokevirtual 102, 3) := by decide +kernel
theorem dX0_stepsUntilDue_32 : decode cX0_stepsUntilDue 32 = .ok (.iload_n 2, 1) := by decide +kernel
theorem dX0_stepsUntilDue_33 : decode cX0_stepsUntilDue 33 = .ok (.iconst 1, 1) := by decide +kernel
theorem dX0_stepsUntilDue_34 : decode cX0_stepsUntilDue 34 = .ok (.isub, 1) := by decide +kernel
theorem dX0_stepsUntilDue_35 : decode cX0_stepsUntilDue 35 = .ok (.aload_n 0, 1) := by decide +kernel
theorem dX0_stepsUntilDue_36 : decode cX0_stepsUntilDue 36 = .ok (.getfield 42, 3) := by decide +kernel
theorem dX0_stepsUntilDue_39 : decode cX0_stepsUntilDue 39 = .ok (.imul, 1) := by decide +kernel
theorem dX0_stepsUntilDue_40 : decode cX0_stepsUntilDue 40 = .ok (.iadd, 1) := by decide +kernel
theorem dX0_stepsUntilDue_41 : decode cX0_stepsUntilDue 41 = .ok (.ireturn, 1) := by decide +kernel
theorem dX0_isGrouped_0 : decode cX0_isGrouped 0 = .ok (.aload_n 0, 1) := by decide +kernel
theorem dX0_isGrouped_1 : decode cX0_isGrouped 1 = .ok (.getfield 27, 3) := by decide +kernel
theorem dX0_isGrouped_4 : decode cX0_isGrouped 4 = .ok (.iload_n 1, 1) := by decide +kernel
theorem dX0_isGrouped_5 : decode cX0_isGrouped 5 = .ok (.iaload, 1) := by decide +kernel
theorem dX0_isGrouped_6 : decode cX0_isGrouped 6 = .ok (.iconst (-1), 1) := by decide +kernel
theorem dX0_isGrouped_7 : decode cX0_isGrouped 7 = .ok (.if_icmp .eq 17, 3) := by decide +kernel
theorem dX0_isGrouped_10 : decode cX0_isGrouped 10 = .ok (.aload_n 0, 1) := by decide +kernel
theorem dX0_isGrouped_11 : decode cX0_isGrouped 11 = .ok (.getfield 27, 3) := by decide +kernel
theorem dX0_isGrouped_14 : decode cX0_isGrouped 14 = .ok (.iload_n 1, 1) := by decide +kernel
theorem dX0_isGrouped_15 : decode cX0_isGrouped 15 = .ok (.iaload, 1) := by decide +kernel
theorem dX0_isGrouped_16 : decode cX0_isGrouped 16 = .ok (.iconst 3, 1) := by decide +kernel
theorem dX0_isGrouped_17 : decode cX0_isGrouped 17 = .ok (.if_icmp .eq 7, 3) := by decide +kernel
theorem dX0_isGrouped_20 : decode cX0_isGrouped 20 = .ok (.iconst 1, 1) := by decide +kernel
theorem dX0_isGrouped_21 : decode cX0_isGrouped 21 = .ok (.goto 4, 3) := by decide +kernel
theorem dX0_isGrouped_24 : decode cX0_isGrouped 24 = .ok (.iconst 0, 1) := by decide +kernel
theorem dX0_isGrouped_25 : decode cX0_isGrouped 25 = .ok (.ireturn, 1) := by decide +kernel
set_option maxRecDepth 20000 in
theorem ggX0_areTogether_X0_isGrouped : GoodIn wsX0_areTogether wsX0_isGrouped := goodIn_r _ [7, 8, 9, 10, 11, 12, 13, 14, 15, 16, 17, 18, 19, 20, 21] (by decide +kernel) (by decide +kernel)
set_option maxRecDepth 20000 in
theorem gX0_areTogether_X0_isGrouped : GoodIn wsX0_areTogether (wsV RX0 116 RX0 yX0_isGrouped wsX0_isGrouped) := goodIn_app (goodIn_of _ (by decide +kernel)) ggX0_areTogether_X0_isGrouped
theorem dX0_areTogether_0 : decode cX0_areTogether 0 = .ok (.aload_n 0, 1) := by decide +kernel
theorem dX0_areTogether_1 : decode cX0_areTogether 1 = .ok (.getfield 9, 3) := by decide +kernel
theorem dX0_areTogether_4 : decode cX0_areTogether 4 = .ok (.iload_n 1, 1) := by decide +kernel
theorem dX0_areTogether_5 : decode cX0_areTogether 5 = .ok (.iaload, 1) := by decide +kernel
theorem dX0_areTogether_6 : decode cX0_areTogether 6 = .ok (.aload_n 0, 1) := by decide +kernel
theorem dX0_areTogether_7 : decode cX0_areTogether 7 = .ok (.getfield 9, 3) := by decide +kernel
theorem dX0_areTogether_10 : decode cX0_areTogether 10 = .ok (.iload_n 2, 1) := by decide +kernel
theorem dX0_areTogether_11 : decode cX0_areTogether 11 = .ok (.iaload, 1) := by decide +kernel
theorem dX0_areTogether_12 : decode cX0_areTogether 12 = .ok (.if_icmp .ne 28, 3) := by decide +kernel
theorem dX0_areTogether_15 : decode cX0_areTogether 15 = .ok (.aload_n 0, 1) := by decide +kernel
theorem dX0_areTogether_16 : decode cX0_areTogether 16 = .ok (.getfield 15, 3) := by decide +kernel
theorem dX0_areTogether_19 : decode cX0_areTogether 19 = .ok (.iload_n 1, 1) := by decide +kernel
theorem dX0_areTogether_20 : decode cX0_areTogether 20 = .ok (.iaload, 1) := by decide +kernel
theorem dX0_areTogether_21 : decode cX0_areTogether 21 = .ok (.bipush 10, 2) := by decide +kernel
theorem dX0_areTogether_23 : decode cX0_areTogether 23 = .ok (.idiv, 1) := by decide +kernel
theorem dX0_areTogether_24 : decode cX0_areTogether 24 = .ok (.aload_n 0, 1) := by decide +kernel
theorem dX0_areTogether_25 : decode cX0_areTogether 25 = .ok (.getfield 15, 3) := by decide +kernel
theorem dX0_areTogether_28 : decode cX0_areTogether 28 = .ok (.iload_n 2, 1) := by decide +kernel
theorem dX0_areTogether_29 : decode cX0_areTogether 29 = .ok (.iaload, 1) := by decide +kernel
theorem dX0_areTogether_30 : decode cX0_areTogether 30 = .ok (.bipush 10, 2) := by decide +kernel
theorem dX0_areTogether_32 : decode cX0_areTogether 32 = .ok (.idiv, 1) := by decide +kernel
theorem dX0_areTogether_33 : decode cX0_areTogether 33 = .ok (.if_icmp .ne 7, 3) := by decide +kernel
theorem dX0_areTogether_36 : decode cX0_areTogether 36 = .ok (.iconst 1, 1) := by decide +kernel
theorem dX0_areTogether_37 : decode cX0_areTogether 37 = .ok (.goto 4, 3) := by decide +kernel
theorem dX0_areTogether_40 : decode cX0_areTogether 40 = .ok (.iconst 0, 1) := by decide +kernel
theorem dX0_areTogether_41 : decode cX0_areTogether 41 = .ok (.istore_n 3, 1) := by decide +kernel
theorem dX0_areTogether_42 : decode cX0_areTogether 42 = .ok (.iload_n 3, 1) := by decide +kernel
theorem dX0_areTogether_43 : decode cX0_areTogether 43 = .ok (.ifCond .eq 23, 3) := by decide +kernel
theorem dX0_areTogether_46 : decode cX0_areTogether 46 = .ok (.aload_n 0, 1) := by decide +kernel
theorem dX0_areTogether_47 : decode cX0_areTogether 47 = .ok (.iload_n 1, 1) := by decide +kernel
theorem dX0_areTogether_48 : decode cX0_areTogether 48 = .ok (.invokevirtual 116, 3) := by decide +kernel
theorem dX0_areTogether_51 : decode cX0_areTogether 51 = .ok (.ifCond .eq 15, 3) := by decide +kernel
theorem dX0_areTogether_54 : decode cX0_areTogether 54 = .ok (.aload_n 0, 1) := by decide +kernel
theorem dX0_areTogether_55 : decode cX0_areTogether 55 = .ok (.iload_n 2, 1) := by decide +kernel
theorem dX0_areTogether_56 : decode cX0_areTogether 56 = .ok (.invokevirtual 116, 3) := by decide +kernel
theorem dX0_areTogether_59 : decode cX0_areTogether 59 = .ok (.ifCond .eq 7, 3) := by decide +kernel
theorem dX0_areTogether_62 : decode cX0_areTogether 62 = .ok (.iconst 1, 1) := by decide +kernel
theorem dX0_areTogether_63 : decode cX0_areTogether 63 = .ok (.goto 4, 3) := by decide +kernel
theorem dX0_areTogether_66 : decode cX0_areTogether 66 = .ok (.iconst 0, 1) := by decide +kernel
theorem dX0_areTogether_67 : decode cX0_areTogether 67 = .ok (.ireturn, 1) := by decide +kernel
set_option maxRecDepth 20000 in
theorem ggX0_opensGroup_X0_areTogether : GoodIn wsX0_opensGroup wsX0_areTogether := goodIn_r _ [5, 6, 7, 8, 9, 10, 4, 11, 12, 13, 14, 15, 16, 17, 18, 19, 20, 21, 22, 23, 24, 25] (by decide +kernel) (by decide +kernel)
set_option maxRecDepth 20000 in
theorem gX0_opensGroup_X0_areTogether : GoodIn wsX0_opensGroup (wsV RX0 119 RX0 yX0_areTogether wsX0_areTogether) := goodIn_app (goodIn_of _ (by decide +kernel)) ggX0_opensGroup_X0_areTogether
set_option maxRecDepth 20000 in
theorem ggX0_opensGroup_X0_isGrouped : GoodIn wsX0_opensGroup wsX0_isGrouped := goodIn_r _ [11, 12, 13, 14, 15, 16, 17, 18, 19, 20, 21, 22, 23, 24, 25] (by decide +kernel) (by decide +kernel)
set_option maxRecDepth 20000 in
theorem gX0_opensGroup_X0_isGrouped : GoodIn wsX0_opensGroup (wsV RX0 116 RX0 yX0_isGrouped wsX0_isGrouped) := goodIn_app (goodIn_of _ (by decide +kernel)) ggX0_opensGroup_X0_isGrouped
theorem dX0_opensGroup_0 : decode cX0_opensGroup 0 = .ok (.iconst 0, 1) := by decide +kernel
theorem dX0_opensGroup_1 : decode cX0_opensGroup 1 = .ok (.istore_n 2, 1) := by decide +kernel
theorem dX0_opensGroup_2 : decode cX0_opensGroup 2 = .ok (.iload_n 2, 1) := by decide +kernel
theorem dX0_opensGroup_3 : decode cX0_opensGroup 3 = .ok (.iload_n 1, 1) := by decide +kernel
theorem dX0_opensGroup_4 : decode cX0_opensGroup 4 = .ok (.if_icmp .ge 20, 3) := by decide +kernel
theorem dX0_opensGroup_7 : decode cX0_opensGroup 7 = .ok (.aload_n 0, 1) := by decide +kernel
theorem dX0_opensGroup_8 : decode cX0_opensGroup 8 = .ok (.iload_n 1, 1) := by decide +kernel
theorem dX0_opensGroup_9 : decode cX0_opensGroup 9 = .ok (.iload_n 2, 1) := by decide +kernel
theorem dX0_opensGroup_10 : decode cX0_opensGroup 10 = .ok (.invokevirtual 119, 3) := by decide +kernel
theorem dX0_opensGroup_13 : decode cX0_opensGroup 13 = .ok (.ifCond .eq 5, 3) := by decide +kernel
theorem dX0_opensGroup_16 : decode cX0_opensGroup 16 = .ok (.iconst 0, 1) := by decide +kernel
theorem dX0_opensGroup_17 : decode cX0_opensGroup 17 = .ok (.ireturn, 1) := by decide +kernel
theorem dX0_opensGroup_18 : decode cX0_opensGroup 18 = .ok (.iinc 2 1, 3) := by decide +kernel
theorem dX0_opensGroup_21 : decode cX0_opensGroup 21 = .ok (.goto (-19), 3) := by decide +kernel
theorem dX0_opensGroup_24 : decode cX0_opensGroup 24 = .ok (.aload_n 0, 1) := by decide +kernel
theorem dX0_opensGroup_25 : decode cX0_opensGroup 25 = .ok (.iload_n 1, 1) := by decide +kernel
theorem dX0_opensGroup_26 : decode cX0_opensGroup 26 = .ok (.invokevirtual 116, 3) := by decide +kernel
theorem dX0_opensGroup_29 : decode cX0_opensGroup 29 = .ok (.ireturn, 1) := by decide +kernel
set_option maxRecDepth 20000 in
theorem ggX0_groupSize_X0_areTogether : GoodIn wsX0_groupSize wsX0_areTogether := goodIn_r _ [5, 6, 7, 8, 9, 10, 4, 11, 12, 13, 14, 15, 16, 17, 18, 19, 20, 21, 22, 23, 24, 25] (by decide +kernel) (by decide +kernel)
set_option maxRecDepth 20000 in
theorem gX0_groupSize_X0_areTogether : GoodIn wsX0_groupSize (wsV RX0 119 RX0 yX0_areTogether wsX0_areTogether) := goodIn_app (goodIn_of _ (by decide +kernel)) ggX0_groupSize_X0_areTogether
theorem dX0_groupSize_0 : decode cX0_groupSize 0 = .ok (.iconst 0, 1) := by decide +kernel
theorem dX0_groupSize_1 : decode cX0_groupSize 1 = .ok (.istore_n 2, 1) := by decide +kernel
theorem dX0_groupSize_2 : decode cX0_groupSize 2 = .ok (.iconst 0, 1) := by decide +kernel
theorem dX0_groupSize_3 : decode cX0_groupSize 3 = .ok (.istore_n 3, 1) := by decide +kernel
theorem dX0_groupSize_4 : decode cX0_groupSize 4 = .ok (.iload_n 3, 1) := by decide +kernel
theorem dX0_groupSize_5 : decode cX0_groupSize 5 = .ok (.bipush 12, 2) := by decide +kernel
theorem dX0_groupSize_7 : decode cX0_groupSize 7 = .ok (.if_icmp .ge 21, 3) := by decide +kernel
theorem dX0_groupSize_10 : decode cX0_groupSize 10 = .ok (.aload_n 0, 1) := by decide +kernel
theorem dX0_groupSize_11 : decode cX0_groupSize 11 = .ok (.iload_n 1, 1) := by decide +kernel
theorem dX0_groupSize_12 : decode cX0_groupSize 12 = .ok (.iload_n 3, 1) := by decide +kernel
theorem dX0_groupSize_13 : decode cX0_groupSize 13 = .ok (.invokevirtual 119, 3) := by decide +kernel
theorem dX0_groupSize_16 : decode cX0_groupSize 16 = .ok (.ifCond .eq 6, 3) := by decide +kernel
theorem dX0_groupSize_19 : decode cX0_groupSize 19 = .ok (.iinc 2 1, 3) := by decide +kernel
theorem dX0_groupSize_22 : decode cX0_groupSize 22 = .ok (.iinc 3 1, 3) := by decide +kernel
theorem dX0_groupSize_25 : decode cX0_groupSize 25 = .ok (.goto (-21), 3) := by decide +kernel
theorem dX0_groupSize_28 : decode cX0_groupSize 28 = .ok (.iload_n 2, 1) := by decide +kernel
theorem dX0_groupSize_29 : decode cX0_groupSize 29 = .ok (.ireturn, 1) := by decide +kernel
set_option maxRecDepth 20000 in
theorem ggX0_describe_X3_clear : GoodIn wsX0_describe wsX3_clear := goodIn_r _ [6, 7, 39, 40] (by decide +kernel) (by decide +kernel)
set_option maxRecDepth 20000 in
theorem gX0_describe_X3_clear : GoodIn wsX0_describe (wsV RX0 123 RX3 yX3_clear wsX3_clear) := goodIn_app (goodIn_of _ (by decide +kernel)) ggX0_describe_X3_clear
set_option maxRecDepth 20000 in
theorem ggX0_describe_X0_describeGrip : GoodIn wsX0_describe wsX0_describeGrip := goodIn_r _ [12, 13, 1, 14, 15, 16, 17, 18, 5, 19, 7, 20, 21, 22, 23, 24, 25, 39, 40, 26, 27, 28, 29, 30, 31, 32, 33, 34, 35, 36, 37, 38] (by decide +kernel) (by decide +kernel)
set_option maxRecDepth 20000 in
theorem gX0_describe_X0_describeGrip : GoodIn wsX0_describe (wsV RX0 126 RX0 yX0_describeGrip wsX0_describeGrip) := goodIn_app (goodIn_of _ (by decide +kernel)) ggX0_describe_X0_describeGrip
theorem dX0_describe_0 : decode cX0_describe 0 = .ok (.aload_n 1, 1) := by decide +kernel
theorem dX0_describe_1 : decode cX0_describe 1 = .ok (.invokevirtual 123, 3) := by decide +kernel
theorem dX0_describe_4 : decode cX0_describe 4 = .ok (.iconst 0, 1) := by decide +kernel
theorem dX0_describe_5 : decode cX0_describe 5 = .ok (.istore_n 2, 1) := by decide +kernel
theorem dX0_describe_6 : decode cX0_describe 6 = .ok (.iload_n 2, 1) := by decide +kernel
theorem dX0_describe_7 : decode cX0_describe 7 = .ok (.bipush 12, 2) := by decide +kernel
theorem dX0_describe_9 : decode cX0_describe 9 = .ok (.if_icmp .ge 25, 3) := by decide +kernel
theorem dX0_describe_12 : decode cX0_describe 12 = .ok (.aload_n 0, 1) := by decide +kernel
theorem dX0_describe_13 : decode cX0_describe 13 = .ok (.getfield 27, 3) := by decide +kernel
theorem dX0_describe_16 : decode cX0_describe 16 = .ok (.iload_n 2, 1) := by decide +kernel
theorem dX0_describe_17 : decode cX0_describe 17 = .ok (.iaload, 1) := by decide +kernel
theorem dX0_describe_18 : decode cX0_describe 18 = .ok (.iconst (-1), 1) := by decide +kernel
theorem dX0_describe_19 : decode cX0_describe 19 = .ok (.if_icmp .eq 9, 3) := by decide +kernel
theorem dX0_describe_22 : decode cX0_describe 22 = .ok (.aload_n 0, 1) := by decide +kernel
theorem dX0_describe_23 : decode cX0_describe 23 = .ok (.iload_n 2, 1) := by decide +kernel
theorem dX0_describe_24 : decode cX0_describe 24 = .ok (.aload_n 1, 1) := by decide +kernel
theorem dX0_describe_25 : decode cX0_describe 25 = .ok (.invokevirtual 126, 3) := by decide +kernel
theorem dX0_describe_28 : decode cX0_describe 28 = .ok (.iinc 2 1, 3) := by decide +kernel
theorem dX0_describe_31 : decode cX0_describe 31 = .ok (.goto (-25), 3) := by decide +kernel
theorem dX0_describe_34 : decode cX0_describe 34 = .ok (.return_, 1) := by decide +kernel
set_option maxRecDepth 20000 in
theorem ggX0_describeGrip_X3_put : GoodIn wsX0_describeGrip wsX3_put := goodIn_r _ [9, 10, 11, 17, 18] (by decide +kernel) (by decide +kernel)
set_option maxRecDepth 20000 in
theorem gX0_describeGrip_X3_put : GoodIn wsX0_describeGrip (wsV RX0 133 RX3 yX3_put wsX3_put) := goodIn_app (goodIn_of _ (by decide +kernel)) ggX0_describeGrip_X3_put
set_option maxRecDepth 20000 in
theorem ggX0_describeGrip_X3_putNumber : GoodIn wsX0_describeGrip wsX3_putNumber := goodIn_r _ [15, 16, 6, 7, 8, 9, 10, 11, 17, 18] (by decide +kernel) (by decide +kernel)
set_option maxRecDepth 20000 in
theorem gX0_describeGrip_X3_putNumber : GoodIn wsX0_describeGrip (wsV RX0 137 RX3 yX3_putNumber wsX3_putNumber) := goodIn_app (goodIn_of _ (by decide +kernel)) ggX0_describeGrip_X3_putNumber
theorem dX0_describeGrip_0 : decode cX0_describeGrip 0 = .ok (.aload_n 2, 1) := by decide +kernel
theorem dX0_describeGrip_1 : decode cX0_describeGrip 1 = .ok (.getfield 130, 3) := by decide +kernel
theorem dX0_describeGrip_4 : decode cX0_describeGrip 4 = .ok (.ifCond .le 9, 3) := by decide +kernel
theorem dX0_describeGrip_7 : decode cX0_describeGrip 7 = .ok (.aload_n 2, 1) := by decide +kernel
theorem dX0_describeGrip_8 : decode cX0_describeGrip 8 = .ok (.bipush 32, 2) := by decide +kernel
theorem dX0_describeGrip_10 : decode cX0_describeGrip 10 = .ok (.invokevirtual 133, 3) := by decide +kernel
theorem dX0_describeGrip_13 : decode cX0_describeGrip 13 = .ok (.aload_n 2, 1) := by decide +kernel
theorem dX0_describeGrip_14 : decode cX0_describeGrip 14 = .ok (.bipush 97, 2) := by decide +kernel
theorem dX0_describeGrip_16 : decode cX0_describeGrip 16 = .ok (.iload_n 1, 1) := by decide +kernel
theorem dX0_describeGrip_17 : decode cX0_describeGrip 17 = .ok (.iadd, 1) := by decide +kernel
theorem dX0_describeGrip_18 : decode cX0_describeGrip 18 = .ok (.i2c, 1) := by decide +kernel
theorem dX0_describeGrip_19 : decode cX0_describeGrip 19 = .ok (.invokevirtual 133, 3) := by decide +kernel
theorem dX0_describeGrip_22 : decode cX0_describeGrip 22 = .ok (.aload_n 0, 1) := by decide +kernel
theorem dX0_describeGrip_23 : decode cX0_describeGrip 23 = .ok (.getfield 27, 3) := by decide +kernel
theorem dX0_describeGrip_26 : decode cX0_describeGrip 26 = .ok (.iload_n 1, 1) := by decide +kernel
theorem dX0_describeGrip_27 : decode cX0_describeGrip 27 = .ok (.iaload, 1) := by decide +kernel
theorem dX0_describeGrip_28 : decode cX0_describeGrip 28 = .ok (.tableswitch 75 0 2 #[28, 47, 56], 28) := by decide +kernel
theorem dX0_describeGrip_56 : decode cX0_describeGrip 56 = .ok (.aload_n 2, 1) := by decide +kernel
theorem dX0_describeGrip_57 : decode cX0_describeGrip 57 = .ok (.bipush 64, 2) := by decide +kernel
theorem dX0_describeGrip_59 : decode cX0_describeGrip 59 = .ok (.invokevirtual 133, 3) := by decide +kernel
theorem dX0_describeGrip_62 : decode cX0_describeGrip 62 = .ok (.aload_n 2, 1) := by decide +kernel
theorem dX0_describeGrip_63 : decode cX0_describeGrip 63 = .ok (.aload_n 0, 1) := by decide +kernel
theorem dX0_describeGrip_64 : decode cX0_describeGrip 64 = .ok (.getfield 30, 3) := by decide +kernel
theorem dX0_describeGrip_67 : decode cX0_describeGrip 67 = .ok (.iload_n 1, 1) := by decide +kernel
theorem dX0_describeGrip_68 : decode cX0_describeGrip 68 = .ok (.iaload, 1) := by decide +kernel
theorem dX0_describeGrip_69 : decode cX0_describeGrip 69 = .ok (.invokevirtual 137, 3) := by decide +kernel
theorem dX0_describeGrip_72 : decode cX0_describeGrip 72 = .ok (.goto 37, 3) := by decide +kernel
theorem dX0_describeGrip_75 : decode cX0_describeGrip 75 = .ok (.aload_n 2, 1) := by decide +kernel
theorem dX0_describeGrip_76 : decode cX0_describeGrip 76 = .ok (.bipush 103, 2) := by decide +kernel
theorem dX0_describeGrip_78 : decode cX0_describeGrip 78 = .ok (.invokevirtual 133, 3) := by decide +kernel
theorem dX0_describeGrip_81 : decode cX0_describeGrip 81 = .ok (.goto 28, 3) := by decide +kernel
theorem dX0_describeGrip_84 : decode cX0_describeGrip 84 = .ok (.aload_n 2, 1) := by decide +kernel
theorem dX0_describeGrip_85 : decode cX0_describeGrip 85 = .ok (.bipush 119, 2) := by decide +kernel
theorem dX0_describeGrip_87 : decode cX0_describeGrip 87 = .ok (.invokevirtual 133, 3) := by decide +kernel
theorem dX0_describeGrip_90 : decode cX0_describeGrip 90 = .ok (.aload_n 2, 1) := by decide +kernel
theorem dX0_describeGrip_91 : decode cX0_describeGrip 91 = .ok (.aload_n 0, 1) := by decide +kernel
theorem dX0_describeGrip_92 : decode cX0_describeGrip 92 = .ok (.getfield 33, 3) := by decide +kernel
theorem dX0_describeGrip_95 : decode cX0_describeGrip 95 = .ok (.iload_n 1, 1) := by decide +kernel
theorem dX0_describeGrip_96 : decode cX0_describeGrip 96 = .ok (.iaload, 1) := by decide +kernel
theorem dX0_describeGrip_97 : decode cX0_describeGrip 97 = .ok (.invokevirtual 137, 3) := by decide +kernel
theorem dX0_describeGrip_100 : decode cX0_describeGrip 100 = .ok (.goto 9, 3) := by decide +kernel
theorem dX0_describeGrip_103 : decode cX0_describeGrip 103 = .ok (.aload_n 2, 1) := by decide +kernel
theorem dX0_describeGrip_104 : decode cX0_describeGrip 104 = .ok (.bipush 120, 2) := by decide +kernel
theorem dX0_describeGrip_106 : decode cX0_describeGrip 106 = .ok (.invokevirtual 133, 3) := by decide +kernel
theorem dX0_describeGrip_109 : decode cX0_describeGrip 109 = .ok (.return_, 1) := by decide +kernel
end
section
set_option maxRecDepth 20000 in
theorem ggX1_init_X3_init : GoodIn wsX1_init wsX3_init := goodIn_r _ [13, 14, 2, 3, 15, 16, 17, 40, 41] (by decide +kernel) (by decide +kernel)
set_option maxRecDepth 20000 in
theorem gX1_init_X3_init_n11 : GoodIn wsX1_init (wsX3_init) := ggX1_init_X3_init
set_option maxRecDepth 20000 in
theorem ggX1_init_X0_init : GoodIn wsX1_init wsX0_init := goodIn_r _ [20, 21, 2, 3, 22, 23, 24, 25, 26, 27, 28, 29, 30, 31, 32, 33, 34, 35, 10, 36, 37, 38, 39, 45, 46, 47, 48, 49, 50, 51, 52, 53, 54, 55, 56, 57] (by decide +kernel) (by decide +kernel)
set_option maxRecDepth 20000 in
theorem gX1_init_X0_init : GoodIn wsX1_init (wsX0_init) := ggX1_init_X0_init
theorem dX1_init_0 : decode cX1_init 0 = .ok (.aload_n 0, 1) := by decide +kernel
theorem dX1_init_1 : decode cX1_init 1 = .ok (.invokespecial 3, 3) := by decide +kernel
theorem dX1_init_4 : decode cX1_init 4 = .ok (.aload_n 0, 1) := by decide +kernel
theorem dX1_init_5 : decode cX1_init 5 = .ok (.new 9, 3) := by decide +kernel
theorem dX1_init_8 : decode cX1_init 8 = .ok (.dup, 1) := by decide +kernel
theorem dX1_init_9 : decode cX1_init 9 = .ok (.invokespecial 11, 3) := by decide +kernel
theorem dX1_init_12 : decode cX1_init 12 = .ok (.putfield 12, 3) := by decide +kernel
theorem dX1_init_15 : decode cX1_init 15 = .ok (.aload_n 0, 1) := by decide +kernel
theorem dX1_init_16 : decode cX1_init 16 = .ok (.new 18, 3) := by decide +kernel
theorem dX1_init_19 : decode cX1_init 19 = .ok (.dup, 1) := by decide +kernel
theorem dX1_init_20 : decode cX1_init 20 = .ok (.invokespecial 20, 3) := by decide +kernel
theorem dX1_init_23 : decode cX1_init 23 = .ok (.putfield 21, 3) := by decide +kernel
theorem dX1_init_26 : decode cX1_init 26 = .ok (.return_, 1) := by decide +kernel
set_option maxRecDepth 20000 in
theorem ggX1_findError_X0_clear : GoodIn wsX1_findError wsX0_clear := goodIn_r _ [9, 10, 11, 12, 13, 81, 82, 83, 84, 85, 86, 87, 88, 89, 90, 91, 92, 93] (by decide +kernel) (by decide +kernel)
set_option maxRecDepth 20000 in
theorem gX1_findError_X0_clear : GoodIn wsX1_findError (wsV RX1 29 RX0 yX0_clear wsX0_clear) := goodIn_app (goodIn_of _ (by decide +kernel)) ggX1_findError_X0_clear
set_option maxRecDepth 20000 in
theorem ggX1_findError_X1_readHead : GoodIn wsX1_findError wsX1_readHead := goodIn_r _ [18, 3, 1, 2, 19, 20, 21, 22, 23, 24, 25, 26, 27, 28, 29, 30, 17, 31, 32, 33, 34, 35, 36, 37, 38, 39, 40, 41, 42, 8, 43, 10, 44, 45, 46, 47, 48, 76, 77, 78, 81, 82, 83, 84, 85, 86, 87, 88, 89, 90, 91, 92, 93, 79, 80] (by decide +kernel) (by decide +kernel)
set_option maxRecDepth 20000 in
theorem gX1_findError_X1_readHead : GoodIn wsX1_findError (wsV RX1 32 RX1 yX1_readHead wsX1_readHead) := goodIn_app (goodIn_of _ (by decide +kernel)) ggX1_findError_X1_readHead
set_option maxRecDepth 20000 in
theorem ggX1_findError_X1_readItem : GoodIn wsX1_findError wsX1_readItem := goodIn_r _ [52, 3, 1, 2, 19, 21, 22, 23, 24, 25, 26, 27, 53, 54, 55, 8, 56, 57, 58, 59, 60, 10, 61, 45, 46, 47, 17, 48, 28, 29, 30, 31, 32, 33, 34, 35, 36, 37, 38, 39, 40, 41, 42, 43, 44, 62, 63, 64, 65, 66, 67, 68, 69, 70, 71, 72, 73, 74, 75, 76, 77, 78, 81, 82, 83, 84, 85, 86, 87, 88, 89, 90, 91, 92, 93, 79, 80] (by decide +kernel) (by decide +kernel)
set_option maxRecDepth 20000 in
theorem gX1_findError_X1_readItem : GoodIn wsX1_findError (wsV RX1 39 RX1 yX1_readItem wsX1_readItem) := goodIn_app (goodIn_of _ (by decide +kernel)) ggX1_findError_X1_readItem
theorem dX1_findError_0 : decode cX1_findError 0 = .ok (.aload_n 0, 1) := by decide +kernel
theorem dX1_findError_1 : decode cX1_findError 1 = .ok (.iconst 0, 1) := by decide +kernel
theorem dX1_findError_2 : decode cX1_findError 2 = .ok (.putfield 25, 3) := by decide +kernel
theorem dX1_findError_5 : decode cX1_findError 5 = .ok (.aload_n 0, 1) := by decide +kernel
theorem dX1_findError_6 : decode cX1_findError 6 = .ok (.getfield 21, 3) := by decide +kernel
theorem dX1_findError_9 : decode cX1_findError 9 = .ok (.invokevirtual 29, 3) := by decide +kernel
theorem dX1_findError_12 : decode cX1_findError 12 = .ok (.aload_n 0, 1) := by decide +kernel
theorem dX1_findError_13 : decode cX1_findError 13 = .ok (.invokevirtual 32, 3) := by decide +kernel
theorem dX1_findError_16 : decode cX1_findError 16 = .ok (.istore_n 1, 1) := by decide +kernel
theorem dX1_findError_17 : decode cX1_findError 17 = .ok (.iconst 0, 1) := by decide +kernel
theorem dX1_findError_18 : decode cX1_findError 18 = .ok (.istore_n 2, 1) := by decide +kernel
theorem dX1_findError_19 : decode cX1_findError 19 = .ok (.iload_n 1, 1) := by decide +kernel
theorem dX1_findError_20 : decode cX1_findError 20 = .ok (.ifCond .eq 34, 3) := by decide +kernel
theorem dX1_findError_23 : decode cX1_findError 23 = .ok (.aload_n 0, 1) := by decide +kernel
theorem dX1_findError_24 : decode cX1_findError 24 = .ok (.getfield 25, 3) := by decide +kernel
theorem dX1_findError_27 : decode cX1_findError 27 = .ok (.aload_n 0, 1) := by decide +kernel
theorem dX1_findError_28 : decode cX1_findError 28 = .ok (.getfield 12, 3) := by decide +kernel
theorem dX1_findError_31 : decode cX1_findError 31 = .ok (.getfield 36, 3) := by decide +kernel
theorem dX1_findError_34 : decode cX1_findError 34 = .ok (.if_icmp .ge 20, 3) := by decide +kernel
theorem dX1_findError_37 : decode cX1_findError 37 = .ok (.iload_n 2, 1) := by decide +kernel
theorem dX1_findError_38 : decode cX1_findError 38 = .ok (.bipush 12, 2) := by decide +kernel
theorem dX1_findError_40 : decode cX1_findError 40 = .ok (.if_icmp .gt 14, 3) := by decide +kernel
theorem dX1_findError_43 : decode cX1_findError 43 = .ok (.aload_n 0, 1) := by decide +kernel
theorem dX1_findError_44 : decode cX1_findError 44 = .ok (.invokevirtual 39, 3) := by decide +kernel
theorem dX1_findError_47 : decode cX1_findError 47 = .ok (.istore_n 1, 1) := by decide +kernel
theorem dX1_findError_48 : decode cX1_findError 48 = .ok (.iinc 2 1, 3) := by decide +kernel
theorem dX1_findError_51 : decode cX1_findError 51 = .ok (.goto (-32), 3) := by decide +kernel
theorem dX1_findError_54 : decode cX1_findError 54 = .ok (.iload_n 1, 1) := by decide +kernel
theorem dX1_findError_55 : decode cX1_findError 55 = .ok (.ifCond .eq 8, 3) := by decide +kernel
theorem dX1_findError_58 : decode cX1_findError 58 = .ok (.bipush (-9), 2) := by decide +kernel
theorem dX1_findError_60 : decode cX1_findError 60 = .ok (.goto 7, 3) := by decide +kernel
theorem dX1_findError_63 : decode cX1_findError 63 = .ok (.aload_n 0, 1) := by decide +kernel
theorem dX1_findError_64 : decode cX1_findError 64 = .ok (.getfield 25, 3) := by decide +kernel
theorem dX1_findError_67 : decode cX1_findError 67 = .ok (.ireturn, 1) := by decide +kernel
set_option maxRecDepth 20000 in
theorem ggX1_readHead_X3_at : GoodIn wsX1_readHead wsX3_at := goodIn_r _ [10, 11, 12, 53, 54] (by decide +kernel) (by decide +kernel)
set_option maxRecDepth 20000 in
theorem gX1_readHead_X3_at : GoodIn wsX1_readHead (wsV RX1 42 RX3 yX3_at wsX3_at) := goodIn_app (goodIn_of _ (by decide +kernel)) ggX1_readHead_X3_at
set_option maxRecDepth 20000 in
theorem ggX1_readHead_X1_readPair : GoodIn wsX1_readHead wsX1_readPair := goodIn_r _ [17, 1, 2, 6, 7, 8, 9, 10, 11, 12, 18, 19, 20, 16, 21, 22, 23, 24, 25, 3, 26, 27, 28, 29, 30, 31, 32, 37, 38, 39, 53, 54, 40, 41, 42, 43, 44, 45, 46, 47, 48, 49, 50, 51, 52] (by decide +kernel) (by decide +kernel)
set_option maxRecDepth 20000 in
theorem gX1_readHead_X1_readPair : GoodIn wsX1_readHead (wsV RX1 45 RX1 yX1_readPair wsX1_readPair) := goodIn_app (goodIn_of _ (by decide +kernel)) ggX1_readHead_X1_readPair
set_option maxRecDepth 20000 in
theorem ggX1_readHead_X1_readDigit : GoodIn wsX1_readHead wsX1_readDigit := goodIn_r _ [36, 1, 2, 6, 7, 8, 9, 10, 11, 12, 37, 38, 39, 53, 54] (by decide +kernel) (by decide +kernel)
set_option maxRecDepth 20000 in
theorem gX1_readHead_X1_readDigit : GoodIn wsX1_readHead (wsV RX1 56 RX1 yX1_readDigit wsX1_readDigit) := goodIn_app (goodIn_of _ (by decide +kernel)) ggX1_readHead_X1_readDigit
theorem dX1_readHead_0 : decode cX1_readHead 0 = .ok (.aload_n 0, 1) := by decide +kernel
theorem dX1_readHead_1 : decode cX1_readHead 1 = .ok (.getfield 12, 3) := by decide +kernel
theorem dX1_readHead_4 : decode cX1_readHead 4 = .ok (.aload_n 0, 1) := by decide +kernel
theorem dX1_readHead_5 : decode cX1_readHead 5 = .ok (.getfield 25, 3) := by decide +kernel
theorem dX1_readHead_8 : decode cX1_readHead 8 = .ok (.invokevirtual 42, 3) := by decide +kernel
theorem dX1_readHead_11 : decode cX1_readHead 11 = .ok (.bipush 76, 2) := by decide +kernel
theorem dX1_readHead_13 : decode cX1_readHead 13 = .ok (.if_icmp .eq 5, 3) := by decide +kernel
theorem dX1_readHead_16 : decode cX1_readHead 16 = .ok (.iconst 0, 1) := by decide +kernel
theorem dX1_readHead_17 : decode cX1_readHead 17 = .ok (.ireturn, 1) := by decide +kernel
theorem dX1_readHead_18 : decode cX1_readHead 18 = .ok (.aload_n 0, 1) := by decide +kernel
theorem dX1_readHead_19 : decode cX1_readHead 19 = .ok (.dup, 1) := by decide +kernel
theorem dX1_readHead_20 : decode cX1_readHead 20 = .ok (.getfield 25, 3) := by decide +kernel
theorem dX1_readHead_23 : decode cX1_readHead 23 = .ok (.iconst 1, 1) := by decide +kernel
theorem dX1_readHead_24 : decode cX1_readHead 24 = .ok (.iadd, 1) := by decide +kernel
theorem dX1_readHead_25 : decode cX1_readHead 25 = .ok (.putfield 25, 3) := by decide +kernel
theorem dX1_readHead_28 : decode cX1_readHead 28 = .ok (.aload_n 0, 1) := by decide +kernel
theorem dX1_readHead_29 : decode cX1_readHead 29 = .ok (.iconst 4, 1) := by decide +kernel
theorem dX1_readHead_30 : decode cX1_readHead 30 = .ok (.bipush 20, 2) := by decide +kernel
theorem dX1_readHead_32 : decode cX1_readHead 32 = .ok (.iconst 0, 1) := by decide +kernel
theorem dX1_readHead_33 : decode cX1_readHead 33 = .ok (.invokevirtual 45, 3) := by decide +kernel
theorem dX1_readHead_36 : decode cX1_readHead 36 = .ok (.istore_n 1, 1) := by decide +kernel
theorem dX1_readHead_37 : decode cX1_readHead 37 = .ok (.iload_n 1, 1) := by decide +kernel
theorem dX1_readHead_38 : decode cX1_readHead 38 = .ok (.iconst (-1), 1) := by decide +kernel
theorem dX1_readHead_39 : decode cX1_readHead 39 = .ok (.if_icmp .ne 5, 3) := by decide +kernel
theorem dX1_readHead_42 : decode cX1_readHead 42 = .ok (.iconst 0, 1) := by decide +kernel
theorem dX1_readHead_43 : decode cX1_readHead 43 = .ok (.ireturn, 1) := by decide +kernel
theorem dX1_readHead_44 : decode cX1_readHead 44 = .ok (.aload_n 0, 1) := by decide +kernel
theorem dX1_readHead_45 : decode cX1_readHead 45 = .ok (.getfield 21, 3) := by decide +kernel
theorem dX1_readHead_48 : decode cX1_readHead 48 = .ok (.iload_n 1, 1) := by decide +kernel
theorem dX1_readHead_49 : decode cX1_readHead 49 = .ok (.putfield 49, 3) := by decide +kernel
theorem dX1_readHead_52 : decode cX1_readHead 52 = .ok (.iconst 0, 1) := by decide +kernel
theorem dX1_readHead_53 : decode cX1_readHead 53 = .ok (.istore_n 2, 1) := by decide +kernel
theorem dX1_readHead_54 : decode cX1_readHead 54 = .ok (.iload_n 2, 1) := by decide +kernel
theorem dX1_readHead_55 : decode cX1_readHead 55 = .ok (.iconst 5, 1) := by decide +kernel
theorem dX1_readHead_56 : decode cX1_readHead 56 = .ok (.if_icmp .ge 58, 3) := by decide +kernel
theorem dX1_readHead_59 : decode cX1_readHead 59 = .ok (.getstatic 52, 3) := by decide +kernel
theorem dX1_readHead_62 : decode cX1_readHead 62 = .ok (.iload_n 2, 1) := by decide +kernel
theorem dX1_readHead_63 : decode cX1_readHead 63 = .ok (.iaload, 1) := by decide +kernel
theorem dX1_readHead_64 : decode cX1_readHead 64 = .ok (.istore_n 3, 1) := by decide +kernel
theorem dX1_readHead_65 : decode cX1_readHead 65 = .ok (.iload_n 3, 1) := by decide +kernel
theorem dX1_readHead_66 : decode cX1_readHead 66 = .ok (.bipush 9, 2) := by decide +kernel
theorem dX1_readHead_68 : decode cX1_readHead 68 = .ok (.if_icmp .le 13, 3) := by decide +kernel
theorem dX1_readHead_71 : decode cX1_readHead 71 = .ok (.aload_n 0, 1) := by decide +kernel
theorem dX1_readHead_72 : decode cX1_readHead 72 = .ok (.iconst 1, 1) := by decide +kernel
theorem dX1_readHead_73 : decode cX1_readHead 73 = .ok (.iload_n 3, 1) := by decide +kernel
theorem dX1_readHead_74 : decode cX1_readHead 74 = .ok (.iconst 0, 1) := by decide +kernel
theorem dX1_readHead_75 : decode cX1_readHead 75 = .ok (.invokevirtual 45, 3) := by decide +kernel
theorem dX1_readHead_78 : decode cX1_readHead 78 = .ok (.goto 9, 3) := by decide +kernel
theorem dX1_readHead_81 : decode cX1_readHead 81 = .ok (.aload_n 0, 1) := by decide +kernel
theorem dX1_readHead_82 : decode cX1_readHead 82 = .ok (.iconst 1, 1) := by decide +kernel
theorem dX1_readHead_83 : decode cX1_readHead 83 = .ok (.iload_n 3, 1) := by decide +kernel
theorem dX1_readHead_84 : decode cX1_readHead 84 = .ok (.invokevirtual 56, 3) := by decide +kernel
theorem dX1_readHead_87 : decode cX1_readHead 87 = .ok (.istore 4, 2) := by decide +kernel
theorem dX1_readHead_89 : decode cX1_readHead 89 = .ok (.iload 4, 2) := by decide +kernel
theorem dX1_readHead_91 : decode cX1_readHead 91 = .ok (.iconst (-1), 1) := by decide +kernel
theorem dX1_readHead_92 : decode cX1_readHead 92 = .ok (.if_icmp .ne 5, 3) := by decide +kernel
theorem dX1_readHead_95 : decode cX1_readHead 95 = .ok (.iconst 0, 1) := by decide +kernel
theorem dX1_readHead_96 : decode cX1_readHead 96 = .ok (.ireturn, 1) := by decide +kernel
theorem dX1_readHead_97 : decode cX1_readHead 97 = .ok (.aload_n 0, 1) := by decide +kernel
theorem dX1_readHead_98 : decode cX1_readHead 98 = .ok (.getfield 21, 3) := by decide +kernel
theorem dX1_readHead_101 : decode cX1_readHead 101 = .ok (.getfield 60, 3) := by decide +kernel
theorem dX1_readHead_104 : decode cX1_readHead 104 = .ok (.iload_n 2, 1) := by decide +kernel
theorem dX1_readHead_105 : decode cX1_readHead 105 = .ok (.iload 4, 2) := by decide +kernel
theorem dX1_readHead_107 : decode cX1_readHead 107 = .ok (.iastore, 1) := by decide +kernel
theorem dX1_readHead_108 : decode cX1_readHead 108 = .ok (.iinc 2 1, 3) := by decide +kernel
theorem dX1_readHead_111 : decode cX1_readHead 111 = .ok (.goto (-57), 3) := by decide +kernel
theorem dX1_readHead_114 : decode cX1_readHead 114 = .ok (.iconst 1, 1) := by decide +kernel
theorem dX1_readHead_115 : decode cX1_readHead 115 = .ok (.ireturn, 1) := by decide +kernel
set_option maxRecDepth 20000 in
theorem ggX1_readItem_X3_at : GoodIn wsX1_readItem wsX3_at := goodIn_r _ [9, 10, 11, 75, 76] (by decide +kernel) (by decide +kernel)
set_option maxRecDepth 20000 in
theorem gX1_readItem_X3_at : GoodIn wsX1_readItem (wsV RX1 42 RX3 yX3_at wsX3_at) := goodIn_app (goodIn_of _ (by decide +kernel)) ggX1_readItem_X3_at
set_option maxRecDepth 20000 in
theorem ggX1_readItem_X0_grips : GoodIn wsX1_readItem wsX0_grips := goodIn_r _ [16, 17, 18, 19, 15, 20, 21, 62, 63, 64, 65, 66, 67, 68, 69, 70, 71, 72, 73, 74] (by decide +kernel) (by decide +kernel)
set_option maxRecDepth 20000 in
theorem gX1_readItem_X0_grips : GoodIn wsX1_readItem (wsV RX1 63 RX0 yX0_grips wsX0_grips) := goodIn_app (goodIn_of _ (by decide +kernel)) ggX1_readItem_X0_grips
set_option maxRecDepth 20000 in
theorem ggX1_readItem_X0_count : GoodIn wsX1_readItem wsX0_count := goodIn_r _ [20, 21, 62, 63, 64, 65, 66, 67, 68, 69, 70, 71, 72, 73, 74] (by decide +kernel) (by decide +kernel)
set_option maxRecDepth 20000 in
theorem gX1_readItem_X0_count : GoodIn wsX1_readItem (wsV RX1 67 RX0 yX0_count wsX0_count) := goodIn_app (goodIn_of _ (by decide +kernel)) ggX1_readItem_X0_count
set_option maxRecDepth 20000 in
theorem ggX1_readItem_X1_readDigit : GoodIn wsX1_readItem wsX1_readDigit := goodIn_r _ [27, 1, 2, 5, 6, 7, 8, 9, 10, 11, 59, 60, 61, 75, 76] (by decide +kernel) (by decide +kernel)
set_option maxRecDepth 20000 in
theorem gX1_readItem_X1_readDigit : GoodIn wsX1_readItem (wsV RX1 56 RX1 yX1_readDigit wsX1_readDigit) := goodIn_app (goodIn_of _ (by decide +kernel)) ggX1_readItem_X1_readDigit
set_option maxRecDepth 20000 in
theorem ggX1_readItem_X1_readPair : GoodIn wsX1_readItem wsX1_readPair := goodIn_r _ [31, 1, 2, 5, 6, 7, 8, 9, 10, 11, 32, 33, 34, 26, 35, 36, 37, 38, 39, 3, 40, 41, 42, 15, 43, 21, 44, 59, 60, 61, 75, 76, 62, 63, 64, 65, 66, 67, 68, 69, 70, 71, 72, 73, 74] (by decide +kernel) (by decide +kernel)
set_option maxRecDepth 20000 in
theorem gX1_readItem_X1_readPair : GoodIn wsX1_readItem (wsV RX1 45 RX1 yX1_readPair wsX1_readPair) := goodIn_app (goodIn_of _ (by decide +kernel)) ggX1_readItem_X1_readPair
set_option maxRecDepth 20000 in
theorem ggX1_readItem_X0_add : GoodIn wsX1_readItem wsX0_add := goodIn_r _ [48, 49, 50, 51, 52, 53, 21, 54, 13, 14, 15, 16, 17, 18, 19, 20, 62, 63, 64, 65, 66, 67, 68, 69, 70, 71, 72, 73, 74] (by decide +kernel) (by decide +kernel)
set_option maxRecDepth 20000 in
theorem gX1_readItem_X0_add : GoodIn wsX1_readItem (wsV RX1 70 RX0 yX0_add wsX0_add) := goodIn_app (goodIn_of _ (by decide +kernel)) ggX1_readItem_X0_add
set_option maxRecDepth 20000 in
theorem ggX1_readItem_X0_hang : GoodIn wsX1_readItem wsX0_hang := goodIn_r _ [58, 21, 44, 62, 63, 64, 65, 66, 67, 68, 69, 70, 71, 72, 73, 74] (by decide +kernel) (by decide +kernel)
set_option maxRecDepth 20000 in
theorem gX1_readItem_X0_hang : GoodIn wsX1_readItem (wsV RX1 74 RX0 yX0_hang wsX0_hang) := goodIn_app (goodIn_of _ (by decide +kernel)) ggX1_readItem_X0_hang
theorem dX1_readItem_0 : decode cX1_readItem 0 = .ok (.aload_n 0, 1) := by decide +kernel
theorem dX1_readItem_1 : decode cX1_readItem 1 = .ok (.getfield 12, 3) := by decide +kernel
theorem dX1_readItem_4 : decode cX1_readItem 4 = .ok (.aload_n 0, 1) := by decide +kernel
theorem dX1_readItem_5 : decode cX1_readItem 5 = .ok (.getfield 25, 3) := by decide +kernel
theorem dX1_readItem_8 : decode cX1_readItem 8 = .ok (.invokevirtual 42, 3) := by decide +kernel
theorem dX1_readItem_11 : decode cX1_readItem 11 = .ok (.istore_n 1, 1) := by decide +kernel
theorem dX1_readItem_12 : decode cX1_readItem 12 = .ok (.iload_n 1, 1) := by decide +kernel
theorem dX1_readItem_13 : decode cX1_readItem 13 = .ok (.bipush 103, 2) := by decide +kernel
theorem dX1_readItem_15 : decode cX1_readItem 15 = .ok (.if_icmp .ne 7, 3) := by decide +kernel
theorem dX1_readItem_18 : decode cX1_readItem 18 = .ok (.iconst 1, 1) := by decide +kernel
theorem dX1_readItem_19 : decode cX1_readItem 19 = .ok (.goto 4, 3) := by decide +kernel
theorem dX1_readItem_22 : decode cX1_readItem 22 = .ok (.iconst 0, 1) := by decide +kernel
theorem dX1_readItem_23 : decode cX1_readItem 23 = .ok (.istore_n 2, 1) := by decide +kernel
theorem dX1_readItem_24 : decode cX1_readItem 24 = .ok (.aload_n 0, 1) := by decide +kernel
theorem dX1_readItem_25 : decode cX1_readItem 25 = .ok (.getfield 21, 3) := by decide +kernel
theorem dX1_readItem_28 : decode cX1_readItem 28 = .ok (.invokevirtual 63, 3) := by decide +kernel
theorem dX1_readItem_31 : decode cX1_readItem 31 = .ok (.istore_n 3, 1) := by decide +kernel
theorem dX1_readItem_32 : decode cX1_readItem 32 = .ok (.iload_n 3, 1) := by decide +kernel
theorem dX1_readItem_33 : decode cX1_readItem 33 = .ok (.bipush 12, 2) := by decide +kernel
theorem dX1_readItem_35 : decode cX1_readItem 35 = .ok (.if_icmp .ge 13, 3) := by decide +kernel
theorem dX1_readItem_38 : decode cX1_readItem 38 = .ok (.iload_n 2, 1) := by decide +kernel
theorem dX1_readItem_39 : decode cX1_readItem 39 = .ok (.ifCond .ne 11, 3) := by decide +kernel
theorem dX1_readItem_42 : decode cX1_readItem 42 = .ok (.iload_n 1, 1) := by decide +kernel
theorem dX1_readItem_43 : decode cX1_readItem 43 = .ok (.bipush 104, 2) := by decide +kernel
theorem dX1_readItem_45 : decode cX1_readItem 45 = .ok (.if_icmp .eq 5, 3) := by decide +kernel
theorem dX1_readItem_48 : decode cX1_readItem 48 = .ok (.iconst 0, 1) := by decide +kernel
theorem dX1_readItem_49 : decode cX1_readItem 49 = .ok (.ireturn, 1) := by decide +kernel
theorem dX1_readItem_50 : decode cX1_readItem 50 = .ok (.iload_n 2, 1) := by decide +kernel
theorem dX1_readItem_51 : decode cX1_readItem 51 = .ok (.ifCond .eq 23, 3) := by decide +kernel
theorem dX1_readItem_54 : decode cX1_readItem 54 = .ok (.aload_n 0, 1) := by decide +kernel
theorem dX1_readItem_55 : decode cX1_readItem 55 = .ok (.getfield 21, 3) := by decide +kernel
theorem dX1_readItem_58 : decode cX1_readItem 58 = .ok (.iconst 0, 1) := by decide +kernel
theorem dX1_readItem_59 : decode cX1_readItem 59 = .ok (.invokevirtual 67, 3) := by decide +kernel
theorem dX1_readItem_62 : decode cX1_readItem 62 = .ok (.aload_n 0, 1) := by decide +kernel
theorem dX1_readItem_63 : decode cX1_readItem 63 = .ok (.getfield 21, 3) := by decide +kernel
theorem dX1_readItem_66 : decode cX1_readItem 66 = .ok (.getfield 49, 3) := by decide +kernel
theorem dX1_readItem_69 : decode cX1_readItem 69 = .ok (.if_icmp .lt 5, 3) := by decide +kernel
theorem dX1_readItem_72 : decode cX1_readItem 72 = .ok (.iconst 0, 1) := by decide +kernel
theorem dX1_readItem_73 : decode cX1_readItem 73 = .ok (.ireturn, 1) := by decide +kernel
theorem dX1_readItem_74 : decode cX1_readItem 74 = .ok (.aload_n 0, 1) := by decide +kernel
theorem dX1_readItem_75 : decode cX1_readItem 75 = .ok (.dup, 1) := by decide +kernel
theorem dX1_readItem_76 : decode cX1_readItem 76 = .ok (.getfield 25, 3) := by decide +kernel
theorem dX1_readItem_79 : decode cX1_readItem 79 = .ok (.iconst 1, 1) := by decide +kernel
theorem dX1_readItem_80 : decode cX1_readItem 80 = .ok (.iadd, 1) := by decide +kernel
theorem dX1_readItem_81 : decode cX1_readItem 81 = .ok (.putfield 25, 3) := by decide +kernel
theorem dX1_readItem_84 : decode cX1_readItem 84 = .ok (.aload_n 0, 1) := by decide +kernel
theorem dX1_readItem_85 : decode cX1_readItem 85 = .ok (.iconst 0, 1) := by decide +kernel
theorem dX1_readItem_86 : decode cX1_readItem 86 = .ok (.iconst 3, 1) := by decide +kernel
theorem dX1_readItem_87 : decode cX1_readItem 87 = .ok (.invokevirtual 56, 3) := by decide +kernel
theorem dX1_readItem_90 : decode cX1_readItem 90 = .ok (.istore 4, 2) := by decide +kernel
theorem dX1_readItem_92 : decode cX1_readItem 92 = .ok (.iload 4, 2) := by decide +kernel
theorem dX1_readItem_94 : decode cX1_readItem 94 = .ok (.iconst (-1), 1) := by decide +kernel
theorem dX1_readItem_95 : decode cX1_readItem 95 = .ok (.if_icmp .ne 5, 3) := by decide +kernel
theorem dX1_readItem_98 : decode cX1_readItem 98 = .ok (.iconst 0, 1) := by decide +kernel
theorem dX1_readItem_99 : decode cX1_readItem 99 = .ok (.ireturn, 1) := by decide +kernel
theorem dX1_readItem_100 : decode cX1_readItem 100 = .ok (.iload_n 2, 1) := by decide +kernel
theorem dX1_readItem_101 : decode cX1_readItem 101 = .ok (.ifCond .eq 21, 3) := by decide +kernel
theorem dX1_readItem_104 : decode cX1_readItem 104 = .ok (.aload_n 0, 1) := by decide +kernel
theorem dX1_readItem_105 : decode cX1_readItem 105 = .ok (.iconst 0, 1) := by decide +kernel
theorem dX1_readItem_106 : decode cX1_readItem 106 = .ok (.aload_n 0, 1) := by decide +kernel
theorem dX1_readItem_107 : decode cX1_readItem 107 = .ok (.getfield 21, 3) := by decide +kernel
theorem dX1_readItem_110 : decode cX1_readItem 110 = .ok (.getfield 49, 3) := by decide +kernel
theorem dX1_readItem_113 : decode cX1_readItem 113 = .ok (.iconst 1, 1) := by decide +kernel
theorem dX1_readItem_114 : decode cX1_readItem 114 = .ok (.isub, 1) := by decide +kernel
theorem dX1_readItem_115 : decode cX1_readItem 115 = .ok (.iconst 1, 1) := by decide +kernel
theorem dX1_readItem_116 : decode cX1_readItem 116 = .ok (.invokevirtual 45, 3) := by decide +kernel
theorem dX1_readItem_119 : decode cX1_readItem 119 = .ok (.goto 4, 3) := by decide +kernel
theorem dX1_readItem_122 : decode cX1_readItem 122 = .ok (.iconst 0, 1) := by decide +kernel
theorem dX1_readItem_123 : decode cX1_readItem 123 = .ok (.istore 5, 2) := by decide +kernel
theorem dX1_readItem_125 : decode cX1_readItem 125 = .ok (.iload 5, 2) := by decide +kernel
theorem dX1_readItem_127 : decode cX1_readItem 127 = .ok (.iconst (-1), 1) := by decide +kernel
theorem dX1_readItem_128 : decode cX1_readItem 128 = .ok (.if_icmp .ne 5, 3) := by decide +kernel
theorem dX1_readItem_131 : decode cX1_readItem 131 = .ok (.iconst 0, 1) := by decide +kernel
theorem dX1_readItem_132 : decode cX1_readItem 132 = .ok (.ireturn, 1) := by decide +kernel
theorem dX1_readItem_133 : decode cX1_readItem 133 = .ok (.aload_n 0, 1) := by decide +kernel
theorem dX1_readItem_134 : decode cX1_readItem 134 = .ok (.getfield 21, 3) := by decide +kernel
theorem dX1_readItem_137 : decode cX1_readItem 137 = .ok (.iload 4, 2) := by decide +kernel
theorem dX1_readItem_139 : decode cX1_readItem 139 = .ok (.invokevirtual 70, 3) := by decide +kernel
theorem dX1_readItem_142 : decode cX1_readItem 142 = .ok (.iload_n 2, 1) := by decide +kernel
theorem dX1_readItem_143 : decode cX1_readItem 143 = .ok (.ifCond .eq 13, 3) := by decide +kernel
theorem dX1_readItem_146 : decode cX1_readItem 146 = .ok (.aload_n 0, 1) := by decide +kernel
theorem dX1_readItem_147 : decode cX1_readItem 147 = .ok (.getfield 21, 3) := by decide +kernel
theorem dX1_readItem_150 : decode cX1_readItem 150 = .ok (.iload_n 3, 1) := by decide +kernel
theorem dX1_readItem_151 : decode cX1_readItem 151 = .ok (.iload 5, 2) := by decide +kernel
theorem dX1_readItem_153 : decode cX1_readItem 153 = .ok (.invokevirtual 74, 3) := by decide +kernel
theorem dX1_readItem_156 : decode cX1_readItem 156 = .ok (.iconst 1, 1) := by decide +kernel
theorem dX1_readItem_157 : decode cX1_readItem 157 = .ok (.ireturn, 1) := by decide +kernel
set_option maxRecDepth 20000 in
theorem ggX1_readDigit_X3_at : GoodIn wsX1_readDigit wsX3_at := goodIn_r _ [7, 8, 9, 13, 14] (by decide +kernel) (by decide +kernel)
set_option maxRecDepth 20000 in
theorem gX1_readDigit_X3_at : GoodIn wsX1_readDigit (wsV RX1 42 RX3 yX3_at wsX3_at) := goodIn_app (goodIn_of _ (by decide +kernel)) ggX1_readDigit_X3_at
theorem dX1_readDigit_0 : decode cX1_readDigit 0 = .ok (.aload_n 0, 1) := by decide +kernel
theorem dX1_readDigit_1 : decode cX1_readDigit 1 = .ok (.getfield 12, 3) := by decide +kernel
theorem dX1_readDigit_4 : decode cX1_readDigit 4 = .ok (.aload_n 0, 1) := by decide +kernel
theorem dX1_readDigit_5 : decode cX1_readDigit 5 = .ok (.getfield 25, 3) := by decide +kernel
theorem dX1_readDigit_8 : decode cX1_readDigit 8 = .ok (.invokevirtual 42, 3) := by decide +kernel
theorem dX1_readDigit_11 : decode cX1_readDigit 11 = .ok (.bipush 48, 2) := by decide +kernel
theorem dX1_readDigit_13 : decode cX1_readDigit 13 = .ok (.isub, 1) := by decide +kernel
theorem dX1_readDigit_14 : decode cX1_readDigit 14 = .ok (.istore_n 3, 1) := by decide +kernel
theorem dX1_readDigit_15 : decode cX1_readDigit 15 = .ok (.iload_n 3, 1) := by decide +kernel
theorem dX1_readDigit_16 : decode cX1_readDigit 16 = .ok (.iload_n 1, 1) := by decide +kernel
theorem dX1_readDigit_17 : decode cX1_readDigit 17 = .ok (.if_icmp .lt 8, 3) := by decide +kernel
theorem dX1_readDigit_20 : decode cX1_readDigit 20 = .ok (.iload_n 3, 1) := by decide +kernel
theorem dX1_readDigit_21 : decode cX1_readDigit 21 = .ok (.iload_n 2, 1) := by decide +kernel
theorem dX1_readDigit_22 : decode cX1_readDigit 22 = .ok (.if_icmp .le 5, 3) := by decide +kernel
theorem dX1_readDigit_25 : decode cX1_readDigit 25 = .ok (.iconst (-1), 1) := by decide +kernel
theorem dX1_readDigit_26 : decode cX1_readDigit 26 = .ok (.ireturn, 1) := by decide +kernel
theorem dX1_readDigit_27 : decode cX1_readDigit 27 = .ok (.aload_n 0, 1) := by decide +kernel
theorem dX1_readDigit_28 : decode cX1_readDigit 28 = .ok (.dup, 1) := by decide +kernel
theorem dX1_readDigit_29 : decode cX1_readDigit 29 = .ok (.getfield 25, 3) := by decide +kernel
theorem dX1_readDigit_32 : decode cX1_readDigit 32 = .ok (.iconst 1, 1) := by decide +kernel
theorem dX1_readDigit_33 : decode cX1_readDigit 33 = .ok (.iadd, 1) := by decide +kernel
theorem dX1_readDigit_34 : decode cX1_readDigit 34 = .ok (.putfield 25, 3) := by decide +kernel
theorem dX1_readDigit_37 : decode cX1_readDigit 37 = .ok (.iload_n 3, 1) := by decide +kernel
theorem dX1_readDigit_38 : decode cX1_readDigit 38 = .ok (.ireturn, 1) := by decide +kernel
set_option maxRecDepth 20000 in
theorem ggX1_readPair_X3_at : GoodIn wsX1_readPair wsX3_at := goodIn_r _ [7, 8, 9, 30, 31] (by decide +kernel) (by decide +kernel)
set_option maxRecDepth 20000 in
theorem gX1_readPair_X3_at : GoodIn wsX1_readPair (wsV RX1 42 RX3 yX3_at wsX3_at) := goodIn_app (goodIn_of _ (by decide +kernel)) ggX1_readPair_X3_at
set_option maxRecDepth 20000 in
theorem ggX1_readPair_X1_isBegin : GoodIn wsX1_readPair wsX1_isBegin := goodIn_r _ [14, 15, 16, 17, 13, 18, 19, 20, 21, 22, 23, 24, 25, 26, 27, 28, 29, 32, 33, 34, 35, 36, 37, 38, 39, 40, 41, 42, 43, 44] (by decide +kernel) (by decide +kernel)
set_option maxRecDepth 20000 in
theorem gX1_readPair_X1_isBegin : GoodIn wsX1_readPair (wsV RX1 78 RX1 yX1_isBegin wsX1_isBegin) := goodIn_app (goodIn_of _ (by decide +kernel)) ggX1_readPair_X1_isBegin
set_option maxRecDepth 20000 in
theorem ggX1_readPair_X1_isAllowed : GoodIn wsX1_readPair wsX1_isAllowed := goodIn_r _ [18, 19, 20, 21, 22, 23, 24, 25, 26, 27, 28, 29, 32, 33, 34, 35, 36, 37, 38, 39, 40, 41, 42, 43, 44] (by decide +kernel) (by decide +kernel)
set_option maxRecDepth 20000 in
theorem gX1_readPair_X1_isAllowed : GoodIn wsX1_readPair (wsV RX1 82 RX1 yX1_isAllowed wsX1_isAllowed) := goodIn_app (goodIn_of _ (by decide +kernel)) ggX1_readPair_X1_isAllowed
theorem dX1_readPair_0 : decode cX1_readPair 0 = .ok (.aload_n 0, 1) := by decide +kernel
theorem dX1_readPair_1 : decode cX1_readPair 1 = .ok (.getfield 12, 3) := by decide +kernel
theorem dX1_readPair_4 : decode cX1_readPair 4 = .ok (.aload_n 0, 1) := by decide +kernel
theorem dX1_readPair_5 : decode cX1_readPair 5 = .ok (.getfield 25, 3) := by decide +kernel
theorem dX1_readPair_8 : decode cX1_readPair 8 = .ok (.invokevirtual 42, 3) := by decide +kernel
theorem dX1_readPair_11 : decode cX1_readPair 11 = .ok (.bipush 48, 2) := by decide +kernel
theorem dX1_readPair_13 : decode cX1_readPair 13 = .ok (.isub, 1) := by decide +kernel
theorem dX1_readPair_14 : decode cX1_readPair 14 = .ok (.istore 4, 2) := by decide +kernel
theorem dX1_readPair_16 : decode cX1_readPair 16 = .ok (.aload_n 0, 1) := by decide +kernel
theorem dX1_readPair_17 : decode cX1_readPair 17 = .ok (.iload 4, 2) := by decide +kernel
theorem dX1_readPair_19 : decode cX1_readPair 19 = .ok (.iload_n 1, 1) := by decide +kernel
theorem dX1_readPair_20 : decode cX1_readPair 20 = .ok (.iload_n 2, 1) := by decide +kernel
theorem dX1_readPair_21 : decode cX1_readPair 21 = .ok (.iload_n 3, 1) := by decide +kernel
theorem dX1_readPair_22 : decode cX1_readPair 22 = .ok (.invokevirtual 78, 3) := by decide +kernel
theorem dX1_readPair_25 : decode cX1_readPair 25 = .ok (.ifCond .ne 5, 3) := by decide +kernel
theorem dX1_readPair_28 : decode cX1_readPair 28 = .ok (.iconst (-1), 1) := by decide +kernel
theorem dX1_readPair_29 : decode cX1_readPair 29 = .ok (.ireturn, 1) := by decide +kernel
theorem dX1_readPair_30 : decode cX1_readPair 30 = .ok (.aload_n 0, 1) := by decide +kernel
theorem dX1_readPair_31 : decode cX1_readPair 31 = .ok (.dup, 1) := by decide +kernel
theorem dX1_readPair_32 : decode cX1_readPair 32 = .ok (.getfield 25, 3) := by decide +kernel
theorem dX1_readPair_35 : decode cX1_readPair 35 = .ok (.iconst 1, 1) := by decide +kernel
theorem dX1_readPair_36 : decode cX1_readPair 36 = .ok (.iadd, 1) := by decide +kernel
theorem dX1_readPair_37 : decode cX1_readPair 37 = .ok (.putfield 25, 3) := by decide +kernel
theorem dX1_readPair_40 : decode cX1_readPair 40 = .ok (.aload_n 0, 1) := by decide +kernel
theorem dX1_readPair_41 : decode cX1_readPair 41 = .ok (.getfield 12, 3) := by decide +kernel
theorem dX1_readPair_44 : decode cX1_readPair 44 = .ok (.aload_n 0, 1) := by decide +kernel
theorem dX1_readPair_45 : decode cX1_readPair 45 = .ok (.getfield 25, 3) := by decide +kernel
theorem dX1_readPair_48 : decode cX1_readPair 48 = .ok (.invokevirtual 42, 3) := by decide +kernel
theorem dX1_readPair_51 : decode cX1_readPair 51 = .ok (.bipush 48, 2) := by decide +kernel
theorem dX1_readPair_53 : decode cX1_readPair 53 = .ok (.isub, 1) := by decide +kernel
theorem dX1_readPair_54 : decode cX1_readPair 54 = .ok (.istore 5, 2) := by decide +kernel
theorem dX1_readPair_56 : decode cX1_readPair 56 = .ok (.iload 5, 2) := by decide +kernel
theorem dX1_readPair_58 : decode cX1_readPair 58 = .ok (.ifCond .lt 28, 3) := by decide +kernel
theorem dX1_readPair_61 : decode cX1_readPair 61 = .ok (.iload 5, 2) := by decide +kernel
theorem dX1_readPair_63 : decode cX1_readPair 63 = .ok (.bipush 9, 2) := by decide +kernel
theorem dX1_readPair_65 : decode cX1_readPair 65 = .ok (.if_icmp .gt 21, 3) := by decide +kernel
theorem dX1_readPair_68 : decode cX1_readPair 68 = .ok (.aload_n 0, 1) := by decide +kernel
theorem dX1_readPair_69 : decode cX1_readPair 69 = .ok (.iload 4, 2) := by decide +kernel
theorem dX1_readPair_71 : decode cX1_readPair 71 = .ok (.bipush 10, 2) := by decide +kernel
theorem dX1_readPair_73 : decode cX1_readPair 73 = .ok (.imul, 1) := by decide +kernel
theorem dX1_readPair_74 : decode cX1_readPair 74 = .ok (.iload 5, 2) := by decide +kernel
theorem dX1_readPair_76 : decode cX1_readPair 76 = .ok (.iadd, 1) := by decide +kernel
theorem dX1_readPair_77 : decode cX1_readPair 77 = .ok (.iload_n 1, 1) := by decide +kernel
theorem dX1_readPair_78 : decode cX1_readPair 78 = .ok (.iload_n 2, 1) := by decide +kernel
theorem dX1_readPair_79 : decode cX1_readPair 79 = .ok (.iload_n 3, 1) := by decide +kernel
theorem dX1_readPair_80 : decode cX1_readPair 80 = .ok (.invokevirtual 82, 3) := by decide +kernel
theorem dX1_readPair_83 : decode cX1_readPair 83 = .ok (.ifCond .ne 5, 3) := by decide +kernel
theorem dX1_readPair_86 : decode cX1_readPair 86 = .ok (.iconst (-1), 1) := by decide +kernel
theorem dX1_readPair_87 : decode cX1_readPair 87 = .ok (.ireturn, 1) := by decide +kernel
theorem dX1_readPair_88 : decode cX1_readPair 88 = .ok (.aload_n 0, 1) := by decide +kernel
theorem dX1_readPair_89 : decode cX1_readPair 89 = .ok (.dup, 1) := by decide +kernel
theorem dX1_readPair_90 : decode cX1_readPair 90 = .ok (.getfield 25, 3) := by decide +kernel
theorem dX1_readPair_93 : decode cX1_readPair 93 = .ok (.iconst 1, 1) := by decide +kernel
theorem dX1_readPair_94 : decode cX1_readPair 94 = .ok (.iadd, 1) := by decide +kernel
theorem dX1_readPair_95 : decode cX1_readPair 95 = .ok (.putfield 25, 3) := by decide +kernel
theorem dX1_readPair_98 : decode cX1_readPair 98 = .ok (.iload 4, 2) := by decide +kernel
theorem dX1_readPair_100 : decode cX1_readPair 100 = .ok (.bipush 10, 2) := by decide +kernel
theorem dX1_readPair_102 : decode cX1_readPair 102 = .ok (.imul, 1) := by decide +kernel
theorem dX1_readPair_103 : decode cX1_readPair 103 = .ok (.iload 5, 2) := by decide +kernel
theorem dX1_readPair_105 : decode cX1_readPair 105 = .ok (.iadd, 1) := by decide +kernel
theorem dX1_readPair_106 : decode cX1_readPair 106 = .ok (.ireturn, 1) := by decide +kernel
set_option maxRecDepth 20000 in
theorem ggX1_isBegin_X1_isAllowed : GoodIn wsX1_isBegin wsX1_isAllowed := goodIn_r _ [5, 6, 7, 8, 9, 10, 11, 12, 13, 14, 15, 16, 17, 18, 19, 20, 21, 22, 23, 24, 25, 26, 27, 28, 29] (by decide +kernel) (by decide +kernel)
set_option maxRecDepth 20000 in
theorem gX1_isBegin_X1_isAllowed : GoodIn wsX1_isBegin (wsV RX1 82 RX1 yX1_isAllowed wsX1_isAllowed) := goodIn_app (goodIn_of _ (by decide +kernel)) ggX1_isBegin_X1_isAllowed
theorem dX1_isBegin_0 : decode cX1_isBegin 0 = .ok (.iconst 0, 1) := by decide +kernel
theorem dX1_isBegin_1 : decode cX1_isBegin 1 = .ok (.istore 5, 2) := by decide +kernel
theorem dX1_isBegin_3 : decode cX1_isBegin 3 = .ok (.iload 5, 2) := by decide +kernel
theorem dX1_isBegin_5 : decode cX1_isBegin 5 = .ok (.bipush 9, 2) := by decide +kernel
theorem dX1_isBegin_7 : decode cX1_isBegin 7 = .ok (.if_icmp .gt 29, 3) := by decide +kernel
theorem dX1_isBegin_10 : decode cX1_isBegin 10 = .ok (.aload_n 0, 1) := by decide +kernel
theorem dX1_isBegin_11 : decode cX1_isBegin 11 = .ok (.iload_n 1, 1) := by decide +kernel
theorem dX1_isBegin_12 : decode cX1_isBegin 12 = .ok (.bipush 10, 2) := by decide +kernel
theorem dX1_isBegin_14 : decode cX1_isBegin 14 = .ok (.imul, 1) := by decide +kernel
theorem dX1_isBegin_15 : decode cX1_isBegin 15 = .ok (.iload 5, 2) := by decide +kernel
theorem dX1_isBegin_17 : decode cX1_isBegin 17 = .ok (.iadd, 1) := by decide +kernel
theorem dX1_isBegin_18 : decode cX1_isBegin 18 = .ok (.iload_n 2, 1) := by decide +kernel
theorem dX1_isBegin_19 : decode cX1_isBegin 19 = .ok (.iload_n 3, 1) := by decide +kernel
theorem dX1_isBegin_20 : decode cX1_isBegin 20 = .ok (.iload 4, 2) := by decide +kernel
theorem dX1_isBegin_22 : decode cX1_isBegin 22 = .ok (.invokevirtual 82, 3) := by decide +kernel
theorem dX1_isBegin_25 : decode cX1_isBegin 25 = .ok (.ifCond .eq 5, 3) := by decide +kernel
theorem dX1_isBegin_28 : decode cX1_isBegin 28 = .ok (.iconst 1, 1) := by decide +kernel
theorem dX1_isBegin_29 : decode cX1_isBegin 29 = .ok (.ireturn, 1) := by decide +kernel
theorem dX1_isBegin_30 : decode cX1_isBegin 30 = .ok (.iinc 5 1, 3) := by decide +kernel
theorem dX1_isBegin_33 : decode cX1_isBegin 33 = .ok (.goto (-30), 3) := by decide +kernel
theorem dX1_isBegin_36 : decode cX1_isBegin 36 = .ok (.iconst 0, 1) := by decide +kernel
theorem dX1_isBegin_37 : decode cX1_isBegin 37 = .ok (.ireturn, 1) := by decide +kernel
set_option maxRecDepth 20000 in
theorem ggX1_isAllowed_X0_gripAt : GoodIn wsX1_isAllowed wsX0_gripAt := goodIn_r _ [6, 7, 8, 12, 13, 14, 15, 16, 17, 18, 19, 20, 21, 22, 23, 24] (by decide +kernel) (by decide +kernel)
set_option maxRecDepth 20000 in
theorem gX1_isAllowed_X0_gripAt : GoodIn wsX1_isAllowed (wsV RX1 85 RX0 yX0_gripAt wsX0_gripAt) := goodIn_app (goodIn_of _ (by decide +kernel)) ggX1_isAllowed_X0_gripAt
theorem dX1_isAllowed_0 : decode cX1_isAllowed 0 = .ok (.iload_n 1, 1) := by decide +kernel
theorem dX1_isAllowed_1 : decode cX1_isAllowed 1 = .ok (.iload_n 2, 1) := by decide +kernel
theorem dX1_isAllowed_2 : decode cX1_isAllowed 2 = .ok (.if_icmp .lt 30, 3) := by decide +kernel
theorem dX1_isAllowed_5 : decode cX1_isAllowed 5 = .ok (.iload_n 1, 1) := by decide +kernel
theorem dX1_isAllowed_6 : decode cX1_isAllowed 6 = .ok (.iload_n 3, 1) := by decide +kernel
theorem dX1_isAllowed_7 : decode cX1_isAllowed 7 = .ok (.if_icmp .gt 25, 3) := by decide +kernel
theorem dX1_isAllowed_10 : decode cX1_isAllowed 10 = .ok (.iload 4, 2) := by decide +kernel
theorem dX1_isAllowed_12 : decode cX1_isAllowed 12 = .ok (.ifCond .eq 16, 3) := by decide +kernel
theorem dX1_isAllowed_15 : decode cX1_isAllowed 15 = .ok (.aload_n 0, 1) := by decide +kernel
theorem dX1_isAllowed_16 : decode cX1_isAllowed 16 = .ok (.getfield 21, 3) := by decide +kernel
theorem dX1_isAllowed_19 : decode cX1_isAllowed 19 = .ok (.iload_n 1, 1) := by decide +kernel
theorem dX1_isAllowed_20 : decode cX1_isAllowed 20 = .ok (.invokevirtual 85, 3) := by decide +kernel
theorem dX1_isAllowed_23 : decode cX1_isAllowed 23 = .ok (.bipush (-9), 2) := by decide +kernel
theorem dX1_isAllowed_25 : decode cX1_isAllowed 25 = .ok (.if_icmp .ne 7, 3) := by decide +kernel
theorem dX1_isAllowed_28 : decode cX1_isAllowed 28 = .ok (.iconst 1, 1) := by decide +kernel
theorem dX1_isAllowed_29 : decode cX1_isAllowed 29 = .ok (.goto 4, 3) := by decide +kernel
theorem dX1_isAllowed_32 : decode cX1_isAllowed 32 = .ok (.iconst 0, 1) := by decide +kernel
theorem dX1_isAllowed_33 : decode cX1_isAllowed 33 = .ok (.ireturn, 1) := by decide +kernel
set_option maxRecDepth 20000 in
theorem ggX2_init_X0_init : GoodIn wsX2_init wsX0_init := goodIn_r _ [10, 11, 2, 3, 12, 13, 14, 15, 16, 17, 18, 19, 20, 21, 22, 23, 24, 25, 7, 26, 27, 28, 29, 31, 32, 33, 34, 35, 36, 37, 38, 39, 40, 41, 42, 43] (by decide +kernel) (by decide +kernel)
set_option maxRecDepth 20000 in
theorem gX2_init_X0_init : GoodIn wsX2_init (wsX0_init) := ggX2_init_X0_init
theorem dX2_init_0 : decode cX2_init 0 = .ok (.aload_n 0, 1) := by decide +kernel
theorem dX2_init_1 : decode cX2_init 1 = .ok (.invokespecial 1, 3) := by decide +kernel
theorem dX2_init_4 : decode cX2_init 4 = .ok (.aload_n 0, 1) := by decide +kernel
theorem dX2_init_5 : decode cX2_init 5 = .ok (.iload_n 1, 1) := by decide +kernel
theorem dX2_init_6 : decode cX2_init 6 = .ok (.ifCond .le 7, 3) := by decide +kernel
theorem dX2_init_9 : decode cX2_init 9 = .ok (.iload_n 1, 1) := by decide +kernel
theorem dX2_init_10 : decode cX2_init 10 = .ok (.goto 4, 3) := by decide +kernel
theorem dX2_init_13 : decode cX2_init 13 = .ok (.iconst 0, 1) := by decide +kernel
theorem dX2_init_14 : decode cX2_init 14 = .ok (.anewarray 7, 3) := by decide +kernel
theorem dX2_init_17 : decode cX2_init 17 = .ok (.putfield 9, 3) := by decide +kernel
theorem dX2_init_20 : decode cX2_init 20 = .ok (.iconst 0, 1) := by decide +kernel
theorem dX2_init_21 : decode cX2_init 21 = .ok (.istore_n 2, 1) := by decide +kernel
theorem dX2_init_22 : decode cX2_init 22 = .ok (.iload_n 2, 1) := by decide +kernel
theorem dX2_init_23 : decode cX2_init 23 = .ok (.aload_n 0, 1) := by decide +kernel
theorem dX2_init_24 : decode cX2_init 24 = .ok (.getfield 9, 3) := by decide +kernel
theorem dX2_init_27 : decode cX2_init 27 = .ok (.arraylength, 1) := by decide +kernel
theorem dX2_init_28 : decode cX2_init 28 = .ok (.if_icmp .ge 22, 3) := by decide +kernel
theorem dX2_init_31 : decode cX2_init 31 = .ok (.aload_n 0, 1) := by decide +kernel
theorem dX2_init_32 : decode cX2_init 32 = .ok (.getfield 9, 3) := by decide +kernel
theorem dX2_init_35 : decode cX2_init 35 = .ok (.iload_n 2, 1) := by decide +kernel
theorem dX2_init_36 : decode cX2_init 36 = .ok (.new 7, 3) := by decide +kernel
theorem dX2_init_39 : decode cX2_init 39 = .ok (.dup, 1) := by decide +kernel
theorem dX2_init_40 : decode cX2_init 40 = .ok (.invokespecial 15, 3) := by decide +kernel
theorem dX2_init_43 : decode cX2_init 43 = .ok (.aastore, 1) := by decide +kernel
theorem dX2_init_44 : decode cX2_init 44 = .ok (.iinc 2 1, 3) := by decide +kernel
theorem dX2_init_47 : decode cX2_init 47 = .ok (.goto (-25), 3) := by decide +kernel
theorem dX2_init_50 : decode cX2_init 50 = .ok (.return_, 1) := by decide +kernel
set_option maxRecDepth 20000 in
theorem ggX2_keep_X2_rowAt : GoodIn wsX2_keep wsX2_rowAt := goodIn_r _ [5, 6, 29] (by decide +kernel) (by decide +kernel)
set_option maxRecDepth 20000 in
theorem gX2_keep_X2_rowAt : GoodIn wsX2_keep (wsV RX2 16 RX2 yX2_rowAt wsX2_rowAt) := goodIn_app (goodIn_of _ (by decide +kernel)) ggX2_keep_X2_rowAt
set_option maxRecDepth 20000 in
theorem ggX2_keep_X0_become : GoodIn wsX2_keep wsX0_become := goodIn_r _ [11, 12, 13, 14, 15, 16, 17, 18, 19, 20, 21, 22, 23, 24, 25, 26, 27, 28, 30, 31, 32, 33, 34, 35, 36, 37, 38, 39, 40, 41, 42] (by decide +kernel) (by decide +kernel)
set_option maxRecDepth 20000 in
theorem gX2_keep_X0_become : GoodIn wsX2_keep (wsV RX2 20 RX0 yX0_become wsX0_become) := goodIn_app (goodIn_of _ (by decide +kernel)) ggX2_keep_X0_become
theorem dX2_keep_0 : decode cX2_keep 0 = .ok (.aload_n 0, 1) := by decide +kernel
theorem dX2_keep_1 : decode cX2_keep 1 = .ok (.iload_n 1, 1) := by decide +kernel
theorem dX2_keep_2 : decode cX2_keep 2 = .ok (.invokevirtual 16, 3) := by decide +kernel
theorem dX2_keep_5 : decode cX2_keep 5 = .ok (.astore_n 3, 1) := by decide +kernel
theorem dX2_keep_6 : decode cX2_keep 6 = .ok (.aload_n 3, 1) := by decide +kernel
theorem dX2_keep_7 : decode cX2_keep 7 = .ok (.ifnull 8, 3) := by decide +kernel
theorem dX2_keep_10 : decode cX2_keep 10 = .ok (.aload_n 3, 1) := by decide +kernel
theorem dX2_keep_11 : decode cX2_keep 11 = .ok (.aload_n 2, 1) := by decide +kernel
theorem dX2_keep_12 : decode cX2_keep 12 = .ok (.invokevirtual 20, 3) := by decide +kernel
theorem dX2_keep_15 : decode cX2_keep 15 = .ok (.return_, 1) := by decide +kernel
set_option maxRecDepth 20000 in
theorem ggX2_recall_X2_rowAt : GoodIn wsX2_recall wsX2_rowAt := goodIn_r _ [5, 6, 29] (by decide +kernel) (by decide +kernel)
set_option maxRecDepth 20000 in
theorem gX2_recall_X2_rowAt : GoodIn wsX2_recall (wsV RX2 16 RX2 yX2_rowAt wsX2_rowAt) := goodIn_app (goodIn_of _ (by decide +kernel)) ggX2_recall_X2_rowAt
set_option maxRecDepth 20000 in
theorem ggX2_recall_X0_become : GoodIn wsX2_recall wsX0_become := goodIn_r _ [11, 12, 13, 14, 15, 16, 17, 18, 19, 20, 21, 22, 23, 24, 25, 26, 27, 28, 30, 31, 32, 33, 34, 35, 36, 37, 38, 39, 40, 41, 42] (by decide +kernel) (by decide +kernel)
set_option maxRecDepth 20000 in
theorem gX2_recall_X0_become : GoodIn wsX2_recall (wsV RX2 20 RX0 yX0_become wsX0_become) := goodIn_app (goodIn_of _ (by decide +kernel)) ggX2_recall_X0_become
theorem dX2_recall_0 : decode cX2_recall 0 = .ok (.aload_n 0, 1) := by decide +kernel
theorem dX2_recall_1 : decode cX2_recall 1 = .ok (.iload_n 1, 1) := by decide +kernel
theorem dX2_recall_2 : decode cX2_recall 2 = .ok (.invokevirtual 16, 3) := by decide +kernel
theorem dX2_recall_5 : decode cX2_recall 5 = .ok (.astore_n 3, 1) := by decide +kernel
theorem dX2_recall_6 : decode cX2_recall 6 = .ok (.aload_n 3, 1) := by decide +kernel
theorem dX2_recall_7 : decode cX2_recall 7 = .ok (.ifnull 8, 3) := by decide +kernel
theorem dX2_recall_10 : decode cX2_recall 10 = .ok (.aload_n 2, 1) := by decide +kernel
theorem dX2_recall_11 : decode cX2_recall 11 = .ok (.aload_n 3, 1) := by decide +kernel
theorem dX2_recall_12 : decode cX2_recall 12 = .ok (.invokevirtual 20, 3) := by decide +kernel
theorem dX2_recall_15 : decode cX2_recall 15 = .ok (.return_, 1) := by decide +kernel
theorem dX2_rowAt_0 : decode cX2_rowAt 0 = .ok (.iload_n 1, 1) := by decide +kernel
theorem dX2_rowAt_1 : decode cX2_rowAt 1 = .ok (.ifCond .lt 21, 3) := by decide +kernel
theorem dX2_rowAt_4 : decode cX2_rowAt 4 = .ok (.iload_n 1, 1) := by decide +kernel
theorem dX2_rowAt_5 : decode cX2_rowAt 5 = .ok (.aload_n 0, 1) := by decide +kernel
theorem dX2_rowAt_6 : decode cX2_rowAt 6 = .ok (.getfield 9, 3) := by decide +kernel
theorem dX2_rowAt_9 : decode cX2_rowAt 9 = .ok (.arraylength, 1) := by decide +kernel
theorem dX2_rowAt_10 : decode cX2_rowAt 10 = .ok (.if_icmp .ge 12, 3) := by decide +kernel
theorem dX2_rowAt_13 : decode cX2_rowAt 13 = .ok (.aload_n 0, 1) := by decide +kernel
theorem dX2_rowAt_14 : decode cX2_rowAt 14 = .ok (.getfield 9, 3) := by decide +kernel
theorem dX2_rowAt_17 : decode cX2_rowAt 17 = .ok (.iload_n 1, 1) := by decide +kernel
theorem dX2_rowAt_18 : decode cX2_rowAt 18 = .ok (.aaload, 1) := by decide +kernel
theorem dX2_rowAt_19 : decode cX2_rowAt 19 = .ok (.goto 4, 3) := by decide +kernel
theorem dX2_rowAt_22 : decode cX2_rowAt 22 = .ok (.aconst_null, 1) := by decide +kernel
theorem dX2_rowAt_23 : decode cX2_rowAt 23 = .ok (.areturn, 1) := by decide +kernel
theorem dX3_init_0 : decode cX3_init 0 = .ok (.aload_n 0, 1) := by decide +kernel
theorem dX3_init_1 : decode cX3_init 1 = .ok (.invokespecial 3, 3) := by decide +kernel
theorem dX3_init_4 : decode cX3_init 4 = .ok (.aload_n 0, 1) := by decide +kernel
theorem dX3_init_5 : decode cX3_init 5 = .ok (.bipush 60, 2) := by decide +kernel
theorem dX3_init_7 : decode cX3_init 7 = .ok (.newarray .char, 2) := by decide +kernel
theorem dX3_init_9 : decode cX3_init 9 = .ok (.putfield 9, 3) := by decide +kernel
theorem dX3_init_12 : decode cX3_init 12 = .ok (.aload_n 0, 1) := by decide +kernel
theorem dX3_init_13 : decode cX3_init 13 = .ok (.iconst 0, 1) := by decide +kernel
theorem dX3_init_14 : decode cX3_init 14 = .ok (.putfield 15, 3) := by decide +kernel
theorem dX3_init_17 : decode cX3_init 17 = .ok (.return_, 1) := by decide +kernel
theorem dX3_isFull_0 : decode cX3_isFull 0 = .ok (.aload_n 0, 1) := by decide +kernel
theorem dX3_isFull_1 : decode cX3_isFull 1 = .ok (.getfield 15, 3) := by decide +kernel
theorem dX3_isFull_4 : decode cX3_isFull 4 = .ok (.bipush 60, 2) := by decide +kernel
theorem dX3_isFull_6 : decode cX3_isFull 6 = .ok (.if_icmp .lt 7, 3) := by decide +kernel
theorem dX3_isFull_9 : decode cX3_isFull 9 = .ok (.iconst 1, 1) := by decide +kernel
theorem dX3_isFull_10 : decode cX3_isFull 10 = .ok (.goto 4, 3) := by decide +kernel
theorem dX3_isFull_13 : decode cX3_isFull 13 = .ok (.iconst 0, 1) := by decide +kernel
theorem dX3_isFull_14 : decode cX3_isFull 14 = .ok (.ireturn, 1) := by decide +kernel
theorem dX3_put_0 : decode cX3_put 0 = .ok (.aload_n 0, 1) := by decide +kernel
theorem dX3_put_1 : decode cX3_put 1 = .ok (.getfield 15, 3) := by decide +kernel
theorem dX3_put_4 : decode cX3_put 4 = .ok (.ifCond .lt 12, 3) := by decide +kernel
theorem dX3_put_7 : decode cX3_put 7 = .ok (.aload_n 0, 1) := by decide +kernel
theorem dX3_put_8 : decode cX3_put 8 = .ok (.getfield 15, 3) := by decide +kernel
theorem dX3_put_11 : decode cX3_put 11 = .ok (.bipush 60, 2) := by decide +kernel
theorem dX3_put_13 : decode cX3_put 13 = .ok (.if_icmp .lt 4, 3) := by decide +kernel
theorem dX3_put_16 : decode cX3_put 16 = .ok (.return_, 1) := by decide +kernel
theorem dX3_put_17 : decode cX3_put 17 = .ok (.aload_n 0, 1) := by decide +kernel
theorem dX3_put_18 : decode cX3_put 18 = .ok (.getfield 9, 3) := by decide +kernel
theorem dX3_put_21 : decode cX3_put 21 = .ok (.aload_n 0, 1) := by decide +kernel
theorem dX3_put_22 : decode cX3_put 22 = .ok (.getfield 15, 3) := by decide +kernel
theorem dX3_put_25 : decode cX3_put 25 = .ok (.iload_n 1, 1) := by decide +kernel
theorem dX3_put_26 : decode cX3_put 26 = .ok (.castore, 1) := by decide +kernel
theorem dX3_put_27 : decode cX3_put 27 = .ok (.aload_n 0, 1) := by decide +kernel
theorem dX3_put_28 : decode cX3_put 28 = .ok (.dup, 1) := by decide +kernel
theorem dX3_put_29 : decode cX3_put 29 = .ok (.getfield 15, 3) := by decide +kernel
theorem dX3_put_32 : decode cX3_put 32 = .ok (.iconst 1, 1) := by decide +kernel
theorem dX3_put_33 : decode cX3_put 33 = .ok (.iadd, 1) := by decide +kernel
theorem dX3_put_34 : decode cX3_put 34 = .ok (.putfield 15, 3) := by decide +kernel
theorem dX3_put_37 : decode cX3_put 37 = .ok (.return_, 1) := by decide +kernel
set_option maxRecDepth 20000 in
theorem ggX3_putNumber_X3_put : GoodIn wsX3_putNumber wsX3_put := goodIn_r _ [5, 6, 7, 8, 9] (by decide +kernel) (by decide +kernel)
set_option maxRecDepth 20000 in
theorem gX3_putNumber_X3_put : GoodIn wsX3_putNumber (wsV RX3 19 RX3 yX3_put wsX3_put) := goodIn_app (goodIn_of _ (by decide +kernel)) ggX3_putNumber_X3_put
theorem dX3_putNumber_0 : decode cX3_putNumber 0 = .ok (.iload_n 1, 1) := by decide +kernel
theorem dX3_putNumber_1 : decode cX3_putNumber 1 = .ok (.bipush 9, 2) := by decide +kernel
theorem dX3_putNumber_3 : decode cX3_putNumber 3 = .ok (.if_icmp .le 15, 3) := by decide +kernel
theorem dX3_putNumber_6 : decode cX3_putNumber 6 = .ok (.aload_n 0, 1) := by decide +kernel
theorem dX3_putNumber_7 : decode cX3_putNumber 7 = .ok (.bipush 48, 2) := by decide +kernel
theorem dX3_putNumber_9 : decode cX3_putNumber 9 = .ok (.iload_n 1, 1) := by decide +kernel
theorem dX3_putNumber_10 : decode cX3_putNumber 10 = .ok (.bipush 10, 2) := by decide +kernel
theorem dX3_putNumber_12 : decode cX3_putNumber 12 = .ok (.idiv, 1) := by decide +kernel
theorem dX3_putNumber_13 : decode cX3_putNumber 13 = .ok (.iadd, 1) := by decide +kernel
theorem dX3_putNumber_14 : decode cX3_putNumber 14 = .ok (.i2c, 1) := by decide +kernel
theorem dX3_putNumber_15 : decode cX3_putNumber 15 = .ok (.invokevirtual 19, 3) := by decide +kernel
theorem dX3_putNumber_18 : decode cX3_putNumber 18 = .ok (.aload_n 0, 1) := by decide +kernel
theorem dX3_putNumber_19 : decode cX3_putNumber 19 = .ok (.bipush 48, 2) := by decide +kernel
theorem dX3_putNumber_21 : decode cX3_putNumber 21 = .ok (.iload_n 1, 1) := by decide +kernel
theorem dX3_putNumber_22 : decode cX3_putNumber 22 = .ok (.bipush 10, 2) := by decide +kernel
theorem dX3_putNumber_24 : decode cX3_putNumber 24 = .ok (.irem, 1) := by decide +kernel
theorem dX3_putNumber_25 : decode cX3_putNumber 25 = .ok (.iadd, 1) := by decide +kernel
theorem dX3_putNumber_26 : decode cX3_putNumber 26 = .ok (.i2c, 1) := by decide +kernel
theorem dX3_putNumber_27 : decode cX3_putNumber 27 = .ok (.invokevirtual 19, 3) := by decide +kernel
theorem dX3_putNumber_30 : decode cX3_putNumber 30 = .ok (.return_, 1) := by decide +kernel
theorem dX3_at_0 : decode cX3_at 0 = .ok (.iload_n 1, 1) := by decide +kernel
theorem dX3_at_1 : decode cX3_at 1 = .ok (.ifCond .lt 17, 3) := by decide +kernel
theorem dX3_at_4 : decode cX3_at 4 = .ok (.iload_n 1, 1) := by decide +kernel
theorem dX3_at_5 : decode cX3_at 5 = .ok (.aload_n 0, 1) := by decide +kernel
theorem dX3_at_6 : decode cX3_at 6 = .ok (.getfield 15, 3) := by decide +kernel
theorem dX3_at_9 : decode cX3_at 9 = .ok (.if_icmp .ge 9, 3) := by decide +kernel
theorem dX3_at_12 : decode cX3_at 12 = .ok (.iload_n 1, 1) := by decide +kernel
theorem dX3_at_13 : decode cX3_at 13 = .ok (.bipush 60, 2) := by decide +kernel
theorem dX3_at_15 : decode cX3_at 15 = .ok (.if_icmp .lt 6, 3) := by decide +kernel
theorem dX3_at_18 : decode cX3_at 18 = .ok (.bipush (-9), 2) := by decide +kernel
theorem dX3_at_20 : decode cX3_at 20 = .ok (.ireturn, 1) := by decide +kernel
theorem dX3_at_21 : decode cX3_at 21 = .ok (.aload_n 0, 1) := by decide +kernel
theorem dX3_at_22 : decode cX3_at 22 = .ok (.getfield 9, 3) := by decide +kernel
theorem dX3_at_25 : decode cX3_at 25 = .ok (.iload_n 1, 1) := by decide +kernel
theorem dX3_at_26 : decode cX3_at 26 = .ok (.caload, 1) := by decide +kernel
theorem dX3_at_27 : decode cX3_at 27 = .ok (.ireturn, 1) := by decide +kernel
theorem dX3_clear_0 : decode cX3_clear 0 = .ok (.aload_n 0, 1) := by decide +kernel
theorem dX3_clear_1 : decode cX3_clear 1 = .ok (.iconst 0, 1) := by decide +kernel
theorem dX3_clear_2 : decode cX3_clear 2 = .ok (.putfield 15, 3) := by decide +kernel
theorem dX3_clear_5 : decode cX3_clear 5 = .ok (.return_, 1) := by decide +kernel
end
section
/-! MY OWN KIT: guards of the mirrors, the state of a Lift, the worlds, contracts' forms, calls -/
-- guards
def gd {α : Type} (i : Int32) (n : Nat) (k : Option α) : Option α := if i < 0 ∨ n ≤ i.toNatClampNeg then none else k
theorem gd_some {α : Type} {i : Int32} {n : Nat} {k : Option α} {r : α} (h : gd i n k = some r) : vp_in i n ∧ k = some r := by
  unfold gd at h
  split at h
  · cases h
  · rename_i hn; exact ⟨hn, h⟩
theorem gd_in {α : Type} {i : Int32} {n : Nat} {k : Option α} (h : vp_in i n) : gd i n k = k := by
  unfold gd; exact if_neg h
def gz {α : Type} (r : Int32) (k : Option α) : Option α := if r = 0 ∨ r = 1 then k else none
theorem gz_some {α : Type} {i : Int32} {k : Option α} {r : α} (h : gz i k = some r) : narrow .boolean (.int i) = .int i ∧ k = some r := by
  unfold gz at h
  split at h
  · rename_i hn
    rcases hn with rfl | rfl
    · exact ⟨rfl, h⟩
    · exact ⟨rfl, h⟩
  · cases h
theorem bd_some {α β : Type} {o : Option α} {k : α → Option β} {r : β} (h : o.bind k = some r) : ∃ a, o = some a ∧ k a = some r := by
  cases o with
  | none => cases h
  | some a => exact ⟨a, rfl, h⟩
def nz {α : Type} (r : Int32) (k : Option α) : Option α := if r = 0 then none else k
theorem nz_some {α : Type} {i : Int32} {k : Option α} {r : α} (h : nz i k = some r) : ¬ i = 0 ∧ k = some r := by
  unfold nz at h
  split at h
  · cases h
  · rename_i hn; exact ⟨hn, h⟩
theorem gsw_out (lo hi : Int) {x : Int32} (h : ∀ k : Int, lo ≤ k → k ≤ hi → ¬ x.toInt = k) : x.toInt < lo ∨ hi < x.toInt := by
  rcases Int.lt_or_le x.toInt lo with q | q
  · exact Or.inl q
  · rcases Int.lt_or_le hi x.toInt with r | r
    · exact Or.inr r
    · exact absurd rfl (h x.toInt q r)
theorem no_some {α : Type} {P : Prop} {r : α} (h : (none : Option α) = some r) : P := by cases h
theorem vin_lit {i : Int32} {n : Nat} (h : decide (¬ (i < 0 ∨ n ≤ i.toNatClampNeg)) = true) : vp_in i n := by unfold vp_in; exact of_decide_eq_true h
def KF : Nat := 3000
-- the state of a Lift: nine rows, n, station, clock, random state
abbrev RI : Type := Nat → Int32
abbrev LSt : Type := RI × RI × RI × RI × RI × RI × RI × RI × RI × Int32 × Int32 × Int32 × Int64
abbrev lWe (L : LSt) : RI := L.1
abbrev lCy (L : LSt) : RI := L.2.1
abbrev lWr (L : LSt) : RI := L.2.2.1
abbrev lPu (L : LSt) : RI := L.2.2.2.1
abbrev lSl (L : LSt) : RI := L.2.2.2.2.1
abbrev lPl (L : LSt) : RI := L.2.2.2.2.2.1
abbrev lSp (L : LSt) : RI := L.2.2.2.2.2.2.1
abbrev lSt (L : LSt) : RI := L.2.2.2.2.2.2.2.1
abbrev lLi (L : LSt) : RI := L.2.2.2.2.2.2.2.2.1
abbrev lN_ (L : LSt) : Int32 := L.2.2.2.2.2.2.2.2.2.1
abbrev lStn (L : LSt) : Int32 := L.2.2.2.2.2.2.2.2.2.2.1
abbrev lClk (L : LSt) : Int32 := L.2.2.2.2.2.2.2.2.2.2.2.1
abbrev lRnd (L : LSt) : Int64 := L.2.2.2.2.2.2.2.2.2.2.2.2
-- the worlds
def LW (cI : ClassId) (q : Nat) (L : LSt) : va_W := [(q, .inr (0, [.ref (q + 1), .ref (q + 2), .ref (q + 3), .ref (q + 4), .ref (q + 5), .ref (q + 6), .ref (q + 7), .ref (q + 8), .ref (q + 9), .int (lN_ L), .int (lStn L), .int (lClk L), .long (lRnd L)])), (q + 1, .inl (cI, 12, .inl (lWe L))), (q + 2, .inl (cI, 12, .inl (lCy L))), (q + 3, .inl (cI, 12, .inl (lWr L))), (q + 4, .inl (cI, 12, .inl (lPu L))), (q + 5, .inl (cI, 12, .inl (lSl L))), (q + 6, .inl (cI, 12, .inl (lPl L))), (q + 7, .inl (cI, 12, .inl (lSp L))), (q + 8, .inl (cI, 12, .inl (lSt L))), (q + 9, .inl (cI, 5, .inl (lLi L)))]
abbrev pF (X : LSt × LSt) : LSt := X.1
abbrev pS (X : LSt × LSt) : LSt := X.2
def LLW (cI : ClassId) (q z : Nat) (X : LSt × LSt) : va_W := LW cI q (pF X) ++ LW cI z (pS X)
abbrev SSt : Type := RI × Int32
abbrev sRow (Z : SSt) : RI := Z.1
abbrev sLen (Z : SSt) : Int32 := Z.2
def SW (cC : ClassId) (q : Nat) (Z : SSt) : va_W := [(q, .inr (3, [.ref (q + 1), .int (sLen Z)])), (q + 1, .inl (cC, 60, .inl (sRow Z)))]
abbrev hL (X : LSt × SSt) : LSt := X.1
abbrev hZ (X : LSt × SSt) : SSt := X.2
def LGW (cI cC : ClassId) (q z : Nat) (X : LSt × SSt) : va_W := LW cI q (hL X) ++ SW cC z (hZ X)
abbrev TSt : Type := SSt × LSt × Int32
abbrev tSg (T : TSt) : SSt := T.1
abbrev tD (T : TSt) : LSt := T.2.1
abbrev tAt (T : TSt) : Int32 := T.2.2
def TW (cI cC : ClassId) (q : Nat) (T : TSt) : va_W := (q, .inr (1, [.ref (q + 1), .ref (q + 3), .int (tAt T)])) :: (SW cC (q + 1) (tSg T) ++ LW cI (q + 3) (tD T))
def gOr (A B : Nat → Prop) : Nat → Prop := fun a => A a ∨ B a
/-- an interval of addresses -/
def fIv (q n : Nat) : Nat → Prop := fun a => q ≤ a ∧ a < q + n
abbrev gTy (cI cC cZ cQ cJ : ClassId) : List (ClassId × FieldType) := [(cI, .int), (cC, .char), (cZ, .boolean), (cQ, .object "GripInspector$Lift"), (cJ, .long)]
-- a list of cells at q, q+1, ..: apart, and in its interval
def gOrd : Nat → va_W → Prop
  | _, [] => True
  | q, c :: l => c.1 = q ∧ gOrd (q + 1) l
theorem gOrd_at : ∀ (l : va_W) (q k : Nat) (c : Nat × va_E), gOrd q l → l[k]? = some c → c.1 = q + k
  | [], _, _, _, _, h => by simp at h
  | a :: l, q, 0, c, ho, h => by simp at h; subst h; exact ho.1
  | a :: l, q, k + 1, c, ho, h => by
    simp only [List.getElem?_cons_succ] at h
    have := gOrd_at l (q + 1) k c ho.2 h
    omega
theorem gOrd_D {l : va_W} {q : Nat} (ho : gOrd q l) {A : Nat → Prop} (hA : ∀ a, fIv q l.length a → A a) : va_D A l := by
  refine ⟨fun i j x y hi hj hxy => ?_, fun k c hk => ?_⟩
  · have h1 := gOrd_at l q i x ho hi
    have h2 := gOrd_at l q j y ho hj
    omega
  · have h1 := gOrd_at l q k c ho hk
    have h2 := (List.getElem?_eq_some_iff.mp hk).1
    exact hA _ ⟨by omega, by omega⟩
theorem LW_ord (cI : ClassId) (q : Nat) (L : LSt) : gOrd q (LW cI q L) := ⟨rfl, rfl, rfl, rfl, rfl, rfl, rfl, rfl, rfl, rfl, trivial⟩
theorem LW_D {cI : ClassId} {q : Nat} {L : LSt} {A : Nat → Prop} (hA : ∀ a, fIv q 10 a → A a) : va_D A (LW cI q L) := gOrd_D (LW_ord cI q L) hA
theorem LW_self {cI : ClassId} {q : Nat} {L : LSt} : va_D (fIv q 10) (LW cI q L) := LW_D fun _ h => h
theorem gOrd_kept {D : va_G} {cl : List vw_C} {l : va_W} {q : Nat} (ho : gOrd q l) {H H1 : Heap} (h : va_P D cl l H) (hk : ∀ a, a < H.size → fIv q l.length a → H1[a]? = H[a]?) : va_P D cl l H1 := h.kept fun k c hc => hk c.1 (h k c hc).lt (by
  have h1 := gOrd_at l q k c ho hc
  have h2 := (List.getElem?_eq_some_iff.mp hc).1
  exact ⟨by omega, by omega⟩)
theorem gOrd_app : ∀ (l l2 : va_W) (q : Nat), gOrd q l → gOrd (q + l.length) l2 → gOrd q (l ++ l2)
  | [], _, _, _, h => by simpa using h
  | c :: l, l2, q, h, h2 => ⟨h.1, gOrd_app l l2 (q + 1) h.2 (by rw [List.length_cons] at h2; rw [show q + 1 + l.length = q + (l.length + 1) by omega]; exact h2)⟩
theorem SW_ord (cC : ClassId) (q : Nat) (Z : SSt) : gOrd q (SW cC q Z) := ⟨rfl, rfl, trivial⟩
theorem SW_D {cC : ClassId} {q : Nat} {Z : SSt} {A : Nat → Prop} (hA : ∀ a, fIv q 2 a → A a) : va_D A (SW cC q Z) := gOrd_D (SW_ord cC q Z) hA
theorem SW_self {cC : ClassId} {q : Nat} {Z : SSt} : va_D (fIv q 2) (SW cC q Z) := SW_D fun _ h => h
theorem TW_ord (cI cC : ClassId) (q : Nat) (T : TSt) : gOrd q (TW cI cC q T) := ⟨rfl, rfl, rfl, rfl, rfl, rfl, rfl, rfl, rfl, rfl, rfl, rfl, rfl, trivial⟩
theorem TW_self {cI cC : ClassId} {q : Nat} {T : TSt} : va_D (fIv q 13) (TW cI cC q T) := gOrd_D (TW_ord cI cC q T) fun _ h => h
theorem gApp_D {w1 w2 : va_W} {q z : Nat} (h1 : gOrd q w1) (h2 : gOrd z w2) (hd : q + w1.length ≤ z ∨ z + w2.length ≤ q) : va_D (gOr (fIv q w1.length) (fIv z w2.length)) (w1 ++ w2) := by
  refine va_D.app (gOrd_D h1 fun _ h => Or.inl h) (gOrd_D h2 fun _ h => Or.inr h) (fun i j x y hi hj hxy => ?_)
  have e1 := gOrd_at w1 q i x h1 hi
  have e2 := gOrd_at w2 z j y h2 hj
  have l1 := (List.getElem?_eq_some_iff.mp hi).1
  have l2 := (List.getElem?_eq_some_iff.mp hj).1
  omega
theorem LLW_self {cI : ClassId} {q z : Nat} {X : LSt × LSt} (hd : q + 10 ≤ z ∨ z + 10 ≤ q) : va_D (gOr (fIv q 10) (fIv z 10)) (LLW cI q z X) := gApp_D (LW_ord cI q _) (LW_ord cI z _) hd
theorem LGW_self {cI cC : ClassId} {q z : Nat} {X : LSt × SSt} (hd : q + 10 ≤ z ∨ z + 2 ≤ q) : va_D (gOr (fIv q 10) (fIv z 2)) (LGW cI cC q z X) := gApp_D (LW_ord cI q _) (SW_ord cC z _) hd
theorem gL {D : va_G} {cl : List vw_C} {w1 w2 : va_W} {H : Heap} (h : va_P D cl (w1 ++ w2) H) : va_P D cl w1 H := fun k q hk => h k q (by rw [List.getElem?_append_left (List.getElem?_eq_some_iff.mp hk).1]; exact hk)
theorem gR {D : va_G} {cl : List vw_C} {w1 w2 : va_W} {H : Heap} (h : va_P D cl (w1 ++ w2) H) : va_P D cl w2 H := fun k q hk => h (w1.length + k) q (by rw [List.getElem?_append_right (Nat.le_add_right _ _), Nat.add_sub_cancel_left]; exact hk)
-- parts of a text reader's world, and of a Lift with a row of signs
theorem TW_S {D : va_G} {cI cC : ClassId} {q : Nat} {T : TSt} {H : Heap} (h : va_P D vwCl (TW cI cC q T) H) : va_P D vwCl (SW cC (q + 1) (tSg T)) H := gL (gR (w1 := [_]) h)
theorem TW_L {D : va_G} {cI cC : ClassId} {q : Nat} {T : TSt} {H : Heap} (h : va_P D vwCl (TW cI cC q T) H) : va_P D vwCl (LW cI (q + 3) (tD T)) H := gR (w1 := SW cC (q + 1) (tSg T)) (gR (w1 := [(q, .inr (1, [.ref (q + 1), .ref (q + 3), .int (tAt T)]))]) h)
theorem TW_in {q : Nat} : ∀ a, fIv (q + 3) 10 a → fIv q 13 a := fun a h => ⟨by have := h.1; omega, by have := h.2; omega⟩
theorem TW_putL {D : va_G} {cI cC : ClassId} {q : Nat} {T : TSt} {L : LSt} {H H1 : Heap} (h : va_P D vwCl (TW cI cC q T) H) (h1 : va_P D vwCl (LW cI (q + 3) L) H1) (hk : ∀ a : Nat, a < H.size → ¬ fIv (q + 3) 10 a → H1[a]? = H[a]?) : va_P D vwCl (TW cI cC q (tSg T, L, tAt T)) H1 := by
  have ha : va_P D vwCl ((q, .inr (1, [.ref (q + 1), .ref (q + 3), .int (tAt T)])) :: SW cC (q + 1) (tSg T)) H := fun k c hc => h k c (by
    show ((q, .inr (1, [.ref (q + 1), .ref (q + 3), .int (tAt T)])) :: SW cC (q + 1) (tSg T) ++ LW cI (q + 3) (tD T))[k]? = _
    rw [List.getElem?_append_left (List.getElem?_eq_some_iff.mp hc).1]; exact hc)
  have ho : gOrd q ((q, .inr (1, [.ref (q + 1), .ref (q + 3), .int (tAt T)])) :: SW cC (q + 1) (tSg T)) := ⟨rfl, rfl, rfl, trivial⟩
  exact va_P.app (gOrd_kept ho ha (fun a hl hi => hk a hl (fun z => by have h1 := hi.2; have h2 := z.1; simp [SW] at h1; omega))) h1
theorem TW_putL_in {q : Nat} : ∀ a, fIv (q + 3) 10 a → fIv q 13 a := TW_in
theorem LGW_L {D : va_G} {cI cC : ClassId} {q z : Nat} {X : LSt × SSt} {H : Heap} (h : va_P D vwCl (LGW cI cC q z X) H) : va_P D vwCl (LW cI q (hL X)) H := gL h
theorem LGW_S {D : va_G} {cI cC : ClassId} {q z : Nat} {X : LSt × SSt} {H : Heap} (h : va_P D vwCl (LGW cI cC q z X) H) : va_P D vwCl (SW cC z (hZ X)) H := gR h
theorem LGW_putS_in {q z : Nat} : ∀ a, fIv z 2 a → gOr (fIv q 10) (fIv z 2) a := fun _ h => Or.inr h
theorem LGW_putS {D : va_G} {cI cC : ClassId} {q z : Nat} (hd : q + 10 ≤ z ∨ z + 2 ≤ q) {X : LSt × SSt} {Z : SSt} {H H1 : Heap} (h : va_P D vwCl (LGW cI cC q z X) H) (h1 : va_P D vwCl (SW cC z Z) H1) (hk : ∀ a : Nat, a < H.size → ¬ fIv z 2 a → H1[a]? = H[a]?) : va_P D vwCl (LGW cI cC q z (hL X, Z)) H1 :=
  va_P.app (gOrd_kept (LW_ord cI q _) (gL h) (fun a hl hi => hk a hl (fun w => by have h1 := hi.1; have h2 := hi.2; have h3 := w.1; have h4 := w.2; simp [LW] at h2; omega))) h1
-- a contract's start: the arguments, a picture of the heap, the tables
def gB (D : va_G) (tys : List (ClassId × FieldType)) (B : Heap → Prop) : State → Prop := fun U => B U.heap ∧ va_K D vwCl tys U
theorem gB_blind {D : va_G} {tys : List (ClassId × FieldType)} {B : Heap → Prop} {av : List Value} : FrameBlind (va_Pc av (gB D tys B)) := fun a U g mk q => ⟨q.1, q.2.1, va_K.moved (u := U) (U := U.calling g mk a) (Vm.Alike.refl U.vm) q.2.2⟩
theorem gh {D : va_G} {cl : List vw_C} {ws : va_W} {t : State} {H : Heap} (ht : t.heap = H) (hP : va_P D cl ws H) : va_P D cl ws t.heap := by rw [ht]; exact hP
section GC
variable {p : Program} {l : Launch} {e : Env} {R : Room} {s : State} {m : MethodId} {args : Array Value} {below : List Frame} {meth : Method} {c : Code} {H : Heap} {locs : List Loc} {cells slots : Nat} {Q : State → Prop}
variable {y : MethodName} {bytes cc : ByteArray} {maxL nL n index : Nat} {ret : Option FieldType} {ws : List Cond} {rm : Room} {Ts : List Cond} {own C : String} {b : Addr} {As rest st0 : List Value} {pc : Nat} {ls : Array Slot} {D : va_G} {tys : List (ClassId × FieldType)} {B B' : Heap → Prop} {A0 A1 : Nat → Prop} {H0 : Heap}
/-- a call of a reading method with an int answer -/
theorem gc_ri {v : Int32} (S : CallFix p m c cc nL s args Ts own) (hK : va_K D vwCl tys s) (hM : Met l y ws rm (va_Pc (.ref b :: As) (gB D tys B)) (vp_Si (fun r => r = v)) 0 0 (fun _ => False)) (cw : CallW R s args own C index y bytes maxL ret ws rm 0 0 n) (hrecv : ∃ cellB : Cell, H[b]? = some cellB ∧ cellB.vm.isStatics = false ∧ s.vm.findClass C = some cellB.cls) (hB : B H) (hn : As.length = n) (hl : ls.size = nL) (hst : st0 = As.reverse ++ .ref b :: rest) (hW : (rest.map fun v => v.category).sum ≤ 8) (hf : cells ≤ R.cells ∧ slots ≤ R.slots) (hdg : decode cc pc = .ok (.invokevirtual index, 3)) (kk : W p l e R s m args below meth c H locs cells slots Q (F0 m (pc + 3) ls (.int v :: rest))) : W p l e R s m args below meth c H locs cells slots Q (F0 m pc ls st0) := by
  subst hst
  refine vp_callSi (W.runV (As := As) (rest := rest) S hM cw ⟨gB_blind, hrecv, fun U hU hW => ⟨rfl, by rw [hU]; exact hB, va_K.moved hW.alike hK⟩⟩ rfl hn hl rfl (lv_room hW) hdg hf) (fun r hr => ?_)
  subst hr
  exact kk
/-- .. of a static reading method -/
theorem gc_si {v : Int32} (S : CallFix p m c cc nL s args Ts own) (hK : va_K D vwCl tys s) (hM : Met l y ws rm (va_Pc As (gB D tys B)) (vp_Si (fun r => r = v)) 0 0 (fun _ => False)) (cw : CallB R s args own index y bytes maxL ret ws rm 0 0 n ∧ (Cond.static y).before args s = true) (hB : B H) (hn : As.length = n) (hl : ls.size = nL) (hst : st0 = As.reverse ++ rest) (hW : (rest.map fun v => v.category).sum ≤ 8) (hf : cells ≤ R.cells ∧ slots ≤ R.slots) (hdg : decode cc pc = .ok (.invokestatic index, 3)) (kk : W p l e R s m args below meth c H locs cells slots Q (F0 m (pc + 3) ls (.int v :: rest))) : W p l e R s m args below meth c H locs cells slots Q (F0 m pc ls st0) := by
  subst hst
  refine vp_callSi (W.runS (As := As) (rest := rest) S hM cw ⟨gB_blind, fun U hU hW => ⟨rfl, by rw [hU]; exact hB, va_K.moved hW.alike hK⟩⟩ rfl hn hl rfl (lv_room hW) hdg hf) (fun r hr => ?_)
  subst hr
  exact kk
/-- a call of a writing method without an answer -/
theorem gc_wv (S : CallFix p m c cc nL s args Ts own) (hK : va_K D vwCl tys s) (hM : Met l y ws rm (va_Pc (.ref b :: As) (gB D tys B)) (va_Qv (fun _ : Unit => True) (fun _ t => B' t.heap) A1) 0 0 A1) (cw : CallW R s args own C index y bytes maxL ret ws rm 0 0 n) (hrecv : ∃ cellB : Cell, H[b]? = some cellB ∧ cellB.vm.isStatics = false ∧ s.vm.findClass C = some cellB.cls) (hB : B H) (hS : va_S A0 H0 H locs) (hA : ∀ q, A1 q → A0 q) (hn : As.length = n) (hl : ls.size = nL) (hst : st0 = As.reverse ++ .ref b :: rest) (hW : (rest.map fun v => v.category).sum ≤ 8) (hf : cells ≤ R.cells ∧ slots ≤ R.slots) (hdg : decode cc pc = .ok (.invokevirtual index, 3)) (kk : ∀ (H1 : Heap) (locs1 : List Loc), B' H1 → va_S A0 H0 H1 locs1 → H.size ≤ H1.size → (∀ q : Nat, q < H.size → ¬ A1 q → H1[q]? = H[q]?) → W p l e R s m args below meth c H1 locs1 cells slots Q (F0 m (pc + 3) ls rest)) : W p l e R s m args below meth c H locs cells slots Q (F0 m pc ls st0) := by
  subst hst
  exact va_callv (va_runV (As := As) (rest := rest) S hM cw ⟨gB_blind, hrecv, fun U hU hW => ⟨rfl, by rw [hU]; exact hB, va_K.moved hW.alike hK⟩⟩ rfl hn hl rfl (lv_room hW) hdg hf) hS (fun q _ h => hA q h) hA (fun u t H1 locs1 ht hvm hw hB' hz hk hS => kk H1 locs1 (by rw [← ht]; exact hB') hS hz hk)
/-- a call of a writing method with an int answer -/
theorem gc_wi {v : Int32} (S : CallFix p m c cc nL s args Ts own) (hK : va_K D vwCl tys s) (hM : Met l y ws rm (va_Pc (.ref b :: As) (gB D tys B)) (va_Qi (fun r (_ : Unit) => r = v) (fun _ t => B' t.heap) A1) 0 0 A1) (cw : CallW R s args own C index y bytes maxL ret ws rm 0 0 n) (hrecv : ∃ cellB : Cell, H[b]? = some cellB ∧ cellB.vm.isStatics = false ∧ s.vm.findClass C = some cellB.cls) (hB : B H) (hS : va_S A0 H0 H locs) (hA : ∀ q, A1 q → A0 q) (hn : As.length = n) (hl : ls.size = nL) (hst : st0 = As.reverse ++ .ref b :: rest) (hW : (rest.map fun v => v.category).sum ≤ 8) (hf : cells ≤ R.cells ∧ slots ≤ R.slots) (hdg : decode cc pc = .ok (.invokevirtual index, 3)) (kk : ∀ (H1 : Heap) (locs1 : List Loc), B' H1 → va_S A0 H0 H1 locs1 → H.size ≤ H1.size → (∀ q : Nat, q < H.size → ¬ A1 q → H1[q]? = H[q]?) → W p l e R s m args below meth c H1 locs1 cells slots Q (F0 m (pc + 3) ls (.int v :: rest))) : W p l e R s m args below meth c H locs cells slots Q (F0 m pc ls st0) := by
  subst hst
  exact va_calli (va_runV (As := As) (rest := rest) S hM cw ⟨gB_blind, hrecv, fun U hU hW => ⟨rfl, by rw [hU]; exact hB, va_K.moved hW.alike hK⟩⟩ rfl hn hl rfl (lv_room hW) hdg hf) hS (fun q _ h => hA q h) hA (fun r u t H1 locs1 ht hvm hw hB' hz hk hS => by subst hw; exact kk H1 locs1 (by rw [← ht]; exact hB') hS hz hk)
/-- the heap and the writes by names -/
theorem gc_at {H9 : Heap} {locs9 : List Loc} {g : JFrame} (hH : H = H9) (hlo : locs = locs9) (k : W p l e R s m args below meth c H locs cells slots Q g) : W p l e R s m args below meth c H9 locs9 cells slots Q g := by
  subst hH; subst hlo; exact k
/-- reading a place of an int row, its index by its number -/
theorem g_iald (hexec : p.tables.exec = Jvm.exec) (hb : c.code = cc) {cl : List vw_C} {wl : va_W} {a : Nat} (hK : va_K D cl tys s) (hP : va_P D cl wl H) (q0 t0 : Nat) {cA : ClassId} {n : Nat} {f : Nat → Int32} (ha : wl[q0]? = some (a, .inl (cA, n, .inl f))) (ht : tys[t0]? = some (cA, .int)) {i : Int32} {k : Nat} (hin : vp_in i n) (hk : i.toNatClampNeg = k) (hdg : decode cc pc = .ok (.iaload, 1))
    (kk : W p l e R s m args below meth c H locs cells slots Q (F0 m (pc + 1) ls (.int (f k) :: rest))) : W p l e R s m args below meth c H locs cells slots Q (F0 m pc ls (.int i :: .ref a :: rest)) := by
  subst hk
  exact va_iald hexec hb hK hP q0 t0 ha ht hin hdg kk
theorem g_iast (hexec : p.tables.exec = Jvm.exec) (hb : c.code = cc) {cl : List vw_C} {wl : va_W} {a : Nat} (hK : va_K D cl tys s) (hP : va_P D cl wl H) (hD : va_D A0 wl) (hS : va_S A0 H0 H locs) (q0 t0 : Nat) {cA : ClassId} {n : Nat} {f : Nat → Int32} (ha : wl[q0]? = some (a, .inl (cA, n, .inl f))) (ht : tys[t0]? = some (cA, .int)) {i : Int32} {k : Nat} {x : Int32} (hin : vp_in i n) (hk : i.toNatClampNeg = k) (hdg : decode cc pc = .ok (.iastore, 1))
    (kk : ∀ (H1 : Heap) (locs1 : List Loc), va_P D cl (wl.set q0 (a, .inl (cA, n, .inl (upd f k x)))) H1 → va_S A0 H0 H1 locs1 → W p l e R s m args below meth c H1 locs1 cells slots Q (F0 m (pc + 1) ls rest)) : W p l e R s m args below meth c H locs cells slots Q (F0 m pc ls (.int x :: .int i :: .ref a :: rest)) := by
  subst hk
  exact va_iast hexec hb hK hP hD hS q0 t0 ha ht hin hdg (fun H1 locs1 h1 _ h3 => kk H1 locs1 h1 h3)
theorem g_cald (hexec : p.tables.exec = Jvm.exec) (hb : c.code = cc) {cl : List vw_C} {wl : va_W} {a : Nat} (hK : va_K D cl tys s) (hP : va_P D cl wl H) (q0 t0 : Nat) {cA : ClassId} {n : Nat} {f : Nat → Int32} (ha : wl[q0]? = some (a, .inl (cA, n, .inl f))) (ht : tys[t0]? = some (cA, .char)) {i : Int32} {k : Nat} (hin : vp_in i n) (hk : i.toNatClampNeg = k) (hdg : decode cc pc = .ok (.caload, 1))
    (kk : W p l e R s m args below meth c H locs cells slots Q (F0 m (pc + 1) ls (.int (f k) :: rest))) : W p l e R s m args below meth c H locs cells slots Q (F0 m pc ls (.int i :: .ref a :: rest)) := by
  subst hk
  exact va_cald hexec hb hK hP q0 t0 ha ht hin hdg kk
theorem g_cast (hexec : p.tables.exec = Jvm.exec) (hb : c.code = cc) {cl : List vw_C} {wl : va_W} {a : Nat} (hK : va_K D cl tys s) (hP : va_P D cl wl H) (hD : va_D A0 wl) (hS : va_S A0 H0 H locs) (q0 t0 : Nat) {cA : ClassId} {n : Nat} {f : Nat → Int32} (ha : wl[q0]? = some (a, .inl (cA, n, .inl f))) (ht : tys[t0]? = some (cA, .char)) {i : Int32} {k : Nat} {x : Int32} (hin : vp_in i n) (hk : i.toNatClampNeg = k) (hdg : decode cc pc = .ok (.castore, 1))
    (kk : ∀ (H1 : Heap) (locs1 : List Loc), va_P D cl (wl.set q0 (a, .inl (cA, n, .inl (upd f k (vp_nar .char x))))) H1 → va_S A0 H0 H1 locs1 → W p l e R s m args below meth c H1 locs1 cells slots Q (F0 m (pc + 1) ls rest)) : W p l e R s m args below meth c H locs cells slots Q (F0 m pc ls (.int x :: .int i :: .ref a :: rest)) := by
  subst hk
  exact va_cast hexec hb hK hP hD hS q0 t0 ha ht hin hdg (fun H1 locs1 h1 _ h3 => kk H1 locs1 h1 h3)
theorem g_zald (hexec : p.tables.exec = Jvm.exec) (hb : c.code = cc) {cl : List vw_C} {wl : va_W} {a : Nat} (hK : va_K D cl tys s) (hP : va_P D cl wl H) (q0 t0 : Nat) {cA : ClassId} {n : Nat} {f : Nat → Int32} (ha : wl[q0]? = some (a, .inl (cA, n, .inl f))) (ht : tys[t0]? = some (cA, .boolean)) {i : Int32} {k : Nat} (hin : vp_in i n) (hk : i.toNatClampNeg = k) (hdg : decode cc pc = .ok (.baload, 1))
    (kk : W p l e R s m args below meth c H locs cells slots Q (F0 m (pc + 1) ls (.int (f k) :: rest))) : W p l e R s m args below meth c H locs cells slots Q (F0 m pc ls (.int i :: .ref a :: rest)) := by
  subst hk
  exact va_zald hexec hb hK hP q0 t0 ha ht hin hdg kk
theorem g_zast (hexec : p.tables.exec = Jvm.exec) (hb : c.code = cc) {cl : List vw_C} {wl : va_W} {a : Nat} (hK : va_K D cl tys s) (hP : va_P D cl wl H) (hD : va_D A0 wl) (hS : va_S A0 H0 H locs) (q0 t0 : Nat) {cA : ClassId} {n : Nat} {f : Nat → Int32} (ha : wl[q0]? = some (a, .inl (cA, n, .inl f))) (ht : tys[t0]? = some (cA, .boolean)) {i : Int32} {k : Nat} {x : Int32} (hin : vp_in i n) (hk : i.toNatClampNeg = k) (hdg : decode cc pc = .ok (.bastore, 1))
    (kk : ∀ (H1 : Heap) (locs1 : List Loc), va_P D cl (wl.set q0 (a, .inl (cA, n, .inl (upd f k (vp_nar .boolean x))))) H1 → va_S A0 H0 H1 locs1 → W p l e R s m args below meth c H1 locs1 cells slots Q (F0 m (pc + 1) ls rest)) : W p l e R s m args below meth c H locs cells slots Q (F0 m pc ls (.int x :: .int i :: .ref a :: rest)) := by
  subst hk
  exact va_zast hexec hb hK hP hD hS q0 t0 ha ht hin hdg (fun H1 locs1 h1 _ h3 => kk H1 locs1 h1 h3)
end GC
end
section
def fX0_clear_L2 : Nat → LSt → Int32 → Option (LSt)
  | 0, _, _ => none
  | n + 1, S, x1 => (if 12 ≤ x1 then some ((lWe S), (lCy S), (lWr S), (lPu S), (lSl S), (lPl S), (lSp S), (lSt S), (lLi S), (lN_ S), 0, 0, 0) else gd x1 12 ((fX0_clear_L2 n ((lWe S), (lCy S), (lWr S), (lPu S), (lSl S), (upd (lPl S) x1.toNatClampNeg (-1)), (lSp S), (lSt S), (lLi S), (lN_ S), (lStn S), (lClk S), (lRnd S)) (x1 + 1))))
def fX0_clear (L : LSt) : Option (LSt) := (fX0_clear_L2 KF L 0)
def fX0_has (L : LSt) (p0 : Int32) : Option (Int32) := (if p0 < 0 then some 0 else (if 12 ≤ p0 then some 0 else gd p0 12 ((if ((lPl L) p0.toNatClampNeg) = (-1) then some 0 else some 1))))
def fX0_hasSlot (L : LSt) (p0 : Int32) : Option (Int32) := (if p0 < 0 then some 0 else (if (lN_ L) ≤ p0 then some 0 else some 1))
def fX0_isIn (L : LSt) (p0 : Int32) (p1 : Int32) : Option (Int32) := gd p0 12 ((if ((lPl L) p0.toNatClampNeg) = p1 then some 1 else some 0))
def fX0_count_L4 (L : LSt) : Nat → Int32 → Int32 → Int32 → Option (Int32)
  | 0, _, _, _ => none
  | n + 1, x1, x2, x3 => (if 12 ≤ x3 then some x2 else gd x3 12 ((if ((lPl L) x3.toNatClampNeg) = x1 then (fX0_count_L4 L n x1 (x2 + 1) (x3 + 1)) else (fX0_count_L4 L n x1 x2 (x3 + 1)))))
def fX0_count (L : LSt) (p0 : Int32) : Option (Int32) := (fX0_count_L4 L KF p0 0 0)
def fX0_grips (L : LSt) : Option (Int32) := (fX0_count L (-1)).bind (fun r4 => some (12 - r4))
def fX0_isFull (L : LSt) : Option (Int32) := (fX0_count L (-1)).bind (fun r2 => (if r2 = 0 then some 1 else some 0))
def fX0_gripAt_L2 (L : LSt) : Nat → Int32 → Int32 → Option (Int32)
  | 0, _, _ => none
  | n + 1, x1, x2 => (if 12 ≤ x2 then some (-9) else gd x2 12 ((if ((lPl L) x2.toNatClampNeg) = 0 then (if ((lSp L) x2.toNatClampNeg) = x1 then some x2 else (fX0_gripAt_L2 L n x1 (x2 + 1))) else (fX0_gripAt_L2 L n x1 (x2 + 1)))))
def fX0_gripAt (L : LSt) (p0 : Int32) : Option (Int32) := (fX0_gripAt_L2 L KF p0 0)
def fX0_number (L : LSt) (p0 : Int32) (p1 : Int32) : Option (Int32) := (if p1 = 0 then gd p0 12 (some ((lWe L) p0.toNatClampNeg)) else if p1 = 1 then gd p0 12 (some ((lCy L) p0.toNatClampNeg)) else if p1 = 2 then gd p0 12 (some ((lWr L) p0.toNatClampNeg)) else if p1 = 3 then gd p0 12 (some ((lPu L) p0.toNatClampNeg)) else if p1 = 4 then gd p0 12 (some ((lSl L) p0.toNatClampNeg)) else if p1 = 5 then gd p0 12 (some ((lPl L) p0.toNatClampNeg)) else if p1 = 6 then gd p0 12 ((if ((lPl L) p0.toNatClampNeg) = 0 then some ((lSp L) p0.toNatClampNeg) else some (-9))) else gd p0 12 ((if ((lPl L) p0.toNatClampNeg) = 2 then some ((lSt L) p0.toNatClampNeg) else some (-9))))
def fX0_allPulls_L4 (L : LSt) : Nat → Int32 → Int32 → Option (Int32)
  | 0, _, _ => none
  | n + 1, x1, x2 => (if 12 ≤ x2 then some x1 else gd x2 12 ((if ((lPl L) x2.toNatClampNeg) = (-1) then (fX0_allPulls_L4 L n x1 (x2 + 1)) else (fX0_allPulls_L4 L n (x1 + ((lPu L) x2.toNatClampNeg)) (x2 + 1)))))
def fX0_allPulls (L : LSt) : Option (Int32) := (fX0_allPulls_L4 L KF 0 0)
def fX0_add (L : LSt) (p0 : Int32) : Option (LSt) := (fX0_grips L).bind (fun r1 => (if r1 < 12 then gd r1 12 (some ((upd (lWe L) r1.toNatClampNeg p0), (upd (lCy L) r1.toNatClampNeg 0), (upd (lWr L) r1.toNatClampNeg 0), (upd (lPu L) r1.toNatClampNeg 0), (upd (lSl L) r1.toNatClampNeg (-9)), (upd (lPl L) r1.toNatClampNeg 1), (lSp L), (lSt L), (lLi L), (lN_ L), (lStn L), (lClk L), (lRnd L))) else some L))
def fX0_hang (L : LSt) (p0 : Int32) (p1 : Int32) : Option (LSt) := gd p0 12 (some ((lWe L), (lCy L), (lWr L), (lPu L), (lSl L), (upd (lPl L) p0.toNatClampNeg 0), (upd (lSp L) p0.toNatClampNeg p1), (lSt L), (lLi L), (lN_ L), (lStn L), (lClk L), (lRnd L)))
def fX0_move (L : LSt) (p0 : Int32) (p1 : Int32) : Option (LSt) := gd p0 12 (some ((lWe L), (lCy L), (lWr L), (lPu L), (lSl L), (upd (lPl L) p0.toNatClampNeg p1), (lSp L), (lSt L), (lLi L), (lN_ L), (lStn L), (lClk L), (lRnd L)))
def fX0_distance (L : LSt) (p0 : Int32) (p1 : Int32) : Option (Int32) := (if p0 ≤ p1 then (if ((lN_ L) - (p1 - p0)) ≤ (p1 - p0) then some ((lN_ L) - (p1 - p0)) else some (p1 - p0)) else (if ((lN_ L) - (p0 - p1)) ≤ (p0 - p1) then some ((lN_ L) - (p0 - p1)) else some (p0 - p1)))
def fX0_isRoomAt_L2 (L : LSt) : Nat → Int32 → Int32 → Option (Int32)
  | 0, _, _ => none
  | n + 1, x1, x2 => (if 12 ≤ x2 then some 1 else gd x2 12 ((if ((lPl L) x2.toNatClampNeg) = 0 then (fX0_distance L ((lSp L) x2.toNatClampNeg) x1).bind (fun r25 => (if ((lLi L) 3) ≤ r25 then (fX0_isRoomAt_L2 L n x1 (x2 + 1)) else some 0)) else (fX0_isRoomAt_L2 L n x1 (x2 + 1)))))
def fX0_isRoomAt (L : LSt) (p0 : Int32) : Option (Int32) := (fX0_isRoomAt_L2 L KF p0 0)
def fX0_pass (L : LSt) (p0 : Int32) (p1 : Int32) : Option (Int32 × LSt) := gd p0 12 ((if ((upd (lCy L) p0.toNatClampNeg (((lCy L) p0.toNatClampNeg) + 1)) p0.toNatClampNeg) < ((lLi L) 0) then (if ((lLi L) 2) ≤ 0 then some (0, ((lWe L), (upd (lCy L) p0.toNatClampNeg (((lCy L) p0.toNatClampNeg) + 1)), (upd (lWr L) p0.toNatClampNeg (((lWr L) p0.toNatClampNeg) + (1 + ((lWe L) p0.toNatClampNeg)))), (lPu L), (lSl L), (lPl L), (lSp L), (lSt L), (lLi L), (lN_ L), (lStn L), (lClk L), (lRnd L))) else nz ((lLi L) 2) ((if (p1 - p1 / ((lLi L) 2) * ((lLi L) 2)) = 0 then (if ((lLi L) 1) < ((upd (lSl L) p0.toNatClampNeg ((((upd (lWr L) p0.toNatClampNeg (((lWr L) p0.toNatClampNeg) + (1 + ((lWe L) p0.toNatClampNeg)))) p0.toNatClampNeg) / 4) + ((p1 / 16) - (p1 / 16) / 5 * 5))) p0.toNatClampNeg) then some ((1 ||| 4), ((lWe L), (upd (lCy L) p0.toNatClampNeg (((lCy L) p0.toNatClampNeg) + 1)), (upd (lWr L) p0.toNatClampNeg (((lWr L) p0.toNatClampNeg) + (1 + ((lWe L) p0.toNatClampNeg)))), (upd (lPu L) p0.toNatClampNeg (((lPu L) p0.toNatClampNeg) + 1)), (upd (lSl L) p0.toNatClampNeg ((((upd (lWr L) p0.toNatClampNeg (((lWr L) p0.toNatClampNeg) + (1 + ((lWe L) p0.toNatClampNeg)))) p0.toNatClampNeg) / 4) + ((p1 / 16) - (p1 / 16) / 5 * 5))), (upd (lPl L) p0.toNatClampNeg 2), (lSp L), (upd (lSt L) p0.toNatClampNeg ((lLi L) 4)), (lLi L), (lN_ L), (lStn L), (lClk L), (lRnd L))) else some (1, ((lWe L), (upd (lCy L) p0.toNatClampNeg (((lCy L) p0.toNatClampNeg) + 1)), (upd (lWr L) p0.toNatClampNeg (((lWr L) p0.toNatClampNeg) + (1 + ((lWe L) p0.toNatClampNeg)))), (upd (lPu L) p0.toNatClampNeg (((lPu L) p0.toNatClampNeg) + 1)), (upd (lSl L) p0.toNatClampNeg ((((upd (lWr L) p0.toNatClampNeg (((lWr L) p0.toNatClampNeg) + (1 + ((lWe L) p0.toNatClampNeg)))) p0.toNatClampNeg) / 4) + ((p1 / 16) - (p1 / 16) / 5 * 5))), (lPl L), (lSp L), (lSt L), (lLi L), (lN_ L), (lStn L), (lClk L), (lRnd L)))) else some (0, ((lWe L), (upd (lCy L) p0.toNatClampNeg (((lCy L) p0.toNatClampNeg) + 1)), (upd (lWr L) p0.toNatClampNeg (((lWr L) p0.toNatClampNeg) + (1 + ((lWe L) p0.toNatClampNeg)))), (lPu L), (lSl L), (lPl L), (lSp L), (lSt L), (lLi L), (lN_ L), (lStn L), (lClk L), (lRnd L)))))) else (if ((lLi L) 2) ≤ 0 then some ((1 ||| 2), ((lWe L), (upd (lCy L) p0.toNatClampNeg (((lCy L) p0.toNatClampNeg) + 1)), (upd (lWr L) p0.toNatClampNeg (((lWr L) p0.toNatClampNeg) + (1 + ((lWe L) p0.toNatClampNeg)))), (upd (lPu L) p0.toNatClampNeg (((lPu L) p0.toNatClampNeg) + 1)), (upd (lSl L) p0.toNatClampNeg ((((upd (lWr L) p0.toNatClampNeg (((lWr L) p0.toNatClampNeg) + (1 + ((lWe L) p0.toNatClampNeg)))) p0.toNatClampNeg) / 4) + ((p1 / 16) - (p1 / 16) / 5 * 5))), (upd (lPl L) p0.toNatClampNeg 2), (lSp L), (upd (lSt L) p0.toNatClampNeg ((lLi L) 4)), (lLi L), (lN_ L), (lStn L), (lClk L), (lRnd L))) else nz ((lLi L) 2) ((if (p1 - p1 / ((lLi L) 2) * ((lLi L) 2)) = 0 then some ((1 ||| 2), ((lWe L), (upd (lCy L) p0.toNatClampNeg (((lCy L) p0.toNatClampNeg) + 1)), (upd (lWr L) p0.toNatClampNeg (((lWr L) p0.toNatClampNeg) + (1 + ((lWe L) p0.toNatClampNeg)))), (upd (lPu L) p0.toNatClampNeg (((lPu L) p0.toNatClampNeg) + 1)), (upd (lSl L) p0.toNatClampNeg ((((upd (lWr L) p0.toNatClampNeg (((lWr L) p0.toNatClampNeg) + (1 + ((lWe L) p0.toNatClampNeg)))) p0.toNatClampNeg) / 4) + ((p1 / 16) - (p1 / 16) / 5 * 5))), (upd (lPl L) p0.toNatClampNeg 2), (lSp L), (upd (lSt L) p0.toNatClampNeg ((lLi L) 4)), (lLi L), (lN_ L), (lStn L), (lClk L), (lRnd L))) else some ((1 ||| 2), ((lWe L), (upd (lCy L) p0.toNatClampNeg (((lCy L) p0.toNatClampNeg) + 1)), (upd (lWr L) p0.toNatClampNeg (((lWr L) p0.toNatClampNeg) + (1 + ((lWe L) p0.toNatClampNeg)))), (upd (lPu L) p0.toNatClampNeg (((lPu L) p0.toNatClampNeg) + 1)), (upd (lSl L) p0.toNatClampNeg ((((upd (lWr L) p0.toNatClampNeg (((lWr L) p0.toNatClampNeg) + (1 + ((lWe L) p0.toNatClampNeg)))) p0.toNatClampNeg) / 4) + ((p1 / 16) - (p1 / 16) / 5 * 5))), (upd (lPl L) p0.toNatClampNeg 2), (lSp L), (upd (lSt L) p0.toNatClampNeg ((lLi L) 4)), (lLi L), (lN_ L), (lStn L), (lClk L), (lRnd L))))))))
def fX0_repairAllBut_L2 : Nat → LSt → Int32 → Int32 → Option (LSt)
  | 0, _, _, _ => none
  | n + 1, S, x1, x2 => (if 12 ≤ x2 then some S else gd x2 12 ((if ((lPl S) x2.toNatClampNeg) = 2 then (if x2 = x1 then (fX0_repairAllBut_L2 n S x1 (x2 + 1)) else (if ((upd (lSt S) x2.toNatClampNeg (((lSt S) x2.toNatClampNeg) - 1)) x2.toNatClampNeg) ≤ 0 then (fX0_repairAllBut_L2 n ((lWe S), (upd (lCy S) x2.toNatClampNeg 0), (upd (lWr S) x2.toNatClampNeg 0), (lPu S), (lSl S), (upd (lPl S) x2.toNatClampNeg 1), (lSp S), (upd (lSt S) x2.toNatClampNeg (((lSt S) x2.toNatClampNeg) - 1)), (lLi S), (lN_ S), (lStn S), (lClk S), (lRnd S)) x1 (x2 + 1)) else (fX0_repairAllBut_L2 n ((lWe S), (lCy S), (lWr S), (lPu S), (lSl S), (lPl S), (lSp S), (upd (lSt S) x2.toNatClampNeg (((lSt S) x2.toNatClampNeg) - 1)), (lLi S), (lN_ S), (lStn S), (lClk S), (lRnd S)) x1 (x2 + 1)))) else (fX0_repairAllBut_L2 n S x1 (x2 + 1)))))
def fX0_repairAllBut (L : LSt) (p0 : Int32) : Option (LSt) := (fX0_repairAllBut_L2 KF L p0 0)
def fX0_fillStation_L6 : Nat → LSt → Int32 → Int32 → Option (Int32 × LSt)
  | 0, _, _, _ => none
  | n + 1, S, x1, x2 => (if x2 < 0 then (if x1 < 0 then some (0, S) else (fX0_isRoomAt S (lStn S)).bind (fun r59 => (if r59 = 0 then some (0, S) else (fX0_hang S x1 (lStn S)).bind (fun r73 => some (8, r73))))) else gd x2 12 ((if ((lPl S) x2.toNatClampNeg) = 1 then (if x1 < 0 then (fX0_fillStation_L6 n S x2 (x2 + (-1))) else gd x1 12 ((if ((lCy S) x1.toNatClampNeg) < ((lCy S) x2.toNatClampNeg) then (fX0_fillStation_L6 n S x1 (x2 + (-1))) else (fX0_fillStation_L6 n S x2 (x2 + (-1)))))) else (fX0_fillStation_L6 n S x1 (x2 + (-1))))))
def fX0_fillStation (L : LSt) : Option (Int32 × LSt) := (fX0_fillStation_L6 KF L (-9) 11)
def fX0_advance (L : LSt) : Option (Int32 × LSt) := (if (lN_ L) ≤ ((lStn L) + 1) then (fX0_gripAt ((lWe L), (lCy L), (lWr L), (lPu L), (lSl L), (lPl L), (lSp L), (lSt L), (lLi L), (lN_ L), 0, (lClk L), (((lRnd L) * 6364136223846793005) + 1442695040888963407)) 0).bind (fun r48 => (if 0 ≤ r48 then (fX0_pass ((lWe L), (lCy L), (lWr L), (lPu L), (lSl L), (lPl L), (lSp L), (lSt L), (lLi L), (lN_ L), 0, (lClk L), (((lRnd L) * 6364136223846793005) + 1442695040888963407)) r48 (((((((lRnd L) * 6364136223846793005) + 1442695040888963407)).toUInt64 >>> (((33 : Int32)).toInt64.toUInt64 &&& Int64.toUInt64 63)).toInt64).toInt32)).bind (fun r70 => (fX0_repairAllBut r70.2 r48).bind (fun r76 => (fX0_fillStation r76).bind (fun r81 => some ((r70.1 ||| r81.1), ((lWe r81.2), (lCy r81.2), (lWr r81.2), (lPu r81.2), (lSl r81.2), (lPl r81.2), (lSp r81.2), (lSt r81.2), (lLi r81.2), (lN_ r81.2), (lStn r81.2), ((lClk r81.2) + 1), (lRnd r81.2)))))) else (fX0_repairAllBut ((lWe L), (lCy L), (lWr L), (lPu L), (lSl L), (lPl L), (lSp L), (lSt L), (lLi L), (lN_ L), 0, (lClk L), (((lRnd L) * 6364136223846793005) + 1442695040888963407)) r48).bind (fun r76 => (fX0_fillStation r76).bind (fun r81 => some ((0 ||| r81.1), ((lWe r81.2), (lCy r81.2), (lWr r81.2), (lPu r81.2), (lSl r81.2), (lPl r81.2), (lSp r81.2), (lSt r81.2), (lLi r81.2), (lN_ r81.2), (lStn r81.2), ((lClk r81.2) + 1), (lRnd r81.2))))))) else (fX0_gripAt ((lWe L), (lCy L), (lWr L), (lPu L), (lSl L), (lPl L), (lSp L), (lSt L), (lLi L), (lN_ L), ((lStn L) + 1), (lClk L), (((lRnd L) * 6364136223846793005) + 1442695040888963407)) ((lStn L) + 1)).bind (fun r48 => (if 0 ≤ r48 then (fX0_pass ((lWe L), (lCy L), (lWr L), (lPu L), (lSl L), (lPl L), (lSp L), (lSt L), (lLi L), (lN_ L), ((lStn L) + 1), (lClk L), (((lRnd L) * 6364136223846793005) + 1442695040888963407)) r48 (((((((lRnd L) * 6364136223846793005) + 1442695040888963407)).toUInt64 >>> (((33 : Int32)).toInt64.toUInt64 &&& Int64.toUInt64 63)).toInt64).toInt32)).bind (fun r70 => (fX0_repairAllBut r70.2 r48).bind (fun r76 => (fX0_fillStation r76).bind (fun r81 => some ((r70.1 ||| r81.1), ((lWe r81.2), (lCy r81.2), (lWr r81.2), (lPu r81.2), (lSl r81.2), (lPl r81.2), (lSp r81.2), (lSt r81.2), (lLi r81.2), (lN_ r81.2), (lStn r81.2), ((lClk r81.2) + 1), (lRnd r81.2)))))) else (fX0_repairAllBut ((lWe L), (lCy L), (lWr L), (lPu L), (lSl L), (lPl L), (lSp L), (lSt L), (lLi L), (lN_ L), ((lStn L) + 1), (lClk L), (((lRnd L) * 6364136223846793005) + 1442695040888963407)) r48).bind (fun r76 => (fX0_fillStation r76).bind (fun r81 => some ((0 ||| r81.1), ((lWe r81.2), (lCy r81.2), (lWr r81.2), (lPu r81.2), (lSl r81.2), (lPl r81.2), (lSp r81.2), (lSt r81.2), (lLi r81.2), (lN_ r81.2), (lStn r81.2), ((lClk r81.2) + 1), (lRnd r81.2))))))))
def fX0_advanceBy_L2 : Nat → LSt → Int32 → Int32 → Option (LSt)
  | 0, _, _, _ => none
  | n + 1, S, x1, x2 => (if x1 ≤ x2 then some S else (fX0_advance S).bind (fun r8 => (fX0_advanceBy_L2 n r8.2 x1 (x2 + 1))))
def fX0_advanceBy (L : LSt) (p0 : Int32) : Option (LSt) := (fX0_advanceBy_L2 KF L p0 0)
def fX0_roomySlots_L4 (L : LSt) : Nat → Int32 → Int32 → Option (Int32)
  | 0, _, _ => none
  | n + 1, x1, x2 => (if (lN_ L) ≤ x2 then some x1 else (fX0_isRoomAt L x2).bind (fun r14 => (if r14 = 0 then (fX0_roomySlots_L4 L n x1 (x2 + 1)) else (fX0_roomySlots_L4 L n (x1 + 1) (x2 + 1)))))
def fX0_roomySlots (L : LSt) : Option (Int32) := (fX0_roomySlots_L4 L KF 0 0)
def fX0_slotsOn (L : LSt) (p0 : Int32) (p1 : Int32) : Option (Int32) := (if p1 ≤ p0 then some ((p1 - p0) + (lN_ L)) else some (p1 - p0))
def fX0_gapBehind_L7 (L : LSt) : Nat → Int32 → Int32 → Int32 → Option (Int32)
  | 0, _, _, _ => none
  | n + 1, x1, x2, x3 => (if 12 ≤ x3 then some x2 else gd x3 12 ((if ((lPl L) x3.toNatClampNeg) = 0 then gd x1 12 ((fX0_slotsOn L ((lSp L) x1.toNatClampNeg) ((lSp L) x3.toNatClampNeg)).bind (fun r36 => (fX0_gapBehind_L7 L n x1 (if r36 < x2 then r36 else x2) (x3 + 1)))) else (fX0_gapBehind_L7 L n x1 x2 (x3 + 1)))))
def fX0_gapBehind (L : LSt) (p0 : Int32) : Option (Int32) := (fX0_gapBehind_L7 L KF p0 (lN_ L) 0)
def fX0_smallestGap_L5 (L : LSt) : Nat → Int32 → Int32 → Option (Int32)
  | 0, _, _ => none
  | n + 1, x1, x2 => (if 12 ≤ x2 then some x1 else gd x2 12 ((if ((lPl L) x2.toNatClampNeg) = 0 then (fX0_gapBehind L x2).bind (fun r25 => (if x1 = (-9) then (fX0_smallestGap_L5 L n r25 (x2 + 1)) else (if x1 ≤ r25 then (fX0_smallestGap_L5 L n x1 (x2 + 1)) else (fX0_smallestGap_L5 L n r25 (x2 + 1))))) else (fX0_smallestGap_L5 L n x1 (x2 + 1)))))
def fX0_smallestGap (L : LSt) : Option (Int32) := (fX0_smallestGap_L5 L KF (-9) 0)
def fX0_capacity (L : LSt) : Option (Int32) := (if ((lLi L) 3) ≤ 0 then some 0 else nz ((lLi L) 3) (some ((lN_ L) / ((lLi L) 3))))
def fX0_stepsUntilDue (L : LSt) (p0 : Int32) : Option (Int32) := gd p0 12 ((fX0_slotsOn L (lStn L) ((lSp L) p0.toNatClampNeg)).bind (fun r29 => some (r29 + (((if 1 < (((lLi L) 0) - ((lCy L) p0.toNatClampNeg)) then (((lLi L) 0) - ((lCy L) p0.toNatClampNeg)) else 1) - 1) * (lN_ L)))))
def fX0_isGrouped (L : LSt) (p0 : Int32) : Option (Int32) := gd p0 12 ((if ((lPl L) p0.toNatClampNeg) = (-1) then some 0 else (if ((lPl L) p0.toNatClampNeg) = 3 then some 0 else some 1)))
def fX0_areTogether (L : LSt) (p0 : Int32) (p1 : Int32) : Option (Int32) := gd p0 12 (gd p1 12 ((if ((lWe L) p0.toNatClampNeg) = ((lWe L) p1.toNatClampNeg) then (if (((lCy L) p0.toNatClampNeg) / 10) = (((lCy L) p1.toNatClampNeg) / 10) then (fX0_isGrouped L p0).bind (fun r48 => (if r48 = 0 then some 0 else (fX0_isGrouped L p1).bind (fun r56 => (if r56 = 0 then some 0 else some 1)))) else some 0) else some 0)))
def fX0_opensGroup_L2 (L : LSt) : Nat → Int32 → Int32 → Option (Int32)
  | 0, _, _ => none
  | n + 1, x1, x2 => (if x1 ≤ x2 then (fX0_isGrouped L x1).bind (fun r26 => gz r26 (some r26)) else (fX0_areTogether L x1 x2).bind (fun r10 => (if r10 = 0 then (fX0_opensGroup_L2 L n x1 (x2 + 1)) else some 0)))
def fX0_opensGroup (L : LSt) (p0 : Int32) : Option (Int32) := (fX0_opensGroup_L2 L KF p0 0)
def fX0_groupSize_L4 (L : LSt) : Nat → Int32 → Int32 → Int32 → Option (Int32)
  | 0, _, _, _ => none
  | n + 1, x1, x2, x3 => (if 12 ≤ x3 then some x2 else (fX0_areTogether L x1 x3).bind (fun r13 => (if r13 = 0 then (fX0_groupSize_L4 L n x1 x2 (x3 + 1)) else (fX0_groupSize_L4 L n x1 (x2 + 1) (x3 + 1)))))
def fX0_groupSize (L : LSt) (p0 : Int32) : Option (Int32) := (fX0_groupSize_L4 L KF p0 0 0)
def fX0_become (X : LSt × LSt) : Option ((LSt × LSt)) := some (((va_cpy (lWe (pS X)) (lWe (pF X)) 0 0 12), (va_cpy (lCy (pS X)) (lCy (pF X)) 0 0 12), (va_cpy (lWr (pS X)) (lWr (pF X)) 0 0 12), (va_cpy (lPu (pS X)) (lPu (pF X)) 0 0 12), (va_cpy (lSl (pS X)) (lSl (pF X)) 0 0 12), (va_cpy (lPl (pS X)) (lPl (pF X)) 0 0 12), (va_cpy (lSp (pS X)) (lSp (pF X)) 0 0 12), (va_cpy (lSt (pS X)) (lSt (pF X)) 0 0 12), (va_cpy (lLi (pS X)) (lLi (pF X)) 0 0 5), (lN_ (pS X)), (lStn (pS X)), (lClk (pS X)), (lRnd (pS X))), (pS X))
end
section
set_option maxHeartbeats 4000000 in
set_option maxRecDepth 100000 in
theorem kX0_clear (l : Launch) (D : va_G) (cI cC cZ cQ cJ : ClassId) (q : Nat) (L : LSt) {R : LSt} (h : fX0_clear L = some R) : Met l yX0_clear wsX0_clear ({ frames := 0, cells := 0, slots := 0, locals := 0 } : Room) (va_Pc [.ref q] (gB D (gTy cI cC cZ cQ cJ) (va_P D vwCl (LW cI q L)))) (va_Qv (fun _ : Unit => True) (fun _ t => va_P D vwCl (LW cI q R) t.heap) (fIv q 10)) 0 0 (fIv q 10) := by
  refine Met.ofW (cc := cX0_clear) (maxL := 2) (ret := none) (by decide) rfl ?_
  intro p e s m args below meth c s₁ B hml hv
  obtain ⟨rfl, hP, hK⟩ := hv
  have hx := B.exec
  have hb := B.bytes
  have hr := B.returns
  have hts := atoms_spec (ws := wsX0_clear) B.pre
  have hown : s.vm.findClass RX0 = some m.cls := findClass_of_methodNamed B.named
  have hlocks := B.notSynchronized
  have hinX0 : ∀ w ∈ wsX00, w ∈ wsX0_clear := by decide +kernel
  have hf46 := hts (.fieldLink RX0 46 "GripInspector$Lift" "station" "I") (by decide +kernel)
  have hf49 := hts (.fieldLink RX0 49 "GripInspector$Lift" "clock" "I") (by decide +kernel)
  have hf52 := hts (.fieldLink RX0 52 "GripInspector$Lift" "randomState" "J") (by decide +kernel)
  have hf27 := hts (.fieldLink RX0 27 "GripInspector$Lift" "place" "[I") (by decide +kernel)
  generalize hRM : (headSpec wsX0_clear ({ frames := 0, cells := 0, slots := 0, locals := 0 } : Room)).room = RM
  replace hRM : ({ frames := 0, cells := 0, slots := 0, locals := 0 } : Room) = RM := hRM
  subst hRM
  have hl := lv_entry ([.ref q]) (n := 2) (Nat.le_of_ble_eq_true rfl)
  rw [lg_entry_eq]
  generalize (lg_sl ([.ref q]) ++ List.replicate (2 - (lg_sl ([.ref q])).length) Slot.unset).toArray = ls at hl ⊢
  have hl : lv_has ls 2 [(0, .ref q)] := hl
  have hS : va_S (fIv q 10) s.heap s.heap [] := va_S.rf
  have LP2 : ∀ (n : Nat) (S : LSt) (x1 : Int32) (H : Heap) (locs : List Loc) (ls : Array Slot), fX0_clear_L2 n S x1 = some R → va_P D vwCl (LW cI q S) H → va_S (fIv q 10) s.heap H locs → lv_has ls 2 [(0, .ref q), (1, .int x1)] → W p l e ({ frames := 0, cells := 0, slots := 0, locals := 0 } : Room) s m ([.ref q] : List Value).toArray below meth c H locs 0 0 (MQ below (va_Qv (fun _ : Unit => True) (fun _ t => va_P D vwCl (LW cI q R) t.heap) (fIv q 10)) ([.ref q] : List Value).toArray s 0 0 (fIv q 10)) (F0 m 2 ls []) := by
    intro n
    induction n with
    | zero => intro S x1 H locs ls h hP hS hl; exact no_some h
    | succ n ih =>
      intro S x1 H locs ls h hP hS hl
      rw [fX0_clear_L2] at h
      refine lv_iload_n hx hb dX0_clear_2 rfl (lv_at hl 1 rfl) ?_
      refine lv_bipush (v := 12) hx hb dX0_clear_3 (by decide) ?_
      refine lv_icmp_ge (tgt := 21) hx hb dX0_clear_5 (by decide) (fun c1 => ?_) (fun c1 => ?_)
      · replace h := (if_pos c1).symm.trans h
        refine lv_aload_n hx hb dX0_clear_21 rfl (lv_at hl 0 rfl) ?_
        refine lv_iconst (v := 0) hx hb dX0_clear_22 (by decide) ?_
        refine va_put (D := D) (ci := 0) (v := .int 0) (ty := .int) (C := RX0) (T := TX0) (N := 13) hx hb hts hinX0 tyX0 tyX0_ok nmX0 hown hK hP LW_self hS 0 rfl rfl 10 (by decide) hf46 (fun _ h9 => h9) rfl (by decide +kernel) rfl rfl (Nat.le_of_ble_eq_true rfl) dX0_clear_23 (fun H locs hP _ hS => ?_)
        have hP : va_P D vwCl (LW cI q ((lWe S), (lCy S), (lWr S), (lPu S), (lSl S), (lPl S), (lSp S), (lSt S), (lLi S), (lN_ S), 0, (lClk S), (lRnd S))) H := hP
        refine lv_aload_n hx hb dX0_clear_26 rfl (lv_at hl 0 rfl) ?_
        refine lv_iconst (v := 0) hx hb dX0_clear_27 (by decide) ?_
        refine va_put (D := D) (ci := 0) (v := .int 0) (ty := .int) (C := RX0) (T := TX0) (N := 13) hx hb hts hinX0 tyX0 tyX0_ok nmX0 hown hK hP LW_self hS 0 rfl rfl 11 (by decide) hf49 (fun _ h9 => h9) rfl (by decide +kernel) rfl rfl (Nat.le_of_ble_eq_true rfl) dX0_clear_28 (fun H locs hP _ hS => ?_)
        have hP : va_P D vwCl (LW cI q ((lWe S), (lCy S), (lWr S), (lPu S), (lSl S), (lPl S), (lSp S), (lSt S), (lLi S), (lN_ S), 0, 0, (lRnd S))) H := hP
        refine lv_aload_n hx hb dX0_clear_31 rfl (lv_at hl 0 rfl) ?_
        refine lv_lconst (v := 0) hx hb dX0_clear_32 (by decide) ?_
        refine va_put (D := D) (ci := 0) (v := .long 0) (ty := .long) (C := RX0) (T := TX0) (N := 13) hx hb hts hinX0 tyX0 tyX0_ok nmX0 hown hK hP LW_self hS 0 rfl rfl 12 (by decide) hf52 (fun _ h9 => h9) rfl (by decide +kernel) rfl rfl (Nat.le_of_ble_eq_true rfl) dX0_clear_33 (fun H locs hP _ hS => ?_)
        have hP : va_P D vwCl (LW cI q ((lWe S), (lCy S), (lWr S), (lPu S), (lSl S), (lPl S), (lSp S), (lSt S), (lLi S), (lN_ S), 0, 0, 0)) H := hP
        have h := Option.some.inj h
        subst h
        exact W.vret hx hb hr (fun t ht hW => ⟨⟨(), rfl, trivial, gh ht hP⟩, hS.F ht⟩) hS.2.2 dX0_clear_36
      · replace h := (if_neg c1).symm.trans h
        refine lv_aload_n hx hb dX0_clear_8 rfl (lv_at hl 0 rfl) ?_
        refine va_get (D := D) (ci := 0) (v := .ref (q + 6)) (C := RX0) (T := TX0) (N := 13) hx hb hts hinX0 hown hK hP 0 rfl rfl 5 (by decide) hf27 (fun _ h9 => h9) rfl dX0_clear_9 ?_
        refine lv_iload_n hx hb dX0_clear_12 rfl (lv_at hl 1 rfl) ?_
        refine lv_iconst (v := (-1)) hx hb dX0_clear_13 (by decide) ?_
        obtain ⟨hg2, h⟩ := gd_some h
        refine g_iast (f := (lPl S)) (k := x1.toNatClampNeg) hx hb hK hP LW_self hS 6 0 rfl rfl hg2 rfl dX0_clear_14 (fun H locs hP hS => ?_)
        have hP : va_P D vwCl (LW cI q ((lWe S), (lCy S), (lWr S), (lPu S), (lSl S), (upd (lPl S) x1.toNatClampNeg (-1)), (lSp S), (lSt S), (lLi S), (lN_ S), (lStn S), (lClk S), (lRnd S))) H := hP
        refine lv_iinc (v := (x1 + 1)) (lv' := [(1, .int (x1 + 1)), (0, .ref q)]) hx hb dX0_clear_15 hl (k := 1) rfl rfl (by decide) rfl (fun ls hl => ?_)
        refine lv_goto (tgt := 2) hx hb dX0_clear_18 (by decide) ?_
        exact ih ((lWe S), (lCy S), (lWr S), (lPu S), (lSl S), (upd (lPl S) x1.toNatClampNeg (-1)), (lSp S), (lSt S), (lLi S), (lN_ S), (lStn S), (lClk S), (lRnd S)) (x1 + 1) H locs ls h hP hS (lv_sub hl [1, 0] rfl)
  unfold fX0_clear at h
  obtain ⟨H, hH⟩ : ∃ H, H = s.heap := ⟨_, rfl⟩
  obtain ⟨locs, hlo⟩ : ∃ z : List Loc, z = [] := ⟨_, rfl⟩
  have hP : va_P D vwCl (LW cI q L) H := by rw [hH]; exact hP
  have hS : va_S (fIv q 10) s.heap H locs := by rw [hH, hlo]; exact hS
  refine gc_at hH hlo ?_
  refine lv_iconst (v := 0) hx hb dX0_clear_0 (by decide) ?_
  refine lv_istore_n (lv' := [(1, .int 0), (0, .ref q)]) hx hb dX0_clear_1 rfl hl (by decide) rfl (fun ls hl => ?_)
  exact LP2 KF L 0 H locs ls h hP hS (lv_sub hl [1, 0] rfl)
set_option maxHeartbeats 4000000 in
set_option maxRecDepth 100000 in
theorem kX0_has (l : Launch) (D : va_G) (cI cC cZ cQ cJ : ClassId) (q : Nat) (L : LSt) (p0 : Int32) {R : Int32} (h : fX0_has L p0 = some R) : Met l yX0_has wsX0_has ({ frames := 0, cells := 0, slots := 0, locals := 0 } : Room) (va_Pc [.ref q, .int p0] (gB D (gTy cI cC cZ cQ cJ) (va_P D vwCl (LW cI q L)))) (vp_Si (fun r => r = R)) 0 0 (fun _ => False) := by
  refine Met.ofW (cc := cX0_has) (maxL := 2) (ret := (some .boolean)) (by decide) rfl ?_
  intro p e s m args below meth c s₁ B hml hv
  obtain ⟨rfl, hP, hK⟩ := hv
  have hx := B.exec
  have hb := B.bytes
  have hr := B.returns
  have hts := atoms_spec (ws := wsX0_has) B.pre
  have hown : s.vm.findClass RX0 = some m.cls := findClass_of_methodNamed B.named
  have hlocks := B.notSynchronized
  have hinX0 : ∀ w ∈ wsX00, w ∈ wsX0_has := by decide +kernel
  have hf27 := hts (.fieldLink RX0 27 "GripInspector$Lift" "place" "[I") (by decide +kernel)
  generalize hRM : (headSpec wsX0_has ({ frames := 0, cells := 0, slots := 0, locals := 0 } : Room)).room = RM
  replace hRM : ({ frames := 0, cells := 0, slots := 0, locals := 0 } : Room) = RM := hRM
  subst hRM
  have hl := lv_entry ([.ref q, .int p0]) (n := 2) (Nat.le_of_ble_eq_true rfl)
  rw [lg_entry_eq]
  generalize (lg_sl ([.ref q, .int p0]) ++ List.replicate (2 - (lg_sl ([.ref q, .int p0])).length) Slot.unset).toArray = ls at hl ⊢
  have hl : lv_has ls 2 [(0, .ref q), (1, .int p0)] := hl
  unfold fX0_has at h
  refine lv_iload_n hx hb dX0_has_0 rfl (lv_at hl 1 rfl) ?_
  refine lv_if_lt (tgt := 24) hx hb dX0_has_1 (by decide) (fun c1 => ?_) (fun c1 => ?_)
  · replace h := (if_pos c1).symm.trans h
    refine lv_iconst (v := 0) hx hb dX0_has_24 (by decide) ?_
    have h := Option.some.inj h
    exact W.zret (v := 0) hx hb hr rfl (fun t ht hW => ⟨_, rfl, h, ht⟩) t_nil dX0_has_25
  · replace h := (if_neg c1).symm.trans h
    refine lv_iload_n hx hb dX0_has_4 rfl (lv_at hl 1 rfl) ?_
    refine lv_bipush (v := 12) hx hb dX0_has_5 (by decide) ?_
    refine lv_icmp_ge (tgt := 24) hx hb dX0_has_7 (by decide) (fun c2 => ?_) (fun c2 => ?_)
    · replace h := (if_pos c2).symm.trans h
      refine lv_iconst (v := 0) hx hb dX0_has_24 (by decide) ?_
      have h := Option.some.inj h
      exact W.zret (v := 0) hx hb hr rfl (fun t ht hW => ⟨_, rfl, h, ht⟩) t_nil dX0_has_25
    · replace h := (if_neg c2).symm.trans h
      refine lv_aload_n hx hb dX0_has_10 rfl (lv_at hl 0 rfl) ?_
      refine va_get (D := D) (ci := 0) (v := .ref (q + 6)) (C := RX0) (T := TX0) (N := 13) hx hb hts hinX0 hown hK hP 0 rfl rfl 5 (by decide) hf27 (fun _ h9 => h9) rfl dX0_has_11 ?_
      refine lv_iload_n hx hb dX0_has_14 rfl (lv_at hl 1 rfl) ?_
      obtain ⟨hg3, h⟩ := gd_some h
      refine g_iald (f := (lPl L)) (k := p0.toNatClampNeg) hx hb hK hP 6 0 rfl rfl hg3 rfl dX0_has_15 ?_
      refine lv_iconst (v := (-1)) hx hb dX0_has_16 (by decide) ?_
      refine lv_icmp_eq (tgt := 24) hx hb dX0_has_17 (by decide) (fun c4 => ?_) (fun c4 => ?_)
      · replace h := (if_pos c4).symm.trans h
        refine lv_iconst (v := 0) hx hb dX0_has_24 (by decide) ?_
        have h := Option.some.inj h
        exact W.zret (v := 0) hx hb hr rfl (fun t ht hW => ⟨_, rfl, h, ht⟩) t_nil dX0_has_25
      · replace h := (if_neg c4).symm.trans h
        refine lv_iconst (v := 1) hx hb dX0_has_20 (by decide) ?_
        refine lv_goto (tgt := 25) hx hb dX0_has_21 (by decide) ?_
        have h := Option.some.inj h
        exact W.zret (v := 1) hx hb hr rfl (fun t ht hW => ⟨_, rfl, h, ht⟩) t_nil dX0_has_25
set_option maxHeartbeats 4000000 in
set_option maxRecDepth 100000 in
theorem kX0_hasSlot (l : Launch) (D : va_G) (cI cC cZ cQ cJ : ClassId) (q : Nat) (L : LSt) (p0 : Int32) {R : Int32} (h : fX0_hasSlot L p0 = some R) : Met l yX0_hasSlot wsX0_hasSlot ({ frames := 0, cells := 0, slots := 0, locals := 0 } : Room) (va_Pc [.ref q, .int p0] (gB D (gTy cI cC cZ cQ cJ) (va_P D vwCl (LW cI q L)))) (vp_Si (fun r => r = R)) 0 0 (fun _ => False) := by
  refine Met.ofW (cc := cX0_hasSlot) (maxL := 2) (ret := (some .boolean)) (by decide) rfl ?_
  intro p e s m args below meth c s₁ B hml hv
  obtain ⟨rfl, hP, hK⟩ := hv
  have hx := B.exec
  have hb := B.bytes
  have hr := B.returns
  have hts := atoms_spec (ws := wsX0_hasSlot) B.pre
  have hown : s.vm.findClass RX0 = some m.cls := findClass_of_methodNamed B.named
  have hlocks := B.notSynchronized
  have hinX0 : ∀ w ∈ wsX00, w ∈ wsX0_hasSlot := by decide +kernel
  have hf42 := hts (.fieldLink RX0 42 "GripInspector$Lift" "n" "I") (by decide +kernel)
  generalize hRM : (headSpec wsX0_hasSlot ({ frames := 0, cells := 0, slots := 0, locals := 0 } : Room)).room = RM
  replace hRM : ({ frames := 0, cells := 0, slots := 0, locals := 0 } : Room) = RM := hRM
  subst hRM
  have hl := lv_entry ([.ref q, .int p0]) (n := 2) (Nat.le_of_ble_eq_true rfl)
  rw [lg_entry_eq]
  generalize (lg_sl ([.ref q, .int p0]) ++ List.replicate (2 - (lg_sl ([.ref q, .int p0])).length) Slot.unset).toArray = ls at hl ⊢
  have hl : lv_has ls 2 [(0, .ref q), (1, .int p0)] := hl
  unfold fX0_hasSlot at h
  refine lv_iload_n hx hb dX0_hasSlot_0 rfl (lv_at hl 1 rfl) ?_
  refine lv_if_lt (tgt := 16) hx hb dX0_hasSlot_1 (by decide) (fun c1 => ?_) (fun c1 => ?_)
  · replace h := (if_pos c1).symm.trans h
    refine lv_iconst (v := 0) hx hb dX0_hasSlot_16 (by decide) ?_
    have h := Option.some.inj h
    exact W.zret (v := 0) hx hb hr rfl (fun t ht hW => ⟨_, rfl, h, ht⟩) t_nil dX0_hasSlot_17
  · replace h := (if_neg c1).symm.trans h
    refine lv_iload_n hx hb dX0_hasSlot_4 rfl (lv_at hl 1 rfl) ?_
    refine lv_aload_n hx hb dX0_hasSlot_5 rfl (lv_at hl 0 rfl) ?_
    refine va_get (D := D) (ci := 0) (v := .int (lN_ L)) (C := RX0) (T := TX0) (N := 13) hx hb hts hinX0 hown hK hP 0 rfl rfl 9 (by decide) hf42 (fun _ h9 => h9) rfl dX0_hasSlot_6 ?_
    refine lv_icmp_ge (tgt := 16) hx hb dX0_hasSlot_9 (by decide) (fun c2 => ?_) (fun c2 => ?_)
    · replace h := (if_pos c2).symm.trans h
      refine lv_iconst (v := 0) hx hb dX0_hasSlot_16 (by decide) ?_
      have h := Option.some.inj h
      exact W.zret (v := 0) hx hb hr rfl (fun t ht hW => ⟨_, rfl, h, ht⟩) t_nil dX0_hasSlot_17
    · replace h := (if_neg c2).symm.trans h
      refine lv_iconst (v := 1) hx hb dX0_hasSlot_12 (by decide) ?_
      refine lv_goto (tgt := 17) hx hb dX0_hasSlot_13 (by decide) ?_
      have h := Option.some.inj h
      exact W.zret (v := 1) hx hb hr rfl (fun t ht hW => ⟨_, rfl, h, ht⟩) t_nil dX0_hasSlot_17
set_option maxHeartbeats 4000000 in
set_option maxRecDepth 100000 in
theorem kX0_isIn (l : Launch) (D : va_G) (cI cC cZ cQ cJ : ClassId) (q : Nat) (L : LSt) (p0 : Int32) (p1 : Int32) {R : Int32} (h : fX0_isIn L p0 p1 = some R) : Met l yX0_isIn wsX0_isIn ({ frames := 0, cells := 0, slots := 0, locals := 0 } : Room) (va_Pc [.ref q, .int p0, .int p1] (gB D (gTy cI cC cZ cQ cJ) (va_P D vwCl (LW cI q L)))) (vp_Si (fun r => r = R)) 0 0 (fun _ => False) := by
  refine Met.ofW (cc := cX0_isIn) (maxL := 3) (ret := (some .boolean)) (by decide) rfl ?_
  intro p e s m args below meth c s₁ B hml hv
  obtain ⟨rfl, hP, hK⟩ := hv
  have hx := B.exec
  have hb := B.bytes
  have hr := B.returns
  have hts := atoms_spec (ws := wsX0_isIn) B.pre
  have hown : s.vm.findClass RX0 = some m.cls := findClass_of_methodNamed B.named
  have hlocks := B.notSynchronized
  have hinX0 : ∀ w ∈ wsX00, w ∈ wsX0_isIn := by decide +kernel
  have hf27 := hts (.fieldLink RX0 27 "GripInspector$Lift" "place" "[I") (by decide +kernel)
  generalize hRM : (headSpec wsX0_isIn ({ frames := 0, cells := 0, slots := 0, locals := 0 } : Room)).room = RM
  replace hRM : ({ frames := 0, cells := 0, slots := 0, locals := 0 } : Room) = RM := hRM
  subst hRM
  have hl := lv_entry ([.ref q, .int p0, .int p1]) (n := 3) (Nat.le_of_ble_eq_true rfl)
  rw [lg_entry_eq]
  generalize (lg_sl ([.ref q, .int p0, .int p1]) ++ List.replicate (3 - (lg_sl ([.ref q, .int p0, .int p1])).length) Slot.unset).toArray = ls at hl ⊢
  have hl : lv_has ls 3 [(0, .ref q), (1, .int p0), (2, .int p1)] := hl
  unfold fX0_isIn at h
  refine lv_aload_n hx hb dX0_isIn_0 rfl (lv_at hl 0 rfl) ?_
  refine va_get (D := D) (ci := 0) (v := .ref (q + 6)) (C := RX0) (T := TX0) (N := 13) hx hb hts hinX0 hown hK hP 0 rfl rfl 5 (by decide) hf27 (fun _ h9 => h9) rfl dX0_isIn_1 ?_
  refine lv_iload_n hx hb dX0_isIn_4 rfl (lv_at hl 1 rfl) ?_
  obtain ⟨hg1, h⟩ := gd_some h
  refine g_iald (f := (lPl L)) (k := p0.toNatClampNeg) hx hb hK hP 6 0 rfl rfl hg1 rfl dX0_isIn_5 ?_
  refine lv_iload_n hx hb dX0_isIn_6 rfl (lv_at hl 2 rfl) ?_
  refine lv_icmp_ne (tgt := 14) hx hb dX0_isIn_7 (by decide) (fun c2 => ?_) (fun c2 => ?_)
  · replace h := (if_neg c2).symm.trans h
    refine lv_iconst (v := 0) hx hb dX0_isIn_14 (by decide) ?_
    have h := Option.some.inj h
    exact W.zret (v := 0) hx hb hr rfl (fun t ht hW => ⟨_, rfl, h, ht⟩) t_nil dX0_isIn_15
  · replace h := (if_pos c2).symm.trans h
    refine lv_iconst (v := 1) hx hb dX0_isIn_10 (by decide) ?_
    refine lv_goto (tgt := 15) hx hb dX0_isIn_11 (by decide) ?_
    have h := Option.some.inj h
    exact W.zret (v := 1) hx hb hr rfl (fun t ht hW => ⟨_, rfl, h, ht⟩) t_nil dX0_isIn_15
set_option maxHeartbeats 4000000 in
set_option maxRecDepth 100000 in
theorem kX0_count (l : Launch) (D : va_G) (cI cC cZ cQ cJ : ClassId) (q : Nat) (L : LSt) (p0 : Int32) {R : Int32} (h : fX0_count L p0 = some R) : Met l yX0_count wsX0_count ({ frames := 0, cells := 0, slots := 0, locals := 0 } : Room) (va_Pc [.ref q, .int p0] (gB D (gTy cI cC cZ cQ cJ) (va_P D vwCl (LW cI q L)))) (vp_Si (fun r => r = R)) 0 0 (fun _ => False) := by
  refine Met.ofW (cc := cX0_count) (maxL := 4) (ret := (some .int)) (by decide) rfl ?_
  intro p e s m args below meth c s₁ B hml hv
  obtain ⟨rfl, hP, hK⟩ := hv
  have hx := B.exec
  have hb := B.bytes
  have hr := B.returns
  have hts := atoms_spec (ws := wsX0_count) B.pre
  have hown : s.vm.findClass RX0 = some m.cls := findClass_of_methodNamed B.named
  have hlocks := B.notSynchronized
  have hinX0 : ∀ w ∈ wsX00, w ∈ wsX0_count := by decide +kernel
  have hf27 := hts (.fieldLink RX0 27 "GripInspector$Lift" "place" "[I") (by decide +kernel)
  generalize hRM : (headSpec wsX0_count ({ frames := 0, cells := 0, slots := 0, locals := 0 } : Room)).room = RM
  replace hRM : ({ frames := 0, cells := 0, slots := 0, locals := 0 } : Room) = RM := hRM
  subst hRM
  have hl := lv_entry ([.ref q, .int p0]) (n := 4) (Nat.le_of_ble_eq_true rfl)
  rw [lg_entry_eq]
  generalize (lg_sl ([.ref q, .int p0]) ++ List.replicate (4 - (lg_sl ([.ref q, .int p0])).length) Slot.unset).toArray = ls at hl ⊢
  have hl : lv_has ls 4 [(0, .ref q), (1, .int p0)] := hl
  have LP4 : ∀ (n : Nat) (x1 : Int32) (x2 : Int32) (x3 : Int32) (ls : Array Slot), fX0_count_L4 L n x1 x2 x3 = some R → lv_has ls 4 [(0, .ref q), (1, .int x1), (2, .int x2), (3, .int x3)] → W p l e ({ frames := 0, cells := 0, slots := 0, locals := 0 } : Room) s m ([.ref q, .int p0] : List Value).toArray below meth c s.heap [] 0 0 (MQ below (vp_Si (fun r => r = R)) ([.ref q, .int p0] : List Value).toArray s 0 0 (fun _ => False)) (F0 m 4 ls []) := by
    intro n
    induction n with
    | zero => intro x1 x2 x3 ls h hl; exact no_some h
    | succ n ih =>
      intro x1 x2 x3 ls h hl
      rw [fX0_count_L4] at h
      refine lv_iload_n hx hb dX0_count_4 rfl (lv_at hl 3 rfl) ?_
      refine lv_bipush (v := 12) hx hb dX0_count_5 (by decide) ?_
      refine lv_icmp_ge (tgt := 29) hx hb dX0_count_7 (by decide) (fun c1 => ?_) (fun c1 => ?_)
      · replace h := (if_pos c1).symm.trans h
        refine lv_iload_n hx hb dX0_count_29 rfl (lv_at hl 2 rfl) ?_
        have h := Option.some.inj h
        exact W.iret (v := x2) hx hb hr (fun t ht hW => ⟨_, rfl, h, ht⟩) t_nil dX0_count_30
      · replace h := (if_neg c1).symm.trans h
        refine lv_aload_n hx hb dX0_count_10 rfl (lv_at hl 0 rfl) ?_
        refine va_get (D := D) (ci := 0) (v := .ref (q + 6)) (C := RX0) (T := TX0) (N := 13) hx hb hts hinX0 hown hK hP 0 rfl rfl 5 (by decide) hf27 (fun _ h9 => h9) rfl dX0_count_11 ?_
        refine lv_iload_n hx hb dX0_count_14 rfl (lv_at hl 3 rfl) ?_
        obtain ⟨hg2, h⟩ := gd_some h
        refine g_iald (f := (lPl L)) (k := x3.toNatClampNeg) hx hb hK hP 6 0 rfl rfl hg2 rfl dX0_count_15 ?_
        refine lv_iload_n hx hb dX0_count_16 rfl (lv_at hl 1 rfl) ?_
        refine lv_icmp_ne (tgt := 23) hx hb dX0_count_17 (by decide) (fun c3 => ?_) (fun c3 => ?_)
        · replace h := (if_neg c3).symm.trans h
          refine lv_iinc (v := (x3 + 1)) (lv' := [(3, .int (x3 + 1)), (0, .ref q), (1, .int x1), (2, .int x2)]) hx hb dX0_count_23 hl (k := 3) rfl rfl (by decide) rfl (fun ls hl => ?_)
          refine lv_goto (tgt := 4) hx hb dX0_count_26 (by decide) ?_
          exact ih x1 x2 (x3 + 1) ls h (lv_sub hl [1, 2, 3, 0] rfl)
        · replace h := (if_pos c3).symm.trans h
          refine lv_iinc (v := (x2 + 1)) (lv' := [(2, .int (x2 + 1)), (0, .ref q), (1, .int x1), (3, .int x3)]) hx hb dX0_count_20 hl (k := 2) rfl rfl (by decide) rfl (fun ls hl => ?_)
          refine lv_iinc (v := (x3 + 1)) (lv' := [(3, .int (x3 + 1)), (2, .int (x2 + 1)), (0, .ref q), (1, .int x1)]) hx hb dX0_count_23 hl (k := 3) rfl rfl (by decide) rfl (fun ls hl => ?_)
          refine lv_goto (tgt := 4) hx hb dX0_count_26 (by decide) ?_
          exact ih x1 (x2 + 1) (x3 + 1) ls h (lv_sub hl [2, 3, 1, 0] rfl)
  unfold fX0_count at h
  refine lv_iconst (v := 0) hx hb dX0_count_0 (by decide) ?_
  refine lv_istore_n (lv' := [(2, .int 0), (0, .ref q), (1, .int p0)]) hx hb dX0_count_1 rfl hl (by decide) rfl (fun ls hl => ?_)
  refine lv_iconst (v := 0) hx hb dX0_count_2 (by decide) ?_
  refine lv_istore_n (lv' := [(3, .int 0), (2, .int 0), (0, .ref q), (1, .int p0)]) hx hb dX0_count_3 rfl hl (by decide) rfl (fun ls hl => ?_)
  exact LP4 KF p0 0 0 ls h (lv_sub hl [2, 3, 1, 0] rfl)
set_option maxHeartbeats 4000000 in
set_option maxRecDepth 100000 in
theorem kX0_grips (l : Launch) (D : va_G) (cI cC cZ cQ cJ : ClassId) (q : Nat) (L : LSt) {R : Int32} (h : fX0_grips L = some R) : Met l yX0_grips wsX0_grips ({ frames := 1, cells := 0, slots := 0, locals := 23 } : Room) (va_Pc [.ref q] (gB D (gTy cI cC cZ cQ cJ) (va_P D vwCl (LW cI q L)))) (vp_Si (fun r => r = R)) 0 0 (fun _ => False) := by
  refine Met.ofW (cc := cX0_grips) (maxL := 1) (ret := (some .int)) (by decide) rfl ?_
  intro p e s m args below meth c s₁ B hml hv
  obtain ⟨rfl, hP, hK⟩ := hv
  have hx := B.exec
  have hb := B.bytes
  have hr := B.returns
  have hts := atoms_spec (ws := wsX0_grips) B.pre
  have hown : s.vm.findClass RX0 = some m.cls := findClass_of_methodNamed B.named
  have hlocks := B.notSynchronized
  generalize hRM : (headSpec wsX0_grips ({ frames := 1, cells := 0, slots := 0, locals := 23 } : Room)).room = RM
  replace hRM : ({ frames := 1, cells := 0, slots := 0, locals := 23 } : Room) = RM := hRM
  subst hRM
  have hl := lv_entry ([.ref q]) (n := 1) (Nat.le_of_ble_eq_true rfl)
  rw [lg_entry_eq]
  generalize (lg_sl ([.ref q]) ++ List.replicate (1 - (lg_sl ([.ref q])).length) Slot.unset).toArray = ls at hl ⊢
  have hl : lv_has ls 1 [(0, .ref q)] := hl
  unfold fX0_grips at h
  refine lv_bipush (v := 12) hx hb dX0_grips_0 (by decide) ?_
  refine lv_aload_n hx hb dX0_grips_2 rfl (lv_at hl 0 rfl) ?_
  refine lv_iconst (v := (-1)) hx hb dX0_grips_3 (by decide) ?_
  obtain ⟨r4, hr4, h⟩ := bd_some h
  refine gc_ri (As := [.int (-1)]) (rest := [.int 12]) ⟨hx, hb, hml, hown, hts⟩ hK (kX0_count l D cI cC cZ cQ cJ q L (-1) hr4) (cwV 1 hts gX0_grips_X0_count rfl rfl rfl (by decide +kernel) ⟨Nat.le_of_ble_eq_true rfl, Nat.le_of_ble_eq_true rfl⟩) (va_recv hK hP (ci := 0) (q0 := 0) rfl rfl) hP rfl hl.1 rfl (Nat.le_of_ble_eq_true rfl) ⟨Nat.zero_le _, Nat.zero_le _⟩ dX0_grips_4 ?_
  refine lv_isub hx hb dX0_grips_7 ?_
  have h := Option.some.inj h
  exact W.iret (v := (12 - r4)) hx hb hr (fun t ht hW => ⟨_, rfl, h, ht⟩) t_nil dX0_grips_8
set_option maxHeartbeats 4000000 in
set_option maxRecDepth 100000 in
theorem kX0_isFull (l : Launch) (D : va_G) (cI cC cZ cQ cJ : ClassId) (q : Nat) (L : LSt) {R : Int32} (h : fX0_isFull L = some R) : Met l yX0_isFull wsX0_isFull ({ frames := 1, cells := 0, slots := 0, locals := 23 } : Room) (va_Pc [.ref q] (gB D (gTy cI cC cZ cQ cJ) (va_P D vwCl (LW cI q L)))) (vp_Si (fun r => r = R)) 0 0 (fun _ => False) := by
  refine Met.ofW (cc := cX0_isFull) (maxL := 1) (ret := (some .boolean)) (by decide) rfl ?_
  intro p e s m args below meth c s₁ B hml hv
  obtain ⟨rfl, hP, hK⟩ := hv
  have hx := B.exec
  have hb := B.bytes
  have hr := B.returns
  have hts := atoms_spec (ws := wsX0_isFull) B.pre
  have hown : s.vm.findClass RX0 = some m.cls := findClass_of_methodNamed B.named
  have hlocks := B.notSynchronized
  generalize hRM : (headSpec wsX0_isFull ({ frames := 1, cells := 0, slots := 0, locals := 23 } : Room)).room = RM
  replace hRM : ({ frames := 1, cells := 0, slots := 0, locals := 23 } : Room) = RM := hRM
  subst hRM
  have hl := lv_entry ([.ref q]) (n := 1) (Nat.le_of_ble_eq_true rfl)
  rw [lg_entry_eq]
  generalize (lg_sl ([.ref q]) ++ List.replicate (1 - (lg_sl ([.ref q])).length) Slot.unset).toArray = ls at hl ⊢
  have hl : lv_has ls 1 [(0, .ref q)] := hl
  unfold fX0_isFull at h
  refine lv_aload_n hx hb dX0_isFull_0 rfl (lv_at hl 0 rfl) ?_
  refine lv_iconst (v := (-1)) hx hb dX0_isFull_1 (by decide) ?_
  obtain ⟨r2, hr2, h⟩ := bd_some h
  refine gc_ri (As := [.int (-1)]) (rest := []) ⟨hx, hb, hml, hown, hts⟩ hK (kX0_count l D cI cC cZ cQ cJ q L (-1) hr2) (cwV 1 hts gX0_isFull_X0_count rfl rfl rfl (by decide +kernel) ⟨Nat.le_of_ble_eq_true rfl, Nat.le_of_ble_eq_true rfl⟩) (va_recv hK hP (ci := 0) (q0 := 0) rfl rfl) hP rfl hl.1 rfl (Nat.le_of_ble_eq_true rfl) ⟨Nat.zero_le _, Nat.zero_le _⟩ dX0_isFull_2 ?_
  refine lv_if_ne (tgt := 12) hx hb dX0_isFull_5 (by decide) (fun c1 => ?_) (fun c1 => ?_)
  · replace h := (if_neg c1).symm.trans h
    refine lv_iconst (v := 0) hx hb dX0_isFull_12 (by decide) ?_
    have h := Option.some.inj h
    exact W.zret (v := 0) hx hb hr rfl (fun t ht hW => ⟨_, rfl, h, ht⟩) t_nil dX0_isFull_13
  · replace h := (if_pos c1).symm.trans h
    refine lv_iconst (v := 1) hx hb dX0_isFull_8 (by decide) ?_
    refine lv_goto (tgt := 13) hx hb dX0_isFull_9 (by decide) ?_
    have h := Option.some.inj h
    exact W.zret (v := 1) hx hb hr rfl (fun t ht hW => ⟨_, rfl, h, ht⟩) t_nil dX0_isFull_13
set_option maxHeartbeats 4000000 in
set_option maxRecDepth 100000 in
theorem kX0_gripAt (l : Launch) (D : va_G) (cI cC cZ cQ cJ : ClassId) (q : Nat) (L : LSt) (p0 : Int32) {R : Int32} (h : fX0_gripAt L p0 = some R) : Met l yX0_gripAt wsX0_gripAt ({ frames := 0, cells := 0, slots := 0, locals := 0 } : Room) (va_Pc [.ref q, .int p0] (gB D (gTy cI cC cZ cQ cJ) (va_P D vwCl (LW cI q L)))) (vp_Si (fun r => r = R)) 0 0 (fun _ => False) := by
  refine Met.ofW (cc := cX0_gripAt) (maxL := 3) (ret := (some .int)) (by decide) rfl ?_
  intro p e s m args below meth c s₁ B hml hv
  obtain ⟨rfl, hP, hK⟩ := hv
  have hx := B.exec
  have hb := B.bytes
  have hr := B.returns
  have hts := atoms_spec (ws := wsX0_gripAt) B.pre
  have hown : s.vm.findClass RX0 = some m.cls := findClass_of_methodNamed B.named
  have hlocks := B.notSynchronized
  have hinX0 : ∀ w ∈ wsX00, w ∈ wsX0_gripAt := by decide +kernel
  have hf27 := hts (.fieldLink RX0 27 "GripInspector$Lift" "place" "[I") (by decide +kernel)
  have hf30 := hts (.fieldLink RX0 30 "GripInspector$Lift" "spot" "[I") (by decide +kernel)
  generalize hRM : (headSpec wsX0_gripAt ({ frames := 0, cells := 0, slots := 0, locals := 0 } : Room)).room = RM
  replace hRM : ({ frames := 0, cells := 0, slots := 0, locals := 0 } : Room) = RM := hRM
  subst hRM
  have hl := lv_entry ([.ref q, .int p0]) (n := 3) (Nat.le_of_ble_eq_true rfl)
  rw [lg_entry_eq]
  generalize (lg_sl ([.ref q, .int p0]) ++ List.replicate (3 - (lg_sl ([.ref q, .int p0])).length) Slot.unset).toArray = ls at hl ⊢
  have hl : lv_has ls 3 [(0, .ref q), (1, .int p0)] := hl
  have LP2 : ∀ (n : Nat) (x1 : Int32) (x2 : Int32) (ls : Array Slot), fX0_gripAt_L2 L n x1 x2 = some R → lv_has ls 3 [(0, .ref q), (1, .int x1), (2, .int x2)] → W p l e ({ frames := 0, cells := 0, slots := 0, locals := 0 } : Room) s m ([.ref q, .int p0] : List Value).toArray below meth c s.heap [] 0 0 (MQ below (vp_Si (fun r => r = R)) ([.ref q, .int p0] : List Value).toArray s 0 0 (fun _ => False)) (F0 m 2 ls []) := by
    intro n
    induction n with
    | zero => intro x1 x2 ls h hl; exact no_some h
    | succ n ih =>
      intro x1 x2 ls h hl
      rw [fX0_gripAt_L2] at h
      refine lv_iload_n hx hb dX0_gripAt_2 rfl (lv_at hl 2 rfl) ?_
      refine lv_bipush (v := 12) hx hb dX0_gripAt_3 (by decide) ?_
      refine lv_icmp_ge (tgt := 35) hx hb dX0_gripAt_5 (by decide) (fun c1 => ?_) (fun c1 => ?_)
      · replace h := (if_pos c1).symm.trans h
        refine lv_bipush (v := (-9)) hx hb dX0_gripAt_35 (by decide) ?_
        have h := Option.some.inj h
        exact W.iret (v := (-9)) hx hb hr (fun t ht hW => ⟨_, rfl, h, ht⟩) t_nil dX0_gripAt_37
      · replace h := (if_neg c1).symm.trans h
        refine lv_aload_n hx hb dX0_gripAt_8 rfl (lv_at hl 0 rfl) ?_
        refine va_get (D := D) (ci := 0) (v := .ref (q + 6)) (C := RX0) (T := TX0) (N := 13) hx hb hts hinX0 hown hK hP 0 rfl rfl 5 (by decide) hf27 (fun _ h9 => h9) rfl dX0_gripAt_9 ?_
        refine lv_iload_n hx hb dX0_gripAt_12 rfl (lv_at hl 2 rfl) ?_
        obtain ⟨hg2, h⟩ := gd_some h
        refine g_iald (f := (lPl L)) (k := x2.toNatClampNeg) hx hb hK hP 6 0 rfl rfl hg2 rfl dX0_gripAt_13 ?_
        refine lv_if_ne (tgt := 29) hx hb dX0_gripAt_14 (by decide) (fun c3 => ?_) (fun c3 => ?_)
        · replace h := (if_neg c3).symm.trans h
          refine lv_iinc (v := (x2 + 1)) (lv' := [(2, .int (x2 + 1)), (0, .ref q), (1, .int x1)]) hx hb dX0_gripAt_29 hl (k := 2) rfl rfl (by decide) rfl (fun ls hl => ?_)
          refine lv_goto (tgt := 2) hx hb dX0_gripAt_32 (by decide) ?_
          exact ih x1 (x2 + 1) ls h (lv_sub hl [1, 2, 0] rfl)
        · replace h := (if_pos c3).symm.trans h
          refine lv_aload_n hx hb dX0_gripAt_17 rfl (lv_at hl 0 rfl) ?_
          refine va_get (D := D) (ci := 0) (v := .ref (q + 7)) (C := RX0) (T := TX0) (N := 13) hx hb hts hinX0 hown hK hP 0 rfl rfl 6 (by decide) hf30 (fun _ h9 => h9) rfl dX0_gripAt_18 ?_
          refine lv_iload_n hx hb dX0_gripAt_21 rfl (lv_at hl 2 rfl) ?_
          refine g_iald (f := (lSp L)) (k := x2.toNatClampNeg) hx hb hK hP 7 0 rfl rfl hg2 rfl dX0_gripAt_22 ?_
          refine lv_iload_n hx hb dX0_gripAt_23 rfl (lv_at hl 1 rfl) ?_
          refine lv_icmp_ne (tgt := 29) hx hb dX0_gripAt_24 (by decide) (fun c4 => ?_) (fun c4 => ?_)
          · replace h := (if_neg c4).symm.trans h
            refine lv_iinc (v := (x2 + 1)) (lv' := [(2, .int (x2 + 1)), (0, .ref q), (1, .int x1)]) hx hb dX0_gripAt_29 hl (k := 2) rfl rfl (by decide) rfl (fun ls hl => ?_)
            refine lv_goto (tgt := 2) hx hb dX0_gripAt_32 (by decide) ?_
            exact ih x1 (x2 + 1) ls h (lv_sub hl [1, 2, 0] rfl)
          · replace h := (if_pos c4).symm.trans h
            refine lv_iload_n hx hb dX0_gripAt_27 rfl (lv_at hl 2 rfl) ?_
            have h := Option.some.inj h
            exact W.iret (v := x2) hx hb hr (fun t ht hW => ⟨_, rfl, h, ht⟩) t_nil dX0_gripAt_28
  unfold fX0_gripAt at h
  refine lv_iconst (v := 0) hx hb dX0_gripAt_0 (by decide) ?_
  refine lv_istore_n (lv' := [(2, .int 0), (0, .ref q), (1, .int p0)]) hx hb dX0_gripAt_1 rfl hl (by decide) rfl (fun ls hl => ?_)
  exact LP2 KF p0 0 ls h (lv_sub hl [1, 2, 0] rfl)
set_option maxHeartbeats 4000000 in
set_option maxRecDepth 100000 in
theorem kX0_number (l : Launch) (D : va_G) (cI cC cZ cQ cJ : ClassId) (q : Nat) (L : LSt) (p0 : Int32) (p1 : Int32) {R : Int32} (h : fX0_number L p0 p1 = some R) : Met l yX0_number wsX0_number ({ frames := 0, cells := 0, slots := 0, locals := 0 } : Room) (va_Pc [.ref q, .int p0, .int p1] (gB D (gTy cI cC cZ cQ cJ) (va_P D vwCl (LW cI q L)))) (vp_Si (fun r => r = R)) 0 0 (fun _ => False) := by
  refine Met.ofW (cc := cX0_number) (maxL := 3) (ret := (some .int)) (by decide) rfl ?_
  intro p e s m args below meth c s₁ B hml hv
  obtain ⟨rfl, hP, hK⟩ := hv
  have hx := B.exec
  have hb := B.bytes
  have hr := B.returns
  have hts := atoms_spec (ws := wsX0_number) B.pre
  have hown : s.vm.findClass RX0 = some m.cls := findClass_of_methodNamed B.named
  have hlocks := B.notSynchronized
  have hinX0 : ∀ w ∈ wsX00, w ∈ wsX0_number := by decide +kernel
  have hf9 := hts (.fieldLink RX0 9 "GripInspector$Lift" "weight" "[I") (by decide +kernel)
  have hf15 := hts (.fieldLink RX0 15 "GripInspector$Lift" "cycles" "[I") (by decide +kernel)
  have hf18 := hts (.fieldLink RX0 18 "GripInspector$Lift" "wear" "[I") (by decide +kernel)
  have hf21 := hts (.fieldLink RX0 21 "GripInspector$Lift" "pulls" "[I") (by decide +kernel)
  have hf24 := hts (.fieldLink RX0 24 "GripInspector$Lift" "lastSlip" "[I") (by decide +kernel)
  have hf27 := hts (.fieldLink RX0 27 "GripInspector$Lift" "place" "[I") (by decide +kernel)
  have hf30 := hts (.fieldLink RX0 30 "GripInspector$Lift" "spot" "[I") (by decide +kernel)
  have hf33 := hts (.fieldLink RX0 33 "GripInspector$Lift" "stepsLeft" "[I") (by decide +kernel)
  generalize hRM : (headSpec wsX0_number ({ frames := 0, cells := 0, slots := 0, locals := 0 } : Room)).room = RM
  replace hRM : ({ frames := 0, cells := 0, slots := 0, locals := 0 } : Room) = RM := hRM
  subst hRM
  have hl := lv_entry ([.ref q, .int p0, .int p1]) (n := 3) (Nat.le_of_ble_eq_true rfl)
  rw [lg_entry_eq]
  generalize (lg_sl ([.ref q, .int p0, .int p1]) ++ List.replicate (3 - (lg_sl ([.ref q, .int p0, .int p1])).length) Slot.unset).toArray = ls at hl ⊢
  have hl : lv_has ls 3 [(0, .ref q), (1, .int p0), (2, .int p1)] := hl
  unfold fX0_number at h
  refine lv_iload_n hx hb dX0_number_0 rfl (lv_at hl 2 rfl) ?_
  by_cases c1 : p1 = 0
  · replace h := (if_pos c1).symm.trans h
    refine lv_tableIn (off := 43) (tgt := 44) hx hb dX0_number_1 (by rw [c1]; decide) (by rw [c1]; decide) (by rw [c1]; rfl) (by decide) ?_
    refine lv_aload_n hx hb dX0_number_44 rfl (lv_at hl 0 rfl) ?_
    refine va_get (D := D) (ci := 0) (v := .ref (q + 1)) (C := RX0) (T := TX0) (N := 13) hx hb hts hinX0 hown hK hP 0 rfl rfl 0 (by decide) hf9 (fun _ h9 => h9) rfl dX0_number_45 ?_
    refine lv_iload_n hx hb dX0_number_48 rfl (lv_at hl 1 rfl) ?_
    obtain ⟨hg2, h⟩ := gd_some h
    refine g_iald (f := (lWe L)) (k := p0.toNatClampNeg) hx hb hK hP 1 0 rfl rfl hg2 rfl dX0_number_49 ?_
    have h := Option.some.inj h
    exact W.iret (v := ((lWe L) p0.toNatClampNeg)) hx hb hr (fun t ht hW => ⟨_, rfl, h, ht⟩) t_nil dX0_number_50
  · replace h := (if_neg c1).symm.trans h
    by_cases c3 : p1 = 1
    · replace h := (if_pos c3).symm.trans h
      refine lv_tableIn (off := 50) (tgt := 51) hx hb dX0_number_1 (by rw [c3]; decide) (by rw [c3]; decide) (by rw [c3]; rfl) (by decide) ?_
      refine lv_aload_n hx hb dX0_number_51 rfl (lv_at hl 0 rfl) ?_
      refine va_get (D := D) (ci := 0) (v := .ref (q + 2)) (C := RX0) (T := TX0) (N := 13) hx hb hts hinX0 hown hK hP 0 rfl rfl 1 (by decide) hf15 (fun _ h9 => h9) rfl dX0_number_52 ?_
      refine lv_iload_n hx hb dX0_number_55 rfl (lv_at hl 1 rfl) ?_
      obtain ⟨hg4, h⟩ := gd_some h
      refine g_iald (f := (lCy L)) (k := p0.toNatClampNeg) hx hb hK hP 2 0 rfl rfl hg4 rfl dX0_number_56 ?_
      have h := Option.some.inj h
      exact W.iret (v := ((lCy L) p0.toNatClampNeg)) hx hb hr (fun t ht hW => ⟨_, rfl, h, ht⟩) t_nil dX0_number_57
    · replace h := (if_neg c3).symm.trans h
      by_cases c5 : p1 = 2
      · replace h := (if_pos c5).symm.trans h
        refine lv_tableIn (off := 57) (tgt := 58) hx hb dX0_number_1 (by rw [c5]; decide) (by rw [c5]; decide) (by rw [c5]; rfl) (by decide) ?_
        refine lv_aload_n hx hb dX0_number_58 rfl (lv_at hl 0 rfl) ?_
        refine va_get (D := D) (ci := 0) (v := .ref (q + 3)) (C := RX0) (T := TX0) (N := 13) hx hb hts hinX0 hown hK hP 0 rfl rfl 2 (by decide) hf18 (fun _ h9 => h9) rfl dX0_number_59 ?_
        refine lv_iload_n hx hb dX0_number_62 rfl (lv_at hl 1 rfl) ?_
        obtain ⟨hg6, h⟩ := gd_some h
        refine g_iald (f := (lWr L)) (k := p0.toNatClampNeg) hx hb hK hP 3 0 rfl rfl hg6 rfl dX0_number_63 ?_
        have h := Option.some.inj h
        exact W.iret (v := ((lWr L) p0.toNatClampNeg)) hx hb hr (fun t ht hW => ⟨_, rfl, h, ht⟩) t_nil dX0_number_64
      · replace h := (if_neg c5).symm.trans h
        by_cases c7 : p1 = 3
        · replace h := (if_pos c7).symm.trans h
          refine lv_tableIn (off := 64) (tgt := 65) hx hb dX0_number_1 (by rw [c7]; decide) (by rw [c7]; decide) (by rw [c7]; rfl) (by decide) ?_
          refine lv_aload_n hx hb dX0_number_65 rfl (lv_at hl 0 rfl) ?_
          refine va_get (D := D) (ci := 0) (v := .ref (q + 4)) (C := RX0) (T := TX0) (N := 13) hx hb hts hinX0 hown hK hP 0 rfl rfl 3 (by decide) hf21 (fun _ h9 => h9) rfl dX0_number_66 ?_
          refine lv_iload_n hx hb dX0_number_69 rfl (lv_at hl 1 rfl) ?_
          obtain ⟨hg8, h⟩ := gd_some h
          refine g_iald (f := (lPu L)) (k := p0.toNatClampNeg) hx hb hK hP 4 0 rfl rfl hg8 rfl dX0_number_70 ?_
          have h := Option.some.inj h
          exact W.iret (v := ((lPu L) p0.toNatClampNeg)) hx hb hr (fun t ht hW => ⟨_, rfl, h, ht⟩) t_nil dX0_number_71
        · replace h := (if_neg c7).symm.trans h
          by_cases c9 : p1 = 4
          · replace h := (if_pos c9).symm.trans h
            refine lv_tableIn (off := 71) (tgt := 72) hx hb dX0_number_1 (by rw [c9]; decide) (by rw [c9]; decide) (by rw [c9]; rfl) (by decide) ?_
            refine lv_aload_n hx hb dX0_number_72 rfl (lv_at hl 0 rfl) ?_
            refine va_get (D := D) (ci := 0) (v := .ref (q + 5)) (C := RX0) (T := TX0) (N := 13) hx hb hts hinX0 hown hK hP 0 rfl rfl 4 (by decide) hf24 (fun _ h9 => h9) rfl dX0_number_73 ?_
            refine lv_iload_n hx hb dX0_number_76 rfl (lv_at hl 1 rfl) ?_
            obtain ⟨hg10, h⟩ := gd_some h
            refine g_iald (f := (lSl L)) (k := p0.toNatClampNeg) hx hb hK hP 5 0 rfl rfl hg10 rfl dX0_number_77 ?_
            have h := Option.some.inj h
            exact W.iret (v := ((lSl L) p0.toNatClampNeg)) hx hb hr (fun t ht hW => ⟨_, rfl, h, ht⟩) t_nil dX0_number_78
          · replace h := (if_neg c9).symm.trans h
            by_cases c11 : p1 = 5
            · replace h := (if_pos c11).symm.trans h
              refine lv_tableIn (off := 78) (tgt := 79) hx hb dX0_number_1 (by rw [c11]; decide) (by rw [c11]; decide) (by rw [c11]; rfl) (by decide) ?_
              refine lv_aload_n hx hb dX0_number_79 rfl (lv_at hl 0 rfl) ?_
              refine va_get (D := D) (ci := 0) (v := .ref (q + 6)) (C := RX0) (T := TX0) (N := 13) hx hb hts hinX0 hown hK hP 0 rfl rfl 5 (by decide) hf27 (fun _ h9 => h9) rfl dX0_number_80 ?_
              refine lv_iload_n hx hb dX0_number_83 rfl (lv_at hl 1 rfl) ?_
              obtain ⟨hg12, h⟩ := gd_some h
              refine g_iald (f := (lPl L)) (k := p0.toNatClampNeg) hx hb hK hP 6 0 rfl rfl hg12 rfl dX0_number_84 ?_
              have h := Option.some.inj h
              exact W.iret (v := ((lPl L) p0.toNatClampNeg)) hx hb hr (fun t ht hW => ⟨_, rfl, h, ht⟩) t_nil dX0_number_85
            · replace h := (if_neg c11).symm.trans h
              by_cases c13 : p1 = 6
              · replace h := (if_pos c13).symm.trans h
                refine lv_tableIn (off := 85) (tgt := 86) hx hb dX0_number_1 (by rw [c13]; decide) (by rw [c13]; decide) (by rw [c13]; rfl) (by decide) ?_
                refine lv_aload_n hx hb dX0_number_86 rfl (lv_at hl 0 rfl) ?_
                refine va_get (D := D) (ci := 0) (v := .ref (q + 6)) (C := RX0) (T := TX0) (N := 13) hx hb hts hinX0 hown hK hP 0 rfl rfl 5 (by decide) hf27 (fun _ h9 => h9) rfl dX0_number_87 ?_
                refine lv_iload_n hx hb dX0_number_90 rfl (lv_at hl 1 rfl) ?_
                obtain ⟨hg14, h⟩ := gd_some h
                refine g_iald (f := (lPl L)) (k := p0.toNatClampNeg) hx hb hK hP 6 0 rfl rfl hg14 rfl dX0_number_91 ?_
                refine lv_if_ne (tgt := 104) hx hb dX0_number_92 (by decide) (fun c15 => ?_) (fun c15 => ?_)
                · replace h := (if_neg c15).symm.trans h
                  refine lv_bipush (v := (-9)) hx hb dX0_number_104 (by decide) ?_
                  have h := Option.some.inj h
                  exact W.iret (v := (-9)) hx hb hr (fun t ht hW => ⟨_, rfl, h, ht⟩) t_nil dX0_number_106
                · replace h := (if_pos c15).symm.trans h
                  refine lv_aload_n hx hb dX0_number_95 rfl (lv_at hl 0 rfl) ?_
                  refine va_get (D := D) (ci := 0) (v := .ref (q + 7)) (C := RX0) (T := TX0) (N := 13) hx hb hts hinX0 hown hK hP 0 rfl rfl 6 (by decide) hf30 (fun _ h9 => h9) rfl dX0_number_96 ?_
                  refine lv_iload_n hx hb dX0_number_99 rfl (lv_at hl 1 rfl) ?_
                  refine g_iald (f := (lSp L)) (k := p0.toNatClampNeg) hx hb hK hP 7 0 rfl rfl hg14 rfl dX0_number_100 ?_
                  refine lv_goto (tgt := 106) hx hb dX0_number_101 (by decide) ?_
                  have h := Option.some.inj h
                  exact W.iret (v := ((lSp L) p0.toNatClampNeg)) hx hb hr (fun t ht hW => ⟨_, rfl, h, ht⟩) t_nil dX0_number_106
              · replace h := (if_neg c13).symm.trans h
                refine lv_tableOut (tgt := 107) hx hb dX0_number_1 (gsw_out 0 6 (x := p1) ?_) (by decide) ?_
                · intro k h1 h2 hk
                  rcases (show k = 0 ∨ k = 1 ∨ k = 2 ∨ k = 3 ∨ k = 4 ∨ k = 5 ∨ k = 6 by omega) with rfl | rfl | rfl | rfl | rfl | rfl | rfl
                  · exact lv_neT c1 (by decide) hk
                  · exact lv_neT c3 (by decide) hk
                  · exact lv_neT c5 (by decide) hk
                  · exact lv_neT c7 (by decide) hk
                  · exact lv_neT c9 (by decide) hk
                  · exact lv_neT c11 (by decide) hk
                  · exact lv_neT c13 (by decide) hk
                · refine lv_aload_n hx hb dX0_number_107 rfl (lv_at hl 0 rfl) ?_
                  refine va_get (D := D) (ci := 0) (v := .ref (q + 6)) (C := RX0) (T := TX0) (N := 13) hx hb hts hinX0 hown hK hP 0 rfl rfl 5 (by decide) hf27 (fun _ h9 => h9) rfl dX0_number_108 ?_
                  refine lv_iload_n hx hb dX0_number_111 rfl (lv_at hl 1 rfl) ?_
                  obtain ⟨hg16, h⟩ := gd_some h
                  refine g_iald (f := (lPl L)) (k := p0.toNatClampNeg) hx hb hK hP 6 0 rfl rfl hg16 rfl dX0_number_112 ?_
                  refine lv_iconst (v := 2) hx hb dX0_number_113 (by decide) ?_
                  refine lv_icmp_ne (tgt := 126) hx hb dX0_number_114 (by decide) (fun c17 => ?_) (fun c17 => ?_)
                  · replace h := (if_neg c17).symm.trans h
                    refine lv_bipush (v := (-9)) hx hb dX0_number_126 (by decide) ?_
                    have h := Option.some.inj h
                    exact W.iret (v := (-9)) hx hb hr (fun t ht hW => ⟨_, rfl, h, ht⟩) t_nil dX0_number_128
                  · replace h := (if_pos c17).symm.trans h
                    refine lv_aload_n hx hb dX0_number_117 rfl (lv_at hl 0 rfl) ?_
                    refine va_get (D := D) (ci := 0) (v := .ref (q + 8)) (C := RX0) (T := TX0) (N := 13) hx hb hts hinX0 hown hK hP 0 rfl rfl 7 (by decide) hf33 (fun _ h9 => h9) rfl dX0_number_118 ?_
                    refine lv_iload_n hx hb dX0_number_121 rfl (lv_at hl 1 rfl) ?_
                    refine g_iald (f := (lSt L)) (k := p0.toNatClampNeg) hx hb hK hP 8 0 rfl rfl hg16 rfl dX0_number_122 ?_
                    refine lv_goto (tgt := 128) hx hb dX0_number_123 (by decide) ?_
                    have h := Option.some.inj h
                    exact W.iret (v := ((lSt L) p0.toNatClampNeg)) hx hb hr (fun t ht hW => ⟨_, rfl, h, ht⟩) t_nil dX0_number_128
set_option maxHeartbeats 4000000 in
set_option maxRecDepth 100000 in
theorem kX0_allPulls (l : Launch) (D : va_G) (cI cC cZ cQ cJ : ClassId) (q : Nat) (L : LSt) {R : Int32} (h : fX0_allPulls L = some R) : Met l yX0_allPulls wsX0_allPulls ({ frames := 0, cells := 0, slots := 0, locals := 0 } : Room) (va_Pc [.ref q] (gB D (gTy cI cC cZ cQ cJ) (va_P D vwCl (LW cI q L)))) (vp_Si (fun r => r = R)) 0 0 (fun _ => False) := by
  refine Met.ofW (cc := cX0_allPulls) (maxL := 3) (ret := (some .int)) (by decide) rfl ?_
  intro p e s m args below meth c s₁ B hml hv
  obtain ⟨rfl, hP, hK⟩ := hv
  have hx := B.exec
  have hb := B.bytes
  have hr := B.returns
  have hts := atoms_spec (ws := wsX0_allPulls) B.pre
  have hown : s.vm.findClass RX0 = some m.cls := findClass_of_methodNamed B.named
  have hlocks := B.notSynchronized
  have hinX0 : ∀ w ∈ wsX00, w ∈ wsX0_allPulls := by decide +kernel
  have hf27 := hts (.fieldLink RX0 27 "GripInspector$Lift" "place" "[I") (by decide +kernel)
  have hf21 := hts (.fieldLink RX0 21 "GripInspector$Lift" "pulls" "[I") (by decide +kernel)
  generalize hRM : (headSpec wsX0_allPulls ({ frames := 0, cells := 0, slots := 0, locals := 0 } : Room)).room = RM
  replace hRM : ({ frames := 0, cells := 0, slots := 0, locals := 0 } : Room) = RM := hRM
  subst hRM
  have hl := lv_entry ([.ref q]) (n := 3) (Nat.le_of_ble_eq_true rfl)
  rw [lg_entry_eq]
  generalize (lg_sl ([.ref q]) ++ List.replicate (3 - (lg_sl ([.ref q])).length) Slot.unset).toArray = ls at hl ⊢
  have hl : lv_has ls 3 [(0, .ref q)] := hl
  have LP4 : ∀ (n : Nat) (x1 : Int32) (x2 : Int32) (ls : Array Slot), fX0_allPulls_L4 L n x1 x2 = some R → lv_has ls 3 [(0, .ref q), (1, .int x1), (2, .int x2)] → W p l e ({ frames := 0, cells := 0, slots := 0, locals := 0 } : Room) s m ([.ref q] : List Value).toArray below meth c s.heap [] 0 0 (MQ below (vp_Si (fun r => r = R)) ([.ref q] : List Value).toArray s 0 0 (fun _ => False)) (F0 m 4 ls []) := by
    intro n
    induction n with
    | zero => intro x1 x2 ls h hl; exact no_some h
    | succ n ih =>
      intro x1 x2 ls h hl
      rw [fX0_allPulls_L4] at h
      refine lv_iload_n hx hb dX0_allPulls_4 rfl (lv_at hl 2 rfl) ?_
      refine lv_bipush (v := 12) hx hb dX0_allPulls_5 (by decide) ?_
      refine lv_icmp_ge (tgt := 35) hx hb dX0_allPulls_7 (by decide) (fun c1 => ?_) (fun c1 => ?_)
      · replace h := (if_pos c1).symm.trans h
        refine lv_iload_n hx hb dX0_allPulls_35 rfl (lv_at hl 1 rfl) ?_
        have h := Option.some.inj h
        exact W.iret (v := x1) hx hb hr (fun t ht hW => ⟨_, rfl, h, ht⟩) t_nil dX0_allPulls_36
      · replace h := (if_neg c1).symm.trans h
        refine lv_aload_n hx hb dX0_allPulls_10 rfl (lv_at hl 0 rfl) ?_
        refine va_get (D := D) (ci := 0) (v := .ref (q + 6)) (C := RX0) (T := TX0) (N := 13) hx hb hts hinX0 hown hK hP 0 rfl rfl 5 (by decide) hf27 (fun _ h9 => h9) rfl dX0_allPulls_11 ?_
        refine lv_iload_n hx hb dX0_allPulls_14 rfl (lv_at hl 2 rfl) ?_
        obtain ⟨hg2, h⟩ := gd_some h
        refine g_iald (f := (lPl L)) (k := x2.toNatClampNeg) hx hb hK hP 6 0 rfl rfl hg2 rfl dX0_allPulls_15 ?_
        refine lv_iconst (v := (-1)) hx hb dX0_allPulls_16 (by decide) ?_
        refine lv_icmp_eq (tgt := 29) hx hb dX0_allPulls_17 (by decide) (fun c3 => ?_) (fun c3 => ?_)
        · replace h := (if_pos c3).symm.trans h
          refine lv_iinc (v := (x2 + 1)) (lv' := [(2, .int (x2 + 1)), (0, .ref q), (1, .int x1)]) hx hb dX0_allPulls_29 hl (k := 2) rfl rfl (by decide) rfl (fun ls hl => ?_)
          refine lv_goto (tgt := 4) hx hb dX0_allPulls_32 (by decide) ?_
          exact ih x1 (x2 + 1) ls h (lv_sub hl [1, 2, 0] rfl)
        · replace h := (if_neg c3).symm.trans h
          refine lv_iload_n hx hb dX0_allPulls_20 rfl (lv_at hl 1 rfl) ?_
          refine lv_aload_n hx hb dX0_allPulls_21 rfl (lv_at hl 0 rfl) ?_
          refine va_get (D := D) (ci := 0) (v := .ref (q + 4)) (C := RX0) (T := TX0) (N := 13) hx hb hts hinX0 hown hK hP 0 rfl rfl 3 (by decide) hf21 (fun _ h9 => h9) rfl dX0_allPulls_22 ?_
          refine lv_iload_n hx hb dX0_allPulls_25 rfl (lv_at hl 2 rfl) ?_
          refine g_iald (f := (lPu L)) (k := x2.toNatClampNeg) hx hb hK hP 4 0 rfl rfl hg2 rfl dX0_allPulls_26 ?_
          refine lv_iadd hx hb dX0_allPulls_27 ?_
          refine lv_istore_n (lv' := [(1, .int (x1 + ((lPu L) x2.toNatClampNeg))), (0, .ref q), (2, .int x2)]) hx hb dX0_allPulls_28 rfl hl (by decide) rfl (fun ls hl => ?_)
          refine lv_iinc (v := (x2 + 1)) (lv' := [(2, .int (x2 + 1)), (1, .int (x1 + ((lPu L) x2.toNatClampNeg))), (0, .ref q)]) hx hb dX0_allPulls_29 hl (k := 2) rfl rfl (by decide) rfl (fun ls hl => ?_)
          refine lv_goto (tgt := 4) hx hb dX0_allPulls_32 (by decide) ?_
          exact ih (x1 + ((lPu L) x2.toNatClampNeg)) (x2 + 1) ls h (lv_sub hl [2, 1, 0] rfl)
  unfold fX0_allPulls at h
  refine lv_iconst (v := 0) hx hb dX0_allPulls_0 (by decide) ?_
  refine lv_istore_n (lv' := [(1, .int 0), (0, .ref q)]) hx hb dX0_allPulls_1 rfl hl (by decide) rfl (fun ls hl => ?_)
  refine lv_iconst (v := 0) hx hb dX0_allPulls_2 (by decide) ?_
  refine lv_istore_n (lv' := [(2, .int 0), (1, .int 0), (0, .ref q)]) hx hb dX0_allPulls_3 rfl hl (by decide) rfl (fun ls hl => ?_)
  exact LP4 KF 0 0 ls h (lv_sub hl [2, 1, 0] rfl)
set_option maxHeartbeats 4000000 in
set_option maxRecDepth 100000 in
theorem kX0_add (l : Launch) (D : va_G) (cI cC cZ cQ cJ : ClassId) (q : Nat) (L : LSt) (p0 : Int32) {R : LSt} (h : fX0_add L p0 = some R) : Met l yX0_add wsX0_add ({ frames := 2, cells := 0, slots := 0, locals := 43 } : Room) (va_Pc [.ref q, .int p0] (gB D (gTy cI cC cZ cQ cJ) (va_P D vwCl (LW cI q L)))) (va_Qv (fun _ : Unit => True) (fun _ t => va_P D vwCl (LW cI q R) t.heap) (fIv q 10)) 0 0 (fIv q 10) := by
  refine Met.ofW (cc := cX0_add) (maxL := 3) (ret := none) (by decide) rfl ?_
  intro p e s m args below meth c s₁ B hml hv
  obtain ⟨rfl, hP, hK⟩ := hv
  have hx := B.exec
  have hb := B.bytes
  have hr := B.returns
  have hts := atoms_spec (ws := wsX0_add) B.pre
  have hown : s.vm.findClass RX0 = some m.cls := findClass_of_methodNamed B.named
  have hlocks := B.notSynchronized
  have hinX0 : ∀ w ∈ wsX00, w ∈ wsX0_add := by decide +kernel
  have hf9 := hts (.fieldLink RX0 9 "GripInspector$Lift" "weight" "[I") (by decide +kernel)
  have hf15 := hts (.fieldLink RX0 15 "GripInspector$Lift" "cycles" "[I") (by decide +kernel)
  have hf18 := hts (.fieldLink RX0 18 "GripInspector$Lift" "wear" "[I") (by decide +kernel)
  have hf21 := hts (.fieldLink RX0 21 "GripInspector$Lift" "pulls" "[I") (by decide +kernel)
  have hf24 := hts (.fieldLink RX0 24 "GripInspector$Lift" "lastSlip" "[I") (by decide +kernel)
  have hf27 := hts (.fieldLink RX0 27 "GripInspector$Lift" "place" "[I") (by decide +kernel)
  generalize hRM : (headSpec wsX0_add ({ frames := 2, cells := 0, slots := 0, locals := 43 } : Room)).room = RM
  replace hRM : ({ frames := 2, cells := 0, slots := 0, locals := 43 } : Room) = RM := hRM
  subst hRM
  have hl := lv_entry ([.ref q, .int p0]) (n := 3) (Nat.le_of_ble_eq_true rfl)
  rw [lg_entry_eq]
  generalize (lg_sl ([.ref q, .int p0]) ++ List.replicate (3 - (lg_sl ([.ref q, .int p0])).length) Slot.unset).toArray = ls at hl ⊢
  have hl : lv_has ls 3 [(0, .ref q), (1, .int p0)] := hl
  have hS : va_S (fIv q 10) s.heap s.heap [] := va_S.rf
  unfold fX0_add at h
  obtain ⟨H, hH⟩ : ∃ H, H = s.heap := ⟨_, rfl⟩
  obtain ⟨locs, hlo⟩ : ∃ z : List Loc, z = [] := ⟨_, rfl⟩
  have hP : va_P D vwCl (LW cI q L) H := by rw [hH]; exact hP
  have hS : va_S (fIv q 10) s.heap H locs := by rw [hH, hlo]; exact hS
  refine gc_at hH hlo ?_
  refine lv_aload_n hx hb dX0_add_0 rfl (lv_at hl 0 rfl) ?_
  obtain ⟨r1, hr1, h⟩ := bd_some h
  refine gc_ri (As := []) (rest := []) ⟨hx, hb, hml, hown, hts⟩ hK (kX0_grips l D cI cC cZ cQ cJ q L hr1) (cwV 0 hts gX0_add_X0_grips rfl rfl rfl (by decide +kernel) ⟨Nat.le_of_ble_eq_true rfl, Nat.le_of_ble_eq_true rfl⟩) (va_recv hK hP (ci := 0) (q0 := 0) rfl rfl) hP rfl hl.1 rfl (Nat.le_of_ble_eq_true rfl) ⟨Nat.zero_le _, Nat.zero_le _⟩ dX0_add_1 ?_
  refine lv_istore_n (lv' := [(2, .int r1), (0, .ref q), (1, .int p0)]) hx hb dX0_add_4 rfl hl (by decide) rfl (fun ls hl => ?_)
  refine lv_iload_n hx hb dX0_add_5 rfl (lv_at hl 0 rfl) ?_
  refine lv_bipush (v := 12) hx hb dX0_add_6 (by decide) ?_
  refine lv_icmp_lt (tgt := 12) hx hb dX0_add_8 (by decide) (fun c1 => ?_) (fun c1 => ?_)
  · replace h := (if_pos c1).symm.trans h
    refine lv_aload_n hx hb dX0_add_12 rfl (lv_at hl 1 rfl) ?_
    refine va_get (D := D) (ci := 0) (v := .ref (q + 1)) (C := RX0) (T := TX0) (N := 13) hx hb hts hinX0 hown hK hP 0 rfl rfl 0 (by decide) hf9 (fun _ h9 => h9) rfl dX0_add_13 ?_
    refine lv_iload_n hx hb dX0_add_16 rfl (lv_at hl 0 rfl) ?_
    refine lv_iload_n hx hb dX0_add_17 rfl (lv_at hl 2 rfl) ?_
    obtain ⟨hg2, h⟩ := gd_some h
    refine g_iast (f := (lWe L)) (k := r1.toNatClampNeg) hx hb hK hP LW_self hS 1 0 rfl rfl hg2 rfl dX0_add_18 (fun H locs hP hS => ?_)
    have hP : va_P D vwCl (LW cI q ((upd (lWe L) r1.toNatClampNeg p0), (lCy L), (lWr L), (lPu L), (lSl L), (lPl L), (lSp L), (lSt L), (lLi L), (lN_ L), (lStn L), (lClk L), (lRnd L))) H := hP
    refine lv_aload_n hx hb dX0_add_19 rfl (lv_at hl 1 rfl) ?_
    refine va_get (D := D) (ci := 0) (v := .ref (q + 2)) (C := RX0) (T := TX0) (N := 13) hx hb hts hinX0 hown hK hP 0 rfl rfl 1 (by decide) hf15 (fun _ h9 => h9) rfl dX0_add_20 ?_
    refine lv_iload_n hx hb dX0_add_23 rfl (lv_at hl 0 rfl) ?_
    refine lv_iconst (v := 0) hx hb dX0_add_24 (by decide) ?_
    refine g_iast (f := (lCy L)) (k := r1.toNatClampNeg) hx hb hK hP LW_self hS 2 0 rfl rfl hg2 rfl dX0_add_25 (fun H locs hP hS => ?_)
    have hP : va_P D vwCl (LW cI q ((upd (lWe L) r1.toNatClampNeg p0), (upd (lCy L) r1.toNatClampNeg 0), (lWr L), (lPu L), (lSl L), (lPl L), (lSp L), (lSt L), (lLi L), (lN_ L), (lStn L), (lClk L), (lRnd L))) H := hP
    refine lv_aload_n hx hb dX0_add_26 rfl (lv_at hl 1 rfl) ?_
    refine va_get (D := D) (ci := 0) (v := .ref (q + 3)) (C := RX0) (T := TX0) (N := 13) hx hb hts hinX0 hown hK hP 0 rfl rfl 2 (by decide) hf18 (fun _ h9 => h9) rfl dX0_add_27 ?_
    refine lv_iload_n hx hb dX0_add_30 rfl (lv_at hl 0 rfl) ?_
    refine lv_iconst (v := 0) hx hb dX0_add_31 (by decide) ?_
    refine g_iast (f := (lWr L)) (k := r1.toNatClampNeg) hx hb hK hP LW_self hS 3 0 rfl rfl hg2 rfl dX0_add_32 (fun H locs hP hS => ?_)
    have hP : va_P D vwCl (LW cI q ((upd (lWe L) r1.toNatClampNeg p0), (upd (lCy L) r1.toNatClampNeg 0), (upd (lWr L) r1.toNatClampNeg 0), (lPu L), (lSl L), (lPl L), (lSp L), (lSt L), (lLi L), (lN_ L), (lStn L), (lClk L), (lRnd L))) H := hP
    refine lv_aload_n hx hb dX0_add_33 rfl (lv_at hl 1 rfl) ?_
    refine va_get (D := D) (ci := 0) (v := .ref (q + 4)) (C := RX0) (T := TX0) (N := 13) hx hb hts hinX0 hown hK hP 0 rfl rfl 3 (by decide) hf21 (fun _ h9 => h9) rfl dX0_add_34 ?_
    refine lv_iload_n hx hb dX0_add_37 rfl (lv_at hl 0 rfl) ?_
    refine lv_iconst (v := 0) hx hb dX0_add_38 (by decide) ?_
    refine g_iast (f := (lPu L)) (k := r1.toNatClampNeg) hx hb hK hP LW_self hS 4 0 rfl rfl hg2 rfl dX0_add_39 (fun H locs hP hS => ?_)
    have hP : va_P D vwCl (LW cI q ((upd (lWe L) r1.toNatClampNeg p0), (upd (lCy L) r1.toNatClampNeg 0), (upd (lWr L) r1.toNatClampNeg 0), (upd (lPu L) r1.toNatClampNeg 0), (lSl L), (lPl L), (lSp L), (lSt L), (lLi L), (lN_ L), (lStn L), (lClk L), (lRnd L))) H := hP
    refine lv_aload_n hx hb dX0_add_40 rfl (lv_at hl 1 rfl) ?_
    refine va_get (D := D) (ci := 0) (v := .ref (q + 5)) (C := RX0) (T := TX0) (N := 13) hx hb hts hinX0 hown hK hP 0 rfl rfl 4 (by decide) hf24 (fun _ h9 => h9) rfl dX0_add_41 ?_
    refine lv_iload_n hx hb dX0_add_44 rfl (lv_at hl 0 rfl) ?_
    refine lv_bipush (v := (-9)) hx hb dX0_add_45 (by decide) ?_
    refine g_iast (f := (lSl L)) (k := r1.toNatClampNeg) hx hb hK hP LW_self hS 5 0 rfl rfl hg2 rfl dX0_add_47 (fun H locs hP hS => ?_)
    have hP : va_P D vwCl (LW cI q ((upd (lWe L) r1.toNatClampNeg p0), (upd (lCy L) r1.toNatClampNeg 0), (upd (lWr L) r1.toNatClampNeg 0), (upd (lPu L) r1.toNatClampNeg 0), (upd (lSl L) r1.toNatClampNeg (-9)), (lPl L), (lSp L), (lSt L), (lLi L), (lN_ L), (lStn L), (lClk L), (lRnd L))) H := hP
    refine lv_aload_n hx hb dX0_add_48 rfl (lv_at hl 1 rfl) ?_
    refine va_get (D := D) (ci := 0) (v := .ref (q + 6)) (C := RX0) (T := TX0) (N := 13) hx hb hts hinX0 hown hK hP 0 rfl rfl 5 (by decide) hf27 (fun _ h9 => h9) rfl dX0_add_49 ?_
    refine lv_iload_n hx hb dX0_add_52 rfl (lv_at hl 0 rfl) ?_
    refine lv_iconst (v := 1) hx hb dX0_add_53 (by decide) ?_
    refine g_iast (f := (lPl L)) (k := r1.toNatClampNeg) hx hb hK hP LW_self hS 6 0 rfl rfl hg2 rfl dX0_add_54 (fun H locs hP hS => ?_)
    have hP : va_P D vwCl (LW cI q ((upd (lWe L) r1.toNatClampNeg p0), (upd (lCy L) r1.toNatClampNeg 0), (upd (lWr L) r1.toNatClampNeg 0), (upd (lPu L) r1.toNatClampNeg 0), (upd (lSl L) r1.toNatClampNeg (-9)), (upd (lPl L) r1.toNatClampNeg 1), (lSp L), (lSt L), (lLi L), (lN_ L), (lStn L), (lClk L), (lRnd L))) H := hP
    have h := Option.some.inj h
    subst h
    exact W.vret hx hb hr (fun t ht hW => ⟨⟨(), rfl, trivial, gh ht hP⟩, hS.F ht⟩) hS.2.2 dX0_add_55
  · replace h := (if_neg c1).symm.trans h
    have h := Option.some.inj h
    subst h
    exact W.vret hx hb hr (fun t ht hW => ⟨⟨(), rfl, trivial, gh ht hP⟩, hS.F ht⟩) hS.2.2 dX0_add_11
set_option maxHeartbeats 4000000 in
set_option maxRecDepth 100000 in
theorem kX0_hang (l : Launch) (D : va_G) (cI cC cZ cQ cJ : ClassId) (q : Nat) (L : LSt) (p0 : Int32) (p1 : Int32) {R : LSt} (h : fX0_hang L p0 p1 = some R) : Met l yX0_hang wsX0_hang ({ frames := 0, cells := 0, slots := 0, locals := 0 } : Room) (va_Pc [.ref q, .int p0, .int p1] (gB D (gTy cI cC cZ cQ cJ) (va_P D vwCl (LW cI q L)))) (va_Qv (fun _ : Unit => True) (fun _ t => va_P D vwCl (LW cI q R) t.heap) (fIv q 10)) 0 0 (fIv q 10) := by
  refine Met.ofW (cc := cX0_hang) (maxL := 3) (ret := none) (by decide) rfl ?_
  intro p e s m args below meth c s₁ B hml hv
  obtain ⟨rfl, hP, hK⟩ := hv
  have hx := B.exec
  have hb := B.bytes
  have hr := B.returns
  have hts := atoms_spec (ws := wsX0_hang) B.pre
  have hown : s.vm.findClass RX0 = some m.cls := findClass_of_methodNamed B.named
  have hlocks := B.notSynchronized
  have hinX0 : ∀ w ∈ wsX00, w ∈ wsX0_hang := by decide +kernel
  have hf27 := hts (.fieldLink RX0 27 "GripInspector$Lift" "place" "[I") (by decide +kernel)
  have hf30 := hts (.fieldLink RX0 30 "GripInspector$Lift" "spot" "[I") (by decide +kernel)
  generalize hRM : (headSpec wsX0_hang ({ frames := 0, cells := 0, slots := 0, locals := 0 } : Room)).room = RM
  replace hRM : ({ frames := 0, cells := 0, slots := 0, locals := 0 } : Room) = RM := hRM
  subst hRM
  have hl := lv_entry ([.ref q, .int p0, .int p1]) (n := 3) (Nat.le_of_ble_eq_true rfl)
  rw [lg_entry_eq]
  generalize (lg_sl ([.ref q, .int p0, .int p1]) ++ List.replicate (3 - (lg_sl ([.ref q, .int p0, .int p1])).length) Slot.unset).toArray = ls at hl ⊢
  have hl : lv_has ls 3 [(0, .ref q), (1, .int p0), (2, .int p1)] := hl
  have hS : va_S (fIv q 10) s.heap s.heap [] := va_S.rf
  unfold fX0_hang at h
  obtain ⟨H, hH⟩ : ∃ H, H = s.heap := ⟨_, rfl⟩
  obtain ⟨locs, hlo⟩ : ∃ z : List Loc, z = [] := ⟨_, rfl⟩
  have hP : va_P D vwCl (LW cI q L) H := by rw [hH]; exact hP
  have hS : va_S (fIv q 10) s.heap H locs := by rw [hH, hlo]; exact hS
  refine gc_at hH hlo ?_
  refine lv_aload_n hx hb dX0_hang_0 rfl (lv_at hl 0 rfl) ?_
  refine va_get (D := D) (ci := 0) (v := .ref (q + 6)) (C := RX0) (T := TX0) (N := 13) hx hb hts hinX0 hown hK hP 0 rfl rfl 5 (by decide) hf27 (fun _ h9 => h9) rfl dX0_hang_1 ?_
  refine lv_iload_n hx hb dX0_hang_4 rfl (lv_at hl 1 rfl) ?_
  refine lv_iconst (v := 0) hx hb dX0_hang_5 (by decide) ?_
  obtain ⟨hg1, h⟩ := gd_some h
  refine g_iast (f := (lPl L)) (k := p0.toNatClampNeg) hx hb hK hP LW_self hS 6 0 rfl rfl hg1 rfl dX0_hang_6 (fun H locs hP hS => ?_)
  have hP : va_P D vwCl (LW cI q ((lWe L), (lCy L), (lWr L), (lPu L), (lSl L), (upd (lPl L) p0.toNatClampNeg 0), (lSp L), (lSt L), (lLi L), (lN_ L), (lStn L), (lClk L), (lRnd L))) H := hP
  refine lv_aload_n hx hb dX0_hang_7 rfl (lv_at hl 0 rfl) ?_
  refine va_get (D := D) (ci := 0) (v := .ref (q + 7)) (C := RX0) (T := TX0) (N := 13) hx hb hts hinX0 hown hK hP 0 rfl rfl 6 (by decide) hf30 (fun _ h9 => h9) rfl dX0_hang_8 ?_
  refine lv_iload_n hx hb dX0_hang_11 rfl (lv_at hl 1 rfl) ?_
  refine lv_iload_n hx hb dX0_hang_12 rfl (lv_at hl 2 rfl) ?_
  refine g_iast (f := (lSp L)) (k := p0.toNatClampNeg) hx hb hK hP LW_self hS 7 0 rfl rfl hg1 rfl dX0_hang_13 (fun H locs hP hS => ?_)
  have hP : va_P D vwCl (LW cI q ((lWe L), (lCy L), (lWr L), (lPu L), (lSl L), (upd (lPl L) p0.toNatClampNeg 0), (upd (lSp L) p0.toNatClampNeg p1), (lSt L), (lLi L), (lN_ L), (lStn L), (lClk L), (lRnd L))) H := hP
  have h := Option.some.inj h
  subst h
  exact W.vret hx hb hr (fun t ht hW => ⟨⟨(), rfl, trivial, gh ht hP⟩, hS.F ht⟩) hS.2.2 dX0_hang_14
set_option maxHeartbeats 4000000 in
set_option maxRecDepth 100000 in
theorem kX0_move (l : Launch) (D : va_G) (cI cC cZ cQ cJ : ClassId) (q : Nat) (L : LSt) (p0 : Int32) (p1 : Int32) {R : LSt} (h : fX0_move L p0 p1 = some R) : Met l yX0_move wsX0_move ({ frames := 0, cells := 0, slots := 0, locals := 0 } : Room) (va_Pc [.ref q, .int p0, .int p1] (gB D (gTy cI cC cZ cQ cJ) (va_P D vwCl (LW cI q L)))) (va_Qv (fun _ : Unit => True) (fun _ t => va_P D vwCl (LW cI q R) t.heap) (fIv q 10)) 0 0 (fIv q 10) := by
  refine Met.ofW (cc := cX0_move) (maxL := 3) (ret := none) (by decide) rfl ?_
  intro p e s m args below meth c s₁ B hml hv
  obtain ⟨rfl, hP, hK⟩ := hv
  have hx := B.exec
  have hb := B.bytes
  have hr := B.returns
  have hts := atoms_spec (ws := wsX0_move) B.pre
  have hown : s.vm.findClass RX0 = some m.cls := findClass_of_methodNamed B.named
  have hlocks := B.notSynchronized
  have hinX0 : ∀ w ∈ wsX00, w ∈ wsX0_move := by decide +kernel
  have hf27 := hts (.fieldLink RX0 27 "GripInspector$Lift" "place" "[I") (by decide +kernel)
  generalize hRM : (headSpec wsX0_move ({ frames := 0, cells := 0, slots := 0, locals := 0 } : Room)).room = RM
  replace hRM : ({ frames := 0, cells := 0, slots := 0, locals := 0 } : Room) = RM := hRM
  subst hRM
  have hl := lv_entry ([.ref q, .int p0, .int p1]) (n := 3) (Nat.le_of_ble_eq_true rfl)
  rw [lg_entry_eq]
  generalize (lg_sl ([.ref q, .int p0, .int p1]) ++ List.replicate (3 - (lg_sl ([.ref q, .int p0, .int p1])).length) Slot.unset).toArray = ls at hl ⊢
  have hl : lv_has ls 3 [(0, .ref q), (1, .int p0), (2, .int p1)] := hl
  have hS : va_S (fIv q 10) s.heap s.heap [] := va_S.rf
  unfold fX0_move at h
  obtain ⟨H, hH⟩ : ∃ H, H = s.heap := ⟨_, rfl⟩
  obtain ⟨locs, hlo⟩ : ∃ z : List Loc, z = [] := ⟨_, rfl⟩
  have hP : va_P D vwCl (LW cI q L) H := by rw [hH]; exact hP
  have hS : va_S (fIv q 10) s.heap H locs := by rw [hH, hlo]; exact hS
  refine gc_at hH hlo ?_
  refine lv_aload_n hx hb dX0_move_0 rfl (lv_at hl 0 rfl) ?_
  refine va_get (D := D) (ci := 0) (v := .ref (q + 6)) (C := RX0) (T := TX0) (N := 13) hx hb hts hinX0 hown hK hP 0 rfl rfl 5 (by decide) hf27 (fun _ h9 => h9) rfl dX0_move_1 ?_
  refine lv_iload_n hx hb dX0_move_4 rfl (lv_at hl 1 rfl) ?_
  refine lv_iload_n hx hb dX0_move_5 rfl (lv_at hl 2 rfl) ?_
  obtain ⟨hg1, h⟩ := gd_some h
  refine g_iast (f := (lPl L)) (k := p0.toNatClampNeg) hx hb hK hP LW_self hS 6 0 rfl rfl hg1 rfl dX0_move_6 (fun H locs hP hS => ?_)
  have hP : va_P D vwCl (LW cI q ((lWe L), (lCy L), (lWr L), (lPu L), (lSl L), (upd (lPl L) p0.toNatClampNeg p1), (lSp L), (lSt L), (lLi L), (lN_ L), (lStn L), (lClk L), (lRnd L))) H := hP
  have h := Option.some.inj h
  subst h
  exact W.vret hx hb hr (fun t ht hW => ⟨⟨(), rfl, trivial, gh ht hP⟩, hS.F ht⟩) hS.2.2 dX0_move_7
set_option maxHeartbeats 4000000 in
set_option maxRecDepth 100000 in
theorem kX0_distance (l : Launch) (D : va_G) (cI cC cZ cQ cJ : ClassId) (q : Nat) (L : LSt) (p0 : Int32) (p1 : Int32) {R : Int32} (h : fX0_distance L p0 p1 = some R) : Met l yX0_distance wsX0_distance ({ frames := 0, cells := 0, slots := 0, locals := 0 } : Room) (va_Pc [.ref q, .int p0, .int p1] (gB D (gTy cI cC cZ cQ cJ) (va_P D vwCl (LW cI q L)))) (vp_Si (fun r => r = R)) 0 0 (fun _ => False) := by
  refine Met.ofW (cc := cX0_distance) (maxL := 4) (ret := (some .int)) (by decide) rfl ?_
  intro p e s m args below meth c s₁ B hml hv
  obtain ⟨rfl, hP, hK⟩ := hv
  have hx := B.exec
  have hb := B.bytes
  have hr := B.returns
  have hts := atoms_spec (ws := wsX0_distance) B.pre
  have hown : s.vm.findClass RX0 = some m.cls := findClass_of_methodNamed B.named
  have hlocks := B.notSynchronized
  have hinX0 : ∀ w ∈ wsX00, w ∈ wsX0_distance := by decide +kernel
  have hf42 := hts (.fieldLink RX0 42 "GripInspector$Lift" "n" "I") (by decide +kernel)
  generalize hRM : (headSpec wsX0_distance ({ frames := 0, cells := 0, slots := 0, locals := 0 } : Room)).room = RM
  replace hRM : ({ frames := 0, cells := 0, slots := 0, locals := 0 } : Room) = RM := hRM
  subst hRM
  have hl := lv_entry ([.ref q, .int p0, .int p1]) (n := 4) (Nat.le_of_ble_eq_true rfl)
  rw [lg_entry_eq]
  generalize (lg_sl ([.ref q, .int p0, .int p1]) ++ List.replicate (4 - (lg_sl ([.ref q, .int p0, .int p1])).length) Slot.unset).toArray = ls at hl ⊢
  have hl : lv_has ls 4 [(0, .ref q), (1, .int p0), (2, .int p1)] := hl
  unfold fX0_distance at h
  refine lv_iload_n hx hb dX0_distance_0 rfl (lv_at hl 1 rfl) ?_
  refine lv_iload_n hx hb dX0_distance_1 rfl (lv_at hl 2 rfl) ?_
  refine lv_icmp_le (tgt := 11) hx hb dX0_distance_2 (by decide) (fun c1 => ?_) (fun c1 => ?_)
  · replace h := (if_pos c1).symm.trans h
    refine lv_iload_n hx hb dX0_distance_11 rfl (lv_at hl 2 rfl) ?_
    refine lv_iload_n hx hb dX0_distance_12 rfl (lv_at hl 1 rfl) ?_
    refine lv_isub hx hb dX0_distance_13 ?_
    refine lv_istore_n (lv' := [(3, .int (p1 - p0)), (0, .ref q), (1, .int p0), (2, .int p1)]) hx hb dX0_distance_14 rfl hl (by decide) rfl (fun ls hl => ?_)
    refine lv_iload_n hx hb dX0_distance_15 rfl (lv_at hl 0 rfl) ?_
    refine lv_aload_n hx hb dX0_distance_16 rfl (lv_at hl 1 rfl) ?_
    refine va_get (D := D) (ci := 0) (v := .int (lN_ L)) (C := RX0) (T := TX0) (N := 13) hx hb hts hinX0 hown hK hP 0 rfl rfl 9 (by decide) hf42 (fun _ h9 => h9) rfl dX0_distance_17 ?_
    refine lv_iload_n hx hb dX0_distance_20 rfl (lv_at hl 0 rfl) ?_
    refine lv_isub hx hb dX0_distance_21 ?_
    refine lv_icmp_ge (tgt := 29) hx hb dX0_distance_22 (by decide) (fun c2 => ?_) (fun c2 => ?_)
    · replace h := (if_pos c2).symm.trans h
      refine lv_aload_n hx hb dX0_distance_29 rfl (lv_at hl 1 rfl) ?_
      refine va_get (D := D) (ci := 0) (v := .int (lN_ L)) (C := RX0) (T := TX0) (N := 13) hx hb hts hinX0 hown hK hP 0 rfl rfl 9 (by decide) hf42 (fun _ h9 => h9) rfl dX0_distance_30 ?_
      refine lv_iload_n hx hb dX0_distance_33 rfl (lv_at hl 0 rfl) ?_
      refine lv_isub hx hb dX0_distance_34 ?_
      have h := Option.some.inj h
      exact W.iret (v := ((lN_ L) - (p1 - p0))) hx hb hr (fun t ht hW => ⟨_, rfl, h, ht⟩) t_nil dX0_distance_35
    · replace h := (if_neg c2).symm.trans h
      refine lv_iload_n hx hb dX0_distance_25 rfl (lv_at hl 0 rfl) ?_
      refine lv_goto (tgt := 35) hx hb dX0_distance_26 (by decide) ?_
      have h := Option.some.inj h
      exact W.iret (v := (p1 - p0)) hx hb hr (fun t ht hW => ⟨_, rfl, h, ht⟩) t_nil dX0_distance_35
  · replace h := (if_neg c1).symm.trans h
    refine lv_iload_n hx hb dX0_distance_5 rfl (lv_at hl 1 rfl) ?_
    refine lv_iload_n hx hb dX0_distance_6 rfl (lv_at hl 2 rfl) ?_
    refine lv_isub hx hb dX0_distance_7 ?_
    refine lv_goto (tgt := 14) hx hb dX0_distance_8 (by decide) ?_
    refine lv_istore_n (lv' := [(3, .int (p0 - p1)), (0, .ref q), (1, .int p0), (2, .int p1)]) hx hb dX0_distance_14 rfl hl (by decide) rfl (fun ls hl => ?_)
    refine lv_iload_n hx hb dX0_distance_15 rfl (lv_at hl 0 rfl) ?_
    refine lv_aload_n hx hb dX0_distance_16 rfl (lv_at hl 1 rfl) ?_
    refine va_get (D := D) (ci := 0) (v := .int (lN_ L)) (C := RX0) (T := TX0) (N := 13) hx hb hts hinX0 hown hK hP 0 rfl rfl 9 (by decide) hf42 (fun _ h9 => h9) rfl dX0_distance_17 ?_
    refine lv_iload_n hx hb dX0_distance_20 rfl (lv_at hl 0 rfl) ?_
    refine lv_isub hx hb dX0_distance_21 ?_
    refine lv_icmp_ge (tgt := 29) hx hb dX0_distance_22 (by decide) (fun c3 => ?_) (fun c3 => ?_)
    · replace h := (if_pos c3).symm.trans h
      refine lv_aload_n hx hb dX0_distance_29 rfl (lv_at hl 1 rfl) ?_
      refine va_get (D := D) (ci := 0) (v := .int (lN_ L)) (C := RX0) (T := TX0) (N := 13) hx hb hts hinX0 hown hK hP 0 rfl rfl 9 (by decide) hf42 (fun _ h9 => h9) rfl dX0_distance_30 ?_
      refine lv_iload_n hx hb dX0_distance_33 rfl (lv_at hl 0 rfl) ?_
      refine lv_isub hx hb dX0_distance_34 ?_
      have h := Option.some.inj h
      exact W.iret (v := ((lN_ L) - (p0 - p1))) hx hb hr (fun t ht hW => ⟨_, rfl, h, ht⟩) t_nil dX0_distance_35
    · replace h := (if_neg c3).symm.trans h
      refine lv_iload_n hx hb dX0_distance_25 rfl (lv_at hl 0 rfl) ?_
      refine lv_goto (tgt := 35) hx hb dX0_distance_26 (by decide) ?_
      have h := Option.some.inj h
      exact W.iret (v := (p0 - p1)) hx hb hr (fun t ht hW => ⟨_, rfl, h, ht⟩) t_nil dX0_distance_35
set_option maxHeartbeats 4000000 in
set_option maxRecDepth 100000 in
theorem kX0_isRoomAt (l : Launch) (D : va_G) (cI cC cZ cQ cJ : ClassId) (q : Nat) (L : LSt) (p0 : Int32) {R : Int32} (h : fX0_isRoomAt L p0 = some R) : Met l yX0_isRoomAt wsX0_isRoomAt ({ frames := 1, cells := 0, slots := 0, locals := 23 } : Room) (va_Pc [.ref q, .int p0] (gB D (gTy cI cC cZ cQ cJ) (va_P D vwCl (LW cI q L)))) (vp_Si (fun r => r = R)) 0 0 (fun _ => False) := by
  refine Met.ofW (cc := cX0_isRoomAt) (maxL := 3) (ret := (some .boolean)) (by decide) rfl ?_
  intro p e s m args below meth c s₁ B hml hv
  obtain ⟨rfl, hP, hK⟩ := hv
  have hx := B.exec
  have hb := B.bytes
  have hr := B.returns
  have hts := atoms_spec (ws := wsX0_isRoomAt) B.pre
  have hown : s.vm.findClass RX0 = some m.cls := findClass_of_methodNamed B.named
  have hlocks := B.notSynchronized
  have hinX0 : ∀ w ∈ wsX00, w ∈ wsX0_isRoomAt := by decide +kernel
  have hf27 := hts (.fieldLink RX0 27 "GripInspector$Lift" "place" "[I") (by decide +kernel)
  have hf30 := hts (.fieldLink RX0 30 "GripInspector$Lift" "spot" "[I") (by decide +kernel)
  have hf36 := hts (.fieldLink RX0 36 "GripInspector$Lift" "limits" "[I") (by decide +kernel)
  generalize hRM : (headSpec wsX0_isRoomAt ({ frames := 1, cells := 0, slots := 0, locals := 23 } : Room)).room = RM
  replace hRM : ({ frames := 1, cells := 0, slots := 0, locals := 23 } : Room) = RM := hRM
  subst hRM
  have hl := lv_entry ([.ref q, .int p0]) (n := 3) (Nat.le_of_ble_eq_true rfl)
  rw [lg_entry_eq]
  generalize (lg_sl ([.ref q, .int p0]) ++ List.replicate (3 - (lg_sl ([.ref q, .int p0])).length) Slot.unset).toArray = ls at hl ⊢
  have hl : lv_has ls 3 [(0, .ref q), (1, .int p0)] := hl
  have LP2 : ∀ (n : Nat) (x1 : Int32) (x2 : Int32) (ls : Array Slot), fX0_isRoomAt_L2 L n x1 x2 = some R → lv_has ls 3 [(0, .ref q), (1, .int x1), (2, .int x2)] → W p l e ({ frames := 1, cells := 0, slots := 0, locals := 23 } : Room) s m ([.ref q, .int p0] : List Value).toArray below meth c s.heap [] 0 0 (MQ below (vp_Si (fun r => r = R)) ([.ref q, .int p0] : List Value).toArray s 0 0 (fun _ => False)) (F0 m 2 ls []) := by
    intro n
    induction n with
    | zero => intro x1 x2 ls h hl; exact no_some h
    | succ n ih =>
      intro x1 x2 ls h hl
      rw [fX0_isRoomAt_L2] at h
      refine lv_iload_n hx hb dX0_isRoomAt_2 rfl (lv_at hl 2 rfl) ?_
      refine lv_bipush (v := 12) hx hb dX0_isRoomAt_3 (by decide) ?_
      refine lv_icmp_ge (tgt := 45) hx hb dX0_isRoomAt_5 (by decide) (fun c1 => ?_) (fun c1 => ?_)
      · replace h := (if_pos c1).symm.trans h
        refine lv_iconst (v := 1) hx hb dX0_isRoomAt_45 (by decide) ?_
        have h := Option.some.inj h
        exact W.zret (v := 1) hx hb hr rfl (fun t ht hW => ⟨_, rfl, h, ht⟩) t_nil dX0_isRoomAt_46
      · replace h := (if_neg c1).symm.trans h
        refine lv_aload_n hx hb dX0_isRoomAt_8 rfl (lv_at hl 0 rfl) ?_
        refine va_get (D := D) (ci := 0) (v := .ref (q + 6)) (C := RX0) (T := TX0) (N := 13) hx hb hts hinX0 hown hK hP 0 rfl rfl 5 (by decide) hf27 (fun _ h9 => h9) rfl dX0_isRoomAt_9 ?_
        refine lv_iload_n hx hb dX0_isRoomAt_12 rfl (lv_at hl 2 rfl) ?_
        obtain ⟨hg2, h⟩ := gd_some h
        refine g_iald (f := (lPl L)) (k := x2.toNatClampNeg) hx hb hK hP 6 0 rfl rfl hg2 rfl dX0_isRoomAt_13 ?_
        refine lv_if_ne (tgt := 39) hx hb dX0_isRoomAt_14 (by decide) (fun c3 => ?_) (fun c3 => ?_)
        · replace h := (if_neg c3).symm.trans h
          refine lv_iinc (v := (x2 + 1)) (lv' := [(2, .int (x2 + 1)), (0, .ref q), (1, .int x1)]) hx hb dX0_isRoomAt_39 hl (k := 2) rfl rfl (by decide) rfl (fun ls hl => ?_)
          refine lv_goto (tgt := 2) hx hb dX0_isRoomAt_42 (by decide) ?_
          exact ih x1 (x2 + 1) ls h (lv_sub hl [1, 2, 0] rfl)
        · replace h := (if_pos c3).symm.trans h
          refine lv_aload_n hx hb dX0_isRoomAt_17 rfl (lv_at hl 0 rfl) ?_
          refine lv_aload_n hx hb dX0_isRoomAt_18 rfl (lv_at hl 0 rfl) ?_
          refine va_get (D := D) (ci := 0) (v := .ref (q + 7)) (C := RX0) (T := TX0) (N := 13) hx hb hts hinX0 hown hK hP 0 rfl rfl 6 (by decide) hf30 (fun _ h9 => h9) rfl dX0_isRoomAt_19 ?_
          refine lv_iload_n hx hb dX0_isRoomAt_22 rfl (lv_at hl 2 rfl) ?_
          refine g_iald (f := (lSp L)) (k := x2.toNatClampNeg) hx hb hK hP 7 0 rfl rfl hg2 rfl dX0_isRoomAt_23 ?_
          refine lv_iload_n hx hb dX0_isRoomAt_24 rfl (lv_at hl 1 rfl) ?_
          obtain ⟨r25, hr25, h⟩ := bd_some h
          refine gc_ri (As := [.int ((lSp L) x2.toNatClampNeg), .int x1]) (rest := []) ⟨hx, hb, hml, hown, hts⟩ hK (kX0_distance l D cI cC cZ cQ cJ q L ((lSp L) x2.toNatClampNeg) x1 hr25) (cwV 2 hts gX0_isRoomAt_X0_distance rfl rfl rfl (by decide +kernel) ⟨Nat.le_of_ble_eq_true rfl, Nat.le_of_ble_eq_true rfl⟩) (va_recv hK hP (ci := 0) (q0 := 0) rfl rfl) hP rfl hl.1 rfl (Nat.le_of_ble_eq_true rfl) ⟨Nat.zero_le _, Nat.zero_le _⟩ dX0_isRoomAt_25 ?_
          refine lv_aload_n hx hb dX0_isRoomAt_28 rfl (lv_at hl 0 rfl) ?_
          refine va_get (D := D) (ci := 0) (v := .ref (q + 9)) (C := RX0) (T := TX0) (N := 13) hx hb hts hinX0 hown hK hP 0 rfl rfl 8 (by decide) hf36 (fun _ h9 => h9) rfl dX0_isRoomAt_29 ?_
          refine lv_iconst (v := 3) hx hb dX0_isRoomAt_32 (by decide) ?_
          refine g_iald (f := (lLi L)) (k := 3) hx hb hK hP 9 0 rfl rfl (vin_lit rfl) rfl dX0_isRoomAt_33 ?_
          refine lv_icmp_ge (tgt := 39) hx hb dX0_isRoomAt_34 (by decide) (fun c4 => ?_) (fun c4 => ?_)
          · replace h := (if_pos c4).symm.trans h
            refine lv_iinc (v := (x2 + 1)) (lv' := [(2, .int (x2 + 1)), (0, .ref q), (1, .int x1)]) hx hb dX0_isRoomAt_39 hl (k := 2) rfl rfl (by decide) rfl (fun ls hl => ?_)
            refine lv_goto (tgt := 2) hx hb dX0_isRoomAt_42 (by decide) ?_
            exact ih x1 (x2 + 1) ls h (lv_sub hl [1, 2, 0] rfl)
          · replace h := (if_neg c4).symm.trans h
            refine lv_iconst (v := 0) hx hb dX0_isRoomAt_37 (by decide) ?_
            have h := Option.some.inj h
            exact W.zret (v := 0) hx hb hr rfl (fun t ht hW => ⟨_, rfl, h, ht⟩) t_nil dX0_isRoomAt_38
  unfold fX0_isRoomAt at h
  refine lv_iconst (v := 0) hx hb dX0_isRoomAt_0 (by decide) ?_
  refine lv_istore_n (lv' := [(2, .int 0), (0, .ref q), (1, .int p0)]) hx hb dX0_isRoomAt_1 rfl hl (by decide) rfl (fun ls hl => ?_)
  exact LP2 KF p0 0 ls h (lv_sub hl [1, 2, 0] rfl)
set_option maxHeartbeats 4000000 in
set_option maxRecDepth 100000 in
theorem kX0_pass (l : Launch) (D : va_G) (cI cC cZ cQ cJ : ClassId) (q : Nat) (L : LSt) (p0 : Int32) (p1 : Int32) {R : Int32 × LSt} (h : fX0_pass L p0 p1 = some R) : Met l yX0_pass wsX0_pass ({ frames := 0, cells := 0, slots := 0, locals := 0 } : Room) (va_Pc [.ref q, .int p0, .int p1] (gB D (gTy cI cC cZ cQ cJ) (va_P D vwCl (LW cI q L)))) (va_Qi (fun r (_ : Unit) => r = R.1) (fun _ t => va_P D vwCl (LW cI q R.2) t.heap) (fIv q 10)) 0 0 (fIv q 10) := by
  refine Met.ofW (cc := cX0_pass) (maxL := 6) (ret := (some .int)) (by decide) rfl ?_
  intro p e s m args below meth c s₁ B hml hv
  obtain ⟨rfl, hP, hK⟩ := hv
  have hx := B.exec
  have hb := B.bytes
  have hr := B.returns
  have hts := atoms_spec (ws := wsX0_pass) B.pre
  have hown : s.vm.findClass RX0 = some m.cls := findClass_of_methodNamed B.named
  have hlocks := B.notSynchronized
  have hinX0 : ∀ w ∈ wsX00, w ∈ wsX0_pass := by decide +kernel
  have hf15 := hts (.fieldLink RX0 15 "GripInspector$Lift" "cycles" "[I") (by decide +kernel)
  have hf18 := hts (.fieldLink RX0 18 "GripInspector$Lift" "wear" "[I") (by decide +kernel)
  have hf9 := hts (.fieldLink RX0 9 "GripInspector$Lift" "weight" "[I") (by decide +kernel)
  have hf36 := hts (.fieldLink RX0 36 "GripInspector$Lift" "limits" "[I") (by decide +kernel)
  have hf21 := hts (.fieldLink RX0 21 "GripInspector$Lift" "pulls" "[I") (by decide +kernel)
  have hf24 := hts (.fieldLink RX0 24 "GripInspector$Lift" "lastSlip" "[I") (by decide +kernel)
  have hf27 := hts (.fieldLink RX0 27 "GripInspector$Lift" "place" "[I") (by decide +kernel)
  have hf33 := hts (.fieldLink RX0 33 "GripInspector$Lift" "stepsLeft" "[I") (by decide +kernel)
  generalize hRM : (headSpec wsX0_pass ({ frames := 0, cells := 0, slots := 0, locals := 0 } : Room)).room = RM
  replace hRM : ({ frames := 0, cells := 0, slots := 0, locals := 0 } : Room) = RM := hRM
  subst hRM
  have hl := lv_entry ([.ref q, .int p0, .int p1]) (n := 6) (Nat.le_of_ble_eq_true rfl)
  rw [lg_entry_eq]
  generalize (lg_sl ([.ref q, .int p0, .int p1]) ++ List.replicate (6 - (lg_sl ([.ref q, .int p0, .int p1])).length) Slot.unset).toArray = ls at hl ⊢
  have hl : lv_has ls 6 [(0, .ref q), (1, .int p0), (2, .int p1)] := hl
  have hS : va_S (fIv q 10) s.heap s.heap [] := va_S.rf
  unfold fX0_pass at h
  obtain ⟨H, hH⟩ : ∃ H, H = s.heap := ⟨_, rfl⟩
  obtain ⟨locs, hlo⟩ : ∃ z : List Loc, z = [] := ⟨_, rfl⟩
  have hP : va_P D vwCl (LW cI q L) H := by rw [hH]; exact hP
  have hS : va_S (fIv q 10) s.heap H locs := by rw [hH, hlo]; exact hS
  refine gc_at hH hlo ?_
  refine lv_aload_n hx hb dX0_pass_0 rfl (lv_at hl 0 rfl) ?_
  refine va_get (D := D) (ci := 0) (v := .ref (q + 2)) (C := RX0) (T := TX0) (N := 13) hx hb hts hinX0 hown hK hP 0 rfl rfl 1 (by decide) hf15 (fun _ h9 => h9) rfl dX0_pass_1 ?_
  refine lv_iload_n hx hb dX0_pass_4 rfl (lv_at hl 1 rfl) ?_
  refine lv_dup2_11 hx hb dX0_pass_5 rfl rfl ?_
  obtain ⟨hg1, h⟩ := gd_some h
  refine g_iald (f := (lCy L)) (k := p0.toNatClampNeg) hx hb hK hP 2 0 rfl rfl hg1 rfl dX0_pass_6 ?_
  refine lv_iconst (v := 1) hx hb dX0_pass_7 (by decide) ?_
  refine lv_iadd hx hb dX0_pass_8 ?_
  refine g_iast (f := (lCy L)) (k := p0.toNatClampNeg) hx hb hK hP LW_self hS 2 0 rfl rfl hg1 rfl dX0_pass_9 (fun H locs hP hS => ?_)
  have hP : va_P D vwCl (LW cI q ((lWe L), (upd (lCy L) p0.toNatClampNeg (((lCy L) p0.toNatClampNeg) + 1)), (lWr L), (lPu L), (lSl L), (lPl L), (lSp L), (lSt L), (lLi L), (lN_ L), (lStn L), (lClk L), (lRnd L))) H := hP
  refine lv_aload_n hx hb dX0_pass_10 rfl (lv_at hl 0 rfl) ?_
  refine va_get (D := D) (ci := 0) (v := .ref (q + 3)) (C := RX0) (T := TX0) (N := 13) hx hb hts hinX0 hown hK hP 0 rfl rfl 2 (by decide) hf18 (fun _ h9 => h9) rfl dX0_pass_11 ?_
  refine lv_iload_n hx hb dX0_pass_14 rfl (lv_at hl 1 rfl) ?_
  refine lv_dup2_11 hx hb dX0_pass_15 rfl rfl ?_
  refine g_iald (f := (lWr L)) (k := p0.toNatClampNeg) hx hb hK hP 3 0 rfl rfl hg1 rfl dX0_pass_16 ?_
  refine lv_iconst (v := 1) hx hb dX0_pass_17 (by decide) ?_
  refine lv_aload_n hx hb dX0_pass_18 rfl (lv_at hl 0 rfl) ?_
  refine va_get (D := D) (ci := 0) (v := .ref (q + 1)) (C := RX0) (T := TX0) (N := 13) hx hb hts hinX0 hown hK hP 0 rfl rfl 0 (by decide) hf9 (fun _ h9 => h9) rfl dX0_pass_19 ?_
  refine lv_iload_n hx hb dX0_pass_22 rfl (lv_at hl 1 rfl) ?_
  refine g_iald (f := (lWe L)) (k := p0.toNatClampNeg) hx hb hK hP 1 0 rfl rfl hg1 rfl dX0_pass_23 ?_
  refine lv_iadd hx hb dX0_pass_24 ?_
  refine lv_iadd hx hb dX0_pass_25 ?_
  refine g_iast (f := (lWr L)) (k := p0.toNatClampNeg) hx hb hK hP LW_self hS 3 0 rfl rfl hg1 rfl dX0_pass_26 (fun H locs hP hS => ?_)
  have hP : va_P D vwCl (LW cI q ((lWe L), (upd (lCy L) p0.toNatClampNeg (((lCy L) p0.toNatClampNeg) + 1)), (upd (lWr L) p0.toNatClampNeg (((lWr L) p0.toNatClampNeg) + (1 + ((lWe L) p0.toNatClampNeg)))), (lPu L), (lSl L), (lPl L), (lSp L), (lSt L), (lLi L), (lN_ L), (lStn L), (lClk L), (lRnd L))) H := hP
  refine lv_aload_n hx hb dX0_pass_27 rfl (lv_at hl 0 rfl) ?_
  refine va_get (D := D) (ci := 0) (v := .ref (q + 9)) (C := RX0) (T := TX0) (N := 13) hx hb hts hinX0 hown hK hP 0 rfl rfl 8 (by decide) hf36 (fun _ h9 => h9) rfl dX0_pass_28 ?_
  refine lv_iconst (v := 2) hx hb dX0_pass_31 (by decide) ?_
  refine g_iald (f := (lLi L)) (k := 2) hx hb hK hP 9 0 rfl rfl (vin_lit rfl) rfl dX0_pass_32 ?_
  refine lv_istore_n (lv' := [(3, .int ((lLi L) 2)), (0, .ref q), (1, .int p0), (2, .int p1)]) hx hb dX0_pass_33 rfl hl (by decide) rfl (fun ls hl => ?_)
  refine lv_aload_n hx hb dX0_pass_34 rfl (lv_at hl 1 rfl) ?_
  refine va_get (D := D) (ci := 0) (v := .ref (q + 2)) (C := RX0) (T := TX0) (N := 13) hx hb hts hinX0 hown hK hP 0 rfl rfl 1 (by decide) hf15 (fun _ h9 => h9) rfl dX0_pass_35 ?_
  refine lv_iload_n hx hb dX0_pass_38 rfl (lv_at hl 2 rfl) ?_
  refine g_iald (f := (upd (lCy L) p0.toNatClampNeg (((lCy L) p0.toNatClampNeg) + 1))) (k := p0.toNatClampNeg) hx hb hK hP 2 0 rfl rfl hg1 rfl dX0_pass_39 ?_
  refine lv_aload_n hx hb dX0_pass_40 rfl (lv_at hl 1 rfl) ?_
  refine va_get (D := D) (ci := 0) (v := .ref (q + 9)) (C := RX0) (T := TX0) (N := 13) hx hb hts hinX0 hown hK hP 0 rfl rfl 8 (by decide) hf36 (fun _ h9 => h9) rfl dX0_pass_41 ?_
  refine lv_iconst (v := 0) hx hb dX0_pass_44 (by decide) ?_
  refine g_iald (f := (lLi L)) (k := 0) hx hb hK hP 9 0 rfl rfl (vin_lit rfl) rfl dX0_pass_45 ?_
  refine lv_icmp_lt (tgt := 53) hx hb dX0_pass_46 (by decide) (fun c2 => ?_) (fun c2 => ?_)
  · replace h := (if_pos c2).symm.trans h
    refine lv_iconst (v := 0) hx hb dX0_pass_53 (by decide) ?_
    refine lv_istore (lv' := [(4, .int 0), (3, .int ((lLi L) 2)), (0, .ref q), (1, .int p0), (2, .int p1)]) hx hb dX0_pass_54 hl (by decide) rfl (fun ls hl => ?_)
    refine lv_iload_n hx hb dX0_pass_56 rfl (lv_at hl 1 rfl) ?_
    refine lv_if_le (tgt := 70) hx hb dX0_pass_57 (by decide) (fun c3 => ?_) (fun c3 => ?_)
    · replace h := (if_pos c3).symm.trans h
      refine lv_iconst (v := 0) hx hb dX0_pass_70 (by decide) ?_
      refine lv_istore (lv' := [(5, .int 0), (4, .int 0), (3, .int ((lLi L) 2)), (0, .ref q), (1, .int p0), (2, .int p1)]) hx hb dX0_pass_71 hl (by decide) rfl (fun ls hl => ?_)
      refine lv_iload hx hb dX0_pass_73 (lv_at hl 1 rfl) ?_
      refine lv_if_ne (tgt := 85) hx hb dX0_pass_75 (by decide) (fun c => absurd c (by decide)) (fun _ => ?_)
      refine lv_iload hx hb dX0_pass_78 (lv_at hl 0 rfl) ?_
      refine lv_if_ne (tgt := 85) hx hb dX0_pass_80 (by decide) (fun c => absurd c (by decide)) (fun _ => ?_)
      refine lv_iconst (v := 0) hx hb dX0_pass_83 (by decide) ?_
      have h := Option.some.inj h
      subst h
      exact W.iret (v := 0) hx hb hr (fun t ht hW => ⟨⟨_, (), rfl, rfl, gh ht hP⟩, hS.F ht⟩) hS.2.2 dX0_pass_84
    · replace h := (if_neg c3).symm.trans h
      refine lv_iload_n hx hb dX0_pass_60 rfl (lv_at hl 4 rfl) ?_
      refine lv_iload_n hx hb dX0_pass_61 rfl (lv_at hl 1 rfl) ?_
      obtain ⟨hn4, h⟩ := nz_some h
      refine lv_irem hx hb dX0_pass_62 hn4 ?_
      refine lv_if_ne (tgt := 70) hx hb dX0_pass_63 (by decide) (fun c5 => ?_) (fun c5 => ?_)
      · replace h := (if_neg c5).symm.trans h
        refine lv_iconst (v := 0) hx hb dX0_pass_70 (by decide) ?_
        refine lv_istore (lv' := [(5, .int 0), (4, .int 0), (3, .int ((lLi L) 2)), (0, .ref q), (1, .int p0), (2, .int p1)]) hx hb dX0_pass_71 hl (by decide) rfl (fun ls hl => ?_)
        refine lv_iload hx hb dX0_pass_73 (lv_at hl 1 rfl) ?_
        refine lv_if_ne (tgt := 85) hx hb dX0_pass_75 (by decide) (fun c => absurd c (by decide)) (fun _ => ?_)
        refine lv_iload hx hb dX0_pass_78 (lv_at hl 0 rfl) ?_
        refine lv_if_ne (tgt := 85) hx hb dX0_pass_80 (by decide) (fun c => absurd c (by decide)) (fun _ => ?_)
        refine lv_iconst (v := 0) hx hb dX0_pass_83 (by decide) ?_
        have h := Option.some.inj h
        subst h
        exact W.iret (v := 0) hx hb hr (fun t ht hW => ⟨⟨_, (), rfl, rfl, gh ht hP⟩, hS.F ht⟩) hS.2.2 dX0_pass_84
      · replace h := (if_pos c5).symm.trans h
        refine lv_iconst (v := 1) hx hb dX0_pass_66 (by decide) ?_
        refine lv_goto (tgt := 71) hx hb dX0_pass_67 (by decide) ?_
        refine lv_istore (lv' := [(5, .int 1), (4, .int 0), (3, .int ((lLi L) 2)), (0, .ref q), (1, .int p0), (2, .int p1)]) hx hb dX0_pass_71 hl (by decide) rfl (fun ls hl => ?_)
        refine lv_iload hx hb dX0_pass_73 (lv_at hl 1 rfl) ?_
        refine lv_if_ne (tgt := 85) hx hb dX0_pass_75 (by decide) (fun c => absurd c (by decide)) (fun _ => ?_)
        refine lv_iload hx hb dX0_pass_78 (lv_at hl 0 rfl) ?_
        refine lv_if_ne (tgt := 85) hx hb dX0_pass_80 (by decide) (fun _ => ?_) (fun c => absurd c (by decide))
        refine lv_aload_n hx hb dX0_pass_85 rfl (lv_at hl 3 rfl) ?_
        refine va_get (D := D) (ci := 0) (v := .ref (q + 4)) (C := RX0) (T := TX0) (N := 13) hx hb hts hinX0 hown hK hP 0 rfl rfl 3 (by decide) hf21 (fun _ h9 => h9) rfl dX0_pass_86 ?_
        refine lv_iload_n hx hb dX0_pass_89 rfl (lv_at hl 4 rfl) ?_
        refine lv_dup2_11 hx hb dX0_pass_90 rfl rfl ?_
        refine g_iald (f := (lPu L)) (k := p0.toNatClampNeg) hx hb hK hP 4 0 rfl rfl hg1 rfl dX0_pass_91 ?_
        refine lv_iconst (v := 1) hx hb dX0_pass_92 (by decide) ?_
        refine lv_iadd hx hb dX0_pass_93 ?_
        refine g_iast (f := (lPu L)) (k := p0.toNatClampNeg) hx hb hK hP LW_self hS 4 0 rfl rfl hg1 rfl dX0_pass_94 (fun H locs hP hS => ?_)
        have hP : va_P D vwCl (LW cI q ((lWe L), (upd (lCy L) p0.toNatClampNeg (((lCy L) p0.toNatClampNeg) + 1)), (upd (lWr L) p0.toNatClampNeg (((lWr L) p0.toNatClampNeg) + (1 + ((lWe L) p0.toNatClampNeg)))), (upd (lPu L) p0.toNatClampNeg (((lPu L) p0.toNatClampNeg) + 1)), (lSl L), (lPl L), (lSp L), (lSt L), (lLi L), (lN_ L), (lStn L), (lClk L), (lRnd L))) H := hP
        refine lv_aload_n hx hb dX0_pass_95 rfl (lv_at hl 3 rfl) ?_
        refine va_get (D := D) (ci := 0) (v := .ref (q + 5)) (C := RX0) (T := TX0) (N := 13) hx hb hts hinX0 hown hK hP 0 rfl rfl 4 (by decide) hf24 (fun _ h9 => h9) rfl dX0_pass_96 ?_
        refine lv_iload_n hx hb dX0_pass_99 rfl (lv_at hl 4 rfl) ?_
        refine lv_aload_n hx hb dX0_pass_100 rfl (lv_at hl 3 rfl) ?_
        refine va_get (D := D) (ci := 0) (v := .ref (q + 3)) (C := RX0) (T := TX0) (N := 13) hx hb hts hinX0 hown hK hP 0 rfl rfl 2 (by decide) hf18 (fun _ h9 => h9) rfl dX0_pass_101 ?_
        refine lv_iload_n hx hb dX0_pass_104 rfl (lv_at hl 4 rfl) ?_
        refine g_iald (f := (upd (lWr L) p0.toNatClampNeg (((lWr L) p0.toNatClampNeg) + (1 + ((lWe L) p0.toNatClampNeg))))) (k := p0.toNatClampNeg) hx hb hK hP 3 0 rfl rfl hg1 rfl dX0_pass_105 ?_
        refine lv_iconst (v := 4) hx hb dX0_pass_106 (by decide) ?_
        refine lv_idiv hx hb dX0_pass_107 (by decide) ?_
        refine lv_iload_n hx hb dX0_pass_108 rfl (lv_at hl 5 rfl) ?_
        refine lv_bipush (v := 16) hx hb dX0_pass_109 (by decide) ?_
        refine lv_idiv hx hb dX0_pass_111 (by decide) ?_
        refine lv_iconst (v := 5) hx hb dX0_pass_112 (by decide) ?_
        refine lv_irem hx hb dX0_pass_113 (by decide) ?_
        refine lv_iadd hx hb dX0_pass_114 ?_
        refine g_iast (f := (lSl L)) (k := p0.toNatClampNeg) hx hb hK hP LW_self hS 5 0 rfl rfl hg1 rfl dX0_pass_115 (fun H locs hP hS => ?_)
        have hP : va_P D vwCl (LW cI q ((lWe L), (upd (lCy L) p0.toNatClampNeg (((lCy L) p0.toNatClampNeg) + 1)), (upd (lWr L) p0.toNatClampNeg (((lWr L) p0.toNatClampNeg) + (1 + ((lWe L) p0.toNatClampNeg)))), (upd (lPu L) p0.toNatClampNeg (((lPu L) p0.toNatClampNeg) + 1)), (upd (lSl L) p0.toNatClampNeg ((((upd (lWr L) p0.toNatClampNeg (((lWr L) p0.toNatClampNeg) + (1 + ((lWe L) p0.toNatClampNeg)))) p0.toNatClampNeg) / 4) + ((p1 / 16) - (p1 / 16) / 5 * 5))), (lPl L), (lSp L), (lSt L), (lLi L), (lN_ L), (lStn L), (lClk L), (lRnd L))) H := hP
        refine lv_iload hx hb dX0_pass_116 (lv_at hl 1 rfl) ?_
        refine lv_if_ne (tgt := 138) hx hb dX0_pass_118 (by decide) (fun c => absurd c (by decide)) (fun _ => ?_)
        refine lv_aload_n hx hb dX0_pass_121 rfl (lv_at hl 3 rfl) ?_
        refine va_get (D := D) (ci := 0) (v := .ref (q + 5)) (C := RX0) (T := TX0) (N := 13) hx hb hts hinX0 hown hK hP 0 rfl rfl 4 (by decide) hf24 (fun _ h9 => h9) rfl dX0_pass_122 ?_
        refine lv_iload_n hx hb dX0_pass_125 rfl (lv_at hl 4 rfl) ?_
        refine g_iald (f := (upd (lSl L) p0.toNatClampNeg ((((upd (lWr L) p0.toNatClampNeg (((lWr L) p0.toNatClampNeg) + (1 + ((lWe L) p0.toNatClampNeg)))) p0.toNatClampNeg) / 4) + ((p1 / 16) - (p1 / 16) / 5 * 5)))) (k := p0.toNatClampNeg) hx hb hK hP 5 0 rfl rfl hg1 rfl dX0_pass_126 ?_
        refine lv_aload_n hx hb dX0_pass_127 rfl (lv_at hl 3 rfl) ?_
        refine va_get (D := D) (ci := 0) (v := .ref (q + 9)) (C := RX0) (T := TX0) (N := 13) hx hb hts hinX0 hown hK hP 0 rfl rfl 8 (by decide) hf36 (fun _ h9 => h9) rfl dX0_pass_128 ?_
        refine lv_iconst (v := 1) hx hb dX0_pass_131 (by decide) ?_
        refine g_iald (f := (lLi L)) (k := 1) hx hb hK hP 9 0 rfl rfl (vin_lit rfl) rfl dX0_pass_132 ?_
        refine lv_icmp_gt (tgt := 138) hx hb dX0_pass_133 (by decide) (fun c6 => ?_) (fun c6 => ?_)
        · replace h := (if_pos c6).symm.trans h
          refine lv_aload_n hx hb dX0_pass_138 rfl (lv_at hl 3 rfl) ?_
          refine va_get (D := D) (ci := 0) (v := .ref (q + 6)) (C := RX0) (T := TX0) (N := 13) hx hb hts hinX0 hown hK hP 0 rfl rfl 5 (by decide) hf27 (fun _ h9 => h9) rfl dX0_pass_139 ?_
          refine lv_iload_n hx hb dX0_pass_142 rfl (lv_at hl 4 rfl) ?_
          refine lv_iconst (v := 2) hx hb dX0_pass_143 (by decide) ?_
          refine g_iast (f := (lPl L)) (k := p0.toNatClampNeg) hx hb hK hP LW_self hS 6 0 rfl rfl hg1 rfl dX0_pass_144 (fun H locs hP hS => ?_)
          have hP : va_P D vwCl (LW cI q ((lWe L), (upd (lCy L) p0.toNatClampNeg (((lCy L) p0.toNatClampNeg) + 1)), (upd (lWr L) p0.toNatClampNeg (((lWr L) p0.toNatClampNeg) + (1 + ((lWe L) p0.toNatClampNeg)))), (upd (lPu L) p0.toNatClampNeg (((lPu L) p0.toNatClampNeg) + 1)), (upd (lSl L) p0.toNatClampNeg ((((upd (lWr L) p0.toNatClampNeg (((lWr L) p0.toNatClampNeg) + (1 + ((lWe L) p0.toNatClampNeg)))) p0.toNatClampNeg) / 4) + ((p1 / 16) - (p1 / 16) / 5 * 5))), (upd (lPl L) p0.toNatClampNeg 2), (lSp L), (lSt L), (lLi L), (lN_ L), (lStn L), (lClk L), (lRnd L))) H := hP
          refine lv_aload_n hx hb dX0_pass_145 rfl (lv_at hl 3 rfl) ?_
          refine va_get (D := D) (ci := 0) (v := .ref (q + 8)) (C := RX0) (T := TX0) (N := 13) hx hb hts hinX0 hown hK hP 0 rfl rfl 7 (by decide) hf33 (fun _ h9 => h9) rfl dX0_pass_146 ?_
          refine lv_iload_n hx hb dX0_pass_149 rfl (lv_at hl 4 rfl) ?_
          refine lv_aload_n hx hb dX0_pass_150 rfl (lv_at hl 3 rfl) ?_
          refine va_get (D := D) (ci := 0) (v := .ref (q + 9)) (C := RX0) (T := TX0) (N := 13) hx hb hts hinX0 hown hK hP 0 rfl rfl 8 (by decide) hf36 (fun _ h9 => h9) rfl dX0_pass_151 ?_
          refine lv_iconst (v := 4) hx hb dX0_pass_154 (by decide) ?_
          refine g_iald (f := (lLi L)) (k := 4) hx hb hK hP 9 0 rfl rfl (vin_lit rfl) rfl dX0_pass_155 ?_
          refine g_iast (f := (lSt L)) (k := p0.toNatClampNeg) hx hb hK hP LW_self hS 8 0 rfl rfl hg1 rfl dX0_pass_156 (fun H locs hP hS => ?_)
          have hP : va_P D vwCl (LW cI q ((lWe L), (upd (lCy L) p0.toNatClampNeg (((lCy L) p0.toNatClampNeg) + 1)), (upd (lWr L) p0.toNatClampNeg (((lWr L) p0.toNatClampNeg) + (1 + ((lWe L) p0.toNatClampNeg)))), (upd (lPu L) p0.toNatClampNeg (((lPu L) p0.toNatClampNeg) + 1)), (upd (lSl L) p0.toNatClampNeg ((((upd (lWr L) p0.toNatClampNeg (((lWr L) p0.toNatClampNeg) + (1 + ((lWe L) p0.toNatClampNeg)))) p0.toNatClampNeg) / 4) + ((p1 / 16) - (p1 / 16) / 5 * 5))), (upd (lPl L) p0.toNatClampNeg 2), (lSp L), (upd (lSt L) p0.toNatClampNeg ((lLi L) 4)), (lLi L), (lN_ L), (lStn L), (lClk L), (lRnd L))) H := hP
          refine lv_iconst (v := 1) hx hb dX0_pass_157 (by decide) ?_
          refine lv_iload hx hb dX0_pass_158 (lv_at hl 1 rfl) ?_
          refine lv_if_eq (tgt := 167) hx hb dX0_pass_160 (by decide) (fun _ => ?_) (fun c => absurd c (by decide))
          refine lv_iconst (v := 4) hx hb dX0_pass_167 (by decide) ?_
          refine lv_ior hx hb dX0_pass_168 ?_
          have h := Option.some.inj h
          subst h
          exact W.iret (v := (1 ||| 4)) hx hb hr (fun t ht hW => ⟨⟨_, (), rfl, rfl, gh ht hP⟩, hS.F ht⟩) hS.2.2 dX0_pass_169
        · replace h := (if_neg c6).symm.trans h
          refine lv_iconst (v := 1) hx hb dX0_pass_136 (by decide) ?_
          have h := Option.some.inj h
          subst h
          exact W.iret (v := 1) hx hb hr (fun t ht hW => ⟨⟨_, (), rfl, rfl, gh ht hP⟩, hS.F ht⟩) hS.2.2 dX0_pass_137
  · replace h := (if_neg c2).symm.trans h
    refine lv_iconst (v := 1) hx hb dX0_pass_49 (by decide) ?_
    refine lv_goto (tgt := 54) hx hb dX0_pass_50 (by decide) ?_
    refine lv_istore (lv' := [(4, .int 1), (3, .int ((lLi L) 2)), (0, .ref q), (1, .int p0), (2, .int p1)]) hx hb dX0_pass_54 hl (by decide) rfl (fun ls hl => ?_)
    refine lv_iload_n hx hb dX0_pass_56 rfl (lv_at hl 1 rfl) ?_
    refine lv_if_le (tgt := 70) hx hb dX0_pass_57 (by decide) (fun c7 => ?_) (fun c7 => ?_)
    · replace h := (if_pos c7).symm.trans h
      refine lv_iconst (v := 0) hx hb dX0_pass_70 (by decide) ?_
      refine lv_istore (lv' := [(5, .int 0), (4, .int 1), (3, .int ((lLi L) 2)), (0, .ref q), (1, .int p0), (2, .int p1)]) hx hb dX0_pass_71 hl (by decide) rfl (fun ls hl => ?_)
      refine lv_iload hx hb dX0_pass_73 (lv_at hl 1 rfl) ?_
      refine lv_if_ne (tgt := 85) hx hb dX0_pass_75 (by decide) (fun _ => ?_) (fun c => absurd c (by decide))
      refine lv_aload_n hx hb dX0_pass_85 rfl (lv_at hl 3 rfl) ?_
      refine va_get (D := D) (ci := 0) (v := .ref (q + 4)) (C := RX0) (T := TX0) (N := 13) hx hb hts hinX0 hown hK hP 0 rfl rfl 3 (by decide) hf21 (fun _ h9 => h9) rfl dX0_pass_86 ?_
      refine lv_iload_n hx hb dX0_pass_89 rfl (lv_at hl 4 rfl) ?_
      refine lv_dup2_11 hx hb dX0_pass_90 rfl rfl ?_
      refine g_iald (f := (lPu L)) (k := p0.toNatClampNeg) hx hb hK hP 4 0 rfl rfl hg1 rfl dX0_pass_91 ?_
      refine lv_iconst (v := 1) hx hb dX0_pass_92 (by decide) ?_
      refine lv_iadd hx hb dX0_pass_93 ?_
      refine g_iast (f := (lPu L)) (k := p0.toNatClampNeg) hx hb hK hP LW_self hS 4 0 rfl rfl hg1 rfl dX0_pass_94 (fun H locs hP hS => ?_)
      have hP : va_P D vwCl (LW cI q ((lWe L), (upd (lCy L) p0.toNatClampNeg (((lCy L) p0.toNatClampNeg) + 1)), (upd (lWr L) p0.toNatClampNeg (((lWr L) p0.toNatClampNeg) + (1 + ((lWe L) p0.toNatClampNeg)))), (upd (lPu L) p0.toNatClampNeg (((lPu L) p0.toNatClampNeg) + 1)), (lSl L), (lPl L), (lSp L), (lSt L), (lLi L), (lN_ L), (lStn L), (lClk L), (lRnd L))) H := hP
      refine lv_aload_n hx hb dX0_pass_95 rfl (lv_at hl 3 rfl) ?_
      refine va_get (D := D) (ci := 0) (v := .ref (q + 5)) (C := RX0) (T := TX0) (N := 13) hx hb hts hinX0 hown hK hP 0 rfl rfl 4 (by decide) hf24 (fun _ h9 => h9) rfl dX0_pass_96 ?_
      refine lv_iload_n hx hb dX0_pass_99 rfl (lv_at hl 4 rfl) ?_
      refine lv_aload_n hx hb dX0_pass_100 rfl (lv_at hl 3 rfl) ?_
      refine va_get (D := D) (ci := 0) (v := .ref (q + 3)) (C := RX0) (T := TX0) (N := 13) hx hb hts hinX0 hown hK hP 0 rfl rfl 2 (by decide) hf18 (fun _ h9 => h9) rfl dX0_pass_101 ?_
      refine lv_iload_n hx hb dX0_pass_104 rfl (lv_at hl 4 rfl) ?_
      refine g_iald (f := (upd (lWr L) p0.toNatClampNeg (((lWr L) p0.toNatClampNeg) + (1 + ((lWe L) p0.toNatClampNeg))))) (k := p0.toNatClampNeg) hx hb hK hP 3 0 rfl rfl hg1 rfl dX0_pass_105 ?_
      refine lv_iconst (v := 4) hx hb dX0_pass_106 (by decide) ?_
      refine lv_idiv hx hb dX0_pass_107 (by decide) ?_
      refine lv_iload_n hx hb dX0_pass_108 rfl (lv_at hl 5 rfl) ?_
      refine lv_bipush (v := 16) hx hb dX0_pass_109 (by decide) ?_
      refine lv_idiv hx hb dX0_pass_111 (by decide) ?_
      refine lv_iconst (v := 5) hx hb dX0_pass_112 (by decide) ?_
      refine lv_irem hx hb dX0_pass_113 (by decide) ?_
      refine lv_iadd hx hb dX0_pass_114 ?_
      refine g_iast (f := (lSl L)) (k := p0.toNatClampNeg) hx hb hK hP LW_self hS 5 0 rfl rfl hg1 rfl dX0_pass_115 (fun H locs hP hS => ?_)
      have hP : va_P D vwCl (LW cI q ((lWe L), (upd (lCy L) p0.toNatClampNeg (((lCy L) p0.toNatClampNeg) + 1)), (upd (lWr L) p0.toNatClampNeg (((lWr L) p0.toNatClampNeg) + (1 + ((lWe L) p0.toNatClampNeg)))), (upd (lPu L) p0.toNatClampNeg (((lPu L) p0.toNatClampNeg) + 1)), (upd (lSl L) p0.toNatClampNeg ((((upd (lWr L) p0.toNatClampNeg (((lWr L) p0.toNatClampNeg) + (1 + ((lWe L) p0.toNatClampNeg)))) p0.toNatClampNeg) / 4) + ((p1 / 16) - (p1 / 16) / 5 * 5))), (lPl L), (lSp L), (lSt L), (lLi L), (lN_ L), (lStn L), (lClk L), (lRnd L))) H := hP
      refine lv_iload hx hb dX0_pass_116 (lv_at hl 1 rfl) ?_
      refine lv_if_ne (tgt := 138) hx hb dX0_pass_118 (by decide) (fun _ => ?_) (fun c => absurd c (by decide))
      refine lv_aload_n hx hb dX0_pass_138 rfl (lv_at hl 3 rfl) ?_
      refine va_get (D := D) (ci := 0) (v := .ref (q + 6)) (C := RX0) (T := TX0) (N := 13) hx hb hts hinX0 hown hK hP 0 rfl rfl 5 (by decide) hf27 (fun _ h9 => h9) rfl dX0_pass_139 ?_
      refine lv_iload_n hx hb dX0_pass_142 rfl (lv_at hl 4 rfl) ?_
      refine lv_iconst (v := 2) hx hb dX0_pass_143 (by decide) ?_
      refine g_iast (f := (lPl L)) (k := p0.toNatClampNeg) hx hb hK hP LW_self hS 6 0 rfl rfl hg1 rfl dX0_pass_144 (fun H locs hP hS => ?_)
      have hP : va_P D vwCl (LW cI q ((lWe L), (upd (lCy L) p0.toNatClampNeg (((lCy L) p0.toNatClampNeg) + 1)), (upd (lWr L) p0.toNatClampNeg (((lWr L) p0.toNatClampNeg) + (1 + ((lWe L) p0.toNatClampNeg)))), (upd (lPu L) p0.toNatClampNeg (((lPu L) p0.toNatClampNeg) + 1)), (upd (lSl L) p0.toNatClampNeg ((((upd (lWr L) p0.toNatClampNeg (((lWr L) p0.toNatClampNeg) + (1 + ((lWe L) p0.toNatClampNeg)))) p0.toNatClampNeg) / 4) + ((p1 / 16) - (p1 / 16) / 5 * 5))), (upd (lPl L) p0.toNatClampNeg 2), (lSp L), (lSt L), (lLi L), (lN_ L), (lStn L), (lClk L), (lRnd L))) H := hP
      refine lv_aload_n hx hb dX0_pass_145 rfl (lv_at hl 3 rfl) ?_
      refine va_get (D := D) (ci := 0) (v := .ref (q + 8)) (C := RX0) (T := TX0) (N := 13) hx hb hts hinX0 hown hK hP 0 rfl rfl 7 (by decide) hf33 (fun _ h9 => h9) rfl dX0_pass_146 ?_
      refine lv_iload_n hx hb dX0_pass_149 rfl (lv_at hl 4 rfl) ?_
      refine lv_aload_n hx hb dX0_pass_150 rfl (lv_at hl 3 rfl) ?_
      refine va_get (D := D) (ci := 0) (v := .ref (q + 9)) (C := RX0) (T := TX0) (N := 13) hx hb hts hinX0 hown hK hP 0 rfl rfl 8 (by decide) hf36 (fun _ h9 => h9) rfl dX0_pass_151 ?_
      refine lv_iconst (v := 4) hx hb dX0_pass_154 (by decide) ?_
      refine g_iald (f := (lLi L)) (k := 4) hx hb hK hP 9 0 rfl rfl (vin_lit rfl) rfl dX0_pass_155 ?_
      refine g_iast (f := (lSt L)) (k := p0.toNatClampNeg) hx hb hK hP LW_self hS 8 0 rfl rfl hg1 rfl dX0_pass_156 (fun H locs hP hS => ?_)
      have hP : va_P D vwCl (LW cI q ((lWe L), (upd (lCy L) p0.toNatClampNeg (((lCy L) p0.toNatClampNeg) + 1)), (upd (lWr L) p0.toNatClampNeg (((lWr L) p0.toNatClampNeg) + (1 + ((lWe L) p0.toNatClampNeg)))), (upd (lPu L) p0.toNatClampNeg (((lPu L) p0.toNatClampNeg) + 1)), (upd (lSl L) p0.toNatClampNeg ((((upd (lWr L) p0.toNatClampNeg (((lWr L) p0.toNatClampNeg) + (1 + ((lWe L) p0.toNatClampNeg)))) p0.toNatClampNeg) / 4) + ((p1 / 16) - (p1 / 16) / 5 * 5))), (upd (lPl L) p0.toNatClampNeg 2), (lSp L), (upd (lSt L) p0.toNatClampNeg ((lLi L) 4)), (lLi L), (lN_ L), (lStn L), (lClk L), (lRnd L))) H := hP
      refine lv_iconst (v := 1) hx hb dX0_pass_157 (by decide) ?_
      refine lv_iload hx hb dX0_pass_158 (lv_at hl 1 rfl) ?_
      refine lv_if_eq (tgt := 167) hx hb dX0_pass_160 (by decide) (fun c => absurd c (by decide)) (fun _ => ?_)
      refine lv_iconst (v := 2) hx hb dX0_pass_163 (by decide) ?_
      refine lv_goto (tgt := 168) hx hb dX0_pass_164 (by decide) ?_
      refine lv_ior hx hb dX0_pass_168 ?_
      have h := Option.some.inj h
      subst h
      exact W.iret (v := (1 ||| 2)) hx hb hr (fun t ht hW => ⟨⟨_, (), rfl, rfl, gh ht hP⟩, hS.F ht⟩) hS.2.2 dX0_pass_169
    · replace h := (if_neg c7).symm.trans h
      refine lv_iload_n hx hb dX0_pass_60 rfl (lv_at hl 4 rfl) ?_
      refine lv_iload_n hx hb dX0_pass_61 rfl (lv_at hl 1 rfl) ?_
      obtain ⟨hn8, h⟩ := nz_some h
      refine lv_irem hx hb dX0_pass_62 hn8 ?_
      refine lv_if_ne (tgt := 70) hx hb dX0_pass_63 (by decide) (fun c9 => ?_) (fun c9 => ?_)
      · replace h := (if_neg c9).symm.trans h
        refine lv_iconst (v := 0) hx hb dX0_pass_70 (by decide) ?_
        refine lv_istore (lv' := [(5, .int 0), (4, .int 1), (3, .int ((lLi L) 2)), (0, .ref q), (1, .int p0), (2, .int p1)]) hx hb dX0_pass_71 hl (by decide) rfl (fun ls hl => ?_)
        refine lv_iload hx hb dX0_pass_73 (lv_at hl 1 rfl) ?_
        refine lv_if_ne (tgt := 85) hx hb dX0_pass_75 (by decide) (fun _ => ?_) (fun c => absurd c (by decide))
        refine lv_aload_n hx hb dX0_pass_85 rfl (lv_at hl 3 rfl) ?_
        refine va_get (D := D) (ci := 0) (v := .ref (q + 4)) (C := RX0) (T := TX0) (N := 13) hx hb hts hinX0 hown hK hP 0 rfl rfl 3 (by decide) hf21 (fun _ h9 => h9) rfl dX0_pass_86 ?_
        refine lv_iload_n hx hb dX0_pass_89 rfl (lv_at hl 4 rfl) ?_
        refine lv_dup2_11 hx hb dX0_pass_90 rfl rfl ?_
        refine g_iald (f := (lPu L)) (k := p0.toNatClampNeg) hx hb hK hP 4 0 rfl rfl hg1 rfl dX0_pass_91 ?_
        refine lv_iconst (v := 1) hx hb dX0_pass_92 (by decide) ?_
        refine lv_iadd hx hb dX0_pass_93 ?_
        refine g_iast (f := (lPu L)) (k := p0.toNatClampNeg) hx hb hK hP LW_self hS 4 0 rfl rfl hg1 rfl dX0_pass_94 (fun H locs hP hS => ?_)
        have hP : va_P D vwCl (LW cI q ((lWe L), (upd (lCy L) p0.toNatClampNeg (((lCy L) p0.toNatClampNeg) + 1)), (upd (lWr L) p0.toNatClampNeg (((lWr L) p0.toNatClampNeg) + (1 + ((lWe L) p0.toNatClampNeg)))), (upd (lPu L) p0.toNatClampNeg (((lPu L) p0.toNatClampNeg) + 1)), (lSl L), (lPl L), (lSp L), (lSt L), (lLi L), (lN_ L), (lStn L), (lClk L), (lRnd L))) H := hP
        refine lv_aload_n hx hb dX0_pass_95 rfl (lv_at hl 3 rfl) ?_
        refine va_get (D := D) (ci := 0) (v := .ref (q + 5)) (C := RX0) (T := TX0) (N := 13) hx hb hts hinX0 hown hK hP 0 rfl rfl 4 (by decide) hf24 (fun _ h9 => h9) rfl dX0_pass_96 ?_
        refine lv_iload_n hx hb dX0_pass_99 rfl (lv_at hl 4 rfl) ?_
        refine lv_aload_n hx hb dX0_pass_100 rfl (lv_at hl 3 rfl) ?_
        refine va_get (D := D) (ci := 0) (v := .ref (q + 3)) (C := RX0) (T := TX0) (N := 13) hx hb hts hinX0 hown hK hP 0 rfl rfl 2 (by decide) hf18 (fun _ h9 => h9) rfl dX0_pass_101 ?_
        refine lv_iload_n hx hb dX0_pass_104 rfl (lv_at hl 4 rfl) ?_
        refine g_iald (f := (upd (lWr L) p0.toNatClampNeg (((lWr L) p0.toNatClampNeg) + (1 + ((lWe L) p0.toNatClampNeg))))) (k := p0.toNatClampNeg) hx hb hK hP 3 0 rfl rfl hg1 rfl dX0_pass_105 ?_
        refine lv_iconst (v := 4) hx hb dX0_pass_106 (by decide) ?_
        refine lv_idiv hx hb dX0_pass_107 (by decide) ?_
        refine lv_iload_n hx hb dX0_pass_108 rfl (lv_at hl 5 rfl) ?_
        refine lv_bipush (v := 16) hx hb dX0_pass_109 (by decide) ?_
        refine lv_idiv hx hb dX0_pass_111 (by decide) ?_
        refine lv_iconst (v := 5) hx hb dX0_pass_112 (by decide) ?_
        refine lv_irem hx hb dX0_pass_113 (by decide) ?_
        refine lv_iadd hx hb dX0_pass_114 ?_
        refine g_iast (f := (lSl L)) (k := p0.toNatClampNeg) hx hb hK hP LW_self hS 5 0 rfl rfl hg1 rfl dX0_pass_115 (fun H locs hP hS => ?_)
        have hP : va_P D vwCl (LW cI q ((lWe L), (upd (lCy L) p0.toNatClampNeg (((lCy L) p0.toNatClampNeg) + 1)), (upd (lWr L) p0.toNatClampNeg (((lWr L) p0.toNatClampNeg) + (1 + ((lWe L) p0.toNatClampNeg)))), (upd (lPu L) p0.toNatClampNeg (((lPu L) p0.toNatClampNeg) + 1)), (upd (lSl L) p0.toNatClampNeg ((((upd (lWr L) p0.toNatClampNeg (((lWr L) p0.toNatClampNeg) + (1 + ((lWe L) p0.toNatClampNeg)))) p0.toNatClampNeg) / 4) + ((p1 / 16) - (p1 / 16) / 5 * 5))), (lPl L), (lSp L), (lSt L), (lLi L), (lN_ L), (lStn L), (lClk L), (lRnd L))) H := hP
        refine lv_iload hx hb dX0_pass_116 (lv_at hl 1 rfl) ?_
        refine lv_if_ne (tgt := 138) hx hb dX0_pass_118 (by decide) (fun _ => ?_) (fun c => absurd c (by decide))
        refine lv_aload_n hx hb dX0_pass_138 rfl (lv_at hl 3 rfl) ?_
        refine va_get (D := D) (ci := 0) (v := .ref (q + 6)) (C := RX0) (T := TX0) (N := 13) hx hb hts hinX0 hown hK hP 0 rfl rfl 5 (by decide) hf27 (fun _ h9 => h9) rfl dX0_pass_139 ?_
        refine lv_iload_n hx hb dX0_pass_142 rfl (lv_at hl 4 rfl) ?_
        refine lv_iconst (v := 2) hx hb dX0_pass_143 (by decide) ?_
        refine g_iast (f := (lPl L)) (k := p0.toNatClampNeg) hx hb hK hP LW_self hS 6 0 rfl rfl hg1 rfl dX0_pass_144 (fun H locs hP hS => ?_)
        have hP : va_P D vwCl (LW cI q ((lWe L), (upd (lCy L) p0.toNatClampNeg (((lCy L) p0.toNatClampNeg) + 1)), (upd (lWr L) p0.toNatClampNeg (((lWr L) p0.toNatClampNeg) + (1 + ((lWe L) p0.toNatClampNeg)))), (upd (lPu L) p0.toNatClampNeg (((lPu L) p0.toNatClampNeg) + 1)), (upd (lSl L) p0.toNatClampNeg ((((upd (lWr L) p0.toNatClampNeg (((lWr L) p0.toNatClampNeg) + (1 + ((lWe L) p0.toNatClampNeg)))) p0.toNatClampNeg) / 4) + ((p1 / 16) - (p1 / 16) / 5 * 5))), (upd (lPl L) p0.toNatClampNeg 2), (lSp L), (lSt L), (lLi L), (lN_ L), (lStn L), (lClk L), (lRnd L))) H := hP
        refine lv_aload_n hx hb dX0_pass_145 rfl (lv_at hl 3 rfl) ?_
        refine va_get (D := D) (ci := 0) (v := .ref (q + 8)) (C := RX0) (T := TX0) (N := 13) hx hb hts hinX0 hown hK hP 0 rfl rfl 7 (by decide) hf33 (fun _ h9 => h9) rfl dX0_pass_146 ?_
        refine lv_iload_n hx hb dX0_pass_149 rfl (lv_at hl 4 rfl) ?_
        refine lv_aload_n hx hb dX0_pass_150 rfl (lv_at hl 3 rfl) ?_
        refine va_get (D := D) (ci := 0) (v := .ref (q + 9)) (C := RX0) (T := TX0) (N := 13) hx hb hts hinX0 hown hK hP 0 rfl rfl 8 (by decide) hf36 (fun _ h9 => h9) rfl dX0_pass_151 ?_
        refine lv_iconst (v := 4) hx hb dX0_pass_154 (by decide) ?_
        refine g_iald (f := (lLi L)) (k := 4) hx hb hK hP 9 0 rfl rfl (vin_lit rfl) rfl dX0_pass_155 ?_
        refine g_iast (f := (lSt L)) (k := p0.toNatClampNeg) hx hb hK hP LW_self hS 8 0 rfl rfl hg1 rfl dX0_pass_156 (fun H locs hP hS => ?_)
        have hP : va_P D vwCl (LW cI q ((lWe L), (upd (lCy L) p0.toNatClampNeg (((lCy L) p0.toNatClampNeg) + 1)), (upd (lWr L) p0.toNatClampNeg (((lWr L) p0.toNatClampNeg) + (1 + ((lWe L) p0.toNatClampNeg)))), (upd (lPu L) p0.toNatClampNeg (((lPu L) p0.toNatClampNeg) + 1)), (upd (lSl L) p0.toNatClampNeg ((((upd (lWr L) p0.toNatClampNeg (((lWr L) p0.toNatClampNeg) + (1 + ((lWe L) p0.toNatClampNeg)))) p0.toNatClampNeg) / 4) + ((p1 / 16) - (p1 / 16) / 5 * 5))), (upd (lPl L) p0.toNatClampNeg 2), (lSp L), (upd (lSt L) p0.toNatClampNeg ((lLi L) 4)), (lLi L), (lN_ L), (lStn L), (lClk L), (lRnd L))) H := hP
        refine lv_iconst (v := 1) hx hb dX0_pass_157 (by decide) ?_
        refine lv_iload hx hb dX0_pass_158 (lv_at hl 1 rfl) ?_
        refine lv_if_eq (tgt := 167) hx hb dX0_pass_160 (by decide) (fun c => absurd c (by decide)) (fun _ => ?_)
        refine lv_iconst (v := 2) hx hb dX0_pass_163 (by decide) ?_
        refine lv_goto (tgt := 168) hx hb dX0_pass_164 (by decide) ?_
        refine lv_ior hx hb dX0_pass_168 ?_
        have h := Option.some.inj h
        subst h
        exact W.iret (v := (1 ||| 2)) hx hb hr (fun t ht hW => ⟨⟨_, (), rfl, rfl, gh ht hP⟩, hS.F ht⟩) hS.2.2 dX0_pass_169
      · replace h := (if_pos c9).symm.trans h
        refine lv_iconst (v := 1) hx hb dX0_pass_66 (by decide) ?_
        refine lv_goto (tgt := 71) hx hb dX0_pass_67 (by decide) ?_
        refine lv_istore (lv' := [(5, .int 1), (4, .int 1), (3, .int ((lLi L) 2)), (0, .ref q), (1, .int p0), (2, .int p1)]) hx hb dX0_pass_71 hl (by decide) rfl (fun ls hl => ?_)
        refine lv_iload hx hb dX0_pass_73 (lv_at hl 1 rfl) ?_
        refine lv_if_ne (tgt := 85) hx hb dX0_pass_75 (by decide) (fun _ => ?_) (fun c => absurd c (by decide))
        refine lv_aload_n hx hb dX0_pass_85 rfl (lv_at hl 3 rfl) ?_
        refine va_get (D := D) (ci := 0) (v := .ref (q + 4)) (C := RX0) (T := TX0) (N := 13) hx hb hts hinX0 hown hK hP 0 rfl rfl 3 (by decide) hf21 (fun _ h9 => h9) rfl dX0_pass_86 ?_
        refine lv_iload_n hx hb dX0_pass_89 rfl (lv_at hl 4 rfl) ?_
        refine lv_dup2_11 hx hb dX0_pass_90 rfl rfl ?_
        refine g_iald (f := (lPu L)) (k := p0.toNatClampNeg) hx hb hK hP 4 0 rfl rfl hg1 rfl dX0_pass_91 ?_
        refine lv_iconst (v := 1) hx hb dX0_pass_92 (by decide) ?_
        refine lv_iadd hx hb dX0_pass_93 ?_
        refine g_iast (f := (lPu L)) (k := p0.toNatClampNeg) hx hb hK hP LW_self hS 4 0 rfl rfl hg1 rfl dX0_pass_94 (fun H locs hP hS => ?_)
        have hP : va_P D vwCl (LW cI q ((lWe L), (upd (lCy L) p0.toNatClampNeg (((lCy L) p0.toNatClampNeg) + 1)), (upd (lWr L) p0.toNatClampNeg (((lWr L) p0.toNatClampNeg) + (1 + ((lWe L) p0.toNatClampNeg)))), (upd (lPu L) p0.toNatClampNeg (((lPu L) p0.toNatClampNeg) + 1)), (lSl L), (lPl L), (lSp L), (lSt L), (lLi L), (lN_ L), (lStn L), (lClk L), (lRnd L))) H := hP
        refine lv_aload_n hx hb dX0_pass_95 rfl (lv_at hl 3 rfl) ?_
        refine va_get (D := D) (ci := 0) (v := .ref (q + 5)) (C := RX0) (T := TX0) (N := 13) hx hb hts hinX0 hown hK hP 0 rfl rfl 4 (by decide) hf24 (fun _ h9 => h9) rfl dX0_pass_96 ?_
        refine lv_iload_n hx hb dX0_pass_99 rfl (lv_at hl 4 rfl) ?_
        refine lv_aload_n hx hb dX0_pass_100 rfl (lv_at hl 3 rfl) ?_
        refine va_get (D := D) (ci := 0) (v := .ref (q + 3)) (C := RX0) (T := TX0) (N := 13) hx hb hts hinX0 hown hK hP 0 rfl rfl 2 (by decide) hf18 (fun _ h9 => h9) rfl dX0_pass_101 ?_
        refine lv_iload_n hx hb dX0_pass_104 rfl (lv_at hl 4 rfl) ?_
        refine g_iald (f := (upd (lWr L) p0.toNatClampNeg (((lWr L) p0.toNatClampNeg) + (1 + ((lWe L) p0.toNatClampNeg))))) (k := p0.toNatClampNeg) hx hb hK hP 3 0 rfl rfl hg1 rfl dX0_pass_105 ?_
        refine lv_iconst (v := 4) hx hb dX0_pass_106 (by decide) ?_
        refine lv_idiv hx hb dX0_pass_107 (by decide) ?_
        refine lv_iload_n hx hb dX0_pass_108 rfl (lv_at hl 5 rfl) ?_
        refine lv_bipush (v := 16) hx hb dX0_pass_109 (by decide) ?_
        refine lv_idiv hx hb dX0_pass_111 (by decide) ?_
        refine lv_iconst (v := 5) hx hb dX0_pass_112 (by decide) ?_
        refine lv_irem hx hb dX0_pass_113 (by decide) ?_
        refine lv_iadd hx hb dX0_pass_114 ?_
        refine g_iast (f := (lSl L)) (k := p0.toNatClampNeg) hx hb hK hP LW_self hS 5 0 rfl rfl hg1 rfl dX0_pass_115 (fun H locs hP hS => ?_)
        have hP : va_P D vwCl (LW cI q ((lWe L), (upd (lCy L) p0.toNatClampNeg (((lCy L) p0.toNatClampNeg) + 1)), (upd (lWr L) p0.toNatClampNeg (((lWr L) p0.toNatClampNeg) + (1 + ((lWe L) p0.toNatClampNeg)))), (upd (lPu L) p0.toNatClampNeg (((lPu L) p0.toNatClampNeg) + 1)), (upd (lSl L) p0.toNatClampNeg ((((upd (lWr L) p0.toNatClampNeg (((lWr L) p0.toNatClampNeg) + (1 + ((lWe L) p0.toNatClampNeg)))) p0.toNatClampNeg) / 4) + ((p1 / 16) - (p1 / 16) / 5 * 5))), (lPl L), (lSp L), (lSt L), (lLi L), (lN_ L), (lStn L), (lClk L), (lRnd L))) H := hP
        refine lv_iload hx hb dX0_pass_116 (lv_at hl 1 rfl) ?_
        refine lv_if_ne (tgt := 138) hx hb dX0_pass_118 (by decide) (fun _ => ?_) (fun c => absurd c (by decide))
        refine lv_aload_n hx hb dX0_pass_138 rfl (lv_at hl 3 rfl) ?_
        refine va_get (D := D) (ci := 0) (v := .ref (q + 6)) (C := RX0) (T := TX0) (N := 13) hx hb hts hinX0 hown hK hP 0 rfl rfl 5 (by decide) hf27 (fun _ h9 => h9) rfl dX0_pass_139 ?_
        refine lv_iload_n hx hb dX0_pass_142 rfl (lv_at hl 4 rfl) ?_
        refine lv_iconst (v := 2) hx hb dX0_pass_143 (by decide) ?_
        refine g_iast (f := (lPl L)) (k := p0.toNatClampNeg) hx hb hK hP LW_self hS 6 0 rfl rfl hg1 rfl dX0_pass_144 (fun H locs hP hS => ?_)
        have hP : va_P D vwCl (LW cI q ((lWe L), (upd (lCy L) p0.toNatClampNeg (((lCy L) p0.toNatClampNeg) + 1)), (upd (lWr L) p0.toNatClampNeg (((lWr L) p0.toNatClampNeg) + (1 + ((lWe L) p0.toNatClampNeg)))), (upd (lPu L) p0.toNatClampNeg (((lPu L) p0.toNatClampNeg) + 1)), (upd (lSl L) p0.toNatClampNeg ((((upd (lWr L) p0.toNatClampNeg (((lWr L) p0.toNatClampNeg) + (1 + ((lWe L) p0.toNatClampNeg)))) p0.toNatClampNeg) / 4) + ((p1 / 16) - (p1 / 16) / 5 * 5))), (upd (lPl L) p0.toNatClampNeg 2), (lSp L), (lSt L), (lLi L), (lN_ L), (lStn L), (lClk L), (lRnd L))) H := hP
        refine lv_aload_n hx hb dX0_pass_145 rfl (lv_at hl 3 rfl) ?_
        refine va_get (D := D) (ci := 0) (v := .ref (q + 8)) (C := RX0) (T := TX0) (N := 13) hx hb hts hinX0 hown hK hP 0 rfl rfl 7 (by decide) hf33 (fun _ h9 => h9) rfl dX0_pass_146 ?_
        refine lv_iload_n hx hb dX0_pass_149 rfl (lv_at hl 4 rfl) ?_
        refine lv_aload_n hx hb dX0_pass_150 rfl (lv_at hl 3 rfl) ?_
        refine va_get (D := D) (ci := 0) (v := .ref (q + 9)) (C := RX0) (T := TX0) (N := 13) hx hb hts hinX0 hown hK hP 0 rfl rfl 8 (by decide) hf36 (fun _ h9 => h9) rfl dX0_pass_151 ?_
        refine lv_iconst (v := 4) hx hb dX0_pass_154 (by decide) ?_
        refine g_iald (f := (lLi L)) (k := 4) hx hb hK hP 9 0 rfl rfl (vin_lit rfl) rfl dX0_pass_155 ?_
        refine g_iast (f := (lSt L)) (k := p0.toNatClampNeg) hx hb hK hP LW_self hS 8 0 rfl rfl hg1 rfl dX0_pass_156 (fun H locs hP hS => ?_)
        have hP : va_P D vwCl (LW cI q ((lWe L), (upd (lCy L) p0.toNatClampNeg (((lCy L) p0.toNatClampNeg) + 1)), (upd (lWr L) p0.toNatClampNeg (((lWr L) p0.toNatClampNeg) + (1 + ((lWe L) p0.toNatClampNeg)))), (upd (lPu L) p0.toNatClampNeg (((lPu L) p0.toNatClampNeg) + 1)), (upd (lSl L) p0.toNatClampNeg ((((upd (lWr L) p0.toNatClampNeg (((lWr L) p0.toNatClampNeg) + (1 + ((lWe L) p0.toNatClampNeg)))) p0.toNatClampNeg) / 4) + ((p1 / 16) - (p1 / 16) / 5 * 5))), (upd (lPl L) p0.toNatClampNeg 2), (lSp L), (upd (lSt L) p0.toNatClampNeg ((lLi L) 4)), (lLi L), (lN_ L), (lStn L), (lClk L), (lRnd L))) H := hP
        refine lv_iconst (v := 1) hx hb dX0_pass_157 (by decide) ?_
        refine lv_iload hx hb dX0_pass_158 (lv_at hl 1 rfl) ?_
        refine lv_if_eq (tgt := 167) hx hb dX0_pass_160 (by decide) (fun c => absurd c (by decide)) (fun _ => ?_)
        refine lv_iconst (v := 2) hx hb dX0_pass_163 (by decide) ?_
        refine lv_goto (tgt := 168) hx hb dX0_pass_164 (by decide) ?_
        refine lv_ior hx hb dX0_pass_168 ?_
        have h := Option.some.inj h
        subst h
        exact W.iret (v := (1 ||| 2)) hx hb hr (fun t ht hW => ⟨⟨_, (), rfl, rfl, gh ht hP⟩, hS.F ht⟩) hS.2.2 dX0_pass_169
end
section
set_option maxHeartbeats 4000000 in
set_option maxRecDepth 100000 in
theorem kX0_repairAllBut (l : Launch) (D : va_G) (cI cC cZ cQ cJ : ClassId) (q : Nat) (L : LSt) (p0 : Int32) {R : LSt} (h : fX0_repairAllBut L p0 = some R) : Met l yX0_repairAllBut wsX0_repairAllBut ({ frames := 0, cells := 0, slots := 0, locals := 0 } : Room) (va_Pc [.ref q, .int p0] (gB D (gTy cI cC cZ cQ cJ) (va_P D vwCl (LW cI q L)))) (va_Qv (fun _ : Unit => True) (fun _ t => va_P D vwCl (LW cI q R) t.heap) (fIv q 10)) 0 0 (fIv q 10) := by
  refine Met.ofW (cc := cX0_repairAllBut) (maxL := 3) (ret := none) (by decide) rfl ?_
  intro p e s m args below meth c s₁ B hml hv
  obtain ⟨rfl, hP, hK⟩ := hv
  have hx := B.exec
  have hb := B.bytes
  have hr := B.returns
  have hts := atoms_spec (ws := wsX0_repairAllBut) B.pre
  have hown : s.vm.findClass RX0 = some m.cls := findClass_of_methodNamed B.named
  have hlocks := B.notSynchronized
  have hinX0 : ∀ w ∈ wsX00, w ∈ wsX0_repairAllBut := by decide +kernel
  have hf27 := hts (.fieldLink RX0 27 "GripInspector$Lift" "place" "[I") (by decide +kernel)
  have hf33 := hts (.fieldLink RX0 33 "GripInspector$Lift" "stepsLeft" "[I") (by decide +kernel)
  have hf15 := hts (.fieldLink RX0 15 "GripInspector$Lift" "cycles" "[I") (by decide +kernel)
  have hf18 := hts (.fieldLink RX0 18 "GripInspector$Lift" "wear" "[I") (by decide +kernel)
  generalize hRM : (headSpec wsX0_repairAllBut ({ frames := 0, cells := 0, slots := 0, locals := 0 } : Room)).room = RM
  replace hRM : ({ frames := 0, cells := 0, slots := 0, locals := 0 } : Room) = RM := hRM
  subst hRM
  have hl := lv_entry ([.ref q, .int p0]) (n := 3) (Nat.le_of_ble_eq_true rfl)
  rw [lg_entry_eq]
  generalize (lg_sl ([.ref q, .int p0]) ++ List.replicate (3 - (lg_sl ([.ref q, .int p0])).length) Slot.unset).toArray = ls at hl ⊢
  have hl : lv_has ls 3 [(0, .ref q), (1, .int p0)] := hl
  have hS : va_S (fIv q 10) s.heap s.heap [] := va_S.rf
  have LP2 : ∀ (n : Nat) (S : LSt) (x1 : Int32) (x2 : Int32) (H : Heap) (locs : List Loc) (ls : Array Slot), fX0_repairAllBut_L2 n S x1 x2 = some R → va_P D vwCl (LW cI q S) H → va_S (fIv q 10) s.heap H locs → lv_has ls 3 [(0, .ref q), (1, .int x1), (2, .int x2)] → W p l e ({ frames := 0, cells := 0, slots := 0, locals := 0 } : Room) s m ([.ref q, .int p0] : List Value).toArray below meth c H locs 0 0 (MQ below (va_Qv (fun _ : Unit => True) (fun _ t => va_P D vwCl (LW cI q R) t.heap) (fIv q 10)) ([.ref q, .int p0] : List Value).toArray s 0 0 (fIv q 10)) (F0 m 2 ls []) := by
    intro n
    induction n with
    | zero => intro S x1 x2 H locs ls h hP hS hl; exact no_some h
    | succ n ih =>
      intro S x1 x2 H locs ls h hP hS hl
      rw [fX0_repairAllBut_L2] at h
      refine lv_iload_n hx hb dX0_repairAllBut_2 rfl (lv_at hl 2 rfl) ?_
      refine lv_bipush (v := 12) hx hb dX0_repairAllBut_3 (by decide) ?_
      refine lv_icmp_ge (tgt := 75) hx hb dX0_repairAllBut_5 (by decide) (fun c1 => ?_) (fun c1 => ?_)
      · replace h := (if_pos c1).symm.trans h
        have h := Option.some.inj h
        subst h
        exact W.vret hx hb hr (fun t ht hW => ⟨⟨(), rfl, trivial, gh ht hP⟩, hS.F ht⟩) hS.2.2 dX0_repairAllBut_75
      · replace h := (if_neg c1).symm.trans h
        refine lv_aload_n hx hb dX0_repairAllBut_8 rfl (lv_at hl 0 rfl) ?_
        refine va_get (D := D) (ci := 0) (v := .ref (q + 6)) (C := RX0) (T := TX0) (N := 13) hx hb hts hinX0 hown hK hP 0 rfl rfl 5 (by decide) hf27 (fun _ h9 => h9) rfl dX0_repairAllBut_9 ?_
        refine lv_iload_n hx hb dX0_repairAllBut_12 rfl (lv_at hl 2 rfl) ?_
        obtain ⟨hg2, h⟩ := gd_some h
        refine g_iald (f := (lPl S)) (k := x2.toNatClampNeg) hx hb hK hP 6 0 rfl rfl hg2 rfl dX0_repairAllBut_13 ?_
        refine lv_iconst (v := 2) hx hb dX0_repairAllBut_14 (by decide) ?_
        refine lv_icmp_ne (tgt := 69) hx hb dX0_repairAllBut_15 (by decide) (fun c3 => ?_) (fun c3 => ?_)
        · replace h := (if_neg c3).symm.trans h
          refine lv_iinc (v := (x2 + 1)) (lv' := [(2, .int (x2 + 1)), (0, .ref q), (1, .int x1)]) hx hb dX0_repairAllBut_69 hl (k := 2) rfl rfl (by decide) rfl (fun ls hl => ?_)
          refine lv_goto (tgt := 2) hx hb dX0_repairAllBut_72 (by decide) ?_
          exact ih S x1 (x2 + 1) H locs ls h hP hS (lv_sub hl [1, 2, 0] rfl)
        · replace h := (if_pos c3).symm.trans h
          refine lv_iload_n hx hb dX0_repairAllBut_18 rfl (lv_at hl 2 rfl) ?_
          refine lv_iload_n hx hb dX0_repairAllBut_19 rfl (lv_at hl 1 rfl) ?_
          refine lv_icmp_ne (tgt := 26) hx hb dX0_repairAllBut_20 (by decide) (fun c4 => ?_) (fun c4 => ?_)
          · replace h := (if_neg c4).symm.trans h
            refine lv_aload_n hx hb dX0_repairAllBut_26 rfl (lv_at hl 0 rfl) ?_
            refine va_get (D := D) (ci := 0) (v := .ref (q + 8)) (C := RX0) (T := TX0) (N := 13) hx hb hts hinX0 hown hK hP 0 rfl rfl 7 (by decide) hf33 (fun _ h9 => h9) rfl dX0_repairAllBut_27 ?_
            refine lv_iload_n hx hb dX0_repairAllBut_30 rfl (lv_at hl 2 rfl) ?_
            refine lv_dup2_11 hx hb dX0_repairAllBut_31 rfl rfl ?_
            refine g_iald (f := (lSt S)) (k := x2.toNatClampNeg) hx hb hK hP 8 0 rfl rfl hg2 rfl dX0_repairAllBut_32 ?_
            refine lv_iconst (v := 1) hx hb dX0_repairAllBut_33 (by decide) ?_
            refine lv_isub hx hb dX0_repairAllBut_34 ?_
            refine g_iast (f := (lSt S)) (k := x2.toNatClampNeg) hx hb hK hP LW_self hS 8 0 rfl rfl hg2 rfl dX0_repairAllBut_35 (fun H locs hP hS => ?_)
            have hP : va_P D vwCl (LW cI q ((lWe S), (lCy S), (lWr S), (lPu S), (lSl S), (lPl S), (lSp S), (upd (lSt S) x2.toNatClampNeg (((lSt S) x2.toNatClampNeg) - 1)), (lLi S), (lN_ S), (lStn S), (lClk S), (lRnd S))) H := hP
            refine lv_aload_n hx hb dX0_repairAllBut_36 rfl (lv_at hl 0 rfl) ?_
            refine va_get (D := D) (ci := 0) (v := .ref (q + 8)) (C := RX0) (T := TX0) (N := 13) hx hb hts hinX0 hown hK hP 0 rfl rfl 7 (by decide) hf33 (fun _ h9 => h9) rfl dX0_repairAllBut_37 ?_
            refine lv_iload_n hx hb dX0_repairAllBut_40 rfl (lv_at hl 2 rfl) ?_
            refine g_iald (f := (upd (lSt S) x2.toNatClampNeg (((lSt S) x2.toNatClampNeg) - 1))) (k := x2.toNatClampNeg) hx hb hK hP 8 0 rfl rfl hg2 rfl dX0_repairAllBut_41 ?_
            refine lv_if_le (tgt := 48) hx hb dX0_repairAllBut_42 (by decide) (fun c5 => ?_) (fun c5 => ?_)
            · replace h := (if_pos c5).symm.trans h
              refine lv_aload_n hx hb dX0_repairAllBut_48 rfl (lv_at hl 0 rfl) ?_
              refine va_get (D := D) (ci := 0) (v := .ref (q + 2)) (C := RX0) (T := TX0) (N := 13) hx hb hts hinX0 hown hK hP 0 rfl rfl 1 (by decide) hf15 (fun _ h9 => h9) rfl dX0_repairAllBut_49 ?_
              refine lv_iload_n hx hb dX0_repairAllBut_52 rfl (lv_at hl 2 rfl) ?_
              refine lv_iconst (v := 0) hx hb dX0_repairAllBut_53 (by decide) ?_
              refine g_iast (f := (lCy S)) (k := x2.toNatClampNeg) hx hb hK hP LW_self hS 2 0 rfl rfl hg2 rfl dX0_repairAllBut_54 (fun H locs hP hS => ?_)
              have hP : va_P D vwCl (LW cI q ((lWe S), (upd (lCy S) x2.toNatClampNeg 0), (lWr S), (lPu S), (lSl S), (lPl S), (lSp S), (upd (lSt S) x2.toNatClampNeg (((lSt S) x2.toNatClampNeg) - 1)), (lLi S), (lN_ S), (lStn S), (lClk S), (lRnd S))) H := hP
              refine lv_aload_n hx hb dX0_repairAllBut_55 rfl (lv_at hl 0 rfl) ?_
              refine va_get (D := D) (ci := 0) (v := .ref (q + 3)) (C := RX0) (T := TX0) (N := 13) hx hb hts hinX0 hown hK hP 0 rfl rfl 2 (by decide) hf18 (fun _ h9 => h9) rfl dX0_repairAllBut_56 ?_
              refine lv_iload_n hx hb dX0_repairAllBut_59 rfl (lv_at hl 2 rfl) ?_
              refine lv_iconst (v := 0) hx hb dX0_repairAllBut_60 (by decide) ?_
              refine g_iast (f := (lWr S)) (k := x2.toNatClampNeg) hx hb hK hP LW_self hS 3 0 rfl rfl hg2 rfl dX0_repairAllBut_61 (fun H locs hP hS => ?_)
              have hP : va_P D vwCl (LW cI q ((lWe S), (upd (lCy S) x2.toNatClampNeg 0), (upd (lWr S) x2.toNatClampNeg 0), (lPu S), (lSl S), (lPl S), (lSp S), (upd (lSt S) x2.toNatClampNeg (((lSt S) x2.toNatClampNeg) - 1)), (lLi S), (lN_ S), (lStn S), (lClk S), (lRnd S))) H := hP
              refine lv_aload_n hx hb dX0_repairAllBut_62 rfl (lv_at hl 0 rfl) ?_
              refine va_get (D := D) (ci := 0) (v := .ref (q + 6)) (C := RX0) (T := TX0) (N := 13) hx hb hts hinX0 hown hK hP 0 rfl rfl 5 (by decide) hf27 (fun _ h9 => h9) rfl dX0_repairAllBut_63 ?_
              refine lv_iload_n hx hb dX0_repairAllBut_66 rfl (lv_at hl 2 rfl) ?_
              refine lv_iconst (v := 1) hx hb dX0_repairAllBut_67 (by decide) ?_
              refine g_iast (f := (lPl S)) (k := x2.toNatClampNeg) hx hb hK hP LW_self hS 6 0 rfl rfl hg2 rfl dX0_repairAllBut_68 (fun H locs hP hS => ?_)
              have hP : va_P D vwCl (LW cI q ((lWe S), (upd (lCy S) x2.toNatClampNeg 0), (upd (lWr S) x2.toNatClampNeg 0), (lPu S), (lSl S), (upd (lPl S) x2.toNatClampNeg 1), (lSp S), (upd (lSt S) x2.toNatClampNeg (((lSt S) x2.toNatClampNeg) - 1)), (lLi S), (lN_ S), (lStn S), (lClk S), (lRnd S))) H := hP
              refine lv_iinc (v := (x2 + 1)) (lv' := [(2, .int (x2 + 1)), (0, .ref q), (1, .int x1)]) hx hb dX0_repairAllBut_69 hl (k := 2) rfl rfl (by decide) rfl (fun ls hl => ?_)
              refine lv_goto (tgt := 2) hx hb dX0_repairAllBut_72 (by decide) ?_
              exact ih ((lWe S), (upd (lCy S) x2.toNatClampNeg 0), (upd (lWr S) x2.toNatClampNeg 0), (lPu S), (lSl S), (upd (lPl S) x2.toNatClampNeg 1), (lSp S), (upd (lSt S) x2.toNatClampNeg (((lSt S) x2.toNatClampNeg) - 1)), (lLi S), (lN_ S), (lStn S), (lClk S), (lRnd S)) x1 (x2 + 1) H locs ls h hP hS (lv_sub hl [1, 2, 0] rfl)
            · replace h := (if_neg c5).symm.trans h
              refine lv_goto (tgt := 69) hx hb dX0_repairAllBut_45 (by decide) ?_
              refine lv_iinc (v := (x2 + 1)) (lv' := [(2, .int (x2 + 1)), (0, .ref q), (1, .int x1)]) hx hb dX0_repairAllBut_69 hl (k := 2) rfl rfl (by decide) rfl (fun ls hl => ?_)
              refine lv_goto (tgt := 2) hx hb dX0_repairAllBut_72 (by decide) ?_
              exact ih ((lWe S), (lCy S), (lWr S), (lPu S), (lSl S), (lPl S), (lSp S), (upd (lSt S) x2.toNatClampNeg (((lSt S) x2.toNatClampNeg) - 1)), (lLi S), (lN_ S), (lStn S), (lClk S), (lRnd S)) x1 (x2 + 1) H locs ls h hP hS (lv_sub hl [1, 2, 0] rfl)
          · replace h := (if_pos c4).symm.trans h
            refine lv_goto (tgt := 69) hx hb dX0_repairAllBut_23 (by decide) ?_
            refine lv_iinc (v := (x2 + 1)) (lv' := [(2, .int (x2 + 1)), (0, .ref q), (1, .int x1)]) hx hb dX0_repairAllBut_69 hl (k := 2) rfl rfl (by decide) rfl (fun ls hl => ?_)
            refine lv_goto (tgt := 2) hx hb dX0_repairAllBut_72 (by decide) ?_
            exact ih S x1 (x2 + 1) H locs ls h hP hS (lv_sub hl [1, 2, 0] rfl)
  unfold fX0_repairAllBut at h
  obtain ⟨H, hH⟩ : ∃ H, H = s.heap := ⟨_, rfl⟩
  obtain ⟨locs, hlo⟩ : ∃ z : List Loc, z = [] := ⟨_, rfl⟩
  have hP : va_P D vwCl (LW cI q L) H := by rw [hH]; exact hP
  have hS : va_S (fIv q 10) s.heap H locs := by rw [hH, hlo]; exact hS
  refine gc_at hH hlo ?_
  refine lv_iconst (v := 0) hx hb dX0_repairAllBut_0 (by decide) ?_
  refine lv_istore_n (lv' := [(2, .int 0), (0, .ref q), (1, .int p0)]) hx hb dX0_repairAllBut_1 rfl hl (by decide) rfl (fun ls hl => ?_)
  exact LP2 KF L p0 0 H locs ls h hP hS (lv_sub hl [1, 2, 0] rfl)
set_option maxHeartbeats 4000000 in
set_option maxRecDepth 100000 in
theorem kX0_fillStation (l : Launch) (D : va_G) (cI cC cZ cQ cJ : ClassId) (q : Nat) (L : LSt) {R : Int32 × LSt} (h : fX0_fillStation L = some R) : Met l yX0_fillStation wsX0_fillStation ({ frames := 2, cells := 0, slots := 0, locals := 45 } : Room) (va_Pc [.ref q] (gB D (gTy cI cC cZ cQ cJ) (va_P D vwCl (LW cI q L)))) (va_Qi (fun r (_ : Unit) => r = R.1) (fun _ t => va_P D vwCl (LW cI q R.2) t.heap) (fIv q 10)) 0 0 (fIv q 10) := by
  refine Met.ofW (cc := cX0_fillStation) (maxL := 3) (ret := (some .int)) (by decide) rfl ?_
  intro p e s m args below meth c s₁ B hml hv
  obtain ⟨rfl, hP, hK⟩ := hv
  have hx := B.exec
  have hb := B.bytes
  have hr := B.returns
  have hts := atoms_spec (ws := wsX0_fillStation) B.pre
  have hown : s.vm.findClass RX0 = some m.cls := findClass_of_methodNamed B.named
  have hlocks := B.notSynchronized
  have hinX0 : ∀ w ∈ wsX00, w ∈ wsX0_fillStation := by decide +kernel
  have hf46 := hts (.fieldLink RX0 46 "GripInspector$Lift" "station" "I") (by decide +kernel)
  have hf27 := hts (.fieldLink RX0 27 "GripInspector$Lift" "place" "[I") (by decide +kernel)
  have hf15 := hts (.fieldLink RX0 15 "GripInspector$Lift" "cycles" "[I") (by decide +kernel)
  generalize hRM : (headSpec wsX0_fillStation ({ frames := 2, cells := 0, slots := 0, locals := 45 } : Room)).room = RM
  replace hRM : ({ frames := 2, cells := 0, slots := 0, locals := 45 } : Room) = RM := hRM
  subst hRM
  have hl := lv_entry ([.ref q]) (n := 3) (Nat.le_of_ble_eq_true rfl)
  rw [lg_entry_eq]
  generalize (lg_sl ([.ref q]) ++ List.replicate (3 - (lg_sl ([.ref q])).length) Slot.unset).toArray = ls at hl ⊢
  have hl : lv_has ls 3 [(0, .ref q)] := hl
  have hS : va_S (fIv q 10) s.heap s.heap [] := va_S.rf
  have LP6 : ∀ (n : Nat) (S : LSt) (x1 : Int32) (x2 : Int32) (H : Heap) (locs : List Loc) (ls : Array Slot), fX0_fillStation_L6 n S x1 x2 = some R → va_P D vwCl (LW cI q S) H → va_S (fIv q 10) s.heap H locs → lv_has ls 3 [(0, .ref q), (1, .int x1), (2, .int x2)] → W p l e ({ frames := 2, cells := 0, slots := 0, locals := 45 } : Room) s m ([.ref q] : List Value).toArray below meth c H locs 0 0 (MQ below (va_Qi (fun r (_ : Unit) => r = R.1) (fun _ t => va_P D vwCl (LW cI q R.2) t.heap) (fIv q 10)) ([.ref q] : List Value).toArray s 0 0 (fIv q 10)) (F0 m 6 ls []) := by
    intro n
    induction n with
    | zero => intro S x1 x2 H locs ls h hP hS hl; exact no_some h
    | succ n ih =>
      intro S x1 x2 H locs ls h hP hS hl
      rw [fX0_fillStation_L6] at h
      refine lv_iload_n hx hb dX0_fillStation_6 rfl (lv_at hl 2 rfl) ?_
      refine lv_if_lt (tgt := 50) hx hb dX0_fillStation_7 (by decide) (fun c1 => ?_) (fun c1 => ?_)
      · replace h := (if_pos c1).symm.trans h
        refine lv_iload_n hx hb dX0_fillStation_50 rfl (lv_at hl 1 rfl) ?_
        refine lv_if_lt (tgt := 65) hx hb dX0_fillStation_51 (by decide) (fun c2 => ?_) (fun c2 => ?_)
        · replace h := (if_pos c2).symm.trans h
          refine lv_iconst (v := 0) hx hb dX0_fillStation_65 (by decide) ?_
          have h := Option.some.inj h
          subst h
          exact W.iret (v := 0) hx hb hr (fun t ht hW => ⟨⟨_, (), rfl, rfl, gh ht hP⟩, hS.F ht⟩) hS.2.2 dX0_fillStation_66
        · replace h := (if_neg c2).symm.trans h
          refine lv_aload_n hx hb dX0_fillStation_54 rfl (lv_at hl 0 rfl) ?_
          refine lv_aload_n hx hb dX0_fillStation_55 rfl (lv_at hl 0 rfl) ?_
          refine va_get (D := D) (ci := 0) (v := .int (lStn S)) (C := RX0) (T := TX0) (N := 13) hx hb hts hinX0 hown hK hP 0 rfl rfl 10 (by decide) hf46 (fun _ h9 => h9) rfl dX0_fillStation_56 ?_
          obtain ⟨r59, hr59, h⟩ := bd_some h
          refine gc_ri (As := [.int (lStn S)]) (rest := []) ⟨hx, hb, hml, hown, hts⟩ hK (kX0_isRoomAt l D cI cC cZ cQ cJ q S (lStn S) hr59) (cwV 1 hts gX0_fillStation_X0_isRoomAt rfl rfl rfl (by decide +kernel) ⟨Nat.le_of_ble_eq_true rfl, Nat.le_of_ble_eq_true rfl⟩) (va_recv hK hP (ci := 0) (q0 := 0) rfl rfl) hP rfl hl.1 rfl (Nat.le_of_ble_eq_true rfl) ⟨Nat.zero_le _, Nat.zero_le _⟩ dX0_fillStation_59 ?_
          refine lv_if_ne (tgt := 67) hx hb dX0_fillStation_62 (by decide) (fun c3 => ?_) (fun c3 => ?_)
          · replace h := (if_neg c3).symm.trans h
            refine lv_aload_n hx hb dX0_fillStation_67 rfl (lv_at hl 0 rfl) ?_
            refine lv_iload_n hx hb dX0_fillStation_68 rfl (lv_at hl 1 rfl) ?_
            refine lv_aload_n hx hb dX0_fillStation_69 rfl (lv_at hl 0 rfl) ?_
            refine va_get (D := D) (ci := 0) (v := .int (lStn S)) (C := RX0) (T := TX0) (N := 13) hx hb hts hinX0 hown hK hP 0 rfl rfl 10 (by decide) hf46 (fun _ h9 => h9) rfl dX0_fillStation_70 ?_
            obtain ⟨r73, hr73, h⟩ := bd_some h
            refine gc_wv (As := [.int x1, .int (lStn S)]) (rest := []) ⟨hx, hb, hml, hown, hts⟩ hK (kX0_hang l D cI cC cZ cQ cJ q S x1 (lStn S) hr73) (cwV 2 hts gX0_fillStation_X0_hang rfl rfl rfl (by decide +kernel) ⟨Nat.le_of_ble_eq_true rfl, Nat.le_of_ble_eq_true rfl⟩) (va_recv hK hP (ci := 0) (q0 := 0) rfl rfl) hP hS (fun _ h => h) rfl hl.1 rfl (Nat.le_of_ble_eq_true rfl) ⟨Nat.zero_le _, Nat.zero_le _⟩ dX0_fillStation_73 (fun H locs hP hS _ _ => ?_)
            refine lv_bipush (v := 8) hx hb dX0_fillStation_76 (by decide) ?_
            have h := Option.some.inj h
            subst h
            exact W.iret (v := 8) hx hb hr (fun t ht hW => ⟨⟨_, (), rfl, rfl, gh ht hP⟩, hS.F ht⟩) hS.2.2 dX0_fillStation_78
          · replace h := (if_pos c3).symm.trans h
            refine lv_iconst (v := 0) hx hb dX0_fillStation_65 (by decide) ?_
            have h := Option.some.inj h
            subst h
            exact W.iret (v := 0) hx hb hr (fun t ht hW => ⟨⟨_, (), rfl, rfl, gh ht hP⟩, hS.F ht⟩) hS.2.2 dX0_fillStation_66
      · replace h := (if_neg c1).symm.trans h
        refine lv_aload_n hx hb dX0_fillStation_10 rfl (lv_at hl 0 rfl) ?_
        refine va_get (D := D) (ci := 0) (v := .ref (q + 6)) (C := RX0) (T := TX0) (N := 13) hx hb hts hinX0 hown hK hP 0 rfl rfl 5 (by decide) hf27 (fun _ h9 => h9) rfl dX0_fillStation_11 ?_
        refine lv_iload_n hx hb dX0_fillStation_14 rfl (lv_at hl 2 rfl) ?_
        obtain ⟨hg4, h⟩ := gd_some h
        refine g_iald (f := (lPl S)) (k := x2.toNatClampNeg) hx hb hK hP 6 0 rfl rfl hg4 rfl dX0_fillStation_15 ?_
        refine lv_iconst (v := 1) hx hb dX0_fillStation_16 (by decide) ?_
        refine lv_icmp_eq (tgt := 23) hx hb dX0_fillStation_17 (by decide) (fun c5 => ?_) (fun c5 => ?_)
        · replace h := (if_pos c5).symm.trans h
          refine lv_iload_n hx hb dX0_fillStation_23 rfl (lv_at hl 1 rfl) ?_
          refine lv_if_lt (tgt := 42) hx hb dX0_fillStation_24 (by decide) (fun c6 => ?_) (fun c6 => ?_)
          · replace h := (if_pos c6).symm.trans h
            refine lv_iload_n hx hb dX0_fillStation_42 rfl (lv_at hl 2 rfl) ?_
            refine lv_istore_n (lv' := [(1, .int x2), (0, .ref q), (2, .int x2)]) hx hb dX0_fillStation_43 rfl hl (by decide) rfl (fun ls hl => ?_)
            refine lv_iinc (v := (x2 + (-1))) (lv' := [(2, .int (x2 + (-1))), (1, .int x2), (0, .ref q)]) hx hb dX0_fillStation_44 hl (k := 2) rfl rfl (by decide) rfl (fun ls hl => ?_)
            refine lv_goto (tgt := 6) hx hb dX0_fillStation_47 (by decide) ?_
            exact ih S x2 (x2 + (-1)) H locs ls h hP hS (lv_sub hl [2, 1, 0] rfl)
          · replace h := (if_neg c6).symm.trans h
            refine lv_aload_n hx hb dX0_fillStation_27 rfl (lv_at hl 0 rfl) ?_
            refine va_get (D := D) (ci := 0) (v := .ref (q + 2)) (C := RX0) (T := TX0) (N := 13) hx hb hts hinX0 hown hK hP 0 rfl rfl 1 (by decide) hf15 (fun _ h9 => h9) rfl dX0_fillStation_28 ?_
            refine lv_iload_n hx hb dX0_fillStation_31 rfl (lv_at hl 2 rfl) ?_
            refine g_iald (f := (lCy S)) (k := x2.toNatClampNeg) hx hb hK hP 2 0 rfl rfl hg4 rfl dX0_fillStation_32 ?_
            refine lv_aload_n hx hb dX0_fillStation_33 rfl (lv_at hl 0 rfl) ?_
            refine va_get (D := D) (ci := 0) (v := .ref (q + 2)) (C := RX0) (T := TX0) (N := 13) hx hb hts hinX0 hown hK hP 0 rfl rfl 1 (by decide) hf15 (fun _ h9 => h9) rfl dX0_fillStation_34 ?_
            refine lv_iload_n hx hb dX0_fillStation_37 rfl (lv_at hl 1 rfl) ?_
            obtain ⟨hg7, h⟩ := gd_some h
            refine g_iald (f := (lCy S)) (k := x1.toNatClampNeg) hx hb hK hP 2 0 rfl rfl hg7 rfl dX0_fillStation_38 ?_
            refine lv_icmp_gt (tgt := 44) hx hb dX0_fillStation_39 (by decide) (fun c8 => ?_) (fun c8 => ?_)
            · replace h := (if_pos c8).symm.trans h
              refine lv_iinc (v := (x2 + (-1))) (lv' := [(2, .int (x2 + (-1))), (0, .ref q), (1, .int x1)]) hx hb dX0_fillStation_44 hl (k := 2) rfl rfl (by decide) rfl (fun ls hl => ?_)
              refine lv_goto (tgt := 6) hx hb dX0_fillStation_47 (by decide) ?_
              exact ih S x1 (x2 + (-1)) H locs ls h hP hS (lv_sub hl [1, 2, 0] rfl)
            · replace h := (if_neg c8).symm.trans h
              refine lv_iload_n hx hb dX0_fillStation_42 rfl (lv_at hl 2 rfl) ?_
              refine lv_istore_n (lv' := [(1, .int x2), (0, .ref q), (2, .int x2)]) hx hb dX0_fillStation_43 rfl hl (by decide) rfl (fun ls hl => ?_)
              refine lv_iinc (v := (x2 + (-1))) (lv' := [(2, .int (x2 + (-1))), (1, .int x2), (0, .ref q)]) hx hb dX0_fillStation_44 hl (k := 2) rfl rfl (by decide) rfl (fun ls hl => ?_)
              refine lv_goto (tgt := 6) hx hb dX0_fillStation_47 (by decide) ?_
              exact ih S x2 (x2 + (-1)) H locs ls h hP hS (lv_sub hl [2, 1, 0] rfl)
        · replace h := (if_neg c5).symm.trans h
          refine lv_goto (tgt := 44) hx hb dX0_fillStation_20 (by decide) ?_
          refine lv_iinc (v := (x2 + (-1))) (lv' := [(2, .int (x2 + (-1))), (0, .ref q), (1, .int x1)]) hx hb dX0_fillStation_44 hl (k := 2) rfl rfl (by decide) rfl (fun ls hl => ?_)
          refine lv_goto (tgt := 6) hx hb dX0_fillStation_47 (by decide) ?_
          exact ih S x1 (x2 + (-1)) H locs ls h hP hS (lv_sub hl [1, 2, 0] rfl)
  unfold fX0_fillStation at h
  obtain ⟨H, hH⟩ : ∃ H, H = s.heap := ⟨_, rfl⟩
  obtain ⟨locs, hlo⟩ : ∃ z : List Loc, z = [] := ⟨_, rfl⟩
  have hP : va_P D vwCl (LW cI q L) H := by rw [hH]; exact hP
  have hS : va_S (fIv q 10) s.heap H locs := by rw [hH, hlo]; exact hS
  refine gc_at hH hlo ?_
  refine lv_bipush (v := (-9)) hx hb dX0_fillStation_0 (by decide) ?_
  refine lv_istore_n (lv' := [(1, .int (-9)), (0, .ref q)]) hx hb dX0_fillStation_2 rfl hl (by decide) rfl (fun ls hl => ?_)
  refine lv_bipush (v := 11) hx hb dX0_fillStation_3 (by decide) ?_
  refine lv_istore_n (lv' := [(2, .int 11), (1, .int (-9)), (0, .ref q)]) hx hb dX0_fillStation_5 rfl hl (by decide) rfl (fun ls hl => ?_)
  exact LP6 KF L (-9) 11 H locs ls h hP hS (lv_sub hl [2, 1, 0] rfl)
end
section
set_option maxHeartbeats 4000000 in
set_option maxRecDepth 100000 in
theorem kX0_advance (l : Launch) (D : va_G) (cI cC cZ cQ cJ : ClassId) (q : Nat) (L : LSt) {R : Int32 × LSt} (h : fX0_advance L = some R) : Met l yX0_advance wsX0_advance ({ frames := 3, cells := 0, slots := 0, locals := 67 } : Room) (va_Pc [.ref q] (gB D (gTy cI cC cZ cQ cJ) (va_P D vwCl (LW cI q L)))) (va_Qi (fun r (_ : Unit) => r = R.1) (fun _ t => va_P D vwCl (LW cI q R.2) t.heap) (fIv q 10)) 0 0 (fIv q 10) := by
  refine Met.ofW (cc := cX0_advance) (maxL := 3) (ret := (some .int)) (by decide) rfl ?_
  intro p e s m args below meth c s₁ B hml hv
  obtain ⟨rfl, hP, hK⟩ := hv
  have hx := B.exec
  have hb := B.bytes
  have hr := B.returns
  have hts := atoms_spec (ws := wsX0_advance) B.pre
  have hown : s.vm.findClass RX0 = some m.cls := findClass_of_methodNamed B.named
  have hlocks := B.notSynchronized
  have hinX0 : ∀ w ∈ wsX00, w ∈ wsX0_advance := by decide +kernel
  have hf46 := hts (.fieldLink RX0 46 "GripInspector$Lift" "station" "I") (by decide +kernel)
  have hf42 := hts (.fieldLink RX0 42 "GripInspector$Lift" "n" "I") (by decide +kernel)
  have hf52 := hts (.fieldLink RX0 52 "GripInspector$Lift" "randomState" "J") (by decide +kernel)
  have hf49 := hts (.fieldLink RX0 49 "GripInspector$Lift" "clock" "I") (by decide +kernel)
  generalize hRM : (headSpec wsX0_advance ({ frames := 3, cells := 0, slots := 0, locals := 67 } : Room)).room = RM
  replace hRM : ({ frames := 3, cells := 0, slots := 0, locals := 67 } : Room) = RM := hRM
  subst hRM
  have hl := lv_entry ([.ref q]) (n := 3) (Nat.le_of_ble_eq_true rfl)
  rw [lg_entry_eq]
  generalize (lg_sl ([.ref q]) ++ List.replicate (3 - (lg_sl ([.ref q])).length) Slot.unset).toArray = ls at hl ⊢
  have hl : lv_has ls 3 [(0, .ref q)] := hl
  have hS : va_S (fIv q 10) s.heap s.heap [] := va_S.rf
  unfold fX0_advance at h
  obtain ⟨H, hH⟩ : ∃ H, H = s.heap := ⟨_, rfl⟩
  obtain ⟨locs, hlo⟩ : ∃ z : List Loc, z = [] := ⟨_, rfl⟩
  have hP : va_P D vwCl (LW cI q L) H := by rw [hH]; exact hP
  have hS : va_S (fIv q 10) s.heap H locs := by rw [hH, hlo]; exact hS
  refine gc_at hH hlo ?_
  refine lv_aload_n hx hb dX0_advance_0 rfl (lv_at hl 0 rfl) ?_
  refine lv_aload_n hx hb dX0_advance_1 rfl (lv_at hl 0 rfl) ?_
  refine va_get (D := D) (ci := 0) (v := .int (lStn L)) (C := RX0) (T := TX0) (N := 13) hx hb hts hinX0 hown hK hP 0 rfl rfl 10 (by decide) hf46 (fun _ h9 => h9) rfl dX0_advance_2 ?_
  refine lv_iconst (v := 1) hx hb dX0_advance_5 (by decide) ?_
  refine lv_iadd hx hb dX0_advance_6 ?_
  refine lv_aload_n hx hb dX0_advance_7 rfl (lv_at hl 0 rfl) ?_
  refine va_get (D := D) (ci := 0) (v := .int (lN_ L)) (C := RX0) (T := TX0) (N := 13) hx hb hts hinX0 hown hK hP 0 rfl rfl 9 (by decide) hf42 (fun _ h9 => h9) rfl dX0_advance_8 ?_
  refine lv_icmp_ge (tgt := 23) hx hb dX0_advance_11 (by decide) (fun c1 => ?_) (fun c1 => ?_)
  · replace h := (if_pos c1).symm.trans h
    refine lv_iconst (v := 0) hx hb dX0_advance_23 (by decide) ?_
    refine va_put (D := D) (ci := 0) (v := .int 0) (ty := .int) (C := RX0) (T := TX0) (N := 13) hx hb hts hinX0 tyX0 tyX0_ok nmX0 hown hK hP LW_self hS 0 rfl rfl 10 (by decide) hf46 (fun _ h9 => h9) rfl (by decide +kernel) rfl rfl (Nat.le_of_ble_eq_true rfl) dX0_advance_24 (fun H locs hP _ hS => ?_)
    have hP : va_P D vwCl (LW cI q ((lWe L), (lCy L), (lWr L), (lPu L), (lSl L), (lPl L), (lSp L), (lSt L), (lLi L), (lN_ L), 0, (lClk L), (lRnd L))) H := hP
    refine lv_aload_n hx hb dX0_advance_27 rfl (lv_at hl 0 rfl) ?_
    refine lv_aload_n hx hb dX0_advance_28 rfl (lv_at hl 0 rfl) ?_
    refine va_get (D := D) (ci := 0) (v := .long (lRnd L)) (C := RX0) (T := TX0) (N := 13) hx hb hts hinX0 hown hK hP 0 rfl rfl 12 (by decide) hf52 (fun _ h9 => h9) rfl dX0_advance_29 ?_
    refine lv_ldc2 (v := 6364136223846793005) hx hb hown (hts (.constantLong RX0 73 (6364136223846793005)) (by decide +kernel)) dX0_advance_32 ?_
    refine lv_lmul hx hb dX0_advance_35 ?_
    refine lv_ldc2 (v := 1442695040888963407) hx hb hown (hts (.constantLong RX0 75 (1442695040888963407)) (by decide +kernel)) dX0_advance_36 ?_
    refine lv_ladd hx hb dX0_advance_39 ?_
    refine lv_topl (fun yv2 eyv2 => ?_)
    rw [← eyv2] at h
    refine va_put (D := D) (ci := 0) (v := .long yv2) (ty := .long) (C := RX0) (T := TX0) (N := 13) hx hb hts hinX0 tyX0 tyX0_ok nmX0 hown hK hP LW_self hS 0 rfl rfl 12 (by decide) hf52 (fun _ h9 => h9) rfl (by decide +kernel) rfl rfl (Nat.le_of_ble_eq_true rfl) dX0_advance_40 (fun H locs hP _ hS => ?_)
    have hP : va_P D vwCl (LW cI q ((lWe L), (lCy L), (lWr L), (lPu L), (lSl L), (lPl L), (lSp L), (lSt L), (lLi L), (lN_ L), 0, (lClk L), yv2)) H := hP
    refine lv_aload_n hx hb dX0_advance_43 rfl (lv_at hl 0 rfl) ?_
    refine lv_aload_n hx hb dX0_advance_44 rfl (lv_at hl 0 rfl) ?_
    refine va_get (D := D) (ci := 0) (v := .int 0) (C := RX0) (T := TX0) (N := 13) hx hb hts hinX0 hown hK hP 0 rfl rfl 10 (by decide) hf46 (fun _ h9 => h9) rfl dX0_advance_45 ?_
    obtain ⟨r48, hr48, h⟩ := bd_some h
    refine gc_ri (As := [.int 0]) (rest := []) ⟨hx, hb, hml, hown, hts⟩ hK (kX0_gripAt l D cI cC cZ cQ cJ q ((lWe L), (lCy L), (lWr L), (lPu L), (lSl L), (lPl L), (lSp L), (lSt L), (lLi L), (lN_ L), 0, (lClk L), yv2) 0 hr48) (cwV 1 hts gX0_advance_X0_gripAt rfl rfl rfl (by decide +kernel) ⟨Nat.le_of_ble_eq_true rfl, Nat.le_of_ble_eq_true rfl⟩) (va_recv hK hP (ci := 0) (q0 := 0) rfl rfl) hP rfl hl.1 rfl (Nat.le_of_ble_eq_true rfl) ⟨Nat.zero_le _, Nat.zero_le _⟩ dX0_advance_48 ?_
    refine lv_istore_n (lv' := [(1, .int r48), (0, .ref q)]) hx hb dX0_advance_51 rfl hl (by decide) rfl (fun ls hl => ?_)
    refine lv_iload_n hx hb dX0_advance_52 rfl (lv_at hl 0 rfl) ?_
    refine lv_if_ge (tgt := 60) hx hb dX0_advance_53 (by decide) (fun c3 => ?_) (fun c3 => ?_)
    · replace h := (if_pos c3).symm.trans h
      refine lv_aload_n hx hb dX0_advance_60 rfl (lv_at hl 1 rfl) ?_
      refine lv_iload_n hx hb dX0_advance_61 rfl (lv_at hl 0 rfl) ?_
      refine lv_aload_n hx hb dX0_advance_62 rfl (lv_at hl 1 rfl) ?_
      refine va_get (D := D) (ci := 0) (v := .long yv2) (C := RX0) (T := TX0) (N := 13) hx hb hts hinX0 hown hK hP 0 rfl rfl 12 (by decide) hf52 (fun _ h9 => h9) rfl dX0_advance_63 ?_
      refine lv_bipush (v := 33) hx hb dX0_advance_66 (by decide) ?_
      refine lv_lushr hx hb dX0_advance_68 rfl ?_
      refine lv_l2i hx hb dX0_advance_69 rfl ?_
      obtain ⟨r70, hr70, h⟩ := bd_some h
      refine gc_wi (As := [.int r48, .int ((((yv2).toUInt64 >>> (((33 : Int32)).toInt64.toUInt64 &&& Int64.toUInt64 63)).toInt64).toInt32)]) (rest := []) ⟨hx, hb, hml, hown, hts⟩ hK (kX0_pass l D cI cC cZ cQ cJ q ((lWe L), (lCy L), (lWr L), (lPu L), (lSl L), (lPl L), (lSp L), (lSt L), (lLi L), (lN_ L), 0, (lClk L), yv2) r48 ((((yv2).toUInt64 >>> (((33 : Int32)).toInt64.toUInt64 &&& Int64.toUInt64 63)).toInt64).toInt32) hr70) (cwV 2 hts gX0_advance_X0_pass rfl rfl rfl (by decide +kernel) ⟨Nat.le_of_ble_eq_true rfl, Nat.le_of_ble_eq_true rfl⟩) (va_recv hK hP (ci := 0) (q0 := 0) rfl rfl) hP hS (fun _ h => h) rfl hl.1 rfl (Nat.le_of_ble_eq_true rfl) ⟨Nat.zero_le _, Nat.zero_le _⟩ dX0_advance_70 (fun H locs hP hS _ _ => ?_)
      refine lv_istore_n (lv' := [(2, .int r70.1), (1, .int r48), (0, .ref q)]) hx hb dX0_advance_73 rfl hl (by decide) rfl (fun ls hl => ?_)
      refine lv_aload_n hx hb dX0_advance_74 rfl (lv_at hl 2 rfl) ?_
      refine lv_iload_n hx hb dX0_advance_75 rfl (lv_at hl 1 rfl) ?_
      obtain ⟨r76, hr76, h⟩ := bd_some h
      refine gc_wv (As := [.int r48]) (rest := []) ⟨hx, hb, hml, hown, hts⟩ hK (kX0_repairAllBut l D cI cC cZ cQ cJ q r70.2 r48 hr76) (cwV 1 hts gX0_advance_X0_repairAllBut rfl rfl rfl (by decide +kernel) ⟨Nat.le_of_ble_eq_true rfl, Nat.le_of_ble_eq_true rfl⟩) (va_recv hK hP (ci := 0) (q0 := 0) rfl rfl) hP hS (fun _ h => h) rfl hl.1 rfl (Nat.le_of_ble_eq_true rfl) ⟨Nat.zero_le _, Nat.zero_le _⟩ dX0_advance_76 (fun H locs hP hS _ _ => ?_)
      refine lv_iload_n hx hb dX0_advance_79 rfl (lv_at hl 0 rfl) ?_
      refine lv_aload_n hx hb dX0_advance_80 rfl (lv_at hl 2 rfl) ?_
      obtain ⟨r81, hr81, h⟩ := bd_some h
      refine gc_wi (As := []) (rest := [.int r70.1]) ⟨hx, hb, hml, hown, hts⟩ hK (kX0_fillStation l D cI cC cZ cQ cJ q r76 hr81) (cwV 0 hts gX0_advance_X0_fillStation rfl rfl rfl (by decide +kernel) ⟨Nat.le_of_ble_eq_true rfl, Nat.le_of_ble_eq_true rfl⟩) (va_recv hK hP (ci := 0) (q0 := 0) rfl rfl) hP hS (fun _ h => h) rfl hl.1 rfl (Nat.le_of_ble_eq_true rfl) ⟨Nat.zero_le _, Nat.zero_le _⟩ dX0_advance_81 (fun H locs hP hS _ _ => ?_)
      refine lv_ior hx hb dX0_advance_84 ?_
      refine lv_istore_n (lv' := [(2, .int (r70.1 ||| r81.1)), (1, .int r48), (0, .ref q)]) hx hb dX0_advance_85 rfl hl (by decide) rfl (fun ls hl => ?_)
      refine lv_aload_n hx hb dX0_advance_86 rfl (lv_at hl 2 rfl) ?_
      refine lv_dup hx hb dX0_advance_87 rfl ?_
      refine va_get (D := D) (ci := 0) (v := .int (lClk r81.2)) (C := RX0) (T := TX0) (N := 13) hx hb hts hinX0 hown hK hP 0 rfl rfl 11 (by decide) hf49 (fun _ h9 => h9) rfl dX0_advance_88 ?_
      refine lv_iconst (v := 1) hx hb dX0_advance_91 (by decide) ?_
      refine lv_iadd hx hb dX0_advance_92 ?_
      refine va_put (D := D) (ci := 0) (v := .int ((lClk r81.2) + 1)) (ty := .int) (C := RX0) (T := TX0) (N := 13) hx hb hts hinX0 tyX0 tyX0_ok nmX0 hown hK hP LW_self hS 0 rfl rfl 11 (by decide) hf49 (fun _ h9 => h9) rfl (by decide +kernel) rfl rfl (Nat.le_of_ble_eq_true rfl) dX0_advance_93 (fun H locs hP _ hS => ?_)
      have hP : va_P D vwCl (LW cI q ((lWe r81.2), (lCy r81.2), (lWr r81.2), (lPu r81.2), (lSl r81.2), (lPl r81.2), (lSp r81.2), (lSt r81.2), (lLi r81.2), (lN_ r81.2), (lStn r81.2), ((lClk r81.2) + 1), (lRnd r81.2))) H := hP
      refine lv_iload_n hx hb dX0_advance_96 rfl (lv_at hl 0 rfl) ?_
      have h := Option.some.inj h
      subst h
      exact W.iret (v := (r70.1 ||| r81.1)) hx hb hr (fun t ht hW => ⟨⟨_, (), rfl, rfl, gh ht hP⟩, hS.F ht⟩) hS.2.2 dX0_advance_97
    · replace h := (if_neg c3).symm.trans h
      refine lv_iconst (v := 0) hx hb dX0_advance_56 (by decide) ?_
      refine lv_goto (tgt := 73) hx hb dX0_advance_57 (by decide) ?_
      refine lv_istore_n (lv' := [(2, .int 0), (1, .int r48), (0, .ref q)]) hx hb dX0_advance_73 rfl hl (by decide) rfl (fun ls hl => ?_)
      refine lv_aload_n hx hb dX0_advance_74 rfl (lv_at hl 2 rfl) ?_
      refine lv_iload_n hx hb dX0_advance_75 rfl (lv_at hl 1 rfl) ?_
      obtain ⟨r76, hr76, h⟩ := bd_some h
      refine gc_wv (As := [.int r48]) (rest := []) ⟨hx, hb, hml, hown, hts⟩ hK (kX0_repairAllBut l D cI cC cZ cQ cJ q ((lWe L), (lCy L), (lWr L), (lPu L), (lSl L), (lPl L), (lSp L), (lSt L), (lLi L), (lN_ L), 0, (lClk L), yv2) r48 hr76) (cwV 1 hts gX0_advance_X0_repairAllBut rfl rfl rfl (by decide +kernel) ⟨Nat.le_of_ble_eq_true rfl, Nat.le_of_ble_eq_true rfl⟩) (va_recv hK hP (ci := 0) (q0 := 0) rfl rfl) hP hS (fun _ h => h) rfl hl.1 rfl (Nat.le_of_ble_eq_true rfl) ⟨Nat.zero_le _, Nat.zero_le _⟩ dX0_advance_76 (fun H locs hP hS _ _ => ?_)
      refine lv_iload_n hx hb dX0_advance_79 rfl (lv_at hl 0 rfl) ?_
      refine lv_aload_n hx hb dX0_advance_80 rfl (lv_at hl 2 rfl) ?_
      obtain ⟨r81, hr81, h⟩ := bd_some h
      refine gc_wi (As := []) (rest := [.int 0]) ⟨hx, hb, hml, hown, hts⟩ hK (kX0_fillStation l D cI cC cZ cQ cJ q r76 hr81) (cwV 0 hts gX0_advance_X0_fillStation rfl rfl rfl (by decide +kernel) ⟨Nat.le_of_ble_eq_true rfl, Nat.le_of_ble_eq_true rfl⟩) (va_recv hK hP (ci := 0) (q0 := 0) rfl rfl) hP hS (fun _ h => h) rfl hl.1 rfl (Nat.le_of_ble_eq_true rfl) ⟨Nat.zero_le _, Nat.zero_le _⟩ dX0_advance_81 (fun H locs hP hS _ _ => ?_)
      refine lv_ior hx hb dX0_advance_84 ?_
      refine lv_istore_n (lv' := [(2, .int (0 ||| r81.1)), (1, .int r48), (0, .ref q)]) hx hb dX0_advance_85 rfl hl (by decide) rfl (fun ls hl => ?_)
      refine lv_aload_n hx hb dX0_advance_86 rfl (lv_at hl 2 rfl) ?_
      refine lv_dup hx hb dX0_advance_87 rfl ?_
      refine va_get (D := D) (ci := 0) (v := .int (lClk r81.2)) (C := RX0) (T := TX0) (N := 13) hx hb hts hinX0 hown hK hP 0 rfl rfl 11 (by decide) hf49 (fun _ h9 => h9) rfl dX0_advance_88 ?_
      refine lv_iconst (v := 1) hx hb dX0_advance_91 (by decide) ?_
      refine lv_iadd hx hb dX0_advance_92 ?_
      refine va_put (D := D) (ci := 0) (v := .int ((lClk r81.2) + 1)) (ty := .int) (C := RX0) (T := TX0) (N := 13) hx hb hts hinX0 tyX0 tyX0_ok nmX0 hown hK hP LW_self hS 0 rfl rfl 11 (by decide) hf49 (fun _ h9 => h9) rfl (by decide +kernel) rfl rfl (Nat.le_of_ble_eq_true rfl) dX0_advance_93 (fun H locs hP _ hS => ?_)
      have hP : va_P D vwCl (LW cI q ((lWe r81.2), (lCy r81.2), (lWr r81.2), (lPu r81.2), (lSl r81.2), (lPl r81.2), (lSp r81.2), (lSt r81.2), (lLi r81.2), (lN_ r81.2), (lStn r81.2), ((lClk r81.2) + 1), (lRnd r81.2))) H := hP
      refine lv_iload_n hx hb dX0_advance_96 rfl (lv_at hl 0 rfl) ?_
      have h := Option.some.inj h
      subst h
      exact W.iret (v := (0 ||| r81.1)) hx hb hr (fun t ht hW => ⟨⟨_, (), rfl, rfl, gh ht hP⟩, hS.F ht⟩) hS.2.2 dX0_advance_97
  · replace h := (if_neg c1).symm.trans h
    refine lv_aload_n hx hb dX0_advance_14 rfl (lv_at hl 0 rfl) ?_
    refine va_get (D := D) (ci := 0) (v := .int (lStn L)) (C := RX0) (T := TX0) (N := 13) hx hb hts hinX0 hown hK hP 0 rfl rfl 10 (by decide) hf46 (fun _ h9 => h9) rfl dX0_advance_15 ?_
    refine lv_iconst (v := 1) hx hb dX0_advance_18 (by decide) ?_
    refine lv_iadd hx hb dX0_advance_19 ?_
    refine lv_goto (tgt := 24) hx hb dX0_advance_20 (by decide) ?_
    refine va_put (D := D) (ci := 0) (v := .int ((lStn L) + 1)) (ty := .int) (C := RX0) (T := TX0) (N := 13) hx hb hts hinX0 tyX0 tyX0_ok nmX0 hown hK hP LW_self hS 0 rfl rfl 10 (by decide) hf46 (fun _ h9 => h9) rfl (by decide +kernel) rfl rfl (Nat.le_of_ble_eq_true rfl) dX0_advance_24 (fun H locs hP _ hS => ?_)
    have hP : va_P D vwCl (LW cI q ((lWe L), (lCy L), (lWr L), (lPu L), (lSl L), (lPl L), (lSp L), (lSt L), (lLi L), (lN_ L), ((lStn L) + 1), (lClk L), (lRnd L))) H := hP
    refine lv_aload_n hx hb dX0_advance_27 rfl (lv_at hl 0 rfl) ?_
    refine lv_aload_n hx hb dX0_advance_28 rfl (lv_at hl 0 rfl) ?_
    refine va_get (D := D) (ci := 0) (v := .long (lRnd L)) (C := RX0) (T := TX0) (N := 13) hx hb hts hinX0 hown hK hP 0 rfl rfl 12 (by decide) hf52 (fun _ h9 => h9) rfl dX0_advance_29 ?_
    refine lv_ldc2 (v := 6364136223846793005) hx hb hown (hts (.constantLong RX0 73 (6364136223846793005)) (by decide +kernel)) dX0_advance_32 ?_
    refine lv_lmul hx hb dX0_advance_35 ?_
    refine lv_ldc2 (v := 1442695040888963407) hx hb hown (hts (.constantLong RX0 75 (1442695040888963407)) (by decide +kernel)) dX0_advance_36 ?_
    refine lv_ladd hx hb dX0_advance_39 ?_
    refine lv_topl (fun yv4 eyv4 => ?_)
    rw [← eyv4] at h
    refine va_put (D := D) (ci := 0) (v := .long yv4) (ty := .long) (C := RX0) (T := TX0) (N := 13) hx hb hts hinX0 tyX0 tyX0_ok nmX0 hown hK hP LW_self hS 0 rfl rfl 12 (by decide) hf52 (fun _ h9 => h9) rfl (by decide +kernel) rfl rfl (Nat.le_of_ble_eq_true rfl) dX0_advance_40 (fun H locs hP _ hS => ?_)
    have hP : va_P D vwCl (LW cI q ((lWe L), (lCy L), (lWr L), (lPu L), (lSl L), (lPl L), (lSp L), (lSt L), (lLi L), (lN_ L), ((lStn L) + 1), (lClk L), yv4)) H := hP
    refine lv_aload_n hx hb dX0_advance_43 rfl (lv_at hl 0 rfl) ?_
    refine lv_aload_n hx hb dX0_advance_44 rfl (lv_at hl 0 rfl) ?_
    refine va_get (D := D) (ci := 0) (v := .int ((lStn L) + 1)) (C := RX0) (T := TX0) (N := 13) hx hb hts hinX0 hown hK hP 0 rfl rfl 10 (by decide) hf46 (fun _ h9 => h9) rfl dX0_advance_45 ?_
    obtain ⟨r48, hr48, h⟩ := bd_some h
    refine gc_ri (As := [.int ((lStn L) + 1)]) (rest := []) ⟨hx, hb, hml, hown, hts⟩ hK (kX0_gripAt l D cI cC cZ cQ cJ q ((lWe L), (lCy L), (lWr L), (lPu L), (lSl L), (lPl L), (lSp L), (lSt L), (lLi L), (lN_ L), ((lStn L) + 1), (lClk L), yv4) ((lStn L) + 1) hr48) (cwV 1 hts gX0_advance_X0_gripAt rfl rfl rfl (by decide +kernel) ⟨Nat.le_of_ble_eq_true rfl, Nat.le_of_ble_eq_true rfl⟩) (va_recv hK hP (ci := 0) (q0 := 0) rfl rfl) hP rfl hl.1 rfl (Nat.le_of_ble_eq_true rfl) ⟨Nat.zero_le _, Nat.zero_le _⟩ dX0_advance_48 ?_
    refine lv_istore_n (lv' := [(1, .int r48), (0, .ref q)]) hx hb dX0_advance_51 rfl hl (by decide) rfl (fun ls hl => ?_)
    refine lv_iload_n hx hb dX0_advance_52 rfl (lv_at hl 0 rfl) ?_
    refine lv_if_ge (tgt := 60) hx hb dX0_advance_53 (by decide) (fun c5 => ?_) (fun c5 => ?_)
    · replace h := (if_pos c5).symm.trans h
      refine lv_aload_n hx hb dX0_advance_60 rfl (lv_at hl 1 rfl) ?_
      refine lv_iload_n hx hb dX0_advance_61 rfl (lv_at hl 0 rfl) ?_
      refine lv_aload_n hx hb dX0_advance_62 rfl (lv_at hl 1 rfl) ?_
      refine va_get (D := D) (ci := 0) (v := .long yv4) (C := RX0) (T := TX0) (N := 13) hx hb hts hinX0 hown hK hP 0 rfl rfl 12 (by decide) hf52 (fun _ h9 => h9) rfl dX0_advance_63 ?_
      refine lv_bipush (v := 33) hx hb dX0_advance_66 (by decide) ?_
      refine lv_lushr hx hb dX0_advance_68 rfl ?_
      refine lv_l2i hx hb dX0_advance_69 rfl ?_
      obtain ⟨r70, hr70, h⟩ := bd_some h
      refine gc_wi (As := [.int r48, .int ((((yv4).toUInt64 >>> (((33 : Int32)).toInt64.toUInt64 &&& Int64.toUInt64 63)).toInt64).toInt32)]) (rest := []) ⟨hx, hb, hml, hown, hts⟩ hK (kX0_pass l D cI cC cZ cQ cJ q ((lWe L), (lCy L), (lWr L), (lPu L), (lSl L), (lPl L), (lSp L), (lSt L), (lLi L), (lN_ L), ((lStn L) + 1), (lClk L), yv4) r48 ((((yv4).toUInt64 >>> (((33 : Int32)).toInt64.toUInt64 &&& Int64.toUInt64 63)).toInt64).toInt32) hr70) (cwV 2 hts gX0_advance_X0_pass rfl rfl rfl (by decide +kernel) ⟨Nat.le_of_ble_eq_true rfl, Nat.le_of_ble_eq_true rfl⟩) (va_recv hK hP (ci := 0) (q0 := 0) rfl rfl) hP hS (fun _ h => h) rfl hl.1 rfl (Nat.le_of_ble_eq_true rfl) ⟨Nat.zero_le _, Nat.zero_le _⟩ dX0_advance_70 (fun H locs hP hS _ _ => ?_)
      refine lv_istore_n (lv' := [(2, .int r70.1), (1, .int r48), (0, .ref q)]) hx hb dX0_advance_73 rfl hl (by decide) rfl (fun ls hl => ?_)
      refine lv_aload_n hx hb dX0_advance_74 rfl (lv_at hl 2 rfl) ?_
      refine lv_iload_n hx hb dX0_advance_75 rfl (lv_at hl 1 rfl) ?_
      obtain ⟨r76, hr76, h⟩ := bd_some h
      refine gc_wv (As := [.int r48]) (rest := []) ⟨hx, hb, hml, hown, hts⟩ hK (kX0_repairAllBut l D cI cC cZ cQ cJ q r70.2 r48 hr76) (cwV 1 hts gX0_advance_X0_repairAllBut rfl rfl rfl (by decide +kernel) ⟨Nat.le_of_ble_eq_true rfl, Nat.le_of_ble_eq_true rfl⟩) (va_recv hK hP (ci := 0) (q0 := 0) rfl rfl) hP hS (fun _ h => h) rfl hl.1 rfl (Nat.le_of_ble_eq_true rfl) ⟨Nat.zero_le _, Nat.zero_le _⟩ dX0_advance_76 (fun H locs hP hS _ _ => ?_)
      refine lv_iload_n hx hb dX0_advance_79 rfl (lv_at hl 0 rfl) ?_
      refine lv_aload_n hx hb dX0_advance_80 rfl (lv_at hl 2 rfl) ?_
      obtain ⟨r81, hr81, h⟩ := bd_some h
      refine gc_wi (As := []) (rest := [.int r70.1]) ⟨hx, hb, hml, hown, hts⟩ hK (kX0_fillStation l D cI cC cZ cQ cJ q r76 hr81) (cwV 0 hts gX0_advance_X0_fillStation rfl rfl rfl (by decide +kernel) ⟨Nat.le_of_ble_eq_true rfl, Nat.le_of_ble_eq_true rfl⟩) (va_recv hK hP (ci := 0) (q0 := 0) rfl rfl) hP hS (fun _ h => h) rfl hl.1 rfl (Nat.le_of_ble_eq_true rfl) ⟨Nat.zero_le _, Nat.zero_le _⟩ dX0_advance_81 (fun H locs hP hS _ _ => ?_)
      refine lv_ior hx hb dX0_advance_84 ?_
      refine lv_istore_n (lv' := [(2, .int (r70.1 ||| r81.1)), (1, .int r48), (0, .ref q)]) hx hb dX0_advance_85 rfl hl (by decide) rfl (fun ls hl => ?_)
      refine lv_aload_n hx hb dX0_advance_86 rfl (lv_at hl 2 rfl) ?_
      refine lv_dup hx hb dX0_advance_87 rfl ?_
      refine va_get (D := D) (ci := 0) (v := .int (lClk r81.2)) (C := RX0) (T := TX0) (N := 13) hx hb hts hinX0 hown hK hP 0 rfl rfl 11 (by decide) hf49 (fun _ h9 => h9) rfl dX0_advance_88 ?_
      refine lv_iconst (v := 1) hx hb dX0_advance_91 (by decide) ?_
      refine lv_iadd hx hb dX0_advance_92 ?_
      refine va_put (D := D) (ci := 0) (v := .int ((lClk r81.2) + 1)) (ty := .int) (C := RX0) (T := TX0) (N := 13) hx hb hts hinX0 tyX0 tyX0_ok nmX0 hown hK hP LW_self hS 0 rfl rfl 11 (by decide) hf49 (fun _ h9 => h9) rfl (by decide +kernel) rfl rfl (Nat.le_of_ble_eq_true rfl) dX0_advance_93 (fun H locs hP _ hS => ?_)
      have hP : va_P D vwCl (LW cI q ((lWe r81.2), (lCy r81.2), (lWr r81.2), (lPu r81.2), (lSl r81.2), (lPl r81.2), (lSp r81.2), (lSt r81.2), (lLi r81.2), (lN_ r81.2), (lStn r81.2), ((lClk r81.2) + 1), (lRnd r81.2))) H := hP
      refine lv_iload_n hx hb dX0_advance_96 rfl (lv_at hl 0 rfl) ?_
      have h := Option.some.inj h
      subst h
      exact W.iret (v := (r70.1 ||| r81.1)) hx hb hr (fun t ht hW => ⟨⟨_, (), rfl, rfl, gh ht hP⟩, hS.F ht⟩) hS.2.2 dX0_advance_97
    · replace h := (if_neg c5).symm.trans h
      refine lv_iconst (v := 0) hx hb dX0_advance_56 (by decide) ?_
      refine lv_goto (tgt := 73) hx hb dX0_advance_57 (by decide) ?_
      refine lv_istore_n (lv' := [(2, .int 0), (1, .int r48), (0, .ref q)]) hx hb dX0_advance_73 rfl hl (by decide) rfl (fun ls hl => ?_)
      refine lv_aload_n hx hb dX0_advance_74 rfl (lv_at hl 2 rfl) ?_
      refine lv_iload_n hx hb dX0_advance_75 rfl (lv_at hl 1 rfl) ?_
      obtain ⟨r76, hr76, h⟩ := bd_some h
      refine gc_wv (As := [.int r48]) (rest := []) ⟨hx, hb, hml, hown, hts⟩ hK (kX0_repairAllBut l D cI cC cZ cQ cJ q ((lWe L), (lCy L), (lWr L), (lPu L), (lSl L), (lPl L), (lSp L), (lSt L), (lLi L), (lN_ L), ((lStn L) + 1), (lClk L), yv4) r48 hr76) (cwV 1 hts gX0_advance_X0_repairAllBut rfl rfl rfl (by decide +kernel) ⟨Nat.le_of_ble_eq_true rfl, Nat.le_of_ble_eq_true rfl⟩) (va_recv hK hP (ci := 0) (q0 := 0) rfl rfl) hP hS (fun _ h => h) rfl hl.1 rfl (Nat.le_of_ble_eq_true rfl) ⟨Nat.zero_le _, Nat.zero_le _⟩ dX0_advance_76 (fun H locs hP hS _ _ => ?_)
      refine lv_iload_n hx hb dX0_advance_79 rfl (lv_at hl 0 rfl) ?_
      refine lv_aload_n hx hb dX0_advance_80 rfl (lv_at hl 2 rfl) ?_
      obtain ⟨r81, hr81, h⟩ := bd_some h
      refine gc_wi (As := []) (rest := [.int 0]) ⟨hx, hb, hml, hown, hts⟩ hK (kX0_fillStation l D cI cC cZ cQ cJ q r76 hr81) (cwV 0 hts gX0_advance_X0_fillStation rfl rfl rfl (by decide +kernel) ⟨Nat.le_of_ble_eq_true rfl, Nat.le_of_ble_eq_true rfl⟩) (va_recv hK hP (ci := 0) (q0 := 0) rfl rfl) hP hS (fun _ h => h) rfl hl.1 rfl (Nat.le_of_ble_eq_true rfl) ⟨Nat.zero_le _, Nat.zero_le _⟩ dX0_advance_81 (fun H locs hP hS _ _ => ?_)
      refine lv_ior hx hb dX0_advance_84 ?_
      refine lv_istore_n (lv' := [(2, .int (0 ||| r81.1)), (1, .int r48), (0, .ref q)]) hx hb dX0_advance_85 rfl hl (by decide) rfl (fun ls hl => ?_)
      refine lv_aload_n hx hb dX0_advance_86 rfl (lv_at hl 2 rfl) ?_
      refine lv_dup hx hb dX0_advance_87 rfl ?_
      refine va_get (D := D) (ci := 0) (v := .int (lClk r81.2)) (C := RX0) (T := TX0) (N := 13) hx hb hts hinX0 hown hK hP 0 rfl rfl 11 (by decide) hf49 (fun _ h9 => h9) rfl dX0_advance_88 ?_
      refine lv_iconst (v := 1) hx hb dX0_advance_91 (by decide) ?_
      refine lv_iadd hx hb dX0_advance_92 ?_
      refine va_put (D := D) (ci := 0) (v := .int ((lClk r81.2) + 1)) (ty := .int) (C := RX0) (T := TX0) (N := 13) hx hb hts hinX0 tyX0 tyX0_ok nmX0 hown hK hP LW_self hS 0 rfl rfl 11 (by decide) hf49 (fun _ h9 => h9) rfl (by decide +kernel) rfl rfl (Nat.le_of_ble_eq_true rfl) dX0_advance_93 (fun H locs hP _ hS => ?_)
      have hP : va_P D vwCl (LW cI q ((lWe r81.2), (lCy r81.2), (lWr r81.2), (lPu r81.2), (lSl r81.2), (lPl r81.2), (lSp r81.2), (lSt r81.2), (lLi r81.2), (lN_ r81.2), (lStn r81.2), ((lClk r81.2) + 1), (lRnd r81.2))) H := hP
      refine lv_iload_n hx hb dX0_advance_96 rfl (lv_at hl 0 rfl) ?_
      have h := Option.some.inj h
      subst h
      exact W.iret (v := (0 ||| r81.1)) hx hb hr (fun t ht hW => ⟨⟨_, (), rfl, rfl, gh ht hP⟩, hS.F ht⟩) hS.2.2 dX0_advance_97
end
section
set_option maxHeartbeats 4000000 in
set_option maxRecDepth 100000 in
theorem kX0_advanceBy (l : Launch) (D : va_G) (cI cC cZ cQ cJ : ClassId) (q : Nat) (L : LSt) (p0 : Int32) {R : LSt} (h : fX0_advanceBy L p0 = some R) : Met l yX0_advanceBy wsX0_advanceBy ({ frames := 4, cells := 0, slots := 0, locals := 89 } : Room) (va_Pc [.ref q, .int p0] (gB D (gTy cI cC cZ cQ cJ) (va_P D vwCl (LW cI q L)))) (va_Qv (fun _ : Unit => True) (fun _ t => va_P D vwCl (LW cI q R) t.heap) (fIv q 10)) 0 0 (fIv q 10) := by
  refine Met.ofW (cc := cX0_advanceBy) (maxL := 3) (ret := none) (by decide) rfl ?_
  intro p e s m args below meth c s₁ B hml hv
  obtain ⟨rfl, hP, hK⟩ := hv
  have hx := B.exec
  have hb := B.bytes
  have hr := B.returns
  have hts := atoms_spec (ws := wsX0_advanceBy) B.pre
  have hown : s.vm.findClass RX0 = some m.cls := findClass_of_methodNamed B.named
  have hlocks := B.notSynchronized
  generalize hRM : (headSpec wsX0_advanceBy ({ frames := 4, cells := 0, slots := 0, locals := 89 } : Room)).room = RM
  replace hRM : ({ frames := 4, cells := 0, slots := 0, locals := 89 } : Room) = RM := hRM
  subst hRM
  have hl := lv_entry ([.ref q, .int p0]) (n := 3) (Nat.le_of_ble_eq_true rfl)
  rw [lg_entry_eq]
  generalize (lg_sl ([.ref q, .int p0]) ++ List.replicate (3 - (lg_sl ([.ref q, .int p0])).length) Slot.unset).toArray = ls at hl ⊢
  have hl : lv_has ls 3 [(0, .ref q), (1, .int p0)] := hl
  have hS : va_S (fIv q 10) s.heap s.heap [] := va_S.rf
  have LP2 : ∀ (n : Nat) (S : LSt) (x1 : Int32) (x2 : Int32) (H : Heap) (locs : List Loc) (ls : Array Slot), fX0_advanceBy_L2 n S x1 x2 = some R → va_P D vwCl (LW cI q S) H → va_S (fIv q 10) s.heap H locs → lv_has ls 3 [(0, .ref q), (1, .int x1), (2, .int x2)] → W p l e ({ frames := 4, cells := 0, slots := 0, locals := 89 } : Room) s m ([.ref q, .int p0] : List Value).toArray below meth c H locs 0 0 (MQ below (va_Qv (fun _ : Unit => True) (fun _ t => va_P D vwCl (LW cI q R) t.heap) (fIv q 10)) ([.ref q, .int p0] : List Value).toArray s 0 0 (fIv q 10)) (F0 m 2 ls []) := by
    intro n
    induction n with
    | zero => intro S x1 x2 H locs ls h hP hS hl; exact no_some h
    | succ n ih =>
      intro S x1 x2 H locs ls h hP hS hl
      rw [fX0_advanceBy_L2] at h
      refine lv_iload_n hx hb dX0_advanceBy_2 rfl (lv_at hl 2 rfl) ?_
      refine lv_iload_n hx hb dX0_advanceBy_3 rfl (lv_at hl 1 rfl) ?_
      refine lv_icmp_ge (tgt := 18) hx hb dX0_advanceBy_4 (by decide) (fun c1 => ?_) (fun c1 => ?_)
      · replace h := (if_pos c1).symm.trans h
        have h := Option.some.inj h
        subst h
        exact W.vret hx hb hr (fun t ht hW => ⟨⟨(), rfl, trivial, gh ht hP⟩, hS.F ht⟩) hS.2.2 dX0_advanceBy_18
      · replace h := (if_neg c1).symm.trans h
        refine lv_aload_n hx hb dX0_advanceBy_7 rfl (lv_at hl 0 rfl) ?_
        obtain ⟨r8, hr8, h⟩ := bd_some h
        refine gc_wi (As := []) (rest := []) ⟨hx, hb, hml, hown, hts⟩ hK (kX0_advance l D cI cC cZ cQ cJ q S hr8) (cwV 0 hts gX0_advanceBy_X0_advance rfl rfl rfl (by decide +kernel) ⟨Nat.le_of_ble_eq_true rfl, Nat.le_of_ble_eq_true rfl⟩) (va_recv hK hP (ci := 0) (q0 := 0) rfl rfl) hP hS (fun _ h => h) rfl hl.1 rfl (Nat.le_of_ble_eq_true rfl) ⟨Nat.zero_le _, Nat.zero_le _⟩ dX0_advanceBy_8 (fun H locs hP hS _ _ => ?_)
        refine lv_pop hx hb dX0_advanceBy_11 rfl ?_
        refine lv_iinc (v := (x2 + 1)) (lv' := [(2, .int (x2 + 1)), (0, .ref q), (1, .int x1)]) hx hb dX0_advanceBy_12 hl (k := 2) rfl rfl (by decide) rfl (fun ls hl => ?_)
        refine lv_goto (tgt := 2) hx hb dX0_advanceBy_15 (by decide) ?_
        exact ih r8.2 x1 (x2 + 1) H locs ls h hP hS (lv_sub hl [1, 2, 0] rfl)
  unfold fX0_advanceBy at h
  obtain ⟨H, hH⟩ : ∃ H, H = s.heap := ⟨_, rfl⟩
  obtain ⟨locs, hlo⟩ : ∃ z : List Loc, z = [] := ⟨_, rfl⟩
  have hP : va_P D vwCl (LW cI q L) H := by rw [hH]; exact hP
  have hS : va_S (fIv q 10) s.heap H locs := by rw [hH, hlo]; exact hS
  refine gc_at hH hlo ?_
  refine lv_iconst (v := 0) hx hb dX0_advanceBy_0 (by decide) ?_
  refine lv_istore_n (lv' := [(2, .int 0), (0, .ref q), (1, .int p0)]) hx hb dX0_advanceBy_1 rfl hl (by decide) rfl (fun ls hl => ?_)
  exact LP2 KF L p0 0 H locs ls h hP hS (lv_sub hl [1, 2, 0] rfl)
set_option maxHeartbeats 4000000 in
set_option maxRecDepth 100000 in
theorem kX0_roomySlots (l : Launch) (D : va_G) (cI cC cZ cQ cJ : ClassId) (q : Nat) (L : LSt) {R : Int32} (h : fX0_roomySlots L = some R) : Met l yX0_roomySlots wsX0_roomySlots ({ frames := 2, cells := 0, slots := 0, locals := 45 } : Room) (va_Pc [.ref q] (gB D (gTy cI cC cZ cQ cJ) (va_P D vwCl (LW cI q L)))) (vp_Si (fun r => r = R)) 0 0 (fun _ => False) := by
  refine Met.ofW (cc := cX0_roomySlots) (maxL := 3) (ret := (some .int)) (by decide) rfl ?_
  intro p e s m args below meth c s₁ B hml hv
  obtain ⟨rfl, hP, hK⟩ := hv
  have hx := B.exec
  have hb := B.bytes
  have hr := B.returns
  have hts := atoms_spec (ws := wsX0_roomySlots) B.pre
  have hown : s.vm.findClass RX0 = some m.cls := findClass_of_methodNamed B.named
  have hlocks := B.notSynchronized
  have hinX0 : ∀ w ∈ wsX00, w ∈ wsX0_roomySlots := by decide +kernel
  have hf42 := hts (.fieldLink RX0 42 "GripInspector$Lift" "n" "I") (by decide +kernel)
  generalize hRM : (headSpec wsX0_roomySlots ({ frames := 2, cells := 0, slots := 0, locals := 45 } : Room)).room = RM
  replace hRM : ({ frames := 2, cells := 0, slots := 0, locals := 45 } : Room) = RM := hRM
  subst hRM
  have hl := lv_entry ([.ref q]) (n := 3) (Nat.le_of_ble_eq_true rfl)
  rw [lg_entry_eq]
  generalize (lg_sl ([.ref q]) ++ List.replicate (3 - (lg_sl ([.ref q])).length) Slot.unset).toArray = ls at hl ⊢
  have hl : lv_has ls 3 [(0, .ref q)] := hl
  have LP4 : ∀ (n : Nat) (x1 : Int32) (x2 : Int32) (ls : Array Slot), fX0_roomySlots_L4 L n x1 x2 = some R → lv_has ls 3 [(0, .ref q), (1, .int x1), (2, .int x2)] → W p l e ({ frames := 2, cells := 0, slots := 0, locals := 45 } : Room) s m ([.ref q] : List Value).toArray below meth c s.heap [] 0 0 (MQ below (vp_Si (fun r => r = R)) ([.ref q] : List Value).toArray s 0 0 (fun _ => False)) (F0 m 4 ls []) := by
    intro n
    induction n with
    | zero => intro x1 x2 ls h hl; exact no_some h
    | succ n ih =>
      intro x1 x2 ls h hl
      rw [fX0_roomySlots_L4] at h
      refine lv_iload_n hx hb dX0_roomySlots_4 rfl (lv_at hl 2 rfl) ?_
      refine lv_aload_n hx hb dX0_roomySlots_5 rfl (lv_at hl 0 rfl) ?_
      refine va_get (D := D) (ci := 0) (v := .int (lN_ L)) (C := RX0) (T := TX0) (N := 13) hx hb hts hinX0 hown hK hP 0 rfl rfl 9 (by decide) hf42 (fun _ h9 => h9) rfl dX0_roomySlots_6 ?_
      refine lv_icmp_ge (tgt := 29) hx hb dX0_roomySlots_9 (by decide) (fun c1 => ?_) (fun c1 => ?_)
      · replace h := (if_pos c1).symm.trans h
        refine lv_iload_n hx hb dX0_roomySlots_29 rfl (lv_at hl 1 rfl) ?_
        have h := Option.some.inj h
        exact W.iret (v := x1) hx hb hr (fun t ht hW => ⟨_, rfl, h, ht⟩) t_nil dX0_roomySlots_30
      · replace h := (if_neg c1).symm.trans h
        refine lv_aload_n hx hb dX0_roomySlots_12 rfl (lv_at hl 0 rfl) ?_
        refine lv_iload_n hx hb dX0_roomySlots_13 rfl (lv_at hl 2 rfl) ?_
        obtain ⟨r14, hr14, h⟩ := bd_some h
        refine gc_ri (As := [.int x2]) (rest := []) ⟨hx, hb, hml, hown, hts⟩ hK (kX0_isRoomAt l D cI cC cZ cQ cJ q L x2 hr14) (cwV 1 hts gX0_roomySlots_X0_isRoomAt rfl rfl rfl (by decide +kernel) ⟨Nat.le_of_ble_eq_true rfl, Nat.le_of_ble_eq_true rfl⟩) (va_recv hK hP (ci := 0) (q0 := 0) rfl rfl) hP rfl hl.1 rfl (Nat.le_of_ble_eq_true rfl) ⟨Nat.zero_le _, Nat.zero_le _⟩ dX0_roomySlots_14 ?_
        refine lv_if_eq (tgt := 23) hx hb dX0_roomySlots_17 (by decide) (fun c2 => ?_) (fun c2 => ?_)
        · replace h := (if_pos c2).symm.trans h
          refine lv_iinc (v := (x2 + 1)) (lv' := [(2, .int (x2 + 1)), (0, .ref q), (1, .int x1)]) hx hb dX0_roomySlots_23 hl (k := 2) rfl rfl (by decide) rfl (fun ls hl => ?_)
          refine lv_goto (tgt := 4) hx hb dX0_roomySlots_26 (by decide) ?_
          exact ih x1 (x2 + 1) ls h (lv_sub hl [1, 2, 0] rfl)
        · replace h := (if_neg c2).symm.trans h
          refine lv_iinc (v := (x1 + 1)) (lv' := [(1, .int (x1 + 1)), (0, .ref q), (2, .int x2)]) hx hb dX0_roomySlots_20 hl (k := 1) rfl rfl (by decide) rfl (fun ls hl => ?_)
          refine lv_iinc (v := (x2 + 1)) (lv' := [(2, .int (x2 + 1)), (1, .int (x1 + 1)), (0, .ref q)]) hx hb dX0_roomySlots_23 hl (k := 2) rfl rfl (by decide) rfl (fun ls hl => ?_)
          refine lv_goto (tgt := 4) hx hb dX0_roomySlots_26 (by decide) ?_
          exact ih (x1 + 1) (x2 + 1) ls h (lv_sub hl [2, 1, 0] rfl)
  unfold fX0_roomySlots at h
  refine lv_iconst (v := 0) hx hb dX0_roomySlots_0 (by decide) ?_
  refine lv_istore_n (lv' := [(1, .int 0), (0, .ref q)]) hx hb dX0_roomySlots_1 rfl hl (by decide) rfl (fun ls hl => ?_)
  refine lv_iconst (v := 0) hx hb dX0_roomySlots_2 (by decide) ?_
  refine lv_istore_n (lv' := [(2, .int 0), (1, .int 0), (0, .ref q)]) hx hb dX0_roomySlots_3 rfl hl (by decide) rfl (fun ls hl => ?_)
  exact LP4 KF 0 0 ls h (lv_sub hl [2, 1, 0] rfl)
set_option maxHeartbeats 4000000 in
set_option maxRecDepth 100000 in
theorem kX0_slotsOn (l : Launch) (D : va_G) (cI cC cZ cQ cJ : ClassId) (q : Nat) (L : LSt) (p0 : Int32) (p1 : Int32) {R : Int32} (h : fX0_slotsOn L p0 p1 = some R) : Met l yX0_slotsOn wsX0_slotsOn ({ frames := 0, cells := 0, slots := 0, locals := 0 } : Room) (va_Pc [.ref q, .int p0, .int p1] (gB D (gTy cI cC cZ cQ cJ) (va_P D vwCl (LW cI q L)))) (vp_Si (fun r => r = R)) 0 0 (fun _ => False) := by
  refine Met.ofW (cc := cX0_slotsOn) (maxL := 3) (ret := (some .int)) (by decide) rfl ?_
  intro p e s m args below meth c s₁ B hml hv
  obtain ⟨rfl, hP, hK⟩ := hv
  have hx := B.exec
  have hb := B.bytes
  have hr := B.returns
  have hts := atoms_spec (ws := wsX0_slotsOn) B.pre
  have hown : s.vm.findClass RX0 = some m.cls := findClass_of_methodNamed B.named
  have hlocks := B.notSynchronized
  have hinX0 : ∀ w ∈ wsX00, w ∈ wsX0_slotsOn := by decide +kernel
  have hf42 := hts (.fieldLink RX0 42 "GripInspector$Lift" "n" "I") (by decide +kernel)
  generalize hRM : (headSpec wsX0_slotsOn ({ frames := 0, cells := 0, slots := 0, locals := 0 } : Room)).room = RM
  replace hRM : ({ frames := 0, cells := 0, slots := 0, locals := 0 } : Room) = RM := hRM
  subst hRM
  have hl := lv_entry ([.ref q, .int p0, .int p1]) (n := 3) (Nat.le_of_ble_eq_true rfl)
  rw [lg_entry_eq]
  generalize (lg_sl ([.ref q, .int p0, .int p1]) ++ List.replicate (3 - (lg_sl ([.ref q, .int p0, .int p1])).length) Slot.unset).toArray = ls at hl ⊢
  have hl : lv_has ls 3 [(0, .ref q), (1, .int p0), (2, .int p1)] := hl
  unfold fX0_slotsOn at h
  refine lv_iload_n hx hb dX0_slotsOn_0 rfl (lv_at hl 2 rfl) ?_
  refine lv_iload_n hx hb dX0_slotsOn_1 rfl (lv_at hl 1 rfl) ?_
  refine lv_icmp_le (tgt := 11) hx hb dX0_slotsOn_2 (by decide) (fun c1 => ?_) (fun c1 => ?_)
  · replace h := (if_pos c1).symm.trans h
    refine lv_iload_n hx hb dX0_slotsOn_11 rfl (lv_at hl 2 rfl) ?_
    refine lv_iload_n hx hb dX0_slotsOn_12 rfl (lv_at hl 1 rfl) ?_
    refine lv_isub hx hb dX0_slotsOn_13 ?_
    refine lv_aload_n hx hb dX0_slotsOn_14 rfl (lv_at hl 0 rfl) ?_
    refine va_get (D := D) (ci := 0) (v := .int (lN_ L)) (C := RX0) (T := TX0) (N := 13) hx hb hts hinX0 hown hK hP 0 rfl rfl 9 (by decide) hf42 (fun _ h9 => h9) rfl dX0_slotsOn_15 ?_
    refine lv_iadd hx hb dX0_slotsOn_18 ?_
    have h := Option.some.inj h
    exact W.iret (v := ((p1 - p0) + (lN_ L))) hx hb hr (fun t ht hW => ⟨_, rfl, h, ht⟩) t_nil dX0_slotsOn_19
  · replace h := (if_neg c1).symm.trans h
    refine lv_iload_n hx hb dX0_slotsOn_5 rfl (lv_at hl 2 rfl) ?_
    refine lv_iload_n hx hb dX0_slotsOn_6 rfl (lv_at hl 1 rfl) ?_
    refine lv_isub hx hb dX0_slotsOn_7 ?_
    refine lv_goto (tgt := 19) hx hb dX0_slotsOn_8 (by decide) ?_
    have h := Option.some.inj h
    exact W.iret (v := (p1 - p0)) hx hb hr (fun t ht hW => ⟨_, rfl, h, ht⟩) t_nil dX0_slotsOn_19
set_option maxHeartbeats 4000000 in
set_option maxRecDepth 100000 in
theorem kX0_gapBehind (l : Launch) (D : va_G) (cI cC cZ cQ cJ : ClassId) (q : Nat) (L : LSt) (p0 : Int32) {R : Int32} (h : fX0_gapBehind L p0 = some R) : Met l yX0_gapBehind wsX0_gapBehind ({ frames := 1, cells := 0, slots := 0, locals := 22 } : Room) (va_Pc [.ref q, .int p0] (gB D (gTy cI cC cZ cQ cJ) (va_P D vwCl (LW cI q L)))) (vp_Si (fun r => r = R)) 0 0 (fun _ => False) := by
  refine Met.ofW (cc := cX0_gapBehind) (maxL := 4) (ret := (some .int)) (by decide) rfl ?_
  intro p e s m args below meth c s₁ B hml hv
  obtain ⟨rfl, hP, hK⟩ := hv
  have hx := B.exec
  have hb := B.bytes
  have hr := B.returns
  have hts := atoms_spec (ws := wsX0_gapBehind) B.pre
  have hown : s.vm.findClass RX0 = some m.cls := findClass_of_methodNamed B.named
  have hlocks := B.notSynchronized
  have hinX0 : ∀ w ∈ wsX00, w ∈ wsX0_gapBehind := by decide +kernel
  have hf42 := hts (.fieldLink RX0 42 "GripInspector$Lift" "n" "I") (by decide +kernel)
  have hf27 := hts (.fieldLink RX0 27 "GripInspector$Lift" "place" "[I") (by decide +kernel)
  have hf30 := hts (.fieldLink RX0 30 "GripInspector$Lift" "spot" "[I") (by decide +kernel)
  generalize hRM : (headSpec wsX0_gapBehind ({ frames := 1, cells := 0, slots := 0, locals := 22 } : Room)).room = RM
  replace hRM : ({ frames := 1, cells := 0, slots := 0, locals := 22 } : Room) = RM := hRM
  subst hRM
  have hl := lv_entry ([.ref q, .int p0]) (n := 4) (Nat.le_of_ble_eq_true rfl)
  rw [lg_entry_eq]
  generalize (lg_sl ([.ref q, .int p0]) ++ List.replicate (4 - (lg_sl ([.ref q, .int p0])).length) Slot.unset).toArray = ls at hl ⊢
  have hl : lv_has ls 4 [(0, .ref q), (1, .int p0)] := hl
  have LP7 : ∀ (n : Nat) (x1 : Int32) (x2 : Int32) (x3 : Int32) (ls : Array Slot), fX0_gapBehind_L7 L n x1 x2 x3 = some R → lv_has ls 4 [(0, .ref q), (1, .int x1), (2, .int x2), (3, .int x3)] → W p l e ({ frames := 1, cells := 0, slots := 0, locals := 22 } : Room) s m ([.ref q, .int p0] : List Value).toArray below meth c s.heap [] 0 0 (MQ below (vp_Si (fun r => r = R)) ([.ref q, .int p0] : List Value).toArray s 0 0 (fun _ => False)) (F0 m 7 ls []) := by
    intro n
    induction n with
    | zero => intro x1 x2 x3 ls h hl; exact no_some h
    | succ n ih =>
      intro x1 x2 x3 ls h hl
      rw [fX0_gapBehind_L7] at h
      refine lv_iload_n hx hb dX0_gapBehind_7 rfl (lv_at hl 3 rfl) ?_
      refine lv_bipush (v := 12) hx hb dX0_gapBehind_8 (by decide) ?_
      refine lv_icmp_ge (tgt := 49) hx hb dX0_gapBehind_10 (by decide) (fun c1 => ?_) (fun c1 => ?_)
      · replace h := (if_pos c1).symm.trans h
        refine lv_iload_n hx hb dX0_gapBehind_49 rfl (lv_at hl 2 rfl) ?_
        have h := Option.some.inj h
        exact W.iret (v := x2) hx hb hr (fun t ht hW => ⟨_, rfl, h, ht⟩) t_nil dX0_gapBehind_50
      · replace h := (if_neg c1).symm.trans h
        refine lv_aload_n hx hb dX0_gapBehind_13 rfl (lv_at hl 0 rfl) ?_
        refine va_get (D := D) (ci := 0) (v := .ref (q + 6)) (C := RX0) (T := TX0) (N := 13) hx hb hts hinX0 hown hK hP 0 rfl rfl 5 (by decide) hf27 (fun _ h9 => h9) rfl dX0_gapBehind_14 ?_
        refine lv_iload_n hx hb dX0_gapBehind_17 rfl (lv_at hl 3 rfl) ?_
        obtain ⟨hg2, h⟩ := gd_some h
        refine g_iald (f := (lPl L)) (k := x3.toNatClampNeg) hx hb hK hP 6 0 rfl rfl hg2 rfl dX0_gapBehind_18 ?_
        refine lv_if_ne (tgt := 43) hx hb dX0_gapBehind_19 (by decide) (fun c3 => ?_) (fun c3 => ?_)
        · replace h := (if_neg c3).symm.trans h
          refine lv_iinc (v := (x3 + 1)) (lv' := [(3, .int (x3 + 1)), (0, .ref q), (1, .int x1), (2, .int x2)]) hx hb dX0_gapBehind_43 hl (k := 3) rfl rfl (by decide) rfl (fun ls hl => ?_)
          refine lv_goto (tgt := 7) hx hb dX0_gapBehind_46 (by decide) ?_
          exact ih x1 x2 (x3 + 1) ls h (lv_sub hl [1, 2, 3, 0] rfl)
        · replace h := (if_pos c3).symm.trans h
          refine lv_iload_n hx hb dX0_gapBehind_22 rfl (lv_at hl 2 rfl) ?_
          refine lv_aload_n hx hb dX0_gapBehind_23 rfl (lv_at hl 0 rfl) ?_
          refine lv_aload_n hx hb dX0_gapBehind_24 rfl (lv_at hl 0 rfl) ?_
          refine va_get (D := D) (ci := 0) (v := .ref (q + 7)) (C := RX0) (T := TX0) (N := 13) hx hb hts hinX0 hown hK hP 0 rfl rfl 6 (by decide) hf30 (fun _ h9 => h9) rfl dX0_gapBehind_25 ?_
          refine lv_iload_n hx hb dX0_gapBehind_28 rfl (lv_at hl 1 rfl) ?_
          obtain ⟨hg4, h⟩ := gd_some h
          refine g_iald (f := (lSp L)) (k := x1.toNatClampNeg) hx hb hK hP 7 0 rfl rfl hg4 rfl dX0_gapBehind_29 ?_
          refine lv_aload_n hx hb dX0_gapBehind_30 rfl (lv_at hl 0 rfl) ?_
          refine va_get (D := D) (ci := 0) (v := .ref (q + 7)) (C := RX0) (T := TX0) (N := 13) hx hb hts hinX0 hown hK hP 0 rfl rfl 6 (by decide) hf30 (fun _ h9 => h9) rfl dX0_gapBehind_31 ?_
          refine lv_iload_n hx hb dX0_gapBehind_34 rfl (lv_at hl 3 rfl) ?_
          refine g_iald (f := (lSp L)) (k := x3.toNatClampNeg) hx hb hK hP 7 0 rfl rfl hg2 rfl dX0_gapBehind_35 ?_
          obtain ⟨r36, hr36, h⟩ := bd_some h
          refine gc_ri (As := [.int ((lSp L) x1.toNatClampNeg), .int ((lSp L) x3.toNatClampNeg)]) (rest := [.int x2]) ⟨hx, hb, hml, hown, hts⟩ hK (kX0_slotsOn l D cI cC cZ cQ cJ q L ((lSp L) x1.toNatClampNeg) ((lSp L) x3.toNatClampNeg) hr36) (cwV 2 hts gX0_gapBehind_X0_slotsOn rfl rfl rfl (by decide +kernel) ⟨Nat.le_of_ble_eq_true rfl, Nat.le_of_ble_eq_true rfl⟩) (va_recv hK hP (ci := 0) (q0 := 0) rfl rfl) hP rfl hl.1 rfl (Nat.le_of_ble_eq_true rfl) ⟨Nat.zero_le _, Nat.zero_le _⟩ dX0_gapBehind_36 ?_
          refine va_mmin hx hb (hml.trans hl.1.symm) hown (hts (.methodLink RX0 105 Lib.Math.min.name) (by decide +kernel)) (hts (.static Lib.Math.min.name) (by decide +kernel)) (hts (.initialized "java/lang/Math") (by decide +kernel)) (hts (.code Lib.Math.min.name Lib.Math.min.code 2 (some .int)) (by decide +kernel)) (Nat.le_of_ble_eq_true rfl) (Nat.le_of_ble_eq_true rfl) (Nat.zero_le _) (Nat.zero_le _) dX0_gapBehind_39 ?_
          refine lv_istore_n (lv' := [(2, .int (if r36 < x2 then r36 else x2)), (0, .ref q), (1, .int x1), (3, .int x3)]) hx hb dX0_gapBehind_42 rfl hl (by decide) rfl (fun ls hl => ?_)
          refine lv_iinc (v := (x3 + 1)) (lv' := [(3, .int (x3 + 1)), (2, .int (if r36 < x2 then r36 else x2)), (0, .ref q), (1, .int x1)]) hx hb dX0_gapBehind_43 hl (k := 3) rfl rfl (by decide) rfl (fun ls hl => ?_)
          refine lv_goto (tgt := 7) hx hb dX0_gapBehind_46 (by decide) ?_
          exact ih x1 (if r36 < x2 then r36 else x2) (x3 + 1) ls h (lv_sub hl [2, 3, 1, 0] rfl)
  unfold fX0_gapBehind at h
  refine lv_aload_n hx hb dX0_gapBehind_0 rfl (lv_at hl 0 rfl) ?_
  refine va_get (D := D) (ci := 0) (v := .int (lN_ L)) (C := RX0) (T := TX0) (N := 13) hx hb hts hinX0 hown hK hP 0 rfl rfl 9 (by decide) hf42 (fun _ h9 => h9) rfl dX0_gapBehind_1 ?_
  refine lv_istore_n (lv' := [(2, .int (lN_ L)), (0, .ref q), (1, .int p0)]) hx hb dX0_gapBehind_4 rfl hl (by decide) rfl (fun ls hl => ?_)
  refine lv_iconst (v := 0) hx hb dX0_gapBehind_5 (by decide) ?_
  refine lv_istore_n (lv' := [(3, .int 0), (2, .int (lN_ L)), (0, .ref q), (1, .int p0)]) hx hb dX0_gapBehind_6 rfl hl (by decide) rfl (fun ls hl => ?_)
  exact LP7 KF p0 (lN_ L) 0 ls h (lv_sub hl [2, 3, 1, 0] rfl)
set_option maxHeartbeats 4000000 in
set_option maxRecDepth 100000 in
theorem kX0_smallestGap (l : Launch) (D : va_G) (cI cC cZ cQ cJ : ClassId) (q : Nat) (L : LSt) {R : Int32} (h : fX0_smallestGap L = some R) : Met l yX0_smallestGap wsX0_smallestGap ({ frames := 2, cells := 0, slots := 0, locals := 45 } : Room) (va_Pc [.ref q] (gB D (gTy cI cC cZ cQ cJ) (va_P D vwCl (LW cI q L)))) (vp_Si (fun r => r = R)) 0 0 (fun _ => False) := by
  refine Met.ofW (cc := cX0_smallestGap) (maxL := 4) (ret := (some .int)) (by decide) rfl ?_
  intro p e s m args below meth c s₁ B hml hv
  obtain ⟨rfl, hP, hK⟩ := hv
  have hx := B.exec
  have hb := B.bytes
  have hr := B.returns
  have hts := atoms_spec (ws := wsX0_smallestGap) B.pre
  have hown : s.vm.findClass RX0 = some m.cls := findClass_of_methodNamed B.named
  have hlocks := B.notSynchronized
  have hinX0 : ∀ w ∈ wsX00, w ∈ wsX0_smallestGap := by decide +kernel
  have hf27 := hts (.fieldLink RX0 27 "GripInspector$Lift" "place" "[I") (by decide +kernel)
  generalize hRM : (headSpec wsX0_smallestGap ({ frames := 2, cells := 0, slots := 0, locals := 45 } : Room)).room = RM
  replace hRM : ({ frames := 2, cells := 0, slots := 0, locals := 45 } : Room) = RM := hRM
  subst hRM
  have hl := lv_entry ([.ref q]) (n := 4) (Nat.le_of_ble_eq_true rfl)
  rw [lg_entry_eq]
  generalize (lg_sl ([.ref q]) ++ List.replicate (4 - (lg_sl ([.ref q])).length) Slot.unset).toArray = ls at hl ⊢
  have hl : lv_has ls 4 [(0, .ref q)] := hl
  have LP5 : ∀ (n : Nat) (x1 : Int32) (x2 : Int32) (ls : Array Slot), fX0_smallestGap_L5 L n x1 x2 = some R → lv_has ls 4 [(0, .ref q), (1, .int x1), (2, .int x2)] → W p l e ({ frames := 2, cells := 0, slots := 0, locals := 45 } : Room) s m ([.ref q] : List Value).toArray below meth c s.heap [] 0 0 (MQ below (vp_Si (fun r => r = R)) ([.ref q] : List Value).toArray s 0 0 (fun _ => False)) (F0 m 5 ls []) := by
    intro n
    induction n with
    | zero => intro x1 x2 ls h hl; exact no_some h
    | succ n ih =>
      intro x1 x2 ls h hl
      rw [fX0_smallestGap_L5] at h
      refine lv_iload_n hx hb dX0_smallestGap_5 rfl (lv_at hl 2 rfl) ?_
      refine lv_bipush (v := 12) hx hb dX0_smallestGap_6 (by decide) ?_
      refine lv_icmp_ge (tgt := 48) hx hb dX0_smallestGap_8 (by decide) (fun c1 => ?_) (fun c1 => ?_)
      · replace h := (if_pos c1).symm.trans h
        refine lv_iload_n hx hb dX0_smallestGap_48 rfl (lv_at hl 1 rfl) ?_
        have h := Option.some.inj h
        exact W.iret (v := x1) hx hb hr (fun t ht hW => ⟨_, rfl, h, ht⟩) t_nil dX0_smallestGap_49
      · replace h := (if_neg c1).symm.trans h
        refine lv_aload_n hx hb dX0_smallestGap_11 rfl (lv_at hl 0 rfl) ?_
        refine va_get (D := D) (ci := 0) (v := .ref (q + 6)) (C := RX0) (T := TX0) (N := 13) hx hb hts hinX0 hown hK hP 0 rfl rfl 5 (by decide) hf27 (fun _ h9 => h9) rfl dX0_smallestGap_12 ?_
        refine lv_iload_n hx hb dX0_smallestGap_15 rfl (lv_at hl 2 rfl) ?_
        obtain ⟨hg2, h⟩ := gd_some h
        refine g_iald (f := (lPl L)) (k := x2.toNatClampNeg) hx hb hK hP 6 0 rfl rfl hg2 rfl dX0_smallestGap_16 ?_
        refine lv_if_eq (tgt := 23) hx hb dX0_smallestGap_17 (by decide) (fun c3 => ?_) (fun c3 => ?_)
        · replace h := (if_pos c3).symm.trans h
          refine lv_aload_n hx hb dX0_smallestGap_23 rfl (lv_at hl 0 rfl) ?_
          refine lv_iload_n hx hb dX0_smallestGap_24 rfl (lv_at hl 2 rfl) ?_
          obtain ⟨r25, hr25, h⟩ := bd_some h
          refine gc_ri (As := [.int x2]) (rest := []) ⟨hx, hb, hml, hown, hts⟩ hK (kX0_gapBehind l D cI cC cZ cQ cJ q L x2 hr25) (cwV 1 hts gX0_smallestGap_X0_gapBehind rfl rfl rfl (by decide +kernel) ⟨Nat.le_of_ble_eq_true rfl, Nat.le_of_ble_eq_true rfl⟩) (va_recv hK hP (ci := 0) (q0 := 0) rfl rfl) hP rfl hl.1 rfl (Nat.le_of_ble_eq_true rfl) ⟨Nat.zero_le _, Nat.zero_le _⟩ dX0_smallestGap_25 ?_
          refine lv_istore_n (lv' := [(3, .int r25), (0, .ref q), (1, .int x1), (2, .int x2)]) hx hb dX0_smallestGap_28 rfl hl (by decide) rfl (fun ls hl => ?_)
          refine lv_iload_n hx hb dX0_smallestGap_29 rfl (lv_at hl 2 rfl) ?_
          refine lv_bipush (v := (-9)) hx hb dX0_smallestGap_30 (by decide) ?_
          refine lv_icmp_eq (tgt := 40) hx hb dX0_smallestGap_32 (by decide) (fun c4 => ?_) (fun c4 => ?_)
          · replace h := (if_pos c4).symm.trans h
            refine lv_iload_n hx hb dX0_smallestGap_40 rfl (lv_at hl 0 rfl) ?_
            refine lv_istore_n (lv' := [(1, .int r25), (3, .int r25), (0, .ref q), (2, .int x2)]) hx hb dX0_smallestGap_41 rfl hl (by decide) rfl (fun ls hl => ?_)
            refine lv_iinc (v := (x2 + 1)) (lv' := [(2, .int (x2 + 1)), (1, .int r25), (3, .int r25), (0, .ref q)]) hx hb dX0_smallestGap_42 hl (k := 3) rfl rfl (by decide) rfl (fun ls hl => ?_)
            refine lv_goto (tgt := 5) hx hb dX0_smallestGap_45 (by decide) ?_
            exact ih r25 (x2 + 1) ls h (lv_sub hl [3, 1, 0] rfl)
          · replace h := (if_neg c4).symm.trans h
            refine lv_iload_n hx hb dX0_smallestGap_35 rfl (lv_at hl 0 rfl) ?_
            refine lv_iload_n hx hb dX0_smallestGap_36 rfl (lv_at hl 2 rfl) ?_
            refine lv_icmp_ge (tgt := 42) hx hb dX0_smallestGap_37 (by decide) (fun c5 => ?_) (fun c5 => ?_)
            · replace h := (if_pos c5).symm.trans h
              refine lv_iinc (v := (x2 + 1)) (lv' := [(2, .int (x2 + 1)), (3, .int r25), (0, .ref q), (1, .int x1)]) hx hb dX0_smallestGap_42 hl (k := 3) rfl rfl (by decide) rfl (fun ls hl => ?_)
              refine lv_goto (tgt := 5) hx hb dX0_smallestGap_45 (by decide) ?_
              exact ih x1 (x2 + 1) ls h (lv_sub hl [2, 3, 0] rfl)
            · replace h := (if_neg c5).symm.trans h
              refine lv_iload_n hx hb dX0_smallestGap_40 rfl (lv_at hl 0 rfl) ?_
              refine lv_istore_n (lv' := [(1, .int r25), (3, .int r25), (0, .ref q), (2, .int x2)]) hx hb dX0_smallestGap_41 rfl hl (by decide) rfl (fun ls hl => ?_)
              refine lv_iinc (v := (x2 + 1)) (lv' := [(2, .int (x2 + 1)), (1, .int r25), (3, .int r25), (0, .ref q)]) hx hb dX0_smallestGap_42 hl (k := 3) rfl rfl (by decide) rfl (fun ls hl => ?_)
              refine lv_goto (tgt := 5) hx hb dX0_smallestGap_45 (by decide) ?_
              exact ih r25 (x2 + 1) ls h (lv_sub hl [3, 1, 0] rfl)
        · replace h := (if_neg c3).symm.trans h
          refine lv_goto (tgt := 42) hx hb dX0_smallestGap_20 (by decide) ?_
          refine lv_iinc (v := (x2 + 1)) (lv' := [(2, .int (x2 + 1)), (0, .ref q), (1, .int x1)]) hx hb dX0_smallestGap_42 hl (k := 2) rfl rfl (by decide) rfl (fun ls hl => ?_)
          refine lv_goto (tgt := 5) hx hb dX0_smallestGap_45 (by decide) ?_
          exact ih x1 (x2 + 1) ls h (lv_sub hl [1, 2, 0] rfl)
  unfold fX0_smallestGap at h
  refine lv_bipush (v := (-9)) hx hb dX0_smallestGap_0 (by decide) ?_
  refine lv_istore_n (lv' := [(1, .int (-9)), (0, .ref q)]) hx hb dX0_smallestGap_2 rfl hl (by decide) rfl (fun ls hl => ?_)
  refine lv_iconst (v := 0) hx hb dX0_smallestGap_3 (by decide) ?_
  refine lv_istore_n (lv' := [(2, .int 0), (1, .int (-9)), (0, .ref q)]) hx hb dX0_smallestGap_4 rfl hl (by decide) rfl (fun ls hl => ?_)
  exact LP5 KF (-9) 0 ls h (lv_sub hl [2, 1, 0] rfl)
set_option maxHeartbeats 4000000 in
set_option maxRecDepth 100000 in
theorem kX0_capacity (l : Launch) (D : va_G) (cI cC cZ cQ cJ : ClassId) (q : Nat) (L : LSt) {R : Int32} (h : fX0_capacity L = some R) : Met l yX0_capacity wsX0_capacity ({ frames := 0, cells := 0, slots := 0, locals := 0 } : Room) (va_Pc [.ref q] (gB D (gTy cI cC cZ cQ cJ) (va_P D vwCl (LW cI q L)))) (vp_Si (fun r => r = R)) 0 0 (fun _ => False) := by
  refine Met.ofW (cc := cX0_capacity) (maxL := 2) (ret := (some .int)) (by decide) rfl ?_
  intro p e s m args below meth c s₁ B hml hv
  obtain ⟨rfl, hP, hK⟩ := hv
  have hx := B.exec
  have hb := B.bytes
  have hr := B.returns
  have hts := atoms_spec (ws := wsX0_capacity) B.pre
  have hown : s.vm.findClass RX0 = some m.cls := findClass_of_methodNamed B.named
  have hlocks := B.notSynchronized
  have hinX0 : ∀ w ∈ wsX00, w ∈ wsX0_capacity := by decide +kernel
  have hf36 := hts (.fieldLink RX0 36 "GripInspector$Lift" "limits" "[I") (by decide +kernel)
  have hf42 := hts (.fieldLink RX0 42 "GripInspector$Lift" "n" "I") (by decide +kernel)
  generalize hRM : (headSpec wsX0_capacity ({ frames := 0, cells := 0, slots := 0, locals := 0 } : Room)).room = RM
  replace hRM : ({ frames := 0, cells := 0, slots := 0, locals := 0 } : Room) = RM := hRM
  subst hRM
  have hl := lv_entry ([.ref q]) (n := 2) (Nat.le_of_ble_eq_true rfl)
  rw [lg_entry_eq]
  generalize (lg_sl ([.ref q]) ++ List.replicate (2 - (lg_sl ([.ref q])).length) Slot.unset).toArray = ls at hl ⊢
  have hl : lv_has ls 2 [(0, .ref q)] := hl
  unfold fX0_capacity at h
  refine lv_aload_n hx hb dX0_capacity_0 rfl (lv_at hl 0 rfl) ?_
  refine va_get (D := D) (ci := 0) (v := .ref (q + 9)) (C := RX0) (T := TX0) (N := 13) hx hb hts hinX0 hown hK hP 0 rfl rfl 8 (by decide) hf36 (fun _ h9 => h9) rfl dX0_capacity_1 ?_
  refine lv_iconst (v := 3) hx hb dX0_capacity_4 (by decide) ?_
  refine g_iald (f := (lLi L)) (k := 3) hx hb hK hP 9 0 rfl rfl (vin_lit rfl) rfl dX0_capacity_5 ?_
  refine lv_istore_n (lv' := [(1, .int ((lLi L) 3)), (0, .ref q)]) hx hb dX0_capacity_6 rfl hl (by decide) rfl (fun ls hl => ?_)
  refine lv_iload_n hx hb dX0_capacity_7 rfl (lv_at hl 0 rfl) ?_
  refine lv_if_le (tgt := 20) hx hb dX0_capacity_8 (by decide) (fun c1 => ?_) (fun c1 => ?_)
  · replace h := (if_pos c1).symm.trans h
    refine lv_iconst (v := 0) hx hb dX0_capacity_20 (by decide) ?_
    have h := Option.some.inj h
    exact W.iret (v := 0) hx hb hr (fun t ht hW => ⟨_, rfl, h, ht⟩) t_nil dX0_capacity_21
  · replace h := (if_neg c1).symm.trans h
    refine lv_aload_n hx hb dX0_capacity_11 rfl (lv_at hl 1 rfl) ?_
    refine va_get (D := D) (ci := 0) (v := .int (lN_ L)) (C := RX0) (T := TX0) (N := 13) hx hb hts hinX0 hown hK hP 0 rfl rfl 9 (by decide) hf42 (fun _ h9 => h9) rfl dX0_capacity_12 ?_
    refine lv_iload_n hx hb dX0_capacity_15 rfl (lv_at hl 0 rfl) ?_
    obtain ⟨hn2, h⟩ := nz_some h
    refine lv_idiv hx hb dX0_capacity_16 hn2 ?_
    refine lv_goto (tgt := 21) hx hb dX0_capacity_17 (by decide) ?_
    have h := Option.some.inj h
    exact W.iret (v := ((lN_ L) / ((lLi L) 3))) hx hb hr (fun t ht hW => ⟨_, rfl, h, ht⟩) t_nil dX0_capacity_21
set_option maxHeartbeats 4000000 in
set_option maxRecDepth 100000 in
theorem kX0_stepsUntilDue (l : Launch) (D : va_G) (cI cC cZ cQ cJ : ClassId) (q : Nat) (L : LSt) (p0 : Int32) {R : Int32} (h : fX0_stepsUntilDue L p0 = some R) : Met l yX0_stepsUntilDue wsX0_stepsUntilDue ({ frames := 1, cells := 0, slots := 0, locals := 22 } : Room) (va_Pc [.ref q, .int p0] (gB D (gTy cI cC cZ cQ cJ) (va_P D vwCl (LW cI q L)))) (vp_Si (fun r => r = R)) 0 0 (fun _ => False) := by
  refine Met.ofW (cc := cX0_stepsUntilDue) (maxL := 3) (ret := (some .int)) (by decide) rfl ?_
  intro p e s m args below meth c s₁ B hml hv
  obtain ⟨rfl, hP, hK⟩ := hv
  have hx := B.exec
  have hb := B.bytes
  have hr := B.returns
  have hts := atoms_spec (ws := wsX0_stepsUntilDue) B.pre
  have hown : s.vm.findClass RX0 = some m.cls := findClass_of_methodNamed B.named
  have hlocks := B.notSynchronized
  have hinX0 : ∀ w ∈ wsX00, w ∈ wsX0_stepsUntilDue := by decide +kernel
  have hf36 := hts (.fieldLink RX0 36 "GripInspector$Lift" "limits" "[I") (by decide +kernel)
  have hf15 := hts (.fieldLink RX0 15 "GripInspector$Lift" "cycles" "[I") (by decide +kernel)
  have hf46 := hts (.fieldLink RX0 46 "GripInspector$Lift" "station" "I") (by decide +kernel)
  have hf30 := hts (.fieldLink RX0 30 "GripInspector$Lift" "spot" "[I") (by decide +kernel)
  have hf42 := hts (.fieldLink RX0 42 "GripInspector$Lift" "n" "I") (by decide +kernel)
  generalize hRM : (headSpec wsX0_stepsUntilDue ({ frames := 1, cells := 0, slots := 0, locals := 22 } : Room)).room = RM
  replace hRM : ({ frames := 1, cells := 0, slots := 0, locals := 22 } : Room) = RM := hRM
  subst hRM
  have hl := lv_entry ([.ref q, .int p0]) (n := 3) (Nat.le_of_ble_eq_true rfl)
  rw [lg_entry_eq]
  generalize (lg_sl ([.ref q, .int p0]) ++ List.replicate (3 - (lg_sl ([.ref q, .int p0])).length) Slot.unset).toArray = ls at hl ⊢
  have hl : lv_has ls 3 [(0, .ref q), (1, .int p0)] := hl
  unfold fX0_stepsUntilDue at h
  refine lv_iconst (v := 1) hx hb dX0_stepsUntilDue_0 (by decide) ?_
  refine lv_aload_n hx hb dX0_stepsUntilDue_1 rfl (lv_at hl 0 rfl) ?_
  refine va_get (D := D) (ci := 0) (v := .ref (q + 9)) (C := RX0) (T := TX0) (N := 13) hx hb hts hinX0 hown hK hP 0 rfl rfl 8 (by decide) hf36 (fun _ h9 => h9) rfl dX0_stepsUntilDue_2 ?_
  refine lv_iconst (v := 0) hx hb dX0_stepsUntilDue_5 (by decide) ?_
  refine g_iald (f := (lLi L)) (k := 0) hx hb hK hP 9 0 rfl rfl (vin_lit rfl) rfl dX0_stepsUntilDue_6 ?_
  refine lv_aload_n hx hb dX0_stepsUntilDue_7 rfl (lv_at hl 0 rfl) ?_
  refine va_get (D := D) (ci := 0) (v := .ref (q + 2)) (C := RX0) (T := TX0) (N := 13) hx hb hts hinX0 hown hK hP 0 rfl rfl 1 (by decide) hf15 (fun _ h9 => h9) rfl dX0_stepsUntilDue_8 ?_
  refine lv_iload_n hx hb dX0_stepsUntilDue_11 rfl (lv_at hl 1 rfl) ?_
  obtain ⟨hg1, h⟩ := gd_some h
  refine g_iald (f := (lCy L)) (k := p0.toNatClampNeg) hx hb hK hP 2 0 rfl rfl hg1 rfl dX0_stepsUntilDue_12 ?_
  refine lv_isub hx hb dX0_stepsUntilDue_13 ?_
  refine va_mmax hx hb (hml.trans hl.1.symm) hown (hts (.methodLink RX0 113 Lib.Math.max.name) (by decide +kernel)) (hts (.static Lib.Math.max.name) (by decide +kernel)) (hts (.initialized "java/lang/Math") (by decide +kernel)) (hts (.code Lib.Math.max.name Lib.Math.max.code 2 (some .int)) (by decide +kernel)) (Nat.le_of_ble_eq_true rfl) (Nat.le_of_ble_eq_true rfl) (Nat.zero_le _) (Nat.zero_le _) dX0_stepsUntilDue_14 ?_
  refine lv_istore_n (lv' := [(2, .int (if 1 < (((lLi L) 0) - ((lCy L) p0.toNatClampNeg)) then (((lLi L) 0) - ((lCy L) p0.toNatClampNeg)) else 1)), (0, .ref q), (1, .int p0)]) hx hb dX0_stepsUntilDue_17 rfl hl (by decide) rfl (fun ls hl => ?_)
  refine lv_aload_n hx hb dX0_stepsUntilDue_18 rfl (lv_at hl 1 rfl) ?_
  refine lv_aload_n hx hb dX0_stepsUntilDue_19 rfl (lv_at hl 1 rfl) ?_
  refine va_get (D := D) (ci := 0) (v := .int (lStn L)) (C := RX0) (T := TX0) (N := 13) hx hb hts hinX0 hown hK hP 0 rfl rfl 10 (by decide) hf46 (fun _ h9 => h9) rfl dX0_stepsUntilDue_20 ?_
  refine lv_aload_n hx hb dX0_stepsUntilDue_23 rfl (lv_at hl 1 rfl) ?_
  refine va_get (D := D) (ci := 0) (v := .ref (q + 7)) (C := RX0) (T := TX0) (N := 13) hx hb hts hinX0 hown hK hP 0 rfl rfl 6 (by decide) hf30 (fun _ h9 => h9) rfl dX0_stepsUntilDue_24 ?_
  refine lv_iload_n hx hb dX0_stepsUntilDue_27 rfl (lv_at hl 2 rfl) ?_
  refine g_iald (f := (lSp L)) (k := p0.toNatClampNeg) hx hb hK hP 7 0 rfl rfl hg1 rfl dX0_stepsUntilDue_28 ?_
  obtain ⟨r29, hr29, h⟩ := bd_some h
  refine gc_ri (As := [.int (lStn L), .int ((lSp L) p0.toNatClampNeg)]) (rest := []) ⟨hx, hb, hml, hown, hts⟩ hK (kX0_slotsOn l D cI cC cZ cQ cJ q L (lStn L) ((lSp L) p0.toNatClampNeg) hr29) (cwV 2 hts gX0_stepsUntilDue_X0_slotsOn rfl rfl rfl (by decide +kernel) ⟨Nat.le_of_ble_eq_true rfl, Nat.le_of_ble_eq_true rfl⟩) (va_recv hK hP (ci := 0) (q0 := 0) rfl rfl) hP rfl hl.1 rfl (Nat.le_of_ble_eq_true rfl) ⟨Nat.zero_le _, Nat.zero_le _⟩ dX0_stepsUntilDue_29 ?_
  refine lv_iload_n hx hb dX0_stepsUntilDue_32 rfl (lv_at hl 0 rfl) ?_
  refine lv_iconst (v := 1) hx hb dX0_stepsUntilDue_33 (by decide) ?_
  refine lv_isub hx hb dX0_stepsUntilDue_34 ?_
  refine lv_aload_n hx hb dX0_stepsUntilDue_35 rfl (lv_at hl 1 rfl) ?_
  refine va_get (D := D) (ci := 0) (v := .int (lN_ L)) (C := RX0) (T := TX0) (N := 13) hx hb hts hinX0 hown hK hP 0 rfl rfl 9 (by decide) hf42 (fun _ h9 => h9) rfl dX0_stepsUntilDue_36 ?_
  refine lv_imul hx hb dX0_stepsUntilDue_39 ?_
  refine lv_iadd hx hb dX0_stepsUntilDue_40 ?_
  have h := Option.some.inj h
  exact W.iret (v := (r29 + (((if 1 < (((lLi L) 0) - ((lCy L) p0.toNatClampNeg)) then (((lLi L) 0) - ((lCy L) p0.toNatClampNeg)) else 1) - 1) * (lN_ L)))) hx hb hr (fun t ht hW => ⟨_, rfl, h, ht⟩) t_nil dX0_stepsUntilDue_41
set_option maxHeartbeats 4000000 in
set_option maxRecDepth 100000 in
theorem kX0_isGrouped (l : Launch) (D : va_G) (cI cC cZ cQ cJ : ClassId) (q : Nat) (L : LSt) (p0 : Int32) {R : Int32} (h : fX0_isGrouped L p0 = some R) : Met l yX0_isGrouped wsX0_isGrouped ({ frames := 0, cells := 0, slots := 0, locals := 0 } : Room) (va_Pc [.ref q, .int p0] (gB D (gTy cI cC cZ cQ cJ) (va_P D vwCl (LW cI q L)))) (vp_Si (fun r => r = R)) 0 0 (fun _ => False) := by
  refine Met.ofW (cc := cX0_isGrouped) (maxL := 2) (ret := (some .boolean)) (by decide) rfl ?_
  intro p e s m args below meth c s₁ B hml hv
  obtain ⟨rfl, hP, hK⟩ := hv
  have hx := B.exec
  have hb := B.bytes
  have hr := B.returns
  have hts := atoms_spec (ws := wsX0_isGrouped) B.pre
  have hown : s.vm.findClass RX0 = some m.cls := findClass_of_methodNamed B.named
  have hlocks := B.notSynchronized
  have hinX0 : ∀ w ∈ wsX00, w ∈ wsX0_isGrouped := by decide +kernel
  have hf27 := hts (.fieldLink RX0 27 "GripInspector$Lift" "place" "[I") (by decide +kernel)
  generalize hRM : (headSpec wsX0_isGrouped ({ frames := 0, cells := 0, slots := 0, locals := 0 } : Room)).room = RM
  replace hRM : ({ frames := 0, cells := 0, slots := 0, locals := 0 } : Room) = RM := hRM
  subst hRM
  have hl := lv_entry ([.ref q, .int p0]) (n := 2) (Nat.le_of_ble_eq_true rfl)
  rw [lg_entry_eq]
  generalize (lg_sl ([.ref q, .int p0]) ++ List.replicate (2 - (lg_sl ([.ref q, .int p0])).length) Slot.unset).toArray = ls at hl ⊢
  have hl : lv_has ls 2 [(0, .ref q), (1, .int p0)] := hl
  unfold fX0_isGrouped at h
  refine lv_aload_n hx hb dX0_isGrouped_0 rfl (lv_at hl 0 rfl) ?_
  refine va_get (D := D) (ci := 0) (v := .ref (q + 6)) (C := RX0) (T := TX0) (N := 13) hx hb hts hinX0 hown hK hP 0 rfl rfl 5 (by decide) hf27 (fun _ h9 => h9) rfl dX0_isGrouped_1 ?_
  refine lv_iload_n hx hb dX0_isGrouped_4 rfl (lv_at hl 1 rfl) ?_
  obtain ⟨hg1, h⟩ := gd_some h
  refine g_iald (f := (lPl L)) (k := p0.toNatClampNeg) hx hb hK hP 6 0 rfl rfl hg1 rfl dX0_isGrouped_5 ?_
  refine lv_iconst (v := (-1)) hx hb dX0_isGrouped_6 (by decide) ?_
  refine lv_icmp_eq (tgt := 24) hx hb dX0_isGrouped_7 (by decide) (fun c2 => ?_) (fun c2 => ?_)
  · replace h := (if_pos c2).symm.trans h
    refine lv_iconst (v := 0) hx hb dX0_isGrouped_24 (by decide) ?_
    have h := Option.some.inj h
    exact W.zret (v := 0) hx hb hr rfl (fun t ht hW => ⟨_, rfl, h, ht⟩) t_nil dX0_isGrouped_25
  · replace h := (if_neg c2).symm.trans h
    refine lv_aload_n hx hb dX0_isGrouped_10 rfl (lv_at hl 0 rfl) ?_
    refine va_get (D := D) (ci := 0) (v := .ref (q + 6)) (C := RX0) (T := TX0) (N := 13) hx hb hts hinX0 hown hK hP 0 rfl rfl 5 (by decide) hf27 (fun _ h9 => h9) rfl dX0_isGrouped_11 ?_
    refine lv_iload_n hx hb dX0_isGrouped_14 rfl (lv_at hl 1 rfl) ?_
    refine g_iald (f := (lPl L)) (k := p0.toNatClampNeg) hx hb hK hP 6 0 rfl rfl hg1 rfl dX0_isGrouped_15 ?_
    refine lv_iconst (v := 3) hx hb dX0_isGrouped_16 (by decide) ?_
    refine lv_icmp_eq (tgt := 24) hx hb dX0_isGrouped_17 (by decide) (fun c3 => ?_) (fun c3 => ?_)
    · replace h := (if_pos c3).symm.trans h
      refine lv_iconst (v := 0) hx hb dX0_isGrouped_24 (by decide) ?_
      have h := Option.some.inj h
      exact W.zret (v := 0) hx hb hr rfl (fun t ht hW => ⟨_, rfl, h, ht⟩) t_nil dX0_isGrouped_25
    · replace h := (if_neg c3).symm.trans h
      refine lv_iconst (v := 1) hx hb dX0_isGrouped_20 (by decide) ?_
      refine lv_goto (tgt := 25) hx hb dX0_isGrouped_21 (by decide) ?_
      have h := Option.some.inj h
      exact W.zret (v := 1) hx hb hr rfl (fun t ht hW => ⟨_, rfl, h, ht⟩) t_nil dX0_isGrouped_25
set_option maxHeartbeats 4000000 in
set_option maxRecDepth 100000 in
theorem kX0_areTogether (l : Launch) (D : va_G) (cI cC cZ cQ cJ : ClassId) (q : Nat) (L : LSt) (p0 : Int32) (p1 : Int32) {R : Int32} (h : fX0_areTogether L p0 p1 = some R) : Met l yX0_areTogether wsX0_areTogether ({ frames := 1, cells := 0, slots := 0, locals := 21 } : Room) (va_Pc [.ref q, .int p0, .int p1] (gB D (gTy cI cC cZ cQ cJ) (va_P D vwCl (LW cI q L)))) (vp_Si (fun r => r = R)) 0 0 (fun _ => False) := by
  refine Met.ofW (cc := cX0_areTogether) (maxL := 4) (ret := (some .boolean)) (by decide) rfl ?_
  intro p e s m args below meth c s₁ B hml hv
  obtain ⟨rfl, hP, hK⟩ := hv
  have hx := B.exec
  have hb := B.bytes
  have hr := B.returns
  have hts := atoms_spec (ws := wsX0_areTogether) B.pre
  have hown : s.vm.findClass RX0 = some m.cls := findClass_of_methodNamed B.named
  have hlocks := B.notSynchronized
  have hinX0 : ∀ w ∈ wsX00, w ∈ wsX0_areTogether := by decide +kernel
  have hf9 := hts (.fieldLink RX0 9 "GripInspector$Lift" "weight" "[I") (by decide +kernel)
  have hf15 := hts (.fieldLink RX0 15 "GripInspector$Lift" "cycles" "[I") (by decide +kernel)
  generalize hRM : (headSpec wsX0_areTogether ({ frames := 1, cells := 0, slots := 0, locals := 21 } : Room)).room = RM
  replace hRM : ({ frames := 1, cells := 0, slots := 0, locals := 21 } : Room) = RM := hRM
  subst hRM
  have hl := lv_entry ([.ref q, .int p0, .int p1]) (n := 4) (Nat.le_of_ble_eq_true rfl)
  rw [lg_entry_eq]
  generalize (lg_sl ([.ref q, .int p0, .int p1]) ++ List.replicate (4 - (lg_sl ([.ref q, .int p0, .int p1])).length) Slot.unset).toArray = ls at hl ⊢
  have hl : lv_has ls 4 [(0, .ref q), (1, .int p0), (2, .int p1)] := hl
  unfold fX0_areTogether at h
  refine lv_aload_n hx hb dX0_areTogether_0 rfl (lv_at hl 0 rfl) ?_
  refine va_get (D := D) (ci := 0) (v := .ref (q + 1)) (C := RX0) (T := TX0) (N := 13) hx hb hts hinX0 hown hK hP 0 rfl rfl 0 (by decide) hf9 (fun _ h9 => h9) rfl dX0_areTogether_1 ?_
  refine lv_iload_n hx hb dX0_areTogether_4 rfl (lv_at hl 1 rfl) ?_
  obtain ⟨hg1, h⟩ := gd_some h
  refine g_iald (f := (lWe L)) (k := p0.toNatClampNeg) hx hb hK hP 1 0 rfl rfl hg1 rfl dX0_areTogether_5 ?_
  refine lv_aload_n hx hb dX0_areTogether_6 rfl (lv_at hl 0 rfl) ?_
  refine va_get (D := D) (ci := 0) (v := .ref (q + 1)) (C := RX0) (T := TX0) (N := 13) hx hb hts hinX0 hown hK hP 0 rfl rfl 0 (by decide) hf9 (fun _ h9 => h9) rfl dX0_areTogether_7 ?_
  refine lv_iload_n hx hb dX0_areTogether_10 rfl (lv_at hl 2 rfl) ?_
  obtain ⟨hg2, h⟩ := gd_some h
  refine g_iald (f := (lWe L)) (k := p1.toNatClampNeg) hx hb hK hP 1 0 rfl rfl hg2 rfl dX0_areTogether_11 ?_
  refine lv_icmp_ne (tgt := 40) hx hb dX0_areTogether_12 (by decide) (fun c3 => ?_) (fun c3 => ?_)
  · replace h := (if_neg c3).symm.trans h
    refine lv_iconst (v := 0) hx hb dX0_areTogether_40 (by decide) ?_
    refine lv_istore_n (lv' := [(3, .int 0), (0, .ref q), (1, .int p0), (2, .int p1)]) hx hb dX0_areTogether_41 rfl hl (by decide) rfl (fun ls hl => ?_)
    refine lv_iload_n hx hb dX0_areTogether_42 rfl (lv_at hl 0 rfl) ?_
    refine lv_if_eq (tgt := 66) hx hb dX0_areTogether_43 (by decide) (fun _ => ?_) (fun c => absurd c (by decide))
    refine lv_iconst (v := 0) hx hb dX0_areTogether_66 (by decide) ?_
    have h := Option.some.inj h
    exact W.zret (v := 0) hx hb hr rfl (fun t ht hW => ⟨_, rfl, h, ht⟩) t_nil dX0_areTogether_67
  · replace h := (if_pos c3).symm.trans h
    refine lv_aload_n hx hb dX0_areTogether_15 rfl (lv_at hl 0 rfl) ?_
    refine va_get (D := D) (ci := 0) (v := .ref (q + 2)) (C := RX0) (T := TX0) (N := 13) hx hb hts hinX0 hown hK hP 0 rfl rfl 1 (by decide) hf15 (fun _ h9 => h9) rfl dX0_areTogether_16 ?_
    refine lv_iload_n hx hb dX0_areTogether_19 rfl (lv_at hl 1 rfl) ?_
    refine g_iald (f := (lCy L)) (k := p0.toNatClampNeg) hx hb hK hP 2 0 rfl rfl hg1 rfl dX0_areTogether_20 ?_
    refine lv_bipush (v := 10) hx hb dX0_areTogether_21 (by decide) ?_
    refine lv_idiv hx hb dX0_areTogether_23 (by decide) ?_
    refine lv_aload_n hx hb dX0_areTogether_24 rfl (lv_at hl 0 rfl) ?_
    refine va_get (D := D) (ci := 0) (v := .ref (q + 2)) (C := RX0) (T := TX0) (N := 13) hx hb hts hinX0 hown hK hP 0 rfl rfl 1 (by decide) hf15 (fun _ h9 => h9) rfl dX0_areTogether_25 ?_
    refine lv_iload_n hx hb dX0_areTogether_28 rfl (lv_at hl 2 rfl) ?_
    refine g_iald (f := (lCy L)) (k := p1.toNatClampNeg) hx hb hK hP 2 0 rfl rfl hg2 rfl dX0_areTogether_29 ?_
    refine lv_bipush (v := 10) hx hb dX0_areTogether_30 (by decide) ?_
    refine lv_idiv hx hb dX0_areTogether_32 (by decide) ?_
    refine lv_icmp_ne (tgt := 40) hx hb dX0_areTogether_33 (by decide) (fun c4 => ?_) (fun c4 => ?_)
    · replace h := (if_neg c4).symm.trans h
      refine lv_iconst (v := 0) hx hb dX0_areTogether_40 (by decide) ?_
      refine lv_istore_n (lv' := [(3, .int 0), (0, .ref q), (1, .int p0), (2, .int p1)]) hx hb dX0_areTogether_41 rfl hl (by decide) rfl (fun ls hl => ?_)
      refine lv_iload_n hx hb dX0_areTogether_42 rfl (lv_at hl 0 rfl) ?_
      refine lv_if_eq (tgt := 66) hx hb dX0_areTogether_43 (by decide) (fun _ => ?_) (fun c => absurd c (by decide))
      refine lv_iconst (v := 0) hx hb dX0_areTogether_66 (by decide) ?_
      have h := Option.some.inj h
      exact W.zret (v := 0) hx hb hr rfl (fun t ht hW => ⟨_, rfl, h, ht⟩) t_nil dX0_areTogether_67
    · replace h := (if_pos c4).symm.trans h
      refine lv_iconst (v := 1) hx hb dX0_areTogether_36 (by decide) ?_
      refine lv_goto (tgt := 41) hx hb dX0_areTogether_37 (by decide) ?_
      refine lv_istore_n (lv' := [(3, .int 1), (0, .ref q), (1, .int p0), (2, .int p1)]) hx hb dX0_areTogether_41 rfl hl (by decide) rfl (fun ls hl => ?_)
      refine lv_iload_n hx hb dX0_areTogether_42 rfl (lv_at hl 0 rfl) ?_
      refine lv_if_eq (tgt := 66) hx hb dX0_areTogether_43 (by decide) (fun c => absurd c (by decide)) (fun _ => ?_)
      refine lv_aload_n hx hb dX0_areTogether_46 rfl (lv_at hl 1 rfl) ?_
      refine lv_iload_n hx hb dX0_areTogether_47 rfl (lv_at hl 2 rfl) ?_
      obtain ⟨r48, hr48, h⟩ := bd_some h
      refine gc_ri (As := [.int p0]) (rest := []) ⟨hx, hb, hml, hown, hts⟩ hK (kX0_isGrouped l D cI cC cZ cQ cJ q L p0 hr48) (cwV 1 hts gX0_areTogether_X0_isGrouped rfl rfl rfl (by decide +kernel) ⟨Nat.le_of_ble_eq_true rfl, Nat.le_of_ble_eq_true rfl⟩) (va_recv hK hP (ci := 0) (q0 := 0) rfl rfl) hP rfl hl.1 rfl (Nat.le_of_ble_eq_true rfl) ⟨Nat.zero_le _, Nat.zero_le _⟩ dX0_areTogether_48 ?_
      refine lv_if_eq (tgt := 66) hx hb dX0_areTogether_51 (by decide) (fun c5 => ?_) (fun c5 => ?_)
      · replace h := (if_pos c5).symm.trans h
        refine lv_iconst (v := 0) hx hb dX0_areTogether_66 (by decide) ?_
        have h := Option.some.inj h
        exact W.zret (v := 0) hx hb hr rfl (fun t ht hW => ⟨_, rfl, h, ht⟩) t_nil dX0_areTogether_67
      · replace h := (if_neg c5).symm.trans h
        refine lv_aload_n hx hb dX0_areTogether_54 rfl (lv_at hl 1 rfl) ?_
        refine lv_iload_n hx hb dX0_areTogether_55 rfl (lv_at hl 3 rfl) ?_
        obtain ⟨r56, hr56, h⟩ := bd_some h
        refine gc_ri (As := [.int p1]) (rest := []) ⟨hx, hb, hml, hown, hts⟩ hK (kX0_isGrouped l D cI cC cZ cQ cJ q L p1 hr56) (cwV 1 hts gX0_areTogether_X0_isGrouped rfl rfl rfl (by decide +kernel) ⟨Nat.le_of_ble_eq_true rfl, Nat.le_of_ble_eq_true rfl⟩) (va_recv hK hP (ci := 0) (q0 := 0) rfl rfl) hP rfl hl.1 rfl (Nat.le_of_ble_eq_true rfl) ⟨Nat.zero_le _, Nat.zero_le _⟩ dX0_areTogether_56 ?_
        refine lv_if_eq (tgt := 66) hx hb dX0_areTogether_59 (by decide) (fun c6 => ?_) (fun c6 => ?_)
        · replace h := (if_pos c6).symm.trans h
          refine lv_iconst (v := 0) hx hb dX0_areTogether_66 (by decide) ?_
          have h := Option.some.inj h
          exact W.zret (v := 0) hx hb hr rfl (fun t ht hW => ⟨_, rfl, h, ht⟩) t_nil dX0_areTogether_67
        · replace h := (if_neg c6).symm.trans h
          refine lv_iconst (v := 1) hx hb dX0_areTogether_62 (by decide) ?_
          refine lv_goto (tgt := 67) hx hb dX0_areTogether_63 (by decide) ?_
          have h := Option.some.inj h
          exact W.zret (v := 1) hx hb hr rfl (fun t ht hW => ⟨_, rfl, h, ht⟩) t_nil dX0_areTogether_67
set_option maxHeartbeats 4000000 in
set_option maxRecDepth 100000 in
theorem kX0_opensGroup (l : Launch) (D : va_G) (cI cC cZ cQ cJ : ClassId) (q : Nat) (L : LSt) (p0 : Int32) {R : Int32} (h : fX0_opensGroup L p0 = some R) : Met l yX0_opensGroup wsX0_opensGroup ({ frames := 2, cells := 0, slots := 0, locals := 44 } : Room) (va_Pc [.ref q, .int p0] (gB D (gTy cI cC cZ cQ cJ) (va_P D vwCl (LW cI q L)))) (vp_Si (fun r => r = R)) 0 0 (fun _ => False) := by
  refine Met.ofW (cc := cX0_opensGroup) (maxL := 3) (ret := (some .boolean)) (by decide) rfl ?_
  intro p e s m args below meth c s₁ B hml hv
  obtain ⟨rfl, hP, hK⟩ := hv
  have hx := B.exec
  have hb := B.bytes
  have hr := B.returns
  have hts := atoms_spec (ws := wsX0_opensGroup) B.pre
  have hown : s.vm.findClass RX0 = some m.cls := findClass_of_methodNamed B.named
  have hlocks := B.notSynchronized
  generalize hRM : (headSpec wsX0_opensGroup ({ frames := 2, cells := 0, slots := 0, locals := 44 } : Room)).room = RM
  replace hRM : ({ frames := 2, cells := 0, slots := 0, locals := 44 } : Room) = RM := hRM
  subst hRM
  have hl := lv_entry ([.ref q, .int p0]) (n := 3) (Nat.le_of_ble_eq_true rfl)
  rw [lg_entry_eq]
  generalize (lg_sl ([.ref q, .int p0]) ++ List.replicate (3 - (lg_sl ([.ref q, .int p0])).length) Slot.unset).toArray = ls at hl ⊢
  have hl : lv_has ls 3 [(0, .ref q), (1, .int p0)] := hl
  have LP2 : ∀ (n : Nat) (x1 : Int32) (x2 : Int32) (ls : Array Slot), fX0_opensGroup_L2 L n x1 x2 = some R → lv_has ls 3 [(0, .ref q), (1, .int x1), (2, .int x2)] → W p l e ({ frames := 2, cells := 0, slots := 0, locals := 44 } : Room) s m ([.ref q, .int p0] : List Value).toArray below meth c s.heap [] 0 0 (MQ below (vp_Si (fun r => r = R)) ([.ref q, .int p0] : List Value).toArray s 0 0 (fun _ => False)) (F0 m 2 ls []) := by
    intro n
    induction n with
    | zero => intro x1 x2 ls h hl; exact no_some h
    | succ n ih =>
      intro x1 x2 ls h hl
      rw [fX0_opensGroup_L2] at h
      refine lv_iload_n hx hb dX0_opensGroup_2 rfl (lv_at hl 2 rfl) ?_
      refine lv_iload_n hx hb dX0_opensGroup_3 rfl (lv_at hl 1 rfl) ?_
      refine lv_icmp_ge (tgt := 24) hx hb dX0_opensGroup_4 (by decide) (fun c1 => ?_) (fun c1 => ?_)
      · replace h := (if_pos c1).symm.trans h
        refine lv_aload_n hx hb dX0_opensGroup_24 rfl (lv_at hl 0 rfl) ?_
        refine lv_iload_n hx hb dX0_opensGroup_25 rfl (lv_at hl 1 rfl) ?_
        obtain ⟨r26, hr26, h⟩ := bd_some h
        refine gc_ri (As := [.int x1]) (rest := []) ⟨hx, hb, hml, hown, hts⟩ hK (kX0_isGrouped l D cI cC cZ cQ cJ q L x1 hr26) (cwV 1 hts gX0_opensGroup_X0_isGrouped rfl rfl rfl (by decide +kernel) ⟨Nat.le_of_ble_eq_true rfl, Nat.le_of_ble_eq_true rfl⟩) (va_recv hK hP (ci := 0) (q0 := 0) rfl rfl) hP rfl hl.1 rfl (Nat.le_of_ble_eq_true rfl) ⟨Nat.zero_le _, Nat.zero_le _⟩ dX0_opensGroup_26 ?_
        obtain ⟨hz2, h⟩ := gz_some h
        have h := Option.some.inj h
        exact W.zret (v := r26) hx hb hr hz2 (fun t ht hW => ⟨_, rfl, h, ht⟩) t_nil dX0_opensGroup_29
      · replace h := (if_neg c1).symm.trans h
        refine lv_aload_n hx hb dX0_opensGroup_7 rfl (lv_at hl 0 rfl) ?_
        refine lv_iload_n hx hb dX0_opensGroup_8 rfl (lv_at hl 1 rfl) ?_
        refine lv_iload_n hx hb dX0_opensGroup_9 rfl (lv_at hl 2 rfl) ?_
        obtain ⟨r10, hr10, h⟩ := bd_some h
        refine gc_ri (As := [.int x1, .int x2]) (rest := []) ⟨hx, hb, hml, hown, hts⟩ hK (kX0_areTogether l D cI cC cZ cQ cJ q L x1 x2 hr10) (cwV 2 hts gX0_opensGroup_X0_areTogether rfl rfl rfl (by decide +kernel) ⟨Nat.le_of_ble_eq_true rfl, Nat.le_of_ble_eq_true rfl⟩) (va_recv hK hP (ci := 0) (q0 := 0) rfl rfl) hP rfl hl.1 rfl (Nat.le_of_ble_eq_true rfl) ⟨Nat.zero_le _, Nat.zero_le _⟩ dX0_opensGroup_10 ?_
        refine lv_if_eq (tgt := 18) hx hb dX0_opensGroup_13 (by decide) (fun c3 => ?_) (fun c3 => ?_)
        · replace h := (if_pos c3).symm.trans h
          refine lv_iinc (v := (x2 + 1)) (lv' := [(2, .int (x2 + 1)), (0, .ref q), (1, .int x1)]) hx hb dX0_opensGroup_18 hl (k := 2) rfl rfl (by decide) rfl (fun ls hl => ?_)
          refine lv_goto (tgt := 2) hx hb dX0_opensGroup_21 (by decide) ?_
          exact ih x1 (x2 + 1) ls h (lv_sub hl [1, 2, 0] rfl)
        · replace h := (if_neg c3).symm.trans h
          refine lv_iconst (v := 0) hx hb dX0_opensGroup_16 (by decide) ?_
          have h := Option.some.inj h
          exact W.zret (v := 0) hx hb hr rfl (fun t ht hW => ⟨_, rfl, h, ht⟩) t_nil dX0_opensGroup_17
  unfold fX0_opensGroup at h
  refine lv_iconst (v := 0) hx hb dX0_opensGroup_0 (by decide) ?_
  refine lv_istore_n (lv' := [(2, .int 0), (0, .ref q), (1, .int p0)]) hx hb dX0_opensGroup_1 rfl hl (by decide) rfl (fun ls hl => ?_)
  exact LP2 KF p0 0 ls h (lv_sub hl [1, 2, 0] rfl)
set_option maxHeartbeats 4000000 in
set_option maxRecDepth 100000 in
theorem kX0_groupSize (l : Launch) (D : va_G) (cI cC cZ cQ cJ : ClassId) (q : Nat) (L : LSt) (p0 : Int32) {R : Int32} (h : fX0_groupSize L p0 = some R) : Met l yX0_groupSize wsX0_groupSize ({ frames := 2, cells := 0, slots := 0, locals := 44 } : Room) (va_Pc [.ref q, .int p0] (gB D (gTy cI cC cZ cQ cJ) (va_P D vwCl (LW cI q L)))) (vp_Si (fun r => r = R)) 0 0 (fun _ => False) := by
  refine Met.ofW (cc := cX0_groupSize) (maxL := 4) (ret := (some .int)) (by decide) rfl ?_
  intro p e s m args below meth c s₁ B hml hv
  obtain ⟨rfl, hP, hK⟩ := hv
  have hx := B.exec
  have hb := B.bytes
  have hr := B.returns
  have hts := atoms_spec (ws := wsX0_groupSize) B.pre
  have hown : s.vm.findClass RX0 = some m.cls := findClass_of_methodNamed B.named
  have hlocks := B.notSynchronized
  generalize hRM : (headSpec wsX0_groupSize ({ frames := 2, cells := 0, slots := 0, locals := 44 } : Room)).room = RM
  replace hRM : ({ frames := 2, cells := 0, slots := 0, locals := 44 } : Room) = RM := hRM
  subst hRM
  have hl := lv_entry ([.ref q, .int p0]) (n := 4) (Nat.le_of_ble_eq_true rfl)
  rw [lg_entry_eq]
  generalize (lg_sl ([.ref q, .int p0]) ++ List.replicate (4 - (lg_sl ([.ref q, .int p0])).length) Slot.unset).toArray = ls at hl ⊢
  have hl : lv_has ls 4 [(0, .ref q), (1, .int p0)] := hl
  have LP4 : ∀ (n : Nat) (x1 : Int32) (x2 : Int32) (x3 : Int32) (ls : Array Slot), fX0_groupSize_L4 L n x1 x2 x3 = some R → lv_has ls 4 [(0, .ref q), (1, .int x1), (2, .int x2), (3, .int x3)] → W p l e ({ frames := 2, cells := 0, slots := 0, locals := 44 } : Room) s m ([.ref q, .int p0] : List Value).toArray below meth c s.heap [] 0 0 (MQ below (vp_Si (fun r => r = R)) ([.ref q, .int p0] : List Value).toArray s 0 0 (fun _ => False)) (F0 m 4 ls []) := by
    intro n
    induction n with
    | zero => intro x1 x2 x3 ls h hl; exact no_some h
    | succ n ih =>
      intro x1 x2 x3 ls h hl
      rw [fX0_groupSize_L4] at h
      refine lv_iload_n hx hb dX0_groupSize_4 rfl (lv_at hl 3 rfl) ?_
      refine lv_bipush (v := 12) hx hb dX0_groupSize_5 (by decide) ?_
      refine lv_icmp_ge (tgt := 28) hx hb dX0_groupSize_7 (by decide) (fun c1 => ?_) (fun c1 => ?_)
      · replace h := (if_pos c1).symm.trans h
        refine lv_iload_n hx hb dX0_groupSize_28 rfl (lv_at hl 2 rfl) ?_
        have h := Option.some.inj h
        exact W.iret (v := x2) hx hb hr (fun t ht hW => ⟨_, rfl, h, ht⟩) t_nil dX0_groupSize_29
      · replace h := (if_neg c1).symm.trans h
        refine lv_aload_n hx hb dX0_groupSize_10 rfl (lv_at hl 0 rfl) ?_
        refine lv_iload_n hx hb dX0_groupSize_11 rfl (lv_at hl 1 rfl) ?_
        refine lv_iload_n hx hb dX0_groupSize_12 rfl (lv_at hl 3 rfl) ?_
        obtain ⟨r13, hr13, h⟩ := bd_some h
        refine gc_ri (As := [.int x1, .int x3]) (rest := []) ⟨hx, hb, hml, hown, hts⟩ hK (kX0_areTogether l D cI cC cZ cQ cJ q L x1 x3 hr13) (cwV 2 hts gX0_groupSize_X0_areTogether rfl rfl rfl (by decide +kernel) ⟨Nat.le_of_ble_eq_true rfl, Nat.le_of_ble_eq_true rfl⟩) (va_recv hK hP (ci := 0) (q0 := 0) rfl rfl) hP rfl hl.1 rfl (Nat.le_of_ble_eq_true rfl) ⟨Nat.zero_le _, Nat.zero_le _⟩ dX0_groupSize_13 ?_
        refine lv_if_eq (tgt := 22) hx hb dX0_groupSize_16 (by decide) (fun c2 => ?_) (fun c2 => ?_)
        · replace h := (if_pos c2).symm.trans h
          refine lv_iinc (v := (x3 + 1)) (lv' := [(3, .int (x3 + 1)), (0, .ref q), (1, .int x1), (2, .int x2)]) hx hb dX0_groupSize_22 hl (k := 3) rfl rfl (by decide) rfl (fun ls hl => ?_)
          refine lv_goto (tgt := 4) hx hb dX0_groupSize_25 (by decide) ?_
          exact ih x1 x2 (x3 + 1) ls h (lv_sub hl [1, 2, 3, 0] rfl)
        · replace h := (if_neg c2).symm.trans h
          refine lv_iinc (v := (x2 + 1)) (lv' := [(2, .int (x2 + 1)), (0, .ref q), (1, .int x1), (3, .int x3)]) hx hb dX0_groupSize_19 hl (k := 2) rfl rfl (by decide) rfl (fun ls hl => ?_)
          refine lv_iinc (v := (x3 + 1)) (lv' := [(3, .int (x3 + 1)), (2, .int (x2 + 1)), (0, .ref q), (1, .int x1)]) hx hb dX0_groupSize_22 hl (k := 3) rfl rfl (by decide) rfl (fun ls hl => ?_)
          refine lv_goto (tgt := 4) hx hb dX0_groupSize_25 (by decide) ?_
          exact ih x1 (x2 + 1) (x3 + 1) ls h (lv_sub hl [2, 3, 1, 0] rfl)
  unfold fX0_groupSize at h
  refine lv_iconst (v := 0) hx hb dX0_groupSize_0 (by decide) ?_
  refine lv_istore_n (lv' := [(2, .int 0), (0, .ref q), (1, .int p0)]) hx hb dX0_groupSize_1 rfl hl (by decide) rfl (fun ls hl => ?_)
  refine lv_iconst (v := 0) hx hb dX0_groupSize_2 (by decide) ?_
  refine lv_istore_n (lv' := [(3, .int 0), (2, .int 0), (0, .ref q), (1, .int p0)]) hx hb dX0_groupSize_3 rfl hl (by decide) rfl (fun ls hl => ?_)
  exact LP4 KF p0 0 0 ls h (lv_sub hl [2, 3, 1, 0] rfl)
set_option maxHeartbeats 4000000 in
set_option maxRecDepth 100000 in
theorem kX0_become (l : Launch) (D : va_G) (cI cC cZ cQ cJ : ClassId) (q : Nat) (z : Nat) (X : LSt × LSt) (hd : q + 10 ≤ z ∨ z + 10 ≤ q) {R : (LSt × LSt)} (h : fX0_become X = some R) : Met l yX0_become wsX0_become ({ frames := 1, cells := 0, slots := 0, locals := 40 } : Room) (va_Pc [.ref q, .ref z] (gB D (gTy cI cC cZ cQ cJ) (va_P D vwCl (LLW cI q z X)))) (va_Qv (fun _ : Unit => True) (fun _ t => va_P D vwCl (LLW cI q z R) t.heap) (gOr (fIv q 10) (fIv z 10))) 0 0 (gOr (fIv q 10) (fIv z 10)) := by
  refine Met.ofW (cc := cX0_become) (maxL := 2) (ret := none) (by decide) rfl ?_
  intro p e s m args below meth c s₁ B hml hv
  obtain ⟨rfl, hP, hK⟩ := hv
  have hx := B.exec
  have hb := B.bytes
  have hr := B.returns
  have hts := atoms_spec (ws := wsX0_become) B.pre
  have hown : s.vm.findClass RX0 = some m.cls := findClass_of_methodNamed B.named
  have hlocks := B.notSynchronized
  have hinX0 : ∀ w ∈ wsX00, w ∈ wsX0_become := by decide +kernel
  have hf9 := hts (.fieldLink RX0 9 "GripInspector$Lift" "weight" "[I") (by decide +kernel)
  have hf15 := hts (.fieldLink RX0 15 "GripInspector$Lift" "cycles" "[I") (by decide +kernel)
  have hf18 := hts (.fieldLink RX0 18 "GripInspector$Lift" "wear" "[I") (by decide +kernel)
  have hf21 := hts (.fieldLink RX0 21 "GripInspector$Lift" "pulls" "[I") (by decide +kernel)
  have hf24 := hts (.fieldLink RX0 24 "GripInspector$Lift" "lastSlip" "[I") (by decide +kernel)
  have hf27 := hts (.fieldLink RX0 27 "GripInspector$Lift" "place" "[I") (by decide +kernel)
  have hf30 := hts (.fieldLink RX0 30 "GripInspector$Lift" "spot" "[I") (by decide +kernel)
  have hf33 := hts (.fieldLink RX0 33 "GripInspector$Lift" "stepsLeft" "[I") (by decide +kernel)
  have hf36 := hts (.fieldLink RX0 36 "GripInspector$Lift" "limits" "[I") (by decide +kernel)
  have hf42 := hts (.fieldLink RX0 42 "GripInspector$Lift" "n" "I") (by decide +kernel)
  have hf46 := hts (.fieldLink RX0 46 "GripInspector$Lift" "station" "I") (by decide +kernel)
  have hf49 := hts (.fieldLink RX0 49 "GripInspector$Lift" "clock" "I") (by decide +kernel)
  have hf52 := hts (.fieldLink RX0 52 "GripInspector$Lift" "randomState" "J") (by decide +kernel)
  generalize hRM : (headSpec wsX0_become ({ frames := 1, cells := 0, slots := 0, locals := 40 } : Room)).room = RM
  replace hRM : ({ frames := 1, cells := 0, slots := 0, locals := 40 } : Room) = RM := hRM
  subst hRM
  have hl := lv_entry ([.ref q, .ref z]) (n := 2) (Nat.le_of_ble_eq_true rfl)
  rw [lg_entry_eq]
  generalize (lg_sl ([.ref q, .ref z]) ++ List.replicate (2 - (lg_sl ([.ref q, .ref z])).length) Slot.unset).toArray = ls at hl ⊢
  have hl : lv_has ls 2 [(0, .ref q), (1, .ref z)] := hl
  have hS : va_S (gOr (fIv q 10) (fIv z 10)) s.heap s.heap [] := va_S.rf
  unfold fX0_become at h
  obtain ⟨H, hH⟩ : ∃ H, H = s.heap := ⟨_, rfl⟩
  obtain ⟨locs, hlo⟩ : ∃ z : List Loc, z = [] := ⟨_, rfl⟩
  have hP : va_P D vwCl (LLW cI q z X) H := by rw [hH]; exact hP
  have hS : va_S (gOr (fIv q 10) (fIv z 10)) s.heap H locs := by rw [hH, hlo]; exact hS
  refine gc_at hH hlo ?_
  refine lv_aload_n hx hb dX0_become_0 rfl (lv_at hl 1 rfl) ?_
  refine va_get (D := D) (ci := 0) (v := .ref (z + 1)) (C := RX0) (T := TX0) (N := 13) hx hb hts hinX0 hown hK hP 10 rfl rfl 0 (by decide) hf9 (fun _ h9 => h9) rfl dX0_become_1 ?_
  refine lv_iconst (v := 0) hx hb dX0_become_4 (by decide) ?_
  refine lv_aload_n hx hb dX0_become_5 rfl (lv_at hl 0 rfl) ?_
  refine va_get (D := D) (ci := 0) (v := .ref (q + 1)) (C := RX0) (T := TX0) (N := 13) hx hb hts hinX0 hown hK hP 0 rfl rfl 0 (by decide) hf9 (fun _ h9 => h9) rfl dX0_become_6 ?_
  refine lv_iconst (v := 0) hx hb dX0_become_9 (by decide) ?_
  refine lv_bipush (v := 12) hx hb dX0_become_10 (by decide) ?_
  refine va_copyi hx hb (hml.trans hl.1.symm) hown (hts (.methodLink RX0 56 arraycopyName) (by decide +kernel)) (hts (.native arraycopyName) (by decide +kernel)) (hts (.static arraycopyName) (by decide +kernel)) (hts (.initialized "java/lang/System") (by decide +kernel)) hK hP (LLW_self hd) hS 11 1 0 0 (f := (lWe (pS X))) (g := (lWe (pF X))) (ty := .int) rfl rfl rfl rfl rfl (by decide) (by decide) (by decide) (by decide) (by decide) (fun _ _ => rfl) (Nat.le_of_ble_eq_true rfl) (Nat.le_of_ble_eq_true rfl) dX0_become_12 (fun H locs hP _ hS => ?_)
  have hP : va_P D vwCl (LLW cI q z (((va_cpy (lWe (pS X)) (lWe (pF X)) 0 0 12), (lCy (pF X)), (lWr (pF X)), (lPu (pF X)), (lSl (pF X)), (lPl (pF X)), (lSp (pF X)), (lSt (pF X)), (lLi (pF X)), (lN_ (pF X)), (lStn (pF X)), (lClk (pF X)), (lRnd (pF X))), (pS X))) H := hP
  refine lv_aload_n hx hb dX0_become_15 rfl (lv_at hl 1 rfl) ?_
  refine va_get (D := D) (ci := 0) (v := .ref (z + 2)) (C := RX0) (T := TX0) (N := 13) hx hb hts hinX0 hown hK hP 10 rfl rfl 1 (by decide) hf15 (fun _ h9 => h9) rfl dX0_become_16 ?_
  refine lv_iconst (v := 0) hx hb dX0_become_19 (by decide) ?_
  refine lv_aload_n hx hb dX0_become_20 rfl (lv_at hl 0 rfl) ?_
  refine va_get (D := D) (ci := 0) (v := .ref (q + 2)) (C := RX0) (T := TX0) (N := 13) hx hb hts hinX0 hown hK hP 0 rfl rfl 1 (by decide) hf15 (fun _ h9 => h9) rfl dX0_become_21 ?_
  refine lv_iconst (v := 0) hx hb dX0_become_24 (by decide) ?_
  refine lv_bipush (v := 12) hx hb dX0_become_25 (by decide) ?_
  refine va_copyi hx hb (hml.trans hl.1.symm) hown (hts (.methodLink RX0 56 arraycopyName) (by decide +kernel)) (hts (.native arraycopyName) (by decide +kernel)) (hts (.static arraycopyName) (by decide +kernel)) (hts (.initialized "java/lang/System") (by decide +kernel)) hK hP (LLW_self hd) hS 12 2 0 0 (f := (lCy (pS X))) (g := (lCy (pF X))) (ty := .int) rfl rfl rfl rfl rfl (by decide) (by decide) (by decide) (by decide) (by decide) (fun _ _ => rfl) (Nat.le_of_ble_eq_true rfl) (Nat.le_of_ble_eq_true rfl) dX0_become_27 (fun H locs hP _ hS => ?_)
  have hP : va_P D vwCl (LLW cI q z (((va_cpy (lWe (pS X)) (lWe (pF X)) 0 0 12), (va_cpy (lCy (pS X)) (lCy (pF X)) 0 0 12), (lWr (pF X)), (lPu (pF X)), (lSl (pF X)), (lPl (pF X)), (lSp (pF X)), (lSt (pF X)), (lLi (pF X)), (lN_ (pF X)), (lStn (pF X)), (lClk (pF X)), (lRnd (pF X))), (pS X))) H := hP
  refine lv_aload_n hx hb dX0_become_30 rfl (lv_at hl 1 rfl) ?_
  refine va_get (D := D) (ci := 0) (v := .ref (z + 3)) (C := RX0) (T := TX0) (N := 13) hx hb hts hinX0 hown hK hP 10 rfl rfl 2 (by decide) hf18 (fun _ h9 => h9) rfl dX0_become_31 ?_
  refine lv_iconst (v := 0) hx hb dX0_become_34 (by decide) ?_
  refine lv_aload_n hx hb dX0_become_35 rfl (lv_at hl 0 rfl) ?_
  refine va_get (D := D) (ci := 0) (v := .ref (q + 3)) (C := RX0) (T := TX0) (N := 13) hx hb hts hinX0 hown hK hP 0 rfl rfl 2 (by decide) hf18 (fun _ h9 => h9) rfl dX0_become_36 ?_
  refine lv_iconst (v := 0) hx hb dX0_become_39 (by decide) ?_
  refine lv_bipush (v := 12) hx hb dX0_become_40 (by decide) ?_
  refine va_copyi hx hb (hml.trans hl.1.symm) hown (hts (.methodLink RX0 56 arraycopyName) (by decide +kernel)) (hts (.native arraycopyName) (by decide +kernel)) (hts (.static arraycopyName) (by decide +kernel)) (hts (.initialized "java/lang/System") (by decide +kernel)) hK hP (LLW_self hd) hS 13 3 0 0 (f := (lWr (pS X))) (g := (lWr (pF X))) (ty := .int) rfl rfl rfl rfl rfl (by decide) (by decide) (by decide) (by decide) (by decide) (fun _ _ => rfl) (Nat.le_of_ble_eq_true rfl) (Nat.le_of_ble_eq_true rfl) dX0_become_42 (fun H locs hP _ hS => ?_)
  have hP : va_P D vwCl (LLW cI q z (((va_cpy (lWe (pS X)) (lWe (pF X)) 0 0 12), (va_cpy (lCy (pS X)) (lCy (pF X)) 0 0 12), (va_cpy (lWr (pS X)) (lWr (pF X)) 0 0 12), (lPu (pF X)), (lSl (pF X)), (lPl (pF X)), (lSp (pF X)), (lSt (pF X)), (lLi (pF X)), (lN_ (pF X)), (lStn (pF X)), (lClk (pF X)), (lRnd (pF X))), (pS X))) H := hP
  refine lv_aload_n hx hb dX0_become_45 rfl (lv_at hl 1 rfl) ?_
  refine va_get (D := D) (ci := 0) (v := .ref (z + 4)) (C := RX0) (T := TX0) (N := 13) hx hb hts hinX0 hown hK hP 10 rfl rfl 3 (by decide) hf21 (fun _ h9 => h9) rfl dX0_become_46 ?_
  refine lv_iconst (v := 0) hx hb dX0_become_49 (by decide) ?_
  refine lv_aload_n hx hb dX0_become_50 rfl (lv_at hl 0 rfl) ?_
  refine va_get (D := D) (ci := 0) (v := .ref (q + 4)) (C := RX0) (T := TX0) (N := 13) hx hb hts hinX0 hown hK hP 0 rfl rfl 3 (by decide) hf21 (fun _ h9 => h9) rfl dX0_become_51 ?_
  refine lv_iconst (v := 0) hx hb dX0_become_54 (by decide) ?_
  refine lv_bipush (v := 12) hx hb dX0_become_55 (by decide) ?_
  refine va_copyi hx hb (hml.trans hl.1.symm) hown (hts (.methodLink RX0 56 arraycopyName) (by decide +kernel)) (hts (.native arraycopyName) (by decide +kernel)) (hts (.static arraycopyName) (by decide +kernel)) (hts (.initialized "java/lang/System") (by decide +kernel)) hK hP (LLW_self hd) hS 14 4 0 0 (f := (lPu (pS X))) (g := (lPu (pF X))) (ty := .int) rfl rfl rfl rfl rfl (by decide) (by decide) (by decide) (by decide) (by decide) (fun _ _ => rfl) (Nat.le_of_ble_eq_true rfl) (Nat.le_of_ble_eq_true rfl) dX0_become_57 (fun H locs hP _ hS => ?_)
  have hP : va_P D vwCl (LLW cI q z (((va_cpy (lWe (pS X)) (lWe (pF X)) 0 0 12), (va_cpy (lCy (pS X)) (lCy (pF X)) 0 0 12), (va_cpy (lWr (pS X)) (lWr (pF X)) 0 0 12), (va_cpy (lPu (pS X)) (lPu (pF X)) 0 0 12), (lSl (pF X)), (lPl (pF X)), (lSp (pF X)), (lSt (pF X)), (lLi (pF X)), (lN_ (pF X)), (lStn (pF X)), (lClk (pF X)), (lRnd (pF X))), (pS X))) H := hP
  refine lv_aload_n hx hb dX0_become_60 rfl (lv_at hl 1 rfl) ?_
  refine va_get (D := D) (ci := 0) (v := .ref (z + 5)) (C := RX0) (T := TX0) (N := 13) hx hb hts hinX0 hown hK hP 10 rfl rfl 4 (by decide) hf24 (fun _ h9 => h9) rfl dX0_become_61 ?_
  refine lv_iconst (v := 0) hx hb dX0_become_64 (by decide) ?_
  refine lv_aload_n hx hb dX0_become_65 rfl (lv_at hl 0 rfl) ?_
  refine va_get (D := D) (ci := 0) (v := .ref (q + 5)) (C := RX0) (T := TX0) (N := 13) hx hb hts hinX0 hown hK hP 0 rfl rfl 4 (by decide) hf24 (fun _ h9 => h9) rfl dX0_become_66 ?_
  refine lv_iconst (v := 0) hx hb dX0_become_69 (by decide) ?_
  refine lv_bipush (v := 12) hx hb dX0_become_70 (by decide) ?_
  refine va_copyi hx hb (hml.trans hl.1.symm) hown (hts (.methodLink RX0 56 arraycopyName) (by decide +kernel)) (hts (.native arraycopyName) (by decide +kernel)) (hts (.static arraycopyName) (by decide +kernel)) (hts (.initialized "java/lang/System") (by decide +kernel)) hK hP (LLW_self hd) hS 15 5 0 0 (f := (lSl (pS X))) (g := (lSl (pF X))) (ty := .int) rfl rfl rfl rfl rfl (by decide) (by decide) (by decide) (by decide) (by decide) (fun _ _ => rfl) (Nat.le_of_ble_eq_true rfl) (Nat.le_of_ble_eq_true rfl) dX0_become_72 (fun H locs hP _ hS => ?_)
  have hP : va_P D vwCl (LLW cI q z (((va_cpy (lWe (pS X)) (lWe (pF X)) 0 0 12), (va_cpy (lCy (pS X)) (lCy (pF X)) 0 0 12), (va_cpy (lWr (pS X)) (lWr (pF X)) 0 0 12), (va_cpy (lPu (pS X)) (lPu (pF X)) 0 0 12), (va_cpy (lSl (pS X)) (lSl (pF X)) 0 0 12), (lPl (pF X)), (lSp (pF X)), (lSt (pF X)), (lLi (pF X)), (lN_ (pF X)), (lStn (pF X)), (lClk (pF X)), (lRnd (pF X))), (pS X))) H := hP
  refine lv_aload_n hx hb dX0_become_75 rfl (lv_at hl 1 rfl) ?_
  refine va_get (D := D) (ci := 0) (v := .ref (z + 6)) (C := RX0) (T := TX0) (N := 13) hx hb hts hinX0 hown hK hP 10 rfl rfl 5 (by decide) hf27 (fun _ h9 => h9) rfl dX0_become_76 ?_
  refine lv_iconst (v := 0) hx hb dX0_become_79 (by decide) ?_
  refine lv_aload_n hx hb dX0_become_80 rfl (lv_at hl 0 rfl) ?_
  refine va_get (D := D) (ci := 0) (v := .ref (q + 6)) (C := RX0) (T := TX0) (N := 13) hx hb hts hinX0 hown hK hP 0 rfl rfl 5 (by decide) hf27 (fun _ h9 => h9) rfl dX0_become_81 ?_
  refine lv_iconst (v := 0) hx hb dX0_become_84 (by decide) ?_
  refine lv_bipush (v := 12) hx hb dX0_become_85 (by decide) ?_
  refine va_copyi hx hb (hml.trans hl.1.symm) hown (hts (.methodLink RX0 56 arraycopyName) (by decide +kernel)) (hts (.native arraycopyName) (by decide +kernel)) (hts (.static arraycopyName) (by decide +kernel)) (hts (.initialized "java/lang/System") (by decide +kernel)) hK hP (LLW_self hd) hS 16 6 0 0 (f := (lPl (pS X))) (g := (lPl (pF X))) (ty := .int) rfl rfl rfl rfl rfl (by decide) (by decide) (by decide) (by decide) (by decide) (fun _ _ => rfl) (Nat.le_of_ble_eq_true rfl) (Nat.le_of_ble_eq_true rfl) dX0_become_87 (fun H locs hP _ hS => ?_)
  have hP : va_P D vwCl (LLW cI q z (((va_cpy (lWe (pS X)) (lWe (pF X)) 0 0 12), (va_cpy (lCy (pS X)) (lCy (pF X)) 0 0 12), (va_cpy (lWr (pS X)) (lWr (pF X)) 0 0 12), (va_cpy (lPu (pS X)) (lPu (pF X)) 0 0 12), (va_cpy (lSl (pS X)) (lSl (pF X)) 0 0 12), (va_cpy (lPl (pS X)) (lPl (pF X)) 0 0 12), (lSp (pF X)), (lSt (pF X)), (lLi (pF X)), (lN_ (pF X)), (lStn (pF X)), (lClk (pF X)), (lRnd (pF X))), (pS X))) H := hP
  refine lv_aload_n hx hb dX0_become_90 rfl (lv_at hl 1 rfl) ?_
  refine va_get (D := D) (ci := 0) (v := .ref (z + 7)) (C := RX0) (T := TX0) (N := 13) hx hb hts hinX0 hown hK hP 10 rfl rfl 6 (by decide) hf30 (fun _ h9 => h9) rfl dX0_become_91 ?_
  refine lv_iconst (v := 0) hx hb dX0_become_94 (by decide) ?_
  refine lv_aload_n hx hb dX0_become_95 rfl (lv_at hl 0 rfl) ?_
  refine va_get (D := D) (ci := 0) (v := .ref (q + 7)) (C := RX0) (T := TX0) (N := 13) hx hb hts hinX0 hown hK hP 0 rfl rfl 6 (by decide) hf30 (fun _ h9 => h9) rfl dX0_become_96 ?_
  refine lv_iconst (v := 0) hx hb dX0_become_99 (by decide) ?_
  refine lv_bipush (v := 12) hx hb dX0_become_100 (by decide) ?_
  refine va_copyi hx hb (hml.trans hl.1.symm) hown (hts (.methodLink RX0 56 arraycopyName) (by decide +kernel)) (hts (.native arraycopyName) (by decide +kernel)) (hts (.static arraycopyName) (by decide +kernel)) (hts (.initialized "java/lang/System") (by decide +kernel)) hK hP (LLW_self hd) hS 17 7 0 0 (f := (lSp (pS X))) (g := (lSp (pF X))) (ty := .int) rfl rfl rfl rfl rfl (by decide) (by decide) (by decide) (by decide) (by decide) (fun _ _ => rfl) (Nat.le_of_ble_eq_true rfl) (Nat.le_of_ble_eq_true rfl) dX0_become_102 (fun H locs hP _ hS => ?_)
  have hP : va_P D vwCl (LLW cI q z (((va_cpy (lWe (pS X)) (lWe (pF X)) 0 0 12), (va_cpy (lCy (pS X)) (lCy (pF X)) 0 0 12), (va_cpy (lWr (pS X)) (lWr (pF X)) 0 0 12), (va_cpy (lPu (pS X)) (lPu (pF X)) 0 0 12), (va_cpy (lSl (pS X)) (lSl (pF X)) 0 0 12), (va_cpy (lPl (pS X)) (lPl (pF X)) 0 0 12), (va_cpy (lSp (pS X)) (lSp (pF X)) 0 0 12), (lSt (pF X)), (lLi (pF X)), (lN_ (pF X)), (lStn (pF X)), (lClk (pF X)), (lRnd (pF X))), (pS X))) H := hP
  refine lv_aload_n hx hb dX0_become_105 rfl (lv_at hl 1 rfl) ?_
  refine va_get (D := D) (ci := 0) (v := .ref (z + 8)) (C := RX0) (T := TX0) (N := 13) hx hb hts hinX0 hown hK hP 10 rfl rfl 7 (by decide) hf33 (fun _ h9 => h9) rfl dX0_become_106 ?_
  refine lv_iconst (v := 0) hx hb dX0_become_109 (by decide) ?_
  refine lv_aload_n hx hb dX0_become_110 rfl (lv_at hl 0 rfl) ?_
  refine va_get (D := D) (ci := 0) (v := .ref (q + 8)) (C := RX0) (T := TX0) (N := 13) hx hb hts hinX0 hown hK hP 0 rfl rfl 7 (by decide) hf33 (fun _ h9 => h9) rfl dX0_become_111 ?_
  refine lv_iconst (v := 0) hx hb dX0_become_114 (by decide) ?_
  refine lv_bipush (v := 12) hx hb dX0_become_115 (by decide) ?_
  refine va_copyi hx hb (hml.trans hl.1.symm) hown (hts (.methodLink RX0 56 arraycopyName) (by decide +kernel)) (hts (.native arraycopyName) (by decide +kernel)) (hts (.static arraycopyName) (by decide +kernel)) (hts (.initialized "java/lang/System") (by decide +kernel)) hK hP (LLW_self hd) hS 18 8 0 0 (f := (lSt (pS X))) (g := (lSt (pF X))) (ty := .int) rfl rfl rfl rfl rfl (by decide) (by decide) (by decide) (by decide) (by decide) (fun _ _ => rfl) (Nat.le_of_ble_eq_true rfl) (Nat.le_of_ble_eq_true rfl) dX0_become_117 (fun H locs hP _ hS => ?_)
  have hP : va_P D vwCl (LLW cI q z (((va_cpy (lWe (pS X)) (lWe (pF X)) 0 0 12), (va_cpy (lCy (pS X)) (lCy (pF X)) 0 0 12), (va_cpy (lWr (pS X)) (lWr (pF X)) 0 0 12), (va_cpy (lPu (pS X)) (lPu (pF X)) 0 0 12), (va_cpy (lSl (pS X)) (lSl (pF X)) 0 0 12), (va_cpy (lPl (pS X)) (lPl (pF X)) 0 0 12), (va_cpy (lSp (pS X)) (lSp (pF X)) 0 0 12), (va_cpy (lSt (pS X)) (lSt (pF X)) 0 0 12), (lLi (pF X)), (lN_ (pF X)), (lStn (pF X)), (lClk (pF X)), (lRnd (pF X))), (pS X))) H := hP
  refine lv_aload_n hx hb dX0_become_120 rfl (lv_at hl 1 rfl) ?_
  refine va_get (D := D) (ci := 0) (v := .ref (z + 9)) (C := RX0) (T := TX0) (N := 13) hx hb hts hinX0 hown hK hP 10 rfl rfl 8 (by decide) hf36 (fun _ h9 => h9) rfl dX0_become_121 ?_
  refine lv_iconst (v := 0) hx hb dX0_become_124 (by decide) ?_
  refine lv_aload_n hx hb dX0_become_125 rfl (lv_at hl 0 rfl) ?_
  refine va_get (D := D) (ci := 0) (v := .ref (q + 9)) (C := RX0) (T := TX0) (N := 13) hx hb hts hinX0 hown hK hP 0 rfl rfl 8 (by decide) hf36 (fun _ h9 => h9) rfl dX0_become_126 ?_
  refine lv_iconst (v := 0) hx hb dX0_become_129 (by decide) ?_
  refine lv_iconst (v := 5) hx hb dX0_become_130 (by decide) ?_
  refine va_copyi hx hb (hml.trans hl.1.symm) hown (hts (.methodLink RX0 56 arraycopyName) (by decide +kernel)) (hts (.native arraycopyName) (by decide +kernel)) (hts (.static arraycopyName) (by decide +kernel)) (hts (.initialized "java/lang/System") (by decide +kernel)) hK hP (LLW_self hd) hS 19 9 0 0 (f := (lLi (pS X))) (g := (lLi (pF X))) (ty := .int) rfl rfl rfl rfl rfl (by decide) (by decide) (by decide) (by decide) (by decide) (fun _ _ => rfl) (Nat.le_of_ble_eq_true rfl) (Nat.le_of_ble_eq_true rfl) dX0_become_131 (fun H locs hP _ hS => ?_)
  have hP : va_P D vwCl (LLW cI q z (((va_cpy (lWe (pS X)) (lWe (pF X)) 0 0 12), (va_cpy (lCy (pS X)) (lCy (pF X)) 0 0 12), (va_cpy (lWr (pS X)) (lWr (pF X)) 0 0 12), (va_cpy (lPu (pS X)) (lPu (pF X)) 0 0 12), (va_cpy (lSl (pS X)) (lSl (pF X)) 0 0 12), (va_cpy (lPl (pS X)) (lPl (pF X)) 0 0 12), (va_cpy (lSp (pS X)) (lSp (pF X)) 0 0 12), (va_cpy (lSt (pS X)) (lSt (pF X)) 0 0 12), (va_cpy (lLi (pS X)) (lLi (pF X)) 0 0 5), (lN_ (pF X)), (lStn (pF X)), (lClk (pF X)), (lRnd (pF X))), (pS X))) H := hP
  refine lv_aload_n hx hb dX0_become_134 rfl (lv_at hl 0 rfl) ?_
  refine lv_aload_n hx hb dX0_become_135 rfl (lv_at hl 1 rfl) ?_
  refine va_get (D := D) (ci := 0) (v := .int (lN_ (pS X))) (C := RX0) (T := TX0) (N := 13) hx hb hts hinX0 hown hK hP 10 rfl rfl 9 (by decide) hf42 (fun _ h9 => h9) rfl dX0_become_136 ?_
  refine va_put (D := D) (ci := 0) (v := .int (lN_ (pS X))) (ty := .int) (C := RX0) (T := TX0) (N := 13) hx hb hts hinX0 tyX0 tyX0_ok nmX0 hown hK hP (LLW_self hd) hS 0 rfl rfl 9 (by decide) hf42 (fun _ h9 => h9) rfl (by decide +kernel) rfl rfl (Nat.le_of_ble_eq_true rfl) dX0_become_139 (fun H locs hP _ hS => ?_)
  have hP : va_P D vwCl (LLW cI q z (((va_cpy (lWe (pS X)) (lWe (pF X)) 0 0 12), (va_cpy (lCy (pS X)) (lCy (pF X)) 0 0 12), (va_cpy (lWr (pS X)) (lWr (pF X)) 0 0 12), (va_cpy (lPu (pS X)) (lPu (pF X)) 0 0 12), (va_cpy (lSl (pS X)) (lSl (pF X)) 0 0 12), (va_cpy (lPl (pS X)) (lPl (pF X)) 0 0 12), (va_cpy (lSp (pS X)) (lSp (pF X)) 0 0 12), (va_cpy (lSt (pS X)) (lSt (pF X)) 0 0 12), (va_cpy (lLi (pS X)) (lLi (pF X)) 0 0 5), (lN_ (pS X)), (lStn (pF X)), (lClk (pF X)), (lRnd (pF X))), (pS X))) H := hP
  refine lv_aload_n hx hb dX0_become_142 rfl (lv_at hl 0 rfl) ?_
  refine lv_aload_n hx hb dX0_become_143 rfl (lv_at hl 1 rfl) ?_
  refine va_get (D := D) (ci := 0) (v := .int (lStn (pS X))) (C := RX0) (T := TX0) (N := 13) hx hb hts hinX0 hown hK hP 10 rfl rfl 10 (by decide) hf46 (fun _ h9 => h9) rfl dX0_become_144 ?_
  refine va_put (D := D) (ci := 0) (v := .int (lStn (pS X))) (ty := .int) (C := RX0) (T := TX0) (N := 13) hx hb hts hinX0 tyX0 tyX0_ok nmX0 hown hK hP (LLW_self hd) hS 0 rfl rfl 10 (by decide) hf46 (fun _ h9 => h9) rfl (by decide +kernel) rfl rfl (Nat.le_of_ble_eq_true rfl) dX0_become_147 (fun H locs hP _ hS => ?_)
  have hP : va_P D vwCl (LLW cI q z (((va_cpy (lWe (pS X)) (lWe (pF X)) 0 0 12), (va_cpy (lCy (pS X)) (lCy (pF X)) 0 0 12), (va_cpy (lWr (pS X)) (lWr (pF X)) 0 0 12), (va_cpy (lPu (pS X)) (lPu (pF X)) 0 0 12), (va_cpy (lSl (pS X)) (lSl (pF X)) 0 0 12), (va_cpy (lPl (pS X)) (lPl (pF X)) 0 0 12), (va_cpy (lSp (pS X)) (lSp (pF X)) 0 0 12), (va_cpy (lSt (pS X)) (lSt (pF X)) 0 0 12), (va_cpy (lLi (pS X)) (lLi (pF X)) 0 0 5), (lN_ (pS X)), (lStn (pS X)), (lClk (pF X)), (lRnd (pF X))), (pS X))) H := hP
  refine lv_aload_n hx hb dX0_become_150 rfl (lv_at hl 0 rfl) ?_
  refine lv_aload_n hx hb dX0_become_151 rfl (lv_at hl 1 rfl) ?_
  refine va_get (D := D) (ci := 0) (v := .int (lClk (pS X))) (C := RX0) (T := TX0) (N := 13) hx hb hts hinX0 hown hK hP 10 rfl rfl 11 (by decide) hf49 (fun _ h9 => h9) rfl dX0_become_152 ?_
  refine va_put (D := D) (ci := 0) (v := .int (lClk (pS X))) (ty := .int) (C := RX0) (T := TX0) (N := 13) hx hb hts hinX0 tyX0 tyX0_ok nmX0 hown hK hP (LLW_self hd) hS 0 rfl rfl 11 (by decide) hf49 (fun _ h9 => h9) rfl (by decide +kernel) rfl rfl (Nat.le_of_ble_eq_true rfl) dX0_become_155 (fun H locs hP _ hS => ?_)
  have hP : va_P D vwCl (LLW cI q z (((va_cpy (lWe (pS X)) (lWe (pF X)) 0 0 12), (va_cpy (lCy (pS X)) (lCy (pF X)) 0 0 12), (va_cpy (lWr (pS X)) (lWr (pF X)) 0 0 12), (va_cpy (lPu (pS X)) (lPu (pF X)) 0 0 12), (va_cpy (lSl (pS X)) (lSl (pF X)) 0 0 12), (va_cpy (lPl (pS X)) (lPl (pF X)) 0 0 12), (va_cpy (lSp (pS X)) (lSp (pF X)) 0 0 12), (va_cpy (lSt (pS X)) (lSt (pF X)) 0 0 12), (va_cpy (lLi (pS X)) (lLi (pF X)) 0 0 5), (lN_ (pS X)), (lStn (pS X)), (lClk (pS X)), (lRnd (pF X))), (pS X))) H := hP
  refine lv_aload_n hx hb dX0_become_158 rfl (lv_at hl 0 rfl) ?_
  refine lv_aload_n hx hb dX0_become_159 rfl (lv_at hl 1 rfl) ?_
  refine va_get (D := D) (ci := 0) (v := .long (lRnd (pS X))) (C := RX0) (T := TX0) (N := 13) hx hb hts hinX0 hown hK hP 10 rfl rfl 12 (by decide) hf52 (fun _ h9 => h9) rfl dX0_become_160 ?_
  refine va_put (D := D) (ci := 0) (v := .long (lRnd (pS X))) (ty := .long) (C := RX0) (T := TX0) (N := 13) hx hb hts hinX0 tyX0 tyX0_ok nmX0 hown hK hP (LLW_self hd) hS 0 rfl rfl 12 (by decide) hf52 (fun _ h9 => h9) rfl (by decide +kernel) rfl rfl (Nat.le_of_ble_eq_true rfl) dX0_become_163 (fun H locs hP _ hS => ?_)
  have hP : va_P D vwCl (LLW cI q z (((va_cpy (lWe (pS X)) (lWe (pF X)) 0 0 12), (va_cpy (lCy (pS X)) (lCy (pF X)) 0 0 12), (va_cpy (lWr (pS X)) (lWr (pF X)) 0 0 12), (va_cpy (lPu (pS X)) (lPu (pF X)) 0 0 12), (va_cpy (lSl (pS X)) (lSl (pF X)) 0 0 12), (va_cpy (lPl (pS X)) (lPl (pF X)) 0 0 12), (va_cpy (lSp (pS X)) (lSp (pF X)) 0 0 12), (va_cpy (lSt (pS X)) (lSt (pF X)) 0 0 12), (va_cpy (lLi (pS X)) (lLi (pF X)) 0 0 5), (lN_ (pS X)), (lStn (pS X)), (lClk (pS X)), (lRnd (pS X))), (pS X))) H := hP
  have h := Option.some.inj h
  subst h
  exact W.vret hx hb hr (fun t ht hW => ⟨⟨(), rfl, trivial, gh ht hP⟩, hS.F ht⟩) hS.2.2 dX0_become_166
end

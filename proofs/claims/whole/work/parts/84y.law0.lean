/-! THE LAW: what its cases share -/
def LFix (l : Launch) (p : Program) (s : State) (m : MethodId) (meth : Method) (c : Code) (b L x0 : Nat) (xs : Nat → Int32) (D : va_G) (cI cC cZ cQ cJ : ClassId) (t : Nat) : Prop := lw_At p s m meth c b L xs ∧ va_K D vwCl (gTy cI cC cZ cQ cJ) s ∧ gEnw t x0 s s.heap ∧ l.stackTraces = false ∧ L ≤ 2048 ∧ x0 = s.heap.size
def LSta (D : va_G) (cI cC cZ cQ cJ : ClassId) (s : State) (b x0 : Nat) (G : GSt) (M : MSt) (f : Nat → Int64) (x4 : Int32) (H : Heap) (locs : List Loc) (ls : Array Slot) : Prop := GRel G M ∧ va_P D vwCl (GWO cI cC cZ cQ cJ x0 (x0 + 211) G f) H ∧ va_P D vwCl (MW cI cZ (x0 + 201) M) H ∧ va_S (gGe x0) s.heap H locs ∧ lv_has ls 7 [(0, .ref b), (1, .ref x0), (2, .ref (x0 + 201)), (3, .ref (x0 + 211)), (4, .int x4)]
theorem lk_A {x0 a : Nat} (h : gOr (fIv x0 201) (fIv (x0 + 211) 1) a) : gGe x0 a := by
  show x0 ≤ a
  rcases h with z | z
  · exact z.1
  · exact Nat.le_trans (Nat.le_add_right _ _) z.1
theorem lk_M {D : va_G} {cI cZ : ClassId} {x0 : Nat} {M : MSt} {H H1 : Heap} (h : va_P D vwCl (MW cI cZ (x0 + 201) M) H) (hk : ∀ a : Nat, a < H.size → ¬ gOr (fIv x0 201) (fIv (x0 + 211) 1) a → H1[a]? = H[a]?) : va_P D vwCl (MW cI cZ (x0 + 201) M) H1 :=
  gKeep (n := 10) (MW_ord cI cZ (x0 + 201) M) rfl h (fun a hl hi => hk a hl (fun z => by
    have b1 := hi.1
    have b2 := hi.2
    rcases z with z | z
    · have := z.2; omega
    · have := z.1; omega))
theorem lk_M2 {D : va_G} {cI cZ : ClassId} {x0 : Nat} {M : MSt} {H H1 : Heap} (h : va_P D vwCl (MW cI cZ (x0 + 201) M) H) (hk : ∀ a : Nat, a < H.size → ¬ fIv x0 201 a → H1[a]? = H[a]?) : va_P D vwCl (MW cI cZ (x0 + 201) M) H1 :=
  lk_M h (fun a hl hi => hk a hl (fun z => hi (Or.inl z)))
theorem lk_G {D : va_G} {cI cC cZ cQ cJ : ClassId} {x0 : Nat} {G : GSt} {f : Nat → Int64} {H H1 : Heap} (h : va_P D vwCl (GWO cI cC cZ cQ cJ x0 (x0 + 211) G f) H) (hk : ∀ a : Nat, a < H.size → ¬ fIv (x0 + 201) 10 a → H1[a]? = H[a]?) : va_P D vwCl (GWO cI cC cZ cQ cJ x0 (x0 + 211) G f) H1 :=
  va_P.app (gKeep (GW_ord cI cC cZ cQ x0 G) (GW_len cI cC cZ cQ x0 G) (gL h) (fun a hl hi => hk a hl (fun z => by have b1 := hi.2; have b2 := z.1; omega)))
    (gKeep (l := [(x0 + 211, .inl (cJ, 1, .inr (.inl f)))]) (n := 1) (q := x0 + 211) ⟨rfl, trivial⟩ rfl (gR h) (fun a hl hi => hk a hl (fun z => by have b1 := hi.1; have b2 := z.2; omega)))
theorem gm_zero {a b k : Nat} (hk : k = 0 ∨ k = a ∨ (k = b ∧ b ≠ 9)) (h : gm a b k = 0) : k = 0 := by
  unfold gm at h
  by_cases h1 : k = a
  · rw [if_pos h1] at h; exact absurd h (by decide)
  · rw [if_neg h1] at h
    by_cases h2 : k = b
    · rw [if_pos h2] at h; exact absurd h (by decide)
    · rcases hk with z | z | z
      · exact z
      · exact absurd z h1
      · exact absurd z.1 h2
theorem lg_cmp_self (x : Int64) : lg_cmp x x = 0 := by
  unfold lg_cmp
  simp only [gt_iff_lt, fa_lt64]
  rw [if_neg (by omega), if_pos trivial]
/-- an array class that the tables know -/
theorem arr_of {s : State} {args : Array Value} {ty : FieldType} (h : (Cond.arrayClass ty).before args s = true) : ∃ cA : ClassId, ArrOfT s cA ty ∧ s.vm.findClass ("[" ++ ty.toString) = some cA := by
  obtain ⟨cA, kA, comp, h1, h2, h3⟩ := Cond.arrayClass_spec h
  exact ⟨cA, fun n z => ⟨fun k h => (by cases h), kA, h2, comp, h3⟩, h1⟩
theorem arr_over {s : State} {args : Array Value} {C : String} (h : (Cond.arrayOver (.object C)).before args s = true) : ∃ cA : ClassId, ArrOfT s cA (.object C) ∧ va_RA s cA (.object C) := by
  obtain ⟨comp, cA, kA, h1, h2, h3, h4, h5⟩ := Cond.arrayOver_spec h
  exact ⟨cA, fun n z => ⟨fun k h => (by cases h), kA, h3, comp, h4⟩, kA, comp, h3, h4, h1, h5⟩

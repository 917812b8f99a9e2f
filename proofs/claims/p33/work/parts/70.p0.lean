/-! PURE LEVEL, nothing of the machine: counts, loops by fuel, numbers -/
def sCt (p : Nat → Bool) : Nat → Nat
  | 0 => 0
  | n + 1 => sCt p n + (if p n then 1 else 0)
theorem sCt_yes {p : Nat → Bool} {n : Nat} (h : p n = true) : sCt p (n + 1) = sCt p n + 1 := by rw [sCt, if_pos h]
theorem sCt_no {p : Nat → Bool} {n : Nat} (h : p n = false) : sCt p (n + 1) = sCt p n := by rw [sCt, if_neg (by rw [h]; decide)]; rfl
theorem sCt_cong {p q : Nat → Bool} : ∀ {n : Nat}, (∀ k, k < n → p k = q k) → sCt p n = sCt q n
  | 0, _ => rfl
  | n + 1, h => by rw [sCt, sCt, sCt_cong (fun k hk => h k (by omega)), h n (by omega)]
theorem sCt_le (p : Nat → Bool) : ∀ n, sCt p n ≤ n
  | 0 => Nat.le_refl 0
  | n + 1 => by have := sCt_le p n; rw [sCt]; split <;> omega
theorem sCt_ext {p : Nat → Bool} {k : Nat} : ∀ {n : Nat}, k ≤ n → (∀ g, k ≤ g → g < n → p g = false) → sCt p n = sCt p k
  | 0, h, _ => by rw [Nat.le_zero.mp h]
  | n + 1, h, hp => by
    rcases Nat.lt_or_ge n k with q | q
    · rw [show k = n + 1 by omega]
    · rw [sCt_no (hp n q (by omega)), sCt_ext q (fun g h1 h2 => hp g h1 (by omega))]
theorem sCt_zero {p : Nat → Bool} : ∀ {n : Nat}, sCt p n = 0 ↔ ∀ k, k < n → p k = false
  | 0 => ⟨fun _ k hk => absurd hk (Nat.not_lt_zero k), fun _ => rfl⟩
  | n + 1 => by
    constructor
    · intro h k hk
      cases e : p n with
      | true => rw [sCt_yes e] at h; omega
      | false =>
        rw [sCt_no e] at h
        rcases Nat.lt_or_ge k n with q | q
        · exact sCt_zero.mp h k q
        · rw [show k = n by omega]; exact e
    · intro h
      rw [sCt_no (h n (by omega))]
      exact sCt_zero.mpr (fun k hk => h k (by omega))
theorem sCt_all {p : Nat → Bool} : ∀ {n : Nat}, (∀ k, k < n → p k = true) → sCt p n = n
  | 0, _ => rfl
  | n + 1, h => by rw [sCt_yes (h n (by omega)), sCt_all (fun k hk => h k (by omega))]
/-- the first one -/
theorem s_first (p : Nat → Bool) : ∀ (n : Nat), (∀ k, k < n → p k = false) ∨ ∃ i, i < n ∧ p i = true ∧ ∀ j, j < i → p j = false
  | 0 => Or.inl (fun k hk => absurd hk (Nat.not_lt_zero k))
  | n + 1 => by
    rcases s_first p n with h | ⟨i, h1, h2, h3⟩
    · cases e : p n with
      | false =>
        refine Or.inl (fun k hk => ?_)
        rcases Nat.lt_or_ge k n with q | q
        · exact h k q
        · rw [show k = n by omega]; exact e
      | true => exact Or.inr ⟨n, by omega, e, h⟩
    · exact Or.inr ⟨i, by omega, h2, h3⟩
theorem sCt_hit {p : Nat → Bool} {n i : Nat} (h : i < n) (hp : p i = true) : ¬ sCt p n = 0 := fun e => by
  have := sCt_zero.mp e i h
  rw [hp] at this; cases this
theorem run_from {A : Type} {F : Nat → Nat → A} {N : Nat} {r : A} (h : ∀ i f, i < N → F (f + 1) i = F f (i + 1)) (hN : ∀ f, F (f + 1) N = r) : ∀ (d i fuel : Nat), N - i = d → i ≤ N → d < fuel → F fuel i = r
  | 0, i, fuel, hd, hi, hf => by
    obtain ⟨f, rfl⟩ : ∃ f, fuel = f + 1 := ⟨fuel - 1, by omega⟩
    rw [show i = N by omega]; exact hN f
  | d + 1, i, fuel, hd, hi, hf => by
    obtain ⟨f, rfl⟩ : ∃ f, fuel = f + 1 := ⟨fuel - 1, by omega⟩
    rw [h i f (by omega)]; exact run_from h hN d (i + 1) f (by omega) (by omega) (by omega)
/-- a loop from 0 to N, its variables named by the round's number -/
theorem run_up {A : Type} (F : Nat → Nat → A) (N : Nat) {r : A} {fuel : Nat} (h : ∀ i f, i < N → F (f + 1) i = F f (i + 1)) (hN : ∀ f, F (f + 1) N = r) (hf : N < fuel) : F fuel 0 = r := run_from h hN N 0 fuel rfl (Nat.zero_le N) hf
/-- a loop whose state is known by an invariant alone -/
theorem run_inv {A S : Type} (F : Nat → S → Nat → Option A) (I : Nat → S → Prop) (P : A → Prop) (N : Nat) (h : ∀ i f s, i < N → I i s → ∃ s', I (i + 1) s' ∧ F (f + 1) s i = F f s' (i + 1)) (hN : ∀ f s, I N s → ∃ r, F (f + 1) s N = some r ∧ P r) :
    ∀ (d i fuel : Nat) (s : S), N - i = d → i ≤ N → d < fuel → I i s → ∃ r, F fuel s i = some r ∧ P r
  | 0, i, fuel, s, hd, hi, hf, hI => by
    obtain ⟨f, rfl⟩ : ∃ f, fuel = f + 1 := ⟨fuel - 1, by omega⟩
    obtain rfl : i = N := by omega
    exact hN f s hI
  | d + 1, i, fuel, s, hd, hi, hf, hI => by
    obtain ⟨f, rfl⟩ : ∃ f, fuel = f + 1 := ⟨fuel - 1, by omega⟩
    obtain ⟨s', h1, h2⟩ := h i f s (by omega) hI
    rw [h2]; exact run_inv F I P N h hN d (i + 1) f s' (by omega) (by omega) (by omega) h1
/-- two loops side by side -/
theorem run_two {A B S T : Type} (F : Nat → S → Nat → Option A) (G : Nat → T → Nat → Option B) (I : Nat → S → T → Prop) (P : A → B → Prop) (N : Nat)
    (h : ∀ i f g s t, i < N → I i s t → ∃ s' t', I (i + 1) s' t' ∧ F (f + 1) s i = F f s' (i + 1) ∧ G (g + 1) t i = G g t' (i + 1))
    (hN : ∀ f g s t, 100 ≤ f → 100 ≤ g → I N s t → ∃ r r', F f s N = some r ∧ G g t N = some r' ∧ P r r') :
    ∀ (d i f g : Nat) (s : S) (t : T), N - i = d → i ≤ N → d + 100 ≤ f → d + 100 ≤ g → I i s t → ∃ r r', F f s i = some r ∧ G g t i = some r' ∧ P r r'
  | 0, i, f, g, s, t, hd, hi, hf, hg, hI => by
    obtain rfl : i = N := by omega
    exact hN f g s t (by omega) (by omega) hI
  | d + 1, i, f, g, s, t, hd, hi, hf, hg, hI => by
    obtain ⟨f, rfl⟩ : ∃ f', f = f' + 1 := ⟨f - 1, by omega⟩
    obtain ⟨g, rfl⟩ : ∃ g', g = g' + 1 := ⟨g - 1, by omega⟩
    obtain ⟨s', t', h1, h2, h3⟩ := h i f g s t (by omega) hI
    rw [h2, h3]; exact run_two F G I P N h hN d (i + 1) f g s' t' (by omega) (by omega) (by omega) (by omega) h1
theorem gd_nI {α : Type} {i n : Nat} {k : Option α} (h : i < n) (hn : n < 2 ^ 31) : gd (nI i) n k = k := gd_in (nI_in h hn)
theorem aI0 (i : Nat) : (0 : Int32) + nI i = nI i := by rw [show (0 : Int32) + nI i = nI (0 + i) from nI_add 0 i, Nat.zero_add]
theorem aI12 (i : Nat) : (12 : Int32) + nI i = nI (12 + i) := nI_add 12 i
theorem aI24 (i : Nat) : (24 : Int32) + nI i = nI (24 + i) := nI_add 24 i
theorem aI36 (i : Nat) : (36 : Int32) + nI i = nI (36 + i) := nI_add 36 i
theorem aI48 (i : Nat) : (48 : Int32) + nI i = nI (48 + i) := nI_add 48 i
theorem aI60 (i : Nat) : (60 : Int32) + nI i = nI (60 + i) := nI_add 60 i
theorem aI72 (i : Nat) : (72 : Int32) + nI i = nI (72 + i) := nI_add 72 i
theorem aI84 (i : Nat) : (84 : Int32) + nI i = nI (84 + i) := nI_add 84 i
theorem aI99 (i : Nat) : (99 : Int32) + nI i = nI (99 + i) := nI_add 99 i
theorem l12 {i : Nat} (h : i < 12) : ¬ (12 : Int32) ≤ nI i := nI_ge (b := 12) h (by decide)
theorem g12 : (12 : Int32) ≤ nI 12 := by decide
theorem upd_at {f : Nat → Int32} {i : Nat} {x : Int32} : upd f i x i = x := if_pos rfl
theorem upd_ne {f : Nat → Int32} {i j : Nat} {x : Int32} (h : j ≠ i) : upd f i x j = f j := if_neg h
theorem aw_at {A : Nat → RI} {j i : Nat} {x : Int32} : aw A j i x j = upd (A j) i x := by unfold aw va_up; simp
theorem aw_ne {A : Nat → RI} {j i k : Nat} {x : Int32} (h : k ≠ j) : aw A j i x k = A k := by unfold aw va_up; simp [h]

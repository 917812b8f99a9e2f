/-! PURE LEVEL: the text's head; errorPosition, load, the start -/
def HInv (x n : Nat) (D : LSt) (r : RI) : Prop := (lN_ D = nI n ∧ 4 ≤ n ∧ n ≤ 20) ∧ (lStn D = 0 ∧ lClk D = 0 ∧ lRnd D = 0) ∧ (∀ g, g < 12 → lPl D g = -1) ∧ (r 96 = 0 ∧ r 97 = 0 ∧ r 98 = 0 ∧ r 104 = 0 ∧ r 105 = 0) ∧ ∀ i, i < x → r (99 + i) = lLi D i ∧ InR 1 (lMost i) (lLi D i)
theorem HInv_step {x n : Nat} {D : LSt} {r : RI} (h : HInv x n D r) (hx : x < 5) {v : Int32} (hv : InR 1 (lMost x) v) : HInv (x + 1) n (lWe D, lCy D, lWr D, lPu D, lSl D, lPl D, lSp D, lSt D, upd (lLi D) x v, lN_ D, lStn D, lClk D, lRnd D) (upd r (99 + x) v) := by
  obtain ⟨h1, h2, h3, ⟨r1, r2, r3, r4, r5⟩, h5⟩ := h
  refine ⟨h1, h2, h3, ⟨?_, ?_, ?_, ?_, ?_⟩, fun i hi => ?_⟩
  · rw [upd_ne (by omega)]; exact r1
  · rw [upd_ne (by omega)]; exact r2
  · rw [upd_ne (by omega)]; exact r3
  · rw [upd_ne (by omega)]; exact r4
  · rw [upd_ne (by omega)]; exact r5
  · show upd r (99 + x) v (99 + i) = upd (lLi D) x v i ∧ InR 1 (lMost i) (upd (lLi D) x v i)
    by_cases e : i = x
    · subst e; rw [upd_at, upd_at]; exact ⟨rfl, hv⟩
    · rw [upd_ne (by omega), upd_ne e]; exact h5 i (by omega)
theorem HInv_rel {n : Nat} {D : LSt} {r : RI} (h : HInv 5 n D r) : RRel 0 n D r := by
  obtain ⟨h1, h2, h3, ⟨r1, r2, r3, r4, r5⟩, h5⟩ := h
  refine ⟨⟨Nat.zero_le _, h1.2.1, h1.2.2, h1.1, r1⟩, ⟨0, by omega, h2.1, r2⟩, h2.2.1.trans r3.symm, ⟨fun i hi => (h5 i hi).1, (h5 0 (by decide)).2, (h5 1 (by decide)).2, (h5 2 (by decide)).2, (h5 3 (by decide)).2, (h5 4 (by decide)).2⟩, ?_, fun g hg => absurd hg (Nat.not_lt_zero g), fun g _ hg => h3 g hg, fun g q hg => absurd hg (Nat.not_lt_zero g)⟩
  rw [h2.2.2]; unfold rOf; rw [r4, r5]; decide +kernel
theorem m_stop (g : Nat) (S : MSt) (x2 : Int32) : fX5_readText_L69 (g + 1) S (-9) x2 = some (mSpot S, S) := by
  rw [fX5_readText_L69]
  by_cases h : 5 ≤ x2
  · rw [if_pos h, if_pos rfl]
  · rw [if_neg h, if_pos rfl]
theorem c_stop (T : TSt) (x2 : Int32) : fX1_findError_L19 KF T 0 x2 = some (tAt T, T) := by
  show fX1_findError_L19 (2999 + 1) T 0 x2 = _
  rw [fX1_findError_L19, if_pos rfl]
section TH
variable {Z : SSt} {len : Nat}
/-- the reading stops in the head -/
theorem hd_no {p2 g : Nat} {D : LSt} {A' A0 : Nat → RI} {rf s0 r0 rn nn ac v : Int32} {RC : Option (Int32 × TSt)} {RM : Option (Int32 × MSt)} (hp : p2 < 100) (hA : ∀ c, c ≠ 2 → A' c = A0 c) (h1 : RC = some (0, (Z, D, nI p2))) (h2 : RM = fX5_readText_L69 (g + 1) (A', rf, nI len, nI p2, rn, nn, ac) (-9) v) :
    TxR Z (A0, rf, nI len, s0, r0, nn, ac) (RC.bind (fun r13 => fX1_findError_L19 KF r13.2 r13.1 0)) RM := by
  rw [h1, h2, Option.bind_some, m_stop]
  show TxR _ _ (fX1_findError_L19 KF (Z, D, nI p2) 0 0) _
  rw [c_stop]
  exact ⟨nI p2, _, _, rfl, rfl, rfl, ⟨hA, rfl, rfl, rfl, rfl⟩, Or.inr ⟨p2, hp, rfl⟩⟩
theorem hd_5 {n p f g : Nat} {D : LSt} {A A0 : Nat → RI} (hl : sLen Z = nI len) (h60 : len ≤ 60) (hb : BytOk Z len) (hrow : ∀ i, i < len → sRow Z i = A0 1 i) (rf s0 r0 nn ac : Int32) {v : Int32} (hv : ¬ v = -9) (hp : p ≤ 13) (hf : 1 ≤ f) (hg : 2 ≤ g) (hA : ∀ c, c ≠ 2 → A c = A0 c) (hI : HInv 5 n D (A 2)) :
    TxR Z (A0, rf, nI len, s0, r0, nn, ac) ((fX1_readHead_L54 f (Z, D, nI p) (nI 5)).bind (fun r13 => fX1_findError_L19 KF r13.2 r13.1 0)) (fX5_readText_L69 g (A, rf, nI len, nI p, nI n, nn, ac) v (nI 5)) := by
  obtain ⟨f, rfl⟩ : ∃ f', f = f' + 1 := ⟨f - 1, by omega⟩
  obtain ⟨g, rfl⟩ : ∃ g', g = g' + 1 := ⟨g - 1, by omega⟩
  rw [fX1_readHead_L54, fX5_readText_L69, if_pos (show (5 : Int32) ≤ nI 5 by decide), if_pos (show (5 : Int32) ≤ nI 5 by decide), if_neg hv, Option.bind_some]
  exact items_loop hl h60 hb hrow rf s0 r0 nn ac 12 0 KF KF p D A rfl (by decide) (by decide) (by decide) (by omega) (HInv_rel hI) hA
theorem hd_4 {n p f g : Nat} {D : LSt} {A A0 : Nat → RI} (hl : sLen Z = nI len) (h60 : len ≤ 60) (hb : BytOk Z len) (hrow : ∀ i, i < len → sRow Z i = A0 1 i) (rf s0 r0 nn ac : Int32) {v : Int32} (hv : ¬ v = -9) (hp : p ≤ 11) (hf : 2 ≤ f) (hg : 3 ≤ g) (hA : ∀ c, c ≠ 2 → A c = A0 c) (hI : HInv 4 n D (A 2)) :
    TxR Z (A0, rf, nI len, s0, r0, nn, ac) ((fX1_readHead_L54 f (Z, D, nI p) (nI 4)).bind (fun r13 => fX1_findError_L19 KF r13.2 r13.1 0)) (fX5_readText_L69 g (A, rf, nI len, nI p, nI n, nn, ac) v (nI 4)) := by
  obtain ⟨f, rfl⟩ : ∃ f', f = f' + 1 := ⟨f - 1, by omega⟩
  obtain ⟨g, rfl⟩ : ∃ g', g = g' + 2 := ⟨g - 2, by omega⟩
  have hr1 : ∀ i, i < len → sRow Z i = A 1 i := fun i hi => (hrow i hi).trans (by rw [hA 1 (by decide)])
  have hs := fun v => HInv_step hI (show 4 < 5 by decide) (v := v)
  have hA2 : ∀ w c, c ≠ 2 → aw A 2 103 w c = A0 c := fun w c hc => (aw_ne hc).trans (hA c hc)
  have e99 : (99 : Int32) + nI 4 = nI 103 := nI_add 99 4
  have cP : fX1_readDigit (Z, D, nI p) 1 (gGL 4) = _ := c_digit hl h60 (by omega) D 1 9
  have mP : fX5_digit (A, rf, nI len, nI p, nI n, nn, ac) 1 9 = _ := m_digit hb h60 (by omega) hr1 rf (nI n) nn ac (by decide)
  have sC : fX1_readHead_L54 (f + 1) (Z, D, nI p) (nI 4) = (fX1_readDigit (Z, D, nI p) 1 (gGL 4)).bind (fun r75 => (if r75.1 = (-1) then some (0, r75.2) else (fX1_readHead_L54 f ((tSg r75.2), ((lWe (tD r75.2)), (lCy (tD r75.2)), (lWr (tD r75.2)), (lPu (tD r75.2)), (lSl (tD r75.2)), (lPl (tD r75.2)), (lSp (tD r75.2)), (lSt (tD r75.2)), (upd (lLi (tD r75.2)) 4 r75.1), (lN_ (tD r75.2)), (lStn (tD r75.2)), (lClk (tD r75.2)), (lRnd (tD r75.2))), (tAt r75.2)) (nI 5)))) := by
    rw [fX1_readHead_L54, if_neg (show ¬ (5 : Int32) ≤ nI 4 by decide), gd_nI (by decide) (by decide), nI_clamp (by decide), if_pos (show gGL 4 ≤ 9 by decide), nI_1]
  have sM : fX5_readText_L69 (g + 2) (A, rf, nI len, nI p, nI n, nn, ac) v (nI 4) = (fX5_digit (A, rf, nI len, nI p, nI n, nn, ac) 1 9).bind (fun r88 => (fX5_readText_L69 (g + 1) (aw (mA r88.2) 2 103 r88.1, (mRef r88.2), (mSize r88.2), (mSpot r88.2), (mRN r88.2), (mN r88.2), (mActs r88.2)) r88.1 (nI 5))) := by
    rw [fX5_readText_L69, if_neg (show ¬ (5 : Int32) ≤ nI 4 by decide), if_neg hv, if_neg (show ¬ nI 4 = 0 by decide), if_neg (show ¬ nI 4 = 1 by decide), if_neg (show ¬ nI 4 = 3 by decide), e99, nI_1]
    simp (disch := omega) only [lt, gd_nI, nI_clamp]
  have dC : fX1_readDigit (Z, D, nI p) 1 (gGL 4) = some (if 1 ≤ dv Z len p ∧ dv Z len p ≤ 9 then (dv Z len p, (Z, D, nI (p + 1))) else (-1, (Z, D, nI p))) := cP
  rw [sC, sM, dC, mP, Option.bind_some, Option.bind_some]
  by_cases hok : (1 : Int32) ≤ dv Z len p ∧ dv Z len p ≤ 9
  · rw [if_pos hok, if_pos hok]
    generalize dv Z len p = w at hok ⊢
    have e0 : (0 : Int32).toInt = 0 := by decide
    have e1 : (1 : Int32).toInt = 1 := by decide
    have ok1 := hok.1
    obtain ⟨a, ha, rfl⟩ := nI_of (x := w) (fun z => by
      rw [fa_lt] at z
      rw [fa_le] at ok1
      omega)
    have i1 : 1 ≤ a := (nI_leI (a := 1) (by decide) ha).mp hok.1
    have i2 : a ≤ 9 := (nI_leI (b := 9) ha (by decide)).mp hok.2
    obtain ⟨w1, w9⟩ := neg1 (x := nI a) (nI_pos' ha)
    show TxR _ _ (Option.bind (if nI a = -1 then _ else _) _) _
    rw [if_neg w1]
    have hn := hs (nI a) ⟨a, i1, i2, rfl⟩
    have hn : HInv 5 n (lWe D, lCy D, lWr D, lPu D, lSl D, lPl D, lSp D, lSt D, upd (lLi D) 4 (nI a), lN_ D, lStn D, lClk D, lRnd D) (aw A 2 103 (nI a) 2) := by rw [aw_at]; exact hn
    exact hd_5 hl h60 hb hrow rf s0 r0 nn ac w9 (by omega) (by omega) (by omega) (hA2 _) hn
  · rw [if_neg hok, if_neg hok]
    exact hd_no (p2 := p) (by omega) (hA2 _) rfl rfl
theorem hd_3 {n p f g : Nat} {D : LSt} {A A0 : Nat → RI} (hl : sLen Z = nI len) (h60 : len ≤ 60) (hb : BytOk Z len) (hrow : ∀ i, i < len → sRow Z i = A0 1 i) (rf s0 r0 nn ac : Int32) {v : Int32} (hv : ¬ v = -9) (hp : p ≤ 9) (hf : 3 ≤ f) (hg : 4 ≤ g) (hA : ∀ c, c ≠ 2 → A c = A0 c) (hI : HInv 3 n D (A 2)) :
    TxR Z (A0, rf, nI len, s0, r0, nn, ac) ((fX1_readHead_L54 f (Z, D, nI p) (nI 3)).bind (fun r13 => fX1_findError_L19 KF r13.2 r13.1 0)) (fX5_readText_L69 g (A, rf, nI len, nI p, nI n, nn, ac) v (nI 3)) := by
  obtain ⟨f, rfl⟩ : ∃ f', f = f' + 1 := ⟨f - 1, by omega⟩
  obtain ⟨g, rfl⟩ : ∃ g', g = g' + 2 := ⟨g - 2, by omega⟩
  have hr1 : ∀ i, i < len → sRow Z i = A 1 i := fun i hi => (hrow i hi).trans (by rw [hA 1 (by decide)])
  have hs := fun v => HInv_step hI (show 3 < 5 by decide) (v := v)
  have hA2 : ∀ w c, c ≠ 2 → aw A 2 102 w c = A0 c := fun w c hc => (aw_ne hc).trans (hA c hc)
  have e99 : (99 : Int32) + nI 3 = nI 102 := nI_add 99 3
  have cP : fX1_readDigit (Z, D, nI p) 1 (gGL 3) = _ := c_digit hl h60 (by omega) D 1 4
  have mP : fX5_digit (A, rf, nI len, nI p, nI n, nn, ac) 1 4 = _ := m_digit hb h60 (by omega) hr1 rf (nI n) nn ac (by decide)
  have sC : fX1_readHead_L54 (f + 1) (Z, D, nI p) (nI 3) = (fX1_readDigit (Z, D, nI p) 1 (gGL 3)).bind (fun r75 => (if r75.1 = (-1) then some (0, r75.2) else (fX1_readHead_L54 f ((tSg r75.2), ((lWe (tD r75.2)), (lCy (tD r75.2)), (lWr (tD r75.2)), (lPu (tD r75.2)), (lSl (tD r75.2)), (lPl (tD r75.2)), (lSp (tD r75.2)), (lSt (tD r75.2)), (upd (lLi (tD r75.2)) 3 r75.1), (lN_ (tD r75.2)), (lStn (tD r75.2)), (lClk (tD r75.2)), (lRnd (tD r75.2))), (tAt r75.2)) (nI 4)))) := by
    rw [fX1_readHead_L54, if_neg (show ¬ (5 : Int32) ≤ nI 3 by decide), gd_nI (by decide) (by decide), nI_clamp (by decide), if_pos (show gGL 3 ≤ 9 by decide), nI_1]
  have sM : fX5_readText_L69 (g + 2) (A, rf, nI len, nI p, nI n, nn, ac) v (nI 3) = (fX5_digit (A, rf, nI len, nI p, nI n, nn, ac) 1 4).bind (fun r88 => (fX5_readText_L69 (g + 1) (aw (mA r88.2) 2 102 r88.1, (mRef r88.2), (mSize r88.2), (mSpot r88.2), (mRN r88.2), (mN r88.2), (mActs r88.2)) r88.1 (nI 4))) := by
    rw [fX5_readText_L69, if_neg (show ¬ (5 : Int32) ≤ nI 3 by decide), if_neg hv, if_neg (show ¬ nI 3 = 0 by decide), if_neg (show ¬ nI 3 = 1 by decide), if_pos (show nI 3 = 3 by decide), e99, nI_1]
    simp (disch := omega) only [lt, gd_nI, nI_clamp]
  have dC : fX1_readDigit (Z, D, nI p) 1 (gGL 3) = some (if 1 ≤ dv Z len p ∧ dv Z len p ≤ 4 then (dv Z len p, (Z, D, nI (p + 1))) else (-1, (Z, D, nI p))) := cP
  rw [sC, sM, dC, mP, Option.bind_some, Option.bind_some]
  by_cases hok : (1 : Int32) ≤ dv Z len p ∧ dv Z len p ≤ 4
  · rw [if_pos hok, if_pos hok]
    generalize dv Z len p = w at hok ⊢
    have e0 : (0 : Int32).toInt = 0 := by decide
    have e1 : (1 : Int32).toInt = 1 := by decide
    have ok1 := hok.1
    obtain ⟨a, ha, rfl⟩ := nI_of (x := w) (fun z => by
      rw [fa_lt] at z
      rw [fa_le] at ok1
      omega)
    have i1 : 1 ≤ a := (nI_leI (a := 1) (by decide) ha).mp hok.1
    have i2 : a ≤ 4 := (nI_leI (b := 4) ha (by decide)).mp hok.2
    obtain ⟨w1, w9⟩ := neg1 (x := nI a) (nI_pos' ha)
    show TxR _ _ (Option.bind (if nI a = -1 then _ else _) _) _
    rw [if_neg w1]
    have hn := hs (nI a) ⟨a, i1, i2, rfl⟩
    have hn : HInv 4 n (lWe D, lCy D, lWr D, lPu D, lSl D, lPl D, lSp D, lSt D, upd (lLi D) 3 (nI a), lN_ D, lStn D, lClk D, lRnd D) (aw A 2 102 (nI a) 2) := by rw [aw_at]; exact hn
    exact hd_4 hl h60 hb hrow rf s0 r0 nn ac w9 (by omega) (by omega) (by omega) (hA2 _) hn
  · rw [if_neg hok, if_neg hok]
    exact hd_no (p2 := p) (by omega) (hA2 _) rfl rfl
theorem hd_2 {n p f g : Nat} {D : LSt} {A A0 : Nat → RI} (hl : sLen Z = nI len) (h60 : len ≤ 60) (hb : BytOk Z len) (hrow : ∀ i, i < len → sRow Z i = A0 1 i) (rf s0 r0 nn ac : Int32) {v : Int32} (hv : ¬ v = -9) (hp : p ≤ 7) (hf : 4 ≤ f) (hg : 5 ≤ g) (hA : ∀ c, c ≠ 2 → A c = A0 c) (hI : HInv 2 n D (A 2)) :
    TxR Z (A0, rf, nI len, s0, r0, nn, ac) ((fX1_readHead_L54 f (Z, D, nI p) (nI 2)).bind (fun r13 => fX1_findError_L19 KF r13.2 r13.1 0)) (fX5_readText_L69 g (A, rf, nI len, nI p, nI n, nn, ac) v (nI 2)) := by
  obtain ⟨f, rfl⟩ : ∃ f', f = f' + 1 := ⟨f - 1, by omega⟩
  obtain ⟨g, rfl⟩ : ∃ g', g = g' + 2 := ⟨g - 2, by omega⟩
  have hr1 : ∀ i, i < len → sRow Z i = A 1 i := fun i hi => (hrow i hi).trans (by rw [hA 1 (by decide)])
  have hs := fun v => HInv_step hI (show 2 < 5 by decide) (v := v)
  have hA2 : ∀ w c, c ≠ 2 → aw A 2 101 w c = A0 c := fun w c hc => (aw_ne hc).trans (hA c hc)
  have e99 : (99 : Int32) + nI 2 = nI 101 := nI_add 99 2
  have cP : fX1_readDigit (Z, D, nI p) 1 (gGL 2) = _ := c_digit hl h60 (by omega) D 1 9
  have mP : fX5_digit (A, rf, nI len, nI p, nI n, nn, ac) 1 9 = _ := m_digit hb h60 (by omega) hr1 rf (nI n) nn ac (by decide)
  have sC : fX1_readHead_L54 (f + 1) (Z, D, nI p) (nI 2) = (fX1_readDigit (Z, D, nI p) 1 (gGL 2)).bind (fun r75 => (if r75.1 = (-1) then some (0, r75.2) else (fX1_readHead_L54 f ((tSg r75.2), ((lWe (tD r75.2)), (lCy (tD r75.2)), (lWr (tD r75.2)), (lPu (tD r75.2)), (lSl (tD r75.2)), (lPl (tD r75.2)), (lSp (tD r75.2)), (lSt (tD r75.2)), (upd (lLi (tD r75.2)) 2 r75.1), (lN_ (tD r75.2)), (lStn (tD r75.2)), (lClk (tD r75.2)), (lRnd (tD r75.2))), (tAt r75.2)) (nI 3)))) := by
    rw [fX1_readHead_L54, if_neg (show ¬ (5 : Int32) ≤ nI 2 by decide), gd_nI (by decide) (by decide), nI_clamp (by decide), if_pos (show gGL 2 ≤ 9 by decide), nI_1]
  have sM : fX5_readText_L69 (g + 2) (A, rf, nI len, nI p, nI n, nn, ac) v (nI 2) = (fX5_digit (A, rf, nI len, nI p, nI n, nn, ac) 1 9).bind (fun r88 => (fX5_readText_L69 (g + 1) (aw (mA r88.2) 2 101 r88.1, (mRef r88.2), (mSize r88.2), (mSpot r88.2), (mRN r88.2), (mN r88.2), (mActs r88.2)) r88.1 (nI 3))) := by
    rw [fX5_readText_L69, if_neg (show ¬ (5 : Int32) ≤ nI 2 by decide), if_neg hv, if_neg (show ¬ nI 2 = 0 by decide), if_neg (show ¬ nI 2 = 1 by decide), if_neg (show ¬ nI 2 = 3 by decide), e99, nI_1]
    simp (disch := omega) only [lt, gd_nI, nI_clamp]
  have dC : fX1_readDigit (Z, D, nI p) 1 (gGL 2) = some (if 1 ≤ dv Z len p ∧ dv Z len p ≤ 9 then (dv Z len p, (Z, D, nI (p + 1))) else (-1, (Z, D, nI p))) := cP
  rw [sC, sM, dC, mP, Option.bind_some, Option.bind_some]
  by_cases hok : (1 : Int32) ≤ dv Z len p ∧ dv Z len p ≤ 9
  · rw [if_pos hok, if_pos hok]
    generalize dv Z len p = w at hok ⊢
    have e0 : (0 : Int32).toInt = 0 := by decide
    have e1 : (1 : Int32).toInt = 1 := by decide
    have ok1 := hok.1
    obtain ⟨a, ha, rfl⟩ := nI_of (x := w) (fun z => by
      rw [fa_lt] at z
      rw [fa_le] at ok1
      omega)
    have i1 : 1 ≤ a := (nI_leI (a := 1) (by decide) ha).mp hok.1
    have i2 : a ≤ 9 := (nI_leI (b := 9) ha (by decide)).mp hok.2
    obtain ⟨w1, w9⟩ := neg1 (x := nI a) (nI_pos' ha)
    show TxR _ _ (Option.bind (if nI a = -1 then _ else _) _) _
    rw [if_neg w1]
    have hn := hs (nI a) ⟨a, i1, i2, rfl⟩
    have hn : HInv 3 n (lWe D, lCy D, lWr D, lPu D, lSl D, lPl D, lSp D, lSt D, upd (lLi D) 2 (nI a), lN_ D, lStn D, lClk D, lRnd D) (aw A 2 101 (nI a) 2) := by rw [aw_at]; exact hn
    exact hd_3 hl h60 hb hrow rf s0 r0 nn ac w9 (by omega) (by omega) (by omega) (hA2 _) hn
  · rw [if_neg hok, if_neg hok]
    exact hd_no (p2 := p) (by omega) (hA2 _) rfl rfl
theorem hd_1 {n p f g : Nat} {D : LSt} {A A0 : Nat → RI} (hl : sLen Z = nI len) (h60 : len ≤ 60) (hb : BytOk Z len) (hrow : ∀ i, i < len → sRow Z i = A0 1 i) (rf s0 r0 nn ac : Int32) {v : Int32} (hv : ¬ v = -9) (hp : p ≤ 5) (hf : 5 ≤ f) (hg : 6 ≤ g) (hA : ∀ c, c ≠ 2 → A c = A0 c) (hI : HInv 1 n D (A 2)) :
    TxR Z (A0, rf, nI len, s0, r0, nn, ac) ((fX1_readHead_L54 f (Z, D, nI p) (nI 1)).bind (fun r13 => fX1_findError_L19 KF r13.2 r13.1 0)) (fX5_readText_L69 g (A, rf, nI len, nI p, nI n, nn, ac) v (nI 1)) := by
  obtain ⟨f, rfl⟩ : ∃ f', f = f' + 1 := ⟨f - 1, by omega⟩
  obtain ⟨g, rfl⟩ : ∃ g', g = g' + 2 := ⟨g - 2, by omega⟩
  have hr1 : ∀ i, i < len → sRow Z i = A 1 i := fun i hi => (hrow i hi).trans (by rw [hA 1 (by decide)])
  have hs := fun v => HInv_step hI (show 1 < 5 by decide) (v := v)
  have hA2 : ∀ w c, c ≠ 2 → aw A 2 100 w c = A0 c := fun w c hc => (aw_ne hc).trans (hA c hc)
  have e99 : (99 : Int32) + nI 1 = nI 100 := nI_add 99 1
  obtain ⟨t1, t2, t3⟩ := dv_rng hb p
  obtain ⟨u1, u2, u3⟩ := dv_rng hb (p + 1)
  have cP : fX1_readPair (Z, D, nI p) 1 (gGL 1) 0 = _ := c_pair hl h60 (by omega) (fun q y => c_allow0 (Z, D, q) 1 50 y)
  have mP : fX5_two (A, rf, nI len, nI p, nI n, nn, ac) 1 50 = _ := m_two hb h60 (by omega) hr1 rf (nI n) nn ac (lo := 1) (hi := 50) (by decide) (by decide)
  have sC : fX1_readHead_L54 (f + 1) (Z, D, nI p) (nI 1) = (fX1_readPair (Z, D, nI p) 1 (gGL 1) 0).bind (fun r75 => (if r75.1 = (-1) then some (0, r75.2) else (fX1_readHead_L54 f ((tSg r75.2), ((lWe (tD r75.2)), (lCy (tD r75.2)), (lWr (tD r75.2)), (lPu (tD r75.2)), (lSl (tD r75.2)), (lPl (tD r75.2)), (lSp (tD r75.2)), (lSt (tD r75.2)), (upd (lLi (tD r75.2)) 1 r75.1), (lN_ (tD r75.2)), (lStn (tD r75.2)), (lClk (tD r75.2)), (lRnd (tD r75.2))), (tAt r75.2)) (nI 2)))) := by
    rw [fX1_readHead_L54, if_neg (show ¬ (5 : Int32) ≤ nI 1 by decide), gd_nI (by decide) (by decide), nI_clamp (by decide), if_neg (show ¬ gGL 1 ≤ 9 by decide), nI_1]
  have sM : fX5_readText_L69 (g + 2) (A, rf, nI len, nI p, nI n, nn, ac) v (nI 1) = (fX5_two (A, rf, nI len, nI p, nI n, nn, ac) 1 50).bind (fun r88 => (fX5_readText_L69 (g + 1) (aw (mA r88.2) 2 100 r88.1, (mRef r88.2), (mSize r88.2), (mSpot r88.2), (mRN r88.2), (mN r88.2), (mActs r88.2)) r88.1 (nI 2))) := by
    rw [fX5_readText_L69, if_neg (show ¬ (5 : Int32) ≤ nI 1 by decide), if_neg hv, if_neg (show ¬ nI 1 = 0 by decide), if_pos (show nI 1 = 1 by decide), e99, nI_1]
    simp (disch := omega) only [lt, gd_nI, nI_clamp]
  rw [sC, sM, cP, mP, Option.bind_some, Option.bind_some]
  by_cases hz : sCt (fun o => inP 1 50 (dv Z len p * 10 + nI o)) 10 = 0
  · rw [if_pos hz, if_pos hz]
    exact hd_no (p2 := p) (by omega) (hA2 _) rfl rfl
  · rw [if_neg hz, if_neg hz]
    by_cases hok : (0 ≤ dv Z len (p + 1) ∧ dv Z len (p + 1) ≤ 9) ∧ inP 1 50 (dv Z len p * 10 + dv Z len (p + 1)) = true
    · rw [if_pos hok, if_pos hok]
      obtain ⟨i1, i2⟩ := (inP_iff (by decide) (by decide) t1 t2 u1 u2).mp hok.2
      have ht := ten_toInt t1 t2 u1 u2
      generalize dv Z len p * 10 + dv Z len (p + 1) = w at ht ⊢
      obtain ⟨a, ha, rfl⟩ := nI_of (x := w) (fun z => by
        have z := (fa_lt _ _).mp z
        have e0 : (0 : Int32).toInt = 0 := by decide
        rw [ht, e0] at z
        omega)
      rw [nI_toInt ha] at ht
      obtain ⟨w1, w9⟩ := neg1 (x := nI a) (nI_pos' ha)
      show TxR _ _ (Option.bind (if nI a = -1 then _ else _) _) _
      rw [if_neg w1]
      have hn := hs (nI a) ⟨a, by omega, by show a ≤ 50; omega, rfl⟩
      have hn : HInv 2 n (lWe D, lCy D, lWr D, lPu D, lSl D, lPl D, lSp D, lSt D, upd (lLi D) 1 (nI a), lN_ D, lStn D, lClk D, lRnd D) (aw A 2 100 (nI a) 2) := by rw [aw_at]; exact hn
      exact hd_2 hl h60 hb hrow rf s0 r0 nn ac w9 (by omega) (by omega) (by omega) (hA2 _) hn
    · rw [if_neg hok, if_neg hok]
      exact hd_no (p2 := p + 1) (by omega) (hA2 _) rfl rfl
theorem hd_0 {n p f g : Nat} {D : LSt} {A A0 : Nat → RI} (hl : sLen Z = nI len) (h60 : len ≤ 60) (hb : BytOk Z len) (hrow : ∀ i, i < len → sRow Z i = A0 1 i) (rf s0 r0 nn ac : Int32) {v : Int32} (hv : ¬ v = -9) (hp : p ≤ 3) (hf : 6 ≤ f) (hg : 7 ≤ g) (hA : ∀ c, c ≠ 2 → A c = A0 c) (hI : HInv 0 n D (A 2)) :
    TxR Z (A0, rf, nI len, s0, r0, nn, ac) ((fX1_readHead_L54 f (Z, D, nI p) (nI 0)).bind (fun r13 => fX1_findError_L19 KF r13.2 r13.1 0)) (fX5_readText_L69 g (A, rf, nI len, nI p, nI n, nn, ac) v (nI 0)) := by
  obtain ⟨f, rfl⟩ : ∃ f', f = f' + 1 := ⟨f - 1, by omega⟩
  obtain ⟨g, rfl⟩ : ∃ g', g = g' + 2 := ⟨g - 2, by omega⟩
  have hr1 : ∀ i, i < len → sRow Z i = A 1 i := fun i hi => (hrow i hi).trans (by rw [hA 1 (by decide)])
  have hs := fun v => HInv_step hI (show 0 < 5 by decide) (v := v)
  have hA2 : ∀ w c, c ≠ 2 → aw A 2 99 w c = A0 c := fun w c hc => (aw_ne hc).trans (hA c hc)
  have e99 : (99 : Int32) + nI 0 = nI 99 := nI_add 99 0
  obtain ⟨t1, t2, t3⟩ := dv_rng hb p
  obtain ⟨u1, u2, u3⟩ := dv_rng hb (p + 1)
  have cP : fX1_readPair (Z, D, nI p) 1 (gGL 0) 0 = _ := c_pair hl h60 (by omega) (fun q y => c_allow0 (Z, D, q) 1 99 y)
  have mP : fX5_two (A, rf, nI len, nI p, nI n, nn, ac) 1 99 = _ := m_two hb h60 (by omega) hr1 rf (nI n) nn ac (lo := 1) (hi := 99) (by decide) (by decide)
  have sC : fX1_readHead_L54 (f + 1) (Z, D, nI p) (nI 0) = (fX1_readPair (Z, D, nI p) 1 (gGL 0) 0).bind (fun r75 => (if r75.1 = (-1) then some (0, r75.2) else (fX1_readHead_L54 f ((tSg r75.2), ((lWe (tD r75.2)), (lCy (tD r75.2)), (lWr (tD r75.2)), (lPu (tD r75.2)), (lSl (tD r75.2)), (lPl (tD r75.2)), (lSp (tD r75.2)), (lSt (tD r75.2)), (upd (lLi (tD r75.2)) 0 r75.1), (lN_ (tD r75.2)), (lStn (tD r75.2)), (lClk (tD r75.2)), (lRnd (tD r75.2))), (tAt r75.2)) (nI 1)))) := by
    rw [fX1_readHead_L54, if_neg (show ¬ (5 : Int32) ≤ nI 0 by decide), gd_nI (by decide) (by decide), nI_clamp (by decide), if_neg (show ¬ gGL 0 ≤ 9 by decide), nI_1]
  have sM : fX5_readText_L69 (g + 2) (A, rf, nI len, nI p, nI n, nn, ac) v (nI 0) = (fX5_two (A, rf, nI len, nI p, nI n, nn, ac) 1 99).bind (fun r88 => (fX5_readText_L69 (g + 1) (aw (mA r88.2) 2 99 r88.1, (mRef r88.2), (mSize r88.2), (mSpot r88.2), (mRN r88.2), (mN r88.2), (mActs r88.2)) r88.1 (nI 1))) := by
    rw [fX5_readText_L69, if_neg (show ¬ (5 : Int32) ≤ nI 0 by decide), if_neg hv, if_pos (show nI 0 = 0 by decide), e99, nI_1]
    simp (disch := omega) only [lt, gd_nI, nI_clamp]
  rw [sC, sM, cP, mP, Option.bind_some, Option.bind_some]
  by_cases hz : sCt (fun o => inP 1 99 (dv Z len p * 10 + nI o)) 10 = 0
  · rw [if_pos hz, if_pos hz]
    exact hd_no (p2 := p) (by omega) (hA2 _) rfl rfl
  · rw [if_neg hz, if_neg hz]
    by_cases hok : (0 ≤ dv Z len (p + 1) ∧ dv Z len (p + 1) ≤ 9) ∧ inP 1 99 (dv Z len p * 10 + dv Z len (p + 1)) = true
    · rw [if_pos hok, if_pos hok]
      obtain ⟨i1, i2⟩ := (inP_iff (by decide) (by decide) t1 t2 u1 u2).mp hok.2
      have ht := ten_toInt t1 t2 u1 u2
      generalize dv Z len p * 10 + dv Z len (p + 1) = w at ht ⊢
      obtain ⟨a, ha, rfl⟩ := nI_of (x := w) (fun z => by
        have z := (fa_lt _ _).mp z
        have e0 : (0 : Int32).toInt = 0 := by decide
        rw [ht, e0] at z
        omega)
      rw [nI_toInt ha] at ht
      obtain ⟨w1, w9⟩ := neg1 (x := nI a) (nI_pos' ha)
      show TxR _ _ (Option.bind (if nI a = -1 then _ else _) _) _
      rw [if_neg w1]
      have hn := hs (nI a) ⟨a, by omega, by show a ≤ 99; omega, rfl⟩
      have hn : HInv 1 n (lWe D, lCy D, lWr D, lPu D, lSl D, lPl D, lSp D, lSt D, upd (lLi D) 0 (nI a), lN_ D, lStn D, lClk D, lRnd D) (aw A 2 99 (nI a) 2) := by rw [aw_at]; exact hn
      exact hd_1 hl h60 hb hrow rf s0 r0 nn ac w9 (by omega) (by omega) (by omega) (hA2 _) hn
    · rw [if_neg hok, if_neg hok]
      exact hd_no (p2 := p + 1) (by omega) (hA2 _) rfl rfl
/-- the row set to 0, the draft cleared -/
def zR (A : Nat → RI) : Nat → (Nat → RI)
  | 0 => A
  | i + 1 => aw (zR A i) 2 i 0
theorem zR_ne (A : Nat → RI) {c : Nat} (hc : c ≠ 2) : ∀ i, zR A i c = A c
  | 0 => rfl
  | i + 1 => by rw [zR, aw_ne hc, zR_ne A hc i]
theorem zR_0 (A : Nat → RI) : ∀ i q, q < i → zR A i 2 q = 0
  | i + 1, q, h => by
    rw [zR, aw_at]
    by_cases e : q = i
    · subst e; rw [upd_at]
    · rw [upd_ne e]; exact zR_0 A i q (by omega)
def clP (L : LSt) : Nat → RI
  | 0 => lPl L
  | i + 1 => upd (clP L i) i (-1)
theorem clP_1 (L : LSt) : ∀ i q, q < i → clP L i q = -1
  | i + 1, q, h => by
    rw [clP]
    by_cases e : q = i
    · subst e; rw [upd_at]
    · rw [upd_ne e]; exact clP_1 L i q (by omega)
theorem c_clear (L : LSt) : fX0_clear L = some (lWe L, lCy L, lWr L, lPu L, lSl L, clP L 12, lSp L, lSt L, lLi L, lN_ L, 0, 0, 0) := by
  refine run_up (fun f i => fX0_clear_L2 f (lWe L, lCy L, lWr L, lPu L, lSl L, clP L i, lSp L, lSt L, lLi L, lN_ L, lStn L, lClk L, lRnd L) (nI i)) 12 (fun i f hi => ?_) (fun f => ?_) (by decide)
  · show fX0_clear_L2 (f + 1) _ (nI i) = _
    rw [fX0_clear_L2, if_neg (l12 hi), gd_nI hi (by decide), nI_clamp (by omega), nI_1]
    rfl
  · show fX0_clear_L2 (f + 1) _ (nI 12) = _
    rw [fX0_clear_L2, if_pos g12]
theorem m_zero (A : Nat → RI) (rf sz sp rn nn ac : Int32) : fX5_readText (A, rf, sz, sp, rn, nn, ac) = (if sz = 0 then some (0, (zR A 106, rf, sz, 0, rn, nn, ac)) else (if A 1 0 = 76 then (fX5_two (zR A 106, rf, sz, 1, rn, nn, ac) 4 20).bind (fun r56 => (fX5_readText_L69 KF ((mA r56.2), (mRef r56.2), (mSize r56.2), (mSpot r56.2), r56.1, (mN r56.2), (mActs r56.2)) r56.1 0)) else some (0, (zR A 106, rf, sz, 0, rn, nn, ac)))) := by
  refine run_up (fun f i => fX5_readText_L2 f (zR A i, rf, sz, sp, rn, nn, ac) (nI i)) 106 (fun i f hi => ?_) (fun f => ?_) (by decide)
  · show fX5_readText_L2 (f + 1) _ (nI i) = _
    rw [fX5_readText_L2, if_neg (show ¬ (106 : Int32) ≤ nI i from nI_ge (b := 106) hi (by decide)), gd_nI hi (by decide), nI_clamp (by omega), nI_1]
    rfl
  · show fX5_readText_L2 (f + 1) _ (nI 106) = _
    rw [fX5_readText_L2, if_pos (show (106 : Int32) ≤ nI 106 by decide)]
    have e1 := zR_ne A (show 1 ≠ 2 by decide) 106
    generalize zR A 106 = B at e1 ⊢
    show (if sz = 0 then _ else (if B 1 0 = 76 then _ else _)) = _
    rw [e1]
/-- the whole reading -/
theorem o_text {D : LSt} {q : Int32} {A : Nat → RI} (hl : sLen Z = nI len) (h60 : len ≤ 60) (hb : BytOk Z len) (hrow : ∀ i, i < len → sRow Z i = A 1 i) (rf sp rn nn ac : Int32) : TxR Z (A, rf, nI len, sp, rn, nn, ac) (fX1_findError (Z, D, q)) (fX5_readText (A, rf, nI len, sp, rn, nn, ac)) := by
  have hZ : ∀ c, c ≠ 2 → zR A 106 c = A c := fun c hc => zR_ne A hc 106
  rw [m_zero]
  unfold fX1_findError
  show TxR _ _ ((fX0_clear D).bind _) _
  rw [c_clear, Option.bind_some]
  show TxR _ _ ((fX1_readHead (Z, (lWe D, lCy D, lWr D, lPu D, lSl D, clP D 12, lSp D, lSt D, lLi D, lN_ D, 0, 0, 0), nI 0)).bind _) _
  generalize hD : (lWe D, lCy D, lWr D, lPu D, lSl D, clP D 12, lSp D, lSt D, lLi D, lN_ D, (0 : Int32), (0 : Int32), (0 : Int64)) = D0
  have d1 : lStn D0 = 0 ∧ lClk D0 = 0 ∧ lRnd D0 = 0 := by rw [← hD]; exact ⟨rfl, rfl, rfl⟩
  have d2 : ∀ g, g < 12 → lPl D0 g = -1 := by rw [← hD]; exact clP_1 D 12
  have no : ∀ p2 : Nat, p2 < 100 → ∀ D1 A1 rn1, (∀ c, c ≠ 2 → A1 c = A c) → TxR Z (A, rf, nI len, sp, rn, nn, ac) ((some ((0 : Int32), (Z, D1, nI p2))).bind (fun r13 => fX1_findError_L19 KF r13.2 r13.1 0)) (some (nI p2, (A1, rf, nI len, nI p2, rn1, nn, ac))) := fun p2 hp D1 A1 rn1 hA1 => by
    rw [Option.bind_some]
    show TxR _ _ (fX1_findError_L19 KF (Z, D1, nI p2) 0 0) _
    rw [c_stop]
    exact ⟨nI p2, _, _, rfl, rfl, rfl, ⟨hA1, rfl, rfl, rfl, rfl⟩, Or.inr ⟨p2, hp, rfl⟩⟩
  unfold fX1_readHead
  show TxR _ _ (((fX3_at Z (nI 0)).bind (fun r8 => if r8 = 76 then (fX1_readPair (Z, D0, nI 0 + 1) 4 20 0).bind _ else some (0, (Z, D0, nI 0)))).bind _) _
  rw [c_at hl h60 (by decide), Option.bind_some]
  by_cases hlen : len = 0
  · have hch : ¬ chr Z len 0 = 76 := by unfold chr; rw [if_neg (by omega)]; decide
    rw [if_neg hch, if_pos (show nI len = 0 by rw [hlen]; rfl)]
    exact no 0 (by decide) D0 _ _ hZ
  · have hch : chr Z len 0 = A 1 0 := by unfold chr; rw [if_pos (by omega)]; exact hrow 0 (by omega)
    rw [hch, if_neg (show ¬ nI len = 0 from nI_ne0 (by omega) (by omega))]
    by_cases hL : A 1 0 = 76
    · rw [if_pos hL, if_pos hL]
      obtain ⟨t1, t2, t3⟩ := dv_rng hb 1
      obtain ⟨u1, u2, u3⟩ := dv_rng hb (1 + 1)
      have hr1 : ∀ i, i < len → sRow Z i = zR A 106 1 i := fun i hi => (hrow i hi).trans (by rw [hZ 1 (by decide)])
      have cP : fX1_readPair (Z, D0, nI 0 + 1) 4 20 0 = _ := c_pair (p := 1) hl h60 (by decide) (fun q y => c_allow0 (Z, D0, q) 4 20 y)
      have mP : fX5_two (zR A 106, rf, nI len, 1, rn, nn, ac) 4 20 = _ := m_two (p := 1) hb h60 (by decide) hr1 rf rn nn ac (lo := 4) (hi := 20) (by decide) (by decide)
      rw [cP, mP, Option.bind_some, Option.bind_some]
      by_cases hz : sCt (fun o => inP 4 20 (dv Z len 1 * 10 + nI o)) 10 = 0
      · rw [if_pos hz, if_pos hz]
        show TxR _ _ ((some ((0 : Int32), (Z, D0, nI 1))).bind _) (fX5_readText_L69 (2999 + 1) (zR A 106, rf, nI len, nI 1, -9, nn, ac) (-9) 0)
        rw [m_stop]
        exact no 1 (by decide) D0 _ _ hZ
      · rw [if_neg hz, if_neg hz]
        by_cases hok : (0 ≤ dv Z len (1 + 1) ∧ dv Z len (1 + 1) ≤ 9) ∧ inP 4 20 (dv Z len 1 * 10 + dv Z len (1 + 1)) = true
        · rw [if_pos hok, if_pos hok]
          obtain ⟨i1, i2⟩ := (inP_iff (by decide) (by decide) t1 t2 u1 u2).mp hok.2
          have ht := ten_toInt t1 t2 u1 u2
          generalize dv Z len 1 * 10 + dv Z len (1 + 1) = w at ht ⊢
          obtain ⟨n, hn, rfl⟩ := nI_of (x := w) (fun z => by
            have z := (fa_lt _ _).mp z
            have e0 : (0 : Int32).toInt = 0 := by decide
            rw [ht, e0] at z
            omega)
          rw [nI_toInt hn] at ht
          obtain ⟨w1, w9⟩ := neg1 (x := nI n) (nI_pos' hn)
          show TxR _ _ (Option.bind (if nI n = -1 then _ else _) _) _
          rw [if_neg w1]
          have z106 := zR_0 A 106
          have hI : HInv 0 n (lWe D0, lCy D0, lWr D0, lPu D0, lSl D0, lPl D0, lSp D0, lSt D0, lLi D0, nI n, lStn D0, lClk D0, lRnd D0) (zR A 106 2) := ⟨⟨rfl, by omega, by omega⟩, d1, d2, ⟨z106 96 (by decide), z106 97 (by decide), z106 98 (by decide), z106 104 (by decide), z106 105 (by decide)⟩, fun i hi => absurd hi (Nat.not_lt_zero i)⟩
          exact hd_0 hl h60 hb hrow rf sp rn nn ac w9 (p := 3) (by decide) (by decide) (by decide) hZ hI
        · rw [if_neg hok, if_neg hok]
          show TxR _ _ ((some ((0 : Int32), (Z, D0, nI (1 + 1)))).bind _) (fX5_readText_L69 (2999 + 1) (zR A 106, rf, nI len, nI (1 + 1), -9, nn, ac) (-9) 0)
          rw [m_stop]
          exact no (1 + 1) (by decide) D0 _ _ hZ
    · rw [if_neg hL, if_neg hL]
      exact no 0 (by decide) D0 _ _ hZ
end TH
theorem TxtOk.byt {Z : SSt} {sz : Int32} {r : RI} (h : TxtOk Z sz r) : ∃ len, len ≤ 60 ∧ sLen Z = nI len ∧ sz = nI len ∧ BytOk Z len ∧ ∀ i, i < len → sRow Z i = r i := by
  obtain ⟨len, t1, t2, t3, t4⟩ := h
  exact ⟨len, t1, t2, t3, fun i hi => by obtain ⟨a, c, hc, e⟩ := t4 i hi; exact ⟨c, hc, a.trans e⟩, fun i hi => (t4 i hi).1⟩
theorem o_reading {G : GSt} {M : MSt} (h : GRel G M) : TxR (tSg (gTxt G)) M (fX1_findError (gTxt G)) (fX5_readText M) := by
  obtain ⟨n, h1, h2, h3, h4, h5⟩ := h
  obtain ⟨len, t1, t2, t3, t4, t5⟩ := h3.byt
  obtain ⟨A, rf, sz, sp, rn, nn, ac⟩ := M
  have t3 : sz = nI len := t3
  subst t3
  exact o_text t2 t1 t4 t5 rf sp rn nn ac
theorem o_errorPosition {G : GSt} {M : MSt} (h : GRel G M) : ∃ v G' M', fX4_errorPosition G = some (v, G') ∧ fX5_errorPosition M = some (v, M') ∧ GRel G' M' := by
  obtain ⟨e, T', M', r1, r2, r3, ⟨r4, r5, r6, r7, r8⟩, -⟩ := o_reading (h.scr 0 (mSpot M) (mRN M))
  obtain ⟨n, h1, ⟨k, h2⟩, h3, h4, h5⟩ := h
  unfold fX4_errorPosition fX5_errorPosition
  rw [r1, r2, Option.bind_some, Option.bind_some]
  have r4 : ∀ c, c ≠ 2 → mA M' c = mA M c := r4
  refine ⟨e, (gLift G, gTrial G, T', gSum G, gHis G, gSav G, gSvd G, gRem G, gNxt G), M', rfl, rfl, ⟨n, r7.trans h1, ⟨k, ?_⟩, ?_, ?_, ?_⟩⟩
  · rw [r4 3 (by decide)]; exact h2
  · show TxtOk (tSg T') (mSize M') (mA M' 1)
    rw [r4 1 (by decide), r3, r6]; exact h3
  · rw [r4 5 (by decide), r8]; exact h4
  · rw [r4 7 (by decide), r4 6 (by decide)]; exact h5
theorem o_load {G : GSt} {M : MSt} (h : GRel G M) : OpR 2 9 (fX4_load G) (fX5_load M) := by
  obtain ⟨e, T', M', r1, r2, r3, ⟨r4, r5, r6, r7, r8⟩, r9⟩ := o_reading h
  obtain ⟨n, h1, ⟨k, h2⟩, h3, ⟨a, x, ha, hx, e1, e2, e3, hh⟩, h5⟩ := h
  unfold fX4_load fX5_load
  rw [r1, r2, Option.bind_some, Option.bind_some]
  rcases r9 with ⟨rfl, k', n', hN, hR⟩ | ⟨p, hp, rfl⟩
  · show OpR 2 9 (if (-9 : Int32) = -9 then _ else _) (if (-9 : Int32) = -9 then (fX5_refused M' 0).bind _ else _)
    rw [if_pos rfl, if_pos rfl, m_refused0, Option.bind_some]
    show OpR 2 9 _ (if (0 : Int32) = 0 then (fX5_copy 2 3 (mA M', (0 : Int32), mSize M', mSpot M', mRN M', mRN M', mActs M') 0 0 106).bind _ else _)
    rw [if_pos rfl]
    have c2 : fX5_copy 2 3 (mA M', (0 : Int32), mSize M', mSpot M', mRN M', mRN M', mActs M') 0 0 106 = some (va_up (mA M') 3 (fb_put (mA M' 3) (fun q => mA M' 2 (0 + q)) 0 106), (0 : Int32), mSize M', mSpot M', mRN M', mRN M', mActs M') := m_copy 2 3 (mA M', (0 : Int32), mSize M', mSpot M', mRN M', mRN M', mActs M') (a := 0) (b := 0) (m := 106) (Or.inl (by decide)) (by decide) (by decide) (by decide) (by decide)
    have hr : RRel k' n' (lCopy (gLift G) (tD T')) (fb_put (mA M' 3) (fun q => mA M' 2 (0 + q)) 0 106) := RRel_cong (RRel_lCopy hR) (fun q hq => (fb_put_in (Nat.zero_le q) (by omega)).trans (by show mA M' 2 (0 + (q - 0)) = mA M' 2 q; rw [Nat.sub_zero, Nat.zero_add]))
    have hcl : fX4_load_L43 KF (lCopy (gLift G) (tD T'), gTrial G, T', gSum G, gHis G, gSav G, gSvd G, 0, gNxt G) 0 = some (0, nI k', (lCopy (gLift G) (tD T'), gTrial G, T', gSum G, gHis G, gSav G, upd (upd (gSvd G) 0 (vp_nar .boolean 0)) 1 (vp_nar .boolean 0), 0, gNxt G)) := by
      show fX4_load_L43 (2997 + 1 + 1 + 1) _ (nI 0) = _
      rw [fX4_load_L43, if_neg (show ¬ (2 : Int32) ≤ nI 0 by decide), gd_nI (by decide) (by decide), nI_clamp (by decide), nI_1, fX4_load_L43, if_neg (show ¬ (2 : Int32) ≤ nI (0 + 1) by decide), gd_nI (by decide) (by decide), nI_clamp (by decide), nI_1, fX4_load_L43, if_pos (show (2 : Int32) ≤ nI (0 + 1 + 1) by decide)]
      show (fX0_grips (lCopy (gLift G) (tD T'))).bind _ = _
      rw [rc_grips (j := 3) (M := (va_up (mA M') 3 (fb_put (mA M' 3) (fun q => mA M' 2 (0 + q)) 0 106), (0 : Int32), mSize M', mSpot M', mRN M', mRN M', mActs M')) (by show RRel k' n' _ (va_up (mA M') 3 _ 3); rw [va_up_at]; exact hr), Option.bind_some]
    have r4 : ∀ c, c ≠ 2 → mA M' c = mA M c := r4
    refine ⟨0, nI k', (lCopy (gLift G) (tD T'), gTrial G, T', gSum G, gHis G, gSav G, upd (upd (gSvd G) 0 (vp_nar .boolean 0)) 1 (vp_nar .boolean 0), 0, gNxt G), nI k', (aw (aw (va_up (mA M') 3 (fb_put (mA M' 3) (fun q => mA M' 2 (0 + q)) 0 106)) 7 0 (vp_nar .boolean 0)) 7 1 (vp_nar .boolean 0), (0 : Int32), mSize M', mSpot M', mRN M', mRN M', (0 : Int32)), hcl, ?_, Or.inl rfl, rfl, fun _ => rfl, ⟨n', hN, ⟨k', ?_⟩, ?_, ⟨0, x, by omega, hx, rfl, rfl, e3, fun i hi => absurd hi (Nat.not_lt_zero i)⟩, fun i hi => ?_⟩⟩
    · refine (congrArg (fun z => Option.bind z _) c2).trans ?_
      rw [Option.bind_some]
      show some (aw (aw (va_up (mA M') 3 (fb_put (mA M' 3) (fun q => mA M' 2 (0 + q)) 0 106)) 7 0 (vp_nar .boolean 0)) 7 1 (vp_nar .boolean 0) 3 96, _) = _
      rw [aw_ne (by decide), aw_ne (by decide), va_up_at, hr.hk]
    · show RRel k' n' (lCopy (gLift G) (tD T')) (aw (aw (va_up (mA M') 3 (fb_put (mA M' 3) (fun q => mA M' 2 (0 + q)) 0 106)) 7 0 (vp_nar .boolean 0)) 7 1 (vp_nar .boolean 0) 3)
      rw [aw_ne (by decide), aw_ne (by decide), va_up_at]
      exact hr
    · show TxtOk (tSg T') (mSize M') (aw (aw (va_up (mA M') 3 (fb_put (mA M' 3) (fun q => mA M' 2 (0 + q)) 0 106)) 7 0 (vp_nar .boolean 0)) 7 1 (vp_nar .boolean 0) 1)
      rw [aw_ne (by decide), aw_ne (by decide), va_up_nx _ _ (by decide), r4 1 (by decide), r3, r6]
      exact h3
    · show upd (upd (gSvd G) 0 (vp_nar .boolean 0)) 1 (vp_nar .boolean 0) i = aw (aw (va_up (mA M') 3 (fb_put (mA M' 3) (fun q => mA M' 2 (0 + q)) 0 106)) 7 0 (vp_nar .boolean 0)) 7 1 (vp_nar .boolean 0) 7 i ∧ (upd (upd (gSvd G) 0 (vp_nar .boolean 0)) 1 (vp_nar .boolean 0) i = 0 ∨ _)
      have z0' : vp_nar .boolean 0 = 0 := by decide +kernel
      rw [aw_at, aw_at, z0']
      have : i = 0 ∨ i = 1 := by omega
      have q0 : ∀ f : RI, upd (upd f 0 0) 1 0 0 = 0 := fun f => (upd_ne (by decide)).trans upd_at
      have q1 : ∀ f : RI, upd (upd f 0 0) 1 0 1 = 0 := fun f => upd_at
      rcases this with rfl | rfl
      · exact ⟨(q0 _).trans (q0 _).symm, Or.inl (q0 _)⟩
      · exact ⟨(q1 _).trans (q1 _).symm, Or.inl (q1 _)⟩
  · have hp9 : ¬ nI p = -9 := (neg1 (x := nI p) (nI_pos' (by omega))).2
    show OpR 2 9 (if nI p = -9 then _ else _) (if nI p = -9 then _ else (fX5_refused M' 1).bind _)
    rw [if_neg hp9, if_neg hp9, m_refused1, Option.bind_some]
    show OpR 2 9 _ (if (1 : Int32) = 0 then _ else _)
    rw [if_neg c10]
    have r4 : ∀ c, c ≠ 2 → mA M' c = mA M c := r4
    refine ⟨2, 0, (gLift G, gTrial G, T', gSum G, gHis G, gSav G, gSvd G, gRem G, gNxt G), 0, (mA M', 1, mSize M', mSpot M', mRN M', mN M', mActs M'), rfl, rfl, Or.inr (Or.inl rfl), rfl, fun _ => rfl, ⟨n, r7.trans h1, ⟨k, ?_⟩, ?_, ⟨a, x, ha, hx, e1, r8.trans e2, e3, ?_⟩, ?_⟩⟩
    · show RRel k n (gLift G) (mA M' 3)
      rw [r4 3 (by decide)]; exact h2
    · show TxtOk (tSg T') (mSize M') (mA M' 1)
      rw [r4 1 (by decide), r3, r6]; exact h3
    · show ∀ i, i < a → ∃ k, RRel k n (gHis G ((x + 14 - a + i) % 14)) (fun q => mA M' 5 (106 * i + q))
      rw [r4 5 (by decide)]; exact hh
    · show SavOk n _ _ (mA M' 7) (mA M' 6)
      rw [r4 7 (by decide), r4 6 (by decide)]; exact h5
/-- the start -/
theorem o_start : ∃ r M, fX0_init = some r ∧ fX5_init = some M ∧ GRel (r, r, ((z0, 0), r, 0), (z0, 0), (fun _ => r), (fun _ => r), z0, 0, 0) M := by
  have e1 : fX0_init = some (z0, z0, z0, z0, z0, clP (z0, z0, z0, z0, z0, z0, z0, z0, z0, 0, 0, 0, 0) 12, z0, z0, upd (upd (upd (upd (upd z0 0 10) 1 20) 2 4) 3 2) 4 3, 8, 0, 0, 0) := by
    unfold fX0_init
    rw [c_clear, Option.bind_some]
  refine ⟨_, _, e1, rfl, ⟨8, rfl, ⟨0, ⟨by decide, by decide, by decide, rfl, rfl⟩, ⟨0, by decide, rfl, rfl⟩, rfl, ⟨fun i hi => ?_, ?_⟩, ?_, fun g hg => absurd hg (Nat.not_lt_zero g), fun g _ hg => clP_1 _ 12 g hg, fun g q hg => absurd hg (Nat.not_lt_zero g)⟩, ⟨0, by decide, rfl, rfl, fun i hi => absurd hi (Nat.not_lt_zero i)⟩, ⟨0, 0, by decide, by decide, rfl, rfl, rfl, fun i hi => absurd hi (Nat.not_lt_zero i)⟩, fun i hi => ⟨rfl, Or.inl rfl⟩⟩⟩
  · have : i = 0 ∨ i = 1 ∨ i = 2 ∨ i = 3 ∨ i = 4 := by omega
    rcases this with rfl | rfl | rfl | rfl | rfl <;> rfl
  · exact ⟨⟨10, by decide, by decide, rfl⟩, ⟨20, by decide, by decide, rfl⟩, ⟨4, by decide, by decide, rfl⟩, ⟨2, by decide, by decide, rfl⟩, ⟨3, by decide, by decide, rfl⟩⟩
  · show (0 : Int64) = rOf _
    unfold rOf
    rfl

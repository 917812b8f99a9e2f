/-! MY OWN KIT, three: the reference's world: its object and nine rows -/
abbrev MSt : Type := (Nat → RI) × Int32 × Int32 × Int32 × Int32 × Int32 × Int32
abbrev mA (M : MSt) : Nat → RI := M.1
abbrev mRef (M : MSt) : Int32 := M.2.1
abbrev mSize (M : MSt) : Int32 := M.2.2.1
abbrev mSpot (M : MSt) : Int32 := M.2.2.2.1
abbrev mRN (M : MSt) : Int32 := M.2.2.2.2.1
abbrev mN (M : MSt) : Int32 := M.2.2.2.2.2.1
abbrev mActs (M : MSt) : Int32 := M.2.2.2.2.2.2
def MW (cI cZ : ClassId) (q : Nat) (M : MSt) : va_W := [(q, .inr (5, [.int (mRef M), .ref (q + 1), .int (mSize M), .int (mSpot M), .int (mRN M), .ref (q + 2), .int (mN M), .ref (q + 3), .ref (q + 4), .ref (q + 5), .int (mActs M), .ref (q + 6), .ref (q + 7), .ref (q + 8), .ref (q + 9)])), (q + 1, .inl (cI, 60, .inl (mA M 1))), (q + 2, .inl (cI, 106, .inl (mA M 2))), (q + 3, .inl (cI, 106, .inl (mA M 3))), (q + 4, .inl (cI, 106, .inl (mA M 4))), (q + 5, .inl (cI, 1484, .inl (mA M 5))), (q + 6, .inl (cI, 212, .inl (mA M 6))), (q + 7, .inl (cZ, 2, .inl (mA M 7))), (q + 8, .inl (cI, 4, .inl (mA M 8))), (q + 9, .inl (cI, 80, .inl (mA M 9)))]
theorem MW_ord (cI cZ : ClassId) (q : Nat) (M : MSt) : gOrd q (MW cI cZ q M) := ⟨rfl, rfl, rfl, rfl, rfl, rfl, rfl, rfl, rfl, rfl, trivial⟩
theorem MW_self {cI cZ : ClassId} {q : Nat} {M : MSt} : va_D (fIv q 10) (MW cI cZ q M) := gOrd_D (MW_ord cI cZ q M) fun _ h => h
def gRow (j : Nat) : Prop := j = 2 ∨ j = 3 ∨ j = 4
def mLen (j : Nat) : Nat := if j = 5 then 1484 else if j = 6 then 212 else 106
def gArr (j : Nat) : Prop := j = 2 ∨ j = 3 ∨ j = 4 ∨ j = 5 ∨ j = 6
theorem MW_at {cI cZ : ClassId} {q j : Nat} {M : MSt} (h : gRow j) : (MW cI cZ q M)[j]? = some (q + j, .inl (cI, 106, .inl (mA M j))) := by
  rcases h with rfl | rfl | rfl <;> rfl
theorem MW_set {cI cZ : ClassId} {q j : Nat} {M : MSt} {f : RI} (h : gRow j) : (MW cI cZ q M).set j (q + j, .inl (cI, 106, .inl f)) = MW cI cZ q (va_up (mA M) j f, mRef M, mSize M, mSpot M, mRN M, mN M, mActs M) := by
  rcases h with rfl | rfl | rfl <;> rfl
theorem MW_atC {cI cZ : ClassId} {q j : Nat} {M : MSt} (h : gArr j) : (MW cI cZ q M)[j]? = some (q + j, .inl (cI, mLen j, .inl (mA M j))) := by
  rcases h with rfl | rfl | rfl | rfl | rfl <;> rfl
theorem MW_setC {cI cZ : ClassId} {q j : Nat} {M : MSt} {f : RI} (h : gArr j) : (MW cI cZ q M).set j (q + j, .inl (cI, mLen j, .inl f)) = MW cI cZ q (va_up (mA M) j f, mRef M, mSize M, mSpot M, mRN M, mN M, mActs M) := by
  rcases h with rfl | rfl | rfl | rfl | rfl <;> rfl
def aw (A : Nat → RI) (j i : Nat) (x : Int32) : Nat → RI := va_up A j (upd (A j) i x)
def lt {α β : Type} (x : α) (k : α → Option β) : Option β := k x
theorem lt_some {α β : Type} {x : α} {k : α → Option β} {r : β} (h : lt x k = some r) : ∃ a, a = x ∧ k a = some r := ⟨x, rfl, h⟩
theorem MW_s1 {cI cZ : ClassId} {q : Nat} {M : MSt} {f : RI} : (MW cI cZ q M).set 1 (q + 1, .inl (cI, 60, .inl f)) = MW cI cZ q (va_up (mA M) 1 f, mRef M, mSize M, mSpot M, mRN M, mN M, mActs M) := rfl
theorem MW_s2 {cI cZ : ClassId} {q : Nat} {M : MSt} {f : RI} : (MW cI cZ q M).set 2 (q + 2, .inl (cI, 106, .inl f)) = MW cI cZ q (va_up (mA M) 2 f, mRef M, mSize M, mSpot M, mRN M, mN M, mActs M) := rfl
theorem MW_s3 {cI cZ : ClassId} {q : Nat} {M : MSt} {f : RI} : (MW cI cZ q M).set 3 (q + 3, .inl (cI, 106, .inl f)) = MW cI cZ q (va_up (mA M) 3 f, mRef M, mSize M, mSpot M, mRN M, mN M, mActs M) := rfl
theorem MW_s4 {cI cZ : ClassId} {q : Nat} {M : MSt} {f : RI} : (MW cI cZ q M).set 4 (q + 4, .inl (cI, 106, .inl f)) = MW cI cZ q (va_up (mA M) 4 f, mRef M, mSize M, mSpot M, mRN M, mN M, mActs M) := rfl
theorem MW_s5 {cI cZ : ClassId} {q : Nat} {M : MSt} {f : RI} : (MW cI cZ q M).set 5 (q + 5, .inl (cI, 1484, .inl f)) = MW cI cZ q (va_up (mA M) 5 f, mRef M, mSize M, mSpot M, mRN M, mN M, mActs M) := rfl
theorem MW_s6 {cI cZ : ClassId} {q : Nat} {M : MSt} {f : RI} : (MW cI cZ q M).set 6 (q + 6, .inl (cI, 212, .inl f)) = MW cI cZ q (va_up (mA M) 6 f, mRef M, mSize M, mSpot M, mRN M, mN M, mActs M) := rfl
theorem MW_s7 {cI cZ : ClassId} {q : Nat} {M : MSt} {f : RI} : (MW cI cZ q M).set 7 (q + 7, .inl (cZ, 2, .inl f)) = MW cI cZ q (va_up (mA M) 7 f, mRef M, mSize M, mSpot M, mRN M, mN M, mActs M) := rfl
theorem MW_s8 {cI cZ : ClassId} {q : Nat} {M : MSt} {f : RI} : (MW cI cZ q M).set 8 (q + 8, .inl (cI, 4, .inl f)) = MW cI cZ q (va_up (mA M) 8 f, mRef M, mSize M, mSpot M, mRN M, mN M, mActs M) := rfl
theorem MW_s9 {cI cZ : ClassId} {q : Nat} {M : MSt} {f : RI} : (MW cI cZ q M).set 9 (q + 9, .inl (cI, 80, .inl f)) = MW cI cZ q (va_up (mA M) 9 f, mRef M, mSize M, mSpot M, mRN M, mN M, mActs M) := rfl
def nzl {α : Type} (r : Int64) (k : Option α) : Option α := if r = 0 then none else k
theorem nzl_some {α : Type} {i : Int64} {k : Option α} {r : α} (h : nzl i k = some r) : ¬ i = 0 ∧ k = some r := by
  unfold nzl at h
  split at h
  · cases h
  · rename_i hn; exact ⟨hn, h⟩

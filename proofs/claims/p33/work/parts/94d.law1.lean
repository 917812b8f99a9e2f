set_option maxHeartbeats 4000000 in
set_option maxRecDepth 100000 in
/-- a word of the tables, by its place -/
theorem tb_at {s : State} {b i : Nat} {w : Cond} (hts : ∀ w ∈ lw_tbl, w.before #[Value.ref b] s = true) (h : lw_tbl[i]? = some w) : w.before #[Value.ref b] s = true := hts w (List.mem_of_getElem? h)
theorem ev_s58 {s : State} {b : Nat} (hts : ∀ w ∈ lw_tbl, w.before #[Value.ref b] s = true) (hg : ∀ w ∈ flatC (Jvm.Cond.and given_1 narrow_1), w.before #[Value.ref b] s = true) : ∃ a, vk_R RX4 58 "c is not 0 to 255" a s := by
  obtain ⟨a, c, cA, kA, q1, -⟩ := Cond.exactly_spec (args := #[Value.ref b]) (first := s) (o := none) (s := s) (idx := []) (t := .string "GripInspector" 58) (cls := "java/lang/String") (hg _ (by decide +kernel))
  exact ⟨a, vk_R.of (tb_at (i := 699) hts (by decide +kernel)) q1⟩
theorem ev_s72 {s : State} {b : Nat} (hts : ∀ w ∈ lw_tbl, w.before #[Value.ref b] s = true) (hg : ∀ w ∈ flatC (Jvm.Cond.and given_1 narrow_1), w.before #[Value.ref b] s = true) : ∃ a, vk_R RX4 72 "the text has 60 characters" a s := by
  obtain ⟨a, c, cA, kA, q1, -⟩ := Cond.exactly_spec (args := #[Value.ref b]) (first := s) (o := none) (s := s) (idx := []) (t := .string "GripInspector" 72) (cls := "java/lang/String") (hg _ (by decide +kernel))
  exact ⟨a, vk_R.of (tb_at (i := 704) hts (by decide +kernel)) q1⟩
theorem ev_s89 {s : State} {b : Nat} (hts : ∀ w ∈ lw_tbl, w.before #[Value.ref b] s = true) (hg : ∀ w ∈ flatC (Jvm.Cond.and given_1 narrow_1), w.before #[Value.ref b] s = true) : ∃ a, vk_R RX4 89 "the text is not a lift" a s := by
  obtain ⟨a, c, cA, kA, q1, -⟩ := Cond.exactly_spec (args := #[Value.ref b]) (first := s) (o := none) (s := s) (idx := []) (t := .string "GripInspector" 89) (cls := "java/lang/String") (hg _ (by decide +kernel))
  exact ⟨a, vk_R.of (tb_at (i := 856) hts (by decide +kernel)) q1⟩
theorem ev_s118 {s : State} {b : Nat} (hts : ∀ w ∈ lw_tbl, w.before #[Value.ref b] s = true) (hg : ∀ w ∈ flatC (Jvm.Cond.and given_1 narrow_1), w.before #[Value.ref b] s = true) : ∃ a, vk_R RX4 118 "what is not 0 to 12" a s := by
  obtain ⟨a, c, cA, kA, q1, -⟩ := Cond.exactly_spec (args := #[Value.ref b]) (first := s) (o := none) (s := s) (idx := []) (t := .string "GripInspector" 118) (cls := "java/lang/String") (hg _ (by decide +kernel))
  exact ⟨a, vk_R.of (tb_at (i := 347) hts (by decide +kernel)) q1⟩
theorem ev_s126 {s : State} {b : Nat} (hts : ∀ w ∈ lw_tbl, w.before #[Value.ref b] s = true) (hg : ∀ w ∈ flatC (Jvm.Cond.and given_1 narrow_1), w.before #[Value.ref b] s = true) : ∃ a, vk_R RX4 126 "no such grip" a s := by
  obtain ⟨a, c, cA, kA, q1, -⟩ := Cond.exactly_spec (args := #[Value.ref b]) (first := s) (o := none) (s := s) (idx := []) (t := .string "GripInspector" 126) (cls := "java/lang/String") (hg _ (by decide +kernel))
  exact ⟨a, vk_R.of (tb_at (i := 370) hts (by decide +kernel)) q1⟩
theorem ev_s132 {s : State} {b : Nat} (hts : ∀ w ∈ lw_tbl, w.before #[Value.ref b] s = true) (hg : ∀ w ∈ flatC (Jvm.Cond.and given_1 narrow_1), w.before #[Value.ref b] s = true) : ∃ a, vk_R RX4 132 "what is not 0 to 7" a s := by
  obtain ⟨a, c, cA, kA, q1, -⟩ := Cond.exactly_spec (args := #[Value.ref b]) (first := s) (o := none) (s := s) (idx := []) (t := .string "GripInspector" 132) (cls := "java/lang/String") (hg _ (by decide +kernel))
  exact ⟨a, vk_R.of (tb_at (i := 374) hts (by decide +kernel)) q1⟩
theorem ev_s141 {s : State} {b : Nat} (hts : ∀ w ∈ lw_tbl, w.before #[Value.ref b] s = true) (hg : ∀ w ∈ flatC (Jvm.Cond.and given_1 narrow_1), w.before #[Value.ref b] s = true) : ∃ a, vk_R RX4 141 "no such slot" a s := by
  obtain ⟨a, c, cA, kA, q1, -⟩ := Cond.exactly_spec (args := #[Value.ref b]) (first := s) (o := none) (s := s) (idx := []) (t := .string "GripInspector" 141) (cls := "java/lang/String") (hg _ (by decide +kernel))
  exact ⟨a, vk_R.of (tb_at (i := 551) hts (by decide +kernel)) q1⟩
theorem ev_s150 {s : State} {b : Nat} (hts : ∀ w ∈ lw_tbl, w.before #[Value.ref b] s = true) (hg : ∀ w ∈ flatC (Jvm.Cond.and given_1 narrow_1), w.before #[Value.ref b] s = true) : ∃ a, vk_R RX4 150 "i is negative" a s := by
  obtain ⟨a, c, cA, kA, q1, -⟩ := Cond.exactly_spec (args := #[Value.ref b]) (first := s) (o := none) (s := s) (idx := []) (t := .string "GripInspector" 150) (cls := "java/lang/String") (hg _ (by decide +kernel))
  exact ⟨a, vk_R.of (tb_at (i := 612) hts (by decide +kernel)) q1⟩
theorem ev_s162 {s : State} {b : Nat} (hts : ∀ w ∈ lw_tbl, w.before #[Value.ref b] s = true) (hg : ∀ w ∈ flatC (Jvm.Cond.and given_1 narrow_1), w.before #[Value.ref b] s = true) : ∃ a, vk_R RX4 162 "m is not 1 to 99" a s := by
  obtain ⟨a, c, cA, kA, q1, -⟩ := Cond.exactly_spec (args := #[Value.ref b]) (first := s) (o := none) (s := s) (idx := []) (t := .string "GripInspector" 162) (cls := "java/lang/String") (hg _ (by decide +kernel))
  exact ⟨a, vk_R.of (tb_at (i := 477) hts (by decide +kernel)) q1⟩
theorem ev_s170 {s : State} {b : Nat} (hts : ∀ w ∈ lw_tbl, w.before #[Value.ref b] s = true) (hg : ∀ w ∈ flatC (Jvm.Cond.and given_1 narrow_1), w.before #[Value.ref b] s = true) : ∃ a, vk_R RX4 170 "weight is not 0 to 3" a s := by
  obtain ⟨a, c, cA, kA, q1, -⟩ := Cond.exactly_spec (args := #[Value.ref b]) (first := s) (o := none) (s := s) (idx := []) (t := .string "GripInspector" 170) (cls := "java/lang/String") (hg _ (by decide +kernel))
  exact ⟨a, vk_R.of (tb_at (i := 733) hts (by decide +kernel)) q1⟩
theorem ev_s173 {s : State} {b : Nat} (hts : ∀ w ∈ lw_tbl, w.before #[Value.ref b] s = true) (hg : ∀ w ∈ flatC (Jvm.Cond.and given_1 narrow_1), w.before #[Value.ref b] s = true) : ∃ a, vk_R RX4 173 "there are 12 grips" a s := by
  obtain ⟨a, c, cA, kA, q1, -⟩ := Cond.exactly_spec (args := #[Value.ref b]) (first := s) (o := none) (s := s) (idx := []) (t := .string "GripInspector" 173) (cls := "java/lang/String") (hg _ (by decide +kernel))
  exact ⟨a, vk_R.of (tb_at (i := 738) hts (by decide +kernel)) q1⟩
theorem ev_s178 {s : State} {b : Nat} (hts : ∀ w ∈ lw_tbl, w.before #[Value.ref b] s = true) (hg : ∀ w ∈ flatC (Jvm.Cond.and given_1 narrow_1), w.before #[Value.ref b] s = true) : ∃ a, vk_R RX4 178 "no such grip or slot" a s := by
  obtain ⟨a, c, cA, kA, q1, -⟩ := Cond.exactly_spec (args := #[Value.ref b]) (first := s) (o := none) (s := s) (idx := []) (t := .string "GripInspector" 178) (cls := "java/lang/String") (hg _ (by decide +kernel))
  exact ⟨a, vk_R.of (tb_at (i := 713) hts (by decide +kernel)) q1⟩
theorem ev_s187 {s : State} {b : Nat} (hts : ∀ w ∈ lw_tbl, w.before #[Value.ref b] s = true) (hg : ∀ w ∈ flatC (Jvm.Cond.and given_1 narrow_1), w.before #[Value.ref b] s = true) : ∃ a, vk_R RX4 187 "it can\'t be put there" a s := by
  obtain ⟨a, c, cA, kA, q1, -⟩ := Cond.exactly_spec (args := #[Value.ref b]) (first := s) (o := none) (s := s) (idx := []) (t := .string "GripInspector" 187) (cls := "java/lang/String") (hg _ (by decide +kernel))
  exact ⟨a, vk_R.of (tb_at (i := 714) hts (by decide +kernel)) q1⟩
theorem ev_s193 {s : State} {b : Nat} (hts : ∀ w ∈ lw_tbl, w.before #[Value.ref b] s = true) (hg : ∀ w ∈ flatC (Jvm.Cond.and given_1 narrow_1), w.before #[Value.ref b] s = true) : ∃ a, vk_R RX4 193 "the grip is not on the line" a s := by
  obtain ⟨a, c, cA, kA, q1, -⟩ := Cond.exactly_spec (args := #[Value.ref b]) (first := s) (o := none) (s := s) (idx := []) (t := .string "GripInspector" 193) (cls := "java/lang/String") (hg _ (by decide +kernel))
  exact ⟨a, vk_R.of (tb_at (i := 747) hts (by decide +kernel)) q1⟩
theorem ev_s201 {s : State} {b : Nat} (hts : ∀ w ∈ lw_tbl, w.before #[Value.ref b] s = true) (hg : ∀ w ∈ flatC (Jvm.Cond.and given_1 narrow_1), w.before #[Value.ref b] s = true) : ∃ a, vk_R RX4 201 "the grip is scrapped" a s := by
  obtain ⟨a, c, cA, kA, q1, -⟩ := Cond.exactly_spec (args := #[Value.ref b]) (first := s) (o := none) (s := s) (idx := []) (t := .string "GripInspector" 201) (cls := "java/lang/String") (hg _ (by decide +kernel))
  exact ⟨a, vk_R.of (tb_at (i := 755) hts (by decide +kernel)) q1⟩
theorem ev_s209 {s : State} {b : Nat} (hts : ∀ w ∈ lw_tbl, w.before #[Value.ref b] s = true) (hg : ∀ w ∈ flatC (Jvm.Cond.and given_1 narrow_1), w.before #[Value.ref b] s = true) : ∃ a, vk_R RX4 209 "what or v is out of range" a s := by
  obtain ⟨a, c, cA, kA, q1, -⟩ := Cond.exactly_spec (args := #[Value.ref b]) (first := s) (o := none) (s := s) (idx := []) (t := .string "GripInspector" 209) (cls := "java/lang/String") (hg _ (by decide +kernel))
  exact ⟨a, vk_R.of (tb_at (i := 763) hts (by decide +kernel)) q1⟩
theorem ev_s211 {s : State} {b : Nat} (hts : ∀ w ∈ lw_tbl, w.before #[Value.ref b] s = true) (hg : ∀ w ∈ flatC (Jvm.Cond.and given_1 narrow_1), w.before #[Value.ref b] s = true) : ∃ a, vk_R RX4 211 "no state is remembered" a s := by
  obtain ⟨a, c, cA, kA, q1, -⟩ := Cond.exactly_spec (args := #[Value.ref b]) (first := s) (o := none) (s := s) (idx := []) (t := .string "GripInspector" 211) (cls := "java/lang/String") (hg _ (by decide +kernel))
  exact ⟨a, vk_R.of (tb_at (i := 832) hts (by decide +kernel)) q1⟩
theorem ev_s229 {s : State} {b : Nat} (hts : ∀ w ∈ lw_tbl, w.before #[Value.ref b] s = true) (hg : ∀ w ∈ flatC (Jvm.Cond.and given_1 narrow_1), w.before #[Value.ref b] s = true) : ∃ a, vk_R RX4 229 "what is not 0 to 2" a s := by
  obtain ⟨a, c, cA, kA, q1, -⟩ := Cond.exactly_spec (args := #[Value.ref b]) (first := s) (o := none) (s := s) (idx := []) (t := .string "GripInspector" 229) (cls := "java/lang/String") (hg _ (by decide +kernel))
  exact ⟨a, vk_R.of (tb_at (i := 581) hts (by decide +kernel)) q1⟩
theorem ev_s240 {s : State} {b : Nat} (hts : ∀ w ∈ lw_tbl, w.before #[Value.ref b] s = true) (hg : ∀ w ∈ flatC (Jvm.Cond.and given_1 narrow_1), w.before #[Value.ref b] s = true) : ∃ a, vk_R RX4 240 "passes is not 1 to 9" a s := by
  obtain ⟨a, c, cA, kA, q1, -⟩ := Cond.exactly_spec (args := #[Value.ref b]) (first := s) (o := none) (s := s) (idx := []) (t := .string "GripInspector" 240) (cls := "java/lang/String") (hg _ (by decide +kernel))
  exact ⟨a, vk_R.of (tb_at (i := 539) hts (by decide +kernel)) q1⟩
theorem ev_s242 {s : State} {b : Nat} (hts : ∀ w ∈ lw_tbl, w.before #[Value.ref b] s = true) (hg : ∀ w ∈ flatC (Jvm.Cond.and given_1 narrow_1), w.before #[Value.ref b] s = true) : ∃ a, vk_R RX4 242 "m is not 0 to 99" a s := by
  obtain ⟨a, c, cA, kA, q1, -⟩ := Cond.exactly_spec (args := #[Value.ref b]) (first := s) (o := none) (s := s) (idx := []) (t := .string "GripInspector" 242) (cls := "java/lang/String") (hg _ (by decide +kernel))
  exact ⟨a, vk_R.of (tb_at (i := 490) hts (by decide +kernel)) q1⟩
theorem ev_s244 {s : State} {b : Nat} (hts : ∀ w ∈ lw_tbl, w.before #[Value.ref b] s = true) (hg : ∀ w ∈ flatC (Jvm.Cond.and given_1 narrow_1), w.before #[Value.ref b] s = true) : ∃ a, vk_R RX4 244 "m or what is out of range" a s := by
  obtain ⟨a, c, cA, kA, q1, -⟩ := Cond.exactly_spec (args := #[Value.ref b]) (first := s) (o := none) (s := s) (idx := []) (t := .string "GripInspector" 244) (cls := "java/lang/String") (hg _ (by decide +kernel))
  exact ⟨a, vk_R.of (tb_at (i := 560) hts (by decide +kernel)) q1⟩
theorem ev_s255 {s : State} {b : Nat} (hts : ∀ w ∈ lw_tbl, w.before #[Value.ref b] s = true) (hg : ∀ w ∈ flatC (Jvm.Cond.and given_1 narrow_1), w.before #[Value.ref b] s = true) : ∃ a, vk_R RX4 255 "n is not 1 to 3" a s := by
  obtain ⟨a, c, cA, kA, q1, -⟩ := Cond.exactly_spec (args := #[Value.ref b]) (first := s) (o := none) (s := s) (idx := []) (t := .string "GripInspector" 255) (cls := "java/lang/String") (hg _ (by decide +kernel))
  exact ⟨a, vk_R.of (tb_at (i := 644) hts (by decide +kernel)) q1⟩
theorem ev_s261 {s : State} {b : Nat} (hts : ∀ w ∈ lw_tbl, w.before #[Value.ref b] s = true) (hg : ∀ w ∈ flatC (Jvm.Cond.and given_1 narrow_1), w.before #[Value.ref b] s = true) : ∃ a, vk_R RX4 261 "script is out of range" a s := by
  obtain ⟨a, c, cA, kA, q1, -⟩ := Cond.exactly_spec (args := #[Value.ref b]) (first := s) (o := none) (s := s) (idx := []) (t := .string "GripInspector" 261) (cls := "java/lang/String") (hg _ (by decide +kernel))
  exact ⟨a, vk_R.of (tb_at (i := 649) hts (by decide +kernel)) q1⟩
theorem ev_s273 {s : State} {b : Nat} (hts : ∀ w ∈ lw_tbl, w.before #[Value.ref b] s = true) (hg : ∀ w ∈ flatC (Jvm.Cond.and given_1 narrow_1), w.before #[Value.ref b] s = true) : ∃ a, vk_R RX4 273 "no such save slot" a s := by
  obtain ⟨a, c, cA, kA, q1, -⟩ := Cond.exactly_spec (args := #[Value.ref b]) (first := s) (o := none) (s := s) (idx := []) (t := .string "GripInspector" 273) (cls := "java/lang/String") (hg _ (by decide +kernel))
  exact ⟨a, vk_R.of (tb_at (i := 236) hts (by decide +kernel)) q1⟩
theorem ev_s278 {s : State} {b : Nat} (hts : ∀ w ∈ lw_tbl, w.before #[Value.ref b] s = true) (hg : ∀ w ∈ flatC (Jvm.Cond.and given_1 narrow_1), w.before #[Value.ref b] s = true) : ∃ a, vk_R RX4 278 "nothing has been saved there" a s := by
  obtain ⟨a, c, cA, kA, q1, -⟩ := Cond.exactly_spec (args := #[Value.ref b]) (first := s) (o := none) (s := s) (idx := []) (t := .string "GripInspector" 278) (cls := "java/lang/String") (hg _ (by decide +kernel))
  exact ⟨a, vk_R.of (tb_at (i := 296) hts (by decide +kernel)) q1⟩
theorem ev_Z {s : State} {b : Nat} (hts : ∀ w ∈ lw_tbl, w.before #[Value.ref b] s = true) (hg : ∀ w ∈ flatC (Jvm.Cond.and given_1 narrow_1), w.before #[Value.ref b] s = true) : ∃ t, gZ t s.heap.size s s.heap := by
  have hA : ∀ a : Nat, a < s.heap.size → ¬ (fun a => s.heap.size ≤ a) a := fun a h z => Nat.lt_irrefl _ (Nat.lt_of_lt_of_le h z)
  obtain ⟨t, h1, h2⟩ := va_Tof (args := #[Value.ref b]) (s := s) (tm := .static "GripInspector" "GREATEST_LIMITS" "[I") (ty := .int) (N := 5) (f := fun j => .int (gGL j)) (by decide) (hg _ (by decide +kernel)) (va_eqt (z := 5) (hg _ (by decide +kernel))) (fun j hj => by
    have : j = 0 ∨ j = 1 ∨ j = 2 ∨ j = 3 ∨ j = 4 := by omega
    rcases this with rfl | rfl | rfl | rfl | rfl
    · exact va_eqt (t := .elem (.static "GripInspector" "GREATEST_LIMITS" "[I") (.int 0)) (z := 99) (hg _ (by decide +kernel))
    · exact va_eqt (t := .elem (.static "GripInspector" "GREATEST_LIMITS" "[I") (.int 1)) (z := 50) (hg _ (by decide +kernel))
    · exact va_eqt (t := .elem (.static "GripInspector" "GREATEST_LIMITS" "[I") (.int 2)) (z := 9) (hg _ (by decide +kernel))
    · exact va_eqt (t := .elem (.static "GripInspector" "GREATEST_LIMITS" "[I") (.int 3)) (z := 4) (hg _ (by decide +kernel))
    · exact va_eqt (t := .elem (.static "GripInspector" "GREATEST_LIMITS" "[I") (.int 4)) (z := 9) (hg _ (by decide +kernel))) hA
  exact ⟨t, va_Zref (tb_at (i := 414) hts (by decide +kernel)) (tb_at (i := 15) hts (by decide +kernel)) h1 hA, h2, va_Nw.of rfl (tb_at (i := 413) hts (by decide +kernel))⟩
theorem ev_strs {s : State} {b : Nat} (hts : ∀ w ∈ lw_tbl, w.before #[Value.ref b] s = true) (hg : ∀ w ∈ flatC (Jvm.Cond.and given_1 narrow_1), w.before #[Value.ref b] s = true) : ∀ q ∈ gStrs, ∃ a, vk_R RX4 q.1 q.2 a s := by
  intro q hq
  unfold gStrs at hq
  simp only [List.mem_cons, List.not_mem_nil, or_false] at hq
  rcases hq with rfl | rfl | rfl | rfl | rfl | rfl | rfl | rfl | rfl | rfl | rfl | rfl | rfl | rfl | rfl | rfl | rfl | rfl | rfl | rfl | rfl | rfl | rfl | rfl | rfl
  · exact ev_s58 hts hg
  · exact ev_s72 hts hg
  · exact ev_s89 hts hg
  · exact ev_s118 hts hg
  · exact ev_s126 hts hg
  · exact ev_s132 hts hg
  · exact ev_s141 hts hg
  · exact ev_s150 hts hg
  · exact ev_s162 hts hg
  · exact ev_s170 hts hg
  · exact ev_s173 hts hg
  · exact ev_s178 hts hg
  · exact ev_s187 hts hg
  · exact ev_s193 hts hg
  · exact ev_s201 hts hg
  · exact ev_s209 hts hg
  · exact ev_s211 hts hg
  · exact ev_s229 hts hg
  · exact ev_s240 hts hg
  · exact ev_s242 hts hg
  · exact ev_s244 hts hg
  · exact ev_s255 hts hg
  · exact ev_s261 hts hg
  · exact ev_s273 hts hg
  · exact ev_s278 hts hg
theorem ev_all {s : State} {b : Nat} (hts : ∀ w ∈ lw_tbl, w.before #[Value.ref b] s = true) (hgv : (Jvm.Cond.and given_1 narrow_1).before #[Value.ref b] s = true) : ∃ t, gEnw t s.heap.size s s.heap := by
  have hg := flat_of_before _ hgv
  have hA : ∀ a : Nat, a < s.heap.size → ¬ (fun a => s.heap.size ≤ a) a := fun a h z => Nat.lt_irrefl _ (Nat.lt_of_lt_of_le h z)
  obtain ⟨t, hZ⟩ := ev_Z hts hg
  refine ⟨t, ⟨hZ, vx_Zqof (tb_at (i := 222) hts (by decide +kernel)) (tb_at (i := 20) hts (by decide +kernel)) (hg _ (by decide +kernel)) hA, vx_Zqof (tb_at (i := 224) hts (by decide +kernel)) (tb_at (i := 20) hts (by decide +kernel)) (hg _ (by decide +kernel)) hA, ev_strs hts hg, fun E hE => ?_, fun y hy => ?_⟩, fun q hq => ?_⟩
  · simp only [List.mem_cons, List.not_mem_nil, or_false] at hE
    rcases hE with rfl | rfl | rfl
    · exact va_Nw.of rfl (tb_at (i := 340) hts (by decide +kernel))
    · exact va_Nw.of rfl (tb_at (i := 289) hts (by decide +kernel))
    · exact va_Nw.of rfl (tb_at (i := 197) hts (by decide +kernel))
  · unfold gDc at hy
    simp only [List.mem_cons, List.not_mem_nil, or_false] at hy
    rcases hy with rfl | rfl | rfl
    · exact va_Nw.of rfl (tb_at (i := 199) hts (by decide +kernel))
    · exact va_Nw.of rfl (tb_at (i := 201) hts (by decide +kernel))
    · exact va_Nw.of rfl (tb_at (i := 203) hts (by decide +kernel))
  · unfold gPairs at hq
    simp only [List.mem_cons, List.not_mem_nil, or_false] at hq
    rcases hq with rfl | rfl | rfl | rfl | rfl | rfl <;> exact va_Nc.of (args := #[Value.ref b]) (hg _ (by decide +kernel))
theorem ev_ns {s : State} {b : Nat} (hts : ∀ w ∈ lw_tbl, w.before #[Value.ref b] s = true) : gNs s :=
  ⟨va_Nw.of rfl (tb_at (i := 109) hts (by decide +kernel)), va_Nw.of rfl (tb_at (i := 103) hts (by decide +kernel)), va_Nw.of rfl (tb_at (i := 139) hts (by decide +kernel)), va_AO.of (tb_at (i := 147) hts (by decide +kernel))⟩
/-- the constant of the four places -/
theorem ev_ch {s : State} {b : Nat} (hts : ∀ w ∈ lw_tbl, w.before #[Value.ref b] s = true) (hgv : (Jvm.Cond.and given_1 narrow_1).before #[Value.ref b] s = true) : ∃ a, gChr s.heap.size a s s.heap := by
  have hg := flat_of_before _ hgv
  have hA : ∀ a : Nat, a < s.heap.size → ¬ (fun a => s.heap.size ≤ a) a := fun a h z => Nat.lt_irrefl _ (Nat.lt_of_lt_of_le h z)
  have one : ∀ {i : Nat}, i < 1 → i = 0 := fun h => by omega
  obtain ⟨adK, adV, h1, h2⟩ := vk_Sof (args := #[Value.ref b]) (s := s) (N := 1) (tm := fun _ => .string RL 205) (len := [4]) (byt := [[64, 103, 119, 120]]) (A := fun a => s.heap.size ≤ a) (fun i hi => by rw [one hi]; decide) (fun i hi => hg _ (by decide +kernel)) (fun i hi => hg _ (by decide +kernel)) (fun i hi => hg _ (by decide +kernel)) (fun i hi => by rw [one hi]; exact hg _ (by decide +kernel)) (fun i hi j hj => by
    rw [one hi] at hj ⊢
    have hj : j < 4 := hj
    rcases (show j = 0 ∨ j = 1 ∨ j = 2 ∨ j = 3 by omega) with rfl | rfl | rfl | rfl
    · exact hg _ (by decide +kernel)
    · exact hg _ (by decide +kernel)
    · exact hg _ (by decide +kernel)
    · exact hg _ (by decide +kernel)) (fun i j hi hj hne => absurd ((one hi).trans (one hj).symm) hne) hA
  refine ⟨adK 0, vk_R.of (tx := "@gwx") (tb_at (b := b) (i := 775) hts (by decide +kernel)) (h2 0 (by decide)), va_Zof (args := #[Value.ref b]) (tb_at (i := 785) hts (by decide +kernel)) (tb_at (i := 28) hts (by decide +kernel)) (va_eqt (hg _ (by decide +kernel))) hA, va_Zqof (args := #[Value.ref b]) (tb_at (i := 793) hts (by decide +kernel)) (tb_at (i := 30) hts (by decide +kernel)) (hg _ (by decide +kernel)) hA, adV 0, fun i hi => ?_, fun i j hi hj _ => (one hi).trans (one hj).symm⟩
  rw [one hi]
  exact h1.1 0 (by decide)
/-- the classes and the array classes -/
theorem ev_K {s : State} {b : Nat} (hts : ∀ w ∈ lw_tbl, w.before #[Value.ref b] s = true) : ∃ (D : va_G) (cI cC cZ cQ cJ : ClassId), va_K D vwCl (gTy cI cC cZ cQ cJ) s := by
  obtain ⟨cI, aI, fI⟩ := arr_of (ty := .int) (tb_at (i := 100) hts (by decide +kernel))
  obtain ⟨cC, aC, fC⟩ := arr_of (ty := .char) (tb_at (i := 123) hts (by decide +kernel))
  obtain ⟨cZ, aZ, fZ⟩ := arr_of (ty := .boolean) (tb_at (i := 181) hts (by decide +kernel))
  obtain ⟨cQ, aQ, fQ⟩ := arr_over (C := "GripInspector$Lift") (tb_at (i := 147) hts (by decide +kernel))
  obtain ⟨c0, s0, k0⟩ := u_known (C := RX0) (T := TX0) (N := 13) (n := 13) hts inX0 (tb_at (i := 41) hts (by decide +kernel))
  obtain ⟨c1, s1, k1⟩ := u_known (C := RX1) (T := TX1) (N := 3) (n := 3) hts inX1 (tb_at (i := 102) hts (by decide +kernel))
  obtain ⟨c2, s2, k2⟩ := u_known (C := RX2) (T := TX2) (N := 1) (n := 1) hts inX2 (tb_at (i := 141) hts (by decide +kernel))
  obtain ⟨c3, s3, k3⟩ := u_known (C := RX3) (T := TX3) (N := 2) (n := 2) hts inX3 (tb_at (i := 108) hts (by decide +kernel))
  obtain ⟨c4, s4, k4⟩ := u_known (C := RX4) (T := TX4) (N := 9) (n := 9) hts inX4 (tb_at (i := 33) hts (by decide +kernel))
  refine ⟨(fun k => if k = 0 then c0 else if k = 1 then c1 else if k = 2 then c2 else if k = 3 then c3 else c4, fun k => if k = 0 then s0 else if k = 1 then s1 else if k = 2 then s2 else if k = 3 then s3 else s4), cI, cC, cZ, cQ, cI, fun k q hq => ?_, fun k q hq => ?_⟩
  · match k, hq with
    | 0, hq => cases hq; exact k0
    | 1, hq => cases hq; exact k1
    | 2, hq => cases hq; exact k2
    | 3, hq => cases hq; exact k3
    | 4, hq => cases hq; exact k4
    | k + 5, hq => simp [vwCl] at hq
  · match k, hq with
    | 0, hq => cases hq; exact ⟨aI, fI⟩
    | 1, hq => cases hq; exact ⟨aC, fC⟩
    | 2, hq => cases hq; exact ⟨aZ, fZ⟩
    | 3, hq => cases hq; exact ⟨aQ, fQ⟩
    | k + 4, hq => simp [gTy] at hq

set_option maxHeartbeats 16000000 in
set_option maxRecDepth 100000 in
theorem kL_follows (l : Launch) (D : va_G) (cI cC cZ cQ cJ : ClassId) (t lo : Nat) (q : Nat) (G : GSt) (p0 : Int32) (hlo : lo ≤ q) (hlS : l.stackTraces = false) {R : GSt} (h : fL_follows G p0 = some R) : Met l yL_follows wsL_follows ({ frames := 10, cells := 5077, slots := 30462, locals := 169 } : Room) (va_Pc [.ref q, .int p0] (gBw D (gTy cI cC cZ cQ cJ) t lo (va_P D vwCl (GW cI cC cZ cQ q G)))) (va_Qi (fun r (_ : Unit) => r = 1) (fun _ t => va_P D vwCl (GW cI cC cZ cQ q R) t.heap) (fIv q 201)) 5077 30462 (fIv q 201) := by
  refine Met.ofW (cc := cL_follows) (maxL := 35) (ret := (some .boolean)) (by decide) rfl ?_
  intro p e s m args below meth c s₁ B hml hv
  obtain ⟨rfl, ⟨hP, hK⟩, hE⟩ := hv
  have hx := B.exec
  have hb := B.bytes
  have hr := B.returns
  have hts := atoms_spec (ws := wsL_follows) B.pre
  have hown : s.vm.findClass RL = some m.cls := findClass_of_methodNamed B.named
  generalize hRM : (headSpec wsL_follows ({ frames := 10, cells := 5077, slots := 30462, locals := 169 } : Room)).room = RM
  replace hRM : ({ frames := 10, cells := 5077, slots := 30462, locals := 169 } : Room) = RM := hRM
  subst hRM
  have hl := lv_entry ([.ref q, .int p0]) (n := 35) (Nat.le_of_ble_eq_true rfl)
  rw [lg_entry_eq]
  generalize (lg_sl ([.ref q, .int p0]) ++ List.replicate (35 - (lg_sl ([.ref q, .int p0])).length) Slot.unset).toArray = ls at hl ⊢
  have hl : lv_has ls 35 [(0, .ref q), (1, .int p0)] := hl
  have hS : va_S (fIv q 201) s.heap s.heap [] := va_S.rf
  have hP0 := hP
  have LP66 : ∀ (kk : GSt → Int32 → Int64 → Int32 → Int32 → Int32 → Int64 → Int64 → Int64 → Option GSt) (cX sX : Nat), cX ≤ 5077 → sX ≤ 30462 → ∀ (n cc ss : Nat) (S : GSt) (x1 : Int32) (x2 : Int64) (x4 : Int32) (x5 : Int32) (x6 : Int32) (x7 : Int64) (x10 : Int64) (x12 : Int64) (x14 : Int32) (H : Heap) (locs : List Loc) (ls : Array Slot), cc + n * 1 ≤ cX → ss + n * 6 ≤ sX → fL_follows_L66 kk n S x1 x2 x4 x5 x6 x7 x10 x12 x14 = some R → (∀ (S : GSt) (y1 : Int32) (y2 : Int64) (y4 : Int32) (y5 : Int32) (y6 : Int32) (y7 : Int64) (y10 : Int64) (y12 : Int64) (H : Heap) (locs : List Loc) (ls : Array Slot), kk S y1 y2 y4 y5 y6 y7 y10 y12 = some R → va_P D vwCl (GW cI cC cZ cQ q S) H → va_S (fIv q 201) s.heap H locs → lv_has ls 35 [(0, .ref q), (1, .int y1), (2, .long y2), (4, .int y4), (5, .int y5), (6, .int y6), (7, .long y7), (9, .int 1), (10, .long y10), (12, .long y12)] → W p l e ({ frames := 10, cells := 5077, slots := 30462, locals := 169 } : Room) s m ([.ref q, .int p0] : List Value).toArray below meth c H locs cX sX (MQ below (va_Qi (fun r (_ : Unit) => r = 1) (fun _ t => va_P D vwCl (GW cI cC cZ cQ q R) t.heap) (fIv q 201)) ([.ref q, .int p0] : List Value).toArray s 5077 30462 (fIv q 201)) (F0 m 91 ls [])) → va_P D vwCl (GW cI cC cZ cQ q S) H → va_S (fIv q 201) s.heap H locs → lv_has ls 35 [(0, .ref q), (1, .int x1), (2, .long x2), (4, .int x4), (5, .int x5), (6, .int x6), (7, .long x7), (9, .int 1), (10, .long x10), (12, .long x12), (14, .int x14)] → W p l e ({ frames := 10, cells := 5077, slots := 30462, locals := 169 } : Room) s m ([.ref q, .int p0] : List Value).toArray below meth c H locs cc ss (MQ below (va_Qi (fun r (_ : Unit) => r = 1) (fun _ t => va_P D vwCl (GW cI cC cZ cQ q R) t.heap) (fIv q 201)) ([.ref q, .int p0] : List Value).toArray s 5077 30462 (fIv q 201)) (F0 m 66 ls []) := by
    intro kk cX sX hcX hsX n
    induction n with
    | zero => intro cc ss S x1 x2 x4 x5 x6 x7 x10 x12 x14 H locs ls _ _ h hk hP hS hl; exact no_some h
    | succ n ih =>
      intro cc ss S x1 x2 x4 x5 x6 x7 x10 x12 x14 H locs ls hcc hss h hk hP hS hl
      rw [fL_follows_L66] at h
      refine lv_iload hx hb dL_follows_66 (lv_at hl 10 rfl) ?_
      refine lv_iload hx hb dL_follows_68 (lv_at hl 4 rfl) ?_
      refine lv_icmp_ge (tgt := 91) hx hb dL_follows_70 (by decide) (fun c2 => ?_) (fun c2 => ?_)
      · replace h := (if_pos c2).symm.trans h
        refine W.widen (k := cX) (n := sX) (by omega) (by omega) ?_
        exact hk S x1 x2 x4 x5 x6 x7 x10 x12 H locs ls h hP hS (lv_sub hl [0, 1, 2, 3, 4, 5, 6, 7, 8, 9] rfl)
      · replace h := (if_neg c2).symm.trans h
        refine lv_lload hx hb dL_follows_73 (lv_at hl 9 rfl) ?_
        refine lv_aload_n hx hb dL_follows_75 rfl (lv_at hl 0 rfl) ?_
        refine lv_iload hx hb dL_follows_76 (lv_at hl 10 rfl) ?_
        refine lv_iconst (v := 3) hx hb dL_follows_78 (by decide) ?_
        obtain ⟨r79, hr79, h⟩ := bd_some h
        refine gww_l (As := [.ref q, .int x14, .int 3]) (rest := [.long x12]) (k2 := (cc + 1)) (n2 := (ss + 6)) ⟨hx, hb, hml, hown, hts⟩ (gEnw_now hE hS (fun _ h9 => Nat.le_trans hlo h9.1)) hK (kL_grip l D cI cC cZ cQ cJ t lo q S x14 3 hlo hlS hr79) (vx_cwSW 3 hts gL_follows_L_grip rfl rfl rfl (by decide +kernel) ⟨Nat.le_of_ble_eq_true rfl, Nat.le_of_ble_eq_true rfl⟩) hP hS (fun _ h9 => h9) rfl hl.1 rfl (Nat.le_of_ble_eq_true rfl) ⟨by show _ ≤ (5077 : Nat); omega, by show _ ≤ (30462 : Nat); omega⟩ rfl rfl dL_follows_79 (fun H1 locs hP1 hS hz1 hk1 => ?_)
        have hP : va_P D vwCl (GW cI cC cZ cQ q r79.2) H1 := hP1
        generalize H1 = H at hP hS ⊢
        refine lv_ladd hx hb dL_follows_82 ?_
        refine lv_topl (fun yv3 eyv3 => ?_)
        rw [← eyv3] at h
        refine lv_lstore (lv' := [(12, .long yv3), (0, .ref q), (1, .int x1), (2, .long x2), (4, .int x4), (5, .int x5), (6, .int x6), (7, .long x7), (9, .int 1), (10, .long x10), (14, .int x14)]) hx hb dL_follows_83 hl (by decide) rfl (fun ls hl => ?_)
        refine lv_iinc (v := (x14 + 1)) (lv' := [(14, .int (x14 + 1)), (12, .long yv3), (0, .ref q), (1, .int x1), (2, .long x2), (4, .int x4), (5, .int x5), (6, .int x6), (7, .long x7), (9, .int 1), (10, .long x10)]) hx hb dL_follows_85 hl (k := 10) rfl rfl (by decide) rfl (fun ls hl => ?_)
        refine lv_goto (tgt := 66) hx hb dL_follows_88 (by decide) ?_
        exact ih (cc + 1) (ss + 6) r79.2 x1 x2 x4 x5 x6 x7 x10 yv3 (x14 + 1) H locs ls (by omega) (by omega) h hk hP hS (lv_sub hl [2, 3, 4, 5, 6, 7, 8, 9, 10, 1, 0] rfl)
  have LP325 : ∀ (kk : GSt → Int32 → Int64 → Int32 → Int32 → Int32 → Int64 → Int64 → Int64 → Int64 → Int32 → Int32 → Int64 → Option GSt) (cX sX : Nat), cX ≤ 5077 → sX ≤ 30462 → ∀ (n cc ss : Nat) (S : GSt) (x1 : Int32) (x2 : Int64) (x4 : Int32) (x5 : Int32) (x6 : Int32) (x7 : Int64) (x10 : Int64) (x12 : Int64) (x14 : Int64) (x20 : Int32) (x21 : Int32) (x26 : Int64) (x28 : Int32) (H : Heap) (locs : List Loc) (ls : Array Slot), cc + n * 1 ≤ cX → ss + n * 6 ≤ sX → fL_follows_L325 kk n S x1 x2 x4 x5 x6 x7 x10 x12 x14 x20 x21 x26 x28 = some R → (∀ (S : GSt) (y1 : Int32) (y2 : Int64) (y4 : Int32) (y5 : Int32) (y6 : Int32) (y7 : Int64) (y10 : Int64) (y12 : Int64) (y14 : Int64) (y20 : Int32) (y21 : Int32) (y26 : Int64) (H : Heap) (locs : List Loc) (ls : Array Slot), kk S y1 y2 y4 y5 y6 y7 y10 y12 y14 y20 y21 y26 = some R → va_P D vwCl (GW cI cC cZ cQ q S) H → va_S (fIv q 201) s.heap H locs → lv_has ls 35 [(0, .ref q), (1, .int y1), (2, .long y2), (4, .int y4), (5, .int y5), (6, .int y6), (7, .long y7), (9, .int 1), (10, .long y10), (12, .long y12), (14, .long y14), (20, .int y20), (21, .int y21), (26, .long y26)] → W p l e ({ frames := 10, cells := 5077, slots := 30462, locals := 169 } : Room) s m ([.ref q, .int p0] : List Value).toArray below meth c H locs cX sX (MQ below (va_Qi (fun r (_ : Unit) => r = 1) (fun _ t => va_P D vwCl (GW cI cC cZ cQ q R) t.heap) (fIv q 201)) ([.ref q, .int p0] : List Value).toArray s 5077 30462 (fIv q 201)) (F0 m 350 ls [])) → va_P D vwCl (GW cI cC cZ cQ q S) H → va_S (fIv q 201) s.heap H locs → lv_has ls 35 [(0, .ref q), (1, .int x1), (2, .long x2), (4, .int x4), (5, .int x5), (6, .int x6), (7, .long x7), (9, .int 1), (10, .long x10), (12, .long x12), (14, .long x14), (20, .int x20), (21, .int x21), (26, .long x26), (28, .int x28)] → W p l e ({ frames := 10, cells := 5077, slots := 30462, locals := 169 } : Room) s m ([.ref q, .int p0] : List Value).toArray below meth c H locs cc ss (MQ below (va_Qi (fun r (_ : Unit) => r = 1) (fun _ t => va_P D vwCl (GW cI cC cZ cQ q R) t.heap) (fIv q 201)) ([.ref q, .int p0] : List Value).toArray s 5077 30462 (fIv q 201)) (F0 m 325 ls []) := by
    intro kk cX sX hcX hsX n
    induction n with
    | zero => intro cc ss S x1 x2 x4 x5 x6 x7 x10 x12 x14 x20 x21 x26 x28 H locs ls _ _ h hk hP hS hl; exact no_some h
    | succ n ih =>
      intro cc ss S x1 x2 x4 x5 x6 x7 x10 x12 x14 x20 x21 x26 x28 H locs ls hcc hss h hk hP hS hl
      rw [fL_follows_L325] at h
      refine lv_iload hx hb dL_follows_325 (lv_at hl 14 rfl) ?_
      refine lv_iload hx hb dL_follows_327 (lv_at hl 4 rfl) ?_
      refine lv_icmp_ge (tgt := 350) hx hb dL_follows_329 (by decide) (fun c24 => ?_) (fun c24 => ?_)
      · replace h := (if_pos c24).symm.trans h
        refine W.widen (k := cX) (n := sX) (by omega) (by omega) ?_
        exact hk S x1 x2 x4 x5 x6 x7 x10 x12 x14 x20 x21 x26 H locs ls h hP hS (lv_sub hl [0, 1, 2, 3, 4, 5, 6, 7, 8, 9, 10, 11, 12, 13] rfl)
      · replace h := (if_neg c24).symm.trans h
        refine lv_lload hx hb dL_follows_332 (lv_at hl 13 rfl) ?_
        refine lv_aload_n hx hb dL_follows_334 rfl (lv_at hl 0 rfl) ?_
        refine lv_iload hx hb dL_follows_335 (lv_at hl 14 rfl) ?_
        refine lv_iconst (v := 3) hx hb dL_follows_337 (by decide) ?_
        obtain ⟨r338, hr338, h⟩ := bd_some h
        refine gww_l (As := [.ref q, .int x28, .int 3]) (rest := [.long x26]) (k2 := (cc + 1)) (n2 := (ss + 6)) ⟨hx, hb, hml, hown, hts⟩ (gEnw_now hE hS (fun _ h9 => Nat.le_trans hlo h9.1)) hK (kL_grip l D cI cC cZ cQ cJ t lo q S x28 3 hlo hlS hr338) (vx_cwSW 3 hts gL_follows_L_grip rfl rfl rfl (by decide +kernel) ⟨Nat.le_of_ble_eq_true rfl, Nat.le_of_ble_eq_true rfl⟩) hP hS (fun _ h9 => h9) rfl hl.1 rfl (Nat.le_of_ble_eq_true rfl) ⟨by show _ ≤ (5077 : Nat); omega, by show _ ≤ (30462 : Nat); omega⟩ rfl rfl dL_follows_338 (fun H1 locs hP1 hS hz1 hk1 => ?_)
        have hP : va_P D vwCl (GW cI cC cZ cQ q r338.2) H1 := hP1
        generalize H1 = H at hP hS ⊢
        refine lv_ladd hx hb dL_follows_341 ?_
        refine lv_topl (fun yv25 eyv25 => ?_)
        rw [← eyv25] at h
        refine lv_lstore (lv' := [(26, .long yv25), (0, .ref q), (1, .int x1), (2, .long x2), (4, .int x4), (5, .int x5), (6, .int x6), (7, .long x7), (9, .int 1), (10, .long x10), (12, .long x12), (14, .long x14), (20, .int x20), (21, .int x21), (28, .int x28)]) hx hb dL_follows_342 hl (by decide) rfl (fun ls hl => ?_)
        refine lv_iinc (v := (x28 + 1)) (lv' := [(28, .int (x28 + 1)), (26, .long yv25), (0, .ref q), (1, .int x1), (2, .long x2), (4, .int x4), (5, .int x5), (6, .int x6), (7, .long x7), (9, .int 1), (10, .long x10), (12, .long x12), (14, .long x14), (20, .int x20), (21, .int x21)]) hx hb dL_follows_344 hl (k := 14) rfl rfl (by decide) rfl (fun ls hl => ?_)
        refine lv_goto (tgt := 325) hx hb dL_follows_347 (by decide) ?_
        exact ih (cc + 1) (ss + 6) r338.2 x1 x2 x4 x5 x6 x7 x10 x12 x14 x20 x21 yv25 (x28 + 1) H locs ls (by omega) (by omega) h hk hP hS (lv_sub hl [2, 3, 4, 5, 6, 7, 8, 9, 10, 11, 12, 13, 14, 1, 0] rfl)
  have LP462 : ∀ (kk : GSt → Int32 → Int64 → Int32 → Int32 → Int32 → Int64 → Int64 → Int32 → Int32 → Int32 → Int32 → Option GSt) (cX sX : Nat), cX ≤ 5077 → sX ≤ 30462 → ∀ (n cc ss : Nat) (S : GSt) (x1 : Int32) (x2 : Int64) (x4 : Int32) (x5 : Int32) (x6 : Int32) (x7 : Int64) (x10 : Int64) (x21 : Int32) (x28 : Int32) (x29 : Int32) (x30 : Int32) (x31 : Int32) (H : Heap) (locs : List Loc) (ls : Array Slot), cc + n * 4 ≤ cX → ss + n * 24 ≤ sX → fL_follows_L462 kk n S x1 x2 x4 x5 x6 x7 x10 x21 x28 x29 x30 x31 = some R → (∀ (S : GSt) (y1 : Int32) (y2 : Int64) (y4 : Int32) (y5 : Int32) (y6 : Int32) (y7 : Int64) (y10 : Int64) (y21 : Int32) (y28 : Int32) (y29 : Int32) (y30 : Int32) (H : Heap) (locs : List Loc) (ls : Array Slot), kk S y1 y2 y4 y5 y6 y7 y10 y21 y28 y29 y30 = some R → va_P D vwCl (GW cI cC cZ cQ q S) H → va_S (fIv q 201) s.heap H locs → lv_has ls 35 [(0, .ref q), (1, .int y1), (2, .long y2), (4, .int y4), (5, .int y5), (6, .int y6), (7, .long y7), (10, .long y10), (21, .int y21), (28, .int y28), (29, .int y29), (30, .int y30)] → W p l e ({ frames := 10, cells := 5077, slots := 30462, locals := 169 } : Room) s m ([.ref q, .int p0] : List Value).toArray below meth c H locs cX sX (MQ below (va_Qi (fun r (_ : Unit) => r = 1) (fun _ t => va_P D vwCl (GW cI cC cZ cQ q R) t.heap) (fIv q 201)) ([.ref q, .int p0] : List Value).toArray s 5077 30462 (fIv q 201)) (F0 m 561 ls [])) → va_P D vwCl (GW cI cC cZ cQ q S) H → va_S (fIv q 201) s.heap H locs → lv_has ls 35 [(0, .ref q), (1, .int x1), (2, .long x2), (4, .int x4), (5, .int x5), (6, .int x6), (7, .long x7), (10, .long x10), (21, .int x21), (28, .int x28), (29, .int x29), (30, .int x30), (31, .int x31)] → W p l e ({ frames := 10, cells := 5077, slots := 30462, locals := 169 } : Room) s m ([.ref q, .int p0] : List Value).toArray below meth c H locs cc ss (MQ below (va_Qi (fun r (_ : Unit) => r = 1) (fun _ t => va_P D vwCl (GW cI cC cZ cQ q R) t.heap) (fIv q 201)) ([.ref q, .int p0] : List Value).toArray s 5077 30462 (fIv q 201)) (F0 m 462 ls []) := by
    intro kk cX sX hcX hsX n
    induction n with
    | zero => intro cc ss S x1 x2 x4 x5 x6 x7 x10 x21 x28 x29 x30 x31 H locs ls _ _ h hk hP hS hl; exact no_some h
    | succ n ih =>
      intro cc ss S x1 x2 x4 x5 x6 x7 x10 x21 x28 x29 x30 x31 H locs ls hcc hss h hk hP hS hl
      rw [fL_follows_L462] at h
      refine lv_iload hx hb dL_follows_462 (lv_at hl 12 rfl) ?_
      refine lv_iload hx hb dL_follows_464 (lv_at hl 4 rfl) ?_
      refine lv_icmp_ge (tgt := 561) hx hb dL_follows_466 (by decide) (fun c39 => ?_) (fun c39 => ?_)
      · replace h := (if_pos c39).symm.trans h
        refine W.widen (k := cX) (n := sX) (by omega) (by omega) ?_
        exact hk S x1 x2 x4 x5 x6 x7 x10 x21 x28 x29 x30 H locs ls h hP hS (lv_sub hl [0, 1, 2, 3, 4, 5, 6, 7, 8, 9, 10, 11] rfl)
      · replace h := (if_neg c39).symm.trans h
        refine lv_aload_n hx hb dL_follows_469 rfl (lv_at hl 0 rfl) ?_
        refine lv_iload hx hb dL_follows_470 (lv_at hl 12 rfl) ?_
        refine lv_bipush (v := 6) hx hb dL_follows_472 (by decide) ?_
        obtain ⟨r474, hr474, h⟩ := bd_some h
        refine gww_l (As := [.ref q, .int x31, .int 6]) (rest := []) (k2 := (cc + 1)) (n2 := (ss + 6)) ⟨hx, hb, hml, hown, hts⟩ (gEnw_now hE hS (fun _ h9 => Nat.le_trans hlo h9.1)) hK (kL_grip l D cI cC cZ cQ cJ t lo q S x31 6 hlo hlS hr474) (vx_cwSW 3 hts gL_follows_L_grip rfl rfl rfl (by decide +kernel) ⟨Nat.le_of_ble_eq_true rfl, Nat.le_of_ble_eq_true rfl⟩) hP hS (fun _ h9 => h9) rfl hl.1 rfl (Nat.le_of_ble_eq_true rfl) ⟨by show _ ≤ (5077 : Nat); omega, by show _ ≤ (30462 : Nat); omega⟩ rfl rfl dL_follows_474 (fun H1 locs hP1 hS hz1 hk1 => ?_)
        have hP : va_P D vwCl (GW cI cC cZ cQ q r474.2) H1 := hP1
        generalize H1 = H at hP hS ⊢
        refine lv_iload hx hb dL_follows_477 (lv_at hl 10 rfl) ?_
        refine lv_i2l hx hb dL_follows_479 rfl ?_
        refine lv_lsub hx hb dL_follows_480 ?_
        refine lv_lstore (lv' := [(32, .long (r474.1 - ((x29).toInt64))), (0, .ref q), (1, .int x1), (2, .long x2), (4, .int x4), (5, .int x5), (6, .int x6), (7, .long x7), (10, .long x10), (21, .int x21), (28, .int x28), (29, .int x29), (30, .int x30), (31, .int x31)]) hx hb dL_follows_481 hl (by decide) rfl (fun ls hl => ?_)
        refine lv_lload hx hb dL_follows_483 (lv_at hl 0 rfl) ?_
        refine lv_lconst (v := 0) hx hb dL_follows_485 (by decide) ?_
        refine W.lcmp hx hb dL_follows_486 ?_
        obtain ⟨a501_41, haa501_41, h⟩ := bd_some h
        have JJ501 : ∀ (H : Heap) (locs : List Loc) (ls : Array Slot), va_P D vwCl (GW cI cC cZ cQ q r474.2) H → va_S (fIv q 201) s.heap H locs → lv_has ls 35 [(0, .ref q), (1, .int x1), (2, .long x2), (4, .int x4), (5, .int x5), (6, .int x6), (7, .long x7), (10, .long x10), (21, .int x21), (28, .int x28), (29, .int x29), (30, .int x30), (31, .int x31)] → W p l e ({ frames := 10, cells := 5077, slots := 30462, locals := 169 } : Room) s m ([.ref q, .int p0] : List Value).toArray below meth c H locs (cc + 1) (ss + 6) (MQ below (va_Qi (fun r (_ : Unit) => r = 1) (fun _ t => va_P D vwCl (GW cI cC cZ cQ q R) t.heap) (fIv q 201)) ([.ref q, .int p0] : List Value).toArray s 5077 30462 (fIv q 201)) (F0 m 501 ls [.long a501_41]) := by
          intro H locs ls hP hS hl
          refine lv_lstore (lv' := [(32, .long a501_41), (0, .ref q), (1, .int x1), (2, .long x2), (4, .int x4), (5, .int x5), (6, .int x6), (7, .long x7), (10, .long x10), (21, .int x21), (28, .int x28), (29, .int x29), (30, .int x30), (31, .int x31)]) hx hb dL_follows_501 hl (by decide) rfl (fun ls hl => ?_)
          refine lv_iload hx hb dL_follows_503 (lv_at hl 12 rfl) ?_
          obtain ⟨a553_49, haa553_49, h⟩ := bd_some h
          have JJ553 : ∀ (H : Heap) (locs : List Loc) (ls : Array Slot), va_P D vwCl (GW cI cC cZ cQ q a553_49.1) H → va_S (fIv q 201) s.heap H locs → lv_has ls 35 [(0, .ref q), (1, .int x1), (2, .long x2), (4, .int x4), (5, .int x5), (6, .int x6), (7, .long x7), (10, .long x10), (21, .int x21), (28, .int x28), (29, .int x29), (31, .int x31)] → W p l e ({ frames := 10, cells := 5077, slots := 30462, locals := 169 } : Room) s m ([.ref q, .int p0] : List Value).toArray below meth c H locs (cc + 4) (ss + 24) (MQ below (va_Qi (fun r (_ : Unit) => r = 1) (fun _ t => va_P D vwCl (GW cI cC cZ cQ q R) t.heap) (fIv q 201)) ([.ref q, .int p0] : List Value).toArray s 5077 30462 (fIv q 201)) (F0 m 553 ls [.int a553_49.2]) := by
            intro H locs ls hP hS hl
            refine lv_istore (lv' := [(30, .int a553_49.2), (0, .ref q), (1, .int x1), (2, .long x2), (4, .int x4), (5, .int x5), (6, .int x6), (7, .long x7), (10, .long x10), (21, .int x21), (28, .int x28), (29, .int x29), (31, .int x31)]) hx hb dL_follows_553 hl (by decide) rfl (fun ls hl => ?_)
            refine lv_iinc (v := (x31 + 1)) (lv' := [(31, .int (x31 + 1)), (30, .int a553_49.2), (0, .ref q), (1, .int x1), (2, .long x2), (4, .int x4), (5, .int x5), (6, .int x6), (7, .long x7), (10, .long x10), (21, .int x21), (28, .int x28), (29, .int x29)]) hx hb dL_follows_555 hl (k := 12) rfl rfl (by decide) rfl (fun ls hl => ?_)
            refine lv_goto (tgt := 462) hx hb dL_follows_558 (by decide) ?_
            exact ih (cc + 4) (ss + 24) a553_49.1 x1 x2 x4 x5 x6 x7 x10 x21 x28 x29 a553_49.2 (x31 + 1) H locs ls (by omega) (by omega) h hk hP hS (lv_sub hl [2, 3, 4, 5, 6, 7, 8, 9, 10, 11, 12, 1, 0] rfl)
          clear h
          replace h := haa553_49
          clear haa553_49
          refine lv_if_eq (tgt := 552) hx hb dL_follows_505 (by decide) (fun c43 => ?_) (fun c43 => ?_)
          · replace h := (if_pos c43).symm.trans h
            refine lv_iconst (v := 0) hx hb dL_follows_552 (by decide) ?_
            have h := Option.some.inj h
            subst h
            refine W.widen (k := (cc + 4)) (n := (ss + 24)) (by omega) (by omega) ?_
            exact JJ553 H locs ls hP hS (lv_sub hl [1, 2, 3, 4, 5, 6, 7, 8, 9, 10, 11, 13] rfl)
          · replace h := (if_neg c43).symm.trans h
            refine lv_aload_n hx hb dL_follows_508 rfl (lv_at hl 1 rfl) ?_
            refine lv_iload hx hb dL_follows_509 (lv_at hl 13 rfl) ?_
            refine lv_iconst (v := 5) hx hb dL_follows_511 (by decide) ?_
            obtain ⟨r512, hr512, h⟩ := bd_some h
            refine gww_l (As := [.ref q, .int x31, .int 5]) (rest := []) (k2 := (cc + 2)) (n2 := (ss + 12)) ⟨hx, hb, hml, hown, hts⟩ (gEnw_now hE hS (fun _ h9 => Nat.le_trans hlo h9.1)) hK (kL_grip l D cI cC cZ cQ cJ t lo q r474.2 x31 5 hlo hlS hr512) (vx_cwSW 3 hts gL_follows_L_grip rfl rfl rfl (by decide +kernel) ⟨Nat.le_of_ble_eq_true rfl, Nat.le_of_ble_eq_true rfl⟩) hP hS (fun _ h9 => h9) rfl hl.1 rfl (Nat.le_of_ble_eq_true rfl) ⟨by show _ ≤ (5077 : Nat); omega, by show _ ≤ (30462 : Nat); omega⟩ rfl rfl dL_follows_512 (fun H1 locs hP1 hS hz1 hk1 => ?_)
            have hP : va_P D vwCl (GW cI cC cZ cQ q r512.2) H1 := hP1
            generalize H1 = H at hP hS ⊢
            refine lv_lconst (v := 0) hx hb dL_follows_515 (by decide) ?_
            refine W.lcmp hx hb dL_follows_516 ?_
            obtain ⟨a553_48, haa553_48, h⟩ := bd_some h
            have JJ553 : ∀ (H : Heap) (locs : List Loc) (ls : Array Slot), va_P D vwCl (GW cI cC cZ cQ q a553_48.1) H → va_S (fIv q 201) s.heap H locs → lv_has ls 35 [(0, .ref q), (1, .int x1), (2, .long x2), (4, .int x4), (5, .int x5), (6, .int x6), (7, .long x7), (10, .long x10), (21, .int x21), (28, .int x28), (29, .int x29), (31, .int x31)] → W p l e ({ frames := 10, cells := 5077, slots := 30462, locals := 169 } : Room) s m ([.ref q, .int p0] : List Value).toArray below meth c H locs (cc + 4) (ss + 24) (MQ below (va_Qi (fun r (_ : Unit) => r = 1) (fun _ t => va_P D vwCl (GW cI cC cZ cQ q R) t.heap) (fIv q 201)) ([.ref q, .int p0] : List Value).toArray s 5077 30462 (fIv q 201)) (F0 m 553 ls [.int a553_48.2]) := by
              intro H locs ls hP hS hl
              have h := Option.some.inj h
              subst h
              refine W.widen (k := (cc + 4)) (n := (ss + 24)) (by omega) (by omega) ?_
              exact JJ553 H locs ls hP hS (lv_sub hl [0, 1, 2, 3, 4, 5, 6, 7, 8, 9, 10, 11] rfl)
            clear h
            replace h := haa553_48
            clear haa553_48
            refine lv_if_ne (tgt := 548) hx hb dL_follows_517 (by decide) (fun c44 => ?_) (fun c44 => ?_)
            · replace h := (if_neg c44).symm.trans h
              refine lv_iconst (v := 1) hx hb dL_follows_548 (by decide) ?_
              refine lv_goto (tgt := 553) hx hb dL_follows_549 (by decide) ?_
              have h := Option.some.inj h
              subst h
              refine W.widen (k := (cc + 4)) (n := (ss + 24)) (by omega) (by omega) ?_
              exact JJ553 H locs ls hP hS (lv_sub hl [1, 2, 3, 4, 5, 6, 7, 8, 9, 10, 11, 13] rfl)
            · replace h := (if_pos c44).symm.trans h
              refine lv_lload hx hb dL_follows_520 (lv_at hl 0 rfl) ?_
              refine lv_aload_n hx hb dL_follows_522 rfl (lv_at hl 1 rfl) ?_
              refine lv_bipush (v := 11) hx hb dL_follows_523 (by decide) ?_
              obtain ⟨r525, hr525, h⟩ := bd_some h
              refine gww_l (As := [.ref q, .int 11]) (rest := [.long a501_41]) (k2 := (cc + 3)) (n2 := (ss + 18)) ⟨hx, hb, hml, hown, hts⟩ (gEnw_now hE hS (fun _ h9 => Nat.le_trans hlo h9.1)) hK (kL_about l D cI cC cZ cQ cJ t lo q r512.2 11 hlo hlS hr525) (vx_cwSW 2 hts gL_follows_L_about rfl rfl rfl (by decide +kernel) ⟨Nat.le_of_ble_eq_true rfl, Nat.le_of_ble_eq_true rfl⟩) hP hS (fun _ h9 => h9) rfl hl.1 rfl (Nat.le_of_ble_eq_true rfl) ⟨by show _ ≤ (5077 : Nat); omega, by show _ ≤ (30462 : Nat); omega⟩ rfl rfl dL_follows_525 (fun H1 locs hP1 hS hz1 hk1 => ?_)
              have hP : va_P D vwCl (GW cI cC cZ cQ q r525.2) H1 := hP1
              generalize H1 = H at hP hS ⊢
              refine W.lcmp hx hb dL_follows_528 ?_
              obtain ⟨a553_47, haa553_47, h⟩ := bd_some h
              have JJ553 : ∀ (H : Heap) (locs : List Loc) (ls : Array Slot), va_P D vwCl (GW cI cC cZ cQ q a553_47.1) H → va_S (fIv q 201) s.heap H locs → lv_has ls 35 [(0, .ref q), (1, .int x1), (2, .long x2), (4, .int x4), (5, .int x5), (6, .int x6), (7, .long x7), (10, .long x10), (21, .int x21), (28, .int x28), (29, .int x29), (31, .int x31)] → W p l e ({ frames := 10, cells := 5077, slots := 30462, locals := 169 } : Room) s m ([.ref q, .int p0] : List Value).toArray below meth c H locs (cc + 4) (ss + 24) (MQ below (va_Qi (fun r (_ : Unit) => r = 1) (fun _ t => va_P D vwCl (GW cI cC cZ cQ q R) t.heap) (fIv q 201)) ([.ref q, .int p0] : List Value).toArray s 5077 30462 (fIv q 201)) (F0 m 553 ls [.int a553_47.2]) := by
                intro H locs ls hP hS hl
                have h := Option.some.inj h
                subst h
                refine W.widen (k := (cc + 4)) (n := (ss + 24)) (by omega) (by omega) ?_
                exact JJ553 H locs ls hP hS (lv_sub hl [0, 1, 2, 3, 4, 5, 6, 7, 8, 9, 10, 11] rfl)
              clear h
              replace h := haa553_47
              clear haa553_47
              refine lv_if_lt (tgt := 552) hx hb dL_follows_529 (by decide) (fun c45 => ?_) (fun c45 => ?_)
              · replace h := (if_pos c45).symm.trans h
                refine lv_iconst (v := 0) hx hb dL_follows_552 (by decide) ?_
                have h := Option.some.inj h
                subst h
                refine W.widen (k := (cc + 4)) (n := (ss + 24)) (by omega) (by omega) ?_
                exact JJ553 H locs ls hP hS (lv_sub hl [1, 2, 3, 4, 5, 6, 7, 8, 9, 10, 11, 13] rfl)
              · replace h := (if_neg c45).symm.trans h
                refine lv_iload hx hb dL_follows_532 (lv_at hl 4 rfl) ?_
                refine lv_i2l hx hb dL_follows_534 rfl ?_
                refine lv_lload hx hb dL_follows_535 (lv_at hl 0 rfl) ?_
                refine lv_lsub hx hb dL_follows_537 ?_
                refine lv_aload_n hx hb dL_follows_538 rfl (lv_at hl 1 rfl) ?_
                refine lv_bipush (v := 11) hx hb dL_follows_539 (by decide) ?_
                obtain ⟨r541, hr541, h⟩ := bd_some h
                refine gww_l (As := [.ref q, .int 11]) (rest := [.long (((x4).toInt64) - a501_41)]) (k2 := (cc + 4)) (n2 := (ss + 24)) ⟨hx, hb, hml, hown, hts⟩ (gEnw_now hE hS (fun _ h9 => Nat.le_trans hlo h9.1)) hK (kL_about l D cI cC cZ cQ cJ t lo q r525.2 11 hlo hlS hr541) (vx_cwSW 2 hts gL_follows_L_about rfl rfl rfl (by decide +kernel) ⟨Nat.le_of_ble_eq_true rfl, Nat.le_of_ble_eq_true rfl⟩) hP hS (fun _ h9 => h9) rfl hl.1 rfl (Nat.le_of_ble_eq_true rfl) ⟨by show _ ≤ (5077 : Nat); omega, by show _ ≤ (30462 : Nat); omega⟩ rfl rfl dL_follows_541 (fun H1 locs hP1 hS hz1 hk1 => ?_)
                have hP : va_P D vwCl (GW cI cC cZ cQ q r541.2) H1 := hP1
                generalize H1 = H at hP hS ⊢
                refine W.lcmp hx hb dL_follows_544 ?_
                obtain ⟨a553_46, haa553_46, h⟩ := bd_some h
                have JJ553 : ∀ (H : Heap) (locs : List Loc) (ls : Array Slot), va_P D vwCl (GW cI cC cZ cQ q r541.2) H → va_S (fIv q 201) s.heap H locs → lv_has ls 35 [(0, .ref q), (1, .int x1), (2, .long x2), (4, .int x4), (5, .int x5), (6, .int x6), (7, .long x7), (10, .long x10), (21, .int x21), (28, .int x28), (29, .int x29), (31, .int x31)] → W p l e ({ frames := 10, cells := 5077, slots := 30462, locals := 169 } : Room) s m ([.ref q, .int p0] : List Value).toArray below meth c H locs (cc + 4) (ss + 24) (MQ below (va_Qi (fun r (_ : Unit) => r = 1) (fun _ t => va_P D vwCl (GW cI cC cZ cQ q R) t.heap) (fIv q 201)) ([.ref q, .int p0] : List Value).toArray s 5077 30462 (fIv q 201)) (F0 m 553 ls [.int a553_46]) := by
                  intro H locs ls hP hS hl
                  have h := Option.some.inj h
                  subst h
                  refine W.widen (k := (cc + 4)) (n := (ss + 24)) (by omega) (by omega) ?_
                  exact JJ553 H locs ls hP hS (lv_sub hl [0, 1, 2, 3, 4, 5, 6, 7, 8, 9, 10, 11] rfl)
                clear h
                replace h := haa553_46
                clear haa553_46
                refine lv_if_lt (tgt := 552) hx hb dL_follows_545 (by decide) (fun c46 => ?_) (fun c46 => ?_)
                · replace h := (if_pos c46).symm.trans h
                  refine lv_iconst (v := 0) hx hb dL_follows_552 (by decide) ?_
                  have h := Option.some.inj h
                  subst h
                  refine W.widen (k := (cc + 4)) (n := (ss + 24)) (by omega) (by omega) ?_
                  exact JJ553 H locs ls hP hS (lv_sub hl [1, 2, 3, 4, 5, 6, 7, 8, 9, 10, 11, 13] rfl)
                · replace h := (if_neg c46).symm.trans h
                  refine lv_iconst (v := 1) hx hb dL_follows_548 (by decide) ?_
                  refine lv_goto (tgt := 553) hx hb dL_follows_549 (by decide) ?_
                  have h := Option.some.inj h
                  subst h
                  refine W.widen (k := (cc + 4)) (n := (ss + 24)) (by omega) (by omega) ?_
                  exact JJ553 H locs ls hP hS (lv_sub hl [1, 2, 3, 4, 5, 6, 7, 8, 9, 10, 11, 13] rfl)
        clear h
        replace h := haa501_41
        clear haa501_41
        refine lv_if_ge (tgt := 499) hx hb dL_follows_487 (by decide) (fun c40 => ?_) (fun c40 => ?_)
        · replace h := (if_pos c40).symm.trans h
          refine lv_lload hx hb dL_follows_499 (lv_at hl 0 rfl) ?_
          have h := Option.some.inj h
          subst h
          refine W.widen (k := (cc + 1)) (n := (ss + 6)) (by omega) (by omega) ?_
          exact JJ501 H locs ls hP hS (lv_sub hl [1, 2, 3, 4, 5, 6, 7, 8, 9, 10, 11, 12, 13] rfl)
        · replace h := (if_neg c40).symm.trans h
          refine lv_lload hx hb dL_follows_490 (lv_at hl 0 rfl) ?_
          refine lv_iload hx hb dL_follows_492 (lv_at hl 4 rfl) ?_
          refine lv_i2l hx hb dL_follows_494 rfl ?_
          refine lv_ladd hx hb dL_follows_495 ?_
          refine lv_topl (fun yv41 eyv41 => ?_)
          rw [← eyv41] at h
          refine lv_goto (tgt := 501) hx hb dL_follows_496 (by decide) ?_
          have h := Option.some.inj h
          subst h
          refine W.widen (k := (cc + 1)) (n := (ss + 6)) (by omega) (by omega) ?_
          exact JJ501 H locs ls hP hS (lv_sub hl [1, 2, 3, 4, 5, 6, 7, 8, 9, 10, 11, 12, 13] rfl)
  have LP422 : ∀ (kk : GSt → Int32 → Int64 → Int32 → Int32 → Int32 → Int64 → Int32 → Int32 → Option GSt) (cX sX : Nat), cX ≤ 5077 → sX ≤ 30462 → ∀ (n cc ss : Nat) (S : GSt) (x1 : Int32) (x2 : Int64) (x4 : Int32) (x5 : Int32) (x6 : Int32) (x7 : Int64) (x10 : Int64) (x21 : Int32) (x28 : Int32) (x29 : Int32) (H : Heap) (locs : List Loc) (ls : Array Slot), cc + n * 204 ≤ cX → ss + n * 1224 ≤ sX → fL_follows_L422 kk n S x1 x2 x4 x5 x6 x7 x10 x21 x28 x29 = some R → (∀ (S : GSt) (y1 : Int32) (y2 : Int64) (y4 : Int32) (y5 : Int32) (y6 : Int32) (y7 : Int64) (y21 : Int32) (y28 : Int32) (H : Heap) (locs : List Loc) (ls : Array Slot), kk S y1 y2 y4 y5 y6 y7 y21 y28 = some R → va_P D vwCl (GW cI cC cZ cQ q S) H → va_S (fIv q 201) s.heap H locs → lv_has ls 35 [(0, .ref q), (1, .int y1), (2, .long y2), (4, .int y4), (5, .int y5), (6, .int y6), (7, .long y7), (9, .int 1), (21, .int y21), (28, .int y28)] → W p l e ({ frames := 10, cells := 5077, slots := 30462, locals := 169 } : Room) s m ([.ref q, .int p0] : List Value).toArray below meth c H locs cX sX (MQ below (va_Qi (fun r (_ : Unit) => r = 1) (fun _ t => va_P D vwCl (GW cI cC cZ cQ q R) t.heap) (fIv q 201)) ([.ref q, .int p0] : List Value).toArray s 5077 30462 (fIv q 201)) (F0 m 710 ls [])) → va_P D vwCl (GW cI cC cZ cQ q S) H → va_S (fIv q 201) s.heap H locs → lv_has ls 35 [(0, .ref q), (1, .int x1), (2, .long x2), (4, .int x4), (5, .int x5), (6, .int x6), (7, .long x7), (9, .int 1), (10, .long x10), (21, .int x21), (28, .int x28), (29, .int x29)] → W p l e ({ frames := 10, cells := 5077, slots := 30462, locals := 169 } : Room) s m ([.ref q, .int p0] : List Value).toArray below meth c H locs cc ss (MQ below (va_Qi (fun r (_ : Unit) => r = 1) (fun _ t => va_P D vwCl (GW cI cC cZ cQ q R) t.heap) (fIv q 201)) ([.ref q, .int p0] : List Value).toArray s 5077 30462 (fIv q 201)) (F0 m 422 ls []) := by
    intro kk cX sX hcX hsX n
    induction n with
    | zero => intro cc ss S x1 x2 x4 x5 x6 x7 x10 x21 x28 x29 H locs ls _ _ h hk hP hS hl; exact no_some h
    | succ n ih =>
      intro cc ss S x1 x2 x4 x5 x6 x7 x10 x21 x28 x29 H locs ls hcc hss h hk hP hS hl
      rw [fL_follows_L422] at h
      refine lv_iload hx hb dL_follows_422 (lv_at hl 11 rfl) ?_
      refine lv_iload hx hb dL_follows_424 (lv_at hl 3 rfl) ?_
      refine lv_icmp_ge (tgt := 710) hx hb dL_follows_426 (by decide) (fun c35 => ?_) (fun c35 => ?_)
      · replace h := (if_pos c35).symm.trans h
        refine W.widen (k := cX) (n := sX) (by omega) (by omega) ?_
        exact hk S x1 x2 x4 x5 x6 x7 x21 x28 H locs ls h hP hS (lv_sub hl [0, 1, 2, 3, 4, 5, 6, 7, 9, 10] rfl)
      · replace h := (if_neg c35).symm.trans h
        refine lv_iload hx hb dL_follows_429 (lv_at hl 7 rfl) ?_
        refine lv_if_eq (tgt := 710) hx hb dL_follows_431 (by decide) (fun c => absurd c (by decide)) (fun _ => ?_)
        refine lv_iload hx hb dL_follows_434 (lv_at hl 4 rfl) ?_
        refine lv_if_le (tgt := 710) hx hb dL_follows_436 (by decide) (fun c36 => ?_) (fun c36 => ?_)
        · replace h := (if_pos c36).symm.trans h
          refine W.widen (k := cX) (n := sX) (by omega) (by omega) ?_
          exact hk S x1 x2 x4 x5 x6 x7 x21 x28 H locs ls h hP hS (lv_sub hl [0, 1, 2, 3, 4, 5, 6, 7, 9, 10] rfl)
        · replace h := (if_neg c36).symm.trans h
          refine lv_aload_n hx hb dL_follows_439 rfl (lv_at hl 0 rfl) ?_
          refine lv_iload hx hb dL_follows_440 (lv_at hl 11 rfl) ?_
          obtain ⟨r442, hr442, h⟩ := bd_some h
          refine gww_l (As := [.ref q, .int x29]) (rest := []) (k2 := (cc + 1)) (n2 := (ss + 6)) ⟨hx, hb, hml, hown, hts⟩ (gEnw_now hE hS (fun _ h9 => Nat.le_trans hlo h9.1)) hK (kL_slot l D cI cC cZ cQ cJ t lo q S x29 hlo hlS hr442) (vx_cwSW 2 hts gL_follows_L_slot rfl rfl rfl (by decide +kernel) ⟨Nat.le_of_ble_eq_true rfl, Nat.le_of_ble_eq_true rfl⟩) hP hS (fun _ h9 => h9) rfl hl.1 rfl (Nat.le_of_ble_eq_true rfl) ⟨by show _ ≤ (5077 : Nat); omega, by show _ ≤ (30462 : Nat); omega⟩ rfl rfl dL_follows_442 (fun H1 locs hP1 hS hz1 hk1 => ?_)
          have hP : va_P D vwCl (GW cI cC cZ cQ q r442.2) H1 := hP1
          generalize H1 = H at hP hS ⊢
          refine lv_ldc2 (v := (-9)) hx hb hown (hts (.constantLong RL 193 (-9)) (by decide +kernel)) dL_follows_445 ?_
          refine W.lcmp hx hb dL_follows_448 ?_
          obtain ⟨a457_37, haa457_37, h⟩ := bd_some h
          have JJ457 : ∀ (H : Heap) (locs : List Loc) (ls : Array Slot), va_P D vwCl (GW cI cC cZ cQ q r442.2) H → va_S (fIv q 201) s.heap H locs → lv_has ls 35 [(0, .ref q), (1, .int x1), (2, .long x2), (4, .int x4), (5, .int x5), (6, .int x6), (7, .long x7), (10, .long x10), (21, .int x21), (28, .int x28), (29, .int x29)] → W p l e ({ frames := 10, cells := 5077, slots := 30462, locals := 169 } : Room) s m ([.ref q, .int p0] : List Value).toArray below meth c H locs (cc + 1) (ss + 6) (MQ below (va_Qi (fun r (_ : Unit) => r = 1) (fun _ t => va_P D vwCl (GW cI cC cZ cQ q R) t.heap) (fIv q 201)) ([.ref q, .int p0] : List Value).toArray s 5077 30462 (fIv q 201)) (F0 m 457 ls [.int a457_37]) := by
            intro H locs ls hP hS hl
            refine lv_istore (lv' := [(30, .int a457_37), (0, .ref q), (1, .int x1), (2, .long x2), (4, .int x4), (5, .int x5), (6, .int x6), (7, .long x7), (10, .long x10), (21, .int x21), (28, .int x28), (29, .int x29)]) hx hb dL_follows_457 hl (by decide) rfl (fun ls hl => ?_)
            refine lv_iconst (v := 0) hx hb dL_follows_459 (by decide) ?_
            refine lv_istore (lv' := [(31, .int 0), (30, .int a457_37), (0, .ref q), (1, .int x1), (2, .long x2), (4, .int x4), (5, .int x5), (6, .int x6), (7, .long x7), (10, .long x10), (21, .int x21), (28, .int x28), (29, .int x29)]) hx hb dL_follows_460 hl (by decide) rfl (fun ls hl => ?_)
            refine LP462 _ (cc + 53) (ss + 318) (by omega) (by omega) 13 (cc + 1) (ss + 6) r442.2 x1 x2 x4 x5 x6 x7 x10 x21 x28 x29 a457_37 0 H locs ls (by omega) (by omega) h (fun S y1 y2 y4 y5 y6 y7 y10 y21 y28 y29 y30 H locs ls h hP hS hl => ?_) hP hS (lv_sub hl [2, 3, 4, 5, 6, 7, 8, 9, 10, 11, 12, 1, 0] rfl)
            refine lv_iload hx hb dL_follows_561 (lv_at hl 9 rfl) ?_
            refine lv_iload hx hb dL_follows_563 (lv_at hl 11 rfl) ?_
            obtain ⟨a573_51, haa573_51, h⟩ := bd_some h
            have JJ573 : ∀ (H : Heap) (locs : List Loc) (ls : Array Slot), va_P D vwCl (GW cI cC cZ cQ q S) H → va_S (fIv q 201) s.heap H locs → lv_has ls 35 [(0, .ref q), (1, .int y1), (2, .long y2), (4, .int y4), (5, .int y5), (6, .int y6), (7, .long y7), (10, .long y10), (21, .int y21), (29, .int y29), (30, .int y30)] → W p l e ({ frames := 10, cells := 5077, slots := 30462, locals := 169 } : Room) s m ([.ref q, .int p0] : List Value).toArray below meth c H locs (cc + 53) (ss + 318) (MQ below (va_Qi (fun r (_ : Unit) => r = 1) (fun _ t => va_P D vwCl (GW cI cC cZ cQ q R) t.heap) (fIv q 201)) ([.ref q, .int p0] : List Value).toArray s 5077 30462 (fIv q 201)) (F0 m 573 ls [.int a573_51, .int y28]) := by
              intro H locs ls hP hS hl
              refine lv_iadd hx hb dL_follows_573 ?_
              refine lv_istore (lv' := [(28, .int (y28 + a573_51)), (0, .ref q), (1, .int y1), (2, .long y2), (4, .int y4), (5, .int y5), (6, .int y6), (7, .long y7), (10, .long y10), (21, .int y21), (29, .int y29), (30, .int y30)]) hx hb dL_follows_574 hl (by decide) rfl (fun ls hl => ?_)
              refine lv_iload hx hb dL_follows_576 (lv_at hl 11 rfl) ?_
              obtain ⟨a598_55, haa598_55, h⟩ := bd_some h
              have JJ598 : ∀ (H : Heap) (locs : List Loc) (ls : Array Slot), va_P D vwCl (GW cI cC cZ cQ q a598_55.1) H → va_S (fIv q 201) s.heap H locs → lv_has ls 35 [(0, .ref q), (1, .int y1), (2, .long y2), (4, .int y4), (5, .int y5), (6, .int y6), (7, .long y7), (10, .long y10), (21, .int y21), (28, .int (y28 + a573_51)), (29, .int y29)] → W p l e ({ frames := 10, cells := 5077, slots := 30462, locals := 169 } : Room) s m ([.ref q, .int p0] : List Value).toArray below meth c H locs (cc + 54) (ss + 324) (MQ below (va_Qi (fun r (_ : Unit) => r = 1) (fun _ t => va_P D vwCl (GW cI cC cZ cQ q R) t.heap) (fIv q 201)) ([.ref q, .int p0] : List Value).toArray s 5077 30462 (fIv q 201)) (F0 m 598 ls [.int a598_55.2]) := by
                intro H locs ls hP hS hl
                refine lv_istore (lv' := [(31, .int a598_55.2), (0, .ref q), (1, .int y1), (2, .long y2), (4, .int y4), (5, .int y5), (6, .int y6), (7, .long y7), (10, .long y10), (21, .int y21), (28, .int (y28 + a573_51)), (29, .int y29)]) hx hb dL_follows_598 hl (by decide) rfl (fun ls hl => ?_)
                refine lv_aload_n hx hb dL_follows_600 rfl (lv_at hl 1 rfl) ?_
                refine lv_iload hx hb dL_follows_601 (lv_at hl 9 rfl) ?_
                refine lv_iload hx hb dL_follows_603 (lv_at hl 11 rfl) ?_
                obtain ⟨r605, hr605, h⟩ := bd_some h
                refine gww_l (As := [.ref q, .int y21, .int y29]) (rest := []) (k2 := (cc + 55)) (n2 := (ss + 330)) ⟨hx, hb, hml, hown, hts⟩ (gEnw_now hE hS (fun _ h9 => Nat.le_trans hlo h9.1)) hK (kL_putOn l D cI cC cZ cQ cJ t lo q a598_55.1 y21 y29 hlo hlS hr605) (vx_cwSW 3 hts gL_follows_L_putOn rfl rfl rfl (by decide +kernel) ⟨Nat.le_of_ble_eq_true rfl, Nat.le_of_ble_eq_true rfl⟩) hP hS (fun _ h9 => h9) rfl hl.1 rfl (Nat.le_of_ble_eq_true rfl) ⟨by show _ ≤ (5077 : Nat); omega, by show _ ≤ (30462 : Nat); omega⟩ rfl rfl dL_follows_605 (fun H1 locs hP1 hS hz1 hk1 => ?_)
                have hP : va_P D vwCl (GW cI cC cZ cQ q r605.2) H1 := hP1
                generalize H1 = H at hP hS ⊢
                refine lv_iload hx hb dL_follows_608 (lv_at hl 0 rfl) ?_
                obtain ⟨a623_58, haa623_58, h⟩ := bd_some h
                have JJ623 : ∀ (H : Heap) (locs : List Loc) (ls : Array Slot), va_P D vwCl (GW cI cC cZ cQ q r605.2) H → va_S (fIv q 201) s.heap H locs → lv_has ls 35 [(0, .ref q), (1, .int y1), (2, .long y2), (4, .int y4), (5, .int y5), (6, .int y6), (7, .long y7), (10, .long y10), (21, .int y21), (28, .int (y28 + a573_51)), (29, .int y29), (31, .int a598_55.2)] → W p l e ({ frames := 10, cells := 5077, slots := 30462, locals := 169 } : Room) s m ([.ref q, .int p0] : List Value).toArray below meth c H locs (cc + 55) (ss + 330) (MQ below (va_Qi (fun r (_ : Unit) => r = 1) (fun _ t => va_P D vwCl (GW cI cC cZ cQ q R) t.heap) (fIv q 201)) ([.ref q, .int p0] : List Value).toArray s 5077 30462 (fIv q 201)) (F0 m 623 ls [.long a623_58, .long r605.1]) := by
                  intro H locs ls hP hS hl
                  refine W.lcmp hx hb dL_follows_623 ?_
                  refine lv_if_ne (tgt := 701) hx hb dL_follows_624 (by decide) (fun c60 => ?_) (fun c60 => ?_)
                  · replace h := (if_neg c60).symm.trans h
                    exact no_some h
                  · replace h := (if_pos c60).symm.trans h
                    refine lv_iload hx hb dL_follows_627 (lv_at hl 11 rfl) ?_
                    obtain ⟨a688_66, haa688_66, h⟩ := bd_some h
                    have JJ688 : ∀ (H : Heap) (locs : List Loc) (ls : Array Slot), va_P D vwCl (GW cI cC cZ cQ q a688_66) H → va_S (fIv q 201) s.heap H locs → lv_has ls 35 [(0, .ref q), (1, .int y1), (2, .long y2), (4, .int y4), (5, .int y5), (6, .int y6), (7, .long y7), (10, .long y10), (21, .int y21), (28, .int (y28 + a573_51)), (29, .int y29)] → W p l e ({ frames := 10, cells := 5077, slots := 30462, locals := 169 } : Room) s m ([.ref q, .int p0] : List Value).toArray below meth c H locs (cc + 60) (ss + 360) (MQ below (va_Qi (fun r (_ : Unit) => r = 1) (fun _ t => va_P D vwCl (GW cI cC cZ cQ q R) t.heap) (fIv q 201)) ([.ref q, .int p0] : List Value).toArray s 5077 30462 (fIv q 201)) (F0 m 688 ls []) := by
                      intro H locs ls hP hS hl
                      refine lv_aload_n hx hb dL_follows_688 rfl (lv_at hl 0 rfl) ?_
                      obtain ⟨r689, hr689, h⟩ := bd_some h
                      refine gws_l (As := [.ref q]) (rest := []) (k2 := (cc + 204)) (n2 := (ss + 1224)) ⟨hx, hb, hml, hown, hts⟩ (gEnw_now hE hS (fun _ h9 => Nat.le_trans hlo h9.1)) hK (kL_now l D cI cC cZ cQ cJ t lo q a688_66 hlo hlS hr689) (va_cwS 1 hts gL_follows_L_now rfl rfl rfl (by decide +kernel) ⟨Nat.le_of_ble_eq_true rfl, Nat.le_of_ble_eq_true rfl⟩) hP hS (fun _ h9 => h9) rfl hl.1 rfl (Nat.le_of_ble_eq_true rfl) ⟨by show _ ≤ (5077 : Nat); omega, by show _ ≤ (30462 : Nat); omega⟩ rfl rfl dL_follows_689 (fun H1 locs hP1 hS hz1 hk1 => ?_)
                      have hP : va_P D vwCl (GW cI cC cZ cQ q r689.2) H1 := hP1
                      generalize H1 = H at hP hS ⊢
                      refine lv_lload_n hx hb dL_follows_692 rfl (lv_at hl 2 rfl) ?_
                      refine W.lcmp hx hb dL_follows_693 ?_
                      refine lv_if_ne (tgt := 701) hx hb dL_follows_694 (by decide) (fun c68 => ?_) (fun c68 => ?_)
                      · replace h := (if_neg c68).symm.trans h
                        exact no_some h
                      · replace h := (if_pos c68).symm.trans h
                        refine lv_iconst (v := 1) hx hb dL_follows_697 (by decide) ?_
                        refine lv_goto (tgt := 702) hx hb dL_follows_698 (by decide) ?_
                        refine lv_istore (lv' := [(9, .int 1), (0, .ref q), (1, .int y1), (2, .long y2), (4, .int y4), (5, .int y5), (6, .int y6), (7, .long y7), (10, .long y10), (21, .int y21), (28, .int (y28 + a573_51)), (29, .int y29)]) hx hb dL_follows_702 hl (by decide) rfl (fun ls hl => ?_)
                        refine lv_iinc (v := (y29 + 1)) (lv' := [(29, .int (y29 + 1)), (9, .int 1), (0, .ref q), (1, .int y1), (2, .long y2), (4, .int y4), (5, .int y5), (6, .int y6), (7, .long y7), (10, .long y10), (21, .int y21), (28, .int (y28 + a573_51))]) hx hb dL_follows_704 hl (k := 11) rfl rfl (by decide) rfl (fun ls hl => ?_)
                        refine lv_goto (tgt := 422) hx hb dL_follows_707 (by decide) ?_
                        exact ih (cc + 204) (ss + 1224) r689.2 y1 y2 y4 y5 y6 y7 y10 y21 (y28 + a573_51) (y29 + 1) H locs ls (by omega) (by omega) h hk hP hS (lv_sub hl [2, 3, 4, 5, 6, 7, 8, 1, 9, 10, 11, 0] rfl)
                    clear h
                    replace h := haa688_66
                    clear haa688_66
                    refine lv_if_eq (tgt := 688) hx hb dL_follows_629 (by decide) (fun c61 => ?_) (fun c61 => ?_)
                    · replace h := (if_pos c61).symm.trans h
                      have h := Option.some.inj h
                      subst h
                      refine W.widen (k := (cc + 60)) (n := (ss + 360)) (by omega) (by omega) ?_
                      exact JJ688 H locs ls hP hS (lv_sub hl [0, 1, 2, 3, 4, 5, 6, 7, 8, 9, 10] rfl)
                    · replace h := (if_neg c61).symm.trans h
                      refine lv_aload_n hx hb dL_follows_632 rfl (lv_at hl 0 rfl) ?_
                      refine lv_iload hx hb dL_follows_633 (lv_at hl 10 rfl) ?_
                      obtain ⟨r635, hr635, h⟩ := bd_some h
                      refine gww_l (As := [.ref q, .int y29]) (rest := []) (k2 := (cc + 56)) (n2 := (ss + 336)) ⟨hx, hb, hml, hown, hts⟩ (gEnw_now hE hS (fun _ h9 => Nat.le_trans hlo h9.1)) hK (kL_slot l D cI cC cZ cQ cJ t lo q r605.2 y29 hlo hlS hr635) (vx_cwSW 2 hts gL_follows_L_slot rfl rfl rfl (by decide +kernel) ⟨Nat.le_of_ble_eq_true rfl, Nat.le_of_ble_eq_true rfl⟩) hP hS (fun _ h9 => h9) rfl hl.1 rfl (Nat.le_of_ble_eq_true rfl) ⟨by show _ ≤ (5077 : Nat); omega, by show _ ≤ (30462 : Nat); omega⟩ rfl rfl dL_follows_635 (fun H1 locs hP1 hS hz1 hk1 => ?_)
                      have hP : va_P D vwCl (GW cI cC cZ cQ q r635.2) H1 := hP1
                      generalize H1 = H at hP hS ⊢
                      refine lv_iload hx hb dL_follows_638 (lv_at hl 8 rfl) ?_
                      refine lv_i2l hx hb dL_follows_640 rfl ?_
                      refine W.lcmp hx hb dL_follows_641 ?_
                      refine lv_if_ne (tgt := 701) hx hb dL_follows_642 (by decide) (fun c62 => ?_) (fun c62 => ?_)
                      · replace h := (if_neg c62).symm.trans h
                        exact no_some h
                      · replace h := (if_pos c62).symm.trans h
                        refine lv_aload_n hx hb dL_follows_645 rfl (lv_at hl 0 rfl) ?_
                        refine lv_iload hx hb dL_follows_646 (lv_at hl 8 rfl) ?_
                        obtain ⟨r648, hr648, h⟩ := bd_some h
                        refine gww_l (As := [.ref q, .int y21]) (rest := []) (k2 := (cc + 57)) (n2 := (ss + 342)) ⟨hx, hb, hml, hown, hts⟩ (gEnw_now hE hS (fun _ h9 => Nat.le_trans hlo h9.1)) hK (kL_takeOff l D cI cC cZ cQ cJ t lo q r635.2 y21 hlo hlS hr648) (vx_cwSW 2 hts gL_follows_L_takeOff rfl rfl rfl (by decide +kernel) ⟨Nat.le_of_ble_eq_true rfl, Nat.le_of_ble_eq_true rfl⟩) hP hS (fun _ h9 => h9) rfl hl.1 rfl (Nat.le_of_ble_eq_true rfl) ⟨by show _ ≤ (5077 : Nat); omega, by show _ ≤ (30462 : Nat); omega⟩ rfl rfl dL_follows_648 (fun H1 locs hP1 hS hz1 hk1 => ?_)
                        have hP : va_P D vwCl (GW cI cC cZ cQ q r648.2) H1 := hP1
                        generalize H1 = H at hP hS ⊢
                        refine lv_iload hx hb dL_follows_651 (lv_at hl 10 rfl) ?_
                        refine lv_i2l hx hb dL_follows_653 rfl ?_
                        refine W.lcmp hx hb dL_follows_654 ?_
                        refine lv_if_ne (tgt := 701) hx hb dL_follows_655 (by decide) (fun c63 => ?_) (fun c63 => ?_)
                        · replace h := (if_neg c63).symm.trans h
                          exact no_some h
                        · replace h := (if_pos c63).symm.trans h
                          refine lv_aload_n hx hb dL_follows_658 rfl (lv_at hl 0 rfl) ?_
                          refine lv_iload hx hb dL_follows_659 (lv_at hl 8 rfl) ?_
                          refine lv_iconst (v := 5) hx hb dL_follows_661 (by decide) ?_
                          obtain ⟨r662, hr662, h⟩ := bd_some h
                          refine gww_l (As := [.ref q, .int y21, .int 5]) (rest := []) (k2 := (cc + 58)) (n2 := (ss + 348)) ⟨hx, hb, hml, hown, hts⟩ (gEnw_now hE hS (fun _ h9 => Nat.le_trans hlo h9.1)) hK (kL_grip l D cI cC cZ cQ cJ t lo q r648.2 y21 5 hlo hlS hr662) (vx_cwSW 3 hts gL_follows_L_grip rfl rfl rfl (by decide +kernel) ⟨Nat.le_of_ble_eq_true rfl, Nat.le_of_ble_eq_true rfl⟩) hP hS (fun _ h9 => h9) rfl hl.1 rfl (Nat.le_of_ble_eq_true rfl) ⟨by show _ ≤ (5077 : Nat); omega, by show _ ≤ (30462 : Nat); omega⟩ rfl rfl dL_follows_662 (fun H1 locs hP1 hS hz1 hk1 => ?_)
                          have hP : va_P D vwCl (GW cI cC cZ cQ q r662.2) H1 := hP1
                          generalize H1 = H at hP hS ⊢
                          refine lv_lconst (v := 1) hx hb dL_follows_665 (by decide) ?_
                          refine W.lcmp hx hb dL_follows_666 ?_
                          refine lv_if_ne (tgt := 701) hx hb dL_follows_667 (by decide) (fun c64 => ?_) (fun c64 => ?_)
                          · replace h := (if_neg c64).symm.trans h
                            exact no_some h
                          · replace h := (if_pos c64).symm.trans h
                            refine lv_aload_n hx hb dL_follows_670 rfl (lv_at hl 0 rfl) ?_
                            obtain ⟨r671, hr671, h⟩ := bd_some h
                            refine gww_l (As := [.ref q]) (rest := []) (k2 := (cc + 59)) (n2 := (ss + 354)) ⟨hx, hb, hml, hown, hts⟩ (gEnw_now hE hS (fun _ h9 => Nat.le_trans hlo h9.1)) hK (kL_undo l D cI cC cZ cQ cJ t lo q r662.2 hlo hlS hr671) (vx_cwSW 1 hts gL_follows_L_undo rfl rfl rfl (by decide +kernel) ⟨Nat.le_of_ble_eq_true rfl, Nat.le_of_ble_eq_true rfl⟩) hP hS (fun _ h9 => h9) rfl hl.1 rfl (Nat.le_of_ble_eq_true rfl) ⟨by show _ ≤ (5077 : Nat); omega, by show _ ≤ (30462 : Nat); omega⟩ rfl rfl dL_follows_671 (fun H1 locs hP1 hS hz1 hk1 => ?_)
                            have hP : va_P D vwCl (GW cI cC cZ cQ q r671.2) H1 := hP1
                            generalize H1 = H at hP hS ⊢
                            refine lv_lconst (v := 0) hx hb dL_follows_674 (by decide) ?_
                            refine W.lcmp hx hb dL_follows_675 ?_
                            refine lv_if_lt (tgt := 701) hx hb dL_follows_676 (by decide) (fun c65 => ?_) (fun c65 => ?_)
                            · replace h := (if_pos c65).symm.trans h
                              exact no_some h
                            · replace h := (if_neg c65).symm.trans h
                              refine lv_aload_n hx hb dL_follows_679 rfl (lv_at hl 0 rfl) ?_
                              obtain ⟨r680, hr680, h⟩ := bd_some h
                              refine gww_l (As := [.ref q]) (rest := []) (k2 := (cc + 60)) (n2 := (ss + 360)) ⟨hx, hb, hml, hown, hts⟩ (gEnw_now hE hS (fun _ h9 => Nat.le_trans hlo h9.1)) hK (kL_undo l D cI cC cZ cQ cJ t lo q r671.2 hlo hlS hr680) (vx_cwSW 1 hts gL_follows_L_undo rfl rfl rfl (by decide +kernel) ⟨Nat.le_of_ble_eq_true rfl, Nat.le_of_ble_eq_true rfl⟩) hP hS (fun _ h9 => h9) rfl hl.1 rfl (Nat.le_of_ble_eq_true rfl) ⟨by show _ ≤ (5077 : Nat); omega, by show _ ≤ (30462 : Nat); omega⟩ rfl rfl dL_follows_680 (fun H1 locs hP1 hS hz1 hk1 => ?_)
                              have hP : va_P D vwCl (GW cI cC cZ cQ q r680.2) H1 := hP1
                              generalize H1 = H at hP hS ⊢
                              refine lv_lconst (v := 0) hx hb dL_follows_683 (by decide) ?_
                              refine W.lcmp hx hb dL_follows_684 ?_
                              refine lv_if_lt (tgt := 701) hx hb dL_follows_685 (by decide) (fun c66 => ?_) (fun c66 => ?_)
                              · replace h := (if_pos c66).symm.trans h
                                exact no_some h
                              · replace h := (if_neg c66).symm.trans h
                                have h := Option.some.inj h
                                subst h
                                refine W.widen (k := (cc + 60)) (n := (ss + 360)) (by omega) (by omega) ?_
                                exact JJ688 H locs ls hP hS (lv_sub hl [0, 1, 2, 3, 4, 5, 6, 7, 8, 9, 10] rfl)
                clear h
                replace h := haa623_58
                clear haa623_58
                refine lv_if_eq (tgt := 620) hx hb dL_follows_610 (by decide) (fun c57 => ?_) (fun c57 => ?_)
                · replace h := (if_pos c57).symm.trans h
                  refine lv_ldc2 (v := (-9000000000000000003)) hx hb hown (hts (.constantLong RL 21 (-9000000000000000003)) (by decide +kernel)) dL_follows_620 ?_
                  have h := Option.some.inj h
                  subst h
                  refine W.widen (k := (cc + 55)) (n := (ss + 330)) (by omega) (by omega) ?_
                  exact JJ623 H locs ls hP hS (lv_sub hl [1, 2, 3, 4, 5, 6, 7, 8, 9, 10, 11, 0] rfl)
                · replace h := (if_neg c57).symm.trans h
                  refine lv_lload hx hb dL_follows_613 (lv_at hl 8 rfl) ?_
                  refine lv_lconst (v := 1) hx hb dL_follows_615 (by decide) ?_
                  refine lv_ladd hx hb dL_follows_616 ?_
                  refine lv_topl (fun yv58 eyv58 => ?_)
                  rw [← eyv58] at h
                  refine lv_goto (tgt := 623) hx hb dL_follows_617 (by decide) ?_
                  have h := Option.some.inj h
                  subst h
                  refine W.widen (k := (cc + 55)) (n := (ss + 330)) (by omega) (by omega) ?_
                  exact JJ623 H locs ls hP hS (lv_sub hl [1, 2, 3, 4, 5, 6, 7, 8, 9, 10, 11, 0] rfl)
              clear h
              replace h := haa598_55
              clear haa598_55
              refine lv_if_eq (tgt := 597) hx hb dL_follows_578 (by decide) (fun c53 => ?_) (fun c53 => ?_)
              · replace h := (if_pos c53).symm.trans h
                refine lv_iconst (v := 0) hx hb dL_follows_597 (by decide) ?_
                have h := Option.some.inj h
                subst h
                refine W.widen (k := (cc + 54)) (n := (ss + 324)) (by omega) (by omega) ?_
                exact JJ598 H locs ls hP hS (lv_sub hl [1, 2, 3, 4, 5, 6, 7, 8, 9, 0, 10] rfl)
              · replace h := (if_neg c53).symm.trans h
                refine lv_aload_n hx hb dL_follows_581 rfl (lv_at hl 1 rfl) ?_
                refine lv_iload hx hb dL_follows_582 (lv_at hl 9 rfl) ?_
                refine lv_iconst (v := 5) hx hb dL_follows_584 (by decide) ?_
                obtain ⟨r585, hr585, h⟩ := bd_some h
                refine gww_l (As := [.ref q, .int y21, .int 5]) (rest := []) (k2 := (cc + 54)) (n2 := (ss + 324)) ⟨hx, hb, hml, hown, hts⟩ (gEnw_now hE hS (fun _ h9 => Nat.le_trans hlo h9.1)) hK (kL_grip l D cI cC cZ cQ cJ t lo q S y21 5 hlo hlS hr585) (vx_cwSW 3 hts gL_follows_L_grip rfl rfl rfl (by decide +kernel) ⟨Nat.le_of_ble_eq_true rfl, Nat.le_of_ble_eq_true rfl⟩) hP hS (fun _ h9 => h9) rfl hl.1 rfl (Nat.le_of_ble_eq_true rfl) ⟨by show _ ≤ (5077 : Nat); omega, by show _ ≤ (30462 : Nat); omega⟩ rfl rfl dL_follows_585 (fun H1 locs hP1 hS hz1 hk1 => ?_)
                have hP : va_P D vwCl (GW cI cC cZ cQ q r585.2) H1 := hP1
                generalize H1 = H at hP hS ⊢
                refine lv_lconst (v := 1) hx hb dL_follows_588 (by decide) ?_
                refine W.lcmp hx hb dL_follows_589 ?_
                obtain ⟨a598_54, haa598_54, h⟩ := bd_some h
                have JJ598 : ∀ (H : Heap) (locs : List Loc) (ls : Array Slot), va_P D vwCl (GW cI cC cZ cQ q r585.2) H → va_S (fIv q 201) s.heap H locs → lv_has ls 35 [(0, .ref q), (1, .int y1), (2, .long y2), (4, .int y4), (5, .int y5), (6, .int y6), (7, .long y7), (10, .long y10), (21, .int y21), (28, .int (y28 + a573_51)), (29, .int y29)] → W p l e ({ frames := 10, cells := 5077, slots := 30462, locals := 169 } : Room) s m ([.ref q, .int p0] : List Value).toArray below meth c H locs (cc + 54) (ss + 324) (MQ below (va_Qi (fun r (_ : Unit) => r = 1) (fun _ t => va_P D vwCl (GW cI cC cZ cQ q R) t.heap) (fIv q 201)) ([.ref q, .int p0] : List Value).toArray s 5077 30462 (fIv q 201)) (F0 m 598 ls [.int a598_54]) := by
                  intro H locs ls hP hS hl
                  have h := Option.some.inj h
                  subst h
                  refine W.widen (k := (cc + 54)) (n := (ss + 324)) (by omega) (by omega) ?_
                  exact JJ598 H locs ls hP hS (lv_sub hl [0, 1, 2, 3, 4, 5, 6, 7, 8, 9, 10] rfl)
                clear h
                replace h := haa598_54
                clear haa598_54
                refine lv_if_ne (tgt := 597) hx hb dL_follows_590 (by decide) (fun c54 => ?_) (fun c54 => ?_)
                · replace h := (if_neg c54).symm.trans h
                  refine lv_iconst (v := 0) hx hb dL_follows_597 (by decide) ?_
                  have h := Option.some.inj h
                  subst h
                  refine W.widen (k := (cc + 54)) (n := (ss + 324)) (by omega) (by omega) ?_
                  exact JJ598 H locs ls hP hS (lv_sub hl [1, 2, 3, 4, 5, 6, 7, 8, 9, 0, 10] rfl)
                · replace h := (if_pos c54).symm.trans h
                  refine lv_iconst (v := 1) hx hb dL_follows_593 (by decide) ?_
                  refine lv_goto (tgt := 598) hx hb dL_follows_594 (by decide) ?_
                  have h := Option.some.inj h
                  subst h
                  refine W.widen (k := (cc + 54)) (n := (ss + 324)) (by omega) (by omega) ?_
                  exact JJ598 H locs ls hP hS (lv_sub hl [1, 2, 3, 4, 5, 6, 7, 8, 9, 0, 10] rfl)
            clear h
            replace h := haa573_51
            clear haa573_51
            refine lv_if_eq (tgt := 572) hx hb dL_follows_565 (by decide) (fun c51 => ?_) (fun c51 => ?_)
            · replace h := (if_pos c51).symm.trans h
              refine lv_iconst (v := 0) hx hb dL_follows_572 (by decide) ?_
              have h := Option.some.inj h
              subst h
              refine W.widen (k := (cc + 53)) (n := (ss + 318)) (by omega) (by omega) ?_
              exact JJ573 H locs ls hP hS (lv_sub hl [0, 1, 2, 3, 4, 5, 6, 7, 8, 10, 11] rfl)
            · replace h := (if_neg c51).symm.trans h
              refine lv_iconst (v := 1) hx hb dL_follows_568 (by decide) ?_
              refine lv_goto (tgt := 573) hx hb dL_follows_569 (by decide) ?_
              have h := Option.some.inj h
              subst h
              refine W.widen (k := (cc + 53)) (n := (ss + 318)) (by omega) (by omega) ?_
              exact JJ573 H locs ls hP hS (lv_sub hl [0, 1, 2, 3, 4, 5, 6, 7, 8, 10, 11] rfl)
          clear h
          replace h := haa457_37
          clear haa457_37
          refine lv_if_ne (tgt := 456) hx hb dL_follows_449 (by decide) (fun c37 => ?_) (fun c37 => ?_)
          · replace h := (if_neg c37).symm.trans h
            refine lv_iconst (v := 0) hx hb dL_follows_456 (by decide) ?_
            have h := Option.some.inj h
            subst h
            refine W.widen (k := (cc + 1)) (n := (ss + 6)) (by omega) (by omega) ?_
            exact JJ457 H locs ls hP hS (lv_sub hl [0, 1, 2, 3, 4, 5, 6, 8, 9, 10, 11] rfl)
          · replace h := (if_pos c37).symm.trans h
            refine lv_iconst (v := 1) hx hb dL_follows_452 (by decide) ?_
            refine lv_goto (tgt := 457) hx hb dL_follows_453 (by decide) ?_
            have h := Option.some.inj h
            subst h
            refine W.widen (k := (cc + 1)) (n := (ss + 6)) (by omega) (by omega) ?_
            exact JJ457 H locs ls hP hS (lv_sub hl [0, 1, 2, 3, 4, 5, 6, 8, 9, 10, 11] rfl)
  unfold fL_follows at h
  obtain ⟨H, hH⟩ : ∃ H, H = s.heap := ⟨_, rfl⟩
  obtain ⟨locs, hlz⟩ : ∃ z : List Loc, z = [] := ⟨_, rfl⟩
  have hP : va_P D vwCl (GW cI cC cZ cQ q G) H := by rw [hH]; exact hP
  have hS : va_S (fIv q 201) s.heap H locs := by rw [hH, hlz]; exact hS
  refine gc_at hH hlz ?_
  refine lv_aload_n hx hb dL_follows_0 rfl (lv_at hl 0 rfl) ?_
  obtain ⟨r1, hr1, h⟩ := bd_some h
  refine gws_l (As := [.ref q]) (rest := []) (k2 := 144) (n2 := 864) ⟨hx, hb, hml, hown, hts⟩ (gEnw_now hE hS (fun _ h9 => Nat.le_trans hlo h9.1)) hK (kL_now l D cI cC cZ cQ cJ t lo q G hlo hlS hr1) (va_cwS 1 hts gL_follows_L_now rfl rfl rfl (by decide +kernel) ⟨Nat.le_of_ble_eq_true rfl, Nat.le_of_ble_eq_true rfl⟩) hP hS (fun _ h9 => h9) rfl hl.1 rfl (Nat.le_of_ble_eq_true rfl) ⟨by show _ ≤ (5077 : Nat); omega, by show _ ≤ (30462 : Nat); omega⟩ rfl rfl dL_follows_1 (fun H1 locs hP1 hS hz1 hk1 => ?_)
  have hP : va_P D vwCl (GW cI cC cZ cQ q r1.2) H1 := hP1
  generalize H1 = H at hP hS ⊢
  refine lv_lstore_n (lv' := [(2, .long r1.1), (0, .ref q), (1, .int p0)]) hx hb dL_follows_4 rfl hl (by decide) rfl (fun ls hl => ?_)
  refine lv_aload_n hx hb dL_follows_5 rfl (lv_at hl 1 rfl) ?_
  refine lv_iconst (v := 0) hx hb dL_follows_6 (by decide) ?_
  obtain ⟨r7, hr7, h⟩ := bd_some h
  refine gww_l (As := [.ref q, .int 0]) (rest := []) (k2 := 145) (n2 := 870) ⟨hx, hb, hml, hown, hts⟩ (gEnw_now hE hS (fun _ h9 => Nat.le_trans hlo h9.1)) hK (kL_about l D cI cC cZ cQ cJ t lo q r1.2 0 hlo hlS hr7) (vx_cwSW 2 hts gL_follows_L_about rfl rfl rfl (by decide +kernel) ⟨Nat.le_of_ble_eq_true rfl, Nat.le_of_ble_eq_true rfl⟩) hP hS (fun _ h9 => h9) rfl hl.1 rfl (Nat.le_of_ble_eq_true rfl) ⟨by show _ ≤ (5077 : Nat); omega, by show _ ≤ (30462 : Nat); omega⟩ rfl rfl dL_follows_7 (fun H1 locs hP1 hS hz1 hk1 => ?_)
  have hP : va_P D vwCl (GW cI cC cZ cQ q r7.2) H1 := hP1
  generalize H1 = H at hP hS ⊢
  refine lv_l2i hx hb dL_follows_10 rfl ?_
  refine lv_istore (lv' := [(4, .int ((r7.1).toInt32)), (2, .long r1.1), (0, .ref q), (1, .int p0)]) hx hb dL_follows_11 hl (by decide) rfl (fun ls hl => ?_)
  refine lv_aload_n hx hb dL_follows_13 rfl (lv_at hl 2 rfl) ?_
  obtain ⟨r14, hr14, h⟩ := bd_some h
  refine gws_i (As := [.ref q]) (rest := []) (k2 := 146) (n2 := 876) ⟨hx, hb, hml, hown, hts⟩ (gEnw_now hE hS (fun _ h9 => Nat.le_trans hlo h9.1)) hK (kL_grips l D cI cC cZ cQ cJ t lo q r7.2 hlo hlS hr14) (va_cwS 1 hts gL_follows_L_grips rfl rfl rfl (by decide +kernel) ⟨Nat.le_of_ble_eq_true rfl, Nat.le_of_ble_eq_true rfl⟩) hP hS (fun _ h9 => h9) rfl hl.1 rfl (Nat.le_of_ble_eq_true rfl) ⟨by show _ ≤ (5077 : Nat); omega, by show _ ≤ (30462 : Nat); omega⟩ rfl rfl dL_follows_14 (fun H1 locs hP1 hS hz1 hk1 => ?_)
  have hP : va_P D vwCl (GW cI cC cZ cQ q r14.2) H1 := hP1
  generalize H1 = H at hP hS ⊢
  refine lv_istore (lv' := [(5, .int r14.1), (4, .int ((r7.1).toInt32)), (2, .long r1.1), (0, .ref q), (1, .int p0)]) hx hb dL_follows_17 hl (by decide) rfl (fun ls hl => ?_)
  refine lv_iconst (v := 1) hx hb dL_follows_19 (by decide) ?_
  refine lv_iload_n hx hb dL_follows_20 rfl (lv_at hl 4 rfl) ?_
  refine lv_bipush (v := 50) hx hb dL_follows_21 (by decide) ?_
  refine lv_irem hx hb dL_follows_23 (by decide) ?_
  refine lv_iadd hx hb dL_follows_24 ?_
  refine lv_istore (lv' := [(6, .int (1 + (p0 - p0 / 50 * 50))), (5, .int r14.1), (4, .int ((r7.1).toInt32)), (2, .long r1.1), (0, .ref q), (1, .int p0)]) hx hb dL_follows_25 hl (by decide) rfl (fun ls hl => ?_)
  refine lv_aload_n hx hb dL_follows_27 rfl (lv_at hl 4 rfl) ?_
  refine lv_bipush (v := 7) hx hb dL_follows_28 (by decide) ?_
  obtain ⟨r30, hr30, h⟩ := bd_some h
  refine gww_l (As := [.ref q, .int 7]) (rest := []) (k2 := 147) (n2 := 882) ⟨hx, hb, hml, hown, hts⟩ (gEnw_now hE hS (fun _ h9 => Nat.le_trans hlo h9.1)) hK (kL_about l D cI cC cZ cQ cJ t lo q r14.2 7 hlo hlS hr30) (vx_cwSW 2 hts gL_follows_L_about rfl rfl rfl (by decide +kernel) ⟨Nat.le_of_ble_eq_true rfl, Nat.le_of_ble_eq_true rfl⟩) hP hS (fun _ h9 => h9) rfl hl.1 rfl (Nat.le_of_ble_eq_true rfl) ⟨by show _ ≤ (5077 : Nat); omega, by show _ ≤ (30462 : Nat); omega⟩ rfl rfl dL_follows_30 (fun H1 locs hP1 hS hz1 hk1 => ?_)
  have hP : va_P D vwCl (GW cI cC cZ cQ q r30.2) H1 := hP1
  generalize H1 = H at hP hS ⊢
  refine lv_lstore (lv' := [(7, .long r30.1), (6, .int (1 + (p0 - p0 / 50 * 50))), (5, .int r14.1), (4, .int ((r7.1).toInt32)), (2, .long r1.1), (0, .ref q), (1, .int p0)]) hx hb dL_follows_33 hl (by decide) rfl (fun ls hl => ?_)
  refine lv_aload_n hx hb dL_follows_35 rfl (lv_at hl 5 rfl) ?_
  refine lv_iconst (v := 1) hx hb dL_follows_36 (by decide) ?_
  obtain ⟨r37, hr37, h⟩ := bd_some h
  refine gww_l (As := [.ref q, .int 1]) (rest := []) (k2 := 148) (n2 := 888) ⟨hx, hb, hml, hown, hts⟩ (gEnw_now hE hS (fun _ h9 => Nat.le_trans hlo h9.1)) hK (kL_save l D cI cC cZ cQ cJ t lo q r30.2 1 hlo hlS hr37) (vx_cwSW 2 hts gL_follows_L_save rfl rfl rfl (by decide +kernel) ⟨Nat.le_of_ble_eq_true rfl, Nat.le_of_ble_eq_true rfl⟩) hP hS (fun _ h9 => h9) rfl hl.1 rfl (Nat.le_of_ble_eq_true rfl) ⟨by show _ ≤ (5077 : Nat); omega, by show _ ≤ (30462 : Nat); omega⟩ rfl rfl dL_follows_37 (fun H1 locs hP1 hS hz1 hk1 => ?_)
  have hP : va_P D vwCl (GW cI cC cZ cQ q r37.2) H1 := hP1
  generalize H1 = H at hP hS ⊢
  refine lv_lload hx hb dL_follows_40 (lv_at hl 0 rfl) ?_
  refine W.lcmp hx hb dL_follows_42 ?_
  refine lv_if_ne (tgt := 50) hx hb dL_follows_43 (by decide) (fun c1 => ?_) (fun c1 => ?_)
  · replace h := (if_neg c1).symm.trans h
    exact no_some h
  · replace h := (if_pos c1).symm.trans h
    refine lv_iconst (v := 1) hx hb dL_follows_46 (by decide) ?_
    refine lv_goto (tgt := 51) hx hb dL_follows_47 (by decide) ?_
    refine lv_istore (lv' := [(9, .int 1), (7, .long r30.1), (6, .int (1 + (p0 - p0 / 50 * 50))), (5, .int r14.1), (4, .int ((r7.1).toInt32)), (2, .long r1.1), (0, .ref q), (1, .int p0)]) hx hb dL_follows_51 hl (by decide) rfl (fun ls hl => ?_)
    refine lv_aload_n hx hb dL_follows_53 rfl (lv_at hl 6 rfl) ?_
    refine lv_iconst (v := 2) hx hb dL_follows_54 (by decide) ?_
    obtain ⟨r55, hr55, h⟩ := bd_some h
    refine gww_l (As := [.ref q, .int 2]) (rest := []) (k2 := 149) (n2 := 894) ⟨hx, hb, hml, hown, hts⟩ (gEnw_now hE hS (fun _ h9 => Nat.le_trans hlo h9.1)) hK (kL_about l D cI cC cZ cQ cJ t lo q r37.2 2 hlo hlS hr55) (vx_cwSW 2 hts gL_follows_L_about rfl rfl rfl (by decide +kernel) ⟨Nat.le_of_ble_eq_true rfl, Nat.le_of_ble_eq_true rfl⟩) hP hS (fun _ h9 => h9) rfl hl.1 rfl (Nat.le_of_ble_eq_true rfl) ⟨by show _ ≤ (5077 : Nat); omega, by show _ ≤ (30462 : Nat); omega⟩ rfl rfl dL_follows_55 (fun H1 locs hP1 hS hz1 hk1 => ?_)
    have hP : va_P D vwCl (GW cI cC cZ cQ q r55.2) H1 := hP1
    generalize H1 = H at hP hS ⊢
    refine lv_lstore (lv' := [(10, .long r55.1), (9, .int 1), (7, .long r30.1), (6, .int (1 + (p0 - p0 / 50 * 50))), (5, .int r14.1), (4, .int ((r7.1).toInt32)), (2, .long r1.1), (0, .ref q), (1, .int p0)]) hx hb dL_follows_58 hl (by decide) rfl (fun ls hl => ?_)
    refine lv_lconst (v := 0) hx hb dL_follows_60 (by decide) ?_
    refine lv_lstore (lv' := [(12, .long 0), (10, .long r55.1), (9, .int 1), (7, .long r30.1), (6, .int (1 + (p0 - p0 / 50 * 50))), (5, .int r14.1), (4, .int ((r7.1).toInt32)), (2, .long r1.1), (0, .ref q), (1, .int p0)]) hx hb dL_follows_61 hl (by decide) rfl (fun ls hl => ?_)
    refine lv_iconst (v := 0) hx hb dL_follows_63 (by decide) ?_
    refine lv_istore (lv' := [(14, .int 0), (12, .long 0), (10, .long r55.1), (9, .int 1), (7, .long r30.1), (6, .int (1 + (p0 - p0 / 50 * 50))), (5, .int r14.1), (4, .int ((r7.1).toInt32)), (2, .long r1.1), (0, .ref q), (1, .int p0)]) hx hb dL_follows_64 hl (by decide) rfl (fun ls hl => ?_)
    refine LP66 _ 162 972 (by omega) (by omega) 13 149 894 r55.2 p0 r1.1 ((r7.1).toInt32) r14.1 (1 + (p0 - p0 / 50 * 50)) r30.1 r55.1 0 0 H locs ls (by omega) (by omega) h (fun S y1 y2 y4 y5 y6 y7 y10 y12 H locs ls h hP hS hl => ?_) hP hS (lv_sub hl [9, 10, 8, 7, 6, 5, 4, 3, 2, 1, 0] rfl)
    refine lv_aload_n hx hb dL_follows_91 rfl (lv_at hl 0 rfl) ?_
    refine lv_iload hx hb dL_follows_92 (lv_at hl 5 rfl) ?_
    refine lv_iconst (v := 0) hx hb dL_follows_94 (by decide) ?_
    obtain ⟨r95, hr95, h⟩ := bd_some h
    refine gww_l (As := [.ref q, .int y6, .int 0]) (rest := []) (k2 := 163) (n2 := 978) ⟨hx, hb, hml, hown, hts⟩ (gEnw_now hE hS (fun _ h9 => Nat.le_trans hlo h9.1)) hK (kL_happens l D cI cC cZ cQ cJ t lo q S y6 0 hlo hlS hr95) (vx_cwSW 3 hts gL_follows_L_happens rfl rfl rfl (by decide +kernel) ⟨Nat.le_of_ble_eq_true rfl, Nat.le_of_ble_eq_true rfl⟩) hP hS (fun _ h9 => h9) rfl hl.1 rfl (Nat.le_of_ble_eq_true rfl) ⟨by show _ ≤ (5077 : Nat); omega, by show _ ≤ (30462 : Nat); omega⟩ rfl rfl dL_follows_95 (fun H1 locs hP1 hS hz1 hk1 => ?_)
    have hP : va_P D vwCl (GW cI cC cZ cQ q r95.2) H1 := hP1
    generalize H1 = H at hP hS ⊢
    refine lv_lstore (lv' := [(14, .long r95.1), (0, .ref q), (1, .int y1), (2, .long y2), (4, .int y4), (5, .int y5), (6, .int y6), (7, .long y7), (9, .int 1), (10, .long y10), (12, .long y12)]) hx hb dL_follows_98 hl (by decide) rfl (fun ls hl => ?_)
    refine lv_aload_n hx hb dL_follows_100 rfl (lv_at hl 1 rfl) ?_
    refine lv_iload hx hb dL_follows_101 (lv_at hl 6 rfl) ?_
    refine lv_iconst (v := 1) hx hb dL_follows_103 (by decide) ?_
    obtain ⟨r104, hr104, h⟩ := bd_some h
    refine gww_l (As := [.ref q, .int y6, .int 1]) (rest := []) (k2 := 164) (n2 := 984) ⟨hx, hb, hml, hown, hts⟩ (gEnw_now hE hS (fun _ h9 => Nat.le_trans hlo h9.1)) hK (kL_happens l D cI cC cZ cQ cJ t lo q r95.2 y6 1 hlo hlS hr104) (vx_cwSW 3 hts gL_follows_L_happens rfl rfl rfl (by decide +kernel) ⟨Nat.le_of_ble_eq_true rfl, Nat.le_of_ble_eq_true rfl⟩) hP hS (fun _ h9 => h9) rfl hl.1 rfl (Nat.le_of_ble_eq_true rfl) ⟨by show _ ≤ (5077 : Nat); omega, by show _ ≤ (30462 : Nat); omega⟩ rfl rfl dL_follows_104 (fun H1 locs hP1 hS hz1 hk1 => ?_)
    have hP : va_P D vwCl (GW cI cC cZ cQ q r104.2) H1 := hP1
    generalize H1 = H at hP hS ⊢
    refine lv_aload_n hx hb dL_follows_107 rfl (lv_at hl 1 rfl) ?_
    refine lv_iload hx hb dL_follows_108 (lv_at hl 6 rfl) ?_
    refine lv_iconst (v := 2) hx hb dL_follows_110 (by decide) ?_
    obtain ⟨r111, hr111, h⟩ := bd_some h
    refine gww_l (As := [.ref q, .int y6, .int 2]) (rest := [.long r104.1]) (k2 := 165) (n2 := 990) ⟨hx, hb, hml, hown, hts⟩ (gEnw_now hE hS (fun _ h9 => Nat.le_trans hlo h9.1)) hK (kL_happens l D cI cC cZ cQ cJ t lo q r104.2 y6 2 hlo hlS hr111) (vx_cwSW 3 hts gL_follows_L_happens rfl rfl rfl (by decide +kernel) ⟨Nat.le_of_ble_eq_true rfl, Nat.le_of_ble_eq_true rfl⟩) hP hS (fun _ h9 => h9) rfl hl.1 rfl (Nat.le_of_ble_eq_true rfl) ⟨by show _ ≤ (5077 : Nat); omega, by show _ ≤ (30462 : Nat); omega⟩ rfl rfl dL_follows_111 (fun H1 locs hP1 hS hz1 hk1 => ?_)
    have hP : va_P D vwCl (GW cI cC cZ cQ q r111.2) H1 := hP1
    generalize H1 = H at hP hS ⊢
    refine lv_ladd hx hb dL_follows_114 ?_
    refine lv_topl (fun yv4 eyv4 => ?_)
    rw [← eyv4] at h
    refine lv_lstore (lv' := [(16, .long yv4), (14, .long r95.1), (0, .ref q), (1, .int y1), (2, .long y2), (4, .int y4), (5, .int y5), (6, .int y6), (7, .long y7), (9, .int 1), (10, .long y10), (12, .long y12)]) hx hb dL_follows_115 hl (by decide) rfl (fun ls hl => ?_)
    refine lv_aload_n hx hb dL_follows_117 rfl (lv_at hl 2 rfl) ?_
    refine lv_iload hx hb dL_follows_118 (lv_at hl 7 rfl) ?_
    refine lv_iconst (v := 3) hx hb dL_follows_120 (by decide) ?_
    obtain ⟨r121, hr121, h⟩ := bd_some h
    refine gww_l (As := [.ref q, .int y6, .int 3]) (rest := []) (k2 := 166) (n2 := 996) ⟨hx, hb, hml, hown, hts⟩ (gEnw_now hE hS (fun _ h9 => Nat.le_trans hlo h9.1)) hK (kL_happens l D cI cC cZ cQ cJ t lo q r111.2 y6 3 hlo hlS hr121) (vx_cwSW 3 hts gL_follows_L_happens rfl rfl rfl (by decide +kernel) ⟨Nat.le_of_ble_eq_true rfl, Nat.le_of_ble_eq_true rfl⟩) hP hS (fun _ h9 => h9) rfl hl.1 rfl (Nat.le_of_ble_eq_true rfl) ⟨by show _ ≤ (5077 : Nat); omega, by show _ ≤ (30462 : Nat); omega⟩ rfl rfl dL_follows_121 (fun H1 locs hP1 hS hz1 hk1 => ?_)
    have hP : va_P D vwCl (GW cI cC cZ cQ q r121.2) H1 := hP1
    generalize H1 = H at hP hS ⊢
    refine lv_lstore (lv' := [(18, .long r121.1), (16, .long yv4), (14, .long r95.1), (0, .ref q), (1, .int y1), (2, .long y2), (4, .int y4), (5, .int y5), (6, .int y6), (7, .long y7), (9, .int 1), (10, .long y10), (12, .long y12)]) hx hb dL_follows_124 hl (by decide) rfl (fun ls hl => ?_)
    refine lv_aload_n hx hb dL_follows_126 rfl (lv_at hl 3 rfl) ?_
    obtain ⟨r127, hr127, h⟩ := bd_some h
    refine gc_wi (As := []) (rest := []) ⟨hx, hb, hml, hown, hts⟩ hK (kX4_emptyAfter l D cI cC cZ cQ cJ q r121.2 hr127) (cwV 0 hts gL_follows_X4_emptyAfter rfl rfl rfl (by decide +kernel) ⟨Nat.le_of_ble_eq_true rfl, Nat.le_of_ble_eq_true rfl⟩) (va_recv hK hP (ci := 4) (q0 := 0) rfl rfl) hP hS (fun _ h9 => h9) rfl hl.1 rfl (Nat.le_of_ble_eq_true rfl) ⟨by show _ ≤ (5077 : Nat); omega, by show _ ≤ (30462 : Nat); omega⟩ dL_follows_127 (fun H1 locs hP1 hS hz1 hk1 => ?_)
    have hP : va_P D vwCl (GW cI cC cZ cQ q r127.2) H1 := hP1
    generalize H1 = H at hP hS ⊢
    refine lv_istore (lv' := [(20, .int r127.1), (18, .long r121.1), (16, .long yv4), (14, .long r95.1), (0, .ref q), (1, .int y1), (2, .long y2), (4, .int y4), (5, .int y5), (6, .int y6), (7, .long y7), (9, .int 1), (10, .long y10), (12, .long y12)]) hx hb dL_follows_130 hl (by decide) rfl (fun ls hl => ?_)
    refine lv_iload hx hb dL_follows_132 (lv_at hl 8 rfl) ?_
    obtain ⟨a148_6, haa148_6, h⟩ := bd_some h
    have JJ148 : ∀ (H : Heap) (locs : List Loc) (ls : Array Slot), va_P D vwCl (GW cI cC cZ cQ q r127.2) H → va_S (fIv q 201) s.heap H locs → lv_has ls 35 [(0, .ref q), (1, .int y1), (2, .long y2), (4, .int y4), (5, .int y5), (6, .int y6), (7, .long y7), (9, .int 1), (10, .long y10), (12, .long y12), (14, .long r95.1), (16, .long yv4), (18, .long r121.1), (20, .int r127.1)] → W p l e ({ frames := 10, cells := 5077, slots := 30462, locals := 169 } : Room) s m ([.ref q, .int p0] : List Value).toArray below meth c H locs 166 996 (MQ below (va_Qi (fun r (_ : Unit) => r = 1) (fun _ t => va_P D vwCl (GW cI cC cZ cQ q R) t.heap) (fIv q 201)) ([.ref q, .int p0] : List Value).toArray s 5077 30462 (fIv q 201)) (F0 m 148 ls [.int a148_6]) := by
      intro H locs ls hP hS hl
      refine lv_istore (lv' := [(21, .int a148_6), (0, .ref q), (1, .int y1), (2, .long y2), (4, .int y4), (5, .int y5), (6, .int y6), (7, .long y7), (9, .int 1), (10, .long y10), (12, .long y12), (14, .long r95.1), (16, .long yv4), (18, .long r121.1), (20, .int r127.1)]) hx hb dL_follows_148 hl (by decide) rfl (fun ls hl => ?_)
      refine lv_aload_n hx hb dL_follows_150 rfl (lv_at hl 1 rfl) ?_
      refine lv_iload hx hb dL_follows_151 (lv_at hl 0 rfl) ?_
      refine lv_iload hx hb dL_follows_153 (lv_at hl 6 rfl) ?_
      refine lv_iconst (v := 4) hx hb dL_follows_155 (by decide) ?_
      obtain ⟨r156, hr156, h⟩ := bd_some h
      refine gww_l (As := [.ref q, .int a148_6, .int y6, .int 4]) (rest := []) (k2 := 167) (n2 := 1002) ⟨hx, hb, hml, hown, hts⟩ (gEnw_now hE hS (fun _ h9 => Nat.le_trans hlo h9.1)) hK (kL_ahead l D cI cC cZ cQ cJ t lo q r127.2 a148_6 y6 4 hlo hlS hr156) (vx_cwSW 4 hts gL_follows_L_ahead rfl rfl rfl (by decide +kernel) ⟨Nat.le_of_ble_eq_true rfl, Nat.le_of_ble_eq_true rfl⟩) hP hS (fun _ h9 => h9) rfl hl.1 rfl (Nat.le_of_ble_eq_true rfl) ⟨by show _ ≤ (5077 : Nat); omega, by show _ ≤ (30462 : Nat); omega⟩ rfl rfl dL_follows_156 (fun H1 locs hP1 hS hz1 hk1 => ?_)
      have hP : va_P D vwCl (GW cI cC cZ cQ q r156.2) H1 := hP1
      generalize H1 = H at hP hS ⊢
      refine lv_lstore (lv' := [(22, .long r156.1), (21, .int a148_6), (0, .ref q), (1, .int y1), (2, .long y2), (4, .int y4), (5, .int y5), (6, .int y6), (7, .long y7), (9, .int 1), (10, .long y10), (12, .long y12), (14, .long r95.1), (16, .long yv4), (18, .long r121.1), (20, .int r127.1)]) hx hb dL_follows_159 hl (by decide) rfl (fun ls hl => ?_)
      refine lv_aload_n hx hb dL_follows_161 rfl (lv_at hl 2 rfl) ?_
      refine lv_iload hx hb dL_follows_162 (lv_at hl 1 rfl) ?_
      refine lv_iload hx hb dL_follows_164 (lv_at hl 7 rfl) ?_
      refine lv_iconst (v := 1) hx hb dL_follows_166 (by decide) ?_
      obtain ⟨r167, hr167, h⟩ := bd_some h
      refine gww_l (As := [.ref q, .int a148_6, .int y6, .int 1]) (rest := []) (k2 := 168) (n2 := 1008) ⟨hx, hb, hml, hown, hts⟩ (gEnw_now hE hS (fun _ h9 => Nat.le_trans hlo h9.1)) hK (kL_ahead l D cI cC cZ cQ cJ t lo q r156.2 a148_6 y6 1 hlo hlS hr167) (vx_cwSW 4 hts gL_follows_L_ahead rfl rfl rfl (by decide +kernel) ⟨Nat.le_of_ble_eq_true rfl, Nat.le_of_ble_eq_true rfl⟩) hP hS (fun _ h9 => h9) rfl hl.1 rfl (Nat.le_of_ble_eq_true rfl) ⟨by show _ ≤ (5077 : Nat); omega, by show _ ≤ (30462 : Nat); omega⟩ rfl rfl dL_follows_167 (fun H1 locs hP1 hS hz1 hk1 => ?_)
      have hP : va_P D vwCl (GW cI cC cZ cQ q r167.2) H1 := hP1
      generalize H1 = H at hP hS ⊢
      refine lv_lstore (lv' := [(24, .long r167.1), (22, .long r156.1), (21, .int a148_6), (0, .ref q), (1, .int y1), (2, .long y2), (4, .int y4), (5, .int y5), (6, .int y6), (7, .long y7), (9, .int 1), (10, .long y10), (12, .long y12), (14, .long r95.1), (16, .long yv4), (18, .long r121.1), (20, .int r127.1)]) hx hb dL_follows_170 hl (by decide) rfl (fun ls hl => ?_)
      refine lv_iload hx hb dL_follows_172 (lv_at hl 10 rfl) ?_
      refine lv_if_eq (tgt := 316) hx hb dL_follows_174 (by decide) (fun c => absurd c (by decide)) (fun _ => ?_)
      refine lv_aload_n hx hb dL_follows_177 rfl (lv_at hl 3 rfl) ?_
      refine lv_aload_n hx hb dL_follows_178 rfl (lv_at hl 3 rfl) ?_
      obtain ⟨r179, hr179, h⟩ := bd_some h
      refine gc_rl (As := []) (rest := [.ref q]) ⟨hx, hb, hml, hown, hts⟩ hK (kX4_random l D cI cC cZ cQ cJ q r167.2 hr179) (cwV 0 hts gL_follows_X4_random rfl rfl rfl (by decide +kernel) ⟨Nat.le_of_ble_eq_true rfl, Nat.le_of_ble_eq_true rfl⟩) (va_recv hK hP (ci := 4) (q0 := 0) rfl rfl) hP rfl hl.1 rfl (Nat.le_of_ble_eq_true rfl) ⟨by show _ ≤ (5077 : Nat); omega, by show _ ≤ (30462 : Nat); omega⟩ dL_follows_179 ?_
      refine lv_iload hx hb dL_follows_182 (lv_at hl 8 rfl) ?_
      obtain ⟨r184, hr184, h⟩ := bd_some h
      refine gww_l (As := [.ref q, .long r179, .int y6]) (rest := []) (k2 := 169) (n2 := 1014) ⟨hx, hb, hml, hown, hts⟩ (gEnw_now hE hS (fun _ h9 => Nat.le_trans hlo h9.1)) hK (kL_simulate l D cI cC cZ cQ cJ t lo q r167.2 r179 y6 hlo hlS hr184) (vx_cwSW 3 hts gL_follows_L_simulate rfl rfl rfl (by decide +kernel) ⟨Nat.le_of_ble_eq_true rfl, Nat.le_of_ble_eq_true rfl⟩) hP hS (fun _ h9 => h9) rfl hl.1 rfl (Nat.le_of_ble_eq_true rfl) ⟨by show _ ≤ (5077 : Nat); omega, by show _ ≤ (30462 : Nat); omega⟩ rfl rfl dL_follows_184 (fun H1 locs hP1 hS hz1 hk1 => ?_)
      have hP : va_P D vwCl (GW cI cC cZ cQ q r184.2) H1 := hP1
      generalize H1 = H at hP hS ⊢
      refine lv_ldc2 (v := 100) hx hb hown (hts (.constantLong RL 217 (100)) (by decide +kernel)) dL_follows_187 ?_
      refine lv_lload hx hb dL_follows_190 (lv_at hl 12 rfl) ?_
      refine lv_lload hx hb dL_follows_192 (lv_at hl 13 rfl) ?_
      refine lv_ladd hx hb dL_follows_194 ?_
      refine lv_topl (fun yv8 eyv8 => ?_)
      rw [← eyv8] at h
      refine lv_lmul hx hb dL_follows_195 ?_
      refine lv_lload hx hb dL_follows_196 (lv_at hl 11 rfl) ?_
      refine lv_ladd hx hb dL_follows_198 ?_
      refine lv_topl (fun yv9 eyv9 => ?_)
      rw [← eyv9] at h
      refine lv_lload hx hb dL_follows_199 (lv_at hl 14 rfl) ?_
      refine lv_lsub hx hb dL_follows_201 ?_
      refine lv_lload hx hb dL_follows_202 (lv_at hl 15 rfl) ?_
      refine lv_ladd hx hb dL_follows_204 ?_
      refine lv_topl (fun yv10 eyv10 => ?_)
      rw [← eyv10] at h
      refine W.lcmp hx hb dL_follows_205 ?_
      refine lv_if_ne (tgt := 316) hx hb dL_follows_206 (by decide) (fun c11 => ?_) (fun c11 => ?_)
      · replace h := (if_neg c11).symm.trans h
        exact no_some h
      · replace h := (if_pos c11).symm.trans h
        refine lv_aload_n hx hb dL_follows_209 rfl (lv_at hl 3 rfl) ?_
        refine lv_iload hx hb dL_follows_210 (lv_at hl 8 rfl) ?_
        obtain ⟨r212, hr212, h⟩ := bd_some h
        refine gww_l (As := [.ref q, .int y6]) (rest := []) (k2 := 170) (n2 := 1020) ⟨hx, hb, hml, hown, hts⟩ (gEnw_now hE hS (fun _ h9 => Nat.le_trans hlo h9.1)) hK (kL_step l D cI cC cZ cQ cJ t lo q r184.2 y6 hlo hlS hr212) (vx_cwSW 2 hts gL_follows_L_step rfl rfl rfl (by decide +kernel) ⟨Nat.le_of_ble_eq_true rfl, Nat.le_of_ble_eq_true rfl⟩) hP hS (fun _ h9 => h9) rfl hl.1 rfl (Nat.le_of_ble_eq_true rfl) ⟨by show _ ≤ (5077 : Nat); omega, by show _ ≤ (30462 : Nat); omega⟩ rfl rfl dL_follows_212 (fun H1 locs hP1 hS hz1 hk1 => ?_)
        have hP : va_P D vwCl (GW cI cC cZ cQ q r212.2) H1 := hP1
        generalize H1 = H at hP hS ⊢
        refine lv_aload_n hx hb dL_follows_215 rfl (lv_at hl 3 rfl) ?_
        refine lv_iconst (v := 4) hx hb dL_follows_216 (by decide) ?_
        obtain ⟨r217, hr217, h⟩ := bd_some h
        refine gww_l (As := [.ref q, .int 4]) (rest := [.long r212.1]) (k2 := 171) (n2 := 1026) ⟨hx, hb, hml, hown, hts⟩ (gEnw_now hE hS (fun _ h9 => Nat.le_trans hlo h9.1)) hK (kL_about l D cI cC cZ cQ cJ t lo q r212.2 4 hlo hlS hr217) (vx_cwSW 2 hts gL_follows_L_about rfl rfl rfl (by decide +kernel) ⟨Nat.le_of_ble_eq_true rfl, Nat.le_of_ble_eq_true rfl⟩) hP hS (fun _ h9 => h9) rfl hl.1 rfl (Nat.le_of_ble_eq_true rfl) ⟨by show _ ≤ (5077 : Nat); omega, by show _ ≤ (30462 : Nat); omega⟩ rfl rfl dL_follows_217 (fun H1 locs hP1 hS hz1 hk1 => ?_)
        have hP : va_P D vwCl (GW cI cC cZ cQ q r217.2) H1 := hP1
        generalize H1 = H at hP hS ⊢
        refine W.lcmp hx hb dL_follows_220 ?_
        refine lv_if_ne (tgt := 316) hx hb dL_follows_221 (by decide) (fun c12 => ?_) (fun c12 => ?_)
        · replace h := (if_neg c12).symm.trans h
          exact no_some h
        · replace h := (if_pos c12).symm.trans h
          refine lv_aload_n hx hb dL_follows_224 rfl (lv_at hl 3 rfl) ?_
          refine lv_iconst (v := 2) hx hb dL_follows_225 (by decide) ?_
          obtain ⟨r226, hr226, h⟩ := bd_some h
          refine gww_l (As := [.ref q, .int 2]) (rest := []) (k2 := 172) (n2 := 1032) ⟨hx, hb, hml, hown, hts⟩ (gEnw_now hE hS (fun _ h9 => Nat.le_trans hlo h9.1)) hK (kL_about l D cI cC cZ cQ cJ t lo q r217.2 2 hlo hlS hr226) (vx_cwSW 2 hts gL_follows_L_about rfl rfl rfl (by decide +kernel) ⟨Nat.le_of_ble_eq_true rfl, Nat.le_of_ble_eq_true rfl⟩) hP hS (fun _ h9 => h9) rfl hl.1 rfl (Nat.le_of_ble_eq_true rfl) ⟨by show _ ≤ (5077 : Nat); omega, by show _ ≤ (30462 : Nat); omega⟩ rfl rfl dL_follows_226 (fun H1 locs hP1 hS hz1 hk1 => ?_)
          have hP : va_P D vwCl (GW cI cC cZ cQ q r226.2) H1 := hP1
          generalize H1 = H at hP hS ⊢
          refine lv_lload hx hb dL_follows_229 (lv_at hl 11 rfl) ?_
          refine lv_lload hx hb dL_follows_231 (lv_at hl 14 rfl) ?_
          refine lv_lsub hx hb dL_follows_233 ?_
          refine lv_lload hx hb dL_follows_234 (lv_at hl 15 rfl) ?_
          refine lv_ladd hx hb dL_follows_236 ?_
          refine lv_topl (fun yv13 eyv13 => ?_)
          rw [← eyv13] at h
          refine W.lcmp hx hb dL_follows_237 ?_
          refine lv_if_ne (tgt := 316) hx hb dL_follows_238 (by decide) (fun c14 => ?_) (fun c14 => ?_)
          · replace h := (if_neg c14).symm.trans h
            exact no_some h
          · replace h := (if_pos c14).symm.trans h
            refine lv_aload_n hx hb dL_follows_241 rfl (lv_at hl 3 rfl) ?_
            refine lv_bipush (v := 7) hx hb dL_follows_242 (by decide) ?_
            obtain ⟨r244, hr244, h⟩ := bd_some h
            refine gww_l (As := [.ref q, .int 7]) (rest := []) (k2 := 173) (n2 := 1038) ⟨hx, hb, hml, hown, hts⟩ (gEnw_now hE hS (fun _ h9 => Nat.le_trans hlo h9.1)) hK (kL_about l D cI cC cZ cQ cJ t lo q r226.2 7 hlo hlS hr244) (vx_cwSW 2 hts gL_follows_L_about rfl rfl rfl (by decide +kernel) ⟨Nat.le_of_ble_eq_true rfl, Nat.le_of_ble_eq_true rfl⟩) hP hS (fun _ h9 => h9) rfl hl.1 rfl (Nat.le_of_ble_eq_true rfl) ⟨by show _ ≤ (5077 : Nat); omega, by show _ ≤ (30462 : Nat); omega⟩ rfl rfl dL_follows_244 (fun H1 locs hP1 hS hz1 hk1 => ?_)
            have hP : va_P D vwCl (GW cI cC cZ cQ q r244.2) H1 := hP1
            generalize H1 = H at hP hS ⊢
            refine lv_lload hx hb dL_follows_247 (lv_at hl 9 rfl) ?_
            refine lv_iload hx hb dL_follows_249 (lv_at hl 8 rfl) ?_
            refine lv_i2l hx hb dL_follows_251 rfl ?_
            refine lv_ladd hx hb dL_follows_252 ?_
            refine lv_topl (fun yv15 eyv15 => ?_)
            rw [← eyv15] at h
            refine W.lcmp hx hb dL_follows_253 ?_
            refine lv_if_ne (tgt := 316) hx hb dL_follows_254 (by decide) (fun c16 => ?_) (fun c16 => ?_)
            · replace h := (if_neg c16).symm.trans h
              exact no_some h
            · replace h := (if_pos c16).symm.trans h
              refine lv_aload_n hx hb dL_follows_257 rfl (lv_at hl 3 rfl) ?_
              refine lv_bipush (v := 6) hx hb dL_follows_258 (by decide) ?_
              obtain ⟨r260, hr260, h⟩ := bd_some h
              refine gww_l (As := [.ref q, .int 6]) (rest := []) (k2 := 174) (n2 := 1044) ⟨hx, hb, hml, hown, hts⟩ (gEnw_now hE hS (fun _ h9 => Nat.le_trans hlo h9.1)) hK (kL_about l D cI cC cZ cQ cJ t lo q r244.2 6 hlo hlS hr260) (vx_cwSW 2 hts gL_follows_L_about rfl rfl rfl (by decide +kernel) ⟨Nat.le_of_ble_eq_true rfl, Nat.le_of_ble_eq_true rfl⟩) hP hS (fun _ h9 => h9) rfl hl.1 rfl (Nat.le_of_ble_eq_true rfl) ⟨by show _ ≤ (5077 : Nat); omega, by show _ ≤ (30462 : Nat); omega⟩ rfl rfl dL_follows_260 (fun H1 locs hP1 hS hz1 hk1 => ?_)
              have hP : va_P D vwCl (GW cI cC cZ cQ q r260.2) H1 := hP1
              generalize H1 = H at hP hS ⊢
              refine lv_iload hx hb dL_follows_263 (lv_at hl 8 rfl) ?_
              refine lv_i2l hx hb dL_follows_265 rfl ?_
              refine lv_aload_n hx hb dL_follows_266 rfl (lv_at hl 3 rfl) ?_
              refine lv_iload hx hb dL_follows_267 (lv_at hl 8 rfl) ?_
              obtain ⟨r269, hr269, h⟩ := bd_some h
              refine gws_l (As := [.ref q, .int y6]) (rest := [.long ((y6).toInt64), .long r260.1]) (k2 := 176) (n2 := 1056) ⟨hx, hb, hml, hown, hts⟩ (gEnw_now hE hS (fun _ h9 => Nat.le_trans hlo h9.1)) hK (kL_aboutStation l D cI cC cZ cQ cJ t lo q r260.2 y6 hlo hlS hr269) (va_cwS 2 hts gL_follows_L_aboutStation rfl rfl rfl (by decide +kernel) ⟨Nat.le_of_ble_eq_true rfl, Nat.le_of_ble_eq_true rfl⟩) hP hS (fun _ h9 => h9) rfl hl.1 rfl (Nat.le_of_ble_eq_true rfl) ⟨by show _ ≤ (5077 : Nat); omega, by show _ ≤ (30462 : Nat); omega⟩ rfl rfl dL_follows_269 (fun H1 locs hP1 hS hz1 hk1 => ?_)
              have hP : va_P D vwCl (GW cI cC cZ cQ q r269.2) H1 := hP1
              generalize H1 = H at hP hS ⊢
              refine lv_ladd hx hb dL_follows_272 ?_
              refine lv_topl (fun yv17 eyv17 => ?_)
              rw [← eyv17] at h
              refine lv_iload hx hb dL_follows_273 (lv_at hl 6 rfl) ?_
              refine lv_i2l hx hb dL_follows_275 rfl ?_
              obtain ⟨hn18, h⟩ := nzl_some h
              refine lv_lrem hx hb dL_follows_276 hn18 ?_
              refine W.lcmp hx hb dL_follows_277 ?_
              refine lv_if_ne (tgt := 316) hx hb dL_follows_278 (by decide) (fun c19 => ?_) (fun c19 => ?_)
              · replace h := (if_neg c19).symm.trans h
                exact no_some h
              · replace h := (if_pos c19).symm.trans h
                refine lv_iload hx hb dL_follows_281 (lv_at hl 7 rfl) ?_
                obtain ⟨a312_22, haa312_22, h⟩ := bd_some h
                have JJ312 : ∀ (H : Heap) (locs : List Loc) (ls : Array Slot), va_P D vwCl (GW cI cC cZ cQ q a312_22) H → va_S (fIv q 201) s.heap H locs → lv_has ls 35 [(0, .ref q), (1, .int y1), (2, .long y2), (4, .int y4), (5, .int y5), (6, .int y6), (7, .long y7), (10, .long y10), (12, .long y12), (14, .long r95.1), (20, .int r127.1), (21, .int a148_6)] → W p l e ({ frames := 10, cells := 5077, slots := 30462, locals := 169 } : Room) s m ([.ref q, .int p0] : List Value).toArray below meth c H locs 178 1068 (MQ below (va_Qi (fun r (_ : Unit) => r = 1) (fun _ t => va_P D vwCl (GW cI cC cZ cQ q R) t.heap) (fIv q 201)) ([.ref q, .int p0] : List Value).toArray s 5077 30462 (fIv q 201)) (F0 m 312 ls []) := by
                  intro H locs ls hP hS hl
                  refine lv_iconst (v := 1) hx hb dL_follows_312 (by decide) ?_
                  refine lv_goto (tgt := 317) hx hb dL_follows_313 (by decide) ?_
                  refine lv_istore (lv' := [(9, .int 1), (0, .ref q), (1, .int y1), (2, .long y2), (4, .int y4), (5, .int y5), (6, .int y6), (7, .long y7), (10, .long y10), (12, .long y12), (14, .long r95.1), (20, .int r127.1), (21, .int a148_6)]) hx hb dL_follows_317 hl (by decide) rfl (fun ls hl => ?_)
                  refine lv_lconst (v := 0) hx hb dL_follows_319 (by decide) ?_
                  refine lv_lstore (lv' := [(26, .long 0), (9, .int 1), (0, .ref q), (1, .int y1), (2, .long y2), (4, .int y4), (5, .int y5), (6, .int y6), (7, .long y7), (10, .long y10), (12, .long y12), (14, .long r95.1), (20, .int r127.1), (21, .int a148_6)]) hx hb dL_follows_320 hl (by decide) rfl (fun ls hl => ?_)
                  refine lv_iconst (v := 0) hx hb dL_follows_322 (by decide) ?_
                  refine lv_istore (lv' := [(28, .int 0), (26, .long 0), (9, .int 1), (0, .ref q), (1, .int y1), (2, .long y2), (4, .int y4), (5, .int y5), (6, .int y6), (7, .long y7), (10, .long y10), (12, .long y12), (14, .long r95.1), (20, .int r127.1), (21, .int a148_6)]) hx hb dL_follows_323 hl (by decide) rfl (fun ls hl => ?_)
                  refine LP325 _ 191 1146 (by omega) (by omega) 13 178 1068 a312_22 y1 y2 y4 y5 y6 y7 y10 y12 r95.1 r127.1 a148_6 0 0 H locs ls (by omega) (by omega) h (fun S y1 y2 y4 y5 y6 y7 y10 y12 y14 y20 y21 y26 H locs ls h hP hS hl => ?_) hP hS (lv_sub hl [3, 4, 5, 6, 7, 8, 9, 2, 10, 11, 12, 13, 14, 1, 0] rfl)
                  refine lv_iload hx hb dL_follows_350 (lv_at hl 7 rfl) ?_
                  refine lv_if_eq (tgt := 413) hx hb dL_follows_352 (by decide) (fun c => absurd c (by decide)) (fun _ => ?_)
                  refine lv_lload hx hb dL_follows_355 (lv_at hl 13 rfl) ?_
                  refine lv_lload hx hb dL_follows_357 (lv_at hl 9 rfl) ?_
                  refine lv_lload hx hb dL_follows_359 (lv_at hl 10 rfl) ?_
                  refine lv_ladd hx hb dL_follows_361 ?_
                  refine lv_topl (fun yv26 eyv26 => ?_)
                  rw [← eyv26] at h
                  refine W.lcmp hx hb dL_follows_362 ?_
                  refine lv_if_ne (tgt := 413) hx hb dL_follows_363 (by decide) (fun c27 => ?_) (fun c27 => ?_)
                  · replace h := (if_neg c27).symm.trans h
                    exact no_some h
                  · replace h := (if_pos c27).symm.trans h
                    refine lv_aload_n hx hb dL_follows_366 rfl (lv_at hl 0 rfl) ?_
                    obtain ⟨r367, hr367, h⟩ := bd_some h
                    refine gww_l (As := [.ref q]) (rest := []) (k2 := 192) (n2 := 1152) ⟨hx, hb, hml, hown, hts⟩ (gEnw_now hE hS (fun _ h9 => Nat.le_trans hlo h9.1)) hK (kL_undo l D cI cC cZ cQ cJ t lo q S hlo hlS hr367) (vx_cwSW 1 hts gL_follows_L_undo rfl rfl rfl (by decide +kernel) ⟨Nat.le_of_ble_eq_true rfl, Nat.le_of_ble_eq_true rfl⟩) hP hS (fun _ h9 => h9) rfl hl.1 rfl (Nat.le_of_ble_eq_true rfl) ⟨by show _ ≤ (5077 : Nat); omega, by show _ ≤ (30462 : Nat); omega⟩ rfl rfl dL_follows_367 (fun H1 locs hP1 hS hz1 hk1 => ?_)
                    have hP : va_P D vwCl (GW cI cC cZ cQ q r367.2) H1 := hP1
                    generalize H1 = H at hP hS ⊢
                    refine lv_lconst (v := 0) hx hb dL_follows_370 (by decide) ?_
                    refine W.lcmp hx hb dL_follows_371 ?_
                    refine lv_if_lt (tgt := 413) hx hb dL_follows_372 (by decide) (fun c28 => ?_) (fun c28 => ?_)
                    · replace h := (if_pos c28).symm.trans h
                      exact no_some h
                    · replace h := (if_neg c28).symm.trans h
                      refine lv_aload_n hx hb dL_follows_375 rfl (lv_at hl 0 rfl) ?_
                      obtain ⟨r376, hr376, h⟩ := bd_some h
                      refine gws_l (As := [.ref q]) (rest := []) (k2 := 336) (n2 := 2016) ⟨hx, hb, hml, hown, hts⟩ (gEnw_now hE hS (fun _ h9 => Nat.le_trans hlo h9.1)) hK (kL_now l D cI cC cZ cQ cJ t lo q r367.2 hlo hlS hr376) (va_cwS 1 hts gL_follows_L_now rfl rfl rfl (by decide +kernel) ⟨Nat.le_of_ble_eq_true rfl, Nat.le_of_ble_eq_true rfl⟩) hP hS (fun _ h9 => h9) rfl hl.1 rfl (Nat.le_of_ble_eq_true rfl) ⟨by show _ ≤ (5077 : Nat); omega, by show _ ≤ (30462 : Nat); omega⟩ rfl rfl dL_follows_376 (fun H1 locs hP1 hS hz1 hk1 => ?_)
                      have hP : va_P D vwCl (GW cI cC cZ cQ q r376.2) H1 := hP1
                      generalize H1 = H at hP hS ⊢
                      refine lv_lload_n hx hb dL_follows_379 rfl (lv_at hl 2 rfl) ?_
                      refine W.lcmp hx hb dL_follows_380 ?_
                      refine lv_if_ne (tgt := 413) hx hb dL_follows_381 (by decide) (fun c29 => ?_) (fun c29 => ?_)
                      · replace h := (if_neg c29).symm.trans h
                        exact no_some h
                      · replace h := (if_pos c29).symm.trans h
                        refine lv_lload hx hb dL_follows_384 (lv_at hl 8 rfl) ?_
                        refine lv_lconst (v := 0) hx hb dL_follows_386 (by decide) ?_
                        refine W.lcmp hx hb dL_follows_387 ?_
                        obtain ⟨a396_30, haa396_30, h⟩ := bd_some h
                        have JJ396 : ∀ (H : Heap) (locs : List Loc) (ls : Array Slot), va_P D vwCl (GW cI cC cZ cQ q r376.2) H → va_S (fIv q 201) s.heap H locs → lv_has ls 35 [(0, .ref q), (1, .int y1), (2, .long y2), (4, .int y4), (5, .int y5), (6, .int y6), (7, .long y7), (10, .long y10), (20, .int y20), (21, .int y21)] → W p l e ({ frames := 10, cells := 5077, slots := 30462, locals := 169 } : Room) s m ([.ref q, .int p0] : List Value).toArray below meth c H locs 336 2016 (MQ below (va_Qi (fun r (_ : Unit) => r = 1) (fun _ t => va_P D vwCl (GW cI cC cZ cQ q R) t.heap) (fIv q 201)) ([.ref q, .int p0] : List Value).toArray s 5077 30462 (fIv q 201)) (F0 m 396 ls [.int a396_30]) := by
                          intro H locs ls hP hS hl
                          refine lv_iload hx hb dL_follows_396 (lv_at hl 8 rfl) ?_
                          obtain ⟨a406_32, haa406_32, h⟩ := bd_some h
                          have JJ406 : ∀ (H : Heap) (locs : List Loc) (ls : Array Slot), va_P D vwCl (GW cI cC cZ cQ q r376.2) H → va_S (fIv q 201) s.heap H locs → lv_has ls 35 [(0, .ref q), (1, .int y1), (2, .long y2), (4, .int y4), (5, .int y5), (6, .int y6), (7, .long y7), (10, .long y10), (21, .int y21)] → W p l e ({ frames := 10, cells := 5077, slots := 30462, locals := 169 } : Room) s m ([.ref q, .int p0] : List Value).toArray below meth c H locs 336 2016 (MQ below (va_Qi (fun r (_ : Unit) => r = 1) (fun _ t => va_P D vwCl (GW cI cC cZ cQ q R) t.heap) (fIv q 201)) ([.ref q, .int p0] : List Value).toArray s 5077 30462 (fIv q 201)) (F0 m 406 ls [.int a406_32, .int a396_30]) := by
                            intro H locs ls hP hS hl
                            refine lv_icmp_ne (tgt := 413) hx hb dL_follows_406 (by decide) (fun c34 => ?_) (fun c34 => ?_)
                            · replace h := (if_neg c34).symm.trans h
                              exact no_some h
                            · replace h := (if_pos c34).symm.trans h
                              refine lv_iconst (v := 1) hx hb dL_follows_409 (by decide) ?_
                              refine lv_goto (tgt := 414) hx hb dL_follows_410 (by decide) ?_
                              refine lv_istore (lv' := [(9, .int 1), (0, .ref q), (1, .int y1), (2, .long y2), (4, .int y4), (5, .int y5), (6, .int y6), (7, .long y7), (10, .long y10), (21, .int y21)]) hx hb dL_follows_414 hl (by decide) rfl (fun ls hl => ?_)
                              refine lv_iconst (v := 0) hx hb dL_follows_416 (by decide) ?_
                              refine lv_istore (lv' := [(28, .int 0), (9, .int 1), (0, .ref q), (1, .int y1), (2, .long y2), (4, .int y4), (5, .int y5), (6, .int y6), (7, .long y7), (10, .long y10), (21, .int y21)]) hx hb dL_follows_417 hl (by decide) rfl (fun ls hl => ?_)
                              refine lv_iconst (v := 0) hx hb dL_follows_419 (by decide) ?_
                              refine lv_istore (lv' := [(29, .int 0), (28, .int 0), (9, .int 1), (0, .ref q), (1, .int y1), (2, .long y2), (4, .int y4), (5, .int y5), (6, .int y6), (7, .long y7), (10, .long y10), (21, .int y21)]) hx hb dL_follows_420 hl (by decide) rfl (fun ls hl => ?_)
                              refine LP422 _ 4620 27720 (by omega) (by omega) 21 336 2016 r376.2 y1 y2 y4 y5 y6 y7 y10 y21 0 0 H locs ls (by omega) (by omega) h (fun S y1 y2 y4 y5 y6 y7 y21 y28 H locs ls h hP hS hl => ?_) hP hS (lv_sub hl [3, 4, 5, 6, 7, 8, 9, 2, 10, 11, 1, 0] rfl)
                              refine lv_iload hx hb dL_follows_710 (lv_at hl 7 rfl) ?_
                              refine lv_if_eq (tgt := 753) hx hb dL_follows_712 (by decide) (fun c => absurd c (by decide)) (fun _ => ?_)
                              refine lv_iload hx hb dL_follows_715 (lv_at hl 4 rfl) ?_
                              obtain ⟨a732_70, haa732_70, h⟩ := bd_some h
                              have JJ732 : ∀ (H : Heap) (locs : List Loc) (ls : Array Slot), va_P D vwCl (GW cI cC cZ cQ q a732_70) H → va_S (fIv q 201) s.heap H locs → lv_has ls 35 [(0, .ref q), (1, .int y1), (2, .long y2), (4, .int y4), (5, .int y5), (6, .int y6), (7, .long y7), (21, .int y21)] → W p l e ({ frames := 10, cells := 5077, slots := 30462, locals := 169 } : Room) s m ([.ref q, .int p0] : List Value).toArray below meth c H locs 4621 27726 (MQ below (va_Qi (fun r (_ : Unit) => r = 1) (fun _ t => va_P D vwCl (GW cI cC cZ cQ q R) t.heap) (fIv q 201)) ([.ref q, .int p0] : List Value).toArray s 5077 30462 (fIv q 201)) (F0 m 732 ls []) := by
                                intro H locs ls hP hS hl
                                refine lv_iload hx hb dL_follows_732 (lv_at hl 4 rfl) ?_
                                obtain ⟨a749_73, haa749_73, h⟩ := bd_some h
                                have JJ749 : ∀ (H : Heap) (locs : List Loc) (ls : Array Slot), va_P D vwCl (GW cI cC cZ cQ q a749_73) H → va_S (fIv q 201) s.heap H locs → lv_has ls 35 [(0, .ref q), (1, .int y1), (2, .long y2), (5, .int y5), (6, .int y6), (7, .long y7), (21, .int y21)] → W p l e ({ frames := 10, cells := 5077, slots := 30462, locals := 169 } : Room) s m ([.ref q, .int p0] : List Value).toArray below meth c H locs 4622 27732 (MQ below (va_Qi (fun r (_ : Unit) => r = 1) (fun _ t => va_P D vwCl (GW cI cC cZ cQ q R) t.heap) (fIv q 201)) ([.ref q, .int p0] : List Value).toArray s 5077 30462 (fIv q 201)) (F0 m 749 ls []) := by
                                  intro H locs ls hP hS hl
                                  refine lv_iconst (v := 1) hx hb dL_follows_749 (by decide) ?_
                                  refine lv_goto (tgt := 754) hx hb dL_follows_750 (by decide) ?_
                                  refine lv_istore (lv' := [(9, .int 1), (0, .ref q), (1, .int y1), (2, .long y2), (5, .int y5), (6, .int y6), (7, .long y7), (21, .int y21)]) hx hb dL_follows_754 hl (by decide) rfl (fun ls hl => ?_)
                                  refine lv_iload hx hb dL_follows_756 (lv_at hl 4 rfl) ?_
                                  obtain ⟨a863_84, haa863_84, h⟩ := bd_some h
                                  have JJ863 : ∀ (H : Heap) (locs : List Loc) (ls : Array Slot), va_P D vwCl (GW cI cC cZ cQ q a863_84) H → va_S (fIv q 201) s.heap H locs → lv_has ls 35 [(0, .ref q), (1, .int y1), (2, .long y2), (5, .int y5), (6, .int y6), (7, .long y7), (9, .int 1)] → W p l e ({ frames := 10, cells := 5077, slots := 30462, locals := 169 } : Room) s m ([.ref q, .int p0] : List Value).toArray below meth c H locs 4771 28626 (MQ below (va_Qi (fun r (_ : Unit) => r = 1) (fun _ t => va_P D vwCl (GW cI cC cZ cQ q R) t.heap) (fIv q 201)) ([.ref q, .int p0] : List Value).toArray s 5077 30462 (fIv q 201)) (F0 m 863 ls []) := by
                                    intro H locs ls hP hS hl
                                    refine lv_aload_n hx hb dL_follows_863 rfl (lv_at hl 0 rfl) ?_
                                    refine lv_iload hx hb dL_follows_864 (lv_at hl 4 rfl) ?_
                                    obtain ⟨r866, hr866, h⟩ := bd_some h
                                    refine gww_l (As := [.ref q, .int y6]) (rest := []) (k2 := 4772) (n2 := 28632) ⟨hx, hb, hml, hown, hts⟩ (gEnw_now hE hS (fun _ h9 => Nat.le_trans hlo h9.1)) hK (kL_bestLimit l D cI cC cZ cQ cJ t lo q a863_84 y6 hlo hlS hr866) (vx_cwSW 2 hts gL_follows_L_bestLimit rfl rfl rfl (by decide +kernel) ⟨Nat.le_of_ble_eq_true rfl, Nat.le_of_ble_eq_true rfl⟩) hP hS (fun _ h9 => h9) rfl hl.1 rfl (Nat.le_of_ble_eq_true rfl) ⟨by show _ ≤ (5077 : Nat); omega, by show _ ≤ (30462 : Nat); omega⟩ rfl rfl dL_follows_866 (fun H1 locs hP1 hS hz1 hk1 => ?_)
                                    have hP : va_P D vwCl (GW cI cC cZ cQ q r866.2) H1 := hP1
                                    generalize H1 = H at hP hS ⊢
                                    refine lv_lstore (lv' := [(29, .long r866.1), (0, .ref q), (1, .int y1), (2, .long y2), (5, .int y5), (6, .int y6), (7, .long y7), (9, .int 1)]) hx hb dL_follows_869 hl (by decide) rfl (fun ls hl => ?_)
                                    refine lv_aload_n hx hb dL_follows_871 rfl (lv_at hl 1 rfl) ?_
                                    refine lv_bipush (v := 8) hx hb dL_follows_872 (by decide) ?_
                                    obtain ⟨r874, hr874, h⟩ := bd_some h
                                    refine gww_l (As := [.ref q, .int 8]) (rest := []) (k2 := 4773) (n2 := 28638) ⟨hx, hb, hml, hown, hts⟩ (gEnw_now hE hS (fun _ h9 => Nat.le_trans hlo h9.1)) hK (kL_about l D cI cC cZ cQ cJ t lo q r866.2 8 hlo hlS hr874) (vx_cwSW 2 hts gL_follows_L_about rfl rfl rfl (by decide +kernel) ⟨Nat.le_of_ble_eq_true rfl, Nat.le_of_ble_eq_true rfl⟩) hP hS (fun _ h9 => h9) rfl hl.1 rfl (Nat.le_of_ble_eq_true rfl) ⟨by show _ ≤ (5077 : Nat); omega, by show _ ≤ (30462 : Nat); omega⟩ rfl rfl dL_follows_874 (fun H1 locs hP1 hS hz1 hk1 => ?_)
                                    have hP : va_P D vwCl (GW cI cC cZ cQ q r874.2) H1 := hP1
                                    generalize H1 = H at hP hS ⊢
                                    refine lv_lstore (lv' := [(31, .long r874.1), (29, .long r866.1), (0, .ref q), (1, .int y1), (2, .long y2), (5, .int y5), (6, .int y6), (7, .long y7), (9, .int 1)]) hx hb dL_follows_877 hl (by decide) rfl (fun ls hl => ?_)
                                    refine lv_lload hx hb dL_follows_879 (lv_at hl 1 rfl) ?_
                                    refine lv_ldc2 (v := (-9)) hx hb hown (hts (.constantLong RL 193 (-9)) (by decide +kernel)) dL_follows_881 ?_
                                    refine W.lcmp hx hb dL_follows_884 ?_
                                    obtain ⟨a981_94, haa981_94, h⟩ := bd_some h
                                    have JJ981 : ∀ (H : Heap) (locs : List Loc) (ls : Array Slot), va_P D vwCl (GW cI cC cZ cQ q a981_94) H → va_S (fIv q 201) s.heap H locs → lv_has ls 35 [(0, .ref q), (1, .int y1), (2, .long y2), (5, .int y5), (7, .long y7), (9, .int 1)] → W p l e ({ frames := 10, cells := 5077, slots := 30462, locals := 169 } : Room) s m ([.ref q, .int p0] : List Value).toArray below meth c H locs 4779 28674 (MQ below (va_Qi (fun r (_ : Unit) => r = 1) (fun _ t => va_P D vwCl (GW cI cC cZ cQ q R) t.heap) (fIv q 201)) ([.ref q, .int p0] : List Value).toArray s 5077 30462 (fIv q 201)) (F0 m 981 ls []) := by
                                      intro H locs ls hP hS hl
                                      refine lv_aload_n hx hb dL_follows_981 rfl (lv_at hl 0 rfl) ?_
                                      refine lv_bipush (v := 10) hx hb dL_follows_982 (by decide) ?_
                                      obtain ⟨r984, hr984, h⟩ := bd_some h
                                      refine gww_l (As := [.ref q, .int 10]) (rest := []) (k2 := 4780) (n2 := 28680) ⟨hx, hb, hml, hown, hts⟩ (gEnw_now hE hS (fun _ h9 => Nat.le_trans hlo h9.1)) hK (kL_about l D cI cC cZ cQ cJ t lo q a981_94 10 hlo hlS hr984) (vx_cwSW 2 hts gL_follows_L_about rfl rfl rfl (by decide +kernel) ⟨Nat.le_of_ble_eq_true rfl, Nat.le_of_ble_eq_true rfl⟩) hP hS (fun _ h9 => h9) rfl hl.1 rfl (Nat.le_of_ble_eq_true rfl) ⟨by show _ ≤ (5077 : Nat); omega, by show _ ≤ (30462 : Nat); omega⟩ rfl rfl dL_follows_984 (fun H1 locs hP1 hS hz1 hk1 => ?_)
                                      have hP : va_P D vwCl (GW cI cC cZ cQ q r984.2) H1 := hP1
                                      generalize H1 = H at hP hS ⊢
                                      refine lv_lstore (lv' := [(33, .long r984.1), (0, .ref q), (1, .int y1), (2, .long y2), (5, .int y5), (7, .long y7), (9, .int 1)]) hx hb dL_follows_987 hl (by decide) rfl (fun ls hl => ?_)
                                      refine lv_iload hx hb dL_follows_989 (lv_at hl 6 rfl) ?_
                                      refine lv_if_eq (tgt := 1143) hx hb dL_follows_991 (by decide) (fun c => absurd c (by decide)) (fun _ => ?_)
                                      refine lv_aload_n hx hb dL_follows_994 rfl (lv_at hl 1 rfl) ?_
                                      refine lv_iconst (v := 3) hx hb dL_follows_995 (by decide) ?_
                                      refine lv_iconst (v := 1) hx hb dL_follows_996 (by decide) ?_
                                      obtain ⟨r997, hr997, h⟩ := bd_some h
                                      refine gww_l (As := [.ref q, .int 3, .int 1]) (rest := []) (k2 := 4781) (n2 := 28686) ⟨hx, hb, hml, hown, hts⟩ (gEnw_now hE hS (fun _ h9 => Nat.le_trans hlo h9.1)) hK (kL_chance l D cI cC cZ cQ cJ t lo q r984.2 3 1 hlo hlS hr997) (vx_cwSW 3 hts gL_follows_L_chance rfl rfl rfl (by decide +kernel) ⟨Nat.le_of_ble_eq_true rfl, Nat.le_of_ble_eq_true rfl⟩) hP hS (fun _ h9 => h9) rfl hl.1 rfl (Nat.le_of_ble_eq_true rfl) ⟨by show _ ≤ (5077 : Nat); omega, by show _ ≤ (30462 : Nat); omega⟩ rfl rfl dL_follows_997 (fun H1 locs hP1 hS hz1 hk1 => ?_)
                                      have hP : va_P D vwCl (GW cI cC cZ cQ q r997.2) H1 := hP1
                                      generalize H1 = H at hP hS ⊢
                                      refine lv_lload hx hb dL_follows_1000 (lv_at hl 0 rfl) ?_
                                      refine lv_lconst (v := 1) hx hb dL_follows_1002 (by decide) ?_
                                      refine lv_lsub hx hb dL_follows_1003 ?_
                                      refine lv_lload hx hb dL_follows_1004 (lv_at hl 0 rfl) ?_
                                      refine lv_lconst (v := 1) hx hb dL_follows_1006 (by decide) ?_
                                      refine lv_lsub hx hb dL_follows_1007 ?_
                                      refine lv_lmul hx hb dL_follows_1008 ?_
                                      refine lv_lload hx hb dL_follows_1009 (lv_at hl 0 rfl) ?_
                                      refine lv_lconst (v := 1) hx hb dL_follows_1011 (by decide) ?_
                                      refine lv_lsub hx hb dL_follows_1012 ?_
                                      refine lv_lmul hx hb dL_follows_1013 ?_
                                      refine W.lcmp hx hb dL_follows_1014 ?_
                                      refine lv_if_ne (tgt := 1143) hx hb dL_follows_1015 (by decide) (fun c96 => ?_) (fun c96 => ?_)
                                      · replace h := (if_neg c96).symm.trans h
                                        exact no_some h
                                      · replace h := (if_pos c96).symm.trans h
                                        refine lv_aload_n hx hb dL_follows_1018 rfl (lv_at hl 1 rfl) ?_
                                        refine lv_iconst (v := 2) hx hb dL_follows_1019 (by decide) ?_
                                        refine lv_iconst (v := 0) hx hb dL_follows_1020 (by decide) ?_
                                        obtain ⟨r1021, hr1021, h⟩ := bd_some h
                                        refine gww_l (As := [.ref q, .int 2, .int 0]) (rest := []) (k2 := 4782) (n2 := 28692) ⟨hx, hb, hml, hown, hts⟩ (gEnw_now hE hS (fun _ h9 => Nat.le_trans hlo h9.1)) hK (kL_chance l D cI cC cZ cQ cJ t lo q r997.2 2 0 hlo hlS hr1021) (vx_cwSW 3 hts gL_follows_L_chance rfl rfl rfl (by decide +kernel) ⟨Nat.le_of_ble_eq_true rfl, Nat.le_of_ble_eq_true rfl⟩) hP hS (fun _ h9 => h9) rfl hl.1 rfl (Nat.le_of_ble_eq_true rfl) ⟨by show _ ≤ (5077 : Nat); omega, by show _ ≤ (30462 : Nat); omega⟩ rfl rfl dL_follows_1021 (fun H1 locs hP1 hS hz1 hk1 => ?_)
                                        have hP : va_P D vwCl (GW cI cC cZ cQ q r1021.2) H1 := hP1
                                        generalize H1 = H at hP hS ⊢
                                        refine lv_lload hx hb dL_follows_1024 (lv_at hl 0 rfl) ?_
                                        refine lv_lconst (v := 1) hx hb dL_follows_1026 (by decide) ?_
                                        refine W.lcmp hx hb dL_follows_1027 ?_
                                        obtain ⟨a1040_97, haa1040_97, h⟩ := bd_some h
                                        have JJ1040 : ∀ (H : Heap) (locs : List Loc) (ls : Array Slot), va_P D vwCl (GW cI cC cZ cQ q r1021.2) H → va_S (fIv q 201) s.heap H locs → lv_has ls 35 [(0, .ref q), (1, .int y1), (2, .long y2), (5, .int y5), (7, .long y7)] → W p l e ({ frames := 10, cells := 5077, slots := 30462, locals := 169 } : Room) s m ([.ref q, .int p0] : List Value).toArray below meth c H locs 4782 28692 (MQ below (va_Qi (fun r (_ : Unit) => r = 1) (fun _ t => va_P D vwCl (GW cI cC cZ cQ q R) t.heap) (fIv q 201)) ([.ref q, .int p0] : List Value).toArray s 5077 30462 (fIv q 201)) (F0 m 1040 ls [.long a1040_97, .long r1021.1]) := by
                                          intro H locs ls hP hS hl
                                          refine W.lcmp hx hb dL_follows_1040 ?_
                                          refine lv_if_ne (tgt := 1143) hx hb dL_follows_1041 (by decide) (fun c99 => ?_) (fun c99 => ?_)
                                          · replace h := (if_neg c99).symm.trans h
                                            exact no_some h
                                          · replace h := (if_pos c99).symm.trans h
                                            refine lv_iload hx hb dL_follows_1044 (lv_at hl 3 rfl) ?_
                                            refine lv_bipush (v := 12) hx hb dL_follows_1046 (by decide) ?_
                                            obtain ⟨a1098_104, haa1098_104, h⟩ := bd_some h
                                            have JJ1098 : ∀ (H : Heap) (locs : List Loc) (ls : Array Slot), va_P D vwCl (GW cI cC cZ cQ q a1098_104) H → va_S (fIv q 201) s.heap H locs → lv_has ls 35 [(0, .ref q), (1, .int y1), (2, .long y2), (7, .long y7)] → W p l e ({ frames := 10, cells := 5077, slots := 30462, locals := 169 } : Room) s m ([.ref q, .int p0] : List Value).toArray below meth c H locs 4786 28716 (MQ below (va_Qi (fun r (_ : Unit) => r = 1) (fun _ t => va_P D vwCl (GW cI cC cZ cQ q R) t.heap) (fIv q 201)) ([.ref q, .int p0] : List Value).toArray s 5077 30462 (fIv q 201)) (F0 m 1098 ls []) := by
                                              intro H locs ls hP hS hl
                                              refine lv_aload_n hx hb dL_follows_1098 rfl (lv_at hl 0 rfl) ?_
                                              refine lv_iload_n hx hb dL_follows_1099 rfl (lv_at hl 1 rfl) ?_
                                              refine lv_i2l hx hb dL_follows_1100 rfl ?_
                                              obtain ⟨r1101, hr1101, h⟩ := bd_some h
                                              refine gc_wl (As := [.long ((y1).toInt64)]) (rest := []) ⟨hx, hb, hml, hown, hts⟩ hK (kX4_setRandom l D cI cC cZ cQ cJ q a1098_104 ((y1).toInt64) hr1101) (cwV 1 hts gL_follows_X4_setRandom rfl rfl rfl (by decide +kernel) ⟨Nat.le_of_ble_eq_true rfl, Nat.le_of_ble_eq_true rfl⟩) (va_recv hK hP (ci := 4) (q0 := 0) rfl rfl) hP hS (fun _ h9 => h9) rfl hl.1 rfl (Nat.le_of_ble_eq_true rfl) ⟨by show _ ≤ (5077 : Nat); omega, by show _ ≤ (30462 : Nat); omega⟩ dL_follows_1101 (fun H1 locs hP1 hS hz1 hk1 => ?_)
                                              have hP : va_P D vwCl (GW cI cC cZ cQ q r1101.2) H1 := hP1
                                              generalize H1 = H at hP hS ⊢
                                              refine lv_lconst (v := 0) hx hb dL_follows_1104 (by decide) ?_
                                              refine lv_lmul hx hb dL_follows_1105 ?_
                                              refine lv_lconst (v := 0) hx hb dL_follows_1106 (by decide) ?_
                                              refine W.lcmp hx hb dL_follows_1107 ?_
                                              refine lv_if_ne (tgt := 1143) hx hb dL_follows_1108 (by decide) (fun c106 => ?_) (fun c106 => ?_)
                                              · replace h := (if_neg c106).symm.trans h
                                                exact no_some h
                                              · replace h := (if_pos c106).symm.trans h
                                                refine lv_aload_n hx hb dL_follows_1111 rfl (lv_at hl 0 rfl) ?_
                                                obtain ⟨r1112, hr1112, h⟩ := bd_some h
                                                refine gc_rl (As := []) (rest := []) ⟨hx, hb, hml, hown, hts⟩ hK (kX4_random l D cI cC cZ cQ cJ q r1101.2 hr1112) (cwV 0 hts gL_follows_X4_random rfl rfl rfl (by decide +kernel) ⟨Nat.le_of_ble_eq_true rfl, Nat.le_of_ble_eq_true rfl⟩) (va_recv hK hP (ci := 4) (q0 := 0) rfl rfl) hP rfl hl.1 rfl (Nat.le_of_ble_eq_true rfl) ⟨by show _ ≤ (5077 : Nat); omega, by show _ ≤ (30462 : Nat); omega⟩ dL_follows_1112 ?_
                                                refine lv_iload_n hx hb dL_follows_1115 rfl (lv_at hl 1 rfl) ?_
                                                refine lv_i2l hx hb dL_follows_1116 rfl ?_
                                                refine W.lcmp hx hb dL_follows_1117 ?_
                                                refine lv_if_ne (tgt := 1143) hx hb dL_follows_1118 (by decide) (fun c107 => ?_) (fun c107 => ?_)
                                                · replace h := (if_neg c107).symm.trans h
                                                  exact no_some h
                                                · replace h := (if_pos c107).symm.trans h
                                                  refine lv_aload_n hx hb dL_follows_1121 rfl (lv_at hl 0 rfl) ?_
                                                  obtain ⟨r1122, hr1122, h⟩ := bd_some h
                                                  refine gww_l (As := [.ref q]) (rest := []) (k2 := 4787) (n2 := 28722) ⟨hx, hb, hml, hown, hts⟩ (gEnw_now hE hS (fun _ h9 => Nat.le_trans hlo h9.1)) hK (kL_undo l D cI cC cZ cQ cJ t lo q r1101.2 hlo hlS hr1122) (vx_cwSW 1 hts gL_follows_L_undo rfl rfl rfl (by decide +kernel) ⟨Nat.le_of_ble_eq_true rfl, Nat.le_of_ble_eq_true rfl⟩) hP hS (fun _ h9 => h9) rfl hl.1 rfl (Nat.le_of_ble_eq_true rfl) ⟨by show _ ≤ (5077 : Nat); omega, by show _ ≤ (30462 : Nat); omega⟩ rfl rfl dL_follows_1122 (fun H1 locs hP1 hS hz1 hk1 => ?_)
                                                  have hP : va_P D vwCl (GW cI cC cZ cQ q r1122.2) H1 := hP1
                                                  generalize H1 = H at hP hS ⊢
                                                  refine lv_lconst (v := 0) hx hb dL_follows_1125 (by decide) ?_
                                                  refine W.lcmp hx hb dL_follows_1126 ?_
                                                  refine lv_if_lt (tgt := 1143) hx hb dL_follows_1127 (by decide) (fun c108 => ?_) (fun c108 => ?_)
                                                  · replace h := (if_pos c108).symm.trans h
                                                    exact no_some h
                                                  · replace h := (if_neg c108).symm.trans h
                                                    refine lv_aload_n hx hb dL_follows_1130 rfl (lv_at hl 0 rfl) ?_
                                                    obtain ⟨r1131, hr1131, h⟩ := bd_some h
                                                    refine gws_l (As := [.ref q]) (rest := []) (k2 := 4931) (n2 := 29586) ⟨hx, hb, hml, hown, hts⟩ (gEnw_now hE hS (fun _ h9 => Nat.le_trans hlo h9.1)) hK (kL_now l D cI cC cZ cQ cJ t lo q r1122.2 hlo hlS hr1131) (va_cwS 1 hts gL_follows_L_now rfl rfl rfl (by decide +kernel) ⟨Nat.le_of_ble_eq_true rfl, Nat.le_of_ble_eq_true rfl⟩) hP hS (fun _ h9 => h9) rfl hl.1 rfl (Nat.le_of_ble_eq_true rfl) ⟨by show _ ≤ (5077 : Nat); omega, by show _ ≤ (30462 : Nat); omega⟩ rfl rfl dL_follows_1131 (fun H1 locs hP1 hS hz1 hk1 => ?_)
                                                    have hP : va_P D vwCl (GW cI cC cZ cQ q r1131.2) H1 := hP1
                                                    generalize H1 = H at hP hS ⊢
                                                    refine lv_lload_n hx hb dL_follows_1134 rfl (lv_at hl 2 rfl) ?_
                                                    refine W.lcmp hx hb dL_follows_1135 ?_
                                                    refine lv_if_ne (tgt := 1143) hx hb dL_follows_1136 (by decide) (fun c109 => ?_) (fun c109 => ?_)
                                                    · replace h := (if_neg c109).symm.trans h
                                                      exact no_some h
                                                    · replace h := (if_pos c109).symm.trans h
                                                      refine lv_iconst (v := 1) hx hb dL_follows_1139 (by decide) ?_
                                                      refine lv_goto (tgt := 1144) hx hb dL_follows_1140 (by decide) ?_
                                                      refine lv_istore (lv' := [(9, .int 1), (0, .ref q), (1, .int y1), (2, .long y2), (7, .long y7)]) hx hb dL_follows_1144 hl (by decide) rfl (fun ls hl => ?_)
                                                      refine lv_iload hx hb dL_follows_1146 (lv_at hl 0 rfl) ?_
                                                      refine lv_if_eq (tgt := 1186) hx hb dL_follows_1148 (by decide) (fun c => absurd c (by decide)) (fun _ => ?_)
                                                      refine lv_aload_n hx hb dL_follows_1151 rfl (lv_at hl 1 rfl) ?_
                                                      refine lv_iconst (v := 1) hx hb dL_follows_1152 (by decide) ?_
                                                      obtain ⟨r1153, hr1153, h⟩ := bd_some h
                                                      refine gww_l (As := [.ref q, .int 1]) (rest := []) (k2 := 4932) (n2 := 29592) ⟨hx, hb, hml, hown, hts⟩ (gEnw_now hE hS (fun _ h9 => Nat.le_trans hlo h9.1)) hK (kL_restore l D cI cC cZ cQ cJ t lo q r1131.2 1 hlo hlS hr1153) (vx_cwSW 2 hts gL_follows_L_restore rfl rfl rfl (by decide +kernel) ⟨Nat.le_of_ble_eq_true rfl, Nat.le_of_ble_eq_true rfl⟩) hP hS (fun _ h9 => h9) rfl hl.1 rfl (Nat.le_of_ble_eq_true rfl) ⟨by show _ ≤ (5077 : Nat); omega, by show _ ≤ (30462 : Nat); omega⟩ rfl rfl dL_follows_1153 (fun H1 locs hP1 hS hz1 hk1 => ?_)
                                                      have hP : va_P D vwCl (GW cI cC cZ cQ q r1153.2) H1 := hP1
                                                      generalize H1 = H at hP hS ⊢
                                                      refine lv_lload hx hb dL_follows_1156 (lv_at hl 4 rfl) ?_
                                                      refine W.lcmp hx hb dL_follows_1158 ?_
                                                      refine lv_if_ne (tgt := 1186) hx hb dL_follows_1159 (by decide) (fun c110 => ?_) (fun c110 => ?_)
                                                      · replace h := (if_neg c110).symm.trans h
                                                        exact no_some h
                                                      · replace h := (if_pos c110).symm.trans h
                                                        refine lv_aload_n hx hb dL_follows_1162 rfl (lv_at hl 1 rfl) ?_
                                                        obtain ⟨r1163, hr1163, h⟩ := bd_some h
                                                        refine gws_l (As := [.ref q]) (rest := []) (k2 := 5076) (n2 := 30456) ⟨hx, hb, hml, hown, hts⟩ (gEnw_now hE hS (fun _ h9 => Nat.le_trans hlo h9.1)) hK (kL_now l D cI cC cZ cQ cJ t lo q r1153.2 hlo hlS hr1163) (va_cwS 1 hts gL_follows_L_now rfl rfl rfl (by decide +kernel) ⟨Nat.le_of_ble_eq_true rfl, Nat.le_of_ble_eq_true rfl⟩) hP hS (fun _ h9 => h9) rfl hl.1 rfl (Nat.le_of_ble_eq_true rfl) ⟨by show _ ≤ (5077 : Nat); omega, by show _ ≤ (30462 : Nat); omega⟩ rfl rfl dL_follows_1163 (fun H1 locs hP1 hS hz1 hk1 => ?_)
                                                        have hP : va_P D vwCl (GW cI cC cZ cQ q r1163.2) H1 := hP1
                                                        generalize H1 = H at hP hS ⊢
                                                        refine lv_lload_n hx hb dL_follows_1166 rfl (lv_at hl 3 rfl) ?_
                                                        refine W.lcmp hx hb dL_follows_1167 ?_
                                                        refine lv_if_ne (tgt := 1186) hx hb dL_follows_1168 (by decide) (fun c111 => ?_) (fun c111 => ?_)
                                                        · replace h := (if_neg c111).symm.trans h
                                                          exact no_some h
                                                        · replace h := (if_pos c111).symm.trans h
                                                          refine lv_aload_n hx hb dL_follows_1171 rfl (lv_at hl 1 rfl) ?_
                                                          obtain ⟨r1172, hr1172, h⟩ := bd_some h
                                                          refine gww_l (As := [.ref q]) (rest := []) (k2 := 5077) (n2 := 30462) ⟨hx, hb, hml, hown, hts⟩ (gEnw_now hE hS (fun _ h9 => Nat.le_trans hlo h9.1)) hK (kL_undo l D cI cC cZ cQ cJ t lo q r1163.2 hlo hlS hr1172) (vx_cwSW 1 hts gL_follows_L_undo rfl rfl rfl (by decide +kernel) ⟨Nat.le_of_ble_eq_true rfl, Nat.le_of_ble_eq_true rfl⟩) hP hS (fun _ h9 => h9) rfl hl.1 rfl (Nat.le_of_ble_eq_true rfl) ⟨by show _ ≤ (5077 : Nat); omega, by show _ ≤ (30462 : Nat); omega⟩ rfl rfl dL_follows_1172 (fun H1 locs hP1 hS hz1 hk1 => ?_)
                                                          have hP : va_P D vwCl (GW cI cC cZ cQ q r1172.2) H1 := hP1
                                                          generalize H1 = H at hP hS ⊢
                                                          refine lv_ldc2 (v := (-9000000000000000003)) hx hb hown (hts (.constantLong RL 21 (-9000000000000000003)) (by decide +kernel)) dL_follows_1175 ?_
                                                          refine W.lcmp hx hb dL_follows_1178 ?_
                                                          refine lv_if_ne (tgt := 1186) hx hb dL_follows_1179 (by decide) (fun c112 => ?_) (fun c112 => ?_)
                                                          · replace h := (if_neg c112).symm.trans h
                                                            exact no_some h
                                                          · replace h := (if_pos c112).symm.trans h
                                                            refine lv_iconst (v := 1) hx hb dL_follows_1182 (by decide) ?_
                                                            refine lv_goto (tgt := 1187) hx hb dL_follows_1183 (by decide) ?_
                                                            refine W.widen (k := 5077) (n := 30462) (by omega) (by omega) ?_
                                                            have h := Option.some.inj h
                                                            subst h
                                                            exact W.zret (v := 1) hx hb hr rfl (fun t ht hW => ⟨⟨_, (), rfl, rfl, gh ht hP⟩, hS.F ht⟩) hS.2.2 dL_follows_1187
                                            clear h
                                            replace h := haa1098_104
                                            clear haa1098_104
                                            refine lv_icmp_eq (tgt := 1098) hx hb dL_follows_1048 (by decide) (fun c100 => ?_) (fun c100 => ?_)
                                            · replace h := (if_pos c100).symm.trans h
                                              have h := Option.some.inj h
                                              subst h
                                              refine W.widen (k := 4786) (n := 28716) (by omega) (by omega) ?_
                                              exact JJ1098 H locs ls hP hS (lv_sub hl [0, 1, 2, 4] rfl)
                                            · replace h := (if_neg c100).symm.trans h
                                              refine lv_aload_n hx hb dL_follows_1051 rfl (lv_at hl 0 rfl) ?_
                                              refine lv_iconst (v := 2) hx hb dL_follows_1052 (by decide) ?_
                                              obtain ⟨r1053, hr1053, h⟩ := bd_some h
                                              refine gww_l (As := [.ref q, .int 2]) (rest := []) (k2 := 4783) (n2 := 28698) ⟨hx, hb, hml, hown, hts⟩ (gEnw_now hE hS (fun _ h9 => Nat.le_trans hlo h9.1)) hK (kL_addGrip l D cI cC cZ cQ cJ t lo q r1021.2 2 hlo hlS hr1053) (vx_cwSW 2 hts gL_follows_L_addGrip rfl rfl rfl (by decide +kernel) ⟨Nat.le_of_ble_eq_true rfl, Nat.le_of_ble_eq_true rfl⟩) hP hS (fun _ h9 => h9) rfl hl.1 rfl (Nat.le_of_ble_eq_true rfl) ⟨by show _ ≤ (5077 : Nat); omega, by show _ ≤ (30462 : Nat); omega⟩ rfl rfl dL_follows_1053 (fun H1 locs hP1 hS hz1 hk1 => ?_)
                                              have hP : va_P D vwCl (GW cI cC cZ cQ q r1053.2) H1 := hP1
                                              generalize H1 = H at hP hS ⊢
                                              refine lv_iload hx hb dL_follows_1056 (lv_at hl 3 rfl) ?_
                                              refine lv_i2l hx hb dL_follows_1058 rfl ?_
                                              refine W.lcmp hx hb dL_follows_1059 ?_
                                              refine lv_if_ne (tgt := 1143) hx hb dL_follows_1060 (by decide) (fun c101 => ?_) (fun c101 => ?_)
                                              · replace h := (if_neg c101).symm.trans h
                                                exact no_some h
                                              · replace h := (if_pos c101).symm.trans h
                                                refine lv_aload_n hx hb dL_follows_1063 rfl (lv_at hl 0 rfl) ?_
                                                refine lv_iload hx hb dL_follows_1064 (lv_at hl 3 rfl) ?_
                                                refine lv_iconst (v := 5) hx hb dL_follows_1066 (by decide) ?_
                                                obtain ⟨r1067, hr1067, h⟩ := bd_some h
                                                refine gww_l (As := [.ref q, .int y5, .int 5]) (rest := []) (k2 := 4784) (n2 := 28704) ⟨hx, hb, hml, hown, hts⟩ (gEnw_now hE hS (fun _ h9 => Nat.le_trans hlo h9.1)) hK (kL_grip l D cI cC cZ cQ cJ t lo q r1053.2 y5 5 hlo hlS hr1067) (vx_cwSW 3 hts gL_follows_L_grip rfl rfl rfl (by decide +kernel) ⟨Nat.le_of_ble_eq_true rfl, Nat.le_of_ble_eq_true rfl⟩) hP hS (fun _ h9 => h9) rfl hl.1 rfl (Nat.le_of_ble_eq_true rfl) ⟨by show _ ≤ (5077 : Nat); omega, by show _ ≤ (30462 : Nat); omega⟩ rfl rfl dL_follows_1067 (fun H1 locs hP1 hS hz1 hk1 => ?_)
                                                have hP : va_P D vwCl (GW cI cC cZ cQ q r1067.2) H1 := hP1
                                                generalize H1 = H at hP hS ⊢
                                                refine lv_lconst (v := 1) hx hb dL_follows_1070 (by decide) ?_
                                                refine W.lcmp hx hb dL_follows_1071 ?_
                                                refine lv_if_ne (tgt := 1143) hx hb dL_follows_1072 (by decide) (fun c102 => ?_) (fun c102 => ?_)
                                                · replace h := (if_neg c102).symm.trans h
                                                  exact no_some h
                                                · replace h := (if_pos c102).symm.trans h
                                                  refine lv_aload_n hx hb dL_follows_1075 rfl (lv_at hl 0 rfl) ?_
                                                  refine lv_iload hx hb dL_follows_1076 (lv_at hl 3 rfl) ?_
                                                  refine lv_iconst (v := 4) hx hb dL_follows_1078 (by decide) ?_
                                                  obtain ⟨r1079, hr1079, h⟩ := bd_some h
                                                  refine gww_l (As := [.ref q, .int y5, .int 4]) (rest := []) (k2 := 4785) (n2 := 28710) ⟨hx, hb, hml, hown, hts⟩ (gEnw_now hE hS (fun _ h9 => Nat.le_trans hlo h9.1)) hK (kL_grip l D cI cC cZ cQ cJ t lo q r1067.2 y5 4 hlo hlS hr1079) (vx_cwSW 3 hts gL_follows_L_grip rfl rfl rfl (by decide +kernel) ⟨Nat.le_of_ble_eq_true rfl, Nat.le_of_ble_eq_true rfl⟩) hP hS (fun _ h9 => h9) rfl hl.1 rfl (Nat.le_of_ble_eq_true rfl) ⟨by show _ ≤ (5077 : Nat); omega, by show _ ≤ (30462 : Nat); omega⟩ rfl rfl dL_follows_1079 (fun H1 locs hP1 hS hz1 hk1 => ?_)
                                                  have hP : va_P D vwCl (GW cI cC cZ cQ q r1079.2) H1 := hP1
                                                  generalize H1 = H at hP hS ⊢
                                                  refine lv_ldc2 (v := (-9)) hx hb hown (hts (.constantLong RL 193 (-9)) (by decide +kernel)) dL_follows_1082 ?_
                                                  refine W.lcmp hx hb dL_follows_1085 ?_
                                                  refine lv_if_ne (tgt := 1143) hx hb dL_follows_1086 (by decide) (fun c103 => ?_) (fun c103 => ?_)
                                                  · replace h := (if_neg c103).symm.trans h
                                                    exact no_some h
                                                  · replace h := (if_pos c103).symm.trans h
                                                    refine lv_aload_n hx hb dL_follows_1089 rfl (lv_at hl 0 rfl) ?_
                                                    obtain ⟨r1090, hr1090, h⟩ := bd_some h
                                                    refine gww_l (As := [.ref q]) (rest := []) (k2 := 4786) (n2 := 28716) ⟨hx, hb, hml, hown, hts⟩ (gEnw_now hE hS (fun _ h9 => Nat.le_trans hlo h9.1)) hK (kL_undo l D cI cC cZ cQ cJ t lo q r1079.2 hlo hlS hr1090) (vx_cwSW 1 hts gL_follows_L_undo rfl rfl rfl (by decide +kernel) ⟨Nat.le_of_ble_eq_true rfl, Nat.le_of_ble_eq_true rfl⟩) hP hS (fun _ h9 => h9) rfl hl.1 rfl (Nat.le_of_ble_eq_true rfl) ⟨by show _ ≤ (5077 : Nat); omega, by show _ ≤ (30462 : Nat); omega⟩ rfl rfl dL_follows_1090 (fun H1 locs hP1 hS hz1 hk1 => ?_)
                                                    have hP : va_P D vwCl (GW cI cC cZ cQ q r1090.2) H1 := hP1
                                                    generalize H1 = H at hP hS ⊢
                                                    refine lv_lconst (v := 0) hx hb dL_follows_1093 (by decide) ?_
                                                    refine W.lcmp hx hb dL_follows_1094 ?_
                                                    refine lv_if_lt (tgt := 1143) hx hb dL_follows_1095 (by decide) (fun c104 => ?_) (fun c104 => ?_)
                                                    · replace h := (if_pos c104).symm.trans h
                                                      exact no_some h
                                                    · replace h := (if_neg c104).symm.trans h
                                                      have h := Option.some.inj h
                                                      subst h
                                                      refine W.widen (k := 4786) (n := 28716) (by omega) (by omega) ?_
                                                      exact JJ1098 H locs ls hP hS (lv_sub hl [0, 1, 2, 4] rfl)
                                        clear h
                                        replace h := haa1040_97
                                        clear haa1040_97
                                        refine lv_if_ne (tgt := 1035) hx hb dL_follows_1028 (by decide) (fun c97 => ?_) (fun c97 => ?_)
                                        · replace h := (if_neg c97).symm.trans h
                                          refine lv_lload hx hb dL_follows_1035 (lv_at hl 0 rfl) ?_
                                          refine lv_lload hx hb dL_follows_1037 (lv_at hl 0 rfl) ?_
                                          refine lv_lmul hx hb dL_follows_1039 ?_
                                          have h := Option.some.inj h
                                          subst h
                                          refine W.widen (k := 4782) (n := 28692) (by omega) (by omega) ?_
                                          exact JJ1040 H locs ls hP hS (lv_sub hl [1, 2, 3, 4, 5] rfl)
                                        · replace h := (if_pos c97).symm.trans h
                                          refine lv_lconst (v := 1) hx hb dL_follows_1031 (by decide) ?_
                                          refine lv_goto (tgt := 1040) hx hb dL_follows_1032 (by decide) ?_
                                          have h := Option.some.inj h
                                          subst h
                                          refine W.widen (k := 4782) (n := 28692) (by omega) (by omega) ?_
                                          exact JJ1040 H locs ls hP hS (lv_sub hl [1, 2, 3, 4, 5] rfl)
                                    clear h
                                    replace h := haa981_94
                                    clear haa981_94
                                    refine lv_if_eq (tgt := 981) hx hb dL_follows_885 (by decide) (fun c86 => ?_) (fun c86 => ?_)
                                    · replace h := (if_pos c86).symm.trans h
                                      have h := Option.some.inj h
                                      subst h
                                      refine W.widen (k := 4779) (n := 28674) (by omega) (by omega) ?_
                                      exact JJ981 H locs ls hP hS (lv_sub hl [2, 3, 4, 5, 7, 8] rfl)
                                    · replace h := (if_neg c86).symm.trans h
                                      refine lv_iload hx hb dL_follows_888 (lv_at hl 8 rfl) ?_
                                      refine lv_if_eq (tgt := 981) hx hb dL_follows_890 (by decide) (fun c => absurd c (by decide)) (fun _ => ?_)
                                      refine lv_aload_n hx hb dL_follows_893 rfl (lv_at hl 2 rfl) ?_
                                      refine lv_iconst (v := 0) hx hb dL_follows_894 (by decide) ?_
                                      refine lv_lload hx hb dL_follows_895 (lv_at hl 1 rfl) ?_
                                      refine lv_l2i hx hb dL_follows_897 rfl ?_
                                      obtain ⟨r898, hr898, h⟩ := bd_some h
                                      refine gww_l (As := [.ref q, .int 0, .int ((r866.1).toInt32)]) (rest := []) (k2 := 4774) (n2 := 28644) ⟨hx, hb, hml, hown, hts⟩ (gEnw_now hE hS (fun _ h9 => Nat.le_trans hlo h9.1)) hK (kL_setLimit l D cI cC cZ cQ cJ t lo q r874.2 0 ((r866.1).toInt32) hlo hlS hr898) (vx_cwSW 3 hts gL_follows_L_setLimit rfl rfl rfl (by decide +kernel) ⟨Nat.le_of_ble_eq_true rfl, Nat.le_of_ble_eq_true rfl⟩) hP hS (fun _ h9 => h9) rfl hl.1 rfl (Nat.le_of_ble_eq_true rfl) ⟨by show _ ≤ (5077 : Nat); omega, by show _ ≤ (30462 : Nat); omega⟩ rfl rfl dL_follows_898 (fun H1 locs hP1 hS hz1 hk1 => ?_)
                                      have hP : va_P D vwCl (GW cI cC cZ cQ q r898.2) H1 := hP1
                                      generalize H1 = H at hP hS ⊢
                                      refine lv_lload hx hb dL_follows_901 (lv_at hl 0 rfl) ?_
                                      refine W.lcmp hx hb dL_follows_903 ?_
                                      refine lv_if_ne (tgt := 978) hx hb dL_follows_904 (by decide) (fun c87 => ?_) (fun c87 => ?_)
                                      · replace h := (if_neg c87).symm.trans h
                                        exact no_some h
                                      · replace h := (if_pos c87).symm.trans h
                                        refine lv_aload_n hx hb dL_follows_907 rfl (lv_at hl 2 rfl) ?_
                                        refine lv_iload hx hb dL_follows_908 (lv_at hl 6 rfl) ?_
                                        refine lv_iconst (v := 2) hx hb dL_follows_910 (by decide) ?_
                                        obtain ⟨r911, hr911, h⟩ := bd_some h
                                        refine gww_l (As := [.ref q, .int y6, .int 2]) (rest := []) (k2 := 4775) (n2 := 28650) ⟨hx, hb, hml, hown, hts⟩ (gEnw_now hE hS (fun _ h9 => Nat.le_trans hlo h9.1)) hK (kL_happens l D cI cC cZ cQ cJ t lo q r898.2 y6 2 hlo hlS hr911) (vx_cwSW 3 hts gL_follows_L_happens rfl rfl rfl (by decide +kernel) ⟨Nat.le_of_ble_eq_true rfl, Nat.le_of_ble_eq_true rfl⟩) hP hS (fun _ h9 => h9) rfl hl.1 rfl (Nat.le_of_ble_eq_true rfl) ⟨by show _ ≤ (5077 : Nat); omega, by show _ ≤ (30462 : Nat); omega⟩ rfl rfl dL_follows_911 (fun H1 locs hP1 hS hz1 hk1 => ?_)
                                        have hP : va_P D vwCl (GW cI cC cZ cQ q r911.2) H1 := hP1
                                        generalize H1 = H at hP hS ⊢
                                        refine lv_lconst (v := 0) hx hb dL_follows_914 (by decide) ?_
                                        refine W.lcmp hx hb dL_follows_915 ?_
                                        refine lv_if_ne (tgt := 978) hx hb dL_follows_916 (by decide) (fun c88 => ?_) (fun c88 => ?_)
                                        · replace h := (if_neg c88).symm.trans h
                                          exact no_some h
                                        · replace h := (if_pos c88).symm.trans h
                                          refine lv_aload_n hx hb dL_follows_919 rfl (lv_at hl 2 rfl) ?_
                                          obtain ⟨r920, hr920, h⟩ := bd_some h
                                          refine gww_l (As := [.ref q]) (rest := []) (k2 := 4776) (n2 := 28656) ⟨hx, hb, hml, hown, hts⟩ (gEnw_now hE hS (fun _ h9 => Nat.le_trans hlo h9.1)) hK (kL_undo l D cI cC cZ cQ cJ t lo q r911.2 hlo hlS hr920) (vx_cwSW 1 hts gL_follows_L_undo rfl rfl rfl (by decide +kernel) ⟨Nat.le_of_ble_eq_true rfl, Nat.le_of_ble_eq_true rfl⟩) hP hS (fun _ h9 => h9) rfl hl.1 rfl (Nat.le_of_ble_eq_true rfl) ⟨by show _ ≤ (5077 : Nat); omega, by show _ ≤ (30462 : Nat); omega⟩ rfl rfl dL_follows_920 (fun H1 locs hP1 hS hz1 hk1 => ?_)
                                          have hP : va_P D vwCl (GW cI cC cZ cQ q r920.2) H1 := hP1
                                          generalize H1 = H at hP hS ⊢
                                          refine lv_lconst (v := 0) hx hb dL_follows_923 (by decide) ?_
                                          refine W.lcmp hx hb dL_follows_924 ?_
                                          refine lv_if_lt (tgt := 978) hx hb dL_follows_925 (by decide) (fun c89 => ?_) (fun c89 => ?_)
                                          · replace h := (if_pos c89).symm.trans h
                                            exact no_some h
                                          · replace h := (if_neg c89).symm.trans h
                                            refine lv_lload hx hb dL_follows_928 (lv_at hl 1 rfl) ?_
                                            refine lv_ldc2 (v := 99) hx hb hown (hts (.constantLong RL 224 (99)) (by decide +kernel)) dL_follows_930 ?_
                                            refine W.lcmp hx hb dL_follows_933 ?_
                                            obtain ⟨a974_93, haa974_93, h⟩ := bd_some h
                                            have JJ974 : ∀ (H : Heap) (locs : List Loc) (ls : Array Slot), va_P D vwCl (GW cI cC cZ cQ q a974_93) H → va_S (fIv q 201) s.heap H locs → lv_has ls 35 [(0, .ref q), (1, .int y1), (2, .long y2), (5, .int y5), (7, .long y7)] → W p l e ({ frames := 10, cells := 5077, slots := 30462, locals := 169 } : Room) s m ([.ref q, .int p0] : List Value).toArray below meth c H locs 4779 28674 (MQ below (va_Qi (fun r (_ : Unit) => r = 1) (fun _ t => va_P D vwCl (GW cI cC cZ cQ q R) t.heap) (fIv q 201)) ([.ref q, .int p0] : List Value).toArray s 5077 30462 (fIv q 201)) (F0 m 974 ls []) := by
                                              intro H locs ls hP hS hl
                                              refine lv_iconst (v := 1) hx hb dL_follows_974 (by decide) ?_
                                              refine lv_goto (tgt := 979) hx hb dL_follows_975 (by decide) ?_
                                              refine lv_istore (lv' := [(9, .int 1), (0, .ref q), (1, .int y1), (2, .long y2), (5, .int y5), (7, .long y7)]) hx hb dL_follows_979 hl (by decide) rfl (fun ls hl => ?_)
                                              have h := Option.some.inj h
                                              subst h
                                              refine W.widen (k := 4779) (n := 28674) (by omega) (by omega) ?_
                                              exact JJ981 H locs ls hP hS (lv_sub hl [1, 2, 3, 4, 5, 0] rfl)
                                            clear h
                                            replace h := haa974_93
                                            clear haa974_93
                                            refine lv_if_eq (tgt := 974) hx hb dL_follows_934 (by decide) (fun c90 => ?_) (fun c90 => ?_)
                                            · replace h := (if_pos c90).symm.trans h
                                              have h := Option.some.inj h
                                              subst h
                                              refine W.widen (k := 4779) (n := 28674) (by omega) (by omega) ?_
                                              exact JJ974 H locs ls hP hS (lv_sub hl [2, 3, 4, 5, 7] rfl)
                                            · replace h := (if_neg c90).symm.trans h
                                              refine lv_aload_n hx hb dL_follows_937 rfl (lv_at hl 2 rfl) ?_
                                              refine lv_iconst (v := 0) hx hb dL_follows_938 (by decide) ?_
                                              refine lv_lload hx hb dL_follows_939 (lv_at hl 1 rfl) ?_
                                              refine lv_l2i hx hb dL_follows_941 rfl ?_
                                              refine lv_iconst (v := 1) hx hb dL_follows_942 (by decide) ?_
                                              refine lv_iadd hx hb dL_follows_943 ?_
                                              obtain ⟨r944, hr944, h⟩ := bd_some h
                                              refine gww_l (As := [.ref q, .int 0, .int (((r866.1).toInt32) + 1)]) (rest := []) (k2 := 4777) (n2 := 28662) ⟨hx, hb, hml, hown, hts⟩ (gEnw_now hE hS (fun _ h9 => Nat.le_trans hlo h9.1)) hK (kL_setLimit l D cI cC cZ cQ cJ t lo q r920.2 0 (((r866.1).toInt32) + 1) hlo hlS hr944) (vx_cwSW 3 hts gL_follows_L_setLimit rfl rfl rfl (by decide +kernel) ⟨Nat.le_of_ble_eq_true rfl, Nat.le_of_ble_eq_true rfl⟩) hP hS (fun _ h9 => h9) rfl hl.1 rfl (Nat.le_of_ble_eq_true rfl) ⟨by show _ ≤ (5077 : Nat); omega, by show _ ≤ (30462 : Nat); omega⟩ rfl rfl dL_follows_944 (fun H1 locs hP1 hS hz1 hk1 => ?_)
                                              have hP : va_P D vwCl (GW cI cC cZ cQ q r944.2) H1 := hP1
                                              generalize H1 = H at hP hS ⊢
                                              refine lv_lload hx hb dL_follows_947 (lv_at hl 0 rfl) ?_
                                              refine W.lcmp hx hb dL_follows_949 ?_
                                              refine lv_if_ne (tgt := 978) hx hb dL_follows_950 (by decide) (fun c91 => ?_) (fun c91 => ?_)
                                              · replace h := (if_neg c91).symm.trans h
                                                exact no_some h
                                              · replace h := (if_pos c91).symm.trans h
                                                refine lv_aload_n hx hb dL_follows_953 rfl (lv_at hl 2 rfl) ?_
                                                refine lv_iload hx hb dL_follows_954 (lv_at hl 6 rfl) ?_
                                                refine lv_iconst (v := 2) hx hb dL_follows_956 (by decide) ?_
                                                obtain ⟨r957, hr957, h⟩ := bd_some h
                                                refine gww_l (As := [.ref q, .int y6, .int 2]) (rest := []) (k2 := 4778) (n2 := 28668) ⟨hx, hb, hml, hown, hts⟩ (gEnw_now hE hS (fun _ h9 => Nat.le_trans hlo h9.1)) hK (kL_happens l D cI cC cZ cQ cJ t lo q r944.2 y6 2 hlo hlS hr957) (vx_cwSW 3 hts gL_follows_L_happens rfl rfl rfl (by decide +kernel) ⟨Nat.le_of_ble_eq_true rfl, Nat.le_of_ble_eq_true rfl⟩) hP hS (fun _ h9 => h9) rfl hl.1 rfl (Nat.le_of_ble_eq_true rfl) ⟨by show _ ≤ (5077 : Nat); omega, by show _ ≤ (30462 : Nat); omega⟩ rfl rfl dL_follows_957 (fun H1 locs hP1 hS hz1 hk1 => ?_)
                                                have hP : va_P D vwCl (GW cI cC cZ cQ q r957.2) H1 := hP1
                                                generalize H1 = H at hP hS ⊢
                                                refine lv_lconst (v := 0) hx hb dL_follows_960 (by decide) ?_
                                                refine W.lcmp hx hb dL_follows_961 ?_
                                                refine lv_if_le (tgt := 978) hx hb dL_follows_962 (by decide) (fun c92 => ?_) (fun c92 => ?_)
                                                · replace h := (if_pos c92).symm.trans h
                                                  exact no_some h
                                                · replace h := (if_neg c92).symm.trans h
                                                  refine lv_aload_n hx hb dL_follows_965 rfl (lv_at hl 2 rfl) ?_
                                                  obtain ⟨r966, hr966, h⟩ := bd_some h
                                                  refine gww_l (As := [.ref q]) (rest := []) (k2 := 4779) (n2 := 28674) ⟨hx, hb, hml, hown, hts⟩ (gEnw_now hE hS (fun _ h9 => Nat.le_trans hlo h9.1)) hK (kL_undo l D cI cC cZ cQ cJ t lo q r957.2 hlo hlS hr966) (vx_cwSW 1 hts gL_follows_L_undo rfl rfl rfl (by decide +kernel) ⟨Nat.le_of_ble_eq_true rfl, Nat.le_of_ble_eq_true rfl⟩) hP hS (fun _ h9 => h9) rfl hl.1 rfl (Nat.le_of_ble_eq_true rfl) ⟨by show _ ≤ (5077 : Nat); omega, by show _ ≤ (30462 : Nat); omega⟩ rfl rfl dL_follows_966 (fun H1 locs hP1 hS hz1 hk1 => ?_)
                                                  have hP : va_P D vwCl (GW cI cC cZ cQ q r966.2) H1 := hP1
                                                  generalize H1 = H at hP hS ⊢
                                                  refine lv_lconst (v := 0) hx hb dL_follows_969 (by decide) ?_
                                                  refine W.lcmp hx hb dL_follows_970 ?_
                                                  refine lv_if_lt (tgt := 978) hx hb dL_follows_971 (by decide) (fun c93 => ?_) (fun c93 => ?_)
                                                  · replace h := (if_pos c93).symm.trans h
                                                    exact no_some h
                                                  · replace h := (if_neg c93).symm.trans h
                                                    have h := Option.some.inj h
                                                    subst h
                                                    refine W.widen (k := 4779) (n := 28674) (by omega) (by omega) ?_
                                                    exact JJ974 H locs ls hP hS (lv_sub hl [2, 3, 4, 5, 7] rfl)
                                  clear h
                                  replace h := haa863_84
                                  clear haa863_84
                                  refine lv_if_le (tgt := 863) hx hb dL_follows_758 (by decide) (fun c75 => ?_) (fun c75 => ?_)
                                  · replace h := (if_pos c75).symm.trans h
                                    have h := Option.some.inj h
                                    subst h
                                    refine W.widen (k := 4771) (n := 28626) (by omega) (by omega) ?_
                                    exact JJ863 H locs ls hP hS (lv_sub hl [1, 2, 3, 4, 5, 6, 0] rfl)
                                  · replace h := (if_neg c75).symm.trans h
                                    refine lv_iload hx hb dL_follows_761 (lv_at hl 0 rfl) ?_
                                    refine lv_if_eq (tgt := 863) hx hb dL_follows_763 (by decide) (fun c => absurd c (by decide)) (fun _ => ?_)
                                    refine lv_aload_n hx hb dL_follows_766 rfl (lv_at hl 1 rfl) ?_
                                    refine lv_iload hx hb dL_follows_767 (lv_at hl 7 rfl) ?_
                                    refine lv_iconst (v := 5) hx hb dL_follows_769 (by decide) ?_
                                    obtain ⟨r770, hr770, h⟩ := bd_some h
                                    refine gww_l (As := [.ref q, .int y21, .int 5]) (rest := []) (k2 := 4623) (n2 := 27738) ⟨hx, hb, hml, hown, hts⟩ (gEnw_now hE hS (fun _ h9 => Nat.le_trans hlo h9.1)) hK (kL_grip l D cI cC cZ cQ cJ t lo q a749_73 y21 5 hlo hlS hr770) (vx_cwSW 3 hts gL_follows_L_grip rfl rfl rfl (by decide +kernel) ⟨Nat.le_of_ble_eq_true rfl, Nat.le_of_ble_eq_true rfl⟩) hP hS (fun _ h9 => h9) rfl hl.1 rfl (Nat.le_of_ble_eq_true rfl) ⟨by show _ ≤ (5077 : Nat); omega, by show _ ≤ (30462 : Nat); omega⟩ rfl rfl dL_follows_770 (fun H1 locs hP1 hS hz1 hk1 => ?_)
                                    have hP : va_P D vwCl (GW cI cC cZ cQ q r770.2) H1 := hP1
                                    generalize H1 = H at hP hS ⊢
                                    refine lv_lstore (lv' := [(29, .long r770.1), (9, .int 1), (0, .ref q), (1, .int y1), (2, .long y2), (5, .int y5), (6, .int y6), (7, .long y7), (21, .int y21)]) hx hb dL_follows_773 hl (by decide) rfl (fun ls hl => ?_)
                                    refine lv_aload_n hx hb dL_follows_775 rfl (lv_at hl 2 rfl) ?_
                                    refine lv_iload hx hb dL_follows_776 (lv_at hl 8 rfl) ?_
                                    obtain ⟨r778, hr778, h⟩ := bd_some h
                                    refine gww_l (As := [.ref q, .int y21]) (rest := []) (k2 := 4624) (n2 := 27744) ⟨hx, hb, hml, hown, hts⟩ (gEnw_now hE hS (fun _ h9 => Nat.le_trans hlo h9.1)) hK (kL_scrap l D cI cC cZ cQ cJ t lo q r770.2 y21 hlo hlS hr778) (vx_cwSW 2 hts gL_follows_L_scrap rfl rfl rfl (by decide +kernel) ⟨Nat.le_of_ble_eq_true rfl, Nat.le_of_ble_eq_true rfl⟩) hP hS (fun _ h9 => h9) rfl hl.1 rfl (Nat.le_of_ble_eq_true rfl) ⟨by show _ ≤ (5077 : Nat); omega, by show _ ≤ (30462 : Nat); omega⟩ rfl rfl dL_follows_778 (fun H1 locs hP1 hS hz1 hk1 => ?_)
                                    have hP : va_P D vwCl (GW cI cC cZ cQ q r778.2) H1 := hP1
                                    generalize H1 = H at hP hS ⊢
                                    refine lv_lload hx hb dL_follows_781 (lv_at hl 0 rfl) ?_
                                    refine lv_ldc2 (v := 3) hx hb hown (hts (.constantLong RL 195 (3)) (by decide +kernel)) dL_follows_783 ?_
                                    refine W.lcmp hx hb dL_follows_786 ?_
                                    obtain ⟨a798_76, haa798_76, h⟩ := bd_some h
                                    have JJ798 : ∀ (H : Heap) (locs : List Loc) (ls : Array Slot), va_P D vwCl (GW cI cC cZ cQ q r778.2) H → va_S (fIv q 201) s.heap H locs → lv_has ls 35 [(0, .ref q), (1, .int y1), (2, .long y2), (5, .int y5), (6, .int y6), (7, .long y7), (21, .int y21), (29, .long r770.1)] → W p l e ({ frames := 10, cells := 5077, slots := 30462, locals := 169 } : Room) s m ([.ref q, .int p0] : List Value).toArray below meth c H locs 4624 27744 (MQ below (va_Qi (fun r (_ : Unit) => r = 1) (fun _ t => va_P D vwCl (GW cI cC cZ cQ q R) t.heap) (fIv q 201)) ([.ref q, .int p0] : List Value).toArray s 5077 30462 (fIv q 201)) (F0 m 798 ls [.long a798_76, .long r778.1]) := by
                                      intro H locs ls hP hS hl
                                      refine W.lcmp hx hb dL_follows_798 ?_
                                      refine lv_if_ne (tgt := 860) hx hb dL_follows_799 (by decide) (fun c78 => ?_) (fun c78 => ?_)
                                      · replace h := (if_neg c78).symm.trans h
                                        exact no_some h
                                      · replace h := (if_pos c78).symm.trans h
                                        refine lv_aload_n hx hb dL_follows_802 rfl (lv_at hl 0 rfl) ?_
                                        refine lv_iload hx hb dL_follows_803 (lv_at hl 6 rfl) ?_
                                        refine lv_iconst (v := 5) hx hb dL_follows_805 (by decide) ?_
                                        obtain ⟨r806, hr806, h⟩ := bd_some h
                                        refine gww_l (As := [.ref q, .int y21, .int 5]) (rest := []) (k2 := 4625) (n2 := 27750) ⟨hx, hb, hml, hown, hts⟩ (gEnw_now hE hS (fun _ h9 => Nat.le_trans hlo h9.1)) hK (kL_grip l D cI cC cZ cQ cJ t lo q r778.2 y21 5 hlo hlS hr806) (vx_cwSW 3 hts gL_follows_L_grip rfl rfl rfl (by decide +kernel) ⟨Nat.le_of_ble_eq_true rfl, Nat.le_of_ble_eq_true rfl⟩) hP hS (fun _ h9 => h9) rfl hl.1 rfl (Nat.le_of_ble_eq_true rfl) ⟨by show _ ≤ (5077 : Nat); omega, by show _ ≤ (30462 : Nat); omega⟩ rfl rfl dL_follows_806 (fun H1 locs hP1 hS hz1 hk1 => ?_)
                                        have hP : va_P D vwCl (GW cI cC cZ cQ q r806.2) H1 := hP1
                                        generalize H1 = H at hP hS ⊢
                                        refine lv_ldc2 (v := 3) hx hb hown (hts (.constantLong RL 195 (3)) (by decide +kernel)) dL_follows_809 ?_
                                        refine W.lcmp hx hb dL_follows_812 ?_
                                        refine lv_if_ne (tgt := 860) hx hb dL_follows_813 (by decide) (fun c79 => ?_) (fun c79 => ?_)
                                        · replace h := (if_neg c79).symm.trans h
                                          exact no_some h
                                        · replace h := (if_pos c79).symm.trans h
                                          refine lv_aload_n hx hb dL_follows_816 rfl (lv_at hl 0 rfl) ?_
                                          refine lv_iload hx hb dL_follows_817 (lv_at hl 6 rfl) ?_
                                          obtain ⟨r819, hr819, h⟩ := bd_some h
                                          refine gww_l (As := [.ref q, .int y21]) (rest := []) (k2 := 4626) (n2 := 27756) ⟨hx, hb, hml, hown, hts⟩ (gEnw_now hE hS (fun _ h9 => Nat.le_trans hlo h9.1)) hK (kL_scrap l D cI cC cZ cQ cJ t lo q r806.2 y21 hlo hlS hr819) (vx_cwSW 2 hts gL_follows_L_scrap rfl rfl rfl (by decide +kernel) ⟨Nat.le_of_ble_eq_true rfl, Nat.le_of_ble_eq_true rfl⟩) hP hS (fun _ h9 => h9) rfl hl.1 rfl (Nat.le_of_ble_eq_true rfl) ⟨by show _ ≤ (5077 : Nat); omega, by show _ ≤ (30462 : Nat); omega⟩ rfl rfl dL_follows_819 (fun H1 locs hP1 hS hz1 hk1 => ?_)
                                          have hP : va_P D vwCl (GW cI cC cZ cQ q r819.2) H1 := hP1
                                          generalize H1 = H at hP hS ⊢
                                          refine lv_ldc2 (v := (-9000000000000000003)) hx hb hown (hts (.constantLong RL 21 (-9000000000000000003)) (by decide +kernel)) dL_follows_822 ?_
                                          refine W.lcmp hx hb dL_follows_825 ?_
                                          refine lv_if_ne (tgt := 860) hx hb dL_follows_826 (by decide) (fun c80 => ?_) (fun c80 => ?_)
                                          · replace h := (if_neg c80).symm.trans h
                                            exact no_some h
                                          · replace h := (if_pos c80).symm.trans h
                                            refine lv_lload hx hb dL_follows_829 (lv_at hl 7 rfl) ?_
                                            refine lv_ldc2 (v := 3) hx hb hown (hts (.constantLong RL 195 (3)) (by decide +kernel)) dL_follows_831 ?_
                                            refine W.lcmp hx hb dL_follows_834 ?_
                                            obtain ⟨a847_82, haa847_82, h⟩ := bd_some h
                                            have JJ847 : ∀ (H : Heap) (locs : List Loc) (ls : Array Slot), va_P D vwCl (GW cI cC cZ cQ q a847_82) H → va_S (fIv q 201) s.heap H locs → lv_has ls 35 [(0, .ref q), (1, .int y1), (2, .long y2), (5, .int y5), (6, .int y6), (7, .long y7)] → W p l e ({ frames := 10, cells := 5077, slots := 30462, locals := 169 } : Room) s m ([.ref q, .int p0] : List Value).toArray below meth c H locs 4627 27762 (MQ below (va_Qi (fun r (_ : Unit) => r = 1) (fun _ t => va_P D vwCl (GW cI cC cZ cQ q R) t.heap) (fIv q 201)) ([.ref q, .int p0] : List Value).toArray s 5077 30462 (fIv q 201)) (F0 m 847 ls []) := by
                                              intro H locs ls hP hS hl
                                              refine lv_aload_n hx hb dL_follows_847 rfl (lv_at hl 0 rfl) ?_
                                              obtain ⟨r848, hr848, h⟩ := bd_some h
                                              refine gws_l (As := [.ref q]) (rest := []) (k2 := 4771) (n2 := 28626) ⟨hx, hb, hml, hown, hts⟩ (gEnw_now hE hS (fun _ h9 => Nat.le_trans hlo h9.1)) hK (kL_now l D cI cC cZ cQ cJ t lo q a847_82 hlo hlS hr848) (va_cwS 1 hts gL_follows_L_now rfl rfl rfl (by decide +kernel) ⟨Nat.le_of_ble_eq_true rfl, Nat.le_of_ble_eq_true rfl⟩) hP hS (fun _ h9 => h9) rfl hl.1 rfl (Nat.le_of_ble_eq_true rfl) ⟨by show _ ≤ (5077 : Nat); omega, by show _ ≤ (30462 : Nat); omega⟩ rfl rfl dL_follows_848 (fun H1 locs hP1 hS hz1 hk1 => ?_)
                                              have hP : va_P D vwCl (GW cI cC cZ cQ q r848.2) H1 := hP1
                                              generalize H1 = H at hP hS ⊢
                                              refine lv_lload_n hx hb dL_follows_851 rfl (lv_at hl 2 rfl) ?_
                                              refine W.lcmp hx hb dL_follows_852 ?_
                                              refine lv_if_ne (tgt := 860) hx hb dL_follows_853 (by decide) (fun c84 => ?_) (fun c84 => ?_)
                                              · replace h := (if_neg c84).symm.trans h
                                                exact no_some h
                                              · replace h := (if_pos c84).symm.trans h
                                                refine lv_iconst (v := 1) hx hb dL_follows_856 (by decide) ?_
                                                refine lv_goto (tgt := 861) hx hb dL_follows_857 (by decide) ?_
                                                refine lv_istore (lv' := [(9, .int 1), (0, .ref q), (1, .int y1), (2, .long y2), (5, .int y5), (6, .int y6), (7, .long y7)]) hx hb dL_follows_861 hl (by decide) rfl (fun ls hl => ?_)
                                                have h := Option.some.inj h
                                                subst h
                                                refine W.widen (k := 4771) (n := 28626) (by omega) (by omega) ?_
                                                exact JJ863 H locs ls hP hS (lv_sub hl [1, 2, 3, 4, 5, 6, 0] rfl)
                                            clear h
                                            replace h := haa847_82
                                            clear haa847_82
                                            refine lv_if_eq (tgt := 847) hx hb dL_follows_835 (by decide) (fun c81 => ?_) (fun c81 => ?_)
                                            · replace h := (if_pos c81).symm.trans h
                                              have h := Option.some.inj h
                                              subst h
                                              refine W.widen (k := 4627) (n := 27762) (by omega) (by omega) ?_
                                              exact JJ847 H locs ls hP hS (lv_sub hl [0, 1, 2, 3, 4, 5] rfl)
                                            · replace h := (if_neg c81).symm.trans h
                                              refine lv_aload_n hx hb dL_follows_838 rfl (lv_at hl 0 rfl) ?_
                                              obtain ⟨r839, hr839, h⟩ := bd_some h
                                              refine gww_l (As := [.ref q]) (rest := []) (k2 := 4627) (n2 := 27762) ⟨hx, hb, hml, hown, hts⟩ (gEnw_now hE hS (fun _ h9 => Nat.le_trans hlo h9.1)) hK (kL_undo l D cI cC cZ cQ cJ t lo q r819.2 hlo hlS hr839) (vx_cwSW 1 hts gL_follows_L_undo rfl rfl rfl (by decide +kernel) ⟨Nat.le_of_ble_eq_true rfl, Nat.le_of_ble_eq_true rfl⟩) hP hS (fun _ h9 => h9) rfl hl.1 rfl (Nat.le_of_ble_eq_true rfl) ⟨by show _ ≤ (5077 : Nat); omega, by show _ ≤ (30462 : Nat); omega⟩ rfl rfl dL_follows_839 (fun H1 locs hP1 hS hz1 hk1 => ?_)
                                              have hP : va_P D vwCl (GW cI cC cZ cQ q r839.2) H1 := hP1
                                              generalize H1 = H at hP hS ⊢
                                              refine lv_lconst (v := 0) hx hb dL_follows_842 (by decide) ?_
                                              refine W.lcmp hx hb dL_follows_843 ?_
                                              refine lv_if_lt (tgt := 860) hx hb dL_follows_844 (by decide) (fun c82 => ?_) (fun c82 => ?_)
                                              · replace h := (if_pos c82).symm.trans h
                                                exact no_some h
                                              · replace h := (if_neg c82).symm.trans h
                                                have h := Option.some.inj h
                                                subst h
                                                refine W.widen (k := 4627) (n := 27762) (by omega) (by omega) ?_
                                                exact JJ847 H locs ls hP hS (lv_sub hl [0, 1, 2, 3, 4, 5] rfl)
                                    clear h
                                    replace h := haa798_76
                                    clear haa798_76
                                    refine lv_if_ne (tgt := 796) hx hb dL_follows_787 (by decide) (fun c76 => ?_) (fun c76 => ?_)
                                    · replace h := (if_neg c76).symm.trans h
                                      refine lv_lload hx hb dL_follows_796 (lv_at hl 0 rfl) ?_
                                      have h := Option.some.inj h
                                      subst h
                                      refine W.widen (k := 4624) (n := 27744) (by omega) (by omega) ?_
                                      exact JJ798 H locs ls hP hS (lv_sub hl [2, 3, 4, 5, 6, 7, 8, 0] rfl)
                                    · replace h := (if_pos c76).symm.trans h
                                      refine lv_ldc2 (v := (-9000000000000000003)) hx hb hown (hts (.constantLong RL 21 (-9000000000000000003)) (by decide +kernel)) dL_follows_790 ?_
                                      refine lv_goto (tgt := 798) hx hb dL_follows_793 (by decide) ?_
                                      have h := Option.some.inj h
                                      subst h
                                      refine W.widen (k := 4624) (n := 27744) (by omega) (by omega) ?_
                                      exact JJ798 H locs ls hP hS (lv_sub hl [2, 3, 4, 5, 6, 7, 8, 0] rfl)
                                clear h
                                replace h := haa749_73
                                clear haa749_73
                                refine lv_if_gt (tgt := 749) hx hb dL_follows_734 (by decide) (fun c72 => ?_) (fun c72 => ?_)
                                · replace h := (if_pos c72).symm.trans h
                                  have h := Option.some.inj h
                                  subst h
                                  refine W.widen (k := 4622) (n := 27732) (by omega) (by omega) ?_
                                  exact JJ749 H locs ls hP hS (lv_sub hl [0, 1, 2, 4, 5, 6, 7] rfl)
                                · replace h := (if_neg c72).symm.trans h
                                  refine lv_aload_n hx hb dL_follows_737 rfl (lv_at hl 0 rfl) ?_
                                  refine lv_iconst (v := 0) hx hb dL_follows_738 (by decide) ?_
                                  obtain ⟨r739, hr739, h⟩ := bd_some h
                                  refine gww_l (As := [.ref q, .int 0]) (rest := []) (k2 := 4622) (n2 := 27732) ⟨hx, hb, hml, hown, hts⟩ (gEnw_now hE hS (fun _ h9 => Nat.le_trans hlo h9.1)) hK (kL_room l D cI cC cZ cQ cJ t lo q a732_70 0 hlo hlS hr739) (vx_cwSW 2 hts gL_follows_L_room rfl rfl rfl (by decide +kernel) ⟨Nat.le_of_ble_eq_true rfl, Nat.le_of_ble_eq_true rfl⟩) hP hS (fun _ h9 => h9) rfl hl.1 rfl (Nat.le_of_ble_eq_true rfl) ⟨by show _ ≤ (5077 : Nat); omega, by show _ ≤ (30462 : Nat); omega⟩ rfl rfl dL_follows_739 (fun H1 locs hP1 hS hz1 hk1 => ?_)
                                  have hP : va_P D vwCl (GW cI cC cZ cQ q r739.2) H1 := hP1
                                  generalize H1 = H at hP hS ⊢
                                  refine lv_iload hx hb dL_follows_742 (lv_at hl 3 rfl) ?_
                                  refine lv_i2l hx hb dL_follows_744 rfl ?_
                                  refine W.lcmp hx hb dL_follows_745 ?_
                                  refine lv_if_ne (tgt := 753) hx hb dL_follows_746 (by decide) (fun c73 => ?_) (fun c73 => ?_)
                                  · replace h := (if_neg c73).symm.trans h
                                    exact no_some h
                                  · replace h := (if_pos c73).symm.trans h
                                    have h := Option.some.inj h
                                    subst h
                                    refine W.widen (k := 4622) (n := 27732) (by omega) (by omega) ?_
                                    exact JJ749 H locs ls hP hS (lv_sub hl [0, 1, 2, 4, 5, 6, 7] rfl)
                              clear h
                              replace h := haa732_70
                              clear haa732_70
                              refine lv_if_eq (tgt := 732) hx hb dL_follows_717 (by decide) (fun c69 => ?_) (fun c69 => ?_)
                              · replace h := (if_pos c69).symm.trans h
                                have h := Option.some.inj h
                                subst h
                                refine W.widen (k := 4621) (n := 27726) (by omega) (by omega) ?_
                                exact JJ732 H locs ls hP hS (lv_sub hl [0, 1, 2, 3, 4, 5, 6, 8] rfl)
                              · replace h := (if_neg c69).symm.trans h
                                refine lv_aload_n hx hb dL_follows_720 rfl (lv_at hl 0 rfl) ?_
                                refine lv_iconst (v := 0) hx hb dL_follows_721 (by decide) ?_
                                obtain ⟨r722, hr722, h⟩ := bd_some h
                                refine gww_l (As := [.ref q, .int 0]) (rest := []) (k2 := 4621) (n2 := 27726) ⟨hx, hb, hml, hown, hts⟩ (gEnw_now hE hS (fun _ h9 => Nat.le_trans hlo h9.1)) hK (kL_room l D cI cC cZ cQ cJ t lo q S 0 hlo hlS hr722) (vx_cwSW 2 hts gL_follows_L_room rfl rfl rfl (by decide +kernel) ⟨Nat.le_of_ble_eq_true rfl, Nat.le_of_ble_eq_true rfl⟩) hP hS (fun _ h9 => h9) rfl hl.1 rfl (Nat.le_of_ble_eq_true rfl) ⟨by show _ ≤ (5077 : Nat); omega, by show _ ≤ (30462 : Nat); omega⟩ rfl rfl dL_follows_722 (fun H1 locs hP1 hS hz1 hk1 => ?_)
                                have hP : va_P D vwCl (GW cI cC cZ cQ q r722.2) H1 := hP1
                                generalize H1 = H at hP hS ⊢
                                refine lv_iload hx hb dL_follows_725 (lv_at hl 9 rfl) ?_
                                refine lv_i2l hx hb dL_follows_727 rfl ?_
                                refine W.lcmp hx hb dL_follows_728 ?_
                                refine lv_if_ne (tgt := 753) hx hb dL_follows_729 (by decide) (fun c70 => ?_) (fun c70 => ?_)
                                · replace h := (if_neg c70).symm.trans h
                                  exact no_some h
                                · replace h := (if_pos c70).symm.trans h
                                  have h := Option.some.inj h
                                  subst h
                                  refine W.widen (k := 4621) (n := 27726) (by omega) (by omega) ?_
                                  exact JJ732 H locs ls hP hS (lv_sub hl [0, 1, 2, 3, 4, 5, 6, 8] rfl)
                          clear h
                          replace h := haa406_32
                          clear haa406_32
                          refine lv_if_ne (tgt := 405) hx hb dL_follows_398 (by decide) (fun c32 => ?_) (fun c32 => ?_)
                          · replace h := (if_neg c32).symm.trans h
                            refine lv_iconst (v := 0) hx hb dL_follows_405 (by decide) ?_
                            have h := Option.some.inj h
                            subst h
                            refine W.widen (k := 336) (n := 2016) (by omega) (by omega) ?_
                            exact JJ406 H locs ls hP hS (lv_sub hl [0, 1, 2, 3, 4, 5, 6, 7, 9] rfl)
                          · replace h := (if_pos c32).symm.trans h
                            refine lv_iconst (v := 1) hx hb dL_follows_401 (by decide) ?_
                            refine lv_goto (tgt := 406) hx hb dL_follows_402 (by decide) ?_
                            have h := Option.some.inj h
                            subst h
                            refine W.widen (k := 336) (n := 2016) (by omega) (by omega) ?_
                            exact JJ406 H locs ls hP hS (lv_sub hl [0, 1, 2, 3, 4, 5, 6, 7, 9] rfl)
                        clear h
                        replace h := haa396_30
                        clear haa396_30
                        refine lv_if_ne (tgt := 395) hx hb dL_follows_388 (by decide) (fun c30 => ?_) (fun c30 => ?_)
                        · replace h := (if_neg c30).symm.trans h
                          refine lv_iconst (v := 0) hx hb dL_follows_395 (by decide) ?_
                          have h := Option.some.inj h
                          subst h
                          refine W.widen (k := 336) (n := 2016) (by omega) (by omega) ?_
                          exact JJ396 H locs ls hP hS (lv_sub hl [0, 1, 2, 3, 4, 5, 6, 8, 11, 12] rfl)
                        · replace h := (if_pos c30).symm.trans h
                          refine lv_iconst (v := 1) hx hb dL_follows_391 (by decide) ?_
                          refine lv_goto (tgt := 396) hx hb dL_follows_392 (by decide) ?_
                          have h := Option.some.inj h
                          subst h
                          refine W.widen (k := 336) (n := 2016) (by omega) (by omega) ?_
                          exact JJ396 H locs ls hP hS (lv_sub hl [0, 1, 2, 3, 4, 5, 6, 8, 11, 12] rfl)
                clear h
                replace h := haa312_22
                clear haa312_22
                refine lv_if_eq (tgt := 312) hx hb dL_follows_283 (by decide) (fun c20 => ?_) (fun c20 => ?_)
                · replace h := (if_pos c20).symm.trans h
                  have h := Option.some.inj h
                  subst h
                  refine W.widen (k := 178) (n := 1068) (by omega) (by omega) ?_
                  exact JJ312 H locs ls hP hS (lv_sub hl [3, 4, 5, 6, 7, 8, 9, 11, 12, 13, 16, 2] rfl)
                · replace h := (if_neg c20).symm.trans h
                  refine lv_aload_n hx hb dL_follows_286 rfl (lv_at hl 3 rfl) ?_
                  refine lv_iload hx hb dL_follows_287 (lv_at hl 2 rfl) ?_
                  refine lv_iconst (v := 4) hx hb dL_follows_289 (by decide) ?_
                  obtain ⟨r290, hr290, h⟩ := bd_some h
                  refine gww_l (As := [.ref q, .int a148_6, .int 4]) (rest := []) (k2 := 177) (n2 := 1062) ⟨hx, hb, hml, hown, hts⟩ (gEnw_now hE hS (fun _ h9 => Nat.le_trans hlo h9.1)) hK (kL_grip l D cI cC cZ cQ cJ t lo q r269.2 a148_6 4 hlo hlS hr290) (vx_cwSW 3 hts gL_follows_L_grip rfl rfl rfl (by decide +kernel) ⟨Nat.le_of_ble_eq_true rfl, Nat.le_of_ble_eq_true rfl⟩) hP hS (fun _ h9 => h9) rfl hl.1 rfl (Nat.le_of_ble_eq_true rfl) ⟨by show _ ≤ (5077 : Nat); omega, by show _ ≤ (30462 : Nat); omega⟩ rfl rfl dL_follows_290 (fun H1 locs hP1 hS hz1 hk1 => ?_)
                  have hP : va_P D vwCl (GW cI cC cZ cQ q r290.2) H1 := hP1
                  generalize H1 = H at hP hS ⊢
                  refine lv_lload hx hb dL_follows_293 (lv_at hl 1 rfl) ?_
                  refine W.lcmp hx hb dL_follows_295 ?_
                  refine lv_if_ne (tgt := 316) hx hb dL_follows_296 (by decide) (fun c21 => ?_) (fun c21 => ?_)
                  · replace h := (if_neg c21).symm.trans h
                    exact no_some h
                  · replace h := (if_pos c21).symm.trans h
                    refine lv_aload_n hx hb dL_follows_299 rfl (lv_at hl 3 rfl) ?_
                    refine lv_iload hx hb dL_follows_300 (lv_at hl 2 rfl) ?_
                    refine lv_iconst (v := 1) hx hb dL_follows_302 (by decide) ?_
                    obtain ⟨r303, hr303, h⟩ := bd_some h
                    refine gww_l (As := [.ref q, .int a148_6, .int 1]) (rest := []) (k2 := 178) (n2 := 1068) ⟨hx, hb, hml, hown, hts⟩ (gEnw_now hE hS (fun _ h9 => Nat.le_trans hlo h9.1)) hK (kL_grip l D cI cC cZ cQ cJ t lo q r290.2 a148_6 1 hlo hlS hr303) (vx_cwSW 3 hts gL_follows_L_grip rfl rfl rfl (by decide +kernel) ⟨Nat.le_of_ble_eq_true rfl, Nat.le_of_ble_eq_true rfl⟩) hP hS (fun _ h9 => h9) rfl hl.1 rfl (Nat.le_of_ble_eq_true rfl) ⟨by show _ ≤ (5077 : Nat); omega, by show _ ≤ (30462 : Nat); omega⟩ rfl rfl dL_follows_303 (fun H1 locs hP1 hS hz1 hk1 => ?_)
                    have hP : va_P D vwCl (GW cI cC cZ cQ q r303.2) H1 := hP1
                    generalize H1 = H at hP hS ⊢
                    refine lv_lload hx hb dL_follows_306 (lv_at hl 0 rfl) ?_
                    refine W.lcmp hx hb dL_follows_308 ?_
                    refine lv_if_ne (tgt := 316) hx hb dL_follows_309 (by decide) (fun c22 => ?_) (fun c22 => ?_)
                    · replace h := (if_neg c22).symm.trans h
                      exact no_some h
                    · replace h := (if_pos c22).symm.trans h
                      have h := Option.some.inj h
                      subst h
                      refine W.widen (k := 178) (n := 1068) (by omega) (by omega) ?_
                      exact JJ312 H locs ls hP hS (lv_sub hl [3, 4, 5, 6, 7, 8, 9, 11, 12, 13, 16, 2] rfl)
    clear h
    replace h := haa148_6
    clear haa148_6
    refine lv_if_ne (tgt := 141) hx hb dL_follows_134 (by decide) (fun c5 => ?_) (fun c5 => ?_)
    · replace h := (if_neg c5).symm.trans h
      refine lv_iload_n hx hb dL_follows_141 rfl (lv_at hl 5 rfl) ?_
      refine lv_bipush (v := 50) hx hb dL_follows_142 (by decide) ?_
      refine lv_idiv hx hb dL_follows_144 (by decide) ?_
      refine lv_iload hx hb dL_follows_145 (lv_at hl 8 rfl) ?_
      obtain ⟨hn6, h⟩ := nz_some h
      refine lv_irem hx hb dL_follows_147 hn6 ?_
      have h := Option.some.inj h
      subst h
      refine W.widen (k := 166) (n := 996) (by omega) (by omega) ?_
      exact JJ148 H locs ls hP hS (lv_sub hl [4, 5, 6, 7, 8, 9, 10, 11, 12, 13, 3, 2, 1, 0] rfl)
    · replace h := (if_pos c5).symm.trans h
      refine lv_iconst (v := 0) hx hb dL_follows_137 (by decide) ?_
      refine lv_goto (tgt := 148) hx hb dL_follows_138 (by decide) ?_
      have h := Option.some.inj h
      subst h
      refine W.widen (k := 166) (n := 996) (by omega) (by omega) ?_
      exact JJ148 H locs ls hP hS (lv_sub hl [4, 5, 6, 7, 8, 9, 10, 11, 12, 13, 3, 2, 1, 0] rfl)

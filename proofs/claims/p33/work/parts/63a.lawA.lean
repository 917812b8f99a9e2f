set_option maxHeartbeats 4000000 in
set_option maxRecDepth 100000 in
theorem kL_in (l : Launch) (D : va_G) (cI cC cZ cQ cJ : ClassId) (p0 : Int64) (p1 : Int64) (p2 : Int64) {R : Int32} (h : fL_in p0 p1 p2 = some R) : Met l yL_in wsL_in ({ frames := 0, cells := 0, slots := 0, locals := 0 } : Room) (va_Pc [.long p0, .long p1, .long p2] (gB D (gTy cI cC cZ cQ cJ) (fun _ => True))) (vp_Si (fun r => r = R)) 0 0 (fun _ => False) := by
  refine Met.ofW (cc := cL_in) (maxL := 6) (ret := (some .boolean)) (by decide) rfl ?_
  intro p e s m args below meth c s₁ B hml hv
  obtain ⟨rfl, hP, hK⟩ := hv
  have hx := B.exec
  have hb := B.bytes
  have hr := B.returns
  have hts := atoms_spec (ws := wsL_in) B.pre
  have hown : s.vm.findClass RL = some m.cls := findClass_of_methodNamed B.named
  have hlocks := B.notSynchronized
  generalize hRM : (headSpec wsL_in ({ frames := 0, cells := 0, slots := 0, locals := 0 } : Room)).room = RM
  replace hRM : ({ frames := 0, cells := 0, slots := 0, locals := 0 } : Room) = RM := hRM
  subst hRM
  have hl := lv_entry ([.long p0, .long p1, .long p2]) (n := 6) (Nat.le_of_ble_eq_true rfl)
  rw [lg_entry_eq]
  generalize (lg_sl ([.long p0, .long p1, .long p2]) ++ List.replicate (6 - (lg_sl ([.long p0, .long p1, .long p2])).length) Slot.unset).toArray = ls at hl ⊢
  have hl : lv_has ls 6 [(0, .long p0), (2, .long p1), (4, .long p2)] := hl
  unfold fL_in at h
  refine lv_lload_n hx hb dL_in_0 rfl (lv_at hl 0 rfl) ?_
  refine lv_lload_n hx hb dL_in_1 rfl (lv_at hl 1 rfl) ?_
  refine W.lcmp hx hb dL_in_2 ?_
  refine lv_if_lt (tgt := 17) hx hb dL_in_3 (by decide) (fun c1 => ?_) (fun c1 => ?_)
  · replace h := (if_pos c1).symm.trans h
    refine lv_iconst (v := 0) hx hb dL_in_17 (by decide) ?_
    have h := Option.some.inj h
    exact W.zret (v := 0) hx hb hr rfl (fun t ht hW => ⟨_, rfl, h, ht⟩) t_nil dL_in_18
  · replace h := (if_neg c1).symm.trans h
    refine lv_lload_n hx hb dL_in_6 rfl (lv_at hl 0 rfl) ?_
    refine lv_lload hx hb dL_in_7 (lv_at hl 2 rfl) ?_
    refine W.lcmp hx hb dL_in_9 ?_
    refine lv_if_gt (tgt := 17) hx hb dL_in_10 (by decide) (fun c2 => ?_) (fun c2 => ?_)
    · replace h := (if_pos c2).symm.trans h
      refine lv_iconst (v := 0) hx hb dL_in_17 (by decide) ?_
      have h := Option.some.inj h
      exact W.zret (v := 0) hx hb hr rfl (fun t ht hW => ⟨_, rfl, h, ht⟩) t_nil dL_in_18
    · replace h := (if_neg c2).symm.trans h
      refine lv_iconst (v := 1) hx hb dL_in_13 (by decide) ?_
      refine lv_goto (tgt := 18) hx hb dL_in_14 (by decide) ?_
      have h := Option.some.inj h
      exact W.zret (v := 1) hx hb hr rfl (fun t ht hW => ⟨_, rfl, h, ht⟩) t_nil dL_in_18
set_option maxHeartbeats 16000000 in
set_option maxRecDepth 100000 in
theorem kL_grips (l : Launch) (D : va_G) (cI cC cZ cQ cJ : ClassId) (t lo : Nat) (q : Nat) (G : GSt) (hlo : lo ≤ q) (hlS : l.stackTraces = false) {R : Int32 × GSt} (h : fL_grips G = some R) : Met l yL_grips wsL_grips ({ frames := 8, cells := 1, slots := 6, locals := 125 } : Room) (va_Pc [.ref q] (gBw D (gTy cI cC cZ cQ cJ) t lo (va_P D vwCl (GW cI cC cZ cQ q G)))) (va_Qi (fun r (_ : Unit) => r = R.1) (fun _ t => va_P D vwCl (GW cI cC cZ cQ q R.2) t.heap) (fIv q 201)) 1 6 (fIv q 201) := by
  refine Met.ofW (cc := cL_grips) (maxL := 1) (ret := (some .int)) (by decide) rfl ?_
  intro p e s m args below meth c s₁ B hml hv
  obtain ⟨rfl, ⟨hP, hK⟩, hE⟩ := hv
  have hx := B.exec
  have hb := B.bytes
  have hr := B.returns
  have hts := atoms_spec (ws := wsL_grips) B.pre
  have hown : s.vm.findClass RL = some m.cls := findClass_of_methodNamed B.named
  generalize hRM : (headSpec wsL_grips ({ frames := 8, cells := 1, slots := 6, locals := 125 } : Room)).room = RM
  replace hRM : ({ frames := 8, cells := 1, slots := 6, locals := 125 } : Room) = RM := hRM
  subst hRM
  have hl := lv_entry ([.ref q]) (n := 1) (Nat.le_of_ble_eq_true rfl)
  rw [lg_entry_eq]
  generalize (lg_sl ([.ref q]) ++ List.replicate (1 - (lg_sl ([.ref q])).length) Slot.unset).toArray = ls at hl ⊢
  have hl : lv_has ls 1 [(0, .ref q)] := hl
  have hS : va_S (fIv q 201) s.heap s.heap [] := va_S.rf
  have hP0 := hP
  unfold fL_grips at h
  obtain ⟨H, hH⟩ : ∃ H, H = s.heap := ⟨_, rfl⟩
  obtain ⟨locs, hlz⟩ : ∃ z : List Loc, z = [] := ⟨_, rfl⟩
  have hP : va_P D vwCl (GW cI cC cZ cQ q G) H := by rw [hH]; exact hP
  have hS : va_S (fIv q 201) s.heap H locs := by rw [hH, hlz]; exact hS
  refine gc_at hH hlz ?_
  refine lv_aload_n hx hb dL_grips_0 rfl (lv_at hl 0 rfl) ?_
  refine lv_iconst (v := 1) hx hb dL_grips_1 (by decide) ?_
  obtain ⟨r2, hr2, h⟩ := bd_some h
  refine gww_l (As := [.ref q, .int 1]) (rest := []) (k2 := 1) (n2 := 6) ⟨hx, hb, hml, hown, hts⟩ (gEnw_now hE hS (fun _ h9 => Nat.le_trans hlo h9.1)) hK (kL_about l D cI cC cZ cQ cJ t lo q G 1 hlo hlS hr2) (vx_cwSW 2 hts gL_grips_L_about rfl rfl rfl (by decide +kernel) ⟨Nat.le_of_ble_eq_true rfl, Nat.le_of_ble_eq_true rfl⟩) hP hS (fun _ h9 => h9) rfl hl.1 rfl (Nat.le_of_ble_eq_true rfl) ⟨by show _ ≤ (1 : Nat); omega, by show _ ≤ (6 : Nat); omega⟩ rfl rfl dL_grips_2 (fun H1 locs hP1 hS hz1 hk1 => ?_)
  have hP : va_P D vwCl (GW cI cC cZ cQ q r2.2) H1 := hP1
  generalize H1 = H at hP hS ⊢
  refine lv_l2i hx hb dL_grips_5 rfl ?_
  refine W.widen (k := 1) (n := 6) (by omega) (by omega) ?_
  have h := Option.some.inj h
  subst h
  exact W.iret (v := ((r2.1).toInt32)) hx hb hr (fun t ht hW => ⟨⟨_, (), rfl, rfl, gh ht hP⟩, hS.F ht⟩) hS.2.2 dL_grips_6
set_option maxHeartbeats 16000000 in
set_option maxRecDepth 100000 in
theorem kL_aboutStation (l : Launch) (D : va_G) (cI cC cZ cQ cJ : ClassId) (t lo : Nat) (q : Nat) (G : GSt) (p0 : Int32) (hlo : lo ≤ q) (hlS : l.stackTraces = false) {R : Int64 × GSt} (h : fL_aboutStation G p0 = some R) : Met l yL_aboutStation wsL_aboutStation ({ frames := 8, cells := 2, slots := 12, locals := 125 } : Room) (va_Pc [.ref q, .int p0] (gBw D (gTy cI cC cZ cQ cJ) t lo (va_P D vwCl (GW cI cC cZ cQ q G)))) (va_Ql (fun r (_ : Unit) => r = R.1) (fun _ t => va_P D vwCl (GW cI cC cZ cQ q R.2) t.heap) (fIv q 201)) 2 12 (fIv q 201) := by
  refine Met.ofW (cc := cL_aboutStation) (maxL := 4) (ret := (some .long)) (by decide) rfl ?_
  intro p e s m args below meth c s₁ B hml hv
  obtain ⟨rfl, ⟨hP, hK⟩, hE⟩ := hv
  have hx := B.exec
  have hb := B.bytes
  have hr := B.returns
  have hts := atoms_spec (ws := wsL_aboutStation) B.pre
  have hown : s.vm.findClass RL = some m.cls := findClass_of_methodNamed B.named
  generalize hRM : (headSpec wsL_aboutStation ({ frames := 8, cells := 2, slots := 12, locals := 125 } : Room)).room = RM
  replace hRM : ({ frames := 8, cells := 2, slots := 12, locals := 125 } : Room) = RM := hRM
  subst hRM
  have hl := lv_entry ([.ref q, .int p0]) (n := 4) (Nat.le_of_ble_eq_true rfl)
  rw [lg_entry_eq]
  generalize (lg_sl ([.ref q, .int p0]) ++ List.replicate (4 - (lg_sl ([.ref q, .int p0])).length) Slot.unset).toArray = ls at hl ⊢
  have hl : lv_has ls 4 [(0, .ref q), (1, .int p0)] := hl
  have hS : va_S (fIv q 201) s.heap s.heap [] := va_S.rf
  have hP0 := hP
  unfold fL_aboutStation at h
  obtain ⟨H, hH⟩ : ∃ H, H = s.heap := ⟨_, rfl⟩
  obtain ⟨locs, hlz⟩ : ∃ z : List Loc, z = [] := ⟨_, rfl⟩
  have hP : va_P D vwCl (GW cI cC cZ cQ q G) H := by rw [hH]; exact hP
  have hS : va_S (fIv q 201) s.heap H locs := by rw [hH, hlz]; exact hS
  refine gc_at hH hlz ?_
  refine lv_aload_n hx hb dL_aboutStation_0 rfl (lv_at hl 0 rfl) ?_
  refine lv_iconst (v := 0) hx hb dL_aboutStation_1 (by decide) ?_
  obtain ⟨r2, hr2, h⟩ := bd_some h
  refine gww_l (As := [.ref q, .int 0]) (rest := []) (k2 := 1) (n2 := 6) ⟨hx, hb, hml, hown, hts⟩ (gEnw_now hE hS (fun _ h9 => Nat.le_trans hlo h9.1)) hK (kL_about l D cI cC cZ cQ cJ t lo q G 0 hlo hlS hr2) (vx_cwSW 2 hts gL_aboutStation_L_about rfl rfl rfl (by decide +kernel) ⟨Nat.le_of_ble_eq_true rfl, Nat.le_of_ble_eq_true rfl⟩) hP hS (fun _ h9 => h9) rfl hl.1 rfl (Nat.le_of_ble_eq_true rfl) ⟨by show _ ≤ (2 : Nat); omega, by show _ ≤ (12 : Nat); omega⟩ rfl rfl dL_aboutStation_2 (fun H1 locs hP1 hS hz1 hk1 => ?_)
  have hP : va_P D vwCl (GW cI cC cZ cQ q r2.2) H1 := hP1
  generalize H1 = H at hP hS ⊢
  refine lv_lstore_n (lv' := [(2, .long r2.1), (0, .ref q), (1, .int p0)]) hx hb dL_aboutStation_5 rfl hl (by decide) rfl (fun ls hl => ?_)
  refine lv_aload_n hx hb dL_aboutStation_6 rfl (lv_at hl 1 rfl) ?_
  refine lv_bipush (v := 6) hx hb dL_aboutStation_7 (by decide) ?_
  obtain ⟨r9, hr9, h⟩ := bd_some h
  refine gww_l (As := [.ref q, .int 6]) (rest := []) (k2 := 2) (n2 := 12) ⟨hx, hb, hml, hown, hts⟩ (gEnw_now hE hS (fun _ h9 => Nat.le_trans hlo h9.1)) hK (kL_about l D cI cC cZ cQ cJ t lo q r2.2 6 hlo hlS hr9) (vx_cwSW 2 hts gL_aboutStation_L_about rfl rfl rfl (by decide +kernel) ⟨Nat.le_of_ble_eq_true rfl, Nat.le_of_ble_eq_true rfl⟩) hP hS (fun _ h9 => h9) rfl hl.1 rfl (Nat.le_of_ble_eq_true rfl) ⟨by show _ ≤ (2 : Nat); omega, by show _ ≤ (12 : Nat); omega⟩ rfl rfl dL_aboutStation_9 (fun H1 locs hP1 hS hz1 hk1 => ?_)
  have hP : va_P D vwCl (GW cI cC cZ cQ q r9.2) H1 := hP1
  generalize H1 = H at hP hS ⊢
  refine lv_iload_n hx hb dL_aboutStation_12 rfl (lv_at hl 2 rfl) ?_
  refine lv_i2l hx hb dL_aboutStation_13 rfl ?_
  refine lv_lsub hx hb dL_aboutStation_14 ?_
  refine lv_lload_n hx hb dL_aboutStation_15 rfl (lv_at hl 0 rfl) ?_
  obtain ⟨hn1, h⟩ := nzl_some h
  refine lv_lrem hx hb dL_aboutStation_16 hn1 ?_
  refine lv_lload_n hx hb dL_aboutStation_17 rfl (lv_at hl 0 rfl) ?_
  refine lv_ladd hx hb dL_aboutStation_18 ?_
  refine lv_topl (fun yv2 eyv2 => ?_)
  rw [← eyv2] at h
  refine lv_lload_n hx hb dL_aboutStation_19 rfl (lv_at hl 0 rfl) ?_
  refine lv_lrem hx hb dL_aboutStation_20 hn1 ?_
  refine W.widen (k := 2) (n := 12) (by omega) (by omega) ?_
  have h := Option.some.inj h
  subst h
  exact W.lret (v := (yv2 - yv2 / r2.1 * r2.1)) hx hb hr (fun t ht hW => ⟨⟨_, (), rfl, rfl, gh ht hP⟩, hS.F ht⟩) hS.2.2 dL_aboutStation_21
set_option maxHeartbeats 16000000 in
set_option maxRecDepth 100000 in
theorem kL_two (l : Launch) (D : va_G) (cI cC cZ cQ cJ : ClassId) (t lo : Nat) (q : Nat) (G : GSt) (p0 : Int32) (hlo : lo ≤ q) (hlS : l.stackTraces = false) {R : GSt} (h : fL_two G p0 = some R) : Met l yL_two wsL_two ({ frames := 8, cells := 2, slots := 12, locals := 125 } : Room) (va_Pc [.ref q, .int p0] (gBw D (gTy cI cC cZ cQ cJ) t lo (va_P D vwCl (GW cI cC cZ cQ q G)))) (va_Qi (fun r (_ : Unit) => r = 1) (fun _ t => va_P D vwCl (GW cI cC cZ cQ q R) t.heap) (fIv q 201)) 2 12 (fIv q 201) := by
  refine Met.ofW (cc := cL_two) (maxL := 2) (ret := (some .boolean)) (by decide) rfl ?_
  intro p e s m args below meth c s₁ B hml hv
  obtain ⟨rfl, ⟨hP, hK⟩, hE⟩ := hv
  have hx := B.exec
  have hb := B.bytes
  have hr := B.returns
  have hts := atoms_spec (ws := wsL_two) B.pre
  have hown : s.vm.findClass RL = some m.cls := findClass_of_methodNamed B.named
  generalize hRM : (headSpec wsL_two ({ frames := 8, cells := 2, slots := 12, locals := 125 } : Room)).room = RM
  replace hRM : ({ frames := 8, cells := 2, slots := 12, locals := 125 } : Room) = RM := hRM
  subst hRM
  have hl := lv_entry ([.ref q, .int p0]) (n := 2) (Nat.le_of_ble_eq_true rfl)
  rw [lg_entry_eq]
  generalize (lg_sl ([.ref q, .int p0]) ++ List.replicate (2 - (lg_sl ([.ref q, .int p0])).length) Slot.unset).toArray = ls at hl ⊢
  have hl : lv_has ls 2 [(0, .ref q), (1, .int p0)] := hl
  have hS : va_S (fIv q 201) s.heap s.heap [] := va_S.rf
  have hP0 := hP
  unfold fL_two at h
  obtain ⟨H, hH⟩ : ∃ H, H = s.heap := ⟨_, rfl⟩
  obtain ⟨locs, hlz⟩ : ∃ z : List Loc, z = [] := ⟨_, rfl⟩
  have hP : va_P D vwCl (GW cI cC cZ cQ q G) H := by rw [hH]; exact hP
  have hS : va_S (fIv q 201) s.heap H locs := by rw [hH, hlz]; exact hS
  refine gc_at hH hlz ?_
  refine lv_aload_n hx hb dL_two_0 rfl (lv_at hl 0 rfl) ?_
  refine lv_bipush (v := 48) hx hb dL_two_1 (by decide) ?_
  refine lv_iload_n hx hb dL_two_3 rfl (lv_at hl 1 rfl) ?_
  refine lv_bipush (v := 10) hx hb dL_two_4 (by decide) ?_
  refine lv_idiv hx hb dL_two_6 (by decide) ?_
  refine lv_iadd hx hb dL_two_7 ?_
  obtain ⟨r8, hr8, h⟩ := bd_some h
  refine gww_l (As := [.ref q, .int (48 + (p0 / 10))]) (rest := []) (k2 := 1) (n2 := 6) ⟨hx, hb, hml, hown, hts⟩ (gEnw_now hE hS (fun _ h9 => Nat.le_trans hlo h9.1)) hK (kL_append l D cI cC cZ cQ cJ t lo q G (48 + (p0 / 10)) hlo hlS hr8) (vx_cwSW 2 hts gL_two_L_append rfl rfl rfl (by decide +kernel) ⟨Nat.le_of_ble_eq_true rfl, Nat.le_of_ble_eq_true rfl⟩) hP hS (fun _ h9 => h9) rfl hl.1 rfl (Nat.le_of_ble_eq_true rfl) ⟨by show _ ≤ (2 : Nat); omega, by show _ ≤ (12 : Nat); omega⟩ rfl rfl dL_two_8 (fun H1 locs hP1 hS hz1 hk1 => ?_)
  have hP : va_P D vwCl (GW cI cC cZ cQ q r8.2) H1 := hP1
  generalize H1 = H at hP hS ⊢
  refine lv_lconst (v := 0) hx hb dL_two_11 (by decide) ?_
  refine W.lcmp hx hb dL_two_12 ?_
  refine lv_if_le (tgt := 36) hx hb dL_two_13 (by decide) (fun c1 => ?_) (fun c1 => ?_)
  · replace h := (if_pos c1).symm.trans h
    exact no_some h
  · replace h := (if_neg c1).symm.trans h
    refine lv_aload_n hx hb dL_two_16 rfl (lv_at hl 0 rfl) ?_
    refine lv_bipush (v := 48) hx hb dL_two_17 (by decide) ?_
    refine lv_iload_n hx hb dL_two_19 rfl (lv_at hl 1 rfl) ?_
    refine lv_bipush (v := 10) hx hb dL_two_20 (by decide) ?_
    refine lv_irem hx hb dL_two_22 (by decide) ?_
    refine lv_iadd hx hb dL_two_23 ?_
    obtain ⟨r24, hr24, h⟩ := bd_some h
    refine gww_l (As := [.ref q, .int (48 + (p0 - p0 / 10 * 10))]) (rest := []) (k2 := 2) (n2 := 12) ⟨hx, hb, hml, hown, hts⟩ (gEnw_now hE hS (fun _ h9 => Nat.le_trans hlo h9.1)) hK (kL_append l D cI cC cZ cQ cJ t lo q r8.2 (48 + (p0 - p0 / 10 * 10)) hlo hlS hr24) (vx_cwSW 2 hts gL_two_L_append rfl rfl rfl (by decide +kernel) ⟨Nat.le_of_ble_eq_true rfl, Nat.le_of_ble_eq_true rfl⟩) hP hS (fun _ h9 => h9) rfl hl.1 rfl (Nat.le_of_ble_eq_true rfl) ⟨by show _ ≤ (2 : Nat); omega, by show _ ≤ (12 : Nat); omega⟩ rfl rfl dL_two_24 (fun H1 locs hP1 hS hz1 hk1 => ?_)
    have hP : va_P D vwCl (GW cI cC cZ cQ q r24.2) H1 := hP1
    generalize H1 = H at hP hS ⊢
    refine lv_lconst (v := 0) hx hb dL_two_27 (by decide) ?_
    refine W.lcmp hx hb dL_two_28 ?_
    refine lv_if_le (tgt := 36) hx hb dL_two_29 (by decide) (fun c2 => ?_) (fun c2 => ?_)
    · replace h := (if_pos c2).symm.trans h
      exact no_some h
    · replace h := (if_neg c2).symm.trans h
      refine lv_iconst (v := 1) hx hb dL_two_32 (by decide) ?_
      refine lv_goto (tgt := 37) hx hb dL_two_33 (by decide) ?_
      refine W.widen (k := 2) (n := 12) (by omega) (by omega) ?_
      have h := Option.some.inj h
      subst h
      exact W.zret (v := 1) hx hb hr rfl (fun t ht hW => ⟨⟨_, (), rfl, rfl, gh ht hP⟩, hS.F ht⟩) hS.2.2 dL_two_37
set_option maxHeartbeats 16000000 in
set_option maxRecDepth 100000 in
theorem kL_act (l : Launch) (D : va_G) (cI cC cZ cQ cJ : ClassId) (t lo : Nat) (q : Nat) (G : GSt) (p0 : Int32) (p1 : Int32) (hlo : lo ≤ q) (hlS : l.stackTraces = false) {R : Int64 × GSt} (h : fL_act G p0 p1 = some R) : Met l yL_act wsL_act ({ frames := 8, cells := 1, slots := 6, locals := 154 } : Room) (va_Pc [.ref q, .int p0, .int p1] (gBw D (gTy cI cC cZ cQ cJ) t lo (va_P D vwCl (GW cI cC cZ cQ q G)))) (va_Ql (fun r (_ : Unit) => r = R.1) (fun _ t => va_P D vwCl (GW cI cC cZ cQ q R.2) t.heap) (fIv q 201)) 1 6 (fIv q 201) := by
  refine Met.ofW (cc := cL_act) (maxL := 4) (ret := (some .long)) (by decide) rfl ?_
  intro p e s m args below meth c s₁ B hml hv
  obtain ⟨rfl, ⟨hP, hK⟩, hE⟩ := hv
  have hx := B.exec
  have hb := B.bytes
  have hr := B.returns
  have hts := atoms_spec (ws := wsL_act) B.pre
  have hown : s.vm.findClass RL = some m.cls := findClass_of_methodNamed B.named
  generalize hRM : (headSpec wsL_act ({ frames := 8, cells := 1, slots := 6, locals := 154 } : Room)).room = RM
  replace hRM : ({ frames := 8, cells := 1, slots := 6, locals := 154 } : Room) = RM := hRM
  subst hRM
  have hl := lv_entry ([.ref q, .int p0, .int p1]) (n := 4) (Nat.le_of_ble_eq_true rfl)
  rw [lg_entry_eq]
  generalize (lg_sl ([.ref q, .int p0, .int p1]) ++ List.replicate (4 - (lg_sl ([.ref q, .int p0, .int p1])).length) Slot.unset).toArray = ls at hl ⊢
  have hl : lv_has ls 4 [(0, .ref q), (1, .int p0), (2, .int p1)] := hl
  have hS : va_S (fIv q 201) s.heap s.heap [] := va_S.rf
  have hP0 := hP
  unfold fL_act at h
  obtain ⟨H, hH⟩ : ∃ H, H = s.heap := ⟨_, rfl⟩
  obtain ⟨locs, hlz⟩ : ∃ z : List Loc, z = [] := ⟨_, rfl⟩
  have hP : va_P D vwCl (GW cI cC cZ cQ q G) H := by rw [hH]; exact hP
  have hS : va_S (fIv q 201) s.heap H locs := by rw [hH, hlz]; exact hS
  refine gc_at hH hlz ?_
  refine lv_iload_n hx hb dL_act_0 rfl (lv_at hl 2 rfl) ?_
  refine lv_bipush (v := 12) hx hb dL_act_1 (by decide) ?_
  refine lv_irem hx hb dL_act_3 (by decide) ?_
  refine lv_istore_n (lv' := [(3, .int (p1 - p1 / 12 * 12)), (0, .ref q), (1, .int p0), (2, .int p1)]) hx hb dL_act_4 rfl hl (by decide) rfl (fun ls hl => ?_)
  refine lv_iload_n hx hb dL_act_5 rfl (lv_at hl 2 rfl) ?_
  refine lv_bipush (v := 14) hx hb dL_act_6 (by decide) ?_
  refine lv_irem hx hb dL_act_8 (by decide) ?_
  by_cases c1 : (p0 - p0 / 14 * 14) = 0
  · replace h := (if_pos c1).symm.trans h
    refine lv_tableIn (off := 67) (tgt := 76) hx hb dL_act_9 (by rw [c1]; decide) (by rw [c1]; decide) (by rw [c1]; rfl) (by decide) ?_
    refine lv_aload_n hx hb dL_act_76 rfl (lv_at hl 1 rfl) ?_
    refine lv_iconst (v := 1) hx hb dL_act_77 (by decide) ?_
    refine lv_iload_n hx hb dL_act_78 rfl (lv_at hl 3 rfl) ?_
    refine lv_bipush (v := 30) hx hb dL_act_79 (by decide) ?_
    refine lv_irem hx hb dL_act_81 (by decide) ?_
    refine lv_iadd hx hb dL_act_82 ?_
    obtain ⟨r83, hr83, h⟩ := bd_some h
    refine gww_l (As := [.ref q, .int (1 + (p1 - p1 / 30 * 30))]) (rest := []) (k2 := 1) (n2 := 6) ⟨hx, hb, hml, hown, hts⟩ (gEnw_now hE hS (fun _ h9 => Nat.le_trans hlo h9.1)) hK (kL_step l D cI cC cZ cQ cJ t lo q G (1 + (p1 - p1 / 30 * 30)) hlo hlS hr83) (vx_cwSW 2 hts gL_act_L_step rfl rfl rfl (by decide +kernel) ⟨Nat.le_of_ble_eq_true rfl, Nat.le_of_ble_eq_true rfl⟩) hP hS (fun _ h9 => h9) rfl hl.1 rfl (Nat.le_of_ble_eq_true rfl) ⟨by show _ ≤ (1 : Nat); omega, by show _ ≤ (6 : Nat); omega⟩ rfl rfl dL_act_83 (fun H1 locs hP1 hS hz1 hk1 => ?_)
    have hP : va_P D vwCl (GW cI cC cZ cQ q r83.2) H1 := hP1
    generalize H1 = H at hP hS ⊢
    refine W.widen (k := 1) (n := 6) (by omega) (by omega) ?_
    have h := Option.some.inj h
    subst h
    exact W.lret (v := r83.1) hx hb hr (fun t ht hW => ⟨⟨_, (), rfl, rfl, gh ht hP⟩, hS.F ht⟩) hS.2.2 dL_act_86
  · replace h := (if_neg c1).symm.trans h
    by_cases c2 : (p0 - p0 / 14 * 14) = 1
    · replace h := (if_pos c2).symm.trans h
      refine lv_tableIn (off := 67) (tgt := 76) hx hb dL_act_9 (by rw [c2]; decide) (by rw [c2]; decide) (by rw [c2]; rfl) (by decide) ?_
      refine lv_aload_n hx hb dL_act_76 rfl (lv_at hl 1 rfl) ?_
      refine lv_iconst (v := 1) hx hb dL_act_77 (by decide) ?_
      refine lv_iload_n hx hb dL_act_78 rfl (lv_at hl 3 rfl) ?_
      refine lv_bipush (v := 30) hx hb dL_act_79 (by decide) ?_
      refine lv_irem hx hb dL_act_81 (by decide) ?_
      refine lv_iadd hx hb dL_act_82 ?_
      obtain ⟨r83, hr83, h⟩ := bd_some h
      refine gww_l (As := [.ref q, .int (1 + (p1 - p1 / 30 * 30))]) (rest := []) (k2 := 1) (n2 := 6) ⟨hx, hb, hml, hown, hts⟩ (gEnw_now hE hS (fun _ h9 => Nat.le_trans hlo h9.1)) hK (kL_step l D cI cC cZ cQ cJ t lo q G (1 + (p1 - p1 / 30 * 30)) hlo hlS hr83) (vx_cwSW 2 hts gL_act_L_step rfl rfl rfl (by decide +kernel) ⟨Nat.le_of_ble_eq_true rfl, Nat.le_of_ble_eq_true rfl⟩) hP hS (fun _ h9 => h9) rfl hl.1 rfl (Nat.le_of_ble_eq_true rfl) ⟨by show _ ≤ (1 : Nat); omega, by show _ ≤ (6 : Nat); omega⟩ rfl rfl dL_act_83 (fun H1 locs hP1 hS hz1 hk1 => ?_)
      have hP : va_P D vwCl (GW cI cC cZ cQ q r83.2) H1 := hP1
      generalize H1 = H at hP hS ⊢
      refine W.widen (k := 1) (n := 6) (by omega) (by omega) ?_
      have h := Option.some.inj h
      subst h
      exact W.lret (v := r83.1) hx hb hr (fun t ht hW => ⟨⟨_, (), rfl, rfl, gh ht hP⟩, hS.F ht⟩) hS.2.2 dL_act_86
    · replace h := (if_neg c2).symm.trans h
      by_cases c3 : (p0 - p0 / 14 * 14) = 2
      · replace h := (if_pos c3).symm.trans h
        refine lv_tableIn (off := 67) (tgt := 76) hx hb dL_act_9 (by rw [c3]; decide) (by rw [c3]; decide) (by rw [c3]; rfl) (by decide) ?_
        refine lv_aload_n hx hb dL_act_76 rfl (lv_at hl 1 rfl) ?_
        refine lv_iconst (v := 1) hx hb dL_act_77 (by decide) ?_
        refine lv_iload_n hx hb dL_act_78 rfl (lv_at hl 3 rfl) ?_
        refine lv_bipush (v := 30) hx hb dL_act_79 (by decide) ?_
        refine lv_irem hx hb dL_act_81 (by decide) ?_
        refine lv_iadd hx hb dL_act_82 ?_
        obtain ⟨r83, hr83, h⟩ := bd_some h
        refine gww_l (As := [.ref q, .int (1 + (p1 - p1 / 30 * 30))]) (rest := []) (k2 := 1) (n2 := 6) ⟨hx, hb, hml, hown, hts⟩ (gEnw_now hE hS (fun _ h9 => Nat.le_trans hlo h9.1)) hK (kL_step l D cI cC cZ cQ cJ t lo q G (1 + (p1 - p1 / 30 * 30)) hlo hlS hr83) (vx_cwSW 2 hts gL_act_L_step rfl rfl rfl (by decide +kernel) ⟨Nat.le_of_ble_eq_true rfl, Nat.le_of_ble_eq_true rfl⟩) hP hS (fun _ h9 => h9) rfl hl.1 rfl (Nat.le_of_ble_eq_true rfl) ⟨by show _ ≤ (1 : Nat); omega, by show _ ≤ (6 : Nat); omega⟩ rfl rfl dL_act_83 (fun H1 locs hP1 hS hz1 hk1 => ?_)
        have hP : va_P D vwCl (GW cI cC cZ cQ q r83.2) H1 := hP1
        generalize H1 = H at hP hS ⊢
        refine W.widen (k := 1) (n := 6) (by omega) (by omega) ?_
        have h := Option.some.inj h
        subst h
        exact W.lret (v := r83.1) hx hb hr (fun t ht hW => ⟨⟨_, (), rfl, rfl, gh ht hP⟩, hS.F ht⟩) hS.2.2 dL_act_86
      · replace h := (if_neg c3).symm.trans h
        by_cases c4 : (p0 - p0 / 14 * 14) = 3
        · replace h := (if_pos c4).symm.trans h
          refine lv_tableIn (off := 67) (tgt := 76) hx hb dL_act_9 (by rw [c4]; decide) (by rw [c4]; decide) (by rw [c4]; rfl) (by decide) ?_
          refine lv_aload_n hx hb dL_act_76 rfl (lv_at hl 1 rfl) ?_
          refine lv_iconst (v := 1) hx hb dL_act_77 (by decide) ?_
          refine lv_iload_n hx hb dL_act_78 rfl (lv_at hl 3 rfl) ?_
          refine lv_bipush (v := 30) hx hb dL_act_79 (by decide) ?_
          refine lv_irem hx hb dL_act_81 (by decide) ?_
          refine lv_iadd hx hb dL_act_82 ?_
          obtain ⟨r83, hr83, h⟩ := bd_some h
          refine gww_l (As := [.ref q, .int (1 + (p1 - p1 / 30 * 30))]) (rest := []) (k2 := 1) (n2 := 6) ⟨hx, hb, hml, hown, hts⟩ (gEnw_now hE hS (fun _ h9 => Nat.le_trans hlo h9.1)) hK (kL_step l D cI cC cZ cQ cJ t lo q G (1 + (p1 - p1 / 30 * 30)) hlo hlS hr83) (vx_cwSW 2 hts gL_act_L_step rfl rfl rfl (by decide +kernel) ⟨Nat.le_of_ble_eq_true rfl, Nat.le_of_ble_eq_true rfl⟩) hP hS (fun _ h9 => h9) rfl hl.1 rfl (Nat.le_of_ble_eq_true rfl) ⟨by show _ ≤ (1 : Nat); omega, by show _ ≤ (6 : Nat); omega⟩ rfl rfl dL_act_83 (fun H1 locs hP1 hS hz1 hk1 => ?_)
          have hP : va_P D vwCl (GW cI cC cZ cQ q r83.2) H1 := hP1
          generalize H1 = H at hP hS ⊢
          refine W.widen (k := 1) (n := 6) (by omega) (by omega) ?_
          have h := Option.some.inj h
          subst h
          exact W.lret (v := r83.1) hx hb hr (fun t ht hW => ⟨⟨_, (), rfl, rfl, gh ht hP⟩, hS.F ht⟩) hS.2.2 dL_act_86
        · replace h := (if_neg c4).symm.trans h
          by_cases c5 : (p0 - p0 / 14 * 14) = 4
          · replace h := (if_pos c5).symm.trans h
            refine lv_tableIn (off := 67) (tgt := 76) hx hb dL_act_9 (by rw [c5]; decide) (by rw [c5]; decide) (by rw [c5]; rfl) (by decide) ?_
            refine lv_aload_n hx hb dL_act_76 rfl (lv_at hl 1 rfl) ?_
            refine lv_iconst (v := 1) hx hb dL_act_77 (by decide) ?_
            refine lv_iload_n hx hb dL_act_78 rfl (lv_at hl 3 rfl) ?_
            refine lv_bipush (v := 30) hx hb dL_act_79 (by decide) ?_
            refine lv_irem hx hb dL_act_81 (by decide) ?_
            refine lv_iadd hx hb dL_act_82 ?_
            obtain ⟨r83, hr83, h⟩ := bd_some h
            refine gww_l (As := [.ref q, .int (1 + (p1 - p1 / 30 * 30))]) (rest := []) (k2 := 1) (n2 := 6) ⟨hx, hb, hml, hown, hts⟩ (gEnw_now hE hS (fun _ h9 => Nat.le_trans hlo h9.1)) hK (kL_step l D cI cC cZ cQ cJ t lo q G (1 + (p1 - p1 / 30 * 30)) hlo hlS hr83) (vx_cwSW 2 hts gL_act_L_step rfl rfl rfl (by decide +kernel) ⟨Nat.le_of_ble_eq_true rfl, Nat.le_of_ble_eq_true rfl⟩) hP hS (fun _ h9 => h9) rfl hl.1 rfl (Nat.le_of_ble_eq_true rfl) ⟨by show _ ≤ (1 : Nat); omega, by show _ ≤ (6 : Nat); omega⟩ rfl rfl dL_act_83 (fun H1 locs hP1 hS hz1 hk1 => ?_)
            have hP : va_P D vwCl (GW cI cC cZ cQ q r83.2) H1 := hP1
            generalize H1 = H at hP hS ⊢
            refine W.widen (k := 1) (n := 6) (by omega) (by omega) ?_
            have h := Option.some.inj h
            subst h
            exact W.lret (v := r83.1) hx hb hr (fun t ht hW => ⟨⟨_, (), rfl, rfl, gh ht hP⟩, hS.F ht⟩) hS.2.2 dL_act_86
          · replace h := (if_neg c5).symm.trans h
            by_cases c6 : (p0 - p0 / 14 * 14) = 5
            · replace h := (if_pos c6).symm.trans h
              refine lv_tableIn (off := 78) (tgt := 87) hx hb dL_act_9 (by rw [c6]; decide) (by rw [c6]; decide) (by rw [c6]; rfl) (by decide) ?_
              refine lv_aload_n hx hb dL_act_87 rfl (lv_at hl 1 rfl) ?_
              refine lv_iload_n hx hb dL_act_88 rfl (lv_at hl 3 rfl) ?_
              refine lv_iconst (v := 4) hx hb dL_act_89 (by decide) ?_
              refine lv_irem hx hb dL_act_90 (by decide) ?_
              obtain ⟨r91, hr91, h⟩ := bd_some h
              refine gww_l (As := [.ref q, .int (p1 - p1 / 4 * 4)]) (rest := []) (k2 := 1) (n2 := 6) ⟨hx, hb, hml, hown, hts⟩ (gEnw_now hE hS (fun _ h9 => Nat.le_trans hlo h9.1)) hK (kL_addGrip l D cI cC cZ cQ cJ t lo q G (p1 - p1 / 4 * 4) hlo hlS hr91) (vx_cwSW 2 hts gL_act_L_addGrip rfl rfl rfl (by decide +kernel) ⟨Nat.le_of_ble_eq_true rfl, Nat.le_of_ble_eq_true rfl⟩) hP hS (fun _ h9 => h9) rfl hl.1 rfl (Nat.le_of_ble_eq_true rfl) ⟨by show _ ≤ (1 : Nat); omega, by show _ ≤ (6 : Nat); omega⟩ rfl rfl dL_act_91 (fun H1 locs hP1 hS hz1 hk1 => ?_)
              have hP : va_P D vwCl (GW cI cC cZ cQ q r91.2) H1 := hP1
              generalize H1 = H at hP hS ⊢
              refine W.widen (k := 1) (n := 6) (by omega) (by omega) ?_
              have h := Option.some.inj h
              subst h
              exact W.lret (v := r91.1) hx hb hr (fun t ht hW => ⟨⟨_, (), rfl, rfl, gh ht hP⟩, hS.F ht⟩) hS.2.2 dL_act_94
            · replace h := (if_neg c6).symm.trans h
              by_cases c7 : (p0 - p0 / 14 * 14) = 6
              · replace h := (if_pos c7).symm.trans h
                refine lv_tableIn (off := 78) (tgt := 87) hx hb dL_act_9 (by rw [c7]; decide) (by rw [c7]; decide) (by rw [c7]; rfl) (by decide) ?_
                refine lv_aload_n hx hb dL_act_87 rfl (lv_at hl 1 rfl) ?_
                refine lv_iload_n hx hb dL_act_88 rfl (lv_at hl 3 rfl) ?_
                refine lv_iconst (v := 4) hx hb dL_act_89 (by decide) ?_
                refine lv_irem hx hb dL_act_90 (by decide) ?_
                obtain ⟨r91, hr91, h⟩ := bd_some h
                refine gww_l (As := [.ref q, .int (p1 - p1 / 4 * 4)]) (rest := []) (k2 := 1) (n2 := 6) ⟨hx, hb, hml, hown, hts⟩ (gEnw_now hE hS (fun _ h9 => Nat.le_trans hlo h9.1)) hK (kL_addGrip l D cI cC cZ cQ cJ t lo q G (p1 - p1 / 4 * 4) hlo hlS hr91) (vx_cwSW 2 hts gL_act_L_addGrip rfl rfl rfl (by decide +kernel) ⟨Nat.le_of_ble_eq_true rfl, Nat.le_of_ble_eq_true rfl⟩) hP hS (fun _ h9 => h9) rfl hl.1 rfl (Nat.le_of_ble_eq_true rfl) ⟨by show _ ≤ (1 : Nat); omega, by show _ ≤ (6 : Nat); omega⟩ rfl rfl dL_act_91 (fun H1 locs hP1 hS hz1 hk1 => ?_)
                have hP : va_P D vwCl (GW cI cC cZ cQ q r91.2) H1 := hP1
                generalize H1 = H at hP hS ⊢
                refine W.widen (k := 1) (n := 6) (by omega) (by omega) ?_
                have h := Option.some.inj h
                subst h
                exact W.lret (v := r91.1) hx hb hr (fun t ht hW => ⟨⟨_, (), rfl, rfl, gh ht hP⟩, hS.F ht⟩) hS.2.2 dL_act_94
              · replace h := (if_neg c7).symm.trans h
                by_cases c8 : (p0 - p0 / 14 * 14) = 7
                · replace h := (if_pos c8).symm.trans h
                  refine lv_tableIn (off := 86) (tgt := 95) hx hb dL_act_9 (by rw [c8]; decide) (by rw [c8]; decide) (by rw [c8]; rfl) (by decide) ?_
                  refine lv_aload_n hx hb dL_act_95 rfl (lv_at hl 1 rfl) ?_
                  refine lv_iload_n hx hb dL_act_96 rfl (lv_at hl 0 rfl) ?_
                  refine lv_iload_n hx hb dL_act_97 rfl (lv_at hl 3 rfl) ?_
                  refine lv_bipush (v := 12) hx hb dL_act_98 (by decide) ?_
                  refine lv_idiv hx hb dL_act_100 (by decide) ?_
                  refine lv_bipush (v := 20) hx hb dL_act_101 (by decide) ?_
                  refine lv_irem hx hb dL_act_103 (by decide) ?_
                  obtain ⟨r104, hr104, h⟩ := bd_some h
                  refine gww_l (As := [.ref q, .int (p1 - p1 / 12 * 12), .int ((p1 / 12) - (p1 / 12) / 20 * 20)]) (rest := []) (k2 := 1) (n2 := 6) ⟨hx, hb, hml, hown, hts⟩ (gEnw_now hE hS (fun _ h9 => Nat.le_trans hlo h9.1)) hK (kL_putOn l D cI cC cZ cQ cJ t lo q G (p1 - p1 / 12 * 12) ((p1 / 12) - (p1 / 12) / 20 * 20) hlo hlS hr104) (vx_cwSW 3 hts gL_act_L_putOn rfl rfl rfl (by decide +kernel) ⟨Nat.le_of_ble_eq_true rfl, Nat.le_of_ble_eq_true rfl⟩) hP hS (fun _ h9 => h9) rfl hl.1 rfl (Nat.le_of_ble_eq_true rfl) ⟨by show _ ≤ (1 : Nat); omega, by show _ ≤ (6 : Nat); omega⟩ rfl rfl dL_act_104 (fun H1 locs hP1 hS hz1 hk1 => ?_)
                  have hP : va_P D vwCl (GW cI cC cZ cQ q r104.2) H1 := hP1
                  generalize H1 = H at hP hS ⊢
                  refine W.widen (k := 1) (n := 6) (by omega) (by omega) ?_
                  have h := Option.some.inj h
                  subst h
                  exact W.lret (v := r104.1) hx hb hr (fun t ht hW => ⟨⟨_, (), rfl, rfl, gh ht hP⟩, hS.F ht⟩) hS.2.2 dL_act_107
                · replace h := (if_neg c8).symm.trans h
                  by_cases c9 : (p0 - p0 / 14 * 14) = 8
                  · replace h := (if_pos c9).symm.trans h
                    refine lv_tableIn (off := 86) (tgt := 95) hx hb dL_act_9 (by rw [c9]; decide) (by rw [c9]; decide) (by rw [c9]; rfl) (by decide) ?_
                    refine lv_aload_n hx hb dL_act_95 rfl (lv_at hl 1 rfl) ?_
                    refine lv_iload_n hx hb dL_act_96 rfl (lv_at hl 0 rfl) ?_
                    refine lv_iload_n hx hb dL_act_97 rfl (lv_at hl 3 rfl) ?_
                    refine lv_bipush (v := 12) hx hb dL_act_98 (by decide) ?_
                    refine lv_idiv hx hb dL_act_100 (by decide) ?_
                    refine lv_bipush (v := 20) hx hb dL_act_101 (by decide) ?_
                    refine lv_irem hx hb dL_act_103 (by decide) ?_
                    obtain ⟨r104, hr104, h⟩ := bd_some h
                    refine gww_l (As := [.ref q, .int (p1 - p1 / 12 * 12), .int ((p1 / 12) - (p1 / 12) / 20 * 20)]) (rest := []) (k2 := 1) (n2 := 6) ⟨hx, hb, hml, hown, hts⟩ (gEnw_now hE hS (fun _ h9 => Nat.le_trans hlo h9.1)) hK (kL_putOn l D cI cC cZ cQ cJ t lo q G (p1 - p1 / 12 * 12) ((p1 / 12) - (p1 / 12) / 20 * 20) hlo hlS hr104) (vx_cwSW 3 hts gL_act_L_putOn rfl rfl rfl (by decide +kernel) ⟨Nat.le_of_ble_eq_true rfl, Nat.le_of_ble_eq_true rfl⟩) hP hS (fun _ h9 => h9) rfl hl.1 rfl (Nat.le_of_ble_eq_true rfl) ⟨by show _ ≤ (1 : Nat); omega, by show _ ≤ (6 : Nat); omega⟩ rfl rfl dL_act_104 (fun H1 locs hP1 hS hz1 hk1 => ?_)
                    have hP : va_P D vwCl (GW cI cC cZ cQ q r104.2) H1 := hP1
                    generalize H1 = H at hP hS ⊢
                    refine W.widen (k := 1) (n := 6) (by omega) (by omega) ?_
                    have h := Option.some.inj h
                    subst h
                    exact W.lret (v := r104.1) hx hb hr (fun t ht hW => ⟨⟨_, (), rfl, rfl, gh ht hP⟩, hS.F ht⟩) hS.2.2 dL_act_107
                  · replace h := (if_neg c9).symm.trans h
                    by_cases c10 : (p0 - p0 / 14 * 14) = 9
                    · replace h := (if_pos c10).symm.trans h
                      refine lv_tableIn (off := 99) (tgt := 108) hx hb dL_act_9 (by rw [c10]; decide) (by rw [c10]; decide) (by rw [c10]; rfl) (by decide) ?_
                      refine lv_iload_n hx hb dL_act_108 rfl (lv_at hl 3 rfl) ?_
                      refine lv_iconst (v := 3) hx hb dL_act_109 (by decide) ?_
                      refine lv_irem hx hb dL_act_110 (by decide) ?_
                      obtain ⟨a132_11, haa132_11, h⟩ := bd_some h
                      have JJ132 : ∀ (H : Heap) (locs : List Loc) (ls : Array Slot), va_P D vwCl (GW cI cC cZ cQ q a132_11.1) H → va_S (fIv q 201) s.heap H locs → lv_has ls 4 [] → W p l e ({ frames := 8, cells := 1, slots := 6, locals := 154 } : Room) s m ([.ref q, .int p0, .int p1] : List Value).toArray below meth c H locs 1 6 (MQ below (va_Ql (fun r (_ : Unit) => r = R.1) (fun _ t => va_P D vwCl (GW cI cC cZ cQ q R.2) t.heap) (fIv q 201)) ([.ref q, .int p0, .int p1] : List Value).toArray s 1 6 (fIv q 201)) (F0 m 132 ls [.long a132_11.2]) := by
                        intro H locs ls hP hS hl
                        refine W.widen (k := 1) (n := 6) (by omega) (by omega) ?_
                        have h := Option.some.inj h
                        subst h
                        exact W.lret (v := a132_11.2) hx hb hr (fun t ht hW => ⟨⟨_, (), rfl, rfl, gh ht hP⟩, hS.F ht⟩) hS.2.2 dL_act_132
                      clear h
                      replace h := haa132_11
                      clear haa132_11
                      refine lv_if_ne (tgt := 127) hx hb dL_act_111 (by decide) (fun c11 => ?_) (fun c11 => ?_)
                      · replace h := (if_neg c11).symm.trans h
                        refine lv_aload_n hx hb dL_act_127 rfl (lv_at hl 1 rfl) ?_
                        refine lv_iload_n hx hb dL_act_128 rfl (lv_at hl 0 rfl) ?_
                        obtain ⟨r129, hr129, h⟩ := bd_some h
                        refine gww_l (As := [.ref q, .int (p1 - p1 / 12 * 12)]) (rest := []) (k2 := 1) (n2 := 6) ⟨hx, hb, hml, hown, hts⟩ (gEnw_now hE hS (fun _ h9 => Nat.le_trans hlo h9.1)) hK (kL_takeOff l D cI cC cZ cQ cJ t lo q G (p1 - p1 / 12 * 12) hlo hlS hr129) (vx_cwSW 2 hts gL_act_L_takeOff rfl rfl rfl (by decide +kernel) ⟨Nat.le_of_ble_eq_true rfl, Nat.le_of_ble_eq_true rfl⟩) hP hS (fun _ h9 => h9) rfl hl.1 rfl (Nat.le_of_ble_eq_true rfl) ⟨by show _ ≤ (1 : Nat); omega, by show _ ≤ (6 : Nat); omega⟩ rfl rfl dL_act_129 (fun H1 locs hP1 hS hz1 hk1 => ?_)
                        have hP : va_P D vwCl (GW cI cC cZ cQ q r129.2) H1 := hP1
                        generalize H1 = H at hP hS ⊢
                        have h := Option.some.inj h
                        subst h
                        refine W.widen (k := 1) (n := 6) (by omega) (by omega) ?_
                        exact JJ132 H locs ls hP hS (lv_sub hl [] rfl)
                      · replace h := (if_pos c11).symm.trans h
                        refine lv_aload_n hx hb dL_act_114 rfl (lv_at hl 1 rfl) ?_
                        refine lv_iload_n hx hb dL_act_115 rfl (lv_at hl 3 rfl) ?_
                        refine lv_iconst (v := 3) hx hb dL_act_116 (by decide) ?_
                        refine lv_idiv hx hb dL_act_117 (by decide) ?_
                        refine lv_bipush (v := 12) hx hb dL_act_118 (by decide) ?_
                        refine lv_irem hx hb dL_act_120 (by decide) ?_
                        obtain ⟨r121, hr121, h⟩ := bd_some h
                        refine gww_l (As := [.ref q, .int ((p1 / 3) - (p1 / 3) / 12 * 12)]) (rest := []) (k2 := 1) (n2 := 6) ⟨hx, hb, hml, hown, hts⟩ (gEnw_now hE hS (fun _ h9 => Nat.le_trans hlo h9.1)) hK (kL_scrap l D cI cC cZ cQ cJ t lo q G ((p1 / 3) - (p1 / 3) / 12 * 12) hlo hlS hr121) (vx_cwSW 2 hts gL_act_L_scrap rfl rfl rfl (by decide +kernel) ⟨Nat.le_of_ble_eq_true rfl, Nat.le_of_ble_eq_true rfl⟩) hP hS (fun _ h9 => h9) rfl hl.1 rfl (Nat.le_of_ble_eq_true rfl) ⟨by show _ ≤ (1 : Nat); omega, by show _ ≤ (6 : Nat); omega⟩ rfl rfl dL_act_121 (fun H1 locs hP1 hS hz1 hk1 => ?_)
                        have hP : va_P D vwCl (GW cI cC cZ cQ q r121.2) H1 := hP1
                        generalize H1 = H at hP hS ⊢
                        refine lv_goto (tgt := 132) hx hb dL_act_124 (by decide) ?_
                        have h := Option.some.inj h
                        subst h
                        refine W.widen (k := 1) (n := 6) (by omega) (by omega) ?_
                        exact JJ132 H locs ls hP hS (lv_sub hl [] rfl)
                    · replace h := (if_neg c10).symm.trans h
                      by_cases c13 : (p0 - p0 / 14 * 14) = 10
                      · replace h := (if_pos c13).symm.trans h
                        refine lv_tableIn (off := 124) (tgt := 133) hx hb dL_act_9 (by rw [c13]; decide) (by rw [c13]; decide) (by rw [c13]; rfl) (by decide) ?_
                        refine lv_aload_n hx hb dL_act_133 rfl (lv_at hl 1 rfl) ?_
                        refine lv_iload_n hx hb dL_act_134 rfl (lv_at hl 3 rfl) ?_
                        refine lv_iconst (v := 5) hx hb dL_act_135 (by decide) ?_
                        refine lv_irem hx hb dL_act_136 (by decide) ?_
                        refine lv_iconst (v := 1) hx hb dL_act_137 (by decide) ?_
                        refine lv_iload_n hx hb dL_act_138 rfl (lv_at hl 3 rfl) ?_
                        refine lv_iconst (v := 5) hx hb dL_act_139 (by decide) ?_
                        refine lv_idiv hx hb dL_act_140 (by decide) ?_
                        refine lv_bipush (v := 12) hx hb dL_act_141 (by decide) ?_
                        refine lv_irem hx hb dL_act_143 (by decide) ?_
                        refine lv_iadd hx hb dL_act_144 ?_
                        obtain ⟨r145, hr145, h⟩ := bd_some h
                        refine gww_l (As := [.ref q, .int (p1 - p1 / 5 * 5), .int (1 + ((p1 / 5) - (p1 / 5) / 12 * 12))]) (rest := []) (k2 := 1) (n2 := 6) ⟨hx, hb, hml, hown, hts⟩ (gEnw_now hE hS (fun _ h9 => Nat.le_trans hlo h9.1)) hK (kL_setLimit l D cI cC cZ cQ cJ t lo q G (p1 - p1 / 5 * 5) (1 + ((p1 / 5) - (p1 / 5) / 12 * 12)) hlo hlS hr145) (vx_cwSW 3 hts gL_act_L_setLimit rfl rfl rfl (by decide +kernel) ⟨Nat.le_of_ble_eq_true rfl, Nat.le_of_ble_eq_true rfl⟩) hP hS (fun _ h9 => h9) rfl hl.1 rfl (Nat.le_of_ble_eq_true rfl) ⟨by show _ ≤ (1 : Nat); omega, by show _ ≤ (6 : Nat); omega⟩ rfl rfl dL_act_145 (fun H1 locs hP1 hS hz1 hk1 => ?_)
                        have hP : va_P D vwCl (GW cI cC cZ cQ q r145.2) H1 := hP1
                        generalize H1 = H at hP hS ⊢
                        refine W.widen (k := 1) (n := 6) (by omega) (by omega) ?_
                        have h := Option.some.inj h
                        subst h
                        exact W.lret (v := r145.1) hx hb hr (fun t ht hW => ⟨⟨_, (), rfl, rfl, gh ht hP⟩, hS.F ht⟩) hS.2.2 dL_act_148
                      · replace h := (if_neg c13).symm.trans h
                        by_cases c14 : (p0 - p0 / 14 * 14) = 11
                        · replace h := (if_pos c14).symm.trans h
                          refine lv_tableIn (off := 140) (tgt := 149) hx hb dL_act_9 (by rw [c14]; decide) (by rw [c14]; decide) (by rw [c14]; rfl) (by decide) ?_
                          refine lv_aload_n hx hb dL_act_149 rfl (lv_at hl 1 rfl) ?_
                          refine lv_ldc2 (v := 977) hx hb hown (hts (.constantLong RL 239 (977)) (by decide +kernel)) dL_act_150 ?_
                          refine lv_iload_n hx hb dL_act_153 rfl (lv_at hl 3 rfl) ?_
                          refine lv_i2l hx hb dL_act_154 rfl ?_
                          refine lv_lmul hx hb dL_act_155 ?_
                          obtain ⟨r156, hr156, h⟩ := bd_some h
                          refine gc_wl (As := [.long (977 * ((p1).toInt64))]) (rest := []) ⟨hx, hb, hml, hown, hts⟩ hK (kX4_setRandom l D cI cC cZ cQ cJ q G (977 * ((p1).toInt64)) hr156) (cwV 1 hts gL_act_X4_setRandom rfl rfl rfl (by decide +kernel) ⟨Nat.le_of_ble_eq_true rfl, Nat.le_of_ble_eq_true rfl⟩) (va_recv hK hP (ci := 4) (q0 := 0) rfl rfl) hP hS (fun _ h9 => h9) rfl hl.1 rfl (Nat.le_of_ble_eq_true rfl) ⟨by show _ ≤ (1 : Nat); omega, by show _ ≤ (6 : Nat); omega⟩ dL_act_156 (fun H1 locs hP1 hS hz1 hk1 => ?_)
                          have hP : va_P D vwCl (GW cI cC cZ cQ q r156.2) H1 := hP1
                          generalize H1 = H at hP hS ⊢
                          refine W.widen (k := 1) (n := 6) (by omega) (by omega) ?_
                          have h := Option.some.inj h
                          subst h
                          exact W.lret (v := r156.1) hx hb hr (fun t ht hW => ⟨⟨_, (), rfl, rfl, gh ht hP⟩, hS.F ht⟩) hS.2.2 dL_act_159
                        · replace h := (if_neg c14).symm.trans h
                          by_cases c15 : (p0 - p0 / 14 * 14) = 12
                          · replace h := (if_pos c15).symm.trans h
                            refine lv_tableIn (off := 151) (tgt := 160) hx hb dL_act_9 (by rw [c15]; decide) (by rw [c15]; decide) (by rw [c15]; rfl) (by decide) ?_
                            refine lv_aload_n hx hb dL_act_160 rfl (lv_at hl 1 rfl) ?_
                            obtain ⟨r161, hr161, h⟩ := bd_some h
                            refine gww_l (As := [.ref q]) (rest := []) (k2 := 1) (n2 := 6) ⟨hx, hb, hml, hown, hts⟩ (gEnw_now hE hS (fun _ h9 => Nat.le_trans hlo h9.1)) hK (kL_undo l D cI cC cZ cQ cJ t lo q G hlo hlS hr161) (vx_cwSW 1 hts gL_act_L_undo rfl rfl rfl (by decide +kernel) ⟨Nat.le_of_ble_eq_true rfl, Nat.le_of_ble_eq_true rfl⟩) hP hS (fun _ h9 => h9) rfl hl.1 rfl (Nat.le_of_ble_eq_true rfl) ⟨by show _ ≤ (1 : Nat); omega, by show _ ≤ (6 : Nat); omega⟩ rfl rfl dL_act_161 (fun H1 locs hP1 hS hz1 hk1 => ?_)
                            have hP : va_P D vwCl (GW cI cC cZ cQ q r161.2) H1 := hP1
                            generalize H1 = H at hP hS ⊢
                            refine W.widen (k := 1) (n := 6) (by omega) (by omega) ?_
                            have h := Option.some.inj h
                            subst h
                            exact W.lret (v := r161.1) hx hb hr (fun t ht hW => ⟨⟨_, (), rfl, rfl, gh ht hP⟩, hS.F ht⟩) hS.2.2 dL_act_164
                          · replace h := (if_neg c15).symm.trans h
                            refine lv_tableOut (tgt := 165) hx hb dL_act_9 (gsw_out 0 12 (x := (p0 - p0 / 14 * 14)) ?_) (by decide) ?_
                            · intro k h1 h2 hk
                              rcases (show k = 0 ∨ k = 1 ∨ k = 2 ∨ k = 3 ∨ k = 4 ∨ k = 5 ∨ k = 6 ∨ k = 7 ∨ k = 8 ∨ k = 9 ∨ k = 10 ∨ k = 11 ∨ k = 12 by omega) with rfl | rfl | rfl | rfl | rfl | rfl | rfl | rfl | rfl | rfl | rfl | rfl | rfl
                              · exact lv_neT c1 (by decide) hk
                              · exact lv_neT c2 (by decide) hk
                              · exact lv_neT c3 (by decide) hk
                              · exact lv_neT c4 (by decide) hk
                              · exact lv_neT c5 (by decide) hk
                              · exact lv_neT c6 (by decide) hk
                              · exact lv_neT c7 (by decide) hk
                              · exact lv_neT c8 (by decide) hk
                              · exact lv_neT c9 (by decide) hk
                              · exact lv_neT c10 (by decide) hk
                              · exact lv_neT c13 (by decide) hk
                              · exact lv_neT c14 (by decide) hk
                              · exact lv_neT c15 (by decide) hk
                            · refine lv_iload_n hx hb dL_act_165 rfl (lv_at hl 3 rfl) ?_
                              refine lv_iconst (v := 2) hx hb dL_act_166 (by decide) ?_
                              refine lv_irem hx hb dL_act_167 (by decide) ?_
                              obtain ⟨a192_16, haa192_16, h⟩ := bd_some h
                              have JJ192 : ∀ (H : Heap) (locs : List Loc) (ls : Array Slot), va_P D vwCl (GW cI cC cZ cQ q a192_16.1) H → va_S (fIv q 201) s.heap H locs → lv_has ls 4 [] → W p l e ({ frames := 8, cells := 1, slots := 6, locals := 154 } : Room) s m ([.ref q, .int p0, .int p1] : List Value).toArray below meth c H locs 1 6 (MQ below (va_Ql (fun r (_ : Unit) => r = R.1) (fun _ t => va_P D vwCl (GW cI cC cZ cQ q R.2) t.heap) (fIv q 201)) ([.ref q, .int p0, .int p1] : List Value).toArray s 1 6 (fIv q 201)) (F0 m 192 ls [.long a192_16.2]) := by
                                intro H locs ls hP hS hl
                                refine W.widen (k := 1) (n := 6) (by omega) (by omega) ?_
                                have h := Option.some.inj h
                                subst h
                                exact W.lret (v := a192_16.2) hx hb hr (fun t ht hW => ⟨⟨_, (), rfl, rfl, gh ht hP⟩, hS.F ht⟩) hS.2.2 dL_act_192
                              clear h
                              replace h := haa192_16
                              clear haa192_16
                              refine lv_if_ne (tgt := 183) hx hb dL_act_168 (by decide) (fun c16 => ?_) (fun c16 => ?_)
                              · replace h := (if_neg c16).symm.trans h
                                refine lv_aload_n hx hb dL_act_183 rfl (lv_at hl 1 rfl) ?_
                                refine lv_iload_n hx hb dL_act_184 rfl (lv_at hl 3 rfl) ?_
                                refine lv_iconst (v := 2) hx hb dL_act_185 (by decide) ?_
                                refine lv_idiv hx hb dL_act_186 (by decide) ?_
                                refine lv_iconst (v := 1) hx hb dL_act_187 (by decide) ?_
                                refine lv_iand hx hb dL_act_188 ?_
                                obtain ⟨r189, hr189, h⟩ := bd_some h
                                refine gww_l (As := [.ref q, .int ((p1 / 2) &&& 1)]) (rest := []) (k2 := 1) (n2 := 6) ⟨hx, hb, hml, hown, hts⟩ (gEnw_now hE hS (fun _ h9 => Nat.le_trans hlo h9.1)) hK (kL_restore l D cI cC cZ cQ cJ t lo q G ((p1 / 2) &&& 1) hlo hlS hr189) (vx_cwSW 2 hts gL_act_L_restore rfl rfl rfl (by decide +kernel) ⟨Nat.le_of_ble_eq_true rfl, Nat.le_of_ble_eq_true rfl⟩) hP hS (fun _ h9 => h9) rfl hl.1 rfl (Nat.le_of_ble_eq_true rfl) ⟨by show _ ≤ (1 : Nat); omega, by show _ ≤ (6 : Nat); omega⟩ rfl rfl dL_act_189 (fun H1 locs hP1 hS hz1 hk1 => ?_)
                                have hP : va_P D vwCl (GW cI cC cZ cQ q r189.2) H1 := hP1
                                generalize H1 = H at hP hS ⊢
                                have h := Option.some.inj h
                                subst h
                                refine W.widen (k := 1) (n := 6) (by omega) (by omega) ?_
                                exact JJ192 H locs ls hP hS (lv_sub hl [] rfl)
                              · replace h := (if_pos c16).symm.trans h
                                refine lv_aload_n hx hb dL_act_171 rfl (lv_at hl 1 rfl) ?_
                                refine lv_iload_n hx hb dL_act_172 rfl (lv_at hl 3 rfl) ?_
                                refine lv_iconst (v := 2) hx hb dL_act_173 (by decide) ?_
                                refine lv_idiv hx hb dL_act_174 (by decide) ?_
                                refine lv_iconst (v := 1) hx hb dL_act_175 (by decide) ?_
                                refine lv_iand hx hb dL_act_176 ?_
                                obtain ⟨r177, hr177, h⟩ := bd_some h
                                refine gww_l (As := [.ref q, .int ((p1 / 2) &&& 1)]) (rest := []) (k2 := 1) (n2 := 6) ⟨hx, hb, hml, hown, hts⟩ (gEnw_now hE hS (fun _ h9 => Nat.le_trans hlo h9.1)) hK (kL_save l D cI cC cZ cQ cJ t lo q G ((p1 / 2) &&& 1) hlo hlS hr177) (vx_cwSW 2 hts gL_act_L_save rfl rfl rfl (by decide +kernel) ⟨Nat.le_of_ble_eq_true rfl, Nat.le_of_ble_eq_true rfl⟩) hP hS (fun _ h9 => h9) rfl hl.1 rfl (Nat.le_of_ble_eq_true rfl) ⟨by show _ ≤ (1 : Nat); omega, by show _ ≤ (6 : Nat); omega⟩ rfl rfl dL_act_177 (fun H1 locs hP1 hS hz1 hk1 => ?_)
                                have hP : va_P D vwCl (GW cI cC cZ cQ q r177.2) H1 := hP1
                                generalize H1 = H at hP hS ⊢
                                refine lv_goto (tgt := 192) hx hb dL_act_180 (by decide) ?_
                                have h := Option.some.inj h
                                subst h
                                refine W.widen (k := 1) (n := 6) (by omega) (by omega) ?_
                                exact JJ192 H locs ls hP hS (lv_sub hl [] rfl)
set_option maxHeartbeats 16000000 in
set_option maxRecDepth 100000 in
theorem kL_now (l : Launch) (D : va_G) (cI cC cZ cQ cJ : ClassId) (t lo : Nat) (q : Nat) (G : GSt) (hlo : lo ≤ q) (hlS : l.stackTraces = false) {R : Int64 × GSt} (h : fL_now G = some R) : Met l yL_now wsL_now ({ frames := 9, cells := 144, slots := 864, locals := 145 } : Room) (va_Pc [.ref q] (gBw D (gTy cI cC cZ cQ cJ) t lo (va_P D vwCl (GW cI cC cZ cQ q G)))) (va_Ql (fun r (_ : Unit) => r = R.1) (fun _ t => va_P D vwCl (GW cI cC cZ cQ q R.2) t.heap) (fIv q 201)) 144 864 (fIv q 201) := by
  refine Met.ofW (cc := cL_now) (maxL := 5) (ret := (some .long)) (by decide) rfl ?_
  intro p e s m args below meth c s₁ B hml hv
  obtain ⟨rfl, ⟨hP, hK⟩, hE⟩ := hv
  have hx := B.exec
  have hb := B.bytes
  have hr := B.returns
  have hts := atoms_spec (ws := wsL_now) B.pre
  have hown : s.vm.findClass RL = some m.cls := findClass_of_methodNamed B.named
  generalize hRM : (headSpec wsL_now ({ frames := 9, cells := 144, slots := 864, locals := 145 } : Room)).room = RM
  replace hRM : ({ frames := 9, cells := 144, slots := 864, locals := 145 } : Room) = RM := hRM
  subst hRM
  have hl := lv_entry ([.ref q]) (n := 5) (Nat.le_of_ble_eq_true rfl)
  rw [lg_entry_eq]
  generalize (lg_sl ([.ref q]) ++ List.replicate (5 - (lg_sl ([.ref q])).length) Slot.unset).toArray = ls at hl ⊢
  have hl : lv_has ls 5 [(0, .ref q)] := hl
  have hS : va_S (fIv q 201) s.heap s.heap [] := va_S.rf
  have hP0 := hP
  have LP15 : ∀ (kk : GSt → Int64 → Option (Int64 × GSt)) (cX sX : Nat), cX ≤ 144 → sX ≤ 864 → ∀ (n cc ss : Nat) (S : GSt) (x1 : Int64) (x3 : Int32) (H : Heap) (locs : List Loc) (ls : Array Slot), cc + n * 1 ≤ cX → ss + n * 6 ≤ sX → fL_now_L15 kk n S x1 x3 = some R → (∀ (S : GSt) (y1 : Int64) (H : Heap) (locs : List Loc) (ls : Array Slot), kk S y1 = some R → va_P D vwCl (GW cI cC cZ cQ q S) H → va_S (fIv q 201) s.heap H locs → lv_has ls 5 [(0, .ref q), (1, .long y1)] → W p l e ({ frames := 9, cells := 144, slots := 864, locals := 145 } : Room) s m ([.ref q] : List Value).toArray below meth c H locs cX sX (MQ below (va_Ql (fun r (_ : Unit) => r = R.1) (fun _ t => va_P D vwCl (GW cI cC cZ cQ q R.2) t.heap) (fIv q 201)) ([.ref q] : List Value).toArray s 144 864 (fIv q 201)) (F0 m 43 ls [])) → va_P D vwCl (GW cI cC cZ cQ q S) H → va_S (fIv q 201) s.heap H locs → lv_has ls 5 [(0, .ref q), (1, .long x1), (3, .int x3)] → W p l e ({ frames := 9, cells := 144, slots := 864, locals := 145 } : Room) s m ([.ref q] : List Value).toArray below meth c H locs cc ss (MQ below (va_Ql (fun r (_ : Unit) => r = R.1) (fun _ t => va_P D vwCl (GW cI cC cZ cQ q R.2) t.heap) (fIv q 201)) ([.ref q] : List Value).toArray s 144 864 (fIv q 201)) (F0 m 15 ls []) := by
    intro kk cX sX hcX hsX n
    induction n with
    | zero => intro cc ss S x1 x3 H locs ls _ _ h hk hP hS hl; exact no_some h
    | succ n ih =>
      intro cc ss S x1 x3 H locs ls hcc hss h hk hP hS hl
      rw [fL_now_L15] at h
      refine lv_iload_n hx hb dL_now_15 rfl (lv_at hl 2 rfl) ?_
      refine lv_bipush (v := 13) hx hb dL_now_16 (by decide) ?_
      refine lv_icmp_ge (tgt := 43) hx hb dL_now_18 (by decide) (fun c2 => ?_) (fun c2 => ?_)
      · replace h := (if_pos c2).symm.trans h
        refine W.widen (k := cX) (n := sX) (by omega) (by omega) ?_
        exact hk S x1 H locs ls h hP hS (lv_sub hl [0, 1] rfl)
      · replace h := (if_neg c2).symm.trans h
        refine lv_ldc2 (v := 1009) hx hb hown (hts (.constantLong RL 118 (1009)) (by decide +kernel)) dL_now_21 ?_
        refine lv_lload_n hx hb dL_now_24 rfl (lv_at hl 1 rfl) ?_
        refine lv_lmul hx hb dL_now_25 ?_
        refine lv_aload_n hx hb dL_now_26 rfl (lv_at hl 0 rfl) ?_
        refine lv_iload_n hx hb dL_now_27 rfl (lv_at hl 2 rfl) ?_
        obtain ⟨r28, hr28, h⟩ := bd_some h
        refine gww_l (As := [.ref q, .int x3]) (rest := [.long (1009 * x1)]) (k2 := (cc + 1)) (n2 := (ss + 6)) ⟨hx, hb, hml, hown, hts⟩ (gEnw_now hE hS (fun _ h9 => Nat.le_trans hlo h9.1)) hK (kL_about l D cI cC cZ cQ cJ t lo q S x3 hlo hlS hr28) (vx_cwSW 2 hts gL_now_L_about rfl rfl rfl (by decide +kernel) ⟨Nat.le_of_ble_eq_true rfl, Nat.le_of_ble_eq_true rfl⟩) hP hS (fun _ h9 => h9) rfl hl.1 rfl (Nat.le_of_ble_eq_true rfl) ⟨by show _ ≤ (144 : Nat); omega, by show _ ≤ (864 : Nat); omega⟩ rfl rfl dL_now_28 (fun H1 locs hP1 hS hz1 hk1 => ?_)
        have hP : va_P D vwCl (GW cI cC cZ cQ q r28.2) H1 := hP1
        generalize H1 = H at hP hS ⊢
        refine lv_ladd hx hb dL_now_31 ?_
        refine lv_topl (fun yv3 eyv3 => ?_)
        rw [← eyv3] at h
        refine lv_ldc2 (v := 1000000007) hx hb hown (hts (.constantLong RL 120 (1000000007)) (by decide +kernel)) dL_now_32 ?_
        refine lv_lrem hx hb dL_now_35 (by decide) ?_
        refine lv_lstore_n (lv' := [(1, .long (yv3 - yv3 / 1000000007 * 1000000007)), (0, .ref q), (3, .int x3)]) hx hb dL_now_36 rfl hl (by decide) rfl (fun ls hl => ?_)
        refine lv_iinc (v := (x3 + 1)) (lv' := [(3, .int (x3 + 1)), (1, .long (yv3 - yv3 / 1000000007 * 1000000007)), (0, .ref q)]) hx hb dL_now_37 hl (k := 2) rfl rfl (by decide) rfl (fun ls hl => ?_)
        refine lv_goto (tgt := 15) hx hb dL_now_40 (by decide) ?_
        exact ih (cc + 1) (ss + 6) r28.2 (yv3 - yv3 / 1000000007 * 1000000007) (x3 + 1) H locs ls (by omega) (by omega) h hk hP hS (lv_sub hl [2, 1, 0] rfl)
  have LP56 : ∀ (kk : GSt → Int64 → Int32 → Option (Int64 × GSt)) (cX sX : Nat), cX ≤ 144 → sX ≤ 864 → ∀ (n cc ss : Nat) (S : GSt) (x1 : Int64) (x3 : Int32) (x4 : Int32) (H : Heap) (locs : List Loc) (ls : Array Slot), cc + n * 1 ≤ cX → ss + n * 6 ≤ sX → fL_now_L56 kk n S x1 x3 x4 = some R → (∀ (S : GSt) (y1 : Int64) (y3 : Int32) (H : Heap) (locs : List Loc) (ls : Array Slot), kk S y1 y3 = some R → va_P D vwCl (GW cI cC cZ cQ q S) H → va_S (fIv q 201) s.heap H locs → lv_has ls 5 [(0, .ref q), (1, .long y1), (3, .int y3)] → W p l e ({ frames := 9, cells := 144, slots := 864, locals := 145 } : Room) s m ([.ref q] : List Value).toArray below meth c H locs cX sX (MQ below (va_Ql (fun r (_ : Unit) => r = R.1) (fun _ t => va_P D vwCl (GW cI cC cZ cQ q R.2) t.heap) (fIv q 201)) ([.ref q] : List Value).toArray s 144 864 (fIv q 201)) (F0 m 91 ls [])) → va_P D vwCl (GW cI cC cZ cQ q S) H → va_S (fIv q 201) s.heap H locs → lv_has ls 5 [(0, .ref q), (1, .long x1), (3, .int x3), (4, .int x4)] → W p l e ({ frames := 9, cells := 144, slots := 864, locals := 145 } : Room) s m ([.ref q] : List Value).toArray below meth c H locs cc ss (MQ below (va_Ql (fun r (_ : Unit) => r = R.1) (fun _ t => va_P D vwCl (GW cI cC cZ cQ q R.2) t.heap) (fIv q 201)) ([.ref q] : List Value).toArray s 144 864 (fIv q 201)) (F0 m 56 ls []) := by
    intro kk cX sX hcX hsX n
    induction n with
    | zero => intro cc ss S x1 x3 x4 H locs ls _ _ h hk hP hS hl; exact no_some h
    | succ n ih =>
      intro cc ss S x1 x3 x4 H locs ls hcc hss h hk hP hS hl
      rw [fL_now_L56] at h
      refine lv_iload hx hb dL_now_56 (lv_at hl 3 rfl) ?_
      refine lv_bipush (v := 8) hx hb dL_now_58 (by decide) ?_
      refine lv_icmp_ge (tgt := 91) hx hb dL_now_60 (by decide) (fun c5 => ?_) (fun c5 => ?_)
      · replace h := (if_pos c5).symm.trans h
        refine W.widen (k := cX) (n := sX) (by omega) (by omega) ?_
        exact hk S x1 x3 H locs ls h hP hS (lv_sub hl [0, 1, 2] rfl)
      · replace h := (if_neg c5).symm.trans h
        refine lv_ldc2 (v := 1009) hx hb hown (hts (.constantLong RL 118 (1009)) (by decide +kernel)) dL_now_63 ?_
        refine lv_lload_n hx hb dL_now_66 rfl (lv_at hl 1 rfl) ?_
        refine lv_lmul hx hb dL_now_67 ?_
        refine lv_aload_n hx hb dL_now_68 rfl (lv_at hl 0 rfl) ?_
        refine lv_iload_n hx hb dL_now_69 rfl (lv_at hl 2 rfl) ?_
        refine lv_iload hx hb dL_now_70 (lv_at hl 3 rfl) ?_
        obtain ⟨r72, hr72, h⟩ := bd_some h
        refine gww_l (As := [.ref q, .int x3, .int x4]) (rest := [.long (1009 * x1)]) (k2 := (cc + 1)) (n2 := (ss + 6)) ⟨hx, hb, hml, hown, hts⟩ (gEnw_now hE hS (fun _ h9 => Nat.le_trans hlo h9.1)) hK (kL_grip l D cI cC cZ cQ cJ t lo q S x3 x4 hlo hlS hr72) (vx_cwSW 3 hts gL_now_L_grip rfl rfl rfl (by decide +kernel) ⟨Nat.le_of_ble_eq_true rfl, Nat.le_of_ble_eq_true rfl⟩) hP hS (fun _ h9 => h9) rfl hl.1 rfl (Nat.le_of_ble_eq_true rfl) ⟨by show _ ≤ (144 : Nat); omega, by show _ ≤ (864 : Nat); omega⟩ rfl rfl dL_now_72 (fun H1 locs hP1 hS hz1 hk1 => ?_)
        have hP : va_P D vwCl (GW cI cC cZ cQ q r72.2) H1 := hP1
        generalize H1 = H at hP hS ⊢
        refine lv_ladd hx hb dL_now_75 ?_
        refine lv_topl (fun yv6 eyv6 => ?_)
        rw [← eyv6] at h
        refine lv_ldc2 (v := 20) hx hb hown (hts (.constantLong RL 129 (20)) (by decide +kernel)) dL_now_76 ?_
        refine lv_ladd hx hb dL_now_79 ?_
        refine lv_topl (fun yv7 eyv7 => ?_)
        rw [← eyv7] at h
        refine lv_ldc2 (v := 1000000007) hx hb hown (hts (.constantLong RL 120 (1000000007)) (by decide +kernel)) dL_now_80 ?_
        refine lv_lrem hx hb dL_now_83 (by decide) ?_
        refine lv_lstore_n (lv' := [(1, .long (yv7 - yv7 / 1000000007 * 1000000007)), (0, .ref q), (3, .int x3), (4, .int x4)]) hx hb dL_now_84 rfl hl (by decide) rfl (fun ls hl => ?_)
        refine lv_iinc (v := (x4 + 1)) (lv' := [(4, .int (x4 + 1)), (1, .long (yv7 - yv7 / 1000000007 * 1000000007)), (0, .ref q), (3, .int x3)]) hx hb dL_now_85 hl (k := 3) rfl rfl (by decide) rfl (fun ls hl => ?_)
        refine lv_goto (tgt := 56) hx hb dL_now_88 (by decide) ?_
        exact ih (cc + 1) (ss + 6) r72.2 (yv7 - yv7 / 1000000007 * 1000000007) x3 (x4 + 1) H locs ls (by omega) (by omega) h hk hP hS (lv_sub hl [2, 1, 3, 0] rfl)
  have LP45 : ∀ (kk : GSt → Int64 → Option (Int64 × GSt)) (cX sX : Nat), cX ≤ 144 → sX ≤ 864 → ∀ (n cc ss : Nat) (S : GSt) (x1 : Int64) (x3 : Int32) (H : Heap) (locs : List Loc) (ls : Array Slot), cc + n * 10 ≤ cX → ss + n * 60 ≤ sX → fL_now_L45 kk n S x1 x3 = some R → (∀ (S : GSt) (y1 : Int64) (H : Heap) (locs : List Loc) (ls : Array Slot), kk S y1 = some R → va_P D vwCl (GW cI cC cZ cQ q S) H → va_S (fIv q 201) s.heap H locs → lv_has ls 5 [(1, .long y1)] → W p l e ({ frames := 9, cells := 144, slots := 864, locals := 145 } : Room) s m ([.ref q] : List Value).toArray below meth c H locs cX sX (MQ below (va_Ql (fun r (_ : Unit) => r = R.1) (fun _ t => va_P D vwCl (GW cI cC cZ cQ q R.2) t.heap) (fIv q 201)) ([.ref q] : List Value).toArray s 144 864 (fIv q 201)) (F0 m 97 ls [])) → va_P D vwCl (GW cI cC cZ cQ q S) H → va_S (fIv q 201) s.heap H locs → lv_has ls 5 [(0, .ref q), (1, .long x1), (3, .int x3)] → W p l e ({ frames := 9, cells := 144, slots := 864, locals := 145 } : Room) s m ([.ref q] : List Value).toArray below meth c H locs cc ss (MQ below (va_Ql (fun r (_ : Unit) => r = R.1) (fun _ t => va_P D vwCl (GW cI cC cZ cQ q R.2) t.heap) (fIv q 201)) ([.ref q] : List Value).toArray s 144 864 (fIv q 201)) (F0 m 45 ls []) := by
    intro kk cX sX hcX hsX n
    induction n with
    | zero => intro cc ss S x1 x3 H locs ls _ _ h hk hP hS hl; exact no_some h
    | succ n ih =>
      intro cc ss S x1 x3 H locs ls hcc hss h hk hP hS hl
      rw [fL_now_L45] at h
      refine lv_iload_n hx hb dL_now_45 rfl (lv_at hl 2 rfl) ?_
      refine lv_aload_n hx hb dL_now_46 rfl (lv_at hl 0 rfl) ?_
      obtain ⟨r47, hr47, h⟩ := bd_some h
      refine gws_i (As := [.ref q]) (rest := [.int x3]) (k2 := (cc + 1)) (n2 := (ss + 6)) ⟨hx, hb, hml, hown, hts⟩ (gEnw_now hE hS (fun _ h9 => Nat.le_trans hlo h9.1)) hK (kL_grips l D cI cC cZ cQ cJ t lo q S hlo hlS hr47) (va_cwS 1 hts gL_now_L_grips rfl rfl rfl (by decide +kernel) ⟨Nat.le_of_ble_eq_true rfl, Nat.le_of_ble_eq_true rfl⟩) hP hS (fun _ h9 => h9) rfl hl.1 rfl (Nat.le_of_ble_eq_true rfl) ⟨by show _ ≤ (144 : Nat); omega, by show _ ≤ (864 : Nat); omega⟩ rfl rfl dL_now_47 (fun H1 locs hP1 hS hz1 hk1 => ?_)
      have hP : va_P D vwCl (GW cI cC cZ cQ q r47.2) H1 := hP1
      generalize H1 = H at hP hS ⊢
      refine lv_icmp_ge (tgt := 97) hx hb dL_now_50 (by decide) (fun c4 => ?_) (fun c4 => ?_)
      · replace h := (if_pos c4).symm.trans h
        refine W.widen (k := cX) (n := sX) (by omega) (by omega) ?_
        exact hk r47.2 x1 H locs ls h hP hS (lv_sub hl [1] rfl)
      · replace h := (if_neg c4).symm.trans h
        refine lv_iconst (v := 0) hx hb dL_now_53 (by decide) ?_
        refine lv_istore (lv' := [(4, .int 0), (0, .ref q), (1, .long x1), (3, .int x3)]) hx hb dL_now_54 hl (by decide) rfl (fun ls hl => ?_)
        refine LP56 _ (cc + 10) (ss + 60) (by omega) (by omega) 9 (cc + 1) (ss + 6) r47.2 x1 x3 0 H locs ls (by omega) (by omega) h (fun S y1 y3 H locs ls h hP hS hl => ?_) hP hS (lv_sub hl [1, 2, 3, 0] rfl)
        refine lv_iinc (v := (y3 + 1)) (lv' := [(3, .int (y3 + 1)), (0, .ref q), (1, .long y1)]) hx hb dL_now_91 hl (k := 2) rfl rfl (by decide) rfl (fun ls hl => ?_)
        refine lv_goto (tgt := 45) hx hb dL_now_94 (by decide) ?_
        exact ih (cc + 10) (ss + 60) S y1 (y3 + 1) H locs ls (by omega) (by omega) h hk hP hS (lv_sub hl [1, 2, 0] rfl)
  unfold fL_now at h
  obtain ⟨H, hH⟩ : ∃ H, H = s.heap := ⟨_, rfl⟩
  obtain ⟨locs, hlz⟩ : ∃ z : List Loc, z = [] := ⟨_, rfl⟩
  have hP : va_P D vwCl (GW cI cC cZ cQ q G) H := by rw [hH]; exact hP
  have hS : va_S (fIv q 201) s.heap H locs := by rw [hH, hlz]; exact hS
  refine gc_at hH hlz ?_
  refine lv_ldc2 (v := 53) hx hb hown (hts (.constantLong RL 110 (53)) (by decide +kernel)) dL_now_0 ?_
  refine lv_aload_n hx hb dL_now_3 rfl (lv_at hl 0 rfl) ?_
  obtain ⟨r4, hr4, h⟩ := bd_some h
  refine gc_rl (As := []) (rest := [.long 53]) ⟨hx, hb, hml, hown, hts⟩ hK (kX4_random l D cI cC cZ cQ cJ q G hr4) (cwV 0 hts gL_now_X4_random rfl rfl rfl (by decide +kernel) ⟨Nat.le_of_ble_eq_true rfl, Nat.le_of_ble_eq_true rfl⟩) (va_recv hK hP (ci := 4) (q0 := 0) rfl rfl) hP rfl hl.1 rfl (Nat.le_of_ble_eq_true rfl) ⟨by show _ ≤ (144 : Nat); omega, by show _ ≤ (864 : Nat); omega⟩ dL_now_4 ?_
  refine lv_ldc2 (v := 1000003) hx hb hown (hts (.constantLong RL 116 (1000003)) (by decide +kernel)) dL_now_7 ?_
  refine lv_lrem hx hb dL_now_10 (by decide) ?_
  refine lv_ladd hx hb dL_now_11 ?_
  refine lv_topl (fun yv1 eyv1 => ?_)
  rw [← eyv1] at h
  refine lv_lstore_n (lv' := [(1, .long yv1), (0, .ref q)]) hx hb dL_now_12 rfl hl (by decide) rfl (fun ls hl => ?_)
  refine lv_iconst (v := 0) hx hb dL_now_13 (by decide) ?_
  refine lv_istore_n (lv' := [(3, .int 0), (1, .long yv1), (0, .ref q)]) hx hb dL_now_14 rfl hl (by decide) rfl (fun ls hl => ?_)
  refine LP15 _ 14 84 (by omega) (by omega) 14 0 0 G yv1 0 H locs ls (by omega) (by omega) h (fun S y1 H locs ls h hP hS hl => ?_) hP hS (lv_sub hl [2, 1, 0] rfl)
  refine lv_iconst (v := 0) hx hb dL_now_43 (by decide) ?_
  refine lv_istore_n (lv' := [(3, .int 0), (0, .ref q), (1, .long y1)]) hx hb dL_now_44 rfl hl (by decide) rfl (fun ls hl => ?_)
  refine LP45 _ 144 864 (by omega) (by omega) 13 14 84 S y1 0 H locs ls (by omega) (by omega) h (fun S y1 H locs ls h hP hS hl => ?_) hP hS (lv_sub hl [1, 2, 0] rfl)
  refine lv_lload_n hx hb dL_now_97 rfl (lv_at hl 0 rfl) ?_
  refine W.widen (k := 144) (n := 864) (by omega) (by omega) ?_
  have h := Option.some.inj h
  subst h
  exact W.lret (v := y1) hx hb hr (fun t ht hW => ⟨⟨_, (), rfl, rfl, gh ht hP⟩, hS.F ht⟩) hS.2.2 dL_now_98

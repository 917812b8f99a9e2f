set_option maxHeartbeats 16000000 in
set_option maxRecDepth 100000 in
theorem kL_built (l : Launch) (D : va_G) (cI cC cZ cQ cJ : ClassId) (t lo : Nat) (q : Nat) (G : GSt) (hlo : lo ≤ q) (hlS : l.stackTraces = false) {R : GSt} (h : fL_built G = some R) : Met l yL_built wsL_built ({ frames := 9, cells := 1173, slots := 7036, locals := 150 } : Room) (va_Pc [.ref q] (gBwC D (gTy cI cC cZ cQ cJ) t lo (va_P D vwCl (GW cI cC cZ cQ q G)))) (va_Qi (fun r (_ : Unit) => r = 1) (fun _ t => va_P D vwCl (GW cI cC cZ cQ q R) t.heap) (fIv q 201)) 1173 7036 (fIv q 201) := by
  refine Met.ofW (cc := cL_built) (maxL := 18) (ret := (some .boolean)) (by decide) rfl ?_
  intro p e s m args below meth c s₁ B hml hv
  obtain ⟨rfl, ⟨hP, hK⟩, hE⟩ := hv
  obtain ⟨hE, hCa, hCh⟩ := hE
  have hx := B.exec
  have hb := B.bytes
  have hr := B.returns
  have hts := atoms_spec (ws := wsL_built) B.pre
  have hown : s.vm.findClass RL = some m.cls := findClass_of_methodNamed B.named
  generalize hRM : (headSpec wsL_built ({ frames := 9, cells := 1173, slots := 7036, locals := 150 } : Room)).room = RM
  replace hRM : ({ frames := 9, cells := 1173, slots := 7036, locals := 150 } : Room) = RM := hRM
  subst hRM
  have hl := lv_entry ([.ref q]) (n := 18) (Nat.le_of_ble_eq_true rfl)
  rw [lg_entry_eq]
  generalize (lg_sl ([.ref q]) ++ List.replicate (18 - (lg_sl ([.ref q])).length) Slot.unset).toArray = ls at hl ⊢
  have hl : lv_has ls 18 [(0, .ref q)] := hl
  have hS : va_S (fIv q 201) s.heap s.heap [] := va_S.rf
  have hP0 := hP
  unfold fL_built at h
  obtain ⟨H, hH⟩ : ∃ H, H = s.heap := ⟨_, rfl⟩
  obtain ⟨locs, hlz⟩ : ∃ z : List Loc, z = [] := ⟨_, rfl⟩
  have hP : va_P D vwCl (GW cI cC cZ cQ q G) H := by rw [hH]; exact hP
  have hS : va_S (fIv q 201) s.heap H locs := by rw [hH, hlz]; exact hS
  refine gc_at hH hlz ?_
  refine lv_aload_n hx hb dL_built_0 rfl (lv_at hl 0 rfl) ?_
  refine lv_iconst (v := 0) hx hb dL_built_1 (by decide) ?_
  obtain ⟨r2, hr2, h⟩ := bd_some h
  refine gww_l (As := [.ref q, .int 0]) (rest := []) (k2 := 1) (n2 := 6) ⟨hx, hb, hml, hown, hts⟩ (gEnw_now hE hS (fun _ h9 => Nat.le_trans hlo h9.1)) hK (kL_about l D cI cC cZ cQ cJ t lo q G 0 hlo hlS hr2) (vx_cwSW 2 hts gL_built_L_about rfl rfl rfl (by decide +kernel) ⟨Nat.le_of_ble_eq_true rfl, Nat.le_of_ble_eq_true rfl⟩) hP hS (fun _ h9 => h9) rfl hl.1 rfl (Nat.le_of_ble_eq_true rfl) ⟨by show _ ≤ (1173 : Nat); omega, by show _ ≤ (7036 : Nat); omega⟩ rfl rfl dL_built_2 (fun H1 locs hP1 hS hz1 hk1 => ?_)
  have hP : va_P D vwCl (GW cI cC cZ cQ q r2.2) H1 := hP1
  generalize H1 = H at hP hS ⊢
  refine lv_l2i hx hb dL_built_5 rfl ?_
  refine lv_istore_n (lv' := [(1, .int ((r2.1).toInt32)), (0, .ref q)]) hx hb dL_built_6 rfl hl (by decide) rfl (fun ls hl => ?_)
  refine lv_aload_n hx hb dL_built_7 rfl (lv_at hl 1 rfl) ?_
  obtain ⟨r8, hr8, h⟩ := bd_some h
  refine gws_i (As := [.ref q]) (rest := []) (k2 := 2) (n2 := 12) ⟨hx, hb, hml, hown, hts⟩ (gEnw_now hE hS (fun _ h9 => Nat.le_trans hlo h9.1)) hK (kL_grips l D cI cC cZ cQ cJ t lo q r2.2 hlo hlS hr8) (va_cwS 1 hts gL_built_L_grips rfl rfl rfl (by decide +kernel) ⟨Nat.le_of_ble_eq_true rfl, Nat.le_of_ble_eq_true rfl⟩) hP hS (fun _ h9 => h9) rfl hl.1 rfl (Nat.le_of_ble_eq_true rfl) ⟨by show _ ≤ (1173 : Nat); omega, by show _ ≤ (7036 : Nat); omega⟩ rfl rfl dL_built_8 (fun H1 locs hP1 hS hz1 hk1 => ?_)
  have hP : va_P D vwCl (GW cI cC cZ cQ q r8.2) H1 := hP1
  generalize H1 = H at hP hS ⊢
  refine lv_istore_n (lv' := [(2, .int r8.1), (1, .int ((r2.1).toInt32)), (0, .ref q)]) hx hb dL_built_11 rfl hl (by decide) rfl (fun ls hl => ?_)
  refine lv_iconst (v := 4) hx hb dL_built_12 (by decide) ?_
  refine va_newa (atype := .int) (ty := .int) (N' := 4) (a0 := (4, .inl (fun _ => 0))) hx hb (hts (.arrayClass .int) (by decide +kernel)) rfl hK hP (GW_self (sz := s.heap.size)) (gN_NA hS) (fun _ h9 => Or.inr h9) (fun _ => rfl) (by decide) (by decide) (Nat.le_of_ble_eq_true rfl) (Nat.le_of_ble_eq_true rfl) (Nat.le_of_ble_eq_true rfl) dL_built_13 (fun w cA9 H hK9 hP hD9 hS => ?_)
  obtain rfl : cI = cA9 := g_ci (hK.2 0 _ rfl).2 (hK9.2 4 _ rfl).2
  clear hK9
  refine W.widen (k := 3) (n := 16) (by omega) (by omega) ?_
  obtain ⟨hqw, hqs⟩ := gNA_facts hP0 hD9
  have LP33 : ∀ (kk : (GSt × RI) → Int32 → Int32 → Int64 → Int64 → Int32 → Option GSt) (cX sX : Nat), cX ≤ 1173 → sX ≤ 7036 → ∀ (n cc ss : Nat) (S : (GSt × RI)) (x1 : Int32) (x2 : Int32) (x4 : Int64) (x6 : Int64) (x8 : Int32) (x10 : Int32) (H : Heap) (locs : List Loc) (ls : Array Slot), cc + n * 23 ≤ cX → ss + n * 138 ≤ sX → fL_built_L33 kk n S x1 x2 x4 x6 x8 x10 = some R → (∀ (S : (GSt × RI)) (y1 : Int32) (y2 : Int32) (y4 : Int64) (y6 : Int64) (y8 : Int32) (H : Heap) (locs : List Loc) (ls : Array Slot), kk S y1 y2 y4 y6 y8 = some R → va_P D vwCl (GAW cI cC cZ cQ q w S) H → va_S (fG q s.heap.size) s.heap H locs → lv_has ls 18 [(0, .ref q), (1, .int y1), (2, .int y2), (3, .ref w), (4, .long y4), (6, .long y6), (8, .int y8), (9, .int 1)] → W p l e ({ frames := 9, cells := 1173, slots := 7036, locals := 150 } : Room) s m ([.ref q] : List Value).toArray below meth c H locs cX sX (MQ below (va_Qi (fun r (_ : Unit) => r = 1) (fun _ t => va_P D vwCl (GW cI cC cZ cQ q R) t.heap) (fIv q 201)) ([.ref q] : List Value).toArray s 1173 7036 (fIv q 201)) (F0 m 678 ls [])) → va_P D vwCl (GAW cI cC cZ cQ q w S) H → va_S (fG q s.heap.size) s.heap H locs → lv_has ls 18 [(0, .ref q), (1, .int x1), (2, .int x2), (3, .ref w), (4, .long x4), (6, .long x6), (8, .int x8), (9, .int 1), (10, .int x10)] → W p l e ({ frames := 9, cells := 1173, slots := 7036, locals := 150 } : Room) s m ([.ref q] : List Value).toArray below meth c H locs cc ss (MQ below (va_Qi (fun r (_ : Unit) => r = 1) (fun _ t => va_P D vwCl (GW cI cC cZ cQ q R) t.heap) (fIv q 201)) ([.ref q] : List Value).toArray s 1173 7036 (fIv q 201)) (F0 m 33 ls []) := by
    intro kk cX sX hcX hsX n
    induction n with
    | zero => intro cc ss S x1 x2 x4 x6 x8 x10 H locs ls _ _ h hk hP hS hl; exact no_some h
    | succ n ih =>
      intro cc ss S x1 x2 x4 x6 x8 x10 H locs ls hcc hss h hk hP hS hl
      rw [fL_built_L33] at h
      refine lv_iload hx hb dL_built_33 (lv_at hl 8 rfl) ?_
      refine lv_iload_n hx hb dL_built_35 rfl (lv_at hl 2 rfl) ?_
      refine lv_icmp_ge (tgt := 678) hx hb dL_built_36 (by decide) (fun c1 => ?_) (fun c1 => ?_)
      · replace h := (if_pos c1).symm.trans h
        refine W.widen (k := cX) (n := sX) (by omega) (by omega) ?_
        exact hk S x1 x2 x4 x6 x8 H locs ls h hP hS (lv_sub hl [0, 1, 2, 3, 4, 5, 6, 7] rfl)
      · replace h := (if_neg c1).symm.trans h
        refine lv_iload hx hb dL_built_39 (lv_at hl 7 rfl) ?_
        refine lv_if_eq (tgt := 678) hx hb dL_built_41 (by decide) (fun c => absurd c (by decide)) (fun _ => ?_)
        refine lv_aload_n hx hb dL_built_44 rfl (lv_at hl 0 rfl) ?_
        refine lv_iload hx hb dL_built_45 (lv_at hl 8 rfl) ?_
        refine lv_iconst (v := 5) hx hb dL_built_47 (by decide) ?_
        obtain ⟨r48, hr48, h⟩ := bd_some h
        refine gww_l (As := [.ref q, .int x10, .int 5]) (rest := []) (k2 := (cc + 1)) (n2 := (ss + 6)) ⟨hx, hb, hml, hown, hts⟩ (gEnw_now hE hS (fG_lo hlo hqs)) hK (kL_grip l D cI cC cZ cQ cJ t lo q (bI S) x10 5 hlo hlS hr48) (vx_cwSW 3 hts gL_built_L_grip rfl rfl rfl (by decide +kernel) ⟨Nat.le_of_ble_eq_true rfl, Nat.le_of_ble_eq_true rfl⟩) (gL hP) hS (fun _ h9 => Or.inl h9) rfl hl.1 rfl (Nat.le_of_ble_eq_true rfl) ⟨by show _ ≤ (1173 : Nat); omega, by show _ ≤ (7036 : Nat); omega⟩ rfl rfl dL_built_48 (fun H1 locs hP1 hS hz1 hk1 => ?_)
        have hP : va_P D vwCl (GAW cI cC cZ cQ q w (r48.2, (bF S))) H1 := GAW_G (X := S) hqw hP hP1 hk1
        generalize H1 = H at hP hS ⊢
        refine lv_l2i hx hb dL_built_51 rfl ?_
        refine lv_istore (lv' := [(11, .int ((r48.1).toInt32)), (0, .ref q), (1, .int x1), (2, .int x2), (3, .ref w), (4, .long x4), (6, .long x6), (8, .int x8), (9, .int 1), (10, .int x10)]) hx hb dL_built_52 hl (by decide) rfl (fun ls hl => ?_)
        refine lv_aload_n hx hb dL_built_54 rfl (lv_at hl 1 rfl) ?_
        refine lv_iload hx hb dL_built_55 (lv_at hl 9 rfl) ?_
        refine lv_bipush (v := 6) hx hb dL_built_57 (by decide) ?_
        obtain ⟨r59, hr59, h⟩ := bd_some h
        refine gww_l (As := [.ref q, .int x10, .int 6]) (rest := []) (k2 := (cc + 2)) (n2 := (ss + 12)) ⟨hx, hb, hml, hown, hts⟩ (gEnw_now hE hS (fG_lo hlo hqs)) hK (kL_grip l D cI cC cZ cQ cJ t lo q r48.2 x10 6 hlo hlS hr59) (vx_cwSW 3 hts gL_built_L_grip rfl rfl rfl (by decide +kernel) ⟨Nat.le_of_ble_eq_true rfl, Nat.le_of_ble_eq_true rfl⟩) (gL hP) hS (fun _ h9 => Or.inl h9) rfl hl.1 rfl (Nat.le_of_ble_eq_true rfl) ⟨by show _ ≤ (1173 : Nat); omega, by show _ ≤ (7036 : Nat); omega⟩ rfl rfl dL_built_59 (fun H1 locs hP1 hS hz1 hk1 => ?_)
        have hP : va_P D vwCl (GAW cI cC cZ cQ q w (r59.2, (bF S))) H1 := GAW_G (X := (r48.2, (bF S))) hqw hP hP1 hk1
        generalize H1 = H at hP hS ⊢
        refine lv_lstore (lv' := [(12, .long r59.1), (11, .int ((r48.1).toInt32)), (0, .ref q), (1, .int x1), (2, .int x2), (3, .ref w), (4, .long x4), (6, .long x6), (8, .int x8), (9, .int 1), (10, .int x10)]) hx hb dL_built_62 hl (by decide) rfl (fun ls hl => ?_)
        refine lv_iload hx hb dL_built_64 (lv_at hl 1 rfl) ?_
        refine lv_i2l hx hb dL_built_66 rfl ?_
        refine lv_lconst (v := 0) hx hb dL_built_67 (by decide) ?_
        refine lv_ldc2 (v := 3) hx hb hown (hts (.constantLong RL 195 (3)) (by decide +kernel)) dL_built_68 ?_
        obtain ⟨r71, hr71, h⟩ := bd_some h
        refine gc_si (As := [.long ((((r48.1).toInt32)).toInt64), .long 0, .long 3]) (rest := []) (B := fun _ => True) ⟨hx, hb, hml, hown, hts⟩ hK (kL_in l D cI cC cZ cQ cJ ((((r48.1).toInt32)).toInt64) 0 3 hr71) (va_cwS 3 hts gL_built_L_in rfl rfl rfl (by decide +kernel) ⟨Nat.le_of_ble_eq_true rfl, Nat.le_of_ble_eq_true rfl⟩) trivial rfl hl.1 rfl (Nat.le_of_ble_eq_true rfl) ⟨by show _ ≤ (1173 : Nat); omega, by show _ ≤ (7036 : Nat); omega⟩ dL_built_71 ?_
        refine lv_if_eq (tgt := 263) hx hb dL_built_74 (by decide) (fun c2 => ?_) (fun c2 => ?_)
        · replace h := (if_pos c2).symm.trans h
          exact no_some h
        · replace h := (if_neg c2).symm.trans h
          refine lv_aload_n hx hb dL_built_77 rfl (lv_at hl 2 rfl) ?_
          refine lv_iload hx hb dL_built_78 (lv_at hl 10 rfl) ?_
          refine lv_iconst (v := 0) hx hb dL_built_80 (by decide) ?_
          obtain ⟨r81, hr81, h⟩ := bd_some h
          refine gww_l (As := [.ref q, .int x10, .int 0]) (rest := []) (k2 := (cc + 3)) (n2 := (ss + 18)) ⟨hx, hb, hml, hown, hts⟩ (gEnw_now hE hS (fG_lo hlo hqs)) hK (kL_grip l D cI cC cZ cQ cJ t lo q r59.2 x10 0 hlo hlS hr81) (vx_cwSW 3 hts gL_built_L_grip rfl rfl rfl (by decide +kernel) ⟨Nat.le_of_ble_eq_true rfl, Nat.le_of_ble_eq_true rfl⟩) (gL hP) hS (fun _ h9 => Or.inl h9) rfl hl.1 rfl (Nat.le_of_ble_eq_true rfl) ⟨by show _ ≤ (1173 : Nat); omega, by show _ ≤ (7036 : Nat); omega⟩ rfl rfl dL_built_81 (fun H1 locs hP1 hS hz1 hk1 => ?_)
          have hP : va_P D vwCl (GAW cI cC cZ cQ q w (r81.2, (bF S))) H1 := GAW_G (X := (r59.2, (bF S))) hqw hP hP1 hk1
          generalize H1 = H at hP hS ⊢
          refine lv_lconst (v := 0) hx hb dL_built_84 (by decide) ?_
          refine lv_ldc2 (v := 3) hx hb hown (hts (.constantLong RL 195 (3)) (by decide +kernel)) dL_built_85 ?_
          obtain ⟨r88, hr88, h⟩ := bd_some h
          refine gc_si (As := [.long r81.1, .long 0, .long 3]) (rest := []) (B := fun _ => True) ⟨hx, hb, hml, hown, hts⟩ hK (kL_in l D cI cC cZ cQ cJ r81.1 0 3 hr88) (va_cwS 3 hts gL_built_L_in rfl rfl rfl (by decide +kernel) ⟨Nat.le_of_ble_eq_true rfl, Nat.le_of_ble_eq_true rfl⟩) trivial rfl hl.1 rfl (Nat.le_of_ble_eq_true rfl) ⟨by show _ ≤ (1173 : Nat); omega, by show _ ≤ (7036 : Nat); omega⟩ dL_built_88 ?_
          refine lv_if_eq (tgt := 263) hx hb dL_built_91 (by decide) (fun c3 => ?_) (fun c3 => ?_)
          · replace h := (if_pos c3).symm.trans h
            exact no_some h
          · replace h := (if_neg c3).symm.trans h
            refine lv_aload_n hx hb dL_built_94 rfl (lv_at hl 2 rfl) ?_
            refine lv_iload hx hb dL_built_95 (lv_at hl 10 rfl) ?_
            refine lv_iconst (v := 1) hx hb dL_built_97 (by decide) ?_
            obtain ⟨r98, hr98, h⟩ := bd_some h
            refine gww_l (As := [.ref q, .int x10, .int 1]) (rest := []) (k2 := (cc + 4)) (n2 := (ss + 24)) ⟨hx, hb, hml, hown, hts⟩ (gEnw_now hE hS (fG_lo hlo hqs)) hK (kL_grip l D cI cC cZ cQ cJ t lo q r81.2 x10 1 hlo hlS hr98) (vx_cwSW 3 hts gL_built_L_grip rfl rfl rfl (by decide +kernel) ⟨Nat.le_of_ble_eq_true rfl, Nat.le_of_ble_eq_true rfl⟩) (gL hP) hS (fun _ h9 => Or.inl h9) rfl hl.1 rfl (Nat.le_of_ble_eq_true rfl) ⟨by show _ ≤ (1173 : Nat); omega, by show _ ≤ (7036 : Nat); omega⟩ rfl rfl dL_built_98 (fun H1 locs hP1 hS hz1 hk1 => ?_)
            have hP : va_P D vwCl (GAW cI cC cZ cQ q w (r98.2, (bF S))) H1 := GAW_G (X := (r81.2, (bF S))) hqw hP hP1 hk1
            generalize H1 = H at hP hS ⊢
            refine lv_lconst (v := 0) hx hb dL_built_101 (by decide) ?_
            refine W.lcmp hx hb dL_built_102 ?_
            refine lv_if_lt (tgt := 263) hx hb dL_built_103 (by decide) (fun c4 => ?_) (fun c4 => ?_)
            · replace h := (if_pos c4).symm.trans h
              exact no_some h
            · replace h := (if_neg c4).symm.trans h
              refine lv_aload_n hx hb dL_built_106 rfl (lv_at hl 2 rfl) ?_
              refine lv_iload hx hb dL_built_107 (lv_at hl 10 rfl) ?_
              refine lv_iconst (v := 2) hx hb dL_built_109 (by decide) ?_
              obtain ⟨r110, hr110, h⟩ := bd_some h
              refine gww_l (As := [.ref q, .int x10, .int 2]) (rest := []) (k2 := (cc + 5)) (n2 := (ss + 30)) ⟨hx, hb, hml, hown, hts⟩ (gEnw_now hE hS (fG_lo hlo hqs)) hK (kL_grip l D cI cC cZ cQ cJ t lo q r98.2 x10 2 hlo hlS hr110) (vx_cwSW 3 hts gL_built_L_grip rfl rfl rfl (by decide +kernel) ⟨Nat.le_of_ble_eq_true rfl, Nat.le_of_ble_eq_true rfl⟩) (gL hP) hS (fun _ h9 => Or.inl h9) rfl hl.1 rfl (Nat.le_of_ble_eq_true rfl) ⟨by show _ ≤ (1173 : Nat); omega, by show _ ≤ (7036 : Nat); omega⟩ rfl rfl dL_built_110 (fun H1 locs hP1 hS hz1 hk1 => ?_)
              have hP : va_P D vwCl (GAW cI cC cZ cQ q w (r110.2, (bF S))) H1 := GAW_G (X := (r98.2, (bF S))) hqw hP hP1 hk1
              generalize H1 = H at hP hS ⊢
              refine lv_aload_n hx hb dL_built_113 rfl (lv_at hl 2 rfl) ?_
              refine lv_iload hx hb dL_built_114 (lv_at hl 10 rfl) ?_
              refine lv_iconst (v := 1) hx hb dL_built_116 (by decide) ?_
              obtain ⟨r117, hr117, h⟩ := bd_some h
              refine gww_l (As := [.ref q, .int x10, .int 1]) (rest := [.long r110.1]) (k2 := (cc + 6)) (n2 := (ss + 36)) ⟨hx, hb, hml, hown, hts⟩ (gEnw_now hE hS (fG_lo hlo hqs)) hK (kL_grip l D cI cC cZ cQ cJ t lo q r110.2 x10 1 hlo hlS hr117) (vx_cwSW 3 hts gL_built_L_grip rfl rfl rfl (by decide +kernel) ⟨Nat.le_of_ble_eq_true rfl, Nat.le_of_ble_eq_true rfl⟩) (gL hP) hS (fun _ h9 => Or.inl h9) rfl hl.1 rfl (Nat.le_of_ble_eq_true rfl) ⟨by show _ ≤ (1173 : Nat); omega, by show _ ≤ (7036 : Nat); omega⟩ rfl rfl dL_built_117 (fun H1 locs hP1 hS hz1 hk1 => ?_)
              have hP : va_P D vwCl (GAW cI cC cZ cQ q w (r117.2, (bF S))) H1 := GAW_G (X := (r110.2, (bF S))) hqw hP hP1 hk1
              generalize H1 = H at hP hS ⊢
              refine lv_lconst (v := 1) hx hb dL_built_120 (by decide) ?_
              refine lv_aload_n hx hb dL_built_121 rfl (lv_at hl 2 rfl) ?_
              refine lv_iload hx hb dL_built_122 (lv_at hl 10 rfl) ?_
              refine lv_iconst (v := 0) hx hb dL_built_124 (by decide) ?_
              obtain ⟨r125, hr125, h⟩ := bd_some h
              refine gww_l (As := [.ref q, .int x10, .int 0]) (rest := [.long 1, .long r117.1, .long r110.1]) (k2 := (cc + 7)) (n2 := (ss + 42)) ⟨hx, hb, hml, hown, hts⟩ (gEnw_now hE hS (fG_lo hlo hqs)) hK (kL_grip l D cI cC cZ cQ cJ t lo q r117.2 x10 0 hlo hlS hr125) (vx_cwSW 3 hts gL_built_L_grip rfl rfl rfl (by decide +kernel) ⟨Nat.le_of_ble_eq_true rfl, Nat.le_of_ble_eq_true rfl⟩) (gL hP) hS (fun _ h9 => Or.inl h9) rfl hl.1 rfl (Nat.le_of_ble_eq_true rfl) ⟨by show _ ≤ (1173 : Nat); omega, by show _ ≤ (7036 : Nat); omega⟩ rfl rfl dL_built_125 (fun H1 locs hP1 hS hz1 hk1 => ?_)
              have hP : va_P D vwCl (GAW cI cC cZ cQ q w (r125.2, (bF S))) H1 := GAW_G (X := (r117.2, (bF S))) hqw hP hP1 hk1
              generalize H1 = H at hP hS ⊢
              refine lv_ladd hx hb dL_built_128 ?_
              refine lv_topl (fun yv5 eyv5 => ?_)
              rw [← eyv5] at h
              refine lv_lmul hx hb dL_built_129 ?_
              refine W.lcmp hx hb dL_built_130 ?_
              refine lv_if_ne (tgt := 263) hx hb dL_built_131 (by decide) (fun c6 => ?_) (fun c6 => ?_)
              · replace h := (if_neg c6).symm.trans h
                exact no_some h
              · replace h := (if_pos c6).symm.trans h
                refine lv_aload_n hx hb dL_built_134 rfl (lv_at hl 2 rfl) ?_
                refine lv_iload hx hb dL_built_135 (lv_at hl 10 rfl) ?_
                refine lv_iconst (v := 3) hx hb dL_built_137 (by decide) ?_
                obtain ⟨r138, hr138, h⟩ := bd_some h
                refine gww_l (As := [.ref q, .int x10, .int 3]) (rest := []) (k2 := (cc + 8)) (n2 := (ss + 48)) ⟨hx, hb, hml, hown, hts⟩ (gEnw_now hE hS (fG_lo hlo hqs)) hK (kL_grip l D cI cC cZ cQ cJ t lo q r125.2 x10 3 hlo hlS hr138) (vx_cwSW 3 hts gL_built_L_grip rfl rfl rfl (by decide +kernel) ⟨Nat.le_of_ble_eq_true rfl, Nat.le_of_ble_eq_true rfl⟩) (gL hP) hS (fun _ h9 => Or.inl h9) rfl hl.1 rfl (Nat.le_of_ble_eq_true rfl) ⟨by show _ ≤ (1173 : Nat); omega, by show _ ≤ (7036 : Nat); omega⟩ rfl rfl dL_built_138 (fun H1 locs hP1 hS hz1 hk1 => ?_)
                have hP : va_P D vwCl (GAW cI cC cZ cQ q w (r138.2, (bF S))) H1 := GAW_G (X := (r125.2, (bF S))) hqw hP hP1 hk1
                generalize H1 = H at hP hS ⊢
                refine lv_lconst (v := 0) hx hb dL_built_141 (by decide) ?_
                refine W.lcmp hx hb dL_built_142 ?_
                obtain ⟨a151_7, haa151_7, h⟩ := bd_some h
                have JJ151 : ∀ (H : Heap) (locs : List Loc) (ls : Array Slot), va_P D vwCl (GAW cI cC cZ cQ q w (r138.2, (bF S))) H → va_S (fG q s.heap.size) s.heap H locs → lv_has ls 18 [(0, .ref q), (1, .int x1), (2, .int x2), (3, .ref w), (4, .long x4), (6, .long x6), (8, .int x8), (10, .int x10), (11, .int ((r48.1).toInt32)), (12, .long r59.1)] → W p l e ({ frames := 9, cells := 1173, slots := 7036, locals := 150 } : Room) s m ([.ref q] : List Value).toArray below meth c H locs (cc + 8) (ss + 48) (MQ below (va_Qi (fun r (_ : Unit) => r = 1) (fun _ t => va_P D vwCl (GW cI cC cZ cQ q R) t.heap) (fIv q 201)) ([.ref q] : List Value).toArray s 1173 7036 (fIv q 201)) (F0 m 151 ls [.int a151_7]) := by
                  intro H locs ls hP hS hl
                  refine lv_aload_n hx hb dL_built_151 rfl (lv_at hl 0 rfl) ?_
                  refine lv_iload hx hb dL_built_152 (lv_at hl 7 rfl) ?_
                  refine lv_iconst (v := 4) hx hb dL_built_154 (by decide) ?_
                  obtain ⟨r155, hr155, h⟩ := bd_some h
                  refine gww_l (As := [.ref q, .int x10, .int 4]) (rest := [.int a151_7]) (k2 := (cc + 9)) (n2 := (ss + 54)) ⟨hx, hb, hml, hown, hts⟩ (gEnw_now hE hS (fG_lo hlo hqs)) hK (kL_grip l D cI cC cZ cQ cJ t lo q r138.2 x10 4 hlo hlS hr155) (vx_cwSW 3 hts gL_built_L_grip rfl rfl rfl (by decide +kernel) ⟨Nat.le_of_ble_eq_true rfl, Nat.le_of_ble_eq_true rfl⟩) (gL hP) hS (fun _ h9 => Or.inl h9) rfl hl.1 rfl (Nat.le_of_ble_eq_true rfl) ⟨by show _ ≤ (1173 : Nat); omega, by show _ ≤ (7036 : Nat); omega⟩ rfl rfl dL_built_155 (fun H1 locs hP1 hS hz1 hk1 => ?_)
                  have hP : va_P D vwCl (GAW cI cC cZ cQ q w (r155.2, (bF S))) H1 := GAW_G (X := (r138.2, (bF S))) hqw hP hP1 hk1
                  generalize H1 = H at hP hS ⊢
                  refine lv_ldc2 (v := (-9)) hx hb hown (hts (.constantLong RL 193 (-9)) (by decide +kernel)) dL_built_158 ?_
                  refine W.lcmp hx hb dL_built_161 ?_
                  obtain ⟨a170_9, haa170_9, h⟩ := bd_some h
                  have JJ170 : ∀ (H : Heap) (locs : List Loc) (ls : Array Slot), va_P D vwCl (GAW cI cC cZ cQ q w (r155.2, (bF S))) H → va_S (fG q s.heap.size) s.heap H locs → lv_has ls 18 [(0, .ref q), (1, .int x1), (2, .int x2), (3, .ref w), (4, .long x4), (6, .long x6), (8, .int x8), (10, .int x10), (11, .int ((r48.1).toInt32)), (12, .long r59.1)] → W p l e ({ frames := 9, cells := 1173, slots := 7036, locals := 150 } : Room) s m ([.ref q] : List Value).toArray below meth c H locs (cc + 9) (ss + 54) (MQ below (va_Qi (fun r (_ : Unit) => r = 1) (fun _ t => va_P D vwCl (GW cI cC cZ cQ q R) t.heap) (fIv q 201)) ([.ref q] : List Value).toArray s 1173 7036 (fIv q 201)) (F0 m 170 ls [.int a170_9, .int a151_7]) := by
                    intro H locs ls hP hS hl
                    refine lv_icmp_ne (tgt := 263) hx hb dL_built_170 (by decide) (fun c11 => ?_) (fun c11 => ?_)
                    · replace h := (if_neg c11).symm.trans h
                      exact no_some h
                    · replace h := (if_pos c11).symm.trans h
                      refine lv_iload hx hb dL_built_173 (lv_at hl 8 rfl) ?_
                      obtain ⟨a217_15, haa217_15, h⟩ := bd_some h
                      have JJ217 : ∀ (H : Heap) (locs : List Loc) (ls : Array Slot), va_P D vwCl (GAW cI cC cZ cQ q w a217_15) H → va_S (fG q s.heap.size) s.heap H locs → lv_has ls 18 [(0, .ref q), (1, .int x1), (2, .int x2), (3, .ref w), (4, .long x4), (6, .long x6), (8, .int x8), (10, .int x10), (11, .int ((r48.1).toInt32)), (12, .long r59.1)] → W p l e ({ frames := 9, cells := 1173, slots := 7036, locals := 150 } : Room) s m ([.ref q] : List Value).toArray below meth c H locs (cc + 10) (ss + 60) (MQ below (va_Qi (fun r (_ : Unit) => r = 1) (fun _ t => va_P D vwCl (GW cI cC cZ cQ q R) t.heap) (fIv q 201)) ([.ref q] : List Value).toArray s 1173 7036 (fIv q 201)) (F0 m 217 ls []) := by
                        intro H locs ls hP hS hl
                        refine lv_iload hx hb dL_built_217 (lv_at hl 8 rfl) ?_
                        refine lv_iconst (v := 2) hx hb dL_built_219 (by decide) ?_
                        obtain ⟨a259_19, haa259_19, h⟩ := bd_some h
                        have JJ259 : ∀ (H : Heap) (locs : List Loc) (ls : Array Slot), va_P D vwCl (GAW cI cC cZ cQ q w a259_19) H → va_S (fG q s.heap.size) s.heap H locs → lv_has ls 18 [(0, .ref q), (1, .int x1), (2, .int x2), (3, .ref w), (4, .long x4), (6, .long x6), (8, .int x8), (10, .int x10), (11, .int ((r48.1).toInt32)), (12, .long r59.1)] → W p l e ({ frames := 9, cells := 1173, slots := 7036, locals := 150 } : Room) s m ([.ref q] : List Value).toArray below meth c H locs (cc + 11) (ss + 66) (MQ below (va_Qi (fun r (_ : Unit) => r = 1) (fun _ t => va_P D vwCl (GW cI cC cZ cQ q R) t.heap) (fIv q 201)) ([.ref q] : List Value).toArray s 1173 7036 (fIv q 201)) (F0 m 259 ls []) := by
                          intro H locs ls hP hS hl
                          refine lv_iconst (v := 1) hx hb dL_built_259 (by decide) ?_
                          refine lv_goto (tgt := 264) hx hb dL_built_260 (by decide) ?_
                          refine lv_istore (lv' := [(9, .int 1), (0, .ref q), (1, .int x1), (2, .int x2), (3, .ref w), (4, .long x4), (6, .long x6), (8, .int x8), (10, .int x10), (11, .int ((r48.1).toInt32)), (12, .long r59.1)]) hx hb dL_built_264 hl (by decide) rfl (fun ls hl => ?_)
                          refine lv_iload hx hb dL_built_266 (lv_at hl 0 rfl) ?_
                          refine lv_if_ne (tgt := 273) hx hb dL_built_268 (by decide) (fun _ => ?_) (fun c => absurd c (by decide))
                          refine lv_aload_n hx hb dL_built_273 rfl (lv_at hl 4 rfl) ?_
                          refine lv_iload hx hb dL_built_274 (lv_at hl 9 rfl) ?_
                          refine lv_dup2_11 hx hb dL_built_276 rfl rfl ?_
                          obtain ⟨hg21, h⟩ := gd_some h
                          refine g_iald (f := (bF a259_19)) (k := (((r48.1).toInt32)).toNatClampNeg) hx hb hK hP 201 0 GAW_at rfl hg21 rfl dL_built_277 ?_
                          refine lv_iconst (v := 1) hx hb dL_built_278 (by decide) ?_
                          refine lv_iadd hx hb dL_built_279 ?_
                          refine g_iast (f := (bF a259_19)) (k := (((r48.1).toInt32)).toNatClampNeg) hx hb hK hP (GAW_self hqw) hS 201 0 GAW_at rfl hg21 rfl dL_built_280 (fun H locs hP hS => ?_)
                          rw [GAW_set] at hP
                          have hP : va_P D vwCl (GAW cI cC cZ cQ q w ((bI a259_19), (upd (bF a259_19) (((r48.1).toInt32)).toNatClampNeg (((bF a259_19) (((r48.1).toInt32)).toNatClampNeg) + 1)))) H := hP
                          refine lv_aload_n hx hb dL_built_281 rfl (lv_at hl 1 rfl) ?_
                          refine lv_iload hx hb dL_built_282 (lv_at hl 8 rfl) ?_
                          obtain ⟨r284, hr284, h⟩ := bd_some h
                          refine gww_l (As := [.ref q, .int x10]) (rest := []) (k2 := (cc + 12)) (n2 := (ss + 72)) ⟨hx, hb, hml, hown, hts⟩ (gEnw_now hE hS (fG_lo hlo hqs)) hK (kL_gap l D cI cC cZ cQ cJ t lo q (bI a259_19) x10 hlo hlS hr284) (vx_cwSW 2 hts gL_built_L_gap rfl rfl rfl (by decide +kernel) ⟨Nat.le_of_ble_eq_true rfl, Nat.le_of_ble_eq_true rfl⟩) (gL hP) hS (fun _ h9 => Or.inl h9) rfl hl.1 rfl (Nat.le_of_ble_eq_true rfl) ⟨by show _ ≤ (1173 : Nat); omega, by show _ ≤ (7036 : Nat); omega⟩ rfl rfl dL_built_284 (fun H1 locs hP1 hS hz1 hk1 => ?_)
                          have hP : va_P D vwCl (GAW cI cC cZ cQ q w (r284.2, (upd (bF a259_19) (((r48.1).toInt32)).toNatClampNeg (((bF a259_19) (((r48.1).toInt32)).toNatClampNeg) + 1)))) H1 := GAW_G (X := ((bI a259_19), (upd (bF a259_19) (((r48.1).toInt32)).toNatClampNeg (((bF a259_19) (((r48.1).toInt32)).toNatClampNeg) + 1)))) hqw hP hP1 hk1
                          generalize H1 = H at hP hS ⊢
                          refine lv_lstore (lv' := [(14, .long r284.1), (9, .int 1), (0, .ref q), (1, .int x1), (2, .int x2), (3, .ref w), (4, .long x4), (6, .long x6), (8, .int x8), (10, .int x10), (11, .int ((r48.1).toInt32)), (12, .long r59.1)]) hx hb dL_built_287 hl (by decide) rfl (fun ls hl => ?_)
                          refine lv_lload hx hb dL_built_289 (lv_at hl 0 rfl) ?_
                          refine lv_ldc2 (v := (-9)) hx hb hown (hts (.constantLong RL 193 (-9)) (by decide +kernel)) dL_built_291 ?_
                          refine W.lcmp hx hb dL_built_294 ?_
                          obtain ⟨a303_22, haa303_22, h⟩ := bd_some h
                          have JJ303 : ∀ (H : Heap) (locs : List Loc) (ls : Array Slot), va_P D vwCl (GAW cI cC cZ cQ q w (r284.2, (upd (bF a259_19) (((r48.1).toInt32)).toNatClampNeg (((bF a259_19) (((r48.1).toInt32)).toNatClampNeg) + 1)))) H → va_S (fG q s.heap.size) s.heap H locs → lv_has ls 18 [(0, .ref q), (1, .int x1), (2, .int x2), (3, .ref w), (4, .long x4), (6, .long x6), (8, .int x8), (10, .int x10), (11, .int ((r48.1).toInt32)), (12, .long r59.1), (14, .long r284.1)] → W p l e ({ frames := 9, cells := 1173, slots := 7036, locals := 150 } : Room) s m ([.ref q] : List Value).toArray below meth c H locs (cc + 12) (ss + 72) (MQ below (va_Qi (fun r (_ : Unit) => r = 1) (fun _ t => va_P D vwCl (GW cI cC cZ cQ q R) t.heap) (fIv q 201)) ([.ref q] : List Value).toArray s 1173 7036 (fIv q 201)) (F0 m 303 ls [.int a303_22]) := by
                            intro H locs ls hP hS hl
                            refine lv_iload hx hb dL_built_303 (lv_at hl 8 rfl) ?_
                            obtain ⟨a313_24, haa313_24, h⟩ := bd_some h
                            have JJ313 : ∀ (H : Heap) (locs : List Loc) (ls : Array Slot), va_P D vwCl (GAW cI cC cZ cQ q w (r284.2, (upd (bF a259_19) (((r48.1).toInt32)).toNatClampNeg (((bF a259_19) (((r48.1).toInt32)).toNatClampNeg) + 1)))) H → va_S (fG q s.heap.size) s.heap H locs → lv_has ls 18 [(0, .ref q), (1, .int x1), (2, .int x2), (3, .ref w), (4, .long x4), (6, .long x6), (8, .int x8), (10, .int x10), (11, .int ((r48.1).toInt32)), (12, .long r59.1), (14, .long r284.1)] → W p l e ({ frames := 9, cells := 1173, slots := 7036, locals := 150 } : Room) s m ([.ref q] : List Value).toArray below meth c H locs (cc + 12) (ss + 72) (MQ below (va_Qi (fun r (_ : Unit) => r = 1) (fun _ t => va_P D vwCl (GW cI cC cZ cQ q R) t.heap) (fIv q 201)) ([.ref q] : List Value).toArray s 1173 7036 (fIv q 201)) (F0 m 313 ls [.int a313_24, .int a303_22]) := by
                              intro H locs ls hP hS hl
                              refine lv_icmp_ne (tgt := 351) hx hb dL_built_313 (by decide) (fun c26 => ?_) (fun c26 => ?_)
                              · replace h := (if_neg c26).symm.trans h
                                exact no_some h
                              · replace h := (if_pos c26).symm.trans h
                                refine lv_aload_n hx hb dL_built_316 rfl (lv_at hl 0 rfl) ?_
                                refine lv_iload hx hb dL_built_317 (lv_at hl 7 rfl) ?_
                                obtain ⟨r319, hr319, h⟩ := bd_some h
                                refine gww_l (As := [.ref q, .int x10]) (rest := []) (k2 := (cc + 13)) (n2 := (ss + 78)) ⟨hx, hb, hml, hown, hts⟩ (gEnw_now hE hS (fG_lo hlo hqs)) hK (kL_dueAfter l D cI cC cZ cQ cJ t lo q r284.2 x10 hlo hlS hr319) (vx_cwSW 2 hts gL_built_L_dueAfter rfl rfl rfl (by decide +kernel) ⟨Nat.le_of_ble_eq_true rfl, Nat.le_of_ble_eq_true rfl⟩) (gL hP) hS (fun _ h9 => Or.inl h9) rfl hl.1 rfl (Nat.le_of_ble_eq_true rfl) ⟨by show _ ≤ (1173 : Nat); omega, by show _ ≤ (7036 : Nat); omega⟩ rfl rfl dL_built_319 (fun H1 locs hP1 hS hz1 hk1 => ?_)
                                have hP : va_P D vwCl (GAW cI cC cZ cQ q w (r319.2, (upd (bF a259_19) (((r48.1).toInt32)).toNatClampNeg (((bF a259_19) (((r48.1).toInt32)).toNatClampNeg) + 1)))) H1 := GAW_G (X := (r284.2, (upd (bF a259_19) (((r48.1).toInt32)).toNatClampNeg (((bF a259_19) (((r48.1).toInt32)).toNatClampNeg) + 1)))) hqw hP hP1 hk1
                                generalize H1 = H at hP hS ⊢
                                refine lv_ldc2 (v := (-9)) hx hb hown (hts (.constantLong RL 193 (-9)) (by decide +kernel)) dL_built_322 ?_
                                refine W.lcmp hx hb dL_built_325 ?_
                                obtain ⟨a334_27, haa334_27, h⟩ := bd_some h
                                have JJ334 : ∀ (H : Heap) (locs : List Loc) (ls : Array Slot), va_P D vwCl (GAW cI cC cZ cQ q w (r319.2, (upd (bF a259_19) (((r48.1).toInt32)).toNatClampNeg (((bF a259_19) (((r48.1).toInt32)).toNatClampNeg) + 1)))) H → va_S (fG q s.heap.size) s.heap H locs → lv_has ls 18 [(0, .ref q), (1, .int x1), (2, .int x2), (3, .ref w), (4, .long x4), (6, .long x6), (8, .int x8), (10, .int x10), (11, .int ((r48.1).toInt32)), (12, .long r59.1), (14, .long r284.1)] → W p l e ({ frames := 9, cells := 1173, slots := 7036, locals := 150 } : Room) s m ([.ref q] : List Value).toArray below meth c H locs (cc + 13) (ss + 78) (MQ below (va_Qi (fun r (_ : Unit) => r = 1) (fun _ t => va_P D vwCl (GW cI cC cZ cQ q R) t.heap) (fIv q 201)) ([.ref q] : List Value).toArray s 1173 7036 (fIv q 201)) (F0 m 334 ls [.int a334_27]) := by
                                  intro H locs ls hP hS hl
                                  refine lv_iload hx hb dL_built_334 (lv_at hl 8 rfl) ?_
                                  obtain ⟨a344_29, haa344_29, h⟩ := bd_some h
                                  have JJ344 : ∀ (H : Heap) (locs : List Loc) (ls : Array Slot), va_P D vwCl (GAW cI cC cZ cQ q w (r319.2, (upd (bF a259_19) (((r48.1).toInt32)).toNatClampNeg (((bF a259_19) (((r48.1).toInt32)).toNatClampNeg) + 1)))) H → va_S (fG q s.heap.size) s.heap H locs → lv_has ls 18 [(0, .ref q), (1, .int x1), (2, .int x2), (3, .ref w), (4, .long x4), (6, .long x6), (8, .int x8), (10, .int x10), (11, .int ((r48.1).toInt32)), (12, .long r59.1), (14, .long r284.1)] → W p l e ({ frames := 9, cells := 1173, slots := 7036, locals := 150 } : Room) s m ([.ref q] : List Value).toArray below meth c H locs (cc + 13) (ss + 78) (MQ below (va_Qi (fun r (_ : Unit) => r = 1) (fun _ t => va_P D vwCl (GW cI cC cZ cQ q R) t.heap) (fIv q 201)) ([.ref q] : List Value).toArray s 1173 7036 (fIv q 201)) (F0 m 344 ls [.int a344_29, .int a334_27]) := by
                                    intro H locs ls hP hS hl
                                    refine lv_icmp_ne (tgt := 351) hx hb dL_built_344 (by decide) (fun c31 => ?_) (fun c31 => ?_)
                                    · replace h := (if_neg c31).symm.trans h
                                      exact no_some h
                                    · replace h := (if_pos c31).symm.trans h
                                      refine lv_iconst (v := 1) hx hb dL_built_347 (by decide) ?_
                                      refine lv_goto (tgt := 352) hx hb dL_built_348 (by decide) ?_
                                      refine lv_istore (lv' := [(9, .int 1), (0, .ref q), (1, .int x1), (2, .int x2), (3, .ref w), (4, .long x4), (6, .long x6), (8, .int x8), (10, .int x10), (11, .int ((r48.1).toInt32)), (12, .long r59.1), (14, .long r284.1)]) hx hb dL_built_352 hl (by decide) rfl (fun ls hl => ?_)
                                      refine lv_iload hx hb dL_built_354 (lv_at hl 9 rfl) ?_
                                      obtain ⟨a467_45, haa467_45, h⟩ := bd_some h
                                      have JJ467 : ∀ (H : Heap) (locs : List Loc) (ls : Array Slot), va_P D vwCl (GAW cI cC cZ cQ q w a467_45.1) H → va_S (fG q s.heap.size) s.heap H locs → lv_has ls 18 [(0, .ref q), (1, .int x1), (2, .int x2), (3, .ref w), (4, .long a467_45.2.1), (6, .long a467_45.2.2), (8, .int x8), (9, .int 1), (10, .int x10), (11, .int ((r48.1).toInt32)), (12, .long r59.1)] → W p l e ({ frames := 9, cells := 1173, slots := 7036, locals := 150 } : Room) s m ([.ref q] : List Value).toArray below meth c H locs (cc + 17) (ss + 102) (MQ below (va_Qi (fun r (_ : Unit) => r = 1) (fun _ t => va_P D vwCl (GW cI cC cZ cQ q R) t.heap) (fIv q 201)) ([.ref q] : List Value).toArray s 1173 7036 (fIv q 201)) (F0 m 467 ls []) := by
                                        intro H locs ls hP hS hl
                                        refine lv_iload hx hb dL_built_467 (lv_at hl 7 rfl) ?_
                                        refine lv_if_eq (tgt := 532) hx hb dL_built_469 (by decide) (fun c => absurd c (by decide)) (fun _ => ?_)
                                        refine lv_iload hx hb dL_built_472 (lv_at hl 8 rfl) ?_
                                        obtain ⟨a492_48, haa492_48, h⟩ := bd_some h
                                        have JJ492 : ∀ (H : Heap) (locs : List Loc) (ls : Array Slot), va_P D vwCl (GAW cI cC cZ cQ q w a492_48) H → va_S (fG q s.heap.size) s.heap H locs → lv_has ls 18 [(0, .ref q), (1, .int x1), (2, .int x2), (3, .ref w), (4, .long a467_45.2.1), (6, .long a467_45.2.2), (8, .int x8), (10, .int x10), (11, .int ((r48.1).toInt32)), (12, .long r59.1)] → W p l e ({ frames := 9, cells := 1173, slots := 7036, locals := 150 } : Room) s m ([.ref q] : List Value).toArray below meth c H locs (cc + 18) (ss + 108) (MQ below (va_Qi (fun r (_ : Unit) => r = 1) (fun _ t => va_P D vwCl (GW cI cC cZ cQ q R) t.heap) (fIv q 201)) ([.ref q] : List Value).toArray s 1173 7036 (fIv q 201)) (F0 m 492 ls []) := by
                                          intro H locs ls hP hS hl
                                          refine lv_aload_n hx hb dL_built_492 rfl (lv_at hl 0 rfl) ?_
                                          refine lv_iload hx hb dL_built_493 (lv_at hl 6 rfl) ?_
                                          obtain ⟨r495, hr495, h⟩ := bd_some h
                                          refine gww_l (As := [.ref q, .int x8]) (rest := []) (k2 := (cc + 19)) (n2 := (ss + 114)) ⟨hx, hb, hml, hown, hts⟩ (gEnw_now hE hS (fG_lo hlo hqs)) hK (kL_report l D cI cC cZ cQ cJ t lo q (bI a492_48) x8 hlo hlS hr495) (vx_cwSW 2 hts gL_built_L_report rfl rfl rfl (by decide +kernel) ⟨Nat.le_of_ble_eq_true rfl, Nat.le_of_ble_eq_true rfl⟩) (gL hP) hS (fun _ h9 => Or.inl h9) rfl hl.1 rfl (Nat.le_of_ble_eq_true rfl) ⟨by show _ ≤ (1173 : Nat); omega, by show _ ≤ (7036 : Nat); omega⟩ rfl rfl dL_built_495 (fun H1 locs hP1 hS hz1 hk1 => ?_)
                                          have hP : va_P D vwCl (GAW cI cC cZ cQ q w (r495.2, (bF a492_48))) H1 := GAW_G (X := a492_48) hqw hP hP1 hk1
                                          generalize H1 = H at hP hS ⊢
                                          refine lv_bipush (v := 97) hx hb dL_built_498 (by decide) ?_
                                          refine lv_iload hx hb dL_built_500 (lv_at hl 7 rfl) ?_
                                          refine lv_iadd hx hb dL_built_502 ?_
                                          refine lv_i2l hx hb dL_built_503 rfl ?_
                                          refine W.lcmp hx hb dL_built_504 ?_
                                          refine lv_if_ne (tgt := 532) hx hb dL_built_505 (by decide) (fun c50 => ?_) (fun c50 => ?_)
                                          · replace h := (if_neg c50).symm.trans h
                                            exact no_some h
                                          · replace h := (if_pos c50).symm.trans h
                                            refine lv_aload_n hx hb dL_built_508 rfl (lv_at hl 0 rfl) ?_
                                            refine lv_iload hx hb dL_built_509 (lv_at hl 6 rfl) ?_
                                            refine lv_iconst (v := 1) hx hb dL_built_511 (by decide) ?_
                                            refine lv_iadd hx hb dL_built_512 ?_
                                            obtain ⟨r513, hr513, h⟩ := bd_some h
                                            refine gww_l (As := [.ref q, .int (x8 + 1)]) (rest := []) (k2 := (cc + 20)) (n2 := (ss + 120)) ⟨hx, hb, hml, hown, hts⟩ (gEnw_now hE hS (fG_lo hlo hqs)) hK (kL_report l D cI cC cZ cQ cJ t lo q r495.2 (x8 + 1) hlo hlS hr513) (vx_cwSW 2 hts gL_built_L_report rfl rfl rfl (by decide +kernel) ⟨Nat.le_of_ble_eq_true rfl, Nat.le_of_ble_eq_true rfl⟩) (gL hP) hS (fun _ h9 => Or.inl h9) rfl hl.1 rfl (Nat.le_of_ble_eq_true rfl) ⟨by show _ ≤ (1173 : Nat); omega, by show _ ≤ (7036 : Nat); omega⟩ rfl rfl dL_built_513 (fun H1 locs hP1 hS hz1 hk1 => ?_)
                                            have hP : va_P D vwCl (GAW cI cC cZ cQ q w (r513.2, (bF a492_48))) H1 := GAW_G (X := (r495.2, (bF a492_48))) hqw hP hP1 hk1
                                            generalize H1 = H at hP hS ⊢
                                            refine va_ldcS hx hb hown hCh.1 dL_built_516 ?_
                                            refine lv_iload hx hb dL_built_518 (lv_at hl 8 rfl) ?_
                                            obtain ⟨r520, hr520, h⟩ := bd_some h
                                            refine gcharAt (rest := [.long r513.1]) ⟨hx, hb, hml, hown, hts⟩ hCh hS (fG_lo hlo hqs) hr520 gL_built_J0_charAt_5068e hl.1 (Nat.le_of_ble_eq_true rfl) ⟨by show _ ≤ (1173 : Nat); omega, by show _ ≤ (7036 : Nat); omega⟩ ⟨Nat.le_of_ble_eq_true rfl, Nat.le_of_ble_eq_true rfl⟩ dL_built_520 ?_
                                            refine lv_i2l hx hb dL_built_523 rfl ?_
                                            refine W.lcmp hx hb dL_built_524 ?_
                                            refine lv_if_ne (tgt := 532) hx hb dL_built_525 (by decide) (fun c51 => ?_) (fun c51 => ?_)
                                            · replace h := (if_neg c51).symm.trans h
                                              exact no_some h
                                            · replace h := (if_pos c51).symm.trans h
                                              refine lv_iconst (v := 1) hx hb dL_built_528 (by decide) ?_
                                              refine lv_goto (tgt := 533) hx hb dL_built_529 (by decide) ?_
                                              refine lv_istore (lv' := [(9, .int 1), (0, .ref q), (1, .int x1), (2, .int x2), (3, .ref w), (4, .long a467_45.2.1), (6, .long a467_45.2.2), (8, .int x8), (10, .int x10), (11, .int ((r48.1).toInt32)), (12, .long r59.1)]) hx hb dL_built_533 hl (by decide) rfl (fun ls hl => ?_)
                                              refine lv_iload hx hb dL_built_535 (lv_at hl 9 rfl) ?_
                                              obtain ⟨a565_54, haa565_54, h⟩ := bd_some h
                                              have JJ565 : ∀ (H : Heap) (locs : List Loc) (ls : Array Slot), va_P D vwCl (GAW cI cC cZ cQ q w a565_54.1) H → va_S (fG q s.heap.size) s.heap H locs → lv_has ls 18 [(0, .ref q), (1, .int x1), (2, .int x2), (3, .ref w), (4, .long a467_45.2.1), (6, .long a467_45.2.2), (8, .int x8), (9, .int 1), (10, .int x10)] → W p l e ({ frames := 9, cells := 1173, slots := 7036, locals := 150 } : Room) s m ([.ref q] : List Value).toArray below meth c H locs (cc + 21) (ss + 126) (MQ below (va_Qi (fun r (_ : Unit) => r = 1) (fun _ t => va_P D vwCl (GW cI cC cZ cQ q R) t.heap) (fIv q 201)) ([.ref q] : List Value).toArray s 1173 7036 (fIv q 201)) (F0 m 565 ls [.long a565_54.2]) := by
                                                intro H locs ls hP hS hl
                                                refine lv_lstore (lv' := [(16, .long a565_54.2), (0, .ref q), (1, .int x1), (2, .int x2), (3, .ref w), (4, .long a467_45.2.1), (6, .long a467_45.2.2), (8, .int x8), (9, .int 1), (10, .int x10)]) hx hb dL_built_565 hl (by decide) rfl (fun ls hl => ?_)
                                                refine lv_iload hx hb dL_built_567 (lv_at hl 7 rfl) ?_
                                                refine lv_lload hx hb dL_built_569 (lv_at hl 0 rfl) ?_
                                                refine lv_lconst (v := 0) hx hb dL_built_571 (by decide) ?_
                                                refine W.lcmp hx hb dL_built_572 ?_
                                                obtain ⟨a594_58, haa594_58, h⟩ := bd_some h
                                                have JJ594 : ∀ (H : Heap) (locs : List Loc) (ls : Array Slot), va_P D vwCl (GAW cI cC cZ cQ q w a565_54.1) H → va_S (fG q s.heap.size) s.heap H locs → lv_has ls 18 [(0, .ref q), (1, .int x1), (2, .int x2), (3, .ref w), (4, .long a467_45.2.1), (6, .long a467_45.2.2), (9, .int 1), (10, .int x10), (16, .long a565_54.2)] → W p l e ({ frames := 9, cells := 1173, slots := 7036, locals := 150 } : Room) s m ([.ref q] : List Value).toArray below meth c H locs (cc + 21) (ss + 126) (MQ below (va_Qi (fun r (_ : Unit) => r = 1) (fun _ t => va_P D vwCl (GW cI cC cZ cQ q R) t.heap) (fIv q 201)) ([.ref q] : List Value).toArray s 1173 7036 (fIv q 201)) (F0 m 594 ls [.int a594_58, .int x8]) := by
                                                  intro H locs ls hP hS hl
                                                  refine lv_iadd hx hb dL_built_594 ?_
                                                  refine lv_istore (lv' := [(8, .int (x8 + a594_58)), (0, .ref q), (1, .int x1), (2, .int x2), (3, .ref w), (4, .long a467_45.2.1), (6, .long a467_45.2.2), (9, .int 1), (10, .int x10), (16, .long a565_54.2)]) hx hb dL_built_595 hl (by decide) rfl (fun ls hl => ?_)
                                                  refine lv_iload hx hb dL_built_597 (lv_at hl 7 rfl) ?_
                                                  refine lv_if_eq (tgt := 666) hx hb dL_built_599 (by decide) (fun c => absurd c (by decide)) (fun _ => ?_)
                                                  refine lv_lload hx hb dL_built_602 (lv_at hl 9 rfl) ?_
                                                  refine lv_lconst (v := 0) hx hb dL_built_604 (by decide) ?_
                                                  refine W.lcmp hx hb dL_built_605 ?_
                                                  obtain ⟨a631_62, haa631_62, h⟩ := bd_some h
                                                  have JJ631 : ∀ (H : Heap) (locs : List Loc) (ls : Array Slot), va_P D vwCl (GAW cI cC cZ cQ q w a631_62) H → va_S (fG q s.heap.size) s.heap H locs → lv_has ls 18 [(0, .ref q), (1, .int x1), (2, .int x2), (3, .ref w), (4, .long a467_45.2.1), (6, .long a467_45.2.2), (8, .int (x8 + a594_58)), (10, .int x10), (16, .long a565_54.2)] → W p l e ({ frames := 9, cells := 1173, slots := 7036, locals := 150 } : Room) s m ([.ref q] : List Value).toArray below meth c H locs (cc + 22) (ss + 132) (MQ below (va_Qi (fun r (_ : Unit) => r = 1) (fun _ t => va_P D vwCl (GW cI cC cZ cQ q R) t.heap) (fIv q 201)) ([.ref q] : List Value).toArray s 1173 7036 (fIv q 201)) (F0 m 631 ls []) := by
                                                    intro H locs ls hP hS hl
                                                    refine lv_lload hx hb dL_built_631 (lv_at hl 8 rfl) ?_
                                                    refine lv_ldc2 (v := 10) hx hb hown (hts (.constantLong RL 213 (10)) (by decide +kernel)) dL_built_633 ?_
                                                    refine W.lcmp hx hb dL_built_636 ?_
                                                    obtain ⟨a662_66, haa662_66, h⟩ := bd_some h
                                                    have JJ662 : ∀ (H : Heap) (locs : List Loc) (ls : Array Slot), va_P D vwCl (GAW cI cC cZ cQ q w a662_66) H → va_S (fG q s.heap.size) s.heap H locs → lv_has ls 18 [(0, .ref q), (1, .int x1), (2, .int x2), (3, .ref w), (4, .long a467_45.2.1), (6, .long a467_45.2.2), (8, .int (x8 + a594_58)), (10, .int x10)] → W p l e ({ frames := 9, cells := 1173, slots := 7036, locals := 150 } : Room) s m ([.ref q] : List Value).toArray below meth c H locs (cc + 23) (ss + 138) (MQ below (va_Qi (fun r (_ : Unit) => r = 1) (fun _ t => va_P D vwCl (GW cI cC cZ cQ q R) t.heap) (fIv q 201)) ([.ref q] : List Value).toArray s 1173 7036 (fIv q 201)) (F0 m 662 ls []) := by
                                                      intro H locs ls hP hS hl
                                                      refine lv_iconst (v := 1) hx hb dL_built_662 (by decide) ?_
                                                      refine lv_goto (tgt := 667) hx hb dL_built_663 (by decide) ?_
                                                      refine lv_istore (lv' := [(9, .int 1), (0, .ref q), (1, .int x1), (2, .int x2), (3, .ref w), (4, .long a467_45.2.1), (6, .long a467_45.2.2), (8, .int (x8 + a594_58)), (10, .int x10)]) hx hb dL_built_667 hl (by decide) rfl (fun ls hl => ?_)
                                                      refine lv_iinc (v := ((x8 + a594_58) + 1)) (lv' := [(8, .int ((x8 + a594_58) + 1)), (9, .int 1), (0, .ref q), (1, .int x1), (2, .int x2), (3, .ref w), (4, .long a467_45.2.1), (6, .long a467_45.2.2), (10, .int x10)]) hx hb dL_built_669 hl (k := 7) rfl rfl (by decide) rfl (fun ls hl => ?_)
                                                      refine lv_iinc (v := (x10 + 1)) (lv' := [(10, .int (x10 + 1)), (8, .int ((x8 + a594_58) + 1)), (9, .int 1), (0, .ref q), (1, .int x1), (2, .int x2), (3, .ref w), (4, .long a467_45.2.1), (6, .long a467_45.2.2)]) hx hb dL_built_672 hl (k := 8) rfl rfl (by decide) rfl (fun ls hl => ?_)
                                                      refine lv_goto (tgt := 33) hx hb dL_built_675 (by decide) ?_
                                                      exact ih (cc + 23) (ss + 138) a662_66 x1 x2 a467_45.2.1 a467_45.2.2 ((x8 + a594_58) + 1) (x10 + 1) H locs ls (by omega) (by omega) h hk hP hS (lv_sub hl [3, 4, 5, 6, 7, 8, 1, 2, 0] rfl)
                                                    clear h
                                                    replace h := haa662_66
                                                    clear haa662_66
                                                    refine lv_if_lt (tgt := 662) hx hb dL_built_637 (by decide) (fun c64 => ?_) (fun c64 => ?_)
                                                    · replace h := (if_pos c64).symm.trans h
                                                      have h := Option.some.inj h
                                                      subst h
                                                      refine W.widen (k := (cc + 23)) (n := (ss + 138)) (by omega) (by omega) ?_
                                                      exact JJ662 H locs ls hP hS (lv_sub hl [0, 1, 2, 3, 4, 5, 6, 7] rfl)
                                                    · replace h := (if_neg c64).symm.trans h
                                                      refine lv_aload_n hx hb dL_built_640 rfl (lv_at hl 0 rfl) ?_
                                                      refine lv_iload hx hb dL_built_641 (lv_at hl 6 rfl) ?_
                                                      refine lv_iconst (v := 2) hx hb dL_built_643 (by decide) ?_
                                                      refine lv_isub hx hb dL_built_644 ?_
                                                      obtain ⟨r645, hr645, h⟩ := bd_some h
                                                      refine gww_l (As := [.ref q, .int ((x8 + a594_58) - 2)]) (rest := []) (k2 := (cc + 23)) (n2 := (ss + 138)) ⟨hx, hb, hml, hown, hts⟩ (gEnw_now hE hS (fG_lo hlo hqs)) hK (kL_report l D cI cC cZ cQ cJ t lo q (bI a631_62) ((x8 + a594_58) - 2) hlo hlS hr645) (vx_cwSW 2 hts gL_built_L_report rfl rfl rfl (by decide +kernel) ⟨Nat.le_of_ble_eq_true rfl, Nat.le_of_ble_eq_true rfl⟩) (gL hP) hS (fun _ h9 => Or.inl h9) rfl hl.1 rfl (Nat.le_of_ble_eq_true rfl) ⟨by show _ ≤ (1173 : Nat); omega, by show _ ≤ (7036 : Nat); omega⟩ rfl rfl dL_built_645 (fun H1 locs hP1 hS hz1 hk1 => ?_)
                                                      have hP : va_P D vwCl (GAW cI cC cZ cQ q w (r645.2, (bF a631_62))) H1 := GAW_G (X := a631_62) hqw hP hP1 hk1
                                                      generalize H1 = H at hP hS ⊢
                                                      refine lv_ldc2 (v := 48) hx hb hown (hts (.constantLong RL 215 (48)) (by decide +kernel)) dL_built_648 ?_
                                                      refine lv_lload hx hb dL_built_651 (lv_at hl 8 rfl) ?_
                                                      refine lv_ldc2 (v := 10) hx hb hown (hts (.constantLong RL 213 (10)) (by decide +kernel)) dL_built_653 ?_
                                                      refine lv_ldiv hx hb dL_built_656 (by decide) ?_
                                                      refine lv_ladd hx hb dL_built_657 ?_
                                                      refine lv_topl (fun yv65 eyv65 => ?_)
                                                      rw [← eyv65] at h
                                                      refine W.lcmp hx hb dL_built_658 ?_
                                                      refine lv_if_ne (tgt := 666) hx hb dL_built_659 (by decide) (fun c66 => ?_) (fun c66 => ?_)
                                                      · replace h := (if_neg c66).symm.trans h
                                                        exact no_some h
                                                      · replace h := (if_pos c66).symm.trans h
                                                        have h := Option.some.inj h
                                                        subst h
                                                        refine W.widen (k := (cc + 23)) (n := (ss + 138)) (by omega) (by omega) ?_
                                                        exact JJ662 H locs ls hP hS (lv_sub hl [0, 1, 2, 3, 4, 5, 6, 7] rfl)
                                                  clear h
                                                  replace h := haa631_62
                                                  clear haa631_62
                                                  refine lv_if_lt (tgt := 631) hx hb dL_built_606 (by decide) (fun c60 => ?_) (fun c60 => ?_)
                                                  · replace h := (if_pos c60).symm.trans h
                                                    have h := Option.some.inj h
                                                    subst h
                                                    refine W.widen (k := (cc + 22)) (n := (ss + 132)) (by omega) (by omega) ?_
                                                    exact JJ631 H locs ls hP hS (lv_sub hl [1, 2, 3, 4, 5, 6, 0, 8, 9] rfl)
                                                  · replace h := (if_neg c60).symm.trans h
                                                    refine lv_aload_n hx hb dL_built_609 rfl (lv_at hl 1 rfl) ?_
                                                    refine lv_iload hx hb dL_built_610 (lv_at hl 0 rfl) ?_
                                                    refine lv_iconst (v := 1) hx hb dL_built_612 (by decide) ?_
                                                    refine lv_isub hx hb dL_built_613 ?_
                                                    obtain ⟨r614, hr614, h⟩ := bd_some h
                                                    refine gww_l (As := [.ref q, .int ((x8 + a594_58) - 1)]) (rest := []) (k2 := (cc + 22)) (n2 := (ss + 132)) ⟨hx, hb, hml, hown, hts⟩ (gEnw_now hE hS (fG_lo hlo hqs)) hK (kL_report l D cI cC cZ cQ cJ t lo q (bI a565_54.1) ((x8 + a594_58) - 1) hlo hlS hr614) (vx_cwSW 2 hts gL_built_L_report rfl rfl rfl (by decide +kernel) ⟨Nat.le_of_ble_eq_true rfl, Nat.le_of_ble_eq_true rfl⟩) (gL hP) hS (fun _ h9 => Or.inl h9) rfl hl.1 rfl (Nat.le_of_ble_eq_true rfl) ⟨by show _ ≤ (1173 : Nat); omega, by show _ ≤ (7036 : Nat); omega⟩ rfl rfl dL_built_614 (fun H1 locs hP1 hS hz1 hk1 => ?_)
                                                    have hP : va_P D vwCl (GAW cI cC cZ cQ q w (r614.2, (bF a565_54.1))) H1 := GAW_G (X := a565_54.1) hqw hP hP1 hk1
                                                    generalize H1 = H at hP hS ⊢
                                                    refine lv_ldc2 (v := 48) hx hb hown (hts (.constantLong RL 215 (48)) (by decide +kernel)) dL_built_617 ?_
                                                    refine lv_lload hx hb dL_built_620 (lv_at hl 9 rfl) ?_
                                                    refine lv_ldc2 (v := 10) hx hb hown (hts (.constantLong RL 213 (10)) (by decide +kernel)) dL_built_622 ?_
                                                    refine lv_lrem hx hb dL_built_625 (by decide) ?_
                                                    refine lv_ladd hx hb dL_built_626 ?_
                                                    refine lv_topl (fun yv61 eyv61 => ?_)
                                                    rw [← eyv61] at h
                                                    refine W.lcmp hx hb dL_built_627 ?_
                                                    refine lv_if_ne (tgt := 666) hx hb dL_built_628 (by decide) (fun c62 => ?_) (fun c62 => ?_)
                                                    · replace h := (if_neg c62).symm.trans h
                                                      exact no_some h
                                                    · replace h := (if_pos c62).symm.trans h
                                                      have h := Option.some.inj h
                                                      subst h
                                                      refine W.widen (k := (cc + 22)) (n := (ss + 132)) (by omega) (by omega) ?_
                                                      exact JJ631 H locs ls hP hS (lv_sub hl [1, 2, 3, 4, 5, 6, 0, 8, 9] rfl)
                                                clear h
                                                replace h := haa594_58
                                                clear haa594_58
                                                refine lv_if_ge (tgt := 580) hx hb dL_built_573 (by decide) (fun c56 => ?_) (fun c56 => ?_)
                                                · replace h := (if_pos c56).symm.trans h
                                                  refine lv_lload hx hb dL_built_580 (lv_at hl 0 rfl) ?_
                                                  refine lv_ldc2 (v := 10) hx hb hown (hts (.constantLong RL 213 (10)) (by decide +kernel)) dL_built_582 ?_
                                                  refine W.lcmp hx hb dL_built_585 ?_
                                                  obtain ⟨a594_57, haa594_57, h⟩ := bd_some h
                                                  have JJ594 : ∀ (H : Heap) (locs : List Loc) (ls : Array Slot), va_P D vwCl (GAW cI cC cZ cQ q w a565_54.1) H → va_S (fG q s.heap.size) s.heap H locs → lv_has ls 18 [(0, .ref q), (1, .int x1), (2, .int x2), (3, .ref w), (4, .long a467_45.2.1), (6, .long a467_45.2.2), (9, .int 1), (10, .int x10), (16, .long a565_54.2)] → W p l e ({ frames := 9, cells := 1173, slots := 7036, locals := 150 } : Room) s m ([.ref q] : List Value).toArray below meth c H locs (cc + 21) (ss + 126) (MQ below (va_Qi (fun r (_ : Unit) => r = 1) (fun _ t => va_P D vwCl (GW cI cC cZ cQ q R) t.heap) (fIv q 201)) ([.ref q] : List Value).toArray s 1173 7036 (fIv q 201)) (F0 m 594 ls [.int a594_57, .int x8]) := by
                                                    intro H locs ls hP hS hl
                                                    have h := Option.some.inj h
                                                    subst h
                                                    refine W.widen (k := (cc + 21)) (n := (ss + 126)) (by omega) (by omega) ?_
                                                    exact JJ594 H locs ls hP hS (lv_sub hl [0, 1, 2, 3, 4, 5, 6, 7, 8] rfl)
                                                  clear h
                                                  replace h := haa594_57
                                                  clear haa594_57
                                                  refine lv_if_ge (tgt := 593) hx hb dL_built_586 (by decide) (fun c57 => ?_) (fun c57 => ?_)
                                                  · replace h := (if_pos c57).symm.trans h
                                                    refine lv_iconst (v := 4) hx hb dL_built_593 (by decide) ?_
                                                    have h := Option.some.inj h
                                                    subst h
                                                    refine W.widen (k := (cc + 21)) (n := (ss + 126)) (by omega) (by omega) ?_
                                                    exact JJ594 H locs ls hP hS (lv_sub hl [1, 2, 3, 4, 5, 6, 8, 9, 0] rfl)
                                                  · replace h := (if_neg c57).symm.trans h
                                                    refine lv_iconst (v := 3) hx hb dL_built_589 (by decide) ?_
                                                    refine lv_goto (tgt := 594) hx hb dL_built_590 (by decide) ?_
                                                    have h := Option.some.inj h
                                                    subst h
                                                    refine W.widen (k := (cc + 21)) (n := (ss + 126)) (by omega) (by omega) ?_
                                                    exact JJ594 H locs ls hP hS (lv_sub hl [1, 2, 3, 4, 5, 6, 8, 9, 0] rfl)
                                                · replace h := (if_neg c56).symm.trans h
                                                  refine lv_iconst (v := 2) hx hb dL_built_576 (by decide) ?_
                                                  refine lv_goto (tgt := 594) hx hb dL_built_577 (by decide) ?_
                                                  have h := Option.some.inj h
                                                  subst h
                                                  refine W.widen (k := (cc + 21)) (n := (ss + 126)) (by omega) (by omega) ?_
                                                  exact JJ594 H locs ls hP hS (lv_sub hl [1, 2, 3, 4, 5, 6, 8, 9, 0] rfl)
                                              clear h
                                              replace h := haa565_54
                                              clear haa565_54
                                              refine lv_if_ne (tgt := 545) hx hb dL_built_537 (by decide) (fun c52 => ?_) (fun c52 => ?_)
                                              · replace h := (if_neg c52).symm.trans h
                                                refine lv_iload hx hb dL_built_545 (lv_at hl 9 rfl) ?_
                                                refine lv_iconst (v := 2) hx hb dL_built_547 (by decide) ?_
                                                obtain ⟨a565_53, haa565_53, h⟩ := bd_some h
                                                have JJ565 : ∀ (H : Heap) (locs : List Loc) (ls : Array Slot), va_P D vwCl (GAW cI cC cZ cQ q w a565_53.1) H → va_S (fG q s.heap.size) s.heap H locs → lv_has ls 18 [(0, .ref q), (1, .int x1), (2, .int x2), (3, .ref w), (4, .long a467_45.2.1), (6, .long a467_45.2.2), (8, .int x8), (9, .int 1), (10, .int x10)] → W p l e ({ frames := 9, cells := 1173, slots := 7036, locals := 150 } : Room) s m ([.ref q] : List Value).toArray below meth c H locs (cc + 21) (ss + 126) (MQ below (va_Qi (fun r (_ : Unit) => r = 1) (fun _ t => va_P D vwCl (GW cI cC cZ cQ q R) t.heap) (fIv q 201)) ([.ref q] : List Value).toArray s 1173 7036 (fIv q 201)) (F0 m 565 ls [.long a565_53.2]) := by
                                                  intro H locs ls hP hS hl
                                                  have h := Option.some.inj h
                                                  subst h
                                                  refine W.widen (k := (cc + 21)) (n := (ss + 126)) (by omega) (by omega) ?_
                                                  exact JJ565 H locs ls hP hS (lv_sub hl [0, 1, 2, 3, 4, 5, 6, 7, 8] rfl)
                                                clear h
                                                replace h := haa565_53
                                                clear haa565_53
                                                refine lv_icmp_ne (tgt := 562) hx hb dL_built_548 (by decide) (fun c53 => ?_) (fun c53 => ?_)
                                                · replace h := (if_neg c53).symm.trans h
                                                  refine lv_ldc2 (v := (-9)) hx hb hown (hts (.constantLong RL 193 (-9)) (by decide +kernel)) dL_built_562 ?_
                                                  have h := Option.some.inj h
                                                  subst h
                                                  refine W.widen (k := (cc + 21)) (n := (ss + 126)) (by omega) (by omega) ?_
                                                  exact JJ565 H locs ls hP hS (lv_sub hl [1, 2, 3, 4, 5, 6, 7, 0, 8] rfl)
                                                · replace h := (if_pos c53).symm.trans h
                                                  refine lv_aload_n hx hb dL_built_551 rfl (lv_at hl 1 rfl) ?_
                                                  refine lv_iload hx hb dL_built_552 (lv_at hl 8 rfl) ?_
                                                  refine lv_bipush (v := 7) hx hb dL_built_554 (by decide) ?_
                                                  obtain ⟨r556, hr556, h⟩ := bd_some h
                                                  refine gww_l (As := [.ref q, .int x10, .int 7]) (rest := []) (k2 := (cc + 21)) (n2 := (ss + 126)) ⟨hx, hb, hml, hown, hts⟩ (gEnw_now hE hS (fG_lo hlo hqs)) hK (kL_grip l D cI cC cZ cQ cJ t lo q r513.2 x10 7 hlo hlS hr556) (vx_cwSW 3 hts gL_built_L_grip rfl rfl rfl (by decide +kernel) ⟨Nat.le_of_ble_eq_true rfl, Nat.le_of_ble_eq_true rfl⟩) (gL hP) hS (fun _ h9 => Or.inl h9) rfl hl.1 rfl (Nat.le_of_ble_eq_true rfl) ⟨by show _ ≤ (1173 : Nat); omega, by show _ ≤ (7036 : Nat); omega⟩ rfl rfl dL_built_556 (fun H1 locs hP1 hS hz1 hk1 => ?_)
                                                  have hP : va_P D vwCl (GAW cI cC cZ cQ q w (r556.2, (bF a492_48))) H1 := GAW_G (X := (r513.2, (bF a492_48))) hqw hP hP1 hk1
                                                  generalize H1 = H at hP hS ⊢
                                                  refine lv_goto (tgt := 565) hx hb dL_built_559 (by decide) ?_
                                                  have h := Option.some.inj h
                                                  subst h
                                                  refine W.widen (k := (cc + 21)) (n := (ss + 126)) (by omega) (by omega) ?_
                                                  exact JJ565 H locs ls hP hS (lv_sub hl [1, 2, 3, 4, 5, 6, 7, 0, 8] rfl)
                                              · replace h := (if_pos c52).symm.trans h
                                                refine lv_lload hx hb dL_built_540 (lv_at hl 10 rfl) ?_
                                                refine lv_goto (tgt := 565) hx hb dL_built_542 (by decide) ?_
                                                have h := Option.some.inj h
                                                subst h
                                                refine W.widen (k := (cc + 21)) (n := (ss + 126)) (by omega) (by omega) ?_
                                                exact JJ565 H locs ls hP hS (lv_sub hl [1, 2, 3, 4, 5, 6, 7, 0, 8] rfl)
                                        clear h
                                        replace h := haa492_48
                                        clear haa492_48
                                        refine lv_if_eq (tgt := 492) hx hb dL_built_474 (by decide) (fun c47 => ?_) (fun c47 => ?_)
                                        · replace h := (if_pos c47).symm.trans h
                                          have h := Option.some.inj h
                                          subst h
                                          refine W.widen (k := (cc + 18)) (n := (ss + 108)) (by omega) (by omega) ?_
                                          exact JJ492 H locs ls hP hS (lv_sub hl [0, 1, 2, 3, 4, 5, 6, 8, 9, 10] rfl)
                                        · replace h := (if_neg c47).symm.trans h
                                          refine lv_aload_n hx hb dL_built_477 rfl (lv_at hl 0 rfl) ?_
                                          refine lv_iload hx hb dL_built_478 (lv_at hl 6 rfl) ?_
                                          refine lv_iconst (v := 1) hx hb dL_built_480 (by decide) ?_
                                          refine lv_isub hx hb dL_built_481 ?_
                                          obtain ⟨r482, hr482, h⟩ := bd_some h
                                          refine gww_l (As := [.ref q, .int (x8 - 1)]) (rest := []) (k2 := (cc + 18)) (n2 := (ss + 108)) ⟨hx, hb, hml, hown, hts⟩ (gEnw_now hE hS (fG_lo hlo hqs)) hK (kL_report l D cI cC cZ cQ cJ t lo q (bI a467_45.1) (x8 - 1) hlo hlS hr482) (vx_cwSW 2 hts gL_built_L_report rfl rfl rfl (by decide +kernel) ⟨Nat.le_of_ble_eq_true rfl, Nat.le_of_ble_eq_true rfl⟩) (gL hP) hS (fun _ h9 => Or.inl h9) rfl hl.1 rfl (Nat.le_of_ble_eq_true rfl) ⟨by show _ ≤ (1173 : Nat); omega, by show _ ≤ (7036 : Nat); omega⟩ rfl rfl dL_built_482 (fun H1 locs hP1 hS hz1 hk1 => ?_)
                                          have hP : va_P D vwCl (GAW cI cC cZ cQ q w (r482.2, (bF a467_45.1))) H1 := GAW_G (X := a467_45.1) hqw hP hP1 hk1
                                          generalize H1 = H at hP hS ⊢
                                          refine lv_ldc2 (v := 32) hx hb hown (hts (.constantLong RL 203 (32)) (by decide +kernel)) dL_built_485 ?_
                                          refine W.lcmp hx hb dL_built_488 ?_
                                          refine lv_if_ne (tgt := 532) hx hb dL_built_489 (by decide) (fun c48 => ?_) (fun c48 => ?_)
                                          · replace h := (if_neg c48).symm.trans h
                                            exact no_some h
                                          · replace h := (if_pos c48).symm.trans h
                                            have h := Option.some.inj h
                                            subst h
                                            refine W.widen (k := (cc + 18)) (n := (ss + 108)) (by omega) (by omega) ?_
                                            exact JJ492 H locs ls hP hS (lv_sub hl [0, 1, 2, 3, 4, 5, 6, 8, 9, 10] rfl)
                                      clear h
                                      replace h := haa467_45
                                      clear haa467_45
                                      refine lv_if_ne (tgt := 467) hx hb dL_built_356 (by decide) (fun c32 => ?_) (fun c32 => ?_)
                                      · replace h := (if_neg c32).symm.trans h
                                        have h := Option.some.inj h
                                        subst h
                                        refine W.widen (k := (cc + 17)) (n := (ss + 102)) (by omega) (by omega) ?_
                                        exact JJ467 H locs ls hP hS (lv_sub hl [1, 2, 3, 4, 5, 6, 7, 0, 8, 9, 10] rfl)
                                      · replace h := (if_pos c32).symm.trans h
                                        refine lv_iload hx hb dL_built_359 (lv_at hl 0 rfl) ?_
                                        refine lv_if_eq (tgt := 467) hx hb dL_built_361 (by decide) (fun c => absurd c (by decide)) (fun _ => ?_)
                                        refine lv_lload hx hb dL_built_364 (lv_at hl 11 rfl) ?_
                                        refine lv_lconst (v := 1) hx hb dL_built_366 (by decide) ?_
                                        refine lv_iload_n hx hb dL_built_367 rfl (lv_at hl 2 rfl) ?_
                                        refine lv_i2l hx hb dL_built_368 rfl ?_
                                        obtain ⟨r369, hr369, h⟩ := bd_some h
                                        refine gc_si (As := [.long r284.1, .long 1, .long ((x1).toInt64)]) (rest := []) (B := fun _ => True) ⟨hx, hb, hml, hown, hts⟩ hK (kL_in l D cI cC cZ cQ cJ r284.1 1 ((x1).toInt64) hr369) (va_cwS 3 hts gL_built_L_in rfl rfl rfl (by decide +kernel) ⟨Nat.le_of_ble_eq_true rfl, Nat.le_of_ble_eq_true rfl⟩) trivial rfl hl.1 rfl (Nat.le_of_ble_eq_true rfl) ⟨by show _ ≤ (1173 : Nat); omega, by show _ ≤ (7036 : Nat); omega⟩ dL_built_369 ?_
                                        refine lv_if_eq (tgt := 431) hx hb dL_built_372 (by decide) (fun c33 => ?_) (fun c33 => ?_)
                                        · replace h := (if_pos c33).symm.trans h
                                          exact no_some h
                                        · replace h := (if_neg c33).symm.trans h
                                          refine lv_aload_n hx hb dL_built_375 rfl (lv_at hl 1 rfl) ?_
                                          refine lv_lload hx hb dL_built_376 (lv_at hl 10 rfl) ?_
                                          refine lv_lload hx hb dL_built_378 (lv_at hl 11 rfl) ?_
                                          refine lv_ladd hx hb dL_built_380 ?_
                                          refine lv_topl (fun yv34 eyv34 => ?_)
                                          rw [← eyv34] at h
                                          refine lv_l2i hx hb dL_built_381 rfl ?_
                                          refine lv_iload_n hx hb dL_built_382 rfl (lv_at hl 2 rfl) ?_
                                          obtain ⟨hn35, h⟩ := nz_some h
                                          refine lv_irem hx hb dL_built_383 hn35 ?_
                                          obtain ⟨r384, hr384, h⟩ := bd_some h
                                          refine gww_l (As := [.ref q, .int (((yv34).toInt32) - ((yv34).toInt32) / x1 * x1)]) (rest := []) (k2 := (cc + 14)) (n2 := (ss + 84)) ⟨hx, hb, hml, hown, hts⟩ (gEnw_now hE hS (fG_lo hlo hqs)) hK (kL_slot l D cI cC cZ cQ cJ t lo q r319.2 (((yv34).toInt32) - ((yv34).toInt32) / x1 * x1) hlo hlS hr384) (vx_cwSW 2 hts gL_built_L_slot rfl rfl rfl (by decide +kernel) ⟨Nat.le_of_ble_eq_true rfl, Nat.le_of_ble_eq_true rfl⟩) (gL hP) hS (fun _ h9 => Or.inl h9) rfl hl.1 rfl (Nat.le_of_ble_eq_true rfl) ⟨by show _ ≤ (1173 : Nat); omega, by show _ ≤ (7036 : Nat); omega⟩ rfl rfl dL_built_384 (fun H1 locs hP1 hS hz1 hk1 => ?_)
                                          have hP : va_P D vwCl (GAW cI cC cZ cQ q w (r384.2, (upd (bF a259_19) (((r48.1).toInt32)).toNatClampNeg (((bF a259_19) (((r48.1).toInt32)).toNatClampNeg) + 1)))) H1 := GAW_G (X := (r319.2, (upd (bF a259_19) (((r48.1).toInt32)).toNatClampNeg (((bF a259_19) (((r48.1).toInt32)).toNatClampNeg) + 1)))) hqw hP hP1 hk1
                                          generalize H1 = H at hP hS ⊢
                                          refine lv_ldc2 (v := (-9)) hx hb hown (hts (.constantLong RL 193 (-9)) (by decide +kernel)) dL_built_387 ?_
                                          refine W.lcmp hx hb dL_built_390 ?_
                                          refine lv_if_eq (tgt := 431) hx hb dL_built_391 (by decide) (fun c36 => ?_) (fun c36 => ?_)
                                          · replace h := (if_pos c36).symm.trans h
                                            exact no_some h
                                          · replace h := (if_neg c36).symm.trans h
                                            refine lv_aload_n hx hb dL_built_394 rfl (lv_at hl 1 rfl) ?_
                                            refine lv_iload hx hb dL_built_395 (lv_at hl 8 rfl) ?_
                                            obtain ⟨r397, hr397, h⟩ := bd_some h
                                            refine gww_l (As := [.ref q, .int x10]) (rest := []) (k2 := (cc + 15)) (n2 := (ss + 90)) ⟨hx, hb, hml, hown, hts⟩ (gEnw_now hE hS (fG_lo hlo hqs)) hK (kL_dueAfter l D cI cC cZ cQ cJ t lo q r384.2 x10 hlo hlS hr397) (vx_cwSW 2 hts gL_built_L_dueAfter rfl rfl rfl (by decide +kernel) ⟨Nat.le_of_ble_eq_true rfl, Nat.le_of_ble_eq_true rfl⟩) (gL hP) hS (fun _ h9 => Or.inl h9) rfl hl.1 rfl (Nat.le_of_ble_eq_true rfl) ⟨by show _ ≤ (1173 : Nat); omega, by show _ ≤ (7036 : Nat); omega⟩ rfl rfl dL_built_397 (fun H1 locs hP1 hS hz1 hk1 => ?_)
                                            have hP : va_P D vwCl (GAW cI cC cZ cQ q w (r397.2, (upd (bF a259_19) (((r48.1).toInt32)).toNatClampNeg (((bF a259_19) (((r48.1).toInt32)).toNatClampNeg) + 1)))) H1 := GAW_G (X := (r384.2, (upd (bF a259_19) (((r48.1).toInt32)).toNatClampNeg (((bF a259_19) (((r48.1).toInt32)).toNatClampNeg) + 1)))) hqw hP hP1 hk1
                                            generalize H1 = H at hP hS ⊢
                                            refine lv_lconst (v := 1) hx hb dL_built_400 (by decide) ?_
                                            refine W.lcmp hx hb dL_built_401 ?_
                                            refine lv_if_lt (tgt := 431) hx hb dL_built_402 (by decide) (fun c37 => ?_) (fun c37 => ?_)
                                            · replace h := (if_pos c37).symm.trans h
                                              exact no_some h
                                            · replace h := (if_neg c37).symm.trans h
                                              refine lv_aload_n hx hb dL_built_405 rfl (lv_at hl 1 rfl) ?_
                                              refine lv_iload hx hb dL_built_406 (lv_at hl 8 rfl) ?_
                                              obtain ⟨r408, hr408, h⟩ := bd_some h
                                              refine gww_l (As := [.ref q, .int x10]) (rest := []) (k2 := (cc + 16)) (n2 := (ss + 96)) ⟨hx, hb, hml, hown, hts⟩ (gEnw_now hE hS (fG_lo hlo hqs)) hK (kL_dueAfter l D cI cC cZ cQ cJ t lo q r397.2 x10 hlo hlS hr408) (vx_cwSW 2 hts gL_built_L_dueAfter rfl rfl rfl (by decide +kernel) ⟨Nat.le_of_ble_eq_true rfl, Nat.le_of_ble_eq_true rfl⟩) (gL hP) hS (fun _ h9 => Or.inl h9) rfl hl.1 rfl (Nat.le_of_ble_eq_true rfl) ⟨by show _ ≤ (1173 : Nat); omega, by show _ ≤ (7036 : Nat); omega⟩ rfl rfl dL_built_408 (fun H1 locs hP1 hS hz1 hk1 => ?_)
                                              have hP : va_P D vwCl (GAW cI cC cZ cQ q w (r408.2, (upd (bF a259_19) (((r48.1).toInt32)).toNatClampNeg (((bF a259_19) (((r48.1).toInt32)).toNatClampNeg) + 1)))) H1 := GAW_G (X := (r397.2, (upd (bF a259_19) (((r48.1).toInt32)).toNatClampNeg (((bF a259_19) (((r48.1).toInt32)).toNatClampNeg) + 1)))) hqw hP hP1 hk1
                                              generalize H1 = H at hP hS ⊢
                                              refine lv_aload_n hx hb dL_built_411 rfl (lv_at hl 1 rfl) ?_
                                              refine lv_bipush (v := 6) hx hb dL_built_412 (by decide) ?_
                                              obtain ⟨r414, hr414, h⟩ := bd_some h
                                              refine gww_l (As := [.ref q, .int 6]) (rest := [.long r408.1]) (k2 := (cc + 17)) (n2 := (ss + 102)) ⟨hx, hb, hml, hown, hts⟩ (gEnw_now hE hS (fG_lo hlo hqs)) hK (kL_about l D cI cC cZ cQ cJ t lo q r408.2 6 hlo hlS hr414) (vx_cwSW 2 hts gL_built_L_about rfl rfl rfl (by decide +kernel) ⟨Nat.le_of_ble_eq_true rfl, Nat.le_of_ble_eq_true rfl⟩) (gL hP) hS (fun _ h9 => Or.inl h9) rfl hl.1 rfl (Nat.le_of_ble_eq_true rfl) ⟨by show _ ≤ (1173 : Nat); omega, by show _ ≤ (7036 : Nat); omega⟩ rfl rfl dL_built_414 (fun H1 locs hP1 hS hz1 hk1 => ?_)
                                              have hP : va_P D vwCl (GAW cI cC cZ cQ q w (r414.2, (upd (bF a259_19) (((r48.1).toInt32)).toNatClampNeg (((bF a259_19) (((r48.1).toInt32)).toNatClampNeg) + 1)))) H1 := GAW_G (X := (r408.2, (upd (bF a259_19) (((r48.1).toInt32)).toNatClampNeg (((bF a259_19) (((r48.1).toInt32)).toNatClampNeg) + 1)))) hqw hP hP1 hk1
                                              generalize H1 = H at hP hS ⊢
                                              refine lv_ladd hx hb dL_built_417 ?_
                                              refine lv_topl (fun yv38 eyv38 => ?_)
                                              rw [← eyv38] at h
                                              refine lv_iload_n hx hb dL_built_418 rfl (lv_at hl 2 rfl) ?_
                                              refine lv_i2l hx hb dL_built_419 rfl ?_
                                              obtain ⟨hn39, h⟩ := nzl_some h
                                              refine lv_lrem hx hb dL_built_420 hn39 ?_
                                              refine lv_lload hx hb dL_built_421 (lv_at hl 10 rfl) ?_
                                              refine W.lcmp hx hb dL_built_423 ?_
                                              refine lv_if_ne (tgt := 431) hx hb dL_built_424 (by decide) (fun c40 => ?_) (fun c40 => ?_)
                                              · replace h := (if_neg c40).symm.trans h
                                                exact no_some h
                                              · replace h := (if_pos c40).symm.trans h
                                                refine lv_iconst (v := 1) hx hb dL_built_427 (by decide) ?_
                                                refine lv_goto (tgt := 432) hx hb dL_built_428 (by decide) ?_
                                                refine lv_istore (lv' := [(9, .int 1), (0, .ref q), (1, .int x1), (2, .int x2), (3, .ref w), (4, .long x4), (6, .long x6), (8, .int x8), (10, .int x10), (11, .int ((r48.1).toInt32)), (12, .long r59.1), (14, .long r284.1)]) hx hb dL_built_432 hl (by decide) rfl (fun ls hl => ?_)
                                                refine lv_lload hx hb dL_built_434 (lv_at hl 5 rfl) ?_
                                                refine lv_lload hx hb dL_built_436 (lv_at hl 11 rfl) ?_
                                                refine lv_ladd hx hb dL_built_438 ?_
                                                refine lv_topl (fun yv41 eyv41 => ?_)
                                                rw [← eyv41] at h
                                                refine lv_lstore (lv' := [(4, .long yv41), (9, .int 1), (0, .ref q), (1, .int x1), (2, .int x2), (3, .ref w), (6, .long x6), (8, .int x8), (10, .int x10), (11, .int ((r48.1).toInt32)), (12, .long r59.1), (14, .long r284.1)]) hx hb dL_built_439 hl (by decide) rfl (fun ls hl => ?_)
                                                refine lv_lload hx hb dL_built_441 (lv_at hl 6 rfl) ?_
                                                refine lv_ldc2 (v := (-9)) hx hb hown (hts (.constantLong RL 193 (-9)) (by decide +kernel)) dL_built_443 ?_
                                                refine W.lcmp hx hb dL_built_446 ?_
                                                obtain ⟨a465_44, haa465_44, h⟩ := bd_some h
                                                have JJ465 : ∀ (H : Heap) (locs : List Loc) (ls : Array Slot), va_P D vwCl (GAW cI cC cZ cQ q w (r414.2, (upd (bF a259_19) (((r48.1).toInt32)).toNatClampNeg (((bF a259_19) (((r48.1).toInt32)).toNatClampNeg) + 1)))) H → va_S (fG q s.heap.size) s.heap H locs → lv_has ls 18 [(0, .ref q), (1, .int x1), (2, .int x2), (3, .ref w), (4, .long yv41), (8, .int x8), (9, .int 1), (10, .int x10), (11, .int ((r48.1).toInt32)), (12, .long r59.1)] → W p l e ({ frames := 9, cells := 1173, slots := 7036, locals := 150 } : Room) s m ([.ref q] : List Value).toArray below meth c H locs (cc + 17) (ss + 102) (MQ below (va_Qi (fun r (_ : Unit) => r = 1) (fun _ t => va_P D vwCl (GW cI cC cZ cQ q R) t.heap) (fIv q 201)) ([.ref q] : List Value).toArray s 1173 7036 (fIv q 201)) (F0 m 465 ls [.long a465_44]) := by
                                                  intro H locs ls hP hS hl
                                                  refine lv_lstore (lv' := [(6, .long a465_44), (0, .ref q), (1, .int x1), (2, .int x2), (3, .ref w), (4, .long yv41), (8, .int x8), (9, .int 1), (10, .int x10), (11, .int ((r48.1).toInt32)), (12, .long r59.1)]) hx hb dL_built_465 hl (by decide) rfl (fun ls hl => ?_)
                                                  have h := Option.some.inj h
                                                  subst h
                                                  refine W.widen (k := (cc + 17)) (n := (ss + 102)) (by omega) (by omega) ?_
                                                  exact JJ467 H locs ls hP hS (lv_sub hl [1, 2, 3, 4, 5, 0, 6, 7, 8, 9, 10] rfl)
                                                clear h
                                                replace h := haa465_44
                                                clear haa465_44
                                                refine lv_if_eq (tgt := 458) hx hb dL_built_447 (by decide) (fun c42 => ?_) (fun c42 => ?_)
                                                · replace h := (if_pos c42).symm.trans h
                                                  refine lv_lload hx hb dL_built_458 (lv_at hl 11 rfl) ?_
                                                  refine lv_goto (tgt := 465) hx hb dL_built_460 (by decide) ?_
                                                  have h := Option.some.inj h
                                                  subst h
                                                  refine W.widen (k := (cc + 17)) (n := (ss + 102)) (by omega) (by omega) ?_
                                                  exact JJ465 H locs ls hP hS (lv_sub hl [2, 3, 4, 5, 0, 7, 1, 8, 9, 10] rfl)
                                                · replace h := (if_neg c42).symm.trans h
                                                  refine lv_lload hx hb dL_built_450 (lv_at hl 11 rfl) ?_
                                                  refine lv_lload hx hb dL_built_452 (lv_at hl 6 rfl) ?_
                                                  refine W.lcmp hx hb dL_built_454 ?_
                                                  obtain ⟨a465_43, haa465_43, h⟩ := bd_some h
                                                  have JJ465 : ∀ (H : Heap) (locs : List Loc) (ls : Array Slot), va_P D vwCl (GAW cI cC cZ cQ q w (r414.2, (upd (bF a259_19) (((r48.1).toInt32)).toNatClampNeg (((bF a259_19) (((r48.1).toInt32)).toNatClampNeg) + 1)))) H → va_S (fG q s.heap.size) s.heap H locs → lv_has ls 18 [(0, .ref q), (1, .int x1), (2, .int x2), (3, .ref w), (4, .long yv41), (8, .int x8), (9, .int 1), (10, .int x10), (11, .int ((r48.1).toInt32)), (12, .long r59.1)] → W p l e ({ frames := 9, cells := 1173, slots := 7036, locals := 150 } : Room) s m ([.ref q] : List Value).toArray below meth c H locs (cc + 17) (ss + 102) (MQ below (va_Qi (fun r (_ : Unit) => r = 1) (fun _ t => va_P D vwCl (GW cI cC cZ cQ q R) t.heap) (fIv q 201)) ([.ref q] : List Value).toArray s 1173 7036 (fIv q 201)) (F0 m 465 ls [.long a465_43]) := by
                                                    intro H locs ls hP hS hl
                                                    have h := Option.some.inj h
                                                    subst h
                                                    refine W.widen (k := (cc + 17)) (n := (ss + 102)) (by omega) (by omega) ?_
                                                    exact JJ465 H locs ls hP hS (lv_sub hl [0, 1, 2, 3, 4, 5, 6, 7, 8, 9] rfl)
                                                  clear h
                                                  replace h := haa465_43
                                                  clear haa465_43
                                                  refine lv_if_ge (tgt := 463) hx hb dL_built_455 (by decide) (fun c43 => ?_) (fun c43 => ?_)
                                                  · replace h := (if_pos c43).symm.trans h
                                                    refine lv_lload hx hb dL_built_463 (lv_at hl 6 rfl) ?_
                                                    have h := Option.some.inj h
                                                    subst h
                                                    refine W.widen (k := (cc + 17)) (n := (ss + 102)) (by omega) (by omega) ?_
                                                    exact JJ465 H locs ls hP hS (lv_sub hl [2, 3, 4, 5, 0, 7, 1, 8, 9, 10] rfl)
                                                  · replace h := (if_neg c43).symm.trans h
                                                    refine lv_lload hx hb dL_built_458 (lv_at hl 11 rfl) ?_
                                                    refine lv_goto (tgt := 465) hx hb dL_built_460 (by decide) ?_
                                                    have h := Option.some.inj h
                                                    subst h
                                                    refine W.widen (k := (cc + 17)) (n := (ss + 102)) (by omega) (by omega) ?_
                                                    exact JJ465 H locs ls hP hS (lv_sub hl [2, 3, 4, 5, 0, 7, 1, 8, 9, 10] rfl)
                                  clear h
                                  replace h := haa344_29
                                  clear haa344_29
                                  refine lv_if_eq (tgt := 343) hx hb dL_built_336 (by decide) (fun c29 => ?_) (fun c29 => ?_)
                                  · replace h := (if_pos c29).symm.trans h
                                    refine lv_iconst (v := 0) hx hb dL_built_343 (by decide) ?_
                                    have h := Option.some.inj h
                                    subst h
                                    refine W.widen (k := (cc + 13)) (n := (ss + 78)) (by omega) (by omega) ?_
                                    exact JJ344 H locs ls hP hS (lv_sub hl [0, 1, 2, 3, 4, 5, 6, 7, 8, 9, 10] rfl)
                                  · replace h := (if_neg c29).symm.trans h
                                    refine lv_iconst (v := 1) hx hb dL_built_339 (by decide) ?_
                                    refine lv_goto (tgt := 344) hx hb dL_built_340 (by decide) ?_
                                    have h := Option.some.inj h
                                    subst h
                                    refine W.widen (k := (cc + 13)) (n := (ss + 78)) (by omega) (by omega) ?_
                                    exact JJ344 H locs ls hP hS (lv_sub hl [0, 1, 2, 3, 4, 5, 6, 7, 8, 9, 10] rfl)
                                clear h
                                replace h := haa334_27
                                clear haa334_27
                                refine lv_if_ne (tgt := 333) hx hb dL_built_326 (by decide) (fun c27 => ?_) (fun c27 => ?_)
                                · replace h := (if_neg c27).symm.trans h
                                  refine lv_iconst (v := 0) hx hb dL_built_333 (by decide) ?_
                                  have h := Option.some.inj h
                                  subst h
                                  refine W.widen (k := (cc + 13)) (n := (ss + 78)) (by omega) (by omega) ?_
                                  exact JJ334 H locs ls hP hS (lv_sub hl [0, 1, 2, 3, 4, 5, 6, 7, 8, 9, 10] rfl)
                                · replace h := (if_pos c27).symm.trans h
                                  refine lv_iconst (v := 1) hx hb dL_built_329 (by decide) ?_
                                  refine lv_goto (tgt := 334) hx hb dL_built_330 (by decide) ?_
                                  have h := Option.some.inj h
                                  subst h
                                  refine W.widen (k := (cc + 13)) (n := (ss + 78)) (by omega) (by omega) ?_
                                  exact JJ334 H locs ls hP hS (lv_sub hl [0, 1, 2, 3, 4, 5, 6, 7, 8, 9, 10] rfl)
                            clear h
                            replace h := haa313_24
                            clear haa313_24
                            refine lv_if_eq (tgt := 312) hx hb dL_built_305 (by decide) (fun c24 => ?_) (fun c24 => ?_)
                            · replace h := (if_pos c24).symm.trans h
                              refine lv_iconst (v := 0) hx hb dL_built_312 (by decide) ?_
                              have h := Option.some.inj h
                              subst h
                              refine W.widen (k := (cc + 12)) (n := (ss + 72)) (by omega) (by omega) ?_
                              exact JJ313 H locs ls hP hS (lv_sub hl [0, 1, 2, 3, 4, 5, 6, 7, 8, 9, 10] rfl)
                            · replace h := (if_neg c24).symm.trans h
                              refine lv_iconst (v := 1) hx hb dL_built_308 (by decide) ?_
                              refine lv_goto (tgt := 313) hx hb dL_built_309 (by decide) ?_
                              have h := Option.some.inj h
                              subst h
                              refine W.widen (k := (cc + 12)) (n := (ss + 72)) (by omega) (by omega) ?_
                              exact JJ313 H locs ls hP hS (lv_sub hl [0, 1, 2, 3, 4, 5, 6, 7, 8, 9, 10] rfl)
                          clear h
                          replace h := haa303_22
                          clear haa303_22
                          refine lv_if_ne (tgt := 302) hx hb dL_built_295 (by decide) (fun c22 => ?_) (fun c22 => ?_)
                          · replace h := (if_neg c22).symm.trans h
                            refine lv_iconst (v := 0) hx hb dL_built_302 (by decide) ?_
                            have h := Option.some.inj h
                            subst h
                            refine W.widen (k := (cc + 12)) (n := (ss + 72)) (by omega) (by omega) ?_
                            exact JJ303 H locs ls hP hS (lv_sub hl [2, 3, 4, 5, 6, 7, 8, 9, 10, 11, 0] rfl)
                          · replace h := (if_pos c22).symm.trans h
                            refine lv_iconst (v := 1) hx hb dL_built_298 (by decide) ?_
                            refine lv_goto (tgt := 303) hx hb dL_built_299 (by decide) ?_
                            have h := Option.some.inj h
                            subst h
                            refine W.widen (k := (cc + 12)) (n := (ss + 72)) (by omega) (by omega) ?_
                            exact JJ303 H locs ls hP hS (lv_sub hl [2, 3, 4, 5, 6, 7, 8, 9, 10, 11, 0] rfl)
                        clear h
                        replace h := haa259_19
                        clear haa259_19
                        refine lv_icmp_ne (tgt := 244) hx hb dL_built_220 (by decide) (fun c17 => ?_) (fun c17 => ?_)
                        · replace h := (if_neg c17).symm.trans h
                          refine lv_aload_n hx hb dL_built_244 rfl (lv_at hl 0 rfl) ?_
                          refine lv_iload hx hb dL_built_245 (lv_at hl 7 rfl) ?_
                          refine lv_bipush (v := 7) hx hb dL_built_247 (by decide) ?_
                          obtain ⟨r249, hr249, h⟩ := bd_some h
                          refine gww_l (As := [.ref q, .int x10, .int 7]) (rest := []) (k2 := (cc + 11)) (n2 := (ss + 66)) ⟨hx, hb, hml, hown, hts⟩ (gEnw_now hE hS (fG_lo hlo hqs)) hK (kL_grip l D cI cC cZ cQ cJ t lo q (bI a217_15) x10 7 hlo hlS hr249) (vx_cwSW 3 hts gL_built_L_grip rfl rfl rfl (by decide +kernel) ⟨Nat.le_of_ble_eq_true rfl, Nat.le_of_ble_eq_true rfl⟩) (gL hP) hS (fun _ h9 => Or.inl h9) rfl hl.1 rfl (Nat.le_of_ble_eq_true rfl) ⟨by show _ ≤ (1173 : Nat); omega, by show _ ≤ (7036 : Nat); omega⟩ rfl rfl dL_built_249 (fun H1 locs hP1 hS hz1 hk1 => ?_)
                          have hP : va_P D vwCl (GAW cI cC cZ cQ q w (r249.2, (bF a217_15))) H1 := GAW_G (X := a217_15) hqw hP hP1 hk1
                          generalize H1 = H at hP hS ⊢
                          refine lv_ldc2 (v := (-9)) hx hb hown (hts (.constantLong RL 193 (-9)) (by decide +kernel)) dL_built_252 ?_
                          refine W.lcmp hx hb dL_built_255 ?_
                          refine lv_if_ne (tgt := 263) hx hb dL_built_256 (by decide) (fun c18 => ?_) (fun c18 => ?_)
                          · replace h := (if_neg c18).symm.trans h
                            exact no_some h
                          · replace h := (if_pos c18).symm.trans h
                            have h := Option.some.inj h
                            subst h
                            refine W.widen (k := (cc + 11)) (n := (ss + 66)) (by omega) (by omega) ?_
                            exact JJ259 H locs ls hP hS (lv_sub hl [0, 1, 2, 3, 4, 5, 6, 7, 8, 9] rfl)
                        · replace h := (if_pos c17).symm.trans h
                          refine lv_aload_n hx hb dL_built_223 rfl (lv_at hl 0 rfl) ?_
                          refine lv_iload hx hb dL_built_224 (lv_at hl 7 rfl) ?_
                          refine lv_bipush (v := 7) hx hb dL_built_226 (by decide) ?_
                          obtain ⟨r228, hr228, h⟩ := bd_some h
                          refine gww_l (As := [.ref q, .int x10, .int 7]) (rest := []) (k2 := (cc + 11)) (n2 := (ss + 66)) ⟨hx, hb, hml, hown, hts⟩ (gEnw_now hE hS (fG_lo hlo hqs)) hK (kL_grip l D cI cC cZ cQ cJ t lo q (bI a217_15) x10 7 hlo hlS hr228) (vx_cwSW 3 hts gL_built_L_grip rfl rfl rfl (by decide +kernel) ⟨Nat.le_of_ble_eq_true rfl, Nat.le_of_ble_eq_true rfl⟩) (gL hP) hS (fun _ h9 => Or.inl h9) rfl hl.1 rfl (Nat.le_of_ble_eq_true rfl) ⟨by show _ ≤ (1173 : Nat); omega, by show _ ≤ (7036 : Nat); omega⟩ rfl rfl dL_built_228 (fun H1 locs hP1 hS hz1 hk1 => ?_)
                          have hP : va_P D vwCl (GAW cI cC cZ cQ q w (r228.2, (bF a217_15))) H1 := GAW_G (X := a217_15) hqw hP hP1 hk1
                          generalize H1 = H at hP hS ⊢
                          refine lv_lconst (v := 1) hx hb dL_built_231 (by decide) ?_
                          refine lv_ldc2 (v := 9) hx hb hown (hts (.constantLong RL 201 (9)) (by decide +kernel)) dL_built_232 ?_
                          obtain ⟨r235, hr235, h⟩ := bd_some h
                          refine gc_si (As := [.long r228.1, .long 1, .long 9]) (rest := []) (B := fun _ => True) ⟨hx, hb, hml, hown, hts⟩ hK (kL_in l D cI cC cZ cQ cJ r228.1 1 9 hr235) (va_cwS 3 hts gL_built_L_in rfl rfl rfl (by decide +kernel) ⟨Nat.le_of_ble_eq_true rfl, Nat.le_of_ble_eq_true rfl⟩) trivial rfl hl.1 rfl (Nat.le_of_ble_eq_true rfl) ⟨by show _ ≤ (1173 : Nat); omega, by show _ ≤ (7036 : Nat); omega⟩ dL_built_235 ?_
                          refine lv_if_eq (tgt := 263) hx hb dL_built_238 (by decide) (fun c19 => ?_) (fun c19 => ?_)
                          · replace h := (if_pos c19).symm.trans h
                            exact no_some h
                          · replace h := (if_neg c19).symm.trans h
                            refine lv_goto (tgt := 259) hx hb dL_built_241 (by decide) ?_
                            have h := Option.some.inj h
                            subst h
                            refine W.widen (k := (cc + 11)) (n := (ss + 66)) (by omega) (by omega) ?_
                            exact JJ259 H locs ls hP hS (lv_sub hl [0, 1, 2, 3, 4, 5, 6, 7, 8, 9] rfl)
                      clear h
                      replace h := haa217_15
                      clear haa217_15
                      refine lv_if_ne (tgt := 208) hx hb dL_built_175 (by decide) (fun c12 => ?_) (fun c12 => ?_)
                      · replace h := (if_neg c12).symm.trans h
                        refine lv_lload hx hb dL_built_208 (lv_at hl 9 rfl) ?_
                        refine lv_ldc2 (v := (-9)) hx hb hown (hts (.constantLong RL 193 (-9)) (by decide +kernel)) dL_built_210 ?_
                        refine W.lcmp hx hb dL_built_213 ?_
                        refine lv_if_ne (tgt := 263) hx hb dL_built_214 (by decide) (fun c13 => ?_) (fun c13 => ?_)
                        · replace h := (if_neg c13).symm.trans h
                          exact no_some h
                        · replace h := (if_pos c13).symm.trans h
                          have h := Option.some.inj h
                          subst h
                          refine W.widen (k := (cc + 10)) (n := (ss + 60)) (by omega) (by omega) ?_
                          exact JJ217 H locs ls hP hS (lv_sub hl [0, 1, 2, 3, 4, 5, 6, 7, 8, 9] rfl)
                      · replace h := (if_pos c12).symm.trans h
                        refine lv_lload hx hb dL_built_178 (lv_at hl 9 rfl) ?_
                        refine lv_lconst (v := 0) hx hb dL_built_180 (by decide) ?_
                        refine lv_iload_n hx hb dL_built_181 rfl (lv_at hl 1 rfl) ?_
                        refine lv_iconst (v := 1) hx hb dL_built_182 (by decide) ?_
                        refine lv_isub hx hb dL_built_183 ?_
                        refine lv_i2l hx hb dL_built_184 rfl ?_
                        obtain ⟨r185, hr185, h⟩ := bd_some h
                        refine gc_si (As := [.long r59.1, .long 0, .long (((x1 - 1)).toInt64)]) (rest := []) (B := fun _ => True) ⟨hx, hb, hml, hown, hts⟩ hK (kL_in l D cI cC cZ cQ cJ r59.1 0 (((x1 - 1)).toInt64) hr185) (va_cwS 3 hts gL_built_L_in rfl rfl rfl (by decide +kernel) ⟨Nat.le_of_ble_eq_true rfl, Nat.le_of_ble_eq_true rfl⟩) trivial rfl hl.1 rfl (Nat.le_of_ble_eq_true rfl) ⟨by show _ ≤ (1173 : Nat); omega, by show _ ≤ (7036 : Nat); omega⟩ dL_built_185 ?_
                        refine lv_if_eq (tgt := 263) hx hb dL_built_188 (by decide) (fun c14 => ?_) (fun c14 => ?_)
                        · replace h := (if_pos c14).symm.trans h
                          exact no_some h
                        · replace h := (if_neg c14).symm.trans h
                          refine lv_aload_n hx hb dL_built_191 rfl (lv_at hl 0 rfl) ?_
                          refine lv_lload hx hb dL_built_192 (lv_at hl 9 rfl) ?_
                          refine lv_l2i hx hb dL_built_194 rfl ?_
                          obtain ⟨r195, hr195, h⟩ := bd_some h
                          refine gww_l (As := [.ref q, .int ((r59.1).toInt32)]) (rest := []) (k2 := (cc + 10)) (n2 := (ss + 60)) ⟨hx, hb, hml, hown, hts⟩ (gEnw_now hE hS (fG_lo hlo hqs)) hK (kL_slot l D cI cC cZ cQ cJ t lo q r155.2 ((r59.1).toInt32) hlo hlS hr195) (vx_cwSW 2 hts gL_built_L_slot rfl rfl rfl (by decide +kernel) ⟨Nat.le_of_ble_eq_true rfl, Nat.le_of_ble_eq_true rfl⟩) (gL hP) hS (fun _ h9 => Or.inl h9) rfl hl.1 rfl (Nat.le_of_ble_eq_true rfl) ⟨by show _ ≤ (1173 : Nat); omega, by show _ ≤ (7036 : Nat); omega⟩ rfl rfl dL_built_195 (fun H1 locs hP1 hS hz1 hk1 => ?_)
                          have hP : va_P D vwCl (GAW cI cC cZ cQ q w (r195.2, (bF S))) H1 := GAW_G (X := (r155.2, (bF S))) hqw hP hP1 hk1
                          generalize H1 = H at hP hS ⊢
                          refine lv_iload hx hb dL_built_198 (lv_at hl 7 rfl) ?_
                          refine lv_i2l hx hb dL_built_200 rfl ?_
                          refine W.lcmp hx hb dL_built_201 ?_
                          refine lv_if_ne (tgt := 263) hx hb dL_built_202 (by decide) (fun c15 => ?_) (fun c15 => ?_)
                          · replace h := (if_neg c15).symm.trans h
                            exact no_some h
                          · replace h := (if_pos c15).symm.trans h
                            refine lv_goto (tgt := 217) hx hb dL_built_205 (by decide) ?_
                            have h := Option.some.inj h
                            subst h
                            refine W.widen (k := (cc + 10)) (n := (ss + 60)) (by omega) (by omega) ?_
                            exact JJ217 H locs ls hP hS (lv_sub hl [0, 1, 2, 3, 4, 5, 6, 7, 8, 9] rfl)
                  clear h
                  replace h := haa170_9
                  clear haa170_9
                  refine lv_if_ne (tgt := 169) hx hb dL_built_162 (by decide) (fun c9 => ?_) (fun c9 => ?_)
                  · replace h := (if_neg c9).symm.trans h
                    refine lv_iconst (v := 0) hx hb dL_built_169 (by decide) ?_
                    have h := Option.some.inj h
                    subst h
                    refine W.widen (k := (cc + 9)) (n := (ss + 54)) (by omega) (by omega) ?_
                    exact JJ170 H locs ls hP hS (lv_sub hl [0, 1, 2, 3, 4, 5, 6, 7, 8, 9] rfl)
                  · replace h := (if_pos c9).symm.trans h
                    refine lv_iconst (v := 1) hx hb dL_built_165 (by decide) ?_
                    refine lv_goto (tgt := 170) hx hb dL_built_166 (by decide) ?_
                    have h := Option.some.inj h
                    subst h
                    refine W.widen (k := (cc + 9)) (n := (ss + 54)) (by omega) (by omega) ?_
                    exact JJ170 H locs ls hP hS (lv_sub hl [0, 1, 2, 3, 4, 5, 6, 7, 8, 9] rfl)
                clear h
                replace h := haa151_7
                clear haa151_7
                refine lv_if_ne (tgt := 150) hx hb dL_built_143 (by decide) (fun c7 => ?_) (fun c7 => ?_)
                · replace h := (if_neg c7).symm.trans h
                  refine lv_iconst (v := 0) hx hb dL_built_150 (by decide) ?_
                  have h := Option.some.inj h
                  subst h
                  refine W.widen (k := (cc + 8)) (n := (ss + 48)) (by omega) (by omega) ?_
                  exact JJ151 H locs ls hP hS (lv_sub hl [2, 3, 4, 5, 6, 7, 8, 10, 1, 0] rfl)
                · replace h := (if_pos c7).symm.trans h
                  refine lv_iconst (v := 1) hx hb dL_built_146 (by decide) ?_
                  refine lv_goto (tgt := 151) hx hb dL_built_147 (by decide) ?_
                  have h := Option.some.inj h
                  subst h
                  refine W.widen (k := (cc + 8)) (n := (ss + 48)) (by omega) (by omega) ?_
                  exact JJ151 H locs ls hP hS (lv_sub hl [2, 3, 4, 5, 6, 7, 8, 10, 1, 0] rfl)
  have LP769 : ∀ (kk : (GSt × RI) → Int32 → Int32 → Option GSt) (cX sX : Nat), cX ≤ 1173 → sX ≤ 7036 → ∀ (n cc ss : Nat) (S : (GSt × RI)) (x1 : Int32) (x2 : Int32) (x10 : Int32) (H : Heap) (locs : List Loc) (ls : Array Slot), cc + n * 1 ≤ cX → ss + n * 6 ≤ sX → fL_built_L769 kk n S x1 x2 x10 = some R → (∀ (S : (GSt × RI)) (y1 : Int32) (y2 : Int32) (H : Heap) (locs : List Loc) (ls : Array Slot), kk S y1 y2 = some R → va_P D vwCl (GAW cI cC cZ cQ q w S) H → va_S (fG q s.heap.size) s.heap H locs → lv_has ls 18 [(0, .ref q), (1, .int y1), (2, .int y2), (9, .int 1)] → W p l e ({ frames := 9, cells := 1173, slots := 7036, locals := 150 } : Room) s m ([.ref q] : List Value).toArray below meth c H locs cX sX (MQ below (va_Qi (fun r (_ : Unit) => r = 1) (fun _ t => va_P D vwCl (GW cI cC cZ cQ q R) t.heap) (fIv q 201)) ([.ref q] : List Value).toArray s 1173 7036 (fIv q 201)) (F0 m 810 ls [])) → va_P D vwCl (GAW cI cC cZ cQ q w S) H → va_S (fG q s.heap.size) s.heap H locs → lv_has ls 18 [(0, .ref q), (1, .int x1), (2, .int x2), (3, .ref w), (9, .int 1), (10, .int x10)] → W p l e ({ frames := 9, cells := 1173, slots := 7036, locals := 150 } : Room) s m ([.ref q] : List Value).toArray below meth c H locs cc ss (MQ below (va_Qi (fun r (_ : Unit) => r = 1) (fun _ t => va_P D vwCl (GW cI cC cZ cQ q R) t.heap) (fIv q 201)) ([.ref q] : List Value).toArray s 1173 7036 (fIv q 201)) (F0 m 769 ls []) := by
    intro kk cX sX hcX hsX n
    induction n with
    | zero => intro cc ss S x1 x2 x10 H locs ls _ _ h hk hP hS hl; exact no_some h
    | succ n ih =>
      intro cc ss S x1 x2 x10 H locs ls hcc hss h hk hP hS hl
      rw [fL_built_L769] at h
      refine lv_iload hx hb dL_built_769 (lv_at hl 5 rfl) ?_
      refine lv_iconst (v := 4) hx hb dL_built_771 (by decide) ?_
      refine lv_icmp_ge (tgt := 810) hx hb dL_built_772 (by decide) (fun c78 => ?_) (fun c78 => ?_)
      · replace h := (if_pos c78).symm.trans h
        refine W.widen (k := cX) (n := sX) (by omega) (by omega) ?_
        exact hk S x1 x2 H locs ls h hP hS (lv_sub hl [0, 1, 2, 4] rfl)
      · replace h := (if_neg c78).symm.trans h
        refine lv_iload hx hb dL_built_775 (lv_at hl 4 rfl) ?_
        refine lv_if_eq (tgt := 810) hx hb dL_built_777 (by decide) (fun c => absurd c (by decide)) (fun _ => ?_)
        refine lv_aload_n hx hb dL_built_780 rfl (lv_at hl 0 rfl) ?_
        refine lv_iconst (v := 2) hx hb dL_built_781 (by decide) ?_
        refine lv_iload hx hb dL_built_782 (lv_at hl 5 rfl) ?_
        refine lv_iadd hx hb dL_built_784 ?_
        obtain ⟨r785, hr785, h⟩ := bd_some h
        refine gww_l (As := [.ref q, .int (2 + x10)]) (rest := []) (k2 := (cc + 1)) (n2 := (ss + 6)) ⟨hx, hb, hml, hown, hts⟩ (gEnw_now hE hS (fG_lo hlo hqs)) hK (kL_about l D cI cC cZ cQ cJ t lo q (bI S) (2 + x10) hlo hlS hr785) (vx_cwSW 2 hts gL_built_L_about rfl rfl rfl (by decide +kernel) ⟨Nat.le_of_ble_eq_true rfl, Nat.le_of_ble_eq_true rfl⟩) (gL hP) hS (fun _ h9 => Or.inl h9) rfl hl.1 rfl (Nat.le_of_ble_eq_true rfl) ⟨by show _ ≤ (1173 : Nat); omega, by show _ ≤ (7036 : Nat); omega⟩ rfl rfl dL_built_785 (fun H1 locs hP1 hS hz1 hk1 => ?_)
        have hP : va_P D vwCl (GAW cI cC cZ cQ q w (r785.2, (bF S))) H1 := GAW_G (X := S) hqw hP hP1 hk1
        generalize H1 = H at hP hS ⊢
        refine lv_aload_n hx hb dL_built_788 rfl (lv_at hl 3 rfl) ?_
        refine lv_iload hx hb dL_built_789 (lv_at hl 5 rfl) ?_
        obtain ⟨hg79, h⟩ := gd_some h
        refine g_iald (f := (bF S)) (k := x10.toNatClampNeg) hx hb hK hP 201 0 GAW_at rfl hg79 rfl dL_built_791 ?_
        refine lv_i2l hx hb dL_built_792 rfl ?_
        refine W.lcmp hx hb dL_built_793 ?_
        refine lv_if_ne (tgt := 801) hx hb dL_built_794 (by decide) (fun c80 => ?_) (fun c80 => ?_)
        · replace h := (if_neg c80).symm.trans h
          exact no_some h
        · replace h := (if_pos c80).symm.trans h
          refine lv_iconst (v := 1) hx hb dL_built_797 (by decide) ?_
          refine lv_goto (tgt := 802) hx hb dL_built_798 (by decide) ?_
          refine lv_istore (lv' := [(9, .int 1), (0, .ref q), (1, .int x1), (2, .int x2), (3, .ref w), (10, .int x10)]) hx hb dL_built_802 hl (by decide) rfl (fun ls hl => ?_)
          refine lv_iinc (v := (x10 + 1)) (lv' := [(10, .int (x10 + 1)), (9, .int 1), (0, .ref q), (1, .int x1), (2, .int x2), (3, .ref w)]) hx hb dL_built_804 hl (k := 5) rfl rfl (by decide) rfl (fun ls hl => ?_)
          refine lv_goto (tgt := 769) hx hb dL_built_807 (by decide) ?_
          exact ih (cc + 1) (ss + 6) (r785.2, (bF S)) x1 x2 (x10 + 1) H locs ls (by omega) (by omega) h hk hP hS (lv_sub hl [2, 3, 4, 5, 1, 0] rfl)
  have LP861 : ∀ (kk : (GSt × RI) → Int32 → Int32 → Int32 → Int32 → Int32 → Int32 → Int32 → Int32 → Option GSt) (cX sX : Nat), cX ≤ 1173 → sX ≤ 7036 → ∀ (n cc ss : Nat) (S : (GSt × RI)) (x1 : Int32) (x2 : Int32) (x10 : Int32) (x11 : Int32) (x12 : Int32) (x13 : Int32) (x14 : Int32) (x15 : Int32) (x16 : Int32) (H : Heap) (locs : List Loc) (ls : Array Slot), cc + n * 5 ≤ cX → ss + n * 30 ≤ sX → fL_built_L861 kk n S x1 x2 x10 x11 x12 x13 x14 x15 x16 = some R → (∀ (S : (GSt × RI)) (y1 : Int32) (y2 : Int32) (y10 : Int32) (y11 : Int32) (y12 : Int32) (y13 : Int32) (y14 : Int32) (y15 : Int32) (H : Heap) (locs : List Loc) (ls : Array Slot), kk S y1 y2 y10 y11 y12 y13 y14 y15 = some R → va_P D vwCl (GAW cI cC cZ cQ q w S) H → va_S (fG q s.heap.size) s.heap H locs → lv_has ls 18 [(0, .ref q), (1, .int y1), (2, .int y2), (9, .int 1), (10, .int y10), (11, .int y11), (12, .int y12), (13, .int y13), (14, .int y14), (15, .int y15)] → W p l e ({ frames := 9, cells := 1173, slots := 7036, locals := 150 } : Room) s m ([.ref q] : List Value).toArray below meth c H locs cX sX (MQ below (va_Qi (fun r (_ : Unit) => r = 1) (fun _ t => va_P D vwCl (GW cI cC cZ cQ q R) t.heap) (fIv q 201)) ([.ref q] : List Value).toArray s 1173 7036 (fIv q 201)) (F0 m 977 ls [])) → va_P D vwCl (GAW cI cC cZ cQ q w S) H → va_S (fG q s.heap.size) s.heap H locs → lv_has ls 18 [(0, .ref q), (1, .int x1), (2, .int x2), (9, .int 1), (10, .int x10), (11, .int x11), (12, .int x12), (13, .int x13), (14, .int x14), (15, .int x15), (16, .int x16)] → W p l e ({ frames := 9, cells := 1173, slots := 7036, locals := 150 } : Room) s m ([.ref q] : List Value).toArray below meth c H locs cc ss (MQ below (va_Qi (fun r (_ : Unit) => r = 1) (fun _ t => va_P D vwCl (GW cI cC cZ cQ q R) t.heap) (fIv q 201)) ([.ref q] : List Value).toArray s 1173 7036 (fIv q 201)) (F0 m 861 ls []) := by
    intro kk cX sX hcX hsX n
    induction n with
    | zero => intro cc ss S x1 x2 x10 x11 x12 x13 x14 x15 x16 H locs ls _ _ h hk hP hS hl; exact no_some h
    | succ n ih =>
      intro cc ss S x1 x2 x10 x11 x12 x13 x14 x15 x16 H locs ls hcc hss h hk hP hS hl
      rw [fL_built_L861] at h
      refine lv_iload hx hb dL_built_861 (lv_at hl 10 rfl) ?_
      refine lv_iload_n hx hb dL_built_863 rfl (lv_at hl 2 rfl) ?_
      refine lv_icmp_ge (tgt := 977) hx hb dL_built_864 (by decide) (fun c84 => ?_) (fun c84 => ?_)
      · replace h := (if_pos c84).symm.trans h
        refine W.widen (k := cX) (n := sX) (by omega) (by omega) ?_
        exact hk S x1 x2 x10 x11 x12 x13 x14 x15 H locs ls h hP hS (lv_sub hl [0, 1, 2, 3, 4, 5, 6, 7, 8, 9] rfl)
      · replace h := (if_neg c84).symm.trans h
        refine lv_iload hx hb dL_built_867 (lv_at hl 9 rfl) ?_
        refine lv_if_eq (tgt := 977) hx hb dL_built_869 (by decide) (fun c85 => ?_) (fun c85 => ?_)
        · replace h := (if_pos c85).symm.trans h
          refine W.widen (k := cX) (n := sX) (by omega) (by omega) ?_
          exact hk S x1 x2 x10 x11 x12 x13 x14 x15 H locs ls h hP hS (lv_sub hl [0, 1, 2, 3, 4, 5, 6, 7, 8, 9] rfl)
        · replace h := (if_neg c85).symm.trans h
          refine lv_aload_n hx hb dL_built_872 rfl (lv_at hl 0 rfl) ?_
          refine lv_iload hx hb dL_built_873 (lv_at hl 10 rfl) ?_
          refine lv_iconst (v := 5) hx hb dL_built_875 (by decide) ?_
          obtain ⟨r876, hr876, h⟩ := bd_some h
          refine gww_l (As := [.ref q, .int x16, .int 5]) (rest := []) (k2 := (cc + 1)) (n2 := (ss + 6)) ⟨hx, hb, hml, hown, hts⟩ (gEnw_now hE hS (fG_lo hlo hqs)) hK (kL_grip l D cI cC cZ cQ cJ t lo q (bI S) x16 5 hlo hlS hr876) (vx_cwSW 3 hts gL_built_L_grip rfl rfl rfl (by decide +kernel) ⟨Nat.le_of_ble_eq_true rfl, Nat.le_of_ble_eq_true rfl⟩) (gL hP) hS (fun _ h9 => Or.inl h9) rfl hl.1 rfl (Nat.le_of_ble_eq_true rfl) ⟨by show _ ≤ (1173 : Nat); omega, by show _ ≤ (7036 : Nat); omega⟩ rfl rfl dL_built_876 (fun H1 locs hP1 hS hz1 hk1 => ?_)
          have hP : va_P D vwCl (GAW cI cC cZ cQ q w (r876.2, (bF S))) H1 := GAW_G (X := S) hqw hP hP1 hk1
          generalize H1 = H at hP hS ⊢
          refine lv_ldc2 (v := 3) hx hb hown (hts (.constantLong RL 195 (3)) (by decide +kernel)) dL_built_879 ?_
          refine W.lcmp hx hb dL_built_882 ?_
          obtain ⟨a935_90, haa935_90, h⟩ := bd_some h
          have JJ935 : ∀ (H : Heap) (locs : List Loc) (ls : Array Slot), va_P D vwCl (GAW cI cC cZ cQ q w a935_90.1) H → va_S (fG q s.heap.size) s.heap H locs → lv_has ls 18 [(0, .ref q), (1, .int x1), (2, .int x2), (9, .int 1), (10, .int x10), (11, .int x11), (12, .int x12), (13, .int x13), (14, .int x14), (16, .int x16)] → W p l e ({ frames := 9, cells := 1173, slots := 7036, locals := 150 } : Room) s m ([.ref q] : List Value).toArray below meth c H locs (cc + 5) (ss + 30) (MQ below (va_Qi (fun r (_ : Unit) => r = 1) (fun _ t => va_P D vwCl (GW cI cC cZ cQ q R) t.heap) (fIv q 201)) ([.ref q] : List Value).toArray s 1173 7036 (fIv q 201)) (F0 m 935 ls [.int a935_90.2]) := by
            intro H locs ls hP hS hl
            refine lv_istore (lv' := [(17, .int a935_90.2), (0, .ref q), (1, .int x1), (2, .int x2), (9, .int 1), (10, .int x10), (11, .int x11), (12, .int x12), (13, .int x13), (14, .int x14), (16, .int x16)]) hx hb dL_built_935 hl (by decide) rfl (fun ls hl => ?_)
            refine lv_iload hx hb dL_built_937 (lv_at hl 0 rfl) ?_
            obtain ⟨a954_94, haa954_94, h⟩ := bd_some h
            have JJ954 : ∀ (H : Heap) (locs : List Loc) (ls : Array Slot), va_P D vwCl (GAW cI cC cZ cQ q w a935_90.1) H → va_S (fG q s.heap.size) s.heap H locs → lv_has ls 18 [(0, .ref q), (1, .int x1), (2, .int x2), (9, .int 1), (10, .int x10), (11, .int x11), (12, .int x12), (13, .int x13), (14, .int x14), (16, .int x16), (17, .int a935_90.2)] → W p l e ({ frames := 9, cells := 1173, slots := 7036, locals := 150 } : Room) s m ([.ref q] : List Value).toArray below meth c H locs (cc + 5) (ss + 30) (MQ below (va_Qi (fun r (_ : Unit) => r = 1) (fun _ t => va_P D vwCl (GW cI cC cZ cQ q R) t.heap) (fIv q 201)) ([.ref q] : List Value).toArray s 1173 7036 (fIv q 201)) (F0 m 954 ls [.int a954_94]) := by
              intro H locs ls hP hS hl
              refine lv_istore (lv' := [(15, .int a954_94), (0, .ref q), (1, .int x1), (2, .int x2), (9, .int 1), (10, .int x10), (11, .int x11), (12, .int x12), (13, .int x13), (14, .int x14), (16, .int x16), (17, .int a935_90.2)]) hx hb dL_built_954 hl (by decide) rfl (fun ls hl => ?_)
              refine lv_iload hx hb dL_built_956 (lv_at hl 9 rfl) ?_
              refine lv_iload hx hb dL_built_958 (lv_at hl 11 rfl) ?_
              obtain ⟨a968_96, haa968_96, h⟩ := bd_some h
              have JJ968 : ∀ (H : Heap) (locs : List Loc) (ls : Array Slot), va_P D vwCl (GAW cI cC cZ cQ q w a935_90.1) H → va_S (fG q s.heap.size) s.heap H locs → lv_has ls 18 [(0, .ref q), (1, .int x1), (2, .int x2), (9, .int 1), (10, .int x10), (11, .int x11), (12, .int x12), (13, .int x13), (15, .int a954_94), (16, .int x16)] → W p l e ({ frames := 9, cells := 1173, slots := 7036, locals := 150 } : Room) s m ([.ref q] : List Value).toArray below meth c H locs (cc + 5) (ss + 30) (MQ below (va_Qi (fun r (_ : Unit) => r = 1) (fun _ t => va_P D vwCl (GW cI cC cZ cQ q R) t.heap) (fIv q 201)) ([.ref q] : List Value).toArray s 1173 7036 (fIv q 201)) (F0 m 968 ls [.int a968_96, .int x14]) := by
                intro H locs ls hP hS hl
                refine lv_iadd hx hb dL_built_968 ?_
                refine lv_istore (lv' := [(14, .int (x14 + a968_96)), (0, .ref q), (1, .int x1), (2, .int x2), (9, .int 1), (10, .int x10), (11, .int x11), (12, .int x12), (13, .int x13), (15, .int a954_94), (16, .int x16)]) hx hb dL_built_969 hl (by decide) rfl (fun ls hl => ?_)
                refine lv_iinc (v := (x16 + 1)) (lv' := [(16, .int (x16 + 1)), (14, .int (x14 + a968_96)), (0, .ref q), (1, .int x1), (2, .int x2), (9, .int 1), (10, .int x10), (11, .int x11), (12, .int x12), (13, .int x13), (15, .int a954_94)]) hx hb dL_built_971 hl (k := 10) rfl rfl (by decide) rfl (fun ls hl => ?_)
                refine lv_goto (tgt := 861) hx hb dL_built_974 (by decide) ?_
                exact ih (cc + 5) (ss + 30) a935_90.1 x1 x2 x10 x11 x12 x13 (x14 + a968_96) a954_94 (x16 + 1) H locs ls (by omega) (by omega) h hk hP hS (lv_sub hl [2, 3, 4, 5, 6, 7, 8, 9, 1, 10, 0] rfl)
              clear h
              replace h := haa968_96
              clear haa968_96
              refine lv_if_eq (tgt := 967) hx hb dL_built_960 (by decide) (fun c96 => ?_) (fun c96 => ?_)
              · replace h := (if_pos c96).symm.trans h
                refine lv_iconst (v := 0) hx hb dL_built_967 (by decide) ?_
                have h := Option.some.inj h
                subst h
                refine W.widen (k := (cc + 5)) (n := (ss + 30)) (by omega) (by omega) ?_
                exact JJ968 H locs ls hP hS (lv_sub hl [1, 2, 3, 4, 5, 6, 7, 8, 0, 10] rfl)
              · replace h := (if_neg c96).symm.trans h
                refine lv_iconst (v := 1) hx hb dL_built_963 (by decide) ?_
                refine lv_goto (tgt := 968) hx hb dL_built_964 (by decide) ?_
                have h := Option.some.inj h
                subst h
                refine W.widen (k := (cc + 5)) (n := (ss + 30)) (by omega) (by omega) ?_
                exact JJ968 H locs ls hP hS (lv_sub hl [1, 2, 3, 4, 5, 6, 7, 8, 0, 10] rfl)
            clear h
            replace h := haa954_94
            clear haa954_94
            refine lv_if_eq (tgt := 949) hx hb dL_built_939 (by decide) (fun c92 => ?_) (fun c92 => ?_)
            · replace h := (if_pos c92).symm.trans h
              refine lv_iconst (v := 1) hx hb dL_built_949 (by decide) ?_
              refine lv_goto (tgt := 954) hx hb dL_built_950 (by decide) ?_
              have h := Option.some.inj h
              subst h
              refine W.widen (k := (cc + 5)) (n := (ss + 30)) (by omega) (by omega) ?_
              exact JJ954 H locs ls hP hS (lv_sub hl [1, 2, 3, 4, 5, 6, 7, 8, 9, 10, 0] rfl)
            · replace h := (if_neg c92).symm.trans h
              refine lv_iload hx hb dL_built_942 (lv_at hl 10 rfl) ?_
              refine lv_iload hx hb dL_built_944 (lv_at hl 8 rfl) ?_
              obtain ⟨a954_93, haa954_93, h⟩ := bd_some h
              have JJ954 : ∀ (H : Heap) (locs : List Loc) (ls : Array Slot), va_P D vwCl (GAW cI cC cZ cQ q w a935_90.1) H → va_S (fG q s.heap.size) s.heap H locs → lv_has ls 18 [(0, .ref q), (1, .int x1), (2, .int x2), (9, .int 1), (10, .int x10), (11, .int x11), (12, .int x12), (13, .int x13), (14, .int x14), (16, .int x16), (17, .int a935_90.2)] → W p l e ({ frames := 9, cells := 1173, slots := 7036, locals := 150 } : Room) s m ([.ref q] : List Value).toArray below meth c H locs (cc + 5) (ss + 30) (MQ below (va_Qi (fun r (_ : Unit) => r = 1) (fun _ t => va_P D vwCl (GW cI cC cZ cQ q R) t.heap) (fIv q 201)) ([.ref q] : List Value).toArray s 1173 7036 (fIv q 201)) (F0 m 954 ls [.int a954_93]) := by
                intro H locs ls hP hS hl
                have h := Option.some.inj h
                subst h
                refine W.widen (k := (cc + 5)) (n := (ss + 30)) (by omega) (by omega) ?_
                exact JJ954 H locs ls hP hS (lv_sub hl [0, 1, 2, 3, 4, 5, 6, 7, 8, 9, 10] rfl)
              clear h
              replace h := haa954_93
              clear haa954_93
              refine lv_icmp_lt (tgt := 953) hx hb dL_built_946 (by decide) (fun c93 => ?_) (fun c93 => ?_)
              · replace h := (if_pos c93).symm.trans h
                refine lv_iconst (v := 0) hx hb dL_built_953 (by decide) ?_
                have h := Option.some.inj h
                subst h
                refine W.widen (k := (cc + 5)) (n := (ss + 30)) (by omega) (by omega) ?_
                exact JJ954 H locs ls hP hS (lv_sub hl [1, 2, 3, 4, 5, 6, 7, 8, 9, 10, 0] rfl)
              · replace h := (if_neg c93).symm.trans h
                refine lv_iconst (v := 1) hx hb dL_built_949 (by decide) ?_
                refine lv_goto (tgt := 954) hx hb dL_built_950 (by decide) ?_
                have h := Option.some.inj h
                subst h
                refine W.widen (k := (cc + 5)) (n := (ss + 30)) (by omega) (by omega) ?_
                exact JJ954 H locs ls hP hS (lv_sub hl [1, 2, 3, 4, 5, 6, 7, 8, 9, 10, 0] rfl)
          clear h
          replace h := haa935_90
          clear haa935_90
          refine lv_if_eq (tgt := 934) hx hb dL_built_883 (by decide) (fun c86 => ?_) (fun c86 => ?_)
          · replace h := (if_pos c86).symm.trans h
            refine lv_iconst (v := 0) hx hb dL_built_934 (by decide) ?_
            have h := Option.some.inj h
            subst h
            refine W.widen (k := (cc + 5)) (n := (ss + 30)) (by omega) (by omega) ?_
            exact JJ935 H locs ls hP hS (lv_sub hl [0, 1, 2, 3, 4, 5, 6, 7, 8, 10] rfl)
          · replace h := (if_neg c86).symm.trans h
            refine lv_aload_n hx hb dL_built_886 rfl (lv_at hl 0 rfl) ?_
            refine lv_iload hx hb dL_built_887 (lv_at hl 10 rfl) ?_
            refine lv_iconst (v := 0) hx hb dL_built_889 (by decide) ?_
            obtain ⟨r890, hr890, h⟩ := bd_some h
            refine gww_l (As := [.ref q, .int x16, .int 0]) (rest := []) (k2 := (cc + 2)) (n2 := (ss + 12)) ⟨hx, hb, hml, hown, hts⟩ (gEnw_now hE hS (fG_lo hlo hqs)) hK (kL_grip l D cI cC cZ cQ cJ t lo q r876.2 x16 0 hlo hlS hr890) (vx_cwSW 3 hts gL_built_L_grip rfl rfl rfl (by decide +kernel) ⟨Nat.le_of_ble_eq_true rfl, Nat.le_of_ble_eq_true rfl⟩) (gL hP) hS (fun _ h9 => Or.inl h9) rfl hl.1 rfl (Nat.le_of_ble_eq_true rfl) ⟨by show _ ≤ (1173 : Nat); omega, by show _ ≤ (7036 : Nat); omega⟩ rfl rfl dL_built_890 (fun H1 locs hP1 hS hz1 hk1 => ?_)
            have hP : va_P D vwCl (GAW cI cC cZ cQ q w (r890.2, (bF S))) H1 := GAW_G (X := (r876.2, (bF S))) hqw hP hP1 hk1
            generalize H1 = H at hP hS ⊢
            refine lv_aload_n hx hb dL_built_893 rfl (lv_at hl 0 rfl) ?_
            refine lv_iload hx hb dL_built_894 (lv_at hl 7 rfl) ?_
            refine lv_iconst (v := 0) hx hb dL_built_896 (by decide) ?_
            obtain ⟨r897, hr897, h⟩ := bd_some h
            refine gww_l (As := [.ref q, .int x13, .int 0]) (rest := [.long r890.1]) (k2 := (cc + 3)) (n2 := (ss + 18)) ⟨hx, hb, hml, hown, hts⟩ (gEnw_now hE hS (fG_lo hlo hqs)) hK (kL_grip l D cI cC cZ cQ cJ t lo q r890.2 x13 0 hlo hlS hr897) (vx_cwSW 3 hts gL_built_L_grip rfl rfl rfl (by decide +kernel) ⟨Nat.le_of_ble_eq_true rfl, Nat.le_of_ble_eq_true rfl⟩) (gL hP) hS (fun _ h9 => Or.inl h9) rfl hl.1 rfl (Nat.le_of_ble_eq_true rfl) ⟨by show _ ≤ (1173 : Nat); omega, by show _ ≤ (7036 : Nat); omega⟩ rfl rfl dL_built_897 (fun H1 locs hP1 hS hz1 hk1 => ?_)
            have hP : va_P D vwCl (GAW cI cC cZ cQ q w (r897.2, (bF S))) H1 := GAW_G (X := (r890.2, (bF S))) hqw hP hP1 hk1
            generalize H1 = H at hP hS ⊢
            refine W.lcmp hx hb dL_built_900 ?_
            obtain ⟨a935_89, haa935_89, h⟩ := bd_some h
            have JJ935 : ∀ (H : Heap) (locs : List Loc) (ls : Array Slot), va_P D vwCl (GAW cI cC cZ cQ q w a935_89.1) H → va_S (fG q s.heap.size) s.heap H locs → lv_has ls 18 [(0, .ref q), (1, .int x1), (2, .int x2), (9, .int 1), (10, .int x10), (11, .int x11), (12, .int x12), (13, .int x13), (14, .int x14), (16, .int x16)] → W p l e ({ frames := 9, cells := 1173, slots := 7036, locals := 150 } : Room) s m ([.ref q] : List Value).toArray below meth c H locs (cc + 5) (ss + 30) (MQ below (va_Qi (fun r (_ : Unit) => r = 1) (fun _ t => va_P D vwCl (GW cI cC cZ cQ q R) t.heap) (fIv q 201)) ([.ref q] : List Value).toArray s 1173 7036 (fIv q 201)) (F0 m 935 ls [.int a935_89.2]) := by
              intro H locs ls hP hS hl
              have h := Option.some.inj h
              subst h
              refine W.widen (k := (cc + 5)) (n := (ss + 30)) (by omega) (by omega) ?_
              exact JJ935 H locs ls hP hS (lv_sub hl [0, 1, 2, 3, 4, 5, 6, 7, 8, 9] rfl)
            clear h
            replace h := haa935_89
            clear haa935_89
            refine lv_if_ne (tgt := 934) hx hb dL_built_901 (by decide) (fun c87 => ?_) (fun c87 => ?_)
            · replace h := (if_neg c87).symm.trans h
              refine lv_iconst (v := 0) hx hb dL_built_934 (by decide) ?_
              have h := Option.some.inj h
              subst h
              refine W.widen (k := (cc + 5)) (n := (ss + 30)) (by omega) (by omega) ?_
              exact JJ935 H locs ls hP hS (lv_sub hl [0, 1, 2, 3, 4, 5, 6, 7, 8, 10] rfl)
            · replace h := (if_pos c87).symm.trans h
              refine lv_aload_n hx hb dL_built_904 rfl (lv_at hl 0 rfl) ?_
              refine lv_iload hx hb dL_built_905 (lv_at hl 10 rfl) ?_
              refine lv_iconst (v := 1) hx hb dL_built_907 (by decide) ?_
              obtain ⟨r908, hr908, h⟩ := bd_some h
              refine gww_l (As := [.ref q, .int x16, .int 1]) (rest := []) (k2 := (cc + 4)) (n2 := (ss + 24)) ⟨hx, hb, hml, hown, hts⟩ (gEnw_now hE hS (fG_lo hlo hqs)) hK (kL_grip l D cI cC cZ cQ cJ t lo q r897.2 x16 1 hlo hlS hr908) (vx_cwSW 3 hts gL_built_L_grip rfl rfl rfl (by decide +kernel) ⟨Nat.le_of_ble_eq_true rfl, Nat.le_of_ble_eq_true rfl⟩) (gL hP) hS (fun _ h9 => Or.inl h9) rfl hl.1 rfl (Nat.le_of_ble_eq_true rfl) ⟨by show _ ≤ (1173 : Nat); omega, by show _ ≤ (7036 : Nat); omega⟩ rfl rfl dL_built_908 (fun H1 locs hP1 hS hz1 hk1 => ?_)
              have hP : va_P D vwCl (GAW cI cC cZ cQ q w (r908.2, (bF S))) H1 := GAW_G (X := (r897.2, (bF S))) hqw hP hP1 hk1
              generalize H1 = H at hP hS ⊢
              refine lv_ldc2 (v := 10) hx hb hown (hts (.constantLong RL 213 (10)) (by decide +kernel)) dL_built_911 ?_
              refine lv_ldiv hx hb dL_built_914 (by decide) ?_
              refine lv_aload_n hx hb dL_built_915 rfl (lv_at hl 0 rfl) ?_
              refine lv_iload hx hb dL_built_916 (lv_at hl 7 rfl) ?_
              refine lv_iconst (v := 1) hx hb dL_built_918 (by decide) ?_
              obtain ⟨r919, hr919, h⟩ := bd_some h
              refine gww_l (As := [.ref q, .int x13, .int 1]) (rest := [.long (r908.1 / 10)]) (k2 := (cc + 5)) (n2 := (ss + 30)) ⟨hx, hb, hml, hown, hts⟩ (gEnw_now hE hS (fG_lo hlo hqs)) hK (kL_grip l D cI cC cZ cQ cJ t lo q r908.2 x13 1 hlo hlS hr919) (vx_cwSW 3 hts gL_built_L_grip rfl rfl rfl (by decide +kernel) ⟨Nat.le_of_ble_eq_true rfl, Nat.le_of_ble_eq_true rfl⟩) (gL hP) hS (fun _ h9 => Or.inl h9) rfl hl.1 rfl (Nat.le_of_ble_eq_true rfl) ⟨by show _ ≤ (1173 : Nat); omega, by show _ ≤ (7036 : Nat); omega⟩ rfl rfl dL_built_919 (fun H1 locs hP1 hS hz1 hk1 => ?_)
              have hP : va_P D vwCl (GAW cI cC cZ cQ q w (r919.2, (bF S))) H1 := GAW_G (X := (r908.2, (bF S))) hqw hP hP1 hk1
              generalize H1 = H at hP hS ⊢
              refine lv_ldc2 (v := 10) hx hb hown (hts (.constantLong RL 213 (10)) (by decide +kernel)) dL_built_922 ?_
              refine lv_ldiv hx hb dL_built_925 (by decide) ?_
              refine W.lcmp hx hb dL_built_926 ?_
              obtain ⟨a935_88, haa935_88, h⟩ := bd_some h
              have JJ935 : ∀ (H : Heap) (locs : List Loc) (ls : Array Slot), va_P D vwCl (GAW cI cC cZ cQ q w (r919.2, (bF S))) H → va_S (fG q s.heap.size) s.heap H locs → lv_has ls 18 [(0, .ref q), (1, .int x1), (2, .int x2), (9, .int 1), (10, .int x10), (11, .int x11), (12, .int x12), (13, .int x13), (14, .int x14), (16, .int x16)] → W p l e ({ frames := 9, cells := 1173, slots := 7036, locals := 150 } : Room) s m ([.ref q] : List Value).toArray below meth c H locs (cc + 5) (ss + 30) (MQ below (va_Qi (fun r (_ : Unit) => r = 1) (fun _ t => va_P D vwCl (GW cI cC cZ cQ q R) t.heap) (fIv q 201)) ([.ref q] : List Value).toArray s 1173 7036 (fIv q 201)) (F0 m 935 ls [.int a935_88]) := by
                intro H locs ls hP hS hl
                have h := Option.some.inj h
                subst h
                refine W.widen (k := (cc + 5)) (n := (ss + 30)) (by omega) (by omega) ?_
                exact JJ935 H locs ls hP hS (lv_sub hl [0, 1, 2, 3, 4, 5, 6, 7, 8, 9] rfl)
              clear h
              replace h := haa935_88
              clear haa935_88
              refine lv_if_ne (tgt := 934) hx hb dL_built_927 (by decide) (fun c88 => ?_) (fun c88 => ?_)
              · replace h := (if_neg c88).symm.trans h
                refine lv_iconst (v := 0) hx hb dL_built_934 (by decide) ?_
                have h := Option.some.inj h
                subst h
                refine W.widen (k := (cc + 5)) (n := (ss + 30)) (by omega) (by omega) ?_
                exact JJ935 H locs ls hP hS (lv_sub hl [0, 1, 2, 3, 4, 5, 6, 7, 8, 10] rfl)
              · replace h := (if_pos c88).symm.trans h
                refine lv_iconst (v := 1) hx hb dL_built_930 (by decide) ?_
                refine lv_goto (tgt := 935) hx hb dL_built_931 (by decide) ?_
                have h := Option.some.inj h
                subst h
                refine W.widen (k := (cc + 5)) (n := (ss + 30)) (by omega) (by omega) ?_
                exact JJ935 H locs ls hP hS (lv_sub hl [0, 1, 2, 3, 4, 5, 6, 7, 8, 10] rfl)
  have LP823 : ∀ (kk : (GSt × RI) → Int32 → Int32 → Int32 → Int32 → Option GSt) (cX sX : Nat), cX ≤ 1173 → sX ≤ 7036 → ∀ (n cc ss : Nat) (S : (GSt × RI)) (x1 : Int32) (x2 : Int32) (x10 : Int32) (x11 : Int32) (x12 : Int32) (x13 : Int32) (H : Heap) (locs : List Loc) (ls : Array Slot), cc + n * 66 ≤ cX → ss + n * 396 ≤ sX → fL_built_L823 kk n S x1 x2 x10 x11 x12 x13 = some R → (∀ (S : (GSt × RI)) (y1 : Int32) (y10 : Int32) (y11 : Int32) (y12 : Int32) (H : Heap) (locs : List Loc) (ls : Array Slot), kk S y1 y10 y11 y12 = some R → va_P D vwCl (GAW cI cC cZ cQ q w S) H → va_S (fG q s.heap.size) s.heap H locs → lv_has ls 18 [(0, .ref q), (1, .int y1), (9, .int 1), (10, .int y10), (11, .int y11), (12, .int y12)] → W p l e ({ frames := 9, cells := 1173, slots := 7036, locals := 150 } : Room) s m ([.ref q] : List Value).toArray below meth c H locs cX sX (MQ below (va_Qi (fun r (_ : Unit) => r = 1) (fun _ t => va_P D vwCl (GW cI cC cZ cQ q R) t.heap) (fIv q 201)) ([.ref q] : List Value).toArray s 1173 7036 (fIv q 201)) (F0 m 1040 ls [])) → va_P D vwCl (GAW cI cC cZ cQ q w S) H → va_S (fG q s.heap.size) s.heap H locs → lv_has ls 18 [(0, .ref q), (1, .int x1), (2, .int x2), (9, .int 1), (10, .int x10), (11, .int x11), (12, .int x12), (13, .int x13)] → W p l e ({ frames := 9, cells := 1173, slots := 7036, locals := 150 } : Room) s m ([.ref q] : List Value).toArray below meth c H locs cc ss (MQ below (va_Qi (fun r (_ : Unit) => r = 1) (fun _ t => va_P D vwCl (GW cI cC cZ cQ q R) t.heap) (fIv q 201)) ([.ref q] : List Value).toArray s 1173 7036 (fIv q 201)) (F0 m 823 ls []) := by
    intro kk cX sX hcX hsX n
    induction n with
    | zero => intro cc ss S x1 x2 x10 x11 x12 x13 H locs ls _ _ h hk hP hS hl; exact no_some h
    | succ n ih =>
      intro cc ss S x1 x2 x10 x11 x12 x13 H locs ls hcc hss h hk hP hS hl
      rw [fL_built_L823] at h
      refine lv_iload hx hb dL_built_823 (lv_at hl 7 rfl) ?_
      refine lv_iload_n hx hb dL_built_825 rfl (lv_at hl 2 rfl) ?_
      refine lv_icmp_ge (tgt := 1040) hx hb dL_built_826 (by decide) (fun c81 => ?_) (fun c81 => ?_)
      · replace h := (if_pos c81).symm.trans h
        refine W.widen (k := cX) (n := sX) (by omega) (by omega) ?_
        exact hk S x1 x10 x11 x12 H locs ls h hP hS (lv_sub hl [0, 1, 3, 4, 5, 6] rfl)
      · replace h := (if_neg c81).symm.trans h
        refine lv_iload hx hb dL_built_829 (lv_at hl 3 rfl) ?_
        refine lv_if_eq (tgt := 1040) hx hb dL_built_831 (by decide) (fun c => absurd c (by decide)) (fun _ => ?_)
        refine lv_iconst (v := 0) hx hb dL_built_834 (by decide) ?_
        refine lv_istore (lv' := [(14, .int 0), (0, .ref q), (1, .int x1), (2, .int x2), (9, .int 1), (10, .int x10), (11, .int x11), (12, .int x12), (13, .int x13)]) hx hb dL_built_835 hl (by decide) rfl (fun ls hl => ?_)
        refine lv_aload_n hx hb dL_built_837 rfl (lv_at hl 1 rfl) ?_
        refine lv_iload hx hb dL_built_838 (lv_at hl 8 rfl) ?_
        refine lv_iconst (v := 5) hx hb dL_built_840 (by decide) ?_
        obtain ⟨r841, hr841, h⟩ := bd_some h
        refine gww_l (As := [.ref q, .int x13, .int 5]) (rest := []) (k2 := (cc + 1)) (n2 := (ss + 6)) ⟨hx, hb, hml, hown, hts⟩ (gEnw_now hE hS (fG_lo hlo hqs)) hK (kL_grip l D cI cC cZ cQ cJ t lo q (bI S) x13 5 hlo hlS hr841) (vx_cwSW 3 hts gL_built_L_grip rfl rfl rfl (by decide +kernel) ⟨Nat.le_of_ble_eq_true rfl, Nat.le_of_ble_eq_true rfl⟩) (gL hP) hS (fun _ h9 => Or.inl h9) rfl hl.1 rfl (Nat.le_of_ble_eq_true rfl) ⟨by show _ ≤ (1173 : Nat); omega, by show _ ≤ (7036 : Nat); omega⟩ rfl rfl dL_built_841 (fun H1 locs hP1 hS hz1 hk1 => ?_)
        have hP : va_P D vwCl (GAW cI cC cZ cQ q w (r841.2, (bF S))) H1 := GAW_G (X := S) hqw hP hP1 hk1
        generalize H1 = H at hP hS ⊢
        refine lv_ldc2 (v := 3) hx hb hown (hts (.constantLong RL 195 (3)) (by decide +kernel)) dL_built_844 ?_
        refine W.lcmp hx hb dL_built_847 ?_
        obtain ⟨a856_82, haa856_82, h⟩ := bd_some h
        have JJ856 : ∀ (H : Heap) (locs : List Loc) (ls : Array Slot), va_P D vwCl (GAW cI cC cZ cQ q w (r841.2, (bF S))) H → va_S (fG q s.heap.size) s.heap H locs → lv_has ls 18 [(0, .ref q), (1, .int x1), (2, .int x2), (9, .int 1), (10, .int x10), (11, .int x11), (12, .int x12), (13, .int x13), (14, .int 0)] → W p l e ({ frames := 9, cells := 1173, slots := 7036, locals := 150 } : Room) s m ([.ref q] : List Value).toArray below meth c H locs (cc + 1) (ss + 6) (MQ below (va_Qi (fun r (_ : Unit) => r = 1) (fun _ t => va_P D vwCl (GW cI cC cZ cQ q R) t.heap) (fIv q 201)) ([.ref q] : List Value).toArray s 1173 7036 (fIv q 201)) (F0 m 856 ls [.int a856_82]) := by
          intro H locs ls hP hS hl
          refine lv_istore (lv' := [(15, .int a856_82), (0, .ref q), (1, .int x1), (2, .int x2), (9, .int 1), (10, .int x10), (11, .int x11), (12, .int x12), (13, .int x13), (14, .int 0)]) hx hb dL_built_856 hl (by decide) rfl (fun ls hl => ?_)
          refine lv_iconst (v := 0) hx hb dL_built_858 (by decide) ?_
          refine lv_istore (lv' := [(16, .int 0), (15, .int a856_82), (0, .ref q), (1, .int x1), (2, .int x2), (9, .int 1), (10, .int x10), (11, .int x11), (12, .int x12), (13, .int x13), (14, .int 0)]) hx hb dL_built_859 hl (by decide) rfl (fun ls hl => ?_)
          refine LP861 _ (cc + 66) (ss + 396) (by omega) (by omega) 13 (cc + 1) (ss + 6) (r841.2, (bF S)) x1 x2 x10 x11 x12 x13 0 a856_82 0 H locs ls (by omega) (by omega) h (fun S y1 y2 y10 y11 y12 y13 y14 y15 H locs ls h hP hS hl => ?_) hP hS (lv_sub hl [2, 3, 4, 5, 6, 7, 8, 9, 10, 1, 0] rfl)
          refine lv_iload hx hb dL_built_977 (lv_at hl 4 rfl) ?_
          refine lv_iload hx hb dL_built_979 (lv_at hl 9 rfl) ?_
          obtain ⟨a989_98, haa989_98, h⟩ := bd_some h
          have JJ989 : ∀ (H : Heap) (locs : List Loc) (ls : Array Slot), va_P D vwCl (GAW cI cC cZ cQ q w S) H → va_S (fG q s.heap.size) s.heap H locs → lv_has ls 18 [(0, .ref q), (1, .int y1), (2, .int y2), (9, .int 1), (11, .int y11), (12, .int y12), (13, .int y13), (14, .int y14), (15, .int y15)] → W p l e ({ frames := 9, cells := 1173, slots := 7036, locals := 150 } : Room) s m ([.ref q] : List Value).toArray below meth c H locs (cc + 66) (ss + 396) (MQ below (va_Qi (fun r (_ : Unit) => r = 1) (fun _ t => va_P D vwCl (GW cI cC cZ cQ q R) t.heap) (fIv q 201)) ([.ref q] : List Value).toArray s 1173 7036 (fIv q 201)) (F0 m 989 ls [.int a989_98, .int y10]) := by
            intro H locs ls hP hS hl
            refine lv_iadd hx hb dL_built_989 ?_
            refine lv_istore (lv' := [(10, .int (y10 + a989_98)), (0, .ref q), (1, .int y1), (2, .int y2), (9, .int 1), (11, .int y11), (12, .int y12), (13, .int y13), (14, .int y14), (15, .int y15)]) hx hb dL_built_990 hl (by decide) rfl (fun ls hl => ?_)
            refine lv_iload hx hb dL_built_992 (lv_at hl 9 rfl) ?_
            obtain ⟨a1011_102, haa1011_102, h⟩ := bd_some h
            have JJ1011 : ∀ (H : Heap) (locs : List Loc) (ls : Array Slot), va_P D vwCl (GAW cI cC cZ cQ q w S) H → va_S (fG q s.heap.size) s.heap H locs → lv_has ls 18 [(0, .ref q), (1, .int y1), (2, .int y2), (9, .int 1), (10, .int (y10 + a989_98)), (11, .int y11), (13, .int y13), (14, .int y14), (15, .int y15)] → W p l e ({ frames := 9, cells := 1173, slots := 7036, locals := 150 } : Room) s m ([.ref q] : List Value).toArray below meth c H locs (cc + 66) (ss + 396) (MQ below (va_Qi (fun r (_ : Unit) => r = 1) (fun _ t => va_P D vwCl (GW cI cC cZ cQ q R) t.heap) (fIv q 201)) ([.ref q] : List Value).toArray s 1173 7036 (fIv q 201)) (F0 m 1011 ls [.int a1011_102]) := by
              intro H locs ls hP hS hl
              refine lv_istore (lv' := [(12, .int a1011_102), (0, .ref q), (1, .int y1), (2, .int y2), (9, .int 1), (10, .int (y10 + a989_98)), (11, .int y11), (13, .int y13), (14, .int y14), (15, .int y15)]) hx hb dL_built_1011 hl (by decide) rfl (fun ls hl => ?_)
              refine lv_iload hx hb dL_built_1013 (lv_at hl 9 rfl) ?_
              obtain ⟨a1032_106, haa1032_106, h⟩ := bd_some h
              have JJ1032 : ∀ (H : Heap) (locs : List Loc) (ls : Array Slot), va_P D vwCl (GAW cI cC cZ cQ q w S) H → va_S (fG q s.heap.size) s.heap H locs → lv_has ls 18 [(0, .ref q), (1, .int y1), (2, .int y2), (9, .int 1), (10, .int (y10 + a989_98)), (12, .int a1011_102), (13, .int y13)] → W p l e ({ frames := 9, cells := 1173, slots := 7036, locals := 150 } : Room) s m ([.ref q] : List Value).toArray below meth c H locs (cc + 66) (ss + 396) (MQ below (va_Qi (fun r (_ : Unit) => r = 1) (fun _ t => va_P D vwCl (GW cI cC cZ cQ q R) t.heap) (fIv q 201)) ([.ref q] : List Value).toArray s 1173 7036 (fIv q 201)) (F0 m 1032 ls [.int a1032_106]) := by
                intro H locs ls hP hS hl
                refine lv_istore (lv' := [(11, .int a1032_106), (0, .ref q), (1, .int y1), (2, .int y2), (9, .int 1), (10, .int (y10 + a989_98)), (12, .int a1011_102), (13, .int y13)]) hx hb dL_built_1032 hl (by decide) rfl (fun ls hl => ?_)
                refine lv_iinc (v := (y13 + 1)) (lv' := [(13, .int (y13 + 1)), (11, .int a1032_106), (0, .ref q), (1, .int y1), (2, .int y2), (9, .int 1), (10, .int (y10 + a989_98)), (12, .int a1011_102)]) hx hb dL_built_1034 hl (k := 7) rfl rfl (by decide) rfl (fun ls hl => ?_)
                refine lv_goto (tgt := 823) hx hb dL_built_1037 (by decide) ?_
                exact ih (cc + 66) (ss + 396) S y1 y2 (y10 + a989_98) a1032_106 a1011_102 (y13 + 1) H locs ls (by omega) (by omega) h hk hP hS (lv_sub hl [2, 3, 4, 5, 6, 1, 7, 0] rfl)
              clear h
              replace h := haa1032_106
              clear haa1032_106
              refine lv_if_eq (tgt := 1030) hx hb dL_built_1015 (by decide) (fun c104 => ?_) (fun c104 => ?_)
              · replace h := (if_pos c104).symm.trans h
                refine lv_iload hx hb dL_built_1030 (lv_at hl 6 rfl) ?_
                have h := Option.some.inj h
                subst h
                refine W.widen (k := (cc + 66)) (n := (ss + 396)) (by omega) (by omega) ?_
                exact JJ1032 H locs ls hP hS (lv_sub hl [1, 2, 3, 4, 5, 0, 7] rfl)
              · replace h := (if_neg c104).symm.trans h
                refine lv_iload hx hb dL_built_1018 (lv_at hl 8 rfl) ?_
                refine lv_iload hx hb dL_built_1020 (lv_at hl 6 rfl) ?_
                obtain ⟨a1032_105, haa1032_105, h⟩ := bd_some h
                have JJ1032 : ∀ (H : Heap) (locs : List Loc) (ls : Array Slot), va_P D vwCl (GAW cI cC cZ cQ q w S) H → va_S (fG q s.heap.size) s.heap H locs → lv_has ls 18 [(0, .ref q), (1, .int y1), (2, .int y2), (9, .int 1), (10, .int (y10 + a989_98)), (12, .int a1011_102), (13, .int y13)] → W p l e ({ frames := 9, cells := 1173, slots := 7036, locals := 150 } : Room) s m ([.ref q] : List Value).toArray below meth c H locs (cc + 66) (ss + 396) (MQ below (va_Qi (fun r (_ : Unit) => r = 1) (fun _ t => va_P D vwCl (GW cI cC cZ cQ q R) t.heap) (fIv q 201)) ([.ref q] : List Value).toArray s 1173 7036 (fIv q 201)) (F0 m 1032 ls [.int a1032_105]) := by
                  intro H locs ls hP hS hl
                  have h := Option.some.inj h
                  subst h
                  refine W.widen (k := (cc + 66)) (n := (ss + 396)) (by omega) (by omega) ?_
                  exact JJ1032 H locs ls hP hS (lv_sub hl [0, 1, 2, 3, 4, 5, 6] rfl)
                clear h
                replace h := haa1032_105
                clear haa1032_105
                refine lv_icmp_le (tgt := 1030) hx hb dL_built_1022 (by decide) (fun c105 => ?_) (fun c105 => ?_)
                · replace h := (if_pos c105).symm.trans h
                  refine lv_iload hx hb dL_built_1030 (lv_at hl 6 rfl) ?_
                  have h := Option.some.inj h
                  subst h
                  refine W.widen (k := (cc + 66)) (n := (ss + 396)) (by omega) (by omega) ?_
                  exact JJ1032 H locs ls hP hS (lv_sub hl [1, 2, 3, 4, 5, 0, 7] rfl)
                · replace h := (if_neg c105).symm.trans h
                  refine lv_iload hx hb dL_built_1025 (lv_at hl 8 rfl) ?_
                  refine lv_goto (tgt := 1032) hx hb dL_built_1027 (by decide) ?_
                  have h := Option.some.inj h
                  subst h
                  refine W.widen (k := (cc + 66)) (n := (ss + 396)) (by omega) (by omega) ?_
                  exact JJ1032 H locs ls hP hS (lv_sub hl [1, 2, 3, 4, 5, 0, 7] rfl)
            clear h
            replace h := haa1011_102
            clear haa1011_102
            refine lv_if_eq (tgt := 1009) hx hb dL_built_994 (by decide) (fun c100 => ?_) (fun c100 => ?_)
            · replace h := (if_pos c100).symm.trans h
              refine lv_iload hx hb dL_built_1009 (lv_at hl 6 rfl) ?_
              have h := Option.some.inj h
              subst h
              refine W.widen (k := (cc + 66)) (n := (ss + 396)) (by omega) (by omega) ?_
              exact JJ1011 H locs ls hP hS (lv_sub hl [1, 2, 3, 4, 0, 5, 7, 8, 9] rfl)
            · replace h := (if_neg c100).symm.trans h
              refine lv_iload hx hb dL_built_997 (lv_at hl 8 rfl) ?_
              refine lv_iload hx hb dL_built_999 (lv_at hl 5 rfl) ?_
              obtain ⟨a1011_101, haa1011_101, h⟩ := bd_some h
              have JJ1011 : ∀ (H : Heap) (locs : List Loc) (ls : Array Slot), va_P D vwCl (GAW cI cC cZ cQ q w S) H → va_S (fG q s.heap.size) s.heap H locs → lv_has ls 18 [(0, .ref q), (1, .int y1), (2, .int y2), (9, .int 1), (10, .int (y10 + a989_98)), (11, .int y11), (13, .int y13), (14, .int y14), (15, .int y15)] → W p l e ({ frames := 9, cells := 1173, slots := 7036, locals := 150 } : Room) s m ([.ref q] : List Value).toArray below meth c H locs (cc + 66) (ss + 396) (MQ below (va_Qi (fun r (_ : Unit) => r = 1) (fun _ t => va_P D vwCl (GW cI cC cZ cQ q R) t.heap) (fIv q 201)) ([.ref q] : List Value).toArray s 1173 7036 (fIv q 201)) (F0 m 1011 ls [.int a1011_101]) := by
                intro H locs ls hP hS hl
                have h := Option.some.inj h
                subst h
                refine W.widen (k := (cc + 66)) (n := (ss + 396)) (by omega) (by omega) ?_
                exact JJ1011 H locs ls hP hS (lv_sub hl [0, 1, 2, 3, 4, 5, 6, 7, 8] rfl)
              clear h
              replace h := haa1011_101
              clear haa1011_101
              refine lv_icmp_le (tgt := 1009) hx hb dL_built_1001 (by decide) (fun c101 => ?_) (fun c101 => ?_)
              · replace h := (if_pos c101).symm.trans h
                refine lv_iload hx hb dL_built_1009 (lv_at hl 6 rfl) ?_
                have h := Option.some.inj h
                subst h
                refine W.widen (k := (cc + 66)) (n := (ss + 396)) (by omega) (by omega) ?_
                exact JJ1011 H locs ls hP hS (lv_sub hl [1, 2, 3, 4, 0, 5, 7, 8, 9] rfl)
              · replace h := (if_neg c101).symm.trans h
                refine lv_iload hx hb dL_built_1004 (lv_at hl 7 rfl) ?_
                refine lv_goto (tgt := 1011) hx hb dL_built_1006 (by decide) ?_
                have h := Option.some.inj h
                subst h
                refine W.widen (k := (cc + 66)) (n := (ss + 396)) (by omega) (by omega) ?_
                exact JJ1011 H locs ls hP hS (lv_sub hl [1, 2, 3, 4, 0, 5, 7, 8, 9] rfl)
          clear h
          replace h := haa989_98
          clear haa989_98
          refine lv_if_eq (tgt := 988) hx hb dL_built_981 (by decide) (fun c98 => ?_) (fun c98 => ?_)
          · replace h := (if_pos c98).symm.trans h
            refine lv_iconst (v := 0) hx hb dL_built_988 (by decide) ?_
            have h := Option.some.inj h
            subst h
            refine W.widen (k := (cc + 66)) (n := (ss + 396)) (by omega) (by omega) ?_
            exact JJ989 H locs ls hP hS (lv_sub hl [0, 1, 2, 3, 5, 6, 7, 8, 9] rfl)
          · replace h := (if_neg c98).symm.trans h
            refine lv_iconst (v := 1) hx hb dL_built_984 (by decide) ?_
            refine lv_goto (tgt := 989) hx hb dL_built_985 (by decide) ?_
            have h := Option.some.inj h
            subst h
            refine W.widen (k := (cc + 66)) (n := (ss + 396)) (by omega) (by omega) ?_
            exact JJ989 H locs ls hP hS (lv_sub hl [0, 1, 2, 3, 5, 6, 7, 8, 9] rfl)
        clear h
        replace h := haa856_82
        clear haa856_82
        refine lv_if_eq (tgt := 855) hx hb dL_built_848 (by decide) (fun c82 => ?_) (fun c82 => ?_)
        · replace h := (if_pos c82).symm.trans h
          refine lv_iconst (v := 0) hx hb dL_built_855 (by decide) ?_
          have h := Option.some.inj h
          subst h
          refine W.widen (k := (cc + 1)) (n := (ss + 6)) (by omega) (by omega) ?_
          exact JJ856 H locs ls hP hS (lv_sub hl [1, 2, 3, 4, 5, 6, 7, 8, 0] rfl)
        · replace h := (if_neg c82).symm.trans h
          refine lv_iconst (v := 1) hx hb dL_built_851 (by decide) ?_
          refine lv_goto (tgt := 856) hx hb dL_built_852 (by decide) ?_
          have h := Option.some.inj h
          subst h
          refine W.widen (k := (cc + 1)) (n := (ss + 6)) (by omega) (by omega) ?_
          exact JJ856 H locs ls hP hS (lv_sub hl [1, 2, 3, 4, 5, 6, 7, 8, 0] rfl)
  have hP : va_P D vwCl (GAW cI cC cZ cQ q w (r8.2, fun _ => 0)) H := hP
  refine lv_astore_n (lv' := [(3, .ref w), (2, .int r8.1), (1, .int ((r2.1).toInt32)), (0, .ref q)]) hx hb dL_built_15 rfl hl (by decide) rfl (fun ls hl => ?_)
  refine lv_lconst (v := 0) hx hb dL_built_16 (by decide) ?_
  refine lv_lstore (lv' := [(4, .long 0), (3, .ref w), (2, .int r8.1), (1, .int ((r2.1).toInt32)), (0, .ref q)]) hx hb dL_built_17 hl (by decide) rfl (fun ls hl => ?_)
  refine lv_ldc2 (v := (-9)) hx hb hown (hts (.constantLong RL 193 (-9)) (by decide +kernel)) dL_built_19 ?_
  refine lv_lstore (lv' := [(6, .long (-9)), (4, .long 0), (3, .ref w), (2, .int r8.1), (1, .int ((r2.1).toInt32)), (0, .ref q)]) hx hb dL_built_22 hl (by decide) rfl (fun ls hl => ?_)
  refine lv_iconst (v := 0) hx hb dL_built_24 (by decide) ?_
  refine lv_istore (lv' := [(8, .int 0), (6, .long (-9)), (4, .long 0), (3, .ref w), (2, .int r8.1), (1, .int ((r2.1).toInt32)), (0, .ref q)]) hx hb dL_built_25 hl (by decide) rfl (fun ls hl => ?_)
  refine lv_iconst (v := 1) hx hb dL_built_27 (by decide) ?_
  refine lv_istore (lv' := [(9, .int 1), (8, .int 0), (6, .long (-9)), (4, .long 0), (3, .ref w), (2, .int r8.1), (1, .int ((r2.1).toInt32)), (0, .ref q)]) hx hb dL_built_28 hl (by decide) rfl (fun ls hl => ?_)
  refine lv_iconst (v := 0) hx hb dL_built_30 (by decide) ?_
  refine lv_istore (lv' := [(10, .int 0), (9, .int 1), (8, .int 0), (6, .long (-9)), (4, .long 0), (3, .ref w), (2, .int r8.1), (1, .int ((r2.1).toInt32)), (0, .ref q)]) hx hb dL_built_31 hl (by decide) rfl (fun ls hl => ?_)
  refine LP33 _ 302 1810 (by omega) (by omega) 13 3 16 (r8.2, fun _ => 0) ((r2.1).toInt32) r8.1 0 (-9) 0 0 H locs ls (by omega) (by omega) h (fun S y1 y2 y4 y6 y8 H locs ls h hP hS hl => ?_) hP hS (lv_sub hl [8, 7, 6, 5, 4, 3, 2, 1, 0] rfl)
  refine lv_iload hx hb dL_built_678 (lv_at hl 7 rfl) ?_
  refine lv_if_eq (tgt := 763) hx hb dL_built_680 (by decide) (fun c => absurd c (by decide)) (fun _ => ?_)
  refine lv_aload_n hx hb dL_built_683 rfl (lv_at hl 0 rfl) ?_
  refine lv_iload_n hx hb dL_built_684 rfl (lv_at hl 2 rfl) ?_
  obtain ⟨a696_68, haa696_68, h⟩ := bd_some h
  have JJ696 : ∀ (H : Heap) (locs : List Loc) (ls : Array Slot), va_P D vwCl (GAW cI cC cZ cQ q w S) H → va_S (fG q s.heap.size) s.heap H locs → lv_has ls 18 [(0, .ref q), (1, .int y1), (2, .int y2), (3, .ref w), (4, .long y4), (6, .long y6)] → W p l e ({ frames := 9, cells := 1173, slots := 7036, locals := 150 } : Room) s m ([.ref q] : List Value).toArray below meth c H locs 302 1810 (MQ below (va_Qi (fun r (_ : Unit) => r = 1) (fun _ t => va_P D vwCl (GW cI cC cZ cQ q R) t.heap) (fIv q 201)) ([.ref q] : List Value).toArray s 1173 7036 (fIv q 201)) (F0 m 696 ls [.int a696_68, .ref q]) := by
    intro H locs ls hP hS hl
    obtain ⟨r696, hr696, h⟩ := bd_some h
    refine gww_l (As := [.ref q, .int a696_68]) (rest := []) (k2 := 303) (n2 := 1816) ⟨hx, hb, hml, hown, hts⟩ (gEnw_now hE hS (fG_lo hlo hqs)) hK (kL_report l D cI cC cZ cQ cJ t lo q (bI S) a696_68 hlo hlS hr696) (vx_cwSW 2 hts gL_built_L_report rfl rfl rfl (by decide +kernel) ⟨Nat.le_of_ble_eq_true rfl, Nat.le_of_ble_eq_true rfl⟩) (gL hP) hS (fun _ h9 => Or.inl h9) rfl hl.1 rfl (Nat.le_of_ble_eq_true rfl) ⟨by show _ ≤ (1173 : Nat); omega, by show _ ≤ (7036 : Nat); omega⟩ rfl rfl dL_built_696 (fun H1 locs hP1 hS hz1 hk1 => ?_)
    have hP : va_P D vwCl (GAW cI cC cZ cQ q w (r696.2, (bF S))) H1 := GAW_G (X := S) hqw hP hP1 hk1
    generalize H1 = H at hP hS ⊢
    refine lv_ldc2 (v := (-9)) hx hb hown (hts (.constantLong RL 193 (-9)) (by decide +kernel)) dL_built_699 ?_
    refine W.lcmp hx hb dL_built_702 ?_
    refine lv_if_ne (tgt := 763) hx hb dL_built_703 (by decide) (fun c70 => ?_) (fun c70 => ?_)
    · replace h := (if_neg c70).symm.trans h
      exact no_some h
    · replace h := (if_pos c70).symm.trans h
      refine lv_aload_n hx hb dL_built_706 rfl (lv_at hl 3 rfl) ?_
      refine lv_iconst (v := 0) hx hb dL_built_707 (by decide) ?_
      refine g_iald (f := (bF S)) (k := 0) hx hb hK hP 201 0 GAW_at rfl (vin_lit rfl) rfl dL_built_708 ?_
      obtain ⟨a730_73, haa730_73, h⟩ := bd_some h
      have JJ730 : ∀ (H : Heap) (locs : List Loc) (ls : Array Slot), va_P D vwCl (GAW cI cC cZ cQ q w (r696.2, (bF S))) H → va_S (fG q s.heap.size) s.heap H locs → lv_has ls 18 [(0, .ref q), (1, .int y1), (2, .int y2), (3, .ref w), (6, .long y6)] → W p l e ({ frames := 9, cells := 1173, slots := 7036, locals := 150 } : Room) s m ([.ref q] : List Value).toArray below meth c H locs 303 1816 (MQ below (va_Qi (fun r (_ : Unit) => r = 1) (fun _ t => va_P D vwCl (GW cI cC cZ cQ q R) t.heap) (fIv q 201)) ([.ref q] : List Value).toArray s 1173 7036 (fIv q 201)) (F0 m 730 ls []) := by
        intro H locs ls hP hS hl
        refine lv_aload_n hx hb dL_built_730 rfl (lv_at hl 0 rfl) ?_
        refine lv_iconst (v := 1) hx hb dL_built_731 (by decide) ?_
        obtain ⟨r732, hr732, h⟩ := bd_some h
        refine gww_l (As := [.ref q, .int 1]) (rest := []) (k2 := 304) (n2 := 1822) ⟨hx, hb, hml, hown, hts⟩ (gEnw_now hE hS (fG_lo hlo hqs)) hK (kL_room l D cI cC cZ cQ cJ t lo q r696.2 1 hlo hlS hr732) (vx_cwSW 2 hts gL_built_L_room rfl rfl rfl (by decide +kernel) ⟨Nat.le_of_ble_eq_true rfl, Nat.le_of_ble_eq_true rfl⟩) (gL hP) hS (fun _ h9 => Or.inl h9) rfl hl.1 rfl (Nat.le_of_ble_eq_true rfl) ⟨by show _ ≤ (1173 : Nat); omega, by show _ ≤ (7036 : Nat); omega⟩ rfl rfl dL_built_732 (fun H1 locs hP1 hS hz1 hk1 => ?_)
        have hP : va_P D vwCl (GAW cI cC cZ cQ q w (r732.2, (bF S))) H1 := GAW_G (X := (r696.2, (bF S))) hqw hP hP1 hk1
        generalize H1 = H at hP hS ⊢
        refine lv_lload hx hb dL_built_735 (lv_at hl 4 rfl) ?_
        refine W.lcmp hx hb dL_built_737 ?_
        refine lv_if_ne (tgt := 763) hx hb dL_built_738 (by decide) (fun c75 => ?_) (fun c75 => ?_)
        · replace h := (if_neg c75).symm.trans h
          exact no_some h
        · replace h := (if_pos c75).symm.trans h
          refine lv_aload_n hx hb dL_built_741 rfl (lv_at hl 0 rfl) ?_
          refine lv_iconst (v := 2) hx hb dL_built_742 (by decide) ?_
          obtain ⟨r743, hr743, h⟩ := bd_some h
          refine gww_l (As := [.ref q, .int 2]) (rest := []) (k2 := 305) (n2 := 1828) ⟨hx, hb, hml, hown, hts⟩ (gEnw_now hE hS (fG_lo hlo hqs)) hK (kL_room l D cI cC cZ cQ cJ t lo q r732.2 2 hlo hlS hr743) (vx_cwSW 2 hts gL_built_L_room rfl rfl rfl (by decide +kernel) ⟨Nat.le_of_ble_eq_true rfl, Nat.le_of_ble_eq_true rfl⟩) (gL hP) hS (fun _ h9 => Or.inl h9) rfl hl.1 rfl (Nat.le_of_ble_eq_true rfl) ⟨by show _ ≤ (1173 : Nat); omega, by show _ ≤ (7036 : Nat); omega⟩ rfl rfl dL_built_743 (fun H1 locs hP1 hS hz1 hk1 => ?_)
          have hP : va_P D vwCl (GAW cI cC cZ cQ q w (r743.2, (bF S))) H1 := GAW_G (X := (r732.2, (bF S))) hqw hP hP1 hk1
          generalize H1 = H at hP hS ⊢
          refine lv_iload_n hx hb dL_built_746 rfl (lv_at hl 1 rfl) ?_
          refine lv_i2l hx hb dL_built_747 rfl ?_
          refine lv_aload_n hx hb dL_built_748 rfl (lv_at hl 0 rfl) ?_
          refine lv_bipush (v := 11) hx hb dL_built_749 (by decide) ?_
          obtain ⟨r751, hr751, h⟩ := bd_some h
          refine gww_l (As := [.ref q, .int 11]) (rest := [.long ((y1).toInt64), .long r743.1]) (k2 := 306) (n2 := 1834) ⟨hx, hb, hml, hown, hts⟩ (gEnw_now hE hS (fG_lo hlo hqs)) hK (kL_about l D cI cC cZ cQ cJ t lo q r743.2 11 hlo hlS hr751) (vx_cwSW 2 hts gL_built_L_about rfl rfl rfl (by decide +kernel) ⟨Nat.le_of_ble_eq_true rfl, Nat.le_of_ble_eq_true rfl⟩) (gL hP) hS (fun _ h9 => Or.inl h9) rfl hl.1 rfl (Nat.le_of_ble_eq_true rfl) ⟨by show _ ≤ (1173 : Nat); omega, by show _ ≤ (7036 : Nat); omega⟩ rfl rfl dL_built_751 (fun H1 locs hP1 hS hz1 hk1 => ?_)
          have hP : va_P D vwCl (GAW cI cC cZ cQ q w (r751.2, (bF S))) H1 := GAW_G (X := (r743.2, (bF S))) hqw hP hP1 hk1
          generalize H1 = H at hP hS ⊢
          obtain ⟨hn76, h⟩ := nzl_some h
          refine lv_ldiv hx hb dL_built_754 hn76 ?_
          refine W.lcmp hx hb dL_built_755 ?_
          refine lv_if_ne (tgt := 763) hx hb dL_built_756 (by decide) (fun c77 => ?_) (fun c77 => ?_)
          · replace h := (if_neg c77).symm.trans h
            exact no_some h
          · replace h := (if_pos c77).symm.trans h
            refine lv_iconst (v := 1) hx hb dL_built_759 (by decide) ?_
            refine lv_goto (tgt := 764) hx hb dL_built_760 (by decide) ?_
            refine lv_istore (lv' := [(9, .int 1), (0, .ref q), (1, .int y1), (2, .int y2), (3, .ref w), (6, .long y6)]) hx hb dL_built_764 hl (by decide) rfl (fun ls hl => ?_)
            refine lv_iconst (v := 0) hx hb dL_built_766 (by decide) ?_
            refine lv_istore (lv' := [(10, .int 0), (9, .int 1), (0, .ref q), (1, .int y1), (2, .int y2), (3, .ref w), (6, .long y6)]) hx hb dL_built_767 hl (by decide) rfl (fun ls hl => ?_)
            refine LP769 _ 311 1864 (by omega) (by omega) 5 306 1834 (r751.2, (bF S)) y1 y2 0 H locs ls (by omega) (by omega) h (fun S y1 y2 H locs ls h hP hS hl => ?_) hP hS (lv_sub hl [2, 3, 4, 5, 1, 0] rfl)
            refine lv_iconst (v := 0) hx hb dL_built_810 (by decide) ?_
            refine lv_istore (lv' := [(10, .int 0), (0, .ref q), (1, .int y1), (2, .int y2), (9, .int 1)]) hx hb dL_built_811 hl (by decide) rfl (fun ls hl => ?_)
            refine lv_iconst (v := 0) hx hb dL_built_813 (by decide) ?_
            refine lv_istore (lv' := [(11, .int 0), (10, .int 0), (0, .ref q), (1, .int y1), (2, .int y2), (9, .int 1)]) hx hb dL_built_814 hl (by decide) rfl (fun ls hl => ?_)
            refine lv_bipush (v := (-9)) hx hb dL_built_816 (by decide) ?_
            refine lv_istore (lv' := [(12, .int (-9)), (11, .int 0), (10, .int 0), (0, .ref q), (1, .int y1), (2, .int y2), (9, .int 1)]) hx hb dL_built_818 hl (by decide) rfl (fun ls hl => ?_)
            refine lv_iconst (v := 0) hx hb dL_built_820 (by decide) ?_
            refine lv_istore (lv' := [(13, .int 0), (12, .int (-9)), (11, .int 0), (10, .int 0), (0, .ref q), (1, .int y1), (2, .int y2), (9, .int 1)]) hx hb dL_built_821 hl (by decide) rfl (fun ls hl => ?_)
            refine LP823 _ 1169 7012 (by omega) (by omega) 13 311 1864 S y1 y2 0 0 (-9) 0 H locs ls (by omega) (by omega) h (fun S y1 y10 y11 y12 H locs ls h hP hS hl => ?_) hP hS (lv_sub hl [4, 5, 6, 7, 3, 2, 1, 0] rfl)
            refine lv_iload hx hb dL_built_1040 (lv_at hl 2 rfl) ?_
            refine lv_if_eq (tgt := 1102) hx hb dL_built_1042 (by decide) (fun c => absurd c (by decide)) (fun _ => ?_)
            refine lv_aload_n hx hb dL_built_1045 rfl (lv_at hl 0 rfl) ?_
            refine lv_iconst (v := 0) hx hb dL_built_1046 (by decide) ?_
            obtain ⟨r1047, hr1047, h⟩ := bd_some h
            refine gww_l (As := [.ref q, .int 0]) (rest := []) (k2 := 1170) (n2 := 7018) ⟨hx, hb, hml, hown, hts⟩ (gEnw_now hE hS (fG_lo hlo hqs)) hK (kL_groups l D cI cC cZ cQ cJ t lo q (bI S) 0 hlo hlS hr1047) (vx_cwSW 2 hts gL_built_L_groups rfl rfl rfl (by decide +kernel) ⟨Nat.le_of_ble_eq_true rfl, Nat.le_of_ble_eq_true rfl⟩) (gL hP) hS (fun _ h9 => Or.inl h9) rfl hl.1 rfl (Nat.le_of_ble_eq_true rfl) ⟨by show _ ≤ (1173 : Nat); omega, by show _ ≤ (7036 : Nat); omega⟩ rfl rfl dL_built_1047 (fun H1 locs hP1 hS hz1 hk1 => ?_)
            have hP : va_P D vwCl (GAW cI cC cZ cQ q w (r1047.2, (bF S))) H1 := GAW_G (X := S) hqw hP hP1 hk1
            generalize H1 = H at hP hS ⊢
            refine lv_iload hx hb dL_built_1050 (lv_at hl 3 rfl) ?_
            refine lv_i2l hx hb dL_built_1052 rfl ?_
            refine W.lcmp hx hb dL_built_1053 ?_
            refine lv_if_ne (tgt := 1102) hx hb dL_built_1054 (by decide) (fun c108 => ?_) (fun c108 => ?_)
            · replace h := (if_neg c108).symm.trans h
              exact no_some h
            · replace h := (if_pos c108).symm.trans h
              refine lv_aload_n hx hb dL_built_1057 rfl (lv_at hl 0 rfl) ?_
              refine lv_iconst (v := 1) hx hb dL_built_1058 (by decide) ?_
              obtain ⟨r1059, hr1059, h⟩ := bd_some h
              refine gww_l (As := [.ref q, .int 1]) (rest := []) (k2 := 1171) (n2 := 7024) ⟨hx, hb, hml, hown, hts⟩ (gEnw_now hE hS (fG_lo hlo hqs)) hK (kL_groups l D cI cC cZ cQ cJ t lo q r1047.2 1 hlo hlS hr1059) (vx_cwSW 2 hts gL_built_L_groups rfl rfl rfl (by decide +kernel) ⟨Nat.le_of_ble_eq_true rfl, Nat.le_of_ble_eq_true rfl⟩) (gL hP) hS (fun _ h9 => Or.inl h9) rfl hl.1 rfl (Nat.le_of_ble_eq_true rfl) ⟨by show _ ≤ (1173 : Nat); omega, by show _ ≤ (7036 : Nat); omega⟩ rfl rfl dL_built_1059 (fun H1 locs hP1 hS hz1 hk1 => ?_)
              have hP : va_P D vwCl (GAW cI cC cZ cQ q w (r1059.2, (bF S))) H1 := GAW_G (X := (r1047.2, (bF S))) hqw hP hP1 hk1
              generalize H1 = H at hP hS ⊢
              refine lv_iload hx hb dL_built_1062 (lv_at hl 4 rfl) ?_
              refine lv_i2l hx hb dL_built_1064 rfl ?_
              refine W.lcmp hx hb dL_built_1065 ?_
              refine lv_if_ne (tgt := 1102) hx hb dL_built_1066 (by decide) (fun c109 => ?_) (fun c109 => ?_)
              · replace h := (if_neg c109).symm.trans h
                exact no_some h
              · replace h := (if_pos c109).symm.trans h
                refine lv_aload_n hx hb dL_built_1069 rfl (lv_at hl 0 rfl) ?_
                refine lv_iconst (v := 2) hx hb dL_built_1070 (by decide) ?_
                obtain ⟨r1071, hr1071, h⟩ := bd_some h
                refine gww_l (As := [.ref q, .int 2]) (rest := []) (k2 := 1172) (n2 := 7030) ⟨hx, hb, hml, hown, hts⟩ (gEnw_now hE hS (fG_lo hlo hqs)) hK (kL_groups l D cI cC cZ cQ cJ t lo q r1059.2 2 hlo hlS hr1071) (vx_cwSW 2 hts gL_built_L_groups rfl rfl rfl (by decide +kernel) ⟨Nat.le_of_ble_eq_true rfl, Nat.le_of_ble_eq_true rfl⟩) (gL hP) hS (fun _ h9 => Or.inl h9) rfl hl.1 rfl (Nat.le_of_ble_eq_true rfl) ⟨by show _ ≤ (1173 : Nat); omega, by show _ ≤ (7036 : Nat); omega⟩ rfl rfl dL_built_1071 (fun H1 locs hP1 hS hz1 hk1 => ?_)
                have hP : va_P D vwCl (GAW cI cC cZ cQ q w (r1071.2, (bF S))) H1 := GAW_G (X := (r1059.2, (bF S))) hqw hP hP1 hk1
                generalize H1 = H at hP hS ⊢
                refine lv_iload hx hb dL_built_1074 (lv_at hl 5 rfl) ?_
                refine lv_i2l hx hb dL_built_1076 rfl ?_
                refine W.lcmp hx hb dL_built_1077 ?_
                refine lv_if_ne (tgt := 1102) hx hb dL_built_1078 (by decide) (fun c110 => ?_) (fun c110 => ?_)
                · replace h := (if_neg c110).symm.trans h
                  exact no_some h
                · replace h := (if_pos c110).symm.trans h
                  refine lv_aload_n hx hb dL_built_1081 rfl (lv_at hl 0 rfl) ?_
                  refine lv_bipush (v := 6) hx hb dL_built_1082 (by decide) ?_
                  obtain ⟨r1084, hr1084, h⟩ := bd_some h
                  refine gww_l (As := [.ref q, .int 6]) (rest := []) (k2 := 1173) (n2 := 7036) ⟨hx, hb, hml, hown, hts⟩ (gEnw_now hE hS (fG_lo hlo hqs)) hK (kL_about l D cI cC cZ cQ cJ t lo q r1071.2 6 hlo hlS hr1084) (vx_cwSW 2 hts gL_built_L_about rfl rfl rfl (by decide +kernel) ⟨Nat.le_of_ble_eq_true rfl, Nat.le_of_ble_eq_true rfl⟩) (gL hP) hS (fun _ h9 => Or.inl h9) rfl hl.1 rfl (Nat.le_of_ble_eq_true rfl) ⟨by show _ ≤ (1173 : Nat); omega, by show _ ≤ (7036 : Nat); omega⟩ rfl rfl dL_built_1084 (fun H1 locs hP1 hS hz1 hk1 => ?_)
                  have hP : va_P D vwCl (GAW cI cC cZ cQ q w (r1084.2, (bF S))) H1 := GAW_G (X := (r1071.2, (bF S))) hqw hP hP1 hk1
                  generalize H1 = H at hP hS ⊢
                  refine lv_lconst (v := 0) hx hb dL_built_1087 (by decide) ?_
                  refine lv_iload_n hx hb dL_built_1088 rfl (lv_at hl 1 rfl) ?_
                  refine lv_iconst (v := 1) hx hb dL_built_1089 (by decide) ?_
                  refine lv_isub hx hb dL_built_1090 ?_
                  refine lv_i2l hx hb dL_built_1091 rfl ?_
                  obtain ⟨r1092, hr1092, h⟩ := bd_some h
                  refine gc_si (As := [.long r1084.1, .long 0, .long (((y1 - 1)).toInt64)]) (rest := []) (B := fun _ => True) ⟨hx, hb, hml, hown, hts⟩ hK (kL_in l D cI cC cZ cQ cJ r1084.1 0 (((y1 - 1)).toInt64) hr1092) (va_cwS 3 hts gL_built_L_in rfl rfl rfl (by decide +kernel) ⟨Nat.le_of_ble_eq_true rfl, Nat.le_of_ble_eq_true rfl⟩) trivial rfl hl.1 rfl (Nat.le_of_ble_eq_true rfl) ⟨by show _ ≤ (1173 : Nat); omega, by show _ ≤ (7036 : Nat); omega⟩ dL_built_1092 ?_
                  refine lv_if_eq (tgt := 1102) hx hb dL_built_1095 (by decide) (fun c111 => ?_) (fun c111 => ?_)
                  · replace h := (if_pos c111).symm.trans h
                    exact no_some h
                  · replace h := (if_neg c111).symm.trans h
                    refine lv_iconst (v := 1) hx hb dL_built_1098 (by decide) ?_
                    refine lv_goto (tgt := 1103) hx hb dL_built_1099 (by decide) ?_
                    refine W.widen (k := 1173) (n := 7036) (by omega) (by omega) ?_
                    have h := Option.some.inj h
                    subst h
                    refine gw_old ?_
                    exact W.zret (v := 1) hx hb hr rfl (fun t ht hW => ⟨⟨_, (), rfl, rfl, gh ht (gL hP)⟩, gNA_F hS ht⟩) (gNA_locs hS) dL_built_1103
      clear h
      replace h := haa730_73
      clear haa730_73
      refine lv_if_ne (tgt := 722) hx hb dL_built_709 (by decide) (fun c71 => ?_) (fun c71 => ?_)
      · replace h := (if_neg c71).symm.trans h
        refine lv_lload hx hb dL_built_722 (lv_at hl 4 rfl) ?_
        refine lv_iload_n hx hb dL_built_724 rfl (lv_at hl 1 rfl) ?_
        refine lv_i2l hx hb dL_built_725 rfl ?_
        refine W.lcmp hx hb dL_built_726 ?_
        refine lv_if_ne (tgt := 763) hx hb dL_built_727 (by decide) (fun c72 => ?_) (fun c72 => ?_)
        · replace h := (if_neg c72).symm.trans h
          exact no_some h
        · replace h := (if_pos c72).symm.trans h
          have h := Option.some.inj h
          subst h
          refine W.widen (k := 303) (n := 1816) (by omega) (by omega) ?_
          exact JJ730 H locs ls hP hS (lv_sub hl [0, 1, 2, 3, 5] rfl)
      · replace h := (if_pos c71).symm.trans h
        refine lv_lload hx hb dL_built_712 (lv_at hl 4 rfl) ?_
        refine lv_lconst (v := 0) hx hb dL_built_714 (by decide) ?_
        refine W.lcmp hx hb dL_built_715 ?_
        refine lv_if_ne (tgt := 763) hx hb dL_built_716 (by decide) (fun c73 => ?_) (fun c73 => ?_)
        · replace h := (if_neg c73).symm.trans h
          exact no_some h
        · replace h := (if_pos c73).symm.trans h
          refine lv_goto (tgt := 730) hx hb dL_built_719 (by decide) ?_
          have h := Option.some.inj h
          subst h
          refine W.widen (k := 303) (n := 1816) (by omega) (by omega) ?_
          exact JJ730 H locs ls hP hS (lv_sub hl [0, 1, 2, 3, 5] rfl)
  clear h
  replace h := haa696_68
  clear haa696_68
  refine lv_if_ne (tgt := 692) hx hb dL_built_685 (by decide) (fun c68 => ?_) (fun c68 => ?_)
  · replace h := (if_neg c68).symm.trans h
    refine lv_iload hx hb dL_built_692 (lv_at hl 6 rfl) ?_
    refine lv_iconst (v := 1) hx hb dL_built_694 (by decide) ?_
    refine lv_isub hx hb dL_built_695 ?_
    have h := Option.some.inj h
    subst h
    refine W.widen (k := 302) (n := 1810) (by omega) (by omega) ?_
    exact JJ696 H locs ls hP hS (lv_sub hl [0, 1, 2, 3, 4, 5] rfl)
  · replace h := (if_pos c68).symm.trans h
    refine lv_iconst (v := 0) hx hb dL_built_688 (by decide) ?_
    refine lv_goto (tgt := 696) hx hb dL_built_689 (by decide) ?_
    have h := Option.some.inj h
    subst h
    refine W.widen (k := 302) (n := 1810) (by omega) (by omega) ?_
    exact JJ696 H locs ls hP hS (lv_sub hl [0, 1, 2, 3, 4, 5] rfl)

set_option maxHeartbeats 16000000 in
set_option maxRecDepth 100000 in
theorem kL_errors (l : Launch) (D : va_G) (cI cC cZ cQ cJ : ClassId) (t lo : Nat) (q : Nat) (G : GSt) (hlo : lo ≤ q) (hlS : l.stackTraces = false) {R : GSt} (h : fL_errors G = some R) : Met l yL_errors wsL_errors ({ frames := 10, cells := 330, slots := 1980, locals := 182 } : Room) (va_Pc [.ref q] (gBw D (gTy cI cC cZ cQ cJ) t lo (va_P D vwCl (GW cI cC cZ cQ q G)))) (va_Qi (fun r (_ : Unit) => r = 1) (fun _ t => va_P D vwCl (GW cI cC cZ cQ q R) t.heap) (fIv q 201)) 330 1980 (fIv q 201) := by
  refine Met.ofW (cc := cL_errors) (maxL := 6) (ret := (some .boolean)) (by decide) rfl ?_
  intro p e s m args below meth c s₁ B hml hv
  obtain ⟨rfl, ⟨hP, hK⟩, hE⟩ := hv
  have hx := B.exec
  have hb := B.bytes
  have hr := B.returns
  have hts := atoms_spec (ws := wsL_errors) B.pre
  have hown : s.vm.findClass RL = some m.cls := findClass_of_methodNamed B.named
  generalize hRM : (headSpec wsL_errors ({ frames := 10, cells := 330, slots := 1980, locals := 182 } : Room)).room = RM
  replace hRM : ({ frames := 10, cells := 330, slots := 1980, locals := 182 } : Room) = RM := hRM
  subst hRM
  have hl := lv_entry ([.ref q]) (n := 6) (Nat.le_of_ble_eq_true rfl)
  rw [lg_entry_eq]
  generalize (lg_sl ([.ref q]) ++ List.replicate (6 - (lg_sl ([.ref q])).length) Slot.unset).toArray = ls at hl ⊢
  have hl : lv_has ls 6 [(0, .ref q)] := hl
  have hS : va_S (fIv q 201) s.heap s.heap [] := va_S.rf
  have hP0 := hP
  unfold fL_errors at h
  obtain ⟨H, hH⟩ : ∃ H, H = s.heap := ⟨_, rfl⟩
  obtain ⟨locs, hlz⟩ : ∃ z : List Loc, z = [] := ⟨_, rfl⟩
  have hP : va_P D vwCl (GW cI cC cZ cQ q G) H := by rw [hH]; exact hP
  have hS : va_S (fIv q 201) s.heap H locs := by rw [hH, hlz]; exact hS
  refine gc_at hH hlz ?_
  refine lv_aload_n hx hb dL_errors_0 rfl (lv_at hl 0 rfl) ?_
  obtain ⟨r1, hr1, h⟩ := bd_some h
  refine gws_l (As := [.ref q]) (rest := []) (k2 := 144) (n2 := 864) ⟨hx, hb, hml, hown, hts⟩ (gEnw_now hE hS (fun _ h9 => Nat.le_trans hlo h9.1)) hK (kL_now l D cI cC cZ cQ cJ t lo q G hlo hlS hr1) (va_cwS 1 hts gL_errors_L_now rfl rfl rfl (by decide +kernel) ⟨Nat.le_of_ble_eq_true rfl, Nat.le_of_ble_eq_true rfl⟩) hP hS (fun _ h9 => h9) rfl hl.1 rfl (Nat.le_of_ble_eq_true rfl) ⟨by show _ ≤ (330 : Nat); omega, by show _ ≤ (1980 : Nat); omega⟩ rfl rfl dL_errors_1 (fun H1 locs hP1 hS hz1 hk1 => ?_)
  have hP : va_P D vwCl (GW cI cC cZ cQ q r1.2) H1 := hP1
  generalize H1 = H at hP hS ⊢
  refine lv_lstore_n (lv' := [(1, .long r1.1), (0, .ref q)]) hx hb dL_errors_4 rfl hl (by decide) rfl (fun ls hl => ?_)
  refine lv_aload_n hx hb dL_errors_5 rfl (lv_at hl 1 rfl) ?_
  refine lv_iconst (v := 0) hx hb dL_errors_6 (by decide) ?_
  obtain ⟨r7, hr7, h⟩ := bd_some h
  refine gww_l (As := [.ref q, .int 0]) (rest := []) (k2 := 145) (n2 := 870) ⟨hx, hb, hml, hown, hts⟩ (gEnw_now hE hS (fun _ h9 => Nat.le_trans hlo h9.1)) hK (kL_about l D cI cC cZ cQ cJ t lo q r1.2 0 hlo hlS hr7) (vx_cwSW 2 hts gL_errors_L_about rfl rfl rfl (by decide +kernel) ⟨Nat.le_of_ble_eq_true rfl, Nat.le_of_ble_eq_true rfl⟩) hP hS (fun _ h9 => h9) rfl hl.1 rfl (Nat.le_of_ble_eq_true rfl) ⟨by show _ ≤ (330 : Nat); omega, by show _ ≤ (1980 : Nat); omega⟩ rfl rfl dL_errors_7 (fun H1 locs hP1 hS hz1 hk1 => ?_)
  have hP : va_P D vwCl (GW cI cC cZ cQ q r7.2) H1 := hP1
  generalize H1 = H at hP hS ⊢
  refine lv_l2i hx hb dL_errors_10 rfl ?_
  refine lv_istore_n (lv' := [(3, .int ((r7.1).toInt32)), (1, .long r1.1), (0, .ref q)]) hx hb dL_errors_11 rfl hl (by decide) rfl (fun ls hl => ?_)
  refine lv_aload_n hx hb dL_errors_12 rfl (lv_at hl 2 rfl) ?_
  obtain ⟨r13, hr13, h⟩ := bd_some h
  refine gws_i (As := [.ref q]) (rest := []) (k2 := 146) (n2 := 876) ⟨hx, hb, hml, hown, hts⟩ (gEnw_now hE hS (fun _ h9 => Nat.le_trans hlo h9.1)) hK (kL_grips l D cI cC cZ cQ cJ t lo q r7.2 hlo hlS hr13) (va_cwS 1 hts gL_errors_L_grips rfl rfl rfl (by decide +kernel) ⟨Nat.le_of_ble_eq_true rfl, Nat.le_of_ble_eq_true rfl⟩) hP hS (fun _ h9 => h9) rfl hl.1 rfl (Nat.le_of_ble_eq_true rfl) ⟨by show _ ≤ (330 : Nat); omega, by show _ ≤ (1980 : Nat); omega⟩ rfl rfl dL_errors_13 (fun H1 locs hP1 hS hz1 hk1 => ?_)
  have hP : va_P D vwCl (GW cI cC cZ cQ q r13.2) H1 := hP1
  generalize H1 = H at hP hS ⊢
  refine lv_istore (lv' := [(4, .int r13.1), (3, .int ((r7.1).toInt32)), (1, .long r1.1), (0, .ref q)]) hx hb dL_errors_16 hl (by decide) rfl (fun ls hl => ?_)
  refine lv_aload_n hx hb dL_errors_18 rfl (lv_at hl 3 rfl) ?_
  refine lv_iconst (v := (-1)) hx hb dL_errors_19 (by decide) ?_
  obtain ⟨r20, hr20, h⟩ := bd_some h
  refine gww_l (As := [.ref q, .int (-1)]) (rest := []) (k2 := 147) (n2 := 882) ⟨hx, hb, hml, hown, hts⟩ (gEnw_now hE hS (fun _ h9 => Nat.le_trans hlo h9.1)) hK (kL_append l D cI cC cZ cQ cJ t lo q r13.2 (-1) hlo hlS hr20) (vx_cwSW 2 hts gL_errors_L_append rfl rfl rfl (by decide +kernel) ⟨Nat.le_of_ble_eq_true rfl, Nat.le_of_ble_eq_true rfl⟩) hP hS (fun _ h9 => h9) rfl hl.1 rfl (Nat.le_of_ble_eq_true rfl) ⟨by show _ ≤ (330 : Nat); omega, by show _ ≤ (1980 : Nat); omega⟩ rfl rfl dL_errors_20 (fun H1 locs hP1 hS hz1 hk1 => ?_)
  have hP : va_P D vwCl (GW cI cC cZ cQ q r20.2) H1 := hP1
  generalize H1 = H at hP hS ⊢
  refine lv_ldc2 (v := (-9000000000000000002)) hx hb hown (hts (.constantLong RL 17 (-9000000000000000002)) (by decide +kernel)) dL_errors_23 ?_
  refine W.lcmp hx hb dL_errors_26 ?_
  refine lv_if_ne (tgt := 350) hx hb dL_errors_27 (by decide) (fun c1 => ?_) (fun c1 => ?_)
  · replace h := (if_neg c1).symm.trans h
    exact no_some h
  · replace h := (if_pos c1).symm.trans h
    refine lv_aload_n hx hb dL_errors_30 rfl (lv_at hl 3 rfl) ?_
    refine lv_sipush (v := 256) hx hb dL_errors_31 (by decide) ?_
    obtain ⟨r34, hr34, h⟩ := bd_some h
    refine gww_l (As := [.ref q, .int 256]) (rest := []) (k2 := 148) (n2 := 888) ⟨hx, hb, hml, hown, hts⟩ (gEnw_now hE hS (fun _ h9 => Nat.le_trans hlo h9.1)) hK (kL_append l D cI cC cZ cQ cJ t lo q r20.2 256 hlo hlS hr34) (vx_cwSW 2 hts gL_errors_L_append rfl rfl rfl (by decide +kernel) ⟨Nat.le_of_ble_eq_true rfl, Nat.le_of_ble_eq_true rfl⟩) hP hS (fun _ h9 => h9) rfl hl.1 rfl (Nat.le_of_ble_eq_true rfl) ⟨by show _ ≤ (330 : Nat); omega, by show _ ≤ (1980 : Nat); omega⟩ rfl rfl dL_errors_34 (fun H1 locs hP1 hS hz1 hk1 => ?_)
    have hP : va_P D vwCl (GW cI cC cZ cQ q r34.2) H1 := hP1
    generalize H1 = H at hP hS ⊢
    refine lv_ldc2 (v := (-9000000000000000002)) hx hb hown (hts (.constantLong RL 17 (-9000000000000000002)) (by decide +kernel)) dL_errors_37 ?_
    refine W.lcmp hx hb dL_errors_40 ?_
    refine lv_if_ne (tgt := 350) hx hb dL_errors_41 (by decide) (fun c2 => ?_) (fun c2 => ?_)
    · replace h := (if_neg c2).symm.trans h
      exact no_some h
    · replace h := (if_pos c2).symm.trans h
      refine lv_aload_n hx hb dL_errors_44 rfl (lv_at hl 3 rfl) ?_
      refine lv_bipush (v := 13) hx hb dL_errors_45 (by decide) ?_
      obtain ⟨r47, hr47, h⟩ := bd_some h
      refine gww_l (As := [.ref q, .int 13]) (rest := []) (k2 := 149) (n2 := 894) ⟨hx, hb, hml, hown, hts⟩ (gEnw_now hE hS (fun _ h9 => Nat.le_trans hlo h9.1)) hK (kL_about l D cI cC cZ cQ cJ t lo q r34.2 13 hlo hlS hr47) (vx_cwSW 2 hts gL_errors_L_about rfl rfl rfl (by decide +kernel) ⟨Nat.le_of_ble_eq_true rfl, Nat.le_of_ble_eq_true rfl⟩) hP hS (fun _ h9 => h9) rfl hl.1 rfl (Nat.le_of_ble_eq_true rfl) ⟨by show _ ≤ (330 : Nat); omega, by show _ ≤ (1980 : Nat); omega⟩ rfl rfl dL_errors_47 (fun H1 locs hP1 hS hz1 hk1 => ?_)
      have hP : va_P D vwCl (GW cI cC cZ cQ q r47.2) H1 := hP1
      generalize H1 = H at hP hS ⊢
      refine lv_ldc2 (v := (-9000000000000000002)) hx hb hown (hts (.constantLong RL 17 (-9000000000000000002)) (by decide +kernel)) dL_errors_50 ?_
      refine W.lcmp hx hb dL_errors_53 ?_
      refine lv_if_ne (tgt := 350) hx hb dL_errors_54 (by decide) (fun c3 => ?_) (fun c3 => ?_)
      · replace h := (if_neg c3).symm.trans h
        exact no_some h
      · replace h := (if_pos c3).symm.trans h
        refine lv_aload_n hx hb dL_errors_57 rfl (lv_at hl 3 rfl) ?_
        refine lv_iload hx hb dL_errors_58 (lv_at hl 0 rfl) ?_
        refine lv_bipush (v := 9) hx hb dL_errors_60 (by decide) ?_
        obtain ⟨r62, hr62, h⟩ := bd_some h
        refine gww_l (As := [.ref q, .int r13.1, .int 9]) (rest := []) (k2 := 150) (n2 := 900) ⟨hx, hb, hml, hown, hts⟩ (gEnw_now hE hS (fun _ h9 => Nat.le_trans hlo h9.1)) hK (kL_grip l D cI cC cZ cQ cJ t lo q r47.2 (r13.1) 9 hlo hlS hr62) (vx_cwSW 3 hts gL_errors_L_grip rfl rfl rfl (by decide +kernel) ⟨Nat.le_of_ble_eq_true rfl, Nat.le_of_ble_eq_true rfl⟩) hP hS (fun _ h9 => h9) rfl hl.1 rfl (Nat.le_of_ble_eq_true rfl) ⟨by show _ ≤ (330 : Nat); omega, by show _ ≤ (1980 : Nat); omega⟩ rfl rfl dL_errors_62 (fun H1 locs hP1 hS hz1 hk1 => ?_)
        have hP : va_P D vwCl (GW cI cC cZ cQ q r62.2) H1 := hP1
        generalize H1 = H at hP hS ⊢
        refine lv_ldc2 (v := (-9000000000000000001)) hx hb hown (hts (.constantLong RL 36 (-9000000000000000001)) (by decide +kernel)) dL_errors_65 ?_
        refine W.lcmp hx hb dL_errors_68 ?_
        refine lv_if_ne (tgt := 350) hx hb dL_errors_69 (by decide) (fun c4 => ?_) (fun c4 => ?_)
        · replace h := (if_neg c4).symm.trans h
          exact no_some h
        · replace h := (if_pos c4).symm.trans h
          refine lv_iload hx hb dL_errors_72 (lv_at hl 0 rfl) ?_
          obtain ⟨a134_9, haa134_9, h⟩ := bd_some h
          have JJ134 : ∀ (H : Heap) (locs : List Loc) (ls : Array Slot), va_P D vwCl (GW cI cC cZ cQ q a134_9) H → va_S (fIv q 201) s.heap H locs → lv_has ls 6 [(0, .ref q), (1, .long r1.1), (3, .int ((r7.1).toInt32)), (4, .int r13.1)] → W p l e ({ frames := 10, cells := 330, slots := 1980, locals := 182 } : Room) s m ([.ref q] : List Value).toArray below meth c H locs 154 924 (MQ below (va_Qi (fun r (_ : Unit) => r = 1) (fun _ t => va_P D vwCl (GW cI cC cZ cQ q R) t.heap) (fIv q 201)) ([.ref q] : List Value).toArray s 330 1980 (fIv q 201)) (F0 m 134 ls []) := by
            intro H locs ls hP hS hl
            refine lv_aload_n hx hb dL_errors_134 rfl (lv_at hl 0 rfl) ?_
            refine lv_iload_n hx hb dL_errors_135 rfl (lv_at hl 2 rfl) ?_
            obtain ⟨r136, hr136, h⟩ := bd_some h
            refine gww_l (As := [.ref q, .int ((r7.1).toInt32)]) (rest := []) (k2 := 155) (n2 := 930) ⟨hx, hb, hml, hown, hts⟩ (gEnw_now hE hS (fun _ h9 => Nat.le_trans hlo h9.1)) hK (kL_slot l D cI cC cZ cQ cJ t lo q a134_9 ((r7.1).toInt32) hlo hlS hr136) (vx_cwSW 2 hts gL_errors_L_slot rfl rfl rfl (by decide +kernel) ⟨Nat.le_of_ble_eq_true rfl, Nat.le_of_ble_eq_true rfl⟩) hP hS (fun _ h9 => h9) rfl hl.1 rfl (Nat.le_of_ble_eq_true rfl) ⟨by show _ ≤ (330 : Nat); omega, by show _ ≤ (1980 : Nat); omega⟩ rfl rfl dL_errors_136 (fun H1 locs hP1 hS hz1 hk1 => ?_)
            have hP : va_P D vwCl (GW cI cC cZ cQ q r136.2) H1 := hP1
            generalize H1 = H at hP hS ⊢
            refine lv_ldc2 (v := (-9000000000000000001)) hx hb hown (hts (.constantLong RL 36 (-9000000000000000001)) (by decide +kernel)) dL_errors_139 ?_
            refine W.lcmp hx hb dL_errors_142 ?_
            refine lv_if_ne (tgt := 350) hx hb dL_errors_143 (by decide) (fun c11 => ?_) (fun c11 => ?_)
            · replace h := (if_neg c11).symm.trans h
              exact no_some h
            · replace h := (if_pos c11).symm.trans h
              refine lv_aload_n hx hb dL_errors_146 rfl (lv_at hl 0 rfl) ?_
              refine lv_iconst (v := (-1)) hx hb dL_errors_147 (by decide) ?_
              obtain ⟨r148, hr148, h⟩ := bd_some h
              refine gww_l (As := [.ref q, .int (-1)]) (rest := []) (k2 := 156) (n2 := 936) ⟨hx, hb, hml, hown, hts⟩ (gEnw_now hE hS (fun _ h9 => Nat.le_trans hlo h9.1)) hK (kL_report l D cI cC cZ cQ cJ t lo q r136.2 (-1) hlo hlS hr148) (vx_cwSW 2 hts gL_errors_L_report rfl rfl rfl (by decide +kernel) ⟨Nat.le_of_ble_eq_true rfl, Nat.le_of_ble_eq_true rfl⟩) hP hS (fun _ h9 => h9) rfl hl.1 rfl (Nat.le_of_ble_eq_true rfl) ⟨by show _ ≤ (330 : Nat); omega, by show _ ≤ (1980 : Nat); omega⟩ rfl rfl dL_errors_148 (fun H1 locs hP1 hS hz1 hk1 => ?_)
              have hP : va_P D vwCl (GW cI cC cZ cQ q r148.2) H1 := hP1
              generalize H1 = H at hP hS ⊢
              refine lv_ldc2 (v := (-9000000000000000002)) hx hb hown (hts (.constantLong RL 17 (-9000000000000000002)) (by decide +kernel)) dL_errors_151 ?_
              refine W.lcmp hx hb dL_errors_154 ?_
              refine lv_if_ne (tgt := 350) hx hb dL_errors_155 (by decide) (fun c12 => ?_) (fun c12 => ?_)
              · replace h := (if_neg c12).symm.trans h
                exact no_some h
              · replace h := (if_pos c12).symm.trans h
                refine lv_aload_n hx hb dL_errors_158 rfl (lv_at hl 0 rfl) ?_
                refine lv_iconst (v := 0) hx hb dL_errors_159 (by decide) ?_
                obtain ⟨r160, hr160, h⟩ := bd_some h
                refine gww_l (As := [.ref q, .int 0]) (rest := []) (k2 := 157) (n2 := 942) ⟨hx, hb, hml, hown, hts⟩ (gEnw_now hE hS (fun _ h9 => Nat.le_trans hlo h9.1)) hK (kL_step l D cI cC cZ cQ cJ t lo q r148.2 0 hlo hlS hr160) (vx_cwSW 2 hts gL_errors_L_step rfl rfl rfl (by decide +kernel) ⟨Nat.le_of_ble_eq_true rfl, Nat.le_of_ble_eq_true rfl⟩) hP hS (fun _ h9 => h9) rfl hl.1 rfl (Nat.le_of_ble_eq_true rfl) ⟨by show _ ≤ (330 : Nat); omega, by show _ ≤ (1980 : Nat); omega⟩ rfl rfl dL_errors_160 (fun H1 locs hP1 hS hz1 hk1 => ?_)
                have hP : va_P D vwCl (GW cI cC cZ cQ q r160.2) H1 := hP1
                generalize H1 = H at hP hS ⊢
                refine lv_ldc2 (v := (-9000000000000000002)) hx hb hown (hts (.constantLong RL 17 (-9000000000000000002)) (by decide +kernel)) dL_errors_163 ?_
                refine W.lcmp hx hb dL_errors_166 ?_
                refine lv_if_ne (tgt := 350) hx hb dL_errors_167 (by decide) (fun c13 => ?_) (fun c13 => ?_)
                · replace h := (if_neg c13).symm.trans h
                  exact no_some h
                · replace h := (if_pos c13).symm.trans h
                  refine lv_aload_n hx hb dL_errors_170 rfl (lv_at hl 0 rfl) ?_
                  refine lv_bipush (v := 100) hx hb dL_errors_171 (by decide) ?_
                  obtain ⟨r173, hr173, h⟩ := bd_some h
                  refine gww_l (As := [.ref q, .int 100]) (rest := []) (k2 := 158) (n2 := 948) ⟨hx, hb, hml, hown, hts⟩ (gEnw_now hE hS (fun _ h9 => Nat.le_trans hlo h9.1)) hK (kL_step l D cI cC cZ cQ cJ t lo q r160.2 100 hlo hlS hr173) (vx_cwSW 2 hts gL_errors_L_step rfl rfl rfl (by decide +kernel) ⟨Nat.le_of_ble_eq_true rfl, Nat.le_of_ble_eq_true rfl⟩) hP hS (fun _ h9 => h9) rfl hl.1 rfl (Nat.le_of_ble_eq_true rfl) ⟨by show _ ≤ (330 : Nat); omega, by show _ ≤ (1980 : Nat); omega⟩ rfl rfl dL_errors_173 (fun H1 locs hP1 hS hz1 hk1 => ?_)
                  have hP : va_P D vwCl (GW cI cC cZ cQ q r173.2) H1 := hP1
                  generalize H1 = H at hP hS ⊢
                  refine lv_ldc2 (v := (-9000000000000000002)) hx hb hown (hts (.constantLong RL 17 (-9000000000000000002)) (by decide +kernel)) dL_errors_176 ?_
                  refine W.lcmp hx hb dL_errors_179 ?_
                  refine lv_if_ne (tgt := 350) hx hb dL_errors_180 (by decide) (fun c14 => ?_) (fun c14 => ?_)
                  · replace h := (if_neg c14).symm.trans h
                    exact no_some h
                  · replace h := (if_pos c14).symm.trans h
                    refine lv_aload_n hx hb dL_errors_183 rfl (lv_at hl 0 rfl) ?_
                    refine lv_iconst (v := 4) hx hb dL_errors_184 (by decide) ?_
                    obtain ⟨r185, hr185, h⟩ := bd_some h
                    refine gww_l (As := [.ref q, .int 4]) (rest := []) (k2 := 159) (n2 := 954) ⟨hx, hb, hml, hown, hts⟩ (gEnw_now hE hS (fun _ h9 => Nat.le_trans hlo h9.1)) hK (kL_addGrip l D cI cC cZ cQ cJ t lo q r173.2 4 hlo hlS hr185) (vx_cwSW 2 hts gL_errors_L_addGrip rfl rfl rfl (by decide +kernel) ⟨Nat.le_of_ble_eq_true rfl, Nat.le_of_ble_eq_true rfl⟩) hP hS (fun _ h9 => h9) rfl hl.1 rfl (Nat.le_of_ble_eq_true rfl) ⟨by show _ ≤ (330 : Nat); omega, by show _ ≤ (1980 : Nat); omega⟩ rfl rfl dL_errors_185 (fun H1 locs hP1 hS hz1 hk1 => ?_)
                    have hP : va_P D vwCl (GW cI cC cZ cQ q r185.2) H1 := hP1
                    generalize H1 = H at hP hS ⊢
                    refine lv_ldc2 (v := (-9000000000000000002)) hx hb hown (hts (.constantLong RL 17 (-9000000000000000002)) (by decide +kernel)) dL_errors_188 ?_
                    refine W.lcmp hx hb dL_errors_191 ?_
                    refine lv_if_ne (tgt := 350) hx hb dL_errors_192 (by decide) (fun c15 => ?_) (fun c15 => ?_)
                    · replace h := (if_neg c15).symm.trans h
                      exact no_some h
                    · replace h := (if_pos c15).symm.trans h
                      refine lv_aload_n hx hb dL_errors_195 rfl (lv_at hl 0 rfl) ?_
                      refine lv_iconst (v := (-1)) hx hb dL_errors_196 (by decide) ?_
                      obtain ⟨r197, hr197, h⟩ := bd_some h
                      refine gww_l (As := [.ref q, .int (-1)]) (rest := []) (k2 := 160) (n2 := 960) ⟨hx, hb, hml, hown, hts⟩ (gEnw_now hE hS (fun _ h9 => Nat.le_trans hlo h9.1)) hK (kL_addGrip l D cI cC cZ cQ cJ t lo q r185.2 (-1) hlo hlS hr197) (vx_cwSW 2 hts gL_errors_L_addGrip rfl rfl rfl (by decide +kernel) ⟨Nat.le_of_ble_eq_true rfl, Nat.le_of_ble_eq_true rfl⟩) hP hS (fun _ h9 => h9) rfl hl.1 rfl (Nat.le_of_ble_eq_true rfl) ⟨by show _ ≤ (330 : Nat); omega, by show _ ≤ (1980 : Nat); omega⟩ rfl rfl dL_errors_197 (fun H1 locs hP1 hS hz1 hk1 => ?_)
                      have hP : va_P D vwCl (GW cI cC cZ cQ q r197.2) H1 := hP1
                      generalize H1 = H at hP hS ⊢
                      refine lv_ldc2 (v := (-9000000000000000002)) hx hb hown (hts (.constantLong RL 17 (-9000000000000000002)) (by decide +kernel)) dL_errors_200 ?_
                      refine W.lcmp hx hb dL_errors_203 ?_
                      refine lv_if_ne (tgt := 350) hx hb dL_errors_204 (by decide) (fun c16 => ?_) (fun c16 => ?_)
                      · replace h := (if_neg c16).symm.trans h
                        exact no_some h
                      · replace h := (if_pos c16).symm.trans h
                        refine lv_iload hx hb dL_errors_207 (lv_at hl 3 rfl) ?_
                        refine lv_bipush (v := 12) hx hb dL_errors_209 (by decide) ?_
                        obtain ⟨a226_18, haa226_18, h⟩ := bd_some h
                        have JJ226 : ∀ (H : Heap) (locs : List Loc) (ls : Array Slot), va_P D vwCl (GW cI cC cZ cQ q a226_18) H → va_S (fIv q 201) s.heap H locs → lv_has ls 6 [(0, .ref q), (1, .long r1.1), (4, .int r13.1)] → W p l e ({ frames := 10, cells := 330, slots := 1980, locals := 182 } : Room) s m ([.ref q] : List Value).toArray below meth c H locs 161 966 (MQ below (va_Qi (fun r (_ : Unit) => r = 1) (fun _ t => va_P D vwCl (GW cI cC cZ cQ q R) t.heap) (fIv q 201)) ([.ref q] : List Value).toArray s 330 1980 (fIv q 201)) (F0 m 226 ls []) := by
                          intro H locs ls hP hS hl
                          refine lv_aload_n hx hb dL_errors_226 rfl (lv_at hl 0 rfl) ?_
                          refine lv_iload hx hb dL_errors_227 (lv_at hl 2 rfl) ?_
                          refine lv_iconst (v := 0) hx hb dL_errors_229 (by decide) ?_
                          obtain ⟨r230, hr230, h⟩ := bd_some h
                          refine gww_l (As := [.ref q, .int r13.1, .int 0]) (rest := []) (k2 := 162) (n2 := 972) ⟨hx, hb, hml, hown, hts⟩ (gEnw_now hE hS (fun _ h9 => Nat.le_trans hlo h9.1)) hK (kL_putOn l D cI cC cZ cQ cJ t lo q a226_18 (r13.1) 0 hlo hlS hr230) (vx_cwSW 3 hts gL_errors_L_putOn rfl rfl rfl (by decide +kernel) ⟨Nat.le_of_ble_eq_true rfl, Nat.le_of_ble_eq_true rfl⟩) hP hS (fun _ h9 => h9) rfl hl.1 rfl (Nat.le_of_ble_eq_true rfl) ⟨by show _ ≤ (330 : Nat); omega, by show _ ≤ (1980 : Nat); omega⟩ rfl rfl dL_errors_230 (fun H1 locs hP1 hS hz1 hk1 => ?_)
                          have hP : va_P D vwCl (GW cI cC cZ cQ q r230.2) H1 := hP1
                          generalize H1 = H at hP hS ⊢
                          refine lv_ldc2 (v := (-9000000000000000001)) hx hb hown (hts (.constantLong RL 36 (-9000000000000000001)) (by decide +kernel)) dL_errors_233 ?_
                          refine W.lcmp hx hb dL_errors_236 ?_
                          refine lv_if_ne (tgt := 350) hx hb dL_errors_237 (by decide) (fun c20 => ?_) (fun c20 => ?_)
                          · replace h := (if_neg c20).symm.trans h
                            exact no_some h
                          · replace h := (if_pos c20).symm.trans h
                            refine lv_aload_n hx hb dL_errors_240 rfl (lv_at hl 0 rfl) ?_
                            refine lv_iconst (v := (-1)) hx hb dL_errors_241 (by decide) ?_
                            obtain ⟨r242, hr242, h⟩ := bd_some h
                            refine gww_l (As := [.ref q, .int (-1)]) (rest := []) (k2 := 163) (n2 := 978) ⟨hx, hb, hml, hown, hts⟩ (gEnw_now hE hS (fun _ h9 => Nat.le_trans hlo h9.1)) hK (kL_takeOff l D cI cC cZ cQ cJ t lo q r230.2 (-1) hlo hlS hr242) (vx_cwSW 2 hts gL_errors_L_takeOff rfl rfl rfl (by decide +kernel) ⟨Nat.le_of_ble_eq_true rfl, Nat.le_of_ble_eq_true rfl⟩) hP hS (fun _ h9 => h9) rfl hl.1 rfl (Nat.le_of_ble_eq_true rfl) ⟨by show _ ≤ (330 : Nat); omega, by show _ ≤ (1980 : Nat); omega⟩ rfl rfl dL_errors_242 (fun H1 locs hP1 hS hz1 hk1 => ?_)
                            have hP : va_P D vwCl (GW cI cC cZ cQ q r242.2) H1 := hP1
                            generalize H1 = H at hP hS ⊢
                            refine lv_ldc2 (v := (-9000000000000000001)) hx hb hown (hts (.constantLong RL 36 (-9000000000000000001)) (by decide +kernel)) dL_errors_245 ?_
                            refine W.lcmp hx hb dL_errors_248 ?_
                            refine lv_if_ne (tgt := 350) hx hb dL_errors_249 (by decide) (fun c21 => ?_) (fun c21 => ?_)
                            · replace h := (if_neg c21).symm.trans h
                              exact no_some h
                            · replace h := (if_pos c21).symm.trans h
                              refine lv_aload_n hx hb dL_errors_252 rfl (lv_at hl 0 rfl) ?_
                              refine lv_iload hx hb dL_errors_253 (lv_at hl 2 rfl) ?_
                              obtain ⟨r255, hr255, h⟩ := bd_some h
                              refine gww_l (As := [.ref q, .int r13.1]) (rest := []) (k2 := 164) (n2 := 984) ⟨hx, hb, hml, hown, hts⟩ (gEnw_now hE hS (fun _ h9 => Nat.le_trans hlo h9.1)) hK (kL_scrap l D cI cC cZ cQ cJ t lo q r242.2 (r13.1) hlo hlS hr255) (vx_cwSW 2 hts gL_errors_L_scrap rfl rfl rfl (by decide +kernel) ⟨Nat.le_of_ble_eq_true rfl, Nat.le_of_ble_eq_true rfl⟩) hP hS (fun _ h9 => h9) rfl hl.1 rfl (Nat.le_of_ble_eq_true rfl) ⟨by show _ ≤ (330 : Nat); omega, by show _ ≤ (1980 : Nat); omega⟩ rfl rfl dL_errors_255 (fun H1 locs hP1 hS hz1 hk1 => ?_)
                              have hP : va_P D vwCl (GW cI cC cZ cQ q r255.2) H1 := hP1
                              generalize H1 = H at hP hS ⊢
                              refine lv_ldc2 (v := (-9000000000000000001)) hx hb hown (hts (.constantLong RL 36 (-9000000000000000001)) (by decide +kernel)) dL_errors_258 ?_
                              refine W.lcmp hx hb dL_errors_261 ?_
                              refine lv_if_ne (tgt := 350) hx hb dL_errors_262 (by decide) (fun c22 => ?_) (fun c22 => ?_)
                              · replace h := (if_neg c22).symm.trans h
                                exact no_some h
                              · replace h := (if_pos c22).symm.trans h
                                refine lv_aload_n hx hb dL_errors_265 rfl (lv_at hl 0 rfl) ?_
                                refine lv_iconst (v := 5) hx hb dL_errors_266 (by decide) ?_
                                refine lv_iconst (v := 1) hx hb dL_errors_267 (by decide) ?_
                                obtain ⟨r268, hr268, h⟩ := bd_some h
                                refine gww_l (As := [.ref q, .int 5, .int 1]) (rest := []) (k2 := 165) (n2 := 990) ⟨hx, hb, hml, hown, hts⟩ (gEnw_now hE hS (fun _ h9 => Nat.le_trans hlo h9.1)) hK (kL_setLimit l D cI cC cZ cQ cJ t lo q r255.2 5 1 hlo hlS hr268) (vx_cwSW 3 hts gL_errors_L_setLimit rfl rfl rfl (by decide +kernel) ⟨Nat.le_of_ble_eq_true rfl, Nat.le_of_ble_eq_true rfl⟩) hP hS (fun _ h9 => h9) rfl hl.1 rfl (Nat.le_of_ble_eq_true rfl) ⟨by show _ ≤ (330 : Nat); omega, by show _ ≤ (1980 : Nat); omega⟩ rfl rfl dL_errors_268 (fun H1 locs hP1 hS hz1 hk1 => ?_)
                                have hP : va_P D vwCl (GW cI cC cZ cQ q r268.2) H1 := hP1
                                generalize H1 = H at hP hS ⊢
                                refine lv_ldc2 (v := (-9000000000000000002)) hx hb hown (hts (.constantLong RL 17 (-9000000000000000002)) (by decide +kernel)) dL_errors_271 ?_
                                refine W.lcmp hx hb dL_errors_274 ?_
                                refine lv_if_ne (tgt := 350) hx hb dL_errors_275 (by decide) (fun c23 => ?_) (fun c23 => ?_)
                                · replace h := (if_neg c23).symm.trans h
                                  exact no_some h
                                · replace h := (if_pos c23).symm.trans h
                                  refine lv_aload_n hx hb dL_errors_278 rfl (lv_at hl 0 rfl) ?_
                                  refine lv_iconst (v := 0) hx hb dL_errors_279 (by decide) ?_
                                  refine lv_bipush (v := 100) hx hb dL_errors_280 (by decide) ?_
                                  obtain ⟨r282, hr282, h⟩ := bd_some h
                                  refine gww_l (As := [.ref q, .int 0, .int 100]) (rest := []) (k2 := 166) (n2 := 996) ⟨hx, hb, hml, hown, hts⟩ (gEnw_now hE hS (fun _ h9 => Nat.le_trans hlo h9.1)) hK (kL_setLimit l D cI cC cZ cQ cJ t lo q r268.2 0 100 hlo hlS hr282) (vx_cwSW 3 hts gL_errors_L_setLimit rfl rfl rfl (by decide +kernel) ⟨Nat.le_of_ble_eq_true rfl, Nat.le_of_ble_eq_true rfl⟩) hP hS (fun _ h9 => h9) rfl hl.1 rfl (Nat.le_of_ble_eq_true rfl) ⟨by show _ ≤ (330 : Nat); omega, by show _ ≤ (1980 : Nat); omega⟩ rfl rfl dL_errors_282 (fun H1 locs hP1 hS hz1 hk1 => ?_)
                                  have hP : va_P D vwCl (GW cI cC cZ cQ q r282.2) H1 := hP1
                                  generalize H1 = H at hP hS ⊢
                                  refine lv_ldc2 (v := (-9000000000000000002)) hx hb hown (hts (.constantLong RL 17 (-9000000000000000002)) (by decide +kernel)) dL_errors_285 ?_
                                  refine W.lcmp hx hb dL_errors_288 ?_
                                  refine lv_if_ne (tgt := 350) hx hb dL_errors_289 (by decide) (fun c24 => ?_) (fun c24 => ?_)
                                  · replace h := (if_neg c24).symm.trans h
                                    exact no_some h
                                  · replace h := (if_pos c24).symm.trans h
                                    refine lv_aload_n hx hb dL_errors_292 rfl (lv_at hl 0 rfl) ?_
                                    refine lv_iconst (v := 1) hx hb dL_errors_293 (by decide) ?_
                                    refine lv_bipush (v := 51) hx hb dL_errors_294 (by decide) ?_
                                    obtain ⟨r296, hr296, h⟩ := bd_some h
                                    refine gww_l (As := [.ref q, .int 1, .int 51]) (rest := []) (k2 := 167) (n2 := 1002) ⟨hx, hb, hml, hown, hts⟩ (gEnw_now hE hS (fun _ h9 => Nat.le_trans hlo h9.1)) hK (kL_setLimit l D cI cC cZ cQ cJ t lo q r282.2 1 51 hlo hlS hr296) (vx_cwSW 3 hts gL_errors_L_setLimit rfl rfl rfl (by decide +kernel) ⟨Nat.le_of_ble_eq_true rfl, Nat.le_of_ble_eq_true rfl⟩) hP hS (fun _ h9 => h9) rfl hl.1 rfl (Nat.le_of_ble_eq_true rfl) ⟨by show _ ≤ (330 : Nat); omega, by show _ ≤ (1980 : Nat); omega⟩ rfl rfl dL_errors_296 (fun H1 locs hP1 hS hz1 hk1 => ?_)
                                    have hP : va_P D vwCl (GW cI cC cZ cQ q r296.2) H1 := hP1
                                    generalize H1 = H at hP hS ⊢
                                    refine lv_ldc2 (v := (-9000000000000000002)) hx hb hown (hts (.constantLong RL 17 (-9000000000000000002)) (by decide +kernel)) dL_errors_299 ?_
                                    refine W.lcmp hx hb dL_errors_302 ?_
                                    refine lv_if_ne (tgt := 350) hx hb dL_errors_303 (by decide) (fun c25 => ?_) (fun c25 => ?_)
                                    · replace h := (if_neg c25).symm.trans h
                                      exact no_some h
                                    · replace h := (if_pos c25).symm.trans h
                                      refine lv_aload_n hx hb dL_errors_306 rfl (lv_at hl 0 rfl) ?_
                                      refine lv_iconst (v := 2) hx hb dL_errors_307 (by decide) ?_
                                      refine lv_bipush (v := 10) hx hb dL_errors_308 (by decide) ?_
                                      obtain ⟨r310, hr310, h⟩ := bd_some h
                                      refine gww_l (As := [.ref q, .int 2, .int 10]) (rest := []) (k2 := 168) (n2 := 1008) ⟨hx, hb, hml, hown, hts⟩ (gEnw_now hE hS (fun _ h9 => Nat.le_trans hlo h9.1)) hK (kL_setLimit l D cI cC cZ cQ cJ t lo q r296.2 2 10 hlo hlS hr310) (vx_cwSW 3 hts gL_errors_L_setLimit rfl rfl rfl (by decide +kernel) ⟨Nat.le_of_ble_eq_true rfl, Nat.le_of_ble_eq_true rfl⟩) hP hS (fun _ h9 => h9) rfl hl.1 rfl (Nat.le_of_ble_eq_true rfl) ⟨by show _ ≤ (330 : Nat); omega, by show _ ≤ (1980 : Nat); omega⟩ rfl rfl dL_errors_310 (fun H1 locs hP1 hS hz1 hk1 => ?_)
                                      have hP : va_P D vwCl (GW cI cC cZ cQ q r310.2) H1 := hP1
                                      generalize H1 = H at hP hS ⊢
                                      refine lv_ldc2 (v := (-9000000000000000002)) hx hb hown (hts (.constantLong RL 17 (-9000000000000000002)) (by decide +kernel)) dL_errors_313 ?_
                                      refine W.lcmp hx hb dL_errors_316 ?_
                                      refine lv_if_ne (tgt := 350) hx hb dL_errors_317 (by decide) (fun c26 => ?_) (fun c26 => ?_)
                                      · replace h := (if_neg c26).symm.trans h
                                        exact no_some h
                                      · replace h := (if_pos c26).symm.trans h
                                        refine lv_aload_n hx hb dL_errors_320 rfl (lv_at hl 0 rfl) ?_
                                        refine lv_iconst (v := 3) hx hb dL_errors_321 (by decide) ?_
                                        refine lv_iconst (v := 5) hx hb dL_errors_322 (by decide) ?_
                                        obtain ⟨r323, hr323, h⟩ := bd_some h
                                        refine gww_l (As := [.ref q, .int 3, .int 5]) (rest := []) (k2 := 169) (n2 := 1014) ⟨hx, hb, hml, hown, hts⟩ (gEnw_now hE hS (fun _ h9 => Nat.le_trans hlo h9.1)) hK (kL_setLimit l D cI cC cZ cQ cJ t lo q r310.2 3 5 hlo hlS hr323) (vx_cwSW 3 hts gL_errors_L_setLimit rfl rfl rfl (by decide +kernel) ⟨Nat.le_of_ble_eq_true rfl, Nat.le_of_ble_eq_true rfl⟩) hP hS (fun _ h9 => h9) rfl hl.1 rfl (Nat.le_of_ble_eq_true rfl) ⟨by show _ ≤ (330 : Nat); omega, by show _ ≤ (1980 : Nat); omega⟩ rfl rfl dL_errors_323 (fun H1 locs hP1 hS hz1 hk1 => ?_)
                                        have hP : va_P D vwCl (GW cI cC cZ cQ q r323.2) H1 := hP1
                                        generalize H1 = H at hP hS ⊢
                                        refine lv_ldc2 (v := (-9000000000000000002)) hx hb hown (hts (.constantLong RL 17 (-9000000000000000002)) (by decide +kernel)) dL_errors_326 ?_
                                        refine W.lcmp hx hb dL_errors_329 ?_
                                        refine lv_if_ne (tgt := 350) hx hb dL_errors_330 (by decide) (fun c27 => ?_) (fun c27 => ?_)
                                        · replace h := (if_neg c27).symm.trans h
                                          exact no_some h
                                        · replace h := (if_pos c27).symm.trans h
                                          refine lv_aload_n hx hb dL_errors_333 rfl (lv_at hl 0 rfl) ?_
                                          refine lv_iconst (v := 4) hx hb dL_errors_334 (by decide) ?_
                                          refine lv_iconst (v := 0) hx hb dL_errors_335 (by decide) ?_
                                          obtain ⟨r336, hr336, h⟩ := bd_some h
                                          refine gww_l (As := [.ref q, .int 4, .int 0]) (rest := []) (k2 := 170) (n2 := 1020) ⟨hx, hb, hml, hown, hts⟩ (gEnw_now hE hS (fun _ h9 => Nat.le_trans hlo h9.1)) hK (kL_setLimit l D cI cC cZ cQ cJ t lo q r323.2 4 0 hlo hlS hr336) (vx_cwSW 3 hts gL_errors_L_setLimit rfl rfl rfl (by decide +kernel) ⟨Nat.le_of_ble_eq_true rfl, Nat.le_of_ble_eq_true rfl⟩) hP hS (fun _ h9 => h9) rfl hl.1 rfl (Nat.le_of_ble_eq_true rfl) ⟨by show _ ≤ (330 : Nat); omega, by show _ ≤ (1980 : Nat); omega⟩ rfl rfl dL_errors_336 (fun H1 locs hP1 hS hz1 hk1 => ?_)
                                          have hP : va_P D vwCl (GW cI cC cZ cQ q r336.2) H1 := hP1
                                          generalize H1 = H at hP hS ⊢
                                          refine lv_ldc2 (v := (-9000000000000000002)) hx hb hown (hts (.constantLong RL 17 (-9000000000000000002)) (by decide +kernel)) dL_errors_339 ?_
                                          refine W.lcmp hx hb dL_errors_342 ?_
                                          refine lv_if_ne (tgt := 350) hx hb dL_errors_343 (by decide) (fun c28 => ?_) (fun c28 => ?_)
                                          · replace h := (if_neg c28).symm.trans h
                                            exact no_some h
                                          · replace h := (if_pos c28).symm.trans h
                                            refine lv_iconst (v := 1) hx hb dL_errors_346 (by decide) ?_
                                            refine lv_goto (tgt := 351) hx hb dL_errors_347 (by decide) ?_
                                            refine lv_istore (lv' := [(5, .int 1), (0, .ref q), (1, .long r1.1), (4, .int r13.1)]) hx hb dL_errors_351 hl (by decide) rfl (fun ls hl => ?_)
                                            refine lv_iload hx hb dL_errors_353 (lv_at hl 0 rfl) ?_
                                            refine lv_if_eq (tgt := 582) hx hb dL_errors_355 (by decide) (fun c => absurd c (by decide)) (fun _ => ?_)
                                            refine lv_aload_n hx hb dL_errors_358 rfl (lv_at hl 1 rfl) ?_
                                            refine lv_iload hx hb dL_errors_359 (lv_at hl 3 rfl) ?_
                                            obtain ⟨r361, hr361, h⟩ := bd_some h
                                            refine gww_l (As := [.ref q, .int r13.1]) (rest := []) (k2 := 171) (n2 := 1026) ⟨hx, hb, hml, hown, hts⟩ (gEnw_now hE hS (fun _ h9 => Nat.le_trans hlo h9.1)) hK (kL_gap l D cI cC cZ cQ cJ t lo q r336.2 (r13.1) hlo hlS hr361) (vx_cwSW 2 hts gL_errors_L_gap rfl rfl rfl (by decide +kernel) ⟨Nat.le_of_ble_eq_true rfl, Nat.le_of_ble_eq_true rfl⟩) hP hS (fun _ h9 => h9) rfl hl.1 rfl (Nat.le_of_ble_eq_true rfl) ⟨by show _ ≤ (330 : Nat); omega, by show _ ≤ (1980 : Nat); omega⟩ rfl rfl dL_errors_361 (fun H1 locs hP1 hS hz1 hk1 => ?_)
                                            have hP : va_P D vwCl (GW cI cC cZ cQ q r361.2) H1 := hP1
                                            generalize H1 = H at hP hS ⊢
                                            refine lv_ldc2 (v := (-9000000000000000001)) hx hb hown (hts (.constantLong RL 36 (-9000000000000000001)) (by decide +kernel)) dL_errors_364 ?_
                                            refine W.lcmp hx hb dL_errors_367 ?_
                                            refine lv_if_ne (tgt := 582) hx hb dL_errors_368 (by decide) (fun c29 => ?_) (fun c29 => ?_)
                                            · replace h := (if_neg c29).symm.trans h
                                              exact no_some h
                                            · replace h := (if_pos c29).symm.trans h
                                              refine lv_aload_n hx hb dL_errors_371 rfl (lv_at hl 1 rfl) ?_
                                              refine lv_iconst (v := 3) hx hb dL_errors_372 (by decide) ?_
                                              obtain ⟨r373, hr373, h⟩ := bd_some h
                                              refine gww_l (As := [.ref q, .int 3]) (rest := []) (k2 := 172) (n2 := 1032) ⟨hx, hb, hml, hown, hts⟩ (gEnw_now hE hS (fun _ h9 => Nat.le_trans hlo h9.1)) hK (kL_room l D cI cC cZ cQ cJ t lo q r361.2 3 hlo hlS hr373) (vx_cwSW 2 hts gL_errors_L_room rfl rfl rfl (by decide +kernel) ⟨Nat.le_of_ble_eq_true rfl, Nat.le_of_ble_eq_true rfl⟩) hP hS (fun _ h9 => h9) rfl hl.1 rfl (Nat.le_of_ble_eq_true rfl) ⟨by show _ ≤ (330 : Nat); omega, by show _ ≤ (1980 : Nat); omega⟩ rfl rfl dL_errors_373 (fun H1 locs hP1 hS hz1 hk1 => ?_)
                                              have hP : va_P D vwCl (GW cI cC cZ cQ q r373.2) H1 := hP1
                                              generalize H1 = H at hP hS ⊢
                                              refine lv_ldc2 (v := (-9000000000000000002)) hx hb hown (hts (.constantLong RL 17 (-9000000000000000002)) (by decide +kernel)) dL_errors_376 ?_
                                              refine W.lcmp hx hb dL_errors_379 ?_
                                              refine lv_if_ne (tgt := 582) hx hb dL_errors_380 (by decide) (fun c30 => ?_) (fun c30 => ?_)
                                              · replace h := (if_neg c30).symm.trans h
                                                exact no_some h
                                              · replace h := (if_pos c30).symm.trans h
                                                refine lv_aload_n hx hb dL_errors_383 rfl (lv_at hl 1 rfl) ?_
                                                refine lv_iconst (v := 3) hx hb dL_errors_384 (by decide) ?_
                                                obtain ⟨r385, hr385, h⟩ := bd_some h
                                                refine gww_l (As := [.ref q, .int 3]) (rest := []) (k2 := 173) (n2 := 1038) ⟨hx, hb, hml, hown, hts⟩ (gEnw_now hE hS (fun _ h9 => Nat.le_trans hlo h9.1)) hK (kL_groups l D cI cC cZ cQ cJ t lo q r373.2 3 hlo hlS hr385) (vx_cwSW 2 hts gL_errors_L_groups rfl rfl rfl (by decide +kernel) ⟨Nat.le_of_ble_eq_true rfl, Nat.le_of_ble_eq_true rfl⟩) hP hS (fun _ h9 => h9) rfl hl.1 rfl (Nat.le_of_ble_eq_true rfl) ⟨by show _ ≤ (330 : Nat); omega, by show _ ≤ (1980 : Nat); omega⟩ rfl rfl dL_errors_385 (fun H1 locs hP1 hS hz1 hk1 => ?_)
                                                have hP : va_P D vwCl (GW cI cC cZ cQ q r385.2) H1 := hP1
                                                generalize H1 = H at hP hS ⊢
                                                refine lv_ldc2 (v := (-9000000000000000002)) hx hb hown (hts (.constantLong RL 17 (-9000000000000000002)) (by decide +kernel)) dL_errors_388 ?_
                                                refine W.lcmp hx hb dL_errors_391 ?_
                                                refine lv_if_ne (tgt := 582) hx hb dL_errors_392 (by decide) (fun c31 => ?_) (fun c31 => ?_)
                                                · replace h := (if_neg c31).symm.trans h
                                                  exact no_some h
                                                · replace h := (if_pos c31).symm.trans h
                                                  refine lv_aload_n hx hb dL_errors_395 rfl (lv_at hl 1 rfl) ?_
                                                  refine lv_iload hx hb dL_errors_396 (lv_at hl 3 rfl) ?_
                                                  obtain ⟨r398, hr398, h⟩ := bd_some h
                                                  refine gww_l (As := [.ref q, .int r13.1]) (rest := []) (k2 := 174) (n2 := 1044) ⟨hx, hb, hml, hown, hts⟩ (gEnw_now hE hS (fun _ h9 => Nat.le_trans hlo h9.1)) hK (kL_dueAfter l D cI cC cZ cQ cJ t lo q r385.2 (r13.1) hlo hlS hr398) (vx_cwSW 2 hts gL_errors_L_dueAfter rfl rfl rfl (by decide +kernel) ⟨Nat.le_of_ble_eq_true rfl, Nat.le_of_ble_eq_true rfl⟩) hP hS (fun _ h9 => h9) rfl hl.1 rfl (Nat.le_of_ble_eq_true rfl) ⟨by show _ ≤ (330 : Nat); omega, by show _ ≤ (1980 : Nat); omega⟩ rfl rfl dL_errors_398 (fun H1 locs hP1 hS hz1 hk1 => ?_)
                                                  have hP : va_P D vwCl (GW cI cC cZ cQ q r398.2) H1 := hP1
                                                  generalize H1 = H at hP hS ⊢
                                                  refine lv_ldc2 (v := (-9000000000000000001)) hx hb hown (hts (.constantLong RL 36 (-9000000000000000001)) (by decide +kernel)) dL_errors_401 ?_
                                                  refine W.lcmp hx hb dL_errors_404 ?_
                                                  refine lv_if_ne (tgt := 582) hx hb dL_errors_405 (by decide) (fun c32 => ?_) (fun c32 => ?_)
                                                  · replace h := (if_neg c32).symm.trans h
                                                    exact no_some h
                                                  · replace h := (if_pos c32).symm.trans h
                                                    refine lv_aload_n hx hb dL_errors_408 rfl (lv_at hl 1 rfl) ?_
                                                    refine lv_iconst (v := 0) hx hb dL_errors_409 (by decide) ?_
                                                    refine lv_iconst (v := 1) hx hb dL_errors_410 (by decide) ?_
                                                    obtain ⟨r411, hr411, h⟩ := bd_some h
                                                    refine gww_l (As := [.ref q, .int 0, .int 1]) (rest := []) (k2 := 175) (n2 := 1050) ⟨hx, hb, hml, hown, hts⟩ (gEnw_now hE hS (fun _ h9 => Nat.le_trans hlo h9.1)) hK (kL_chance l D cI cC cZ cQ cJ t lo q r398.2 0 1 hlo hlS hr411) (vx_cwSW 3 hts gL_errors_L_chance rfl rfl rfl (by decide +kernel) ⟨Nat.le_of_ble_eq_true rfl, Nat.le_of_ble_eq_true rfl⟩) hP hS (fun _ h9 => h9) rfl hl.1 rfl (Nat.le_of_ble_eq_true rfl) ⟨by show _ ≤ (330 : Nat); omega, by show _ ≤ (1980 : Nat); omega⟩ rfl rfl dL_errors_411 (fun H1 locs hP1 hS hz1 hk1 => ?_)
                                                    have hP : va_P D vwCl (GW cI cC cZ cQ q r411.2) H1 := hP1
                                                    generalize H1 = H at hP hS ⊢
                                                    refine lv_ldc2 (v := (-9000000000000000002)) hx hb hown (hts (.constantLong RL 17 (-9000000000000000002)) (by decide +kernel)) dL_errors_414 ?_
                                                    refine W.lcmp hx hb dL_errors_417 ?_
                                                    refine lv_if_ne (tgt := 582) hx hb dL_errors_418 (by decide) (fun c33 => ?_) (fun c33 => ?_)
                                                    · replace h := (if_neg c33).symm.trans h
                                                      exact no_some h
                                                    · replace h := (if_pos c33).symm.trans h
                                                      refine lv_aload_n hx hb dL_errors_421 rfl (lv_at hl 1 rfl) ?_
                                                      refine lv_bipush (v := 10) hx hb dL_errors_422 (by decide) ?_
                                                      refine lv_iconst (v := 1) hx hb dL_errors_424 (by decide) ?_
                                                      obtain ⟨r425, hr425, h⟩ := bd_some h
                                                      refine gww_l (As := [.ref q, .int 10, .int 1]) (rest := []) (k2 := 176) (n2 := 1056) ⟨hx, hb, hml, hown, hts⟩ (gEnw_now hE hS (fun _ h9 => Nat.le_trans hlo h9.1)) hK (kL_chance l D cI cC cZ cQ cJ t lo q r411.2 10 1 hlo hlS hr425) (vx_cwSW 3 hts gL_errors_L_chance rfl rfl rfl (by decide +kernel) ⟨Nat.le_of_ble_eq_true rfl, Nat.le_of_ble_eq_true rfl⟩) hP hS (fun _ h9 => h9) rfl hl.1 rfl (Nat.le_of_ble_eq_true rfl) ⟨by show _ ≤ (330 : Nat); omega, by show _ ≤ (1980 : Nat); omega⟩ rfl rfl dL_errors_425 (fun H1 locs hP1 hS hz1 hk1 => ?_)
                                                      have hP : va_P D vwCl (GW cI cC cZ cQ q r425.2) H1 := hP1
                                                      generalize H1 = H at hP hS ⊢
                                                      refine lv_ldc2 (v := (-9000000000000000002)) hx hb hown (hts (.constantLong RL 17 (-9000000000000000002)) (by decide +kernel)) dL_errors_428 ?_
                                                      refine W.lcmp hx hb dL_errors_431 ?_
                                                      refine lv_if_ne (tgt := 582) hx hb dL_errors_432 (by decide) (fun c34 => ?_) (fun c34 => ?_)
                                                      · replace h := (if_neg c34).symm.trans h
                                                        exact no_some h
                                                      · replace h := (if_pos c34).symm.trans h
                                                        refine lv_aload_n hx hb dL_errors_435 rfl (lv_at hl 1 rfl) ?_
                                                        refine lv_iload hx hb dL_errors_436 (lv_at hl 3 rfl) ?_
                                                        refine lv_iconst (v := 1) hx hb dL_errors_438 (by decide) ?_
                                                        refine lv_bipush (v := 9) hx hb dL_errors_439 (by decide) ?_
                                                        obtain ⟨r441, hr441, h⟩ := bd_some h
                                                        refine gww_l (As := [.ref q, .int r13.1, .int 1, .int 9]) (rest := []) (k2 := 177) (n2 := 1062) ⟨hx, hb, hml, hown, hts⟩ (gEnw_now hE hS (fun _ h9 => Nat.le_trans hlo h9.1)) hK (kL_ahead l D cI cC cZ cQ cJ t lo q r425.2 (r13.1) 1 9 hlo hlS hr441) (vx_cwSW 4 hts gL_errors_L_ahead rfl rfl rfl (by decide +kernel) ⟨Nat.le_of_ble_eq_true rfl, Nat.le_of_ble_eq_true rfl⟩) hP hS (fun _ h9 => h9) rfl hl.1 rfl (Nat.le_of_ble_eq_true rfl) ⟨by show _ ≤ (330 : Nat); omega, by show _ ≤ (1980 : Nat); omega⟩ rfl rfl dL_errors_441 (fun H1 locs hP1 hS hz1 hk1 => ?_)
                                                        have hP : va_P D vwCl (GW cI cC cZ cQ q r441.2) H1 := hP1
                                                        generalize H1 = H at hP hS ⊢
                                                        refine lv_ldc2 (v := (-9000000000000000001)) hx hb hown (hts (.constantLong RL 36 (-9000000000000000001)) (by decide +kernel)) dL_errors_444 ?_
                                                        refine W.lcmp hx hb dL_errors_447 ?_
                                                        refine lv_if_ne (tgt := 582) hx hb dL_errors_448 (by decide) (fun c35 => ?_) (fun c35 => ?_)
                                                        · replace h := (if_neg c35).symm.trans h
                                                          exact no_some h
                                                        · replace h := (if_pos c35).symm.trans h
                                                          refine lv_aload_n hx hb dL_errors_451 rfl (lv_at hl 1 rfl) ?_
                                                          refine lv_iconst (v := 0) hx hb dL_errors_452 (by decide) ?_
                                                          refine lv_iconst (v := 0) hx hb dL_errors_453 (by decide) ?_
                                                          obtain ⟨r454, hr454, h⟩ := bd_some h
                                                          refine gww_l (As := [.ref q, .int 0, .int 0]) (rest := []) (k2 := 178) (n2 := 1068) ⟨hx, hb, hml, hown, hts⟩ (gEnw_now hE hS (fun _ h9 => Nat.le_trans hlo h9.1)) hK (kL_happens l D cI cC cZ cQ cJ t lo q r441.2 0 0 hlo hlS hr454) (vx_cwSW 3 hts gL_errors_L_happens rfl rfl rfl (by decide +kernel) ⟨Nat.le_of_ble_eq_true rfl, Nat.le_of_ble_eq_true rfl⟩) hP hS (fun _ h9 => h9) rfl hl.1 rfl (Nat.le_of_ble_eq_true rfl) ⟨by show _ ≤ (330 : Nat); omega, by show _ ≤ (1980 : Nat); omega⟩ rfl rfl dL_errors_454 (fun H1 locs hP1 hS hz1 hk1 => ?_)
                                                          have hP : va_P D vwCl (GW cI cC cZ cQ q r454.2) H1 := hP1
                                                          generalize H1 = H at hP hS ⊢
                                                          refine lv_ldc2 (v := (-9000000000000000002)) hx hb hown (hts (.constantLong RL 17 (-9000000000000000002)) (by decide +kernel)) dL_errors_457 ?_
                                                          refine W.lcmp hx hb dL_errors_460 ?_
                                                          refine lv_if_ne (tgt := 582) hx hb dL_errors_461 (by decide) (fun c36 => ?_) (fun c36 => ?_)
                                                          · replace h := (if_neg c36).symm.trans h
                                                            exact no_some h
                                                          · replace h := (if_pos c36).symm.trans h
                                                            refine lv_aload_n hx hb dL_errors_464 rfl (lv_at hl 1 rfl) ?_
                                                            refine lv_iconst (v := 1) hx hb dL_errors_465 (by decide) ?_
                                                            refine lv_iconst (v := 4) hx hb dL_errors_466 (by decide) ?_
                                                            obtain ⟨r467, hr467, h⟩ := bd_some h
                                                            refine gww_l (As := [.ref q, .int 1, .int 4]) (rest := []) (k2 := 179) (n2 := 1074) ⟨hx, hb, hml, hown, hts⟩ (gEnw_now hE hS (fun _ h9 => Nat.le_trans hlo h9.1)) hK (kL_happens l D cI cC cZ cQ cJ t lo q r454.2 1 4 hlo hlS hr467) (vx_cwSW 3 hts gL_errors_L_happens rfl rfl rfl (by decide +kernel) ⟨Nat.le_of_ble_eq_true rfl, Nat.le_of_ble_eq_true rfl⟩) hP hS (fun _ h9 => h9) rfl hl.1 rfl (Nat.le_of_ble_eq_true rfl) ⟨by show _ ≤ (330 : Nat); omega, by show _ ≤ (1980 : Nat); omega⟩ rfl rfl dL_errors_467 (fun H1 locs hP1 hS hz1 hk1 => ?_)
                                                            have hP : va_P D vwCl (GW cI cC cZ cQ q r467.2) H1 := hP1
                                                            generalize H1 = H at hP hS ⊢
                                                            refine lv_ldc2 (v := (-9000000000000000002)) hx hb hown (hts (.constantLong RL 17 (-9000000000000000002)) (by decide +kernel)) dL_errors_470 ?_
                                                            refine W.lcmp hx hb dL_errors_473 ?_
                                                            refine lv_if_ne (tgt := 582) hx hb dL_errors_474 (by decide) (fun c37 => ?_) (fun c37 => ?_)
                                                            · replace h := (if_neg c37).symm.trans h
                                                              exact no_some h
                                                            · replace h := (if_pos c37).symm.trans h
                                                              refine lv_aload_n hx hb dL_errors_477 rfl (lv_at hl 1 rfl) ?_
                                                              refine lv_bipush (v := 100) hx hb dL_errors_478 (by decide) ?_
                                                              obtain ⟨r480, hr480, h⟩ := bd_some h
                                                              refine gww_l (As := [.ref q, .int 100]) (rest := []) (k2 := 180) (n2 := 1080) ⟨hx, hb, hml, hown, hts⟩ (gEnw_now hE hS (fun _ h9 => Nat.le_trans hlo h9.1)) hK (kL_bestLimit l D cI cC cZ cQ cJ t lo q r467.2 100 hlo hlS hr480) (vx_cwSW 2 hts gL_errors_L_bestLimit rfl rfl rfl (by decide +kernel) ⟨Nat.le_of_ble_eq_true rfl, Nat.le_of_ble_eq_true rfl⟩) hP hS (fun _ h9 => h9) rfl hl.1 rfl (Nat.le_of_ble_eq_true rfl) ⟨by show _ ≤ (330 : Nat); omega, by show _ ≤ (1980 : Nat); omega⟩ rfl rfl dL_errors_480 (fun H1 locs hP1 hS hz1 hk1 => ?_)
                                                              have hP : va_P D vwCl (GW cI cC cZ cQ q r480.2) H1 := hP1
                                                              generalize H1 = H at hP hS ⊢
                                                              refine lv_ldc2 (v := (-9000000000000000002)) hx hb hown (hts (.constantLong RL 17 (-9000000000000000002)) (by decide +kernel)) dL_errors_483 ?_
                                                              refine W.lcmp hx hb dL_errors_486 ?_
                                                              refine lv_if_ne (tgt := 582) hx hb dL_errors_487 (by decide) (fun c38 => ?_) (fun c38 => ?_)
                                                              · replace h := (if_neg c38).symm.trans h
                                                                exact no_some h
                                                              · replace h := (if_pos c38).symm.trans h
                                                                refine lv_aload_n hx hb dL_errors_490 rfl (lv_at hl 1 rfl) ?_
                                                                refine lv_iconst (v := 4) hx hb dL_errors_491 (by decide) ?_
                                                                refine lv_lconst (v := 0) hx hb dL_errors_492 (by decide) ?_
                                                                obtain ⟨r493, hr493, h⟩ := bd_some h
                                                                refine gww_l (As := [.ref q, .int 4, .long 0]) (rest := []) (k2 := 181) (n2 := 1086) ⟨hx, hb, hml, hown, hts⟩ (gEnw_now hE hS (fun _ h9 => Nat.le_trans hlo h9.1)) hK (kL_script l D cI cC cZ cQ cJ t lo q r480.2 4 0 hlo hlS hr493) (vx_cwSW 3 hts gL_errors_L_script rfl rfl rfl (by decide +kernel) ⟨Nat.le_of_ble_eq_true rfl, Nat.le_of_ble_eq_true rfl⟩) hP hS (fun _ h9 => h9) rfl hl.1 rfl (Nat.le_of_ble_eq_true rfl) ⟨by show _ ≤ (330 : Nat); omega, by show _ ≤ (1980 : Nat); omega⟩ rfl rfl dL_errors_493 (fun H1 locs hP1 hS hz1 hk1 => ?_)
                                                                have hP : va_P D vwCl (GW cI cC cZ cQ q r493.2) H1 := hP1
                                                                generalize H1 = H at hP hS ⊢
                                                                refine lv_ldc2 (v := (-9000000000000000002)) hx hb hown (hts (.constantLong RL 17 (-9000000000000000002)) (by decide +kernel)) dL_errors_496 ?_
                                                                refine W.lcmp hx hb dL_errors_499 ?_
                                                                refine lv_if_ne (tgt := 582) hx hb dL_errors_500 (by decide) (fun c39 => ?_) (fun c39 => ?_)
                                                                · replace h := (if_neg c39).symm.trans h
                                                                  exact no_some h
                                                                · replace h := (if_pos c39).symm.trans h
                                                                  refine lv_aload_n hx hb dL_errors_503 rfl (lv_at hl 1 rfl) ?_
                                                                  refine lv_iconst (v := 1) hx hb dL_errors_504 (by decide) ?_
                                                                  refine lv_ldc2 (v := 100000) hx hb hown (hts (.constantLong RL 163 (100000)) (by decide +kernel)) dL_errors_505 ?_
                                                                  obtain ⟨r508, hr508, h⟩ := bd_some h
                                                                  refine gww_l (As := [.ref q, .int 1, .long 100000]) (rest := []) (k2 := 182) (n2 := 1092) ⟨hx, hb, hml, hown, hts⟩ (gEnw_now hE hS (fun _ h9 => Nat.le_trans hlo h9.1)) hK (kL_script l D cI cC cZ cQ cJ t lo q r493.2 1 100000 hlo hlS hr508) (vx_cwSW 3 hts gL_errors_L_script rfl rfl rfl (by decide +kernel) ⟨Nat.le_of_ble_eq_true rfl, Nat.le_of_ble_eq_true rfl⟩) hP hS (fun _ h9 => h9) rfl hl.1 rfl (Nat.le_of_ble_eq_true rfl) ⟨by show _ ≤ (330 : Nat); omega, by show _ ≤ (1980 : Nat); omega⟩ rfl rfl dL_errors_508 (fun H1 locs hP1 hS hz1 hk1 => ?_)
                                                                  have hP : va_P D vwCl (GW cI cC cZ cQ q r508.2) H1 := hP1
                                                                  generalize H1 = H at hP hS ⊢
                                                                  refine lv_ldc2 (v := (-9000000000000000002)) hx hb hown (hts (.constantLong RL 17 (-9000000000000000002)) (by decide +kernel)) dL_errors_511 ?_
                                                                  refine W.lcmp hx hb dL_errors_514 ?_
                                                                  refine lv_if_ne (tgt := 582) hx hb dL_errors_515 (by decide) (fun c40 => ?_) (fun c40 => ?_)
                                                                  · replace h := (if_neg c40).symm.trans h
                                                                    exact no_some h
                                                                  · replace h := (if_pos c40).symm.trans h
                                                                    refine lv_aload_n hx hb dL_errors_518 rfl (lv_at hl 1 rfl) ?_
                                                                    refine lv_iconst (v := 1) hx hb dL_errors_519 (by decide) ?_
                                                                    refine lv_ldc2 (v := 90000) hx hb hown (hts (.constantLong RL 187 (90000)) (by decide +kernel)) dL_errors_520 ?_
                                                                    obtain ⟨r523, hr523, h⟩ := bd_some h
                                                                    refine gww_l (As := [.ref q, .int 1, .long 90000]) (rest := []) (k2 := 183) (n2 := 1098) ⟨hx, hb, hml, hown, hts⟩ (gEnw_now hE hS (fun _ h9 => Nat.le_trans hlo h9.1)) hK (kL_script l D cI cC cZ cQ cJ t lo q r508.2 1 90000 hlo hlS hr523) (vx_cwSW 3 hts gL_errors_L_script rfl rfl rfl (by decide +kernel) ⟨Nat.le_of_ble_eq_true rfl, Nat.le_of_ble_eq_true rfl⟩) hP hS (fun _ h9 => h9) rfl hl.1 rfl (Nat.le_of_ble_eq_true rfl) ⟨by show _ ≤ (330 : Nat); omega, by show _ ≤ (1980 : Nat); omega⟩ rfl rfl dL_errors_523 (fun H1 locs hP1 hS hz1 hk1 => ?_)
                                                                    have hP : va_P D vwCl (GW cI cC cZ cQ q r523.2) H1 := hP1
                                                                    generalize H1 = H at hP hS ⊢
                                                                    refine lv_lconst (v := 0) hx hb dL_errors_526 (by decide) ?_
                                                                    refine W.lcmp hx hb dL_errors_527 ?_
                                                                    refine lv_if_ne (tgt := 582) hx hb dL_errors_528 (by decide) (fun c41 => ?_) (fun c41 => ?_)
                                                                    · replace h := (if_neg c41).symm.trans h
                                                                      exact no_some h
                                                                    · replace h := (if_pos c41).symm.trans h
                                                                      refine lv_aload_n hx hb dL_errors_531 rfl (lv_at hl 1 rfl) ?_
                                                                      refine lv_lconst (v := 1) hx hb dL_errors_532 (by decide) ?_
                                                                      refine lv_bipush (v := 100) hx hb dL_errors_533 (by decide) ?_
                                                                      obtain ⟨r535, hr535, h⟩ := bd_some h
                                                                      refine gww_l (As := [.ref q, .long 1, .int 100]) (rest := []) (k2 := 184) (n2 := 1104) ⟨hx, hb, hml, hown, hts⟩ (gEnw_now hE hS (fun _ h9 => Nat.le_trans hlo h9.1)) hK (kL_simulate l D cI cC cZ cQ cJ t lo q r523.2 1 100 hlo hlS hr535) (vx_cwSW 3 hts gL_errors_L_simulate rfl rfl rfl (by decide +kernel) ⟨Nat.le_of_ble_eq_true rfl, Nat.le_of_ble_eq_true rfl⟩) hP hS (fun _ h9 => h9) rfl hl.1 rfl (Nat.le_of_ble_eq_true rfl) ⟨by show _ ≤ (330 : Nat); omega, by show _ ≤ (1980 : Nat); omega⟩ rfl rfl dL_errors_535 (fun H1 locs hP1 hS hz1 hk1 => ?_)
                                                                      have hP : va_P D vwCl (GW cI cC cZ cQ q r535.2) H1 := hP1
                                                                      generalize H1 = H at hP hS ⊢
                                                                      refine lv_ldc2 (v := (-9000000000000000002)) hx hb hown (hts (.constantLong RL 17 (-9000000000000000002)) (by decide +kernel)) dL_errors_538 ?_
                                                                      refine W.lcmp hx hb dL_errors_541 ?_
                                                                      refine lv_if_ne (tgt := 582) hx hb dL_errors_542 (by decide) (fun c42 => ?_) (fun c42 => ?_)
                                                                      · replace h := (if_neg c42).symm.trans h
                                                                        exact no_some h
                                                                      · replace h := (if_pos c42).symm.trans h
                                                                        refine lv_aload_n hx hb dL_errors_545 rfl (lv_at hl 1 rfl) ?_
                                                                        refine lv_iconst (v := 2) hx hb dL_errors_546 (by decide) ?_
                                                                        obtain ⟨r547, hr547, h⟩ := bd_some h
                                                                        refine gww_l (As := [.ref q, .int 2]) (rest := []) (k2 := 185) (n2 := 1110) ⟨hx, hb, hml, hown, hts⟩ (gEnw_now hE hS (fun _ h9 => Nat.le_trans hlo h9.1)) hK (kL_save l D cI cC cZ cQ cJ t lo q r535.2 2 hlo hlS hr547) (vx_cwSW 2 hts gL_errors_L_save rfl rfl rfl (by decide +kernel) ⟨Nat.le_of_ble_eq_true rfl, Nat.le_of_ble_eq_true rfl⟩) hP hS (fun _ h9 => h9) rfl hl.1 rfl (Nat.le_of_ble_eq_true rfl) ⟨by show _ ≤ (330 : Nat); omega, by show _ ≤ (1980 : Nat); omega⟩ rfl rfl dL_errors_547 (fun H1 locs hP1 hS hz1 hk1 => ?_)
                                                                        have hP : va_P D vwCl (GW cI cC cZ cQ q r547.2) H1 := hP1
                                                                        generalize H1 = H at hP hS ⊢
                                                                        refine lv_ldc2 (v := (-9000000000000000001)) hx hb hown (hts (.constantLong RL 36 (-9000000000000000001)) (by decide +kernel)) dL_errors_550 ?_
                                                                        refine W.lcmp hx hb dL_errors_553 ?_
                                                                        refine lv_if_ne (tgt := 582) hx hb dL_errors_554 (by decide) (fun c43 => ?_) (fun c43 => ?_)
                                                                        · replace h := (if_neg c43).symm.trans h
                                                                          exact no_some h
                                                                        · replace h := (if_pos c43).symm.trans h
                                                                          refine lv_aload_n hx hb dL_errors_557 rfl (lv_at hl 1 rfl) ?_
                                                                          refine lv_iconst (v := (-1)) hx hb dL_errors_558 (by decide) ?_
                                                                          obtain ⟨r559, hr559, h⟩ := bd_some h
                                                                          refine gww_l (As := [.ref q, .int (-1)]) (rest := []) (k2 := 186) (n2 := 1116) ⟨hx, hb, hml, hown, hts⟩ (gEnw_now hE hS (fun _ h9 => Nat.le_trans hlo h9.1)) hK (kL_restore l D cI cC cZ cQ cJ t lo q r547.2 (-1) hlo hlS hr559) (vx_cwSW 2 hts gL_errors_L_restore rfl rfl rfl (by decide +kernel) ⟨Nat.le_of_ble_eq_true rfl, Nat.le_of_ble_eq_true rfl⟩) hP hS (fun _ h9 => h9) rfl hl.1 rfl (Nat.le_of_ble_eq_true rfl) ⟨by show _ ≤ (330 : Nat); omega, by show _ ≤ (1980 : Nat); omega⟩ rfl rfl dL_errors_559 (fun H1 locs hP1 hS hz1 hk1 => ?_)
                                                                          have hP : va_P D vwCl (GW cI cC cZ cQ q r559.2) H1 := hP1
                                                                          generalize H1 = H at hP hS ⊢
                                                                          refine lv_ldc2 (v := (-9000000000000000001)) hx hb hown (hts (.constantLong RL 36 (-9000000000000000001)) (by decide +kernel)) dL_errors_562 ?_
                                                                          refine W.lcmp hx hb dL_errors_565 ?_
                                                                          refine lv_if_ne (tgt := 582) hx hb dL_errors_566 (by decide) (fun c44 => ?_) (fun c44 => ?_)
                                                                          · replace h := (if_neg c44).symm.trans h
                                                                            exact no_some h
                                                                          · replace h := (if_pos c44).symm.trans h
                                                                            refine lv_aload_n hx hb dL_errors_569 rfl (lv_at hl 1 rfl) ?_
                                                                            obtain ⟨r570, hr570, h⟩ := bd_some h
                                                                            refine gws_l (As := [.ref q]) (rest := []) (k2 := 330) (n2 := 1980) ⟨hx, hb, hml, hown, hts⟩ (gEnw_now hE hS (fun _ h9 => Nat.le_trans hlo h9.1)) hK (kL_now l D cI cC cZ cQ cJ t lo q r559.2 hlo hlS hr570) (va_cwS 1 hts gL_errors_L_now rfl rfl rfl (by decide +kernel) ⟨Nat.le_of_ble_eq_true rfl, Nat.le_of_ble_eq_true rfl⟩) hP hS (fun _ h9 => h9) rfl hl.1 rfl (Nat.le_of_ble_eq_true rfl) ⟨by show _ ≤ (330 : Nat); omega, by show _ ≤ (1980 : Nat); omega⟩ rfl rfl dL_errors_570 (fun H1 locs hP1 hS hz1 hk1 => ?_)
                                                                            have hP : va_P D vwCl (GW cI cC cZ cQ q r570.2) H1 := hP1
                                                                            generalize H1 = H at hP hS ⊢
                                                                            refine lv_lload_n hx hb dL_errors_573 rfl (lv_at hl 2 rfl) ?_
                                                                            refine W.lcmp hx hb dL_errors_574 ?_
                                                                            refine lv_if_ne (tgt := 582) hx hb dL_errors_575 (by decide) (fun c45 => ?_) (fun c45 => ?_)
                                                                            · replace h := (if_neg c45).symm.trans h
                                                                              exact no_some h
                                                                            · replace h := (if_pos c45).symm.trans h
                                                                              refine lv_iconst (v := 1) hx hb dL_errors_578 (by decide) ?_
                                                                              refine lv_goto (tgt := 583) hx hb dL_errors_579 (by decide) ?_
                                                                              refine W.widen (k := 330) (n := 1980) (by omega) (by omega) ?_
                                                                              have h := Option.some.inj h
                                                                              subst h
                                                                              exact W.zret (v := 1) hx hb hr rfl (fun t ht hW => ⟨⟨_, (), rfl, rfl, gh ht hP⟩, hS.F ht⟩) hS.2.2 dL_errors_583
                        clear h
                        replace h := haa226_18
                        clear haa226_18
                        refine lv_icmp_lt (tgt := 226) hx hb dL_errors_211 (by decide) (fun c17 => ?_) (fun c17 => ?_)
                        · replace h := (if_pos c17).symm.trans h
                          have h := Option.some.inj h
                          subst h
                          refine W.widen (k := 161) (n := 966) (by omega) (by omega) ?_
                          exact JJ226 H locs ls hP hS (lv_sub hl [0, 1, 3] rfl)
                        · replace h := (if_neg c17).symm.trans h
                          refine lv_aload_n hx hb dL_errors_214 rfl (lv_at hl 0 rfl) ?_
                          refine lv_iconst (v := 0) hx hb dL_errors_215 (by decide) ?_
                          obtain ⟨r216, hr216, h⟩ := bd_some h
                          refine gww_l (As := [.ref q, .int 0]) (rest := []) (k2 := 161) (n2 := 966) ⟨hx, hb, hml, hown, hts⟩ (gEnw_now hE hS (fun _ h9 => Nat.le_trans hlo h9.1)) hK (kL_addGrip l D cI cC cZ cQ cJ t lo q r197.2 0 hlo hlS hr216) (vx_cwSW 2 hts gL_errors_L_addGrip rfl rfl rfl (by decide +kernel) ⟨Nat.le_of_ble_eq_true rfl, Nat.le_of_ble_eq_true rfl⟩) hP hS (fun _ h9 => h9) rfl hl.1 rfl (Nat.le_of_ble_eq_true rfl) ⟨by show _ ≤ (330 : Nat); omega, by show _ ≤ (1980 : Nat); omega⟩ rfl rfl dL_errors_216 (fun H1 locs hP1 hS hz1 hk1 => ?_)
                          have hP : va_P D vwCl (GW cI cC cZ cQ q r216.2) H1 := hP1
                          generalize H1 = H at hP hS ⊢
                          refine lv_ldc2 (v := (-9000000000000000003)) hx hb hown (hts (.constantLong RL 21 (-9000000000000000003)) (by decide +kernel)) dL_errors_219 ?_
                          refine W.lcmp hx hb dL_errors_222 ?_
                          refine lv_if_ne (tgt := 350) hx hb dL_errors_223 (by decide) (fun c18 => ?_) (fun c18 => ?_)
                          · replace h := (if_neg c18).symm.trans h
                            exact no_some h
                          · replace h := (if_pos c18).symm.trans h
                            have h := Option.some.inj h
                            subst h
                            refine W.widen (k := 161) (n := 966) (by omega) (by omega) ?_
                            exact JJ226 H locs ls hP hS (lv_sub hl [0, 1, 3] rfl)
          clear h
          replace h := haa134_9
          clear haa134_9
          refine lv_if_eq (tgt := 134) hx hb dL_errors_74 (by decide) (fun c5 => ?_) (fun c5 => ?_)
          · replace h := (if_pos c5).symm.trans h
            have h := Option.some.inj h
            subst h
            refine W.widen (k := 154) (n := 924) (by omega) (by omega) ?_
            exact JJ134 H locs ls hP hS (lv_sub hl [3, 2, 1, 0] rfl)
          · replace h := (if_neg c5).symm.trans h
            refine lv_aload_n hx hb dL_errors_77 rfl (lv_at hl 3 rfl) ?_
            refine lv_iconst (v := 0) hx hb dL_errors_78 (by decide) ?_
            refine lv_bipush (v := 8) hx hb dL_errors_79 (by decide) ?_
            obtain ⟨r81, hr81, h⟩ := bd_some h
            refine gww_l (As := [.ref q, .int 0, .int 8]) (rest := []) (k2 := 151) (n2 := 906) ⟨hx, hb, hml, hown, hts⟩ (gEnw_now hE hS (fun _ h9 => Nat.le_trans hlo h9.1)) hK (kL_grip l D cI cC cZ cQ cJ t lo q r62.2 0 8 hlo hlS hr81) (vx_cwSW 3 hts gL_errors_L_grip rfl rfl rfl (by decide +kernel) ⟨Nat.le_of_ble_eq_true rfl, Nat.le_of_ble_eq_true rfl⟩) hP hS (fun _ h9 => h9) rfl hl.1 rfl (Nat.le_of_ble_eq_true rfl) ⟨by show _ ≤ (330 : Nat); omega, by show _ ≤ (1980 : Nat); omega⟩ rfl rfl dL_errors_81 (fun H1 locs hP1 hS hz1 hk1 => ?_)
            have hP : va_P D vwCl (GW cI cC cZ cQ q r81.2) H1 := hP1
            generalize H1 = H at hP hS ⊢
            refine lv_ldc2 (v := (-9000000000000000002)) hx hb hown (hts (.constantLong RL 17 (-9000000000000000002)) (by decide +kernel)) dL_errors_84 ?_
            refine W.lcmp hx hb dL_errors_87 ?_
            refine lv_if_ne (tgt := 350) hx hb dL_errors_88 (by decide) (fun c6 => ?_) (fun c6 => ?_)
            · replace h := (if_neg c6).symm.trans h
              exact no_some h
            · replace h := (if_pos c6).symm.trans h
              refine lv_aload_n hx hb dL_errors_91 rfl (lv_at hl 3 rfl) ?_
              refine lv_iconst (v := 0) hx hb dL_errors_92 (by decide) ?_
              refine lv_bipush (v := 100) hx hb dL_errors_93 (by decide) ?_
              refine lv_iconst (v := 0) hx hb dL_errors_95 (by decide) ?_
              obtain ⟨r96, hr96, h⟩ := bd_some h
              refine gww_l (As := [.ref q, .int 0, .int 100, .int 0]) (rest := []) (k2 := 152) (n2 := 912) ⟨hx, hb, hml, hown, hts⟩ (gEnw_now hE hS (fun _ h9 => Nat.le_trans hlo h9.1)) hK (kL_ahead l D cI cC cZ cQ cJ t lo q r81.2 0 100 0 hlo hlS hr96) (vx_cwSW 4 hts gL_errors_L_ahead rfl rfl rfl (by decide +kernel) ⟨Nat.le_of_ble_eq_true rfl, Nat.le_of_ble_eq_true rfl⟩) hP hS (fun _ h9 => h9) rfl hl.1 rfl (Nat.le_of_ble_eq_true rfl) ⟨by show _ ≤ (330 : Nat); omega, by show _ ≤ (1980 : Nat); omega⟩ rfl rfl dL_errors_96 (fun H1 locs hP1 hS hz1 hk1 => ?_)
              have hP : va_P D vwCl (GW cI cC cZ cQ q r96.2) H1 := hP1
              generalize H1 = H at hP hS ⊢
              refine lv_ldc2 (v := (-9000000000000000002)) hx hb hown (hts (.constantLong RL 17 (-9000000000000000002)) (by decide +kernel)) dL_errors_99 ?_
              refine W.lcmp hx hb dL_errors_102 ?_
              refine lv_if_ne (tgt := 350) hx hb dL_errors_103 (by decide) (fun c7 => ?_) (fun c7 => ?_)
              · replace h := (if_neg c7).symm.trans h
                exact no_some h
              · replace h := (if_pos c7).symm.trans h
                refine lv_aload_n hx hb dL_errors_106 rfl (lv_at hl 3 rfl) ?_
                refine lv_iconst (v := 0) hx hb dL_errors_107 (by decide) ?_
                refine lv_iconst (v := 0) hx hb dL_errors_108 (by decide) ?_
                refine lv_bipush (v := 8) hx hb dL_errors_109 (by decide) ?_
                obtain ⟨r111, hr111, h⟩ := bd_some h
                refine gww_l (As := [.ref q, .int 0, .int 0, .int 8]) (rest := []) (k2 := 153) (n2 := 918) ⟨hx, hb, hml, hown, hts⟩ (gEnw_now hE hS (fun _ h9 => Nat.le_trans hlo h9.1)) hK (kL_ahead l D cI cC cZ cQ cJ t lo q r96.2 0 0 8 hlo hlS hr111) (vx_cwSW 4 hts gL_errors_L_ahead rfl rfl rfl (by decide +kernel) ⟨Nat.le_of_ble_eq_true rfl, Nat.le_of_ble_eq_true rfl⟩) hP hS (fun _ h9 => h9) rfl hl.1 rfl (Nat.le_of_ble_eq_true rfl) ⟨by show _ ≤ (330 : Nat); omega, by show _ ≤ (1980 : Nat); omega⟩ rfl rfl dL_errors_111 (fun H1 locs hP1 hS hz1 hk1 => ?_)
                have hP : va_P D vwCl (GW cI cC cZ cQ q r111.2) H1 := hP1
                generalize H1 = H at hP hS ⊢
                refine lv_ldc2 (v := (-9000000000000000002)) hx hb hown (hts (.constantLong RL 17 (-9000000000000000002)) (by decide +kernel)) dL_errors_114 ?_
                refine W.lcmp hx hb dL_errors_117 ?_
                refine lv_if_ne (tgt := 350) hx hb dL_errors_118 (by decide) (fun c8 => ?_) (fun c8 => ?_)
                · replace h := (if_neg c8).symm.trans h
                  exact no_some h
                · replace h := (if_pos c8).symm.trans h
                  refine lv_aload_n hx hb dL_errors_121 rfl (lv_at hl 3 rfl) ?_
                  refine lv_iconst (v := 0) hx hb dL_errors_122 (by decide) ?_
                  refine lv_iload_n hx hb dL_errors_123 rfl (lv_at hl 1 rfl) ?_
                  obtain ⟨r124, hr124, h⟩ := bd_some h
                  refine gww_l (As := [.ref q, .int 0, .int ((r7.1).toInt32)]) (rest := []) (k2 := 154) (n2 := 924) ⟨hx, hb, hml, hown, hts⟩ (gEnw_now hE hS (fun _ h9 => Nat.le_trans hlo h9.1)) hK (kL_putOn l D cI cC cZ cQ cJ t lo q r111.2 0 ((r7.1).toInt32) hlo hlS hr124) (vx_cwSW 3 hts gL_errors_L_putOn rfl rfl rfl (by decide +kernel) ⟨Nat.le_of_ble_eq_true rfl, Nat.le_of_ble_eq_true rfl⟩) hP hS (fun _ h9 => h9) rfl hl.1 rfl (Nat.le_of_ble_eq_true rfl) ⟨by show _ ≤ (330 : Nat); omega, by show _ ≤ (1980 : Nat); omega⟩ rfl rfl dL_errors_124 (fun H1 locs hP1 hS hz1 hk1 => ?_)
                  have hP : va_P D vwCl (GW cI cC cZ cQ q r124.2) H1 := hP1
                  generalize H1 = H at hP hS ⊢
                  refine lv_ldc2 (v := (-9000000000000000001)) hx hb hown (hts (.constantLong RL 36 (-9000000000000000001)) (by decide +kernel)) dL_errors_127 ?_
                  refine W.lcmp hx hb dL_errors_130 ?_
                  refine lv_if_ne (tgt := 350) hx hb dL_errors_131 (by decide) (fun c9 => ?_) (fun c9 => ?_)
                  · replace h := (if_neg c9).symm.trans h
                    exact no_some h
                  · replace h := (if_pos c9).symm.trans h
                    have h := Option.some.inj h
                    subst h
                    refine W.widen (k := 154) (n := 924) (by omega) (by omega) ?_
                    exact JJ134 H locs ls hP hS (lv_sub hl [3, 2, 1, 0] rfl)

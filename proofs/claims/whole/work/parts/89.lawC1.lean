set_option maxHeartbeats 4000000 in
set_option maxRecDepth 100000 in
theorem lc_append {l : Launch} {p : Program} {e : Env} {s : State} {m : MethodId} {below : List Frame} {meth : Method} {c : Code} {D : va_G} {cI cC cZ cQ cJ : ClassId} {t b L x0 j cells slots : Nat} {xs : Nat → Int32} {Q : State → Prop} (F : LFix l p s m meth c b L x0 xs D cI cC cZ cQ cJ t) (hj : 4 * j + 4 ≤ L) {G : GSt} {M : MSt} {f : Nat → Int64} {H : Heap} {locs : List Loc} {ls : Array Slot} (Z : LSta D cI cC cZ cQ cJ s b x0 G M f (nI (4 * j)) H locs ls) (hc1 : cells + 1 ≤ 601024) (hc2 : slots + 6 ≤ 7293034)
    (kk : ∀ (G : GSt) (M : MSt) (f : Nat → Int64) (H : Heap) (locs : List Loc) (ls : Array Slot), LSta D cI cC cZ cQ cJ s b x0 G M f (nI (4 * j)) H locs ls → W p l e room_1 s m #[Value.ref b] below meth c H locs (cells + 1) (slots + 6) Q (F0 m 1847 ls [])) : W p l e room_1 s m #[Value.ref b] below meth c H locs cells slots Q (F0 m 172 ls []) := by
  obtain ⟨⟨hx, hb, hr, hml, hown, htt, hX, hbl, hlocks, hgv⟩, hK, hE, hlS, hL, hx0⟩ := F
  have hts : ∀ w ∈ wsL_law, w.before #[Value.ref b] s = true := fun w hw => htt w (wsL_law_in w hw)
  have hown : s.vm.findClass RL = some m.cls := hown
  obtain ⟨hG, hP, hPM, hS, hl⟩ := Z
  have hbA : ¬ gGe x0 b := fun z => by have z : x0 ≤ b := z; omega
  have h1 : vp_in (nI (4 * j) + 1) L := by rw [nI_1]; exact vp_in_nI (by omega) (by omega)
  have h2 : vp_in (nI (4 * j) + 2) L := by rw [nIa2]; exact vp_in_nI (by omega) (by omega)
  have h3 : vp_in (nI (4 * j) + 3) L := by rw [show nI (4 * j) + 3 = nI (4 * j + 3) from nI_add _ 3]; exact vp_in_nI (by omega) (by omega)
  obtain ⟨k, v, G1, w, M1, e1, e2, hk, hm, hv, hG1⟩ := o_append hG (xs (nI (4 * j) + 1).toNatClampNeg)
  refine lv_aload_n hx hb dL_law_172 rfl (lv_at hl 1 rfl) ?_
  refine lv_aload_n hx hb dL_law_173 rfl (lv_at hl 0 rfl) ?_
  refine lv_iload hx hb dL_law_174 (lv_at hl 4 rfl) ?_
  refine lv_iconst (v := 1) hx hb dL_law_176 (by decide) ?_
  refine lv_iadd hx hb dL_law_177 ?_
  refine va_sld hx hb hX hbl hbA hS h1 dL_law_178 ?_
  refine lv_aload_n hx hb dL_law_179 rfl (lv_at hl 3 rfl) ?_
  refine va_calli (vx_runSW (As := [.ref x0, .int (xs (nI (4 * j) + 1).toNatClampNeg), .ref (x0 + 211)]) (rest := []) ⟨hx, hb, hml, hown, hts⟩ (kL_append l D cI cC cZ cQ cJ t x0 x0 (x0 + 211) G f (xs (nI (4 * j) + 1).toNatClampNeg) (by omega) (Nat.le_refl _) hlS e1 (hk.imp id (fun z => z.imp id And.left))) (vx_cwSW 3 hts gL_law_L_append rfl rfl rfl (by decide +kernel) ⟨Nat.le_of_ble_eq_true rfl, Nat.le_of_ble_eq_true rfl⟩) ⟨gBw_blind, fun U hU hW => ⟨rfl, ⟨by rw [hU]; exact hP, va_K.moved hW.alike hK⟩, by rw [hU]; exact gEnw.warm hW (gEnw_now hE hS (fun _ h9 => h9))⟩⟩ rfl rfl hl.1 rfl (lv_room (Nat.le_of_ble_eq_true rfl)) dL_law_180 ⟨hc1, hc2⟩) hS (fun q9 _ h9 => lk_A h9) (fun q9 h9 => lk_A h9) (fun r u t9 H1 locs ht hvm hw hB hz hk1 hS => ?_)
  have hw : r = gm 1 2 k := hw
  have hP : va_P D vwCl (GWO cI cC cZ cQ cJ x0 (x0 + 211) G1 (if k = 0 then vp_updL f 0 v.toInt64 else f)) H1 := by rw [← ht]; exact hB
  have hPM := lk_M hPM hk1
  have hm : mRef M1 = r := hm.trans hw.symm
  have hf9 : k = 0 → (if k = 0 then vp_updL f 0 v.toInt64 else f) 0 = v.toInt64 := fun z => by rw [if_pos z]; exact pk_uLs
  generalize (if k = 0 then vp_updL f 0 v.toInt64 else f) = f9 at hP hf9
  generalize H1 = H at hP hPM hS ⊢
  refine lv_istore (lv' := [(5, .int r), (0, .ref b), (1, .ref x0), (2, .ref (x0 + 201)), (3, .ref (x0 + 211)), (4, .int (nI (4 * j)))]) hx hb dL_law_183 hl (by decide) rfl (fun ls hl => ?_)
  refine lv_aload_n hx hb dL_law_185 rfl (lv_at hl 3 rfl) ?_
  refine lv_aload_n hx hb dL_law_186 rfl (lv_at hl 1 rfl) ?_
  refine lv_iload hx hb dL_law_187 (lv_at hl 5 rfl) ?_
  refine lv_iconst (v := 1) hx hb dL_law_189 (by decide) ?_
  refine lv_iadd hx hb dL_law_190 ?_
  refine va_sld hx hb hX hbl hbA hS h1 dL_law_191 ?_
  refine gc_wi (As := [.int (xs (nI (4 * j) + 1).toNatClampNeg)]) (rest := []) ⟨hx, hb, hml, hown, hts⟩ hK (kX5_append l D cI cC cZ cQ cJ (x0 + 201) M (xs (nI (4 * j) + 1).toNatClampNeg) e2) (cwV 1 hts gL_law_X5_append rfl rfl rfl (by decide +kernel) ⟨Nat.le_of_ble_eq_true rfl, Nat.le_of_ble_eq_true rfl⟩) (va_recv hK hPM (ci := 5) (q0 := 0) rfl rfl) hPM hS (fun q9 h9 => Nat.le_trans (Nat.le_add_right _ _) h9.1) rfl hl.1 rfl (Nat.le_of_ble_eq_true rfl) ⟨hc1, hc2⟩ dL_law_192 (fun H1 locs hPM hS _ hk1 => ?_)
  have hP := lk_G hP hk1
  have hPM : va_P D vwCl (MW cI cZ (x0 + 201) M1) H1 := hPM
  generalize H1 = H at hP hPM hS ⊢
  refine lv_istore (lv' := [(6, .int w), (5, .int r), (0, .ref b), (1, .ref x0), (2, .ref (x0 + 201)), (3, .ref (x0 + 211)), (4, .int (nI (4 * j)))]) hx hb dL_law_195 hl (by decide) rfl (fun ls hl => ?_)
  refine lv_aload_n hx hb dL_law_197 rfl (lv_at hl 4 rfl) ?_
  refine gc_ri (v := mRef M1) (As := []) (rest := []) ⟨hx, hb, hml, hown, hts⟩ hK (kX5_thrown l D cI cC cZ cQ cJ (x0 + 201) M1 rfl) (cwV 0 hts gL_law_X5_thrown rfl rfl rfl (by decide +kernel) ⟨Nat.le_of_ble_eq_true rfl, Nat.le_of_ble_eq_true rfl⟩) (va_recv hK hPM (ci := 5) (q0 := 0) rfl rfl) hPM rfl hl.1 rfl (Nat.le_of_ble_eq_true rfl) ⟨hc1, hc2⟩ dL_law_198 ?_
  refine lv_iload hx hb dL_law_201 (lv_at hl 1 rfl) ?_
  refine lv_icmp_eq (tgt := 208) hx hb dL_law_203 (by decide) (fun _ => ?_) (fun z => absurd hm z)
  refine lv_iload hx hb dL_law_208 (lv_at hl 1 rfl) ?_
  have fin : W p l e room_1 s m #[Value.ref b] below meth c H locs (cells + 1) (slots + 6) Q (F0 m 225 ls []) := by
    refine lv_goto (tgt := 1847) hx hb dL_law_225 (by decide) ?_
    exact kk G1 M1 f9 _ _ _ ⟨hG1, hP, hPM, hS, lv_sub hl [2, 3, 4, 5, 6] rfl⟩
  refine lv_if_ne (tgt := 225) hx hb dL_law_210 (by decide) (fun _ => fin) (fun z0 => ?_)
  have hk0 : k = 0 := gm_zero hk (hw.symm.trans z0)
  refine lv_aload_n hx hb dL_law_213 rfl (lv_at hl 5 rfl) ?_
  refine lv_iconst (v := 0) hx hb dL_law_214 (by decide) ?_
  refine va_lald (f := f9) (i := 0) hx hb hK hP 201 4 GWO_at rfl (vin_lit rfl) dL_law_215 ?_
  refine lv_iload hx hb dL_law_216 (lv_at hl 0 rfl) ?_
  refine lv_i2l hx hb dL_law_218 rfl ?_
  refine W.lcmp hx hb dL_law_219 ?_
  refine lv_if_eq (tgt := 225) hx hb dL_law_220 (by decide) (fun _ => fin) (fun z => absurd ?_ z)
  rw [show f9 (0 : Int32).toNatClampNeg = v.toInt64 from hf9 hk0, hv hk0]
  exact lg_cmp_self _
set_option maxHeartbeats 4000000 in
set_option maxRecDepth 100000 in
theorem lc_clearText {l : Launch} {p : Program} {e : Env} {s : State} {m : MethodId} {below : List Frame} {meth : Method} {c : Code} {D : va_G} {cI cC cZ cQ cJ : ClassId} {t b L x0 j cells slots : Nat} {xs : Nat → Int32} {Q : State → Prop} (F : LFix l p s m meth c b L x0 xs D cI cC cZ cQ cJ t) (hj : 4 * j + 4 ≤ L) {G : GSt} {M : MSt} {f : Nat → Int64} {H : Heap} {locs : List Loc} {ls : Array Slot} (Z : LSta D cI cC cZ cQ cJ s b x0 G M f (nI (4 * j)) H locs ls) (hc1 : cells + 1 ≤ 601024) (hc2 : slots + 6 ≤ 7293034)
    (kk : ∀ (G : GSt) (M : MSt) (f : Nat → Int64) (H : Heap) (locs : List Loc) (ls : Array Slot), LSta D cI cC cZ cQ cJ s b x0 G M f (nI (4 * j)) H locs ls → W p l e room_1 s m #[Value.ref b] below meth c H locs (cells + 1) (slots + 6) Q (F0 m 1847 ls [])) : W p l e room_1 s m #[Value.ref b] below meth c H locs cells slots Q (F0 m 228 ls []) := by
  obtain ⟨⟨hx, hb, hr, hml, hown, htt, hX, hbl, hlocks, hgv⟩, hK, hE, hlS, hL, hx0⟩ := F
  have hts : ∀ w ∈ wsL_law, w.before #[Value.ref b] s = true := fun w hw => htt w (wsL_law_in w hw)
  have hown : s.vm.findClass RL = some m.cls := hown
  obtain ⟨hG, hP, hPM, hS, hl⟩ := Z
  have hbA : ¬ gGe x0 b := fun z => by have z : x0 ≤ b := z; omega
  have h1 : vp_in (nI (4 * j) + 1) L := by rw [nI_1]; exact vp_in_nI (by omega) (by omega)
  have h2 : vp_in (nI (4 * j) + 2) L := by rw [nIa2]; exact vp_in_nI (by omega) (by omega)
  have h3 : vp_in (nI (4 * j) + 3) L := by rw [show nI (4 * j) + 3 = nI (4 * j + 3) from nI_add _ 3]; exact vp_in_nI (by omega) (by omega)
  obtain ⟨v, G1, M1, e1, e2, hG1⟩ := o_clearText hG
  refine lv_aload_n hx hb dL_law_228 rfl (lv_at hl 1 rfl) ?_
  refine gc_wi (v := v) (As := []) (rest := []) ⟨hx, hb, hml, hown, hts⟩ hK (kX4_clearText l D cI cC cZ cQ cJ x0 G e1) (cwV 0 hts gL_law_X4_clearText rfl rfl rfl (by decide +kernel) ⟨Nat.le_of_ble_eq_true rfl, Nat.le_of_ble_eq_true rfl⟩) (va_recv hK (gL (w1 := GW cI cC cZ cQ x0 G) hP) (ci := 4) (q0 := 0) rfl rfl) (gL (w1 := GW cI cC cZ cQ x0 G) hP) hS (fun q9 h9 => h9.1) rfl hl.1 rfl (Nat.le_of_ble_eq_true rfl) ⟨Nat.le_of_succ_le hc1, Nat.le_trans (Nat.le_add_right _ 6) hc2⟩ dL_law_229 (fun H1 locs hPG hS _ hk1 => ?_)
  have hP : va_P D vwCl (GWO cI cC cZ cQ cJ x0 (x0 + 211) G1 f) H1 := GWO_put (by omega) hP hPG hk1
  have hPM := lk_M2 hPM hk1
  generalize H1 = H at hP hPM hS ⊢
  refine lv_aload_n hx hb dL_law_232 rfl (lv_at hl 2 rfl) ?_
  refine gc_wi (v := v) (As := []) (rest := [.int v]) ⟨hx, hb, hml, hown, hts⟩ hK (kX5_clearText l D cI cC cZ cQ cJ (x0 + 201) M e2) (cwV 0 hts gL_law_X5_clearText rfl rfl rfl (by decide +kernel) ⟨Nat.le_of_ble_eq_true rfl, Nat.le_of_ble_eq_true rfl⟩) (va_recv hK hPM (ci := 5) (q0 := 0) rfl rfl) hPM hS (fun q9 h9 => Nat.le_trans (Nat.le_add_right _ _) h9.1) rfl hl.1 rfl (Nat.le_of_ble_eq_true rfl) ⟨Nat.le_of_succ_le hc1, Nat.le_trans (Nat.le_add_right _ 6) hc2⟩ dL_law_233 (fun H1 locs hPM hS _ hk1 => ?_)
  have hP := lk_G hP hk1
  have hPM : va_P D vwCl (MW cI cZ (x0 + 201) M1) H1 := hPM
  generalize H1 = H at hP hPM hS ⊢
  exact lv_icmp_eq (tgt := 1847) hx hb dL_law_236 (by decide) (fun _ => W.widen (k := cells + 1) (n := slots + 6) (Nat.le_succ _) (Nat.le_add_right _ _) (kk G1 M1 f _ _ _ ⟨hG1, hP, hPM, hS, hl⟩)) (fun z => absurd rfl z)
set_option maxHeartbeats 4000000 in
set_option maxRecDepth 100000 in
theorem lc_errorPosition {l : Launch} {p : Program} {e : Env} {s : State} {m : MethodId} {below : List Frame} {meth : Method} {c : Code} {D : va_G} {cI cC cZ cQ cJ : ClassId} {t b L x0 j cells slots : Nat} {xs : Nat → Int32} {Q : State → Prop} (F : LFix l p s m meth c b L x0 xs D cI cC cZ cQ cJ t) (hj : 4 * j + 4 ≤ L) {G : GSt} {M : MSt} {f : Nat → Int64} {H : Heap} {locs : List Loc} {ls : Array Slot} (Z : LSta D cI cC cZ cQ cJ s b x0 G M f (nI (4 * j)) H locs ls) (hc1 : cells + 1 ≤ 601024) (hc2 : slots + 6 ≤ 7293034)
    (kk : ∀ (G : GSt) (M : MSt) (f : Nat → Int64) (H : Heap) (locs : List Loc) (ls : Array Slot), LSta D cI cC cZ cQ cJ s b x0 G M f (nI (4 * j)) H locs ls → W p l e room_1 s m #[Value.ref b] below meth c H locs (cells + 1) (slots + 6) Q (F0 m 1847 ls [])) : W p l e room_1 s m #[Value.ref b] below meth c H locs cells slots Q (F0 m 241 ls []) := by
  obtain ⟨⟨hx, hb, hr, hml, hown, htt, hX, hbl, hlocks, hgv⟩, hK, hE, hlS, hL, hx0⟩ := F
  have hts : ∀ w ∈ wsL_law, w.before #[Value.ref b] s = true := fun w hw => htt w (wsL_law_in w hw)
  have hown : s.vm.findClass RL = some m.cls := hown
  obtain ⟨hG, hP, hPM, hS, hl⟩ := Z
  have hbA : ¬ gGe x0 b := fun z => by have z : x0 ≤ b := z; omega
  have h1 : vp_in (nI (4 * j) + 1) L := by rw [nI_1]; exact vp_in_nI (by omega) (by omega)
  have h2 : vp_in (nI (4 * j) + 2) L := by rw [nIa2]; exact vp_in_nI (by omega) (by omega)
  have h3 : vp_in (nI (4 * j) + 3) L := by rw [show nI (4 * j) + 3 = nI (4 * j + 3) from nI_add _ 3]; exact vp_in_nI (by omega) (by omega)
  obtain ⟨v, G1, M1, e1, e2, hG1⟩ := o_errorPosition hG
  refine lv_aload_n hx hb dL_law_241 rfl (lv_at hl 1 rfl) ?_
  refine gs_wi (v := v) (As := []) (rest := []) ⟨hx, hb, hml, hown, hts⟩ (gEnw_now hE hS (fun _ h9 => h9)).1.1 hK (kX4_errorPosition l D cI cC cZ cQ cJ t x0 x0 G (Nat.le_refl _) e1) (cwV 0 hts gL_law_X4_errorPosition rfl rfl rfl (by decide +kernel) ⟨Nat.le_of_ble_eq_true rfl, Nat.le_of_ble_eq_true rfl⟩) (va_recv hK (gL (w1 := GW cI cC cZ cQ x0 G) hP) (ci := 4) (q0 := 0) rfl rfl) (gL (w1 := GW cI cC cZ cQ x0 G) hP) hS (fun q9 h9 => h9.1) rfl hl.1 rfl (Nat.le_of_ble_eq_true rfl) ⟨Nat.le_of_succ_le hc1, Nat.le_trans (Nat.le_add_right _ 6) hc2⟩ dL_law_242 (fun H1 locs hPG hS _ hk1 => ?_)
  have hP : va_P D vwCl (GWO cI cC cZ cQ cJ x0 (x0 + 211) G1 f) H1 := GWO_put (by omega) hP hPG hk1
  have hPM := lk_M2 hPM hk1
  generalize H1 = H at hP hPM hS ⊢
  refine lv_aload_n hx hb dL_law_245 rfl (lv_at hl 2 rfl) ?_
  refine gc_wi (v := v) (As := []) (rest := [.int v]) ⟨hx, hb, hml, hown, hts⟩ hK (kX5_errorPosition l D cI cC cZ cQ cJ (x0 + 201) M e2) (cwV 0 hts gL_law_X5_errorPosition rfl rfl rfl (by decide +kernel) ⟨Nat.le_of_ble_eq_true rfl, Nat.le_of_ble_eq_true rfl⟩) (va_recv hK hPM (ci := 5) (q0 := 0) rfl rfl) hPM hS (fun q9 h9 => Nat.le_trans (Nat.le_add_right _ _) h9.1) rfl hl.1 rfl (Nat.le_of_ble_eq_true rfl) ⟨Nat.le_of_succ_le hc1, Nat.le_trans (Nat.le_add_right _ 6) hc2⟩ dL_law_246 (fun H1 locs hPM hS _ hk1 => ?_)
  have hP := lk_G hP hk1
  have hPM : va_P D vwCl (MW cI cZ (x0 + 201) M1) H1 := hPM
  generalize H1 = H at hP hPM hS ⊢
  exact lv_icmp_eq (tgt := 1847) hx hb dL_law_249 (by decide) (fun _ => W.widen (k := cells + 1) (n := slots + 6) (Nat.le_succ _) (Nat.le_add_right _ _) (kk G1 M1 f _ _ _ ⟨hG1, hP, hPM, hS, hl⟩)) (fun z => absurd rfl z)
set_option maxHeartbeats 4000000 in
set_option maxRecDepth 100000 in
theorem lc_load {l : Launch} {p : Program} {e : Env} {s : State} {m : MethodId} {below : List Frame} {meth : Method} {c : Code} {D : va_G} {cI cC cZ cQ cJ : ClassId} {t b L x0 j cells slots : Nat} {xs : Nat → Int32} {Q : State → Prop} (F : LFix l p s m meth c b L x0 xs D cI cC cZ cQ cJ t) (hj : 4 * j + 4 ≤ L) {G : GSt} {M : MSt} {f : Nat → Int64} {H : Heap} {locs : List Loc} {ls : Array Slot} (Z : LSta D cI cC cZ cQ cJ s b x0 G M f (nI (4 * j)) H locs ls) (hc1 : cells + 1 ≤ 601024) (hc2 : slots + 6 ≤ 7293034)
    (kk : ∀ (G : GSt) (M : MSt) (f : Nat → Int64) (H : Heap) (locs : List Loc) (ls : Array Slot), LSta D cI cC cZ cQ cJ s b x0 G M f (nI (4 * j)) H locs ls → W p l e room_1 s m #[Value.ref b] below meth c H locs (cells + 1) (slots + 6) Q (F0 m 1847 ls [])) : W p l e room_1 s m #[Value.ref b] below meth c H locs cells slots Q (F0 m 254 ls []) := by
  obtain ⟨⟨hx, hb, hr, hml, hown, htt, hX, hbl, hlocks, hgv⟩, hK, hE, hlS, hL, hx0⟩ := F
  have hts : ∀ w ∈ wsL_law, w.before #[Value.ref b] s = true := fun w hw => htt w (wsL_law_in w hw)
  have hown : s.vm.findClass RL = some m.cls := hown
  obtain ⟨hG, hP, hPM, hS, hl⟩ := Z
  have hbA : ¬ gGe x0 b := fun z => by have z : x0 ≤ b := z; omega
  have h1 : vp_in (nI (4 * j) + 1) L := by rw [nI_1]; exact vp_in_nI (by omega) (by omega)
  have h2 : vp_in (nI (4 * j) + 2) L := by rw [nIa2]; exact vp_in_nI (by omega) (by omega)
  have h3 : vp_in (nI (4 * j) + 3) L := by rw [show nI (4 * j) + 3 = nI (4 * j + 3) from nI_add _ 3]; exact vp_in_nI (by omega) (by omega)
  obtain ⟨k, v, G1, w, M1, e1, e2, hk, hm, hv, hG1⟩ := o_load hG
  refine lv_aload_n hx hb dL_law_254 rfl (lv_at hl 1 rfl) ?_
  refine lv_aload_n hx hb dL_law_255 rfl (lv_at hl 3 rfl) ?_
  refine va_calli (vx_runSW (As := [.ref x0, .ref (x0 + 211)]) (rest := []) ⟨hx, hb, hml, hown, hts⟩ (kL_load l D cI cC cZ cQ cJ t x0 x0 (x0 + 211) G f (by omega) (Nat.le_refl _) hlS e1 (hk.imp id (fun z => z.elim id (fun y => absurd rfl y.2)))) (vx_cwSW 2 hts gL_law_L_load rfl rfl rfl (by decide +kernel) ⟨Nat.le_of_ble_eq_true rfl, Nat.le_of_ble_eq_true rfl⟩) ⟨gBw_blind, fun U hU hW => ⟨rfl, ⟨by rw [hU]; exact hP, va_K.moved hW.alike hK⟩, by rw [hU]; exact gEnw.warm hW (gEnw_now hE hS (fun _ h9 => h9))⟩⟩ rfl rfl hl.1 rfl (lv_room (Nat.le_of_ble_eq_true rfl)) dL_law_256 ⟨hc1, hc2⟩) hS (fun q9 _ h9 => lk_A h9) (fun q9 h9 => lk_A h9) (fun r u t9 H1 locs ht hvm hw hB hz hk1 hS => ?_)
  have hw : r = gm 2 9 k := hw
  have hP : va_P D vwCl (GWO cI cC cZ cQ cJ x0 (x0 + 211) G1 (if k = 0 then vp_updL f 0 v.toInt64 else f)) H1 := by rw [← ht]; exact hB
  have hPM := lk_M hPM hk1
  have hm : mRef M1 = r := hm.trans hw.symm
  have hf9 : k = 0 → (if k = 0 then vp_updL f 0 v.toInt64 else f) 0 = v.toInt64 := fun z => by rw [if_pos z]; exact pk_uLs
  generalize (if k = 0 then vp_updL f 0 v.toInt64 else f) = f9 at hP hf9
  generalize H1 = H at hP hPM hS ⊢
  refine lv_istore (lv' := [(5, .int r), (0, .ref b), (1, .ref x0), (2, .ref (x0 + 201)), (3, .ref (x0 + 211)), (4, .int (nI (4 * j)))]) hx hb dL_law_259 hl (by decide) rfl (fun ls hl => ?_)
  refine lv_aload_n hx hb dL_law_261 rfl (lv_at hl 3 rfl) ?_
  refine gc_wi (As := []) (rest := []) ⟨hx, hb, hml, hown, hts⟩ hK (kX5_load l D cI cC cZ cQ cJ (x0 + 201) M e2) (cwV 0 hts gL_law_X5_load rfl rfl rfl (by decide +kernel) ⟨Nat.le_of_ble_eq_true rfl, Nat.le_of_ble_eq_true rfl⟩) (va_recv hK hPM (ci := 5) (q0 := 0) rfl rfl) hPM hS (fun q9 h9 => Nat.le_trans (Nat.le_add_right _ _) h9.1) rfl hl.1 rfl (Nat.le_of_ble_eq_true rfl) ⟨hc1, hc2⟩ dL_law_262 (fun H1 locs hPM hS _ hk1 => ?_)
  have hP := lk_G hP hk1
  have hPM : va_P D vwCl (MW cI cZ (x0 + 201) M1) H1 := hPM
  generalize H1 = H at hP hPM hS ⊢
  refine lv_istore (lv' := [(6, .int w), (5, .int r), (0, .ref b), (1, .ref x0), (2, .ref (x0 + 201)), (3, .ref (x0 + 211)), (4, .int (nI (4 * j)))]) hx hb dL_law_265 hl (by decide) rfl (fun ls hl => ?_)
  refine lv_aload_n hx hb dL_law_267 rfl (lv_at hl 4 rfl) ?_
  refine gc_ri (v := mRef M1) (As := []) (rest := []) ⟨hx, hb, hml, hown, hts⟩ hK (kX5_thrown l D cI cC cZ cQ cJ (x0 + 201) M1 rfl) (cwV 0 hts gL_law_X5_thrown rfl rfl rfl (by decide +kernel) ⟨Nat.le_of_ble_eq_true rfl, Nat.le_of_ble_eq_true rfl⟩) (va_recv hK hPM (ci := 5) (q0 := 0) rfl rfl) hPM rfl hl.1 rfl (Nat.le_of_ble_eq_true rfl) ⟨hc1, hc2⟩ dL_law_268 ?_
  refine lv_iload hx hb dL_law_271 (lv_at hl 1 rfl) ?_
  refine lv_icmp_eq (tgt := 278) hx hb dL_law_273 (by decide) (fun _ => ?_) (fun z => absurd hm z)
  refine lv_iload hx hb dL_law_278 (lv_at hl 1 rfl) ?_
  have fin : W p l e room_1 s m #[Value.ref b] below meth c H locs (cells + 1) (slots + 6) Q (F0 m 295 ls []) := by
    refine lv_goto (tgt := 1847) hx hb dL_law_295 (by decide) ?_
    exact kk G1 M1 f9 _ _ _ ⟨hG1, hP, hPM, hS, lv_sub hl [2, 3, 4, 5, 6] rfl⟩
  refine lv_if_ne (tgt := 295) hx hb dL_law_280 (by decide) (fun _ => fin) (fun z0 => ?_)
  have hk0 : k = 0 := gm_zero hk (hw.symm.trans z0)
  refine lv_aload_n hx hb dL_law_283 rfl (lv_at hl 5 rfl) ?_
  refine lv_iconst (v := 0) hx hb dL_law_284 (by decide) ?_
  refine va_lald (f := f9) (i := 0) hx hb hK hP 201 4 GWO_at rfl (vin_lit rfl) dL_law_285 ?_
  refine lv_iload hx hb dL_law_286 (lv_at hl 0 rfl) ?_
  refine lv_i2l hx hb dL_law_288 rfl ?_
  refine W.lcmp hx hb dL_law_289 ?_
  refine lv_if_eq (tgt := 295) hx hb dL_law_290 (by decide) (fun _ => fin) (fun z => absurd ?_ z)
  rw [show f9 (0 : Int32).toNatClampNeg = v.toInt64 from hf9 hk0, hv hk0]
  exact lg_cmp_self _
set_option maxHeartbeats 4000000 in
set_option maxRecDepth 100000 in
theorem lc_about {l : Launch} {p : Program} {e : Env} {s : State} {m : MethodId} {below : List Frame} {meth : Method} {c : Code} {D : va_G} {cI cC cZ cQ cJ : ClassId} {t b L x0 j cells slots : Nat} {xs : Nat → Int32} {Q : State → Prop} (F : LFix l p s m meth c b L x0 xs D cI cC cZ cQ cJ t) (hj : 4 * j + 4 ≤ L) {G : GSt} {M : MSt} {f : Nat → Int64} {H : Heap} {locs : List Loc} {ls : Array Slot} (Z : LSta D cI cC cZ cQ cJ s b x0 G M f (nI (4 * j)) H locs ls) (hc1 : cells + 1 ≤ 601024) (hc2 : slots + 6 ≤ 7293034)
    (kk : ∀ (G : GSt) (M : MSt) (f : Nat → Int64) (H : Heap) (locs : List Loc) (ls : Array Slot), LSta D cI cC cZ cQ cJ s b x0 G M f (nI (4 * j)) H locs ls → W p l e room_1 s m #[Value.ref b] below meth c H locs (cells + 1) (slots + 6) Q (F0 m 1847 ls [])) : W p l e room_1 s m #[Value.ref b] below meth c H locs cells slots Q (F0 m 298 ls []) := by
  obtain ⟨⟨hx, hb, hr, hml, hown, htt, hX, hbl, hlocks, hgv⟩, hK, hE, hlS, hL, hx0⟩ := F
  have hts : ∀ w ∈ wsL_law, w.before #[Value.ref b] s = true := fun w hw => htt w (wsL_law_in w hw)
  have hown : s.vm.findClass RL = some m.cls := hown
  obtain ⟨hG, hP, hPM, hS, hl⟩ := Z
  have hbA : ¬ gGe x0 b := fun z => by have z : x0 ≤ b := z; omega
  have h1 : vp_in (nI (4 * j) + 1) L := by rw [nI_1]; exact vp_in_nI (by omega) (by omega)
  have h2 : vp_in (nI (4 * j) + 2) L := by rw [nIa2]; exact vp_in_nI (by omega) (by omega)
  have h3 : vp_in (nI (4 * j) + 3) L := by rw [show nI (4 * j) + 3 = nI (4 * j + 3) from nI_add _ 3]; exact vp_in_nI (by omega) (by omega)
  obtain ⟨k, v, G1, w, M1, e1, e2, hk, hm, hv, hG1⟩ := o_about hG (xs (nI (4 * j) + 1).toNatClampNeg)
  refine lv_aload_n hx hb dL_law_298 rfl (lv_at hl 1 rfl) ?_
  refine lv_aload_n hx hb dL_law_299 rfl (lv_at hl 0 rfl) ?_
  refine lv_iload hx hb dL_law_300 (lv_at hl 4 rfl) ?_
  refine lv_iconst (v := 1) hx hb dL_law_302 (by decide) ?_
  refine lv_iadd hx hb dL_law_303 ?_
  refine va_sld hx hb hX hbl hbA hS h1 dL_law_304 ?_
  refine lv_aload_n hx hb dL_law_305 rfl (lv_at hl 3 rfl) ?_
  refine va_calli (vx_runSW (As := [.ref x0, .int (xs (nI (4 * j) + 1).toNatClampNeg), .ref (x0 + 211)]) (rest := []) ⟨hx, hb, hml, hown, hts⟩ (kL_about l D cI cC cZ cQ cJ t x0 x0 (x0 + 211) G f (xs (nI (4 * j) + 1).toNatClampNeg) (by omega) (Nat.le_refl _) hlS e1 (hk.imp id (fun z => z.elim id (fun y => absurd rfl y.2)))) (vx_cwSW 3 hts gL_law_L_about rfl rfl rfl (by decide +kernel) ⟨Nat.le_of_ble_eq_true rfl, Nat.le_of_ble_eq_true rfl⟩) ⟨gBw_blind, fun U hU hW => ⟨rfl, ⟨by rw [hU]; exact hP, va_K.moved hW.alike hK⟩, by rw [hU]; exact gEnw.warm hW (gEnw_now hE hS (fun _ h9 => h9))⟩⟩ rfl rfl hl.1 rfl (lv_room (Nat.le_of_ble_eq_true rfl)) dL_law_306 ⟨hc1, hc2⟩) hS (fun q9 _ h9 => lk_A h9) (fun q9 h9 => lk_A h9) (fun r u t9 H1 locs ht hvm hw hB hz hk1 hS => ?_)
  have hw : r = gm 1 9 k := hw
  have hP : va_P D vwCl (GWO cI cC cZ cQ cJ x0 (x0 + 211) G1 (if k = 0 then vp_updL f 0 v.toInt64 else f)) H1 := by rw [← ht]; exact hB
  have hPM := lk_M hPM hk1
  have hm : mRef M1 = r := hm.trans hw.symm
  have hf9 : k = 0 → (if k = 0 then vp_updL f 0 v.toInt64 else f) 0 = v.toInt64 := fun z => by rw [if_pos z]; exact pk_uLs
  generalize (if k = 0 then vp_updL f 0 v.toInt64 else f) = f9 at hP hf9
  generalize H1 = H at hP hPM hS ⊢
  refine lv_istore (lv' := [(5, .int r), (0, .ref b), (1, .ref x0), (2, .ref (x0 + 201)), (3, .ref (x0 + 211)), (4, .int (nI (4 * j)))]) hx hb dL_law_309 hl (by decide) rfl (fun ls hl => ?_)
  refine lv_aload_n hx hb dL_law_311 rfl (lv_at hl 3 rfl) ?_
  refine lv_aload_n hx hb dL_law_312 rfl (lv_at hl 1 rfl) ?_
  refine lv_iload hx hb dL_law_313 (lv_at hl 5 rfl) ?_
  refine lv_iconst (v := 1) hx hb dL_law_315 (by decide) ?_
  refine lv_iadd hx hb dL_law_316 ?_
  refine va_sld hx hb hX hbl hbA hS h1 dL_law_317 ?_
  refine gc_wi (As := [.int (xs (nI (4 * j) + 1).toNatClampNeg)]) (rest := []) ⟨hx, hb, hml, hown, hts⟩ hK (kX5_about l D cI cC cZ cQ cJ (x0 + 201) M (xs (nI (4 * j) + 1).toNatClampNeg) e2) (cwV 1 hts gL_law_X5_about rfl rfl rfl (by decide +kernel) ⟨Nat.le_of_ble_eq_true rfl, Nat.le_of_ble_eq_true rfl⟩) (va_recv hK hPM (ci := 5) (q0 := 0) rfl rfl) hPM hS (fun q9 h9 => Nat.le_trans (Nat.le_add_right _ _) h9.1) rfl hl.1 rfl (Nat.le_of_ble_eq_true rfl) ⟨hc1, hc2⟩ dL_law_318 (fun H1 locs hPM hS _ hk1 => ?_)
  have hP := lk_G hP hk1
  have hPM : va_P D vwCl (MW cI cZ (x0 + 201) M1) H1 := hPM
  generalize H1 = H at hP hPM hS ⊢
  refine lv_istore (lv' := [(6, .int w), (5, .int r), (0, .ref b), (1, .ref x0), (2, .ref (x0 + 201)), (3, .ref (x0 + 211)), (4, .int (nI (4 * j)))]) hx hb dL_law_321 hl (by decide) rfl (fun ls hl => ?_)
  refine lv_aload_n hx hb dL_law_323 rfl (lv_at hl 4 rfl) ?_
  refine gc_ri (v := mRef M1) (As := []) (rest := []) ⟨hx, hb, hml, hown, hts⟩ hK (kX5_thrown l D cI cC cZ cQ cJ (x0 + 201) M1 rfl) (cwV 0 hts gL_law_X5_thrown rfl rfl rfl (by decide +kernel) ⟨Nat.le_of_ble_eq_true rfl, Nat.le_of_ble_eq_true rfl⟩) (va_recv hK hPM (ci := 5) (q0 := 0) rfl rfl) hPM rfl hl.1 rfl (Nat.le_of_ble_eq_true rfl) ⟨hc1, hc2⟩ dL_law_324 ?_
  refine lv_iload hx hb dL_law_327 (lv_at hl 1 rfl) ?_
  refine lv_icmp_eq (tgt := 334) hx hb dL_law_329 (by decide) (fun _ => ?_) (fun z => absurd hm z)
  refine lv_iload hx hb dL_law_334 (lv_at hl 1 rfl) ?_
  have fin : W p l e room_1 s m #[Value.ref b] below meth c H locs (cells + 1) (slots + 6) Q (F0 m 351 ls []) := by
    refine lv_goto (tgt := 1847) hx hb dL_law_351 (by decide) ?_
    exact kk G1 M1 f9 _ _ _ ⟨hG1, hP, hPM, hS, lv_sub hl [2, 3, 4, 5, 6] rfl⟩
  refine lv_if_ne (tgt := 351) hx hb dL_law_336 (by decide) (fun _ => fin) (fun z0 => ?_)
  have hk0 : k = 0 := gm_zero hk (hw.symm.trans z0)
  refine lv_aload_n hx hb dL_law_339 rfl (lv_at hl 5 rfl) ?_
  refine lv_iconst (v := 0) hx hb dL_law_340 (by decide) ?_
  refine va_lald (f := f9) (i := 0) hx hb hK hP 201 4 GWO_at rfl (vin_lit rfl) dL_law_341 ?_
  refine lv_iload hx hb dL_law_342 (lv_at hl 0 rfl) ?_
  refine lv_i2l hx hb dL_law_344 rfl ?_
  refine W.lcmp hx hb dL_law_345 ?_
  refine lv_if_eq (tgt := 351) hx hb dL_law_346 (by decide) (fun _ => fin) (fun z => absurd ?_ z)
  rw [show f9 (0 : Int32).toNatClampNeg = v.toInt64 from hf9 hk0, hv hk0]
  exact lg_cmp_self _
set_option maxHeartbeats 4000000 in
set_option maxRecDepth 100000 in
theorem lc_grip {l : Launch} {p : Program} {e : Env} {s : State} {m : MethodId} {below : List Frame} {meth : Method} {c : Code} {D : va_G} {cI cC cZ cQ cJ : ClassId} {t b L x0 j cells slots : Nat} {xs : Nat → Int32} {Q : State → Prop} (F : LFix l p s m meth c b L x0 xs D cI cC cZ cQ cJ t) (hj : 4 * j + 4 ≤ L) {G : GSt} {M : MSt} {f : Nat → Int64} {H : Heap} {locs : List Loc} {ls : Array Slot} (Z : LSta D cI cC cZ cQ cJ s b x0 G M f (nI (4 * j)) H locs ls) (hc1 : cells + 1 ≤ 601024) (hc2 : slots + 6 ≤ 7293034)
    (kk : ∀ (G : GSt) (M : MSt) (f : Nat → Int64) (H : Heap) (locs : List Loc) (ls : Array Slot), LSta D cI cC cZ cQ cJ s b x0 G M f (nI (4 * j)) H locs ls → W p l e room_1 s m #[Value.ref b] below meth c H locs (cells + 1) (slots + 6) Q (F0 m 1847 ls [])) : W p l e room_1 s m #[Value.ref b] below meth c H locs cells slots Q (F0 m 354 ls []) := by
  obtain ⟨⟨hx, hb, hr, hml, hown, htt, hX, hbl, hlocks, hgv⟩, hK, hE, hlS, hL, hx0⟩ := F
  have hts : ∀ w ∈ wsL_law, w.before #[Value.ref b] s = true := fun w hw => htt w (wsL_law_in w hw)
  have hown : s.vm.findClass RL = some m.cls := hown
  obtain ⟨hG, hP, hPM, hS, hl⟩ := Z
  have hbA : ¬ gGe x0 b := fun z => by have z : x0 ≤ b := z; omega
  have h1 : vp_in (nI (4 * j) + 1) L := by rw [nI_1]; exact vp_in_nI (by omega) (by omega)
  have h2 : vp_in (nI (4 * j) + 2) L := by rw [nIa2]; exact vp_in_nI (by omega) (by omega)
  have h3 : vp_in (nI (4 * j) + 3) L := by rw [show nI (4 * j) + 3 = nI (4 * j + 3) from nI_add _ 3]; exact vp_in_nI (by omega) (by omega)
  obtain ⟨k, v, G1, w, M1, e1, e2, hk, hm, hv, hG1⟩ := o_grip hG (xs (nI (4 * j) + 1).toNatClampNeg) (xs (nI (4 * j) + 2).toNatClampNeg)
  refine lv_aload_n hx hb dL_law_354 rfl (lv_at hl 1 rfl) ?_
  refine lv_aload_n hx hb dL_law_355 rfl (lv_at hl 0 rfl) ?_
  refine lv_iload hx hb dL_law_356 (lv_at hl 4 rfl) ?_
  refine lv_iconst (v := 1) hx hb dL_law_358 (by decide) ?_
  refine lv_iadd hx hb dL_law_359 ?_
  refine va_sld hx hb hX hbl hbA hS h1 dL_law_360 ?_
  refine lv_aload_n hx hb dL_law_361 rfl (lv_at hl 0 rfl) ?_
  refine lv_iload hx hb dL_law_362 (lv_at hl 4 rfl) ?_
  refine lv_iconst (v := 2) hx hb dL_law_364 (by decide) ?_
  refine lv_iadd hx hb dL_law_365 ?_
  refine va_sld hx hb hX hbl hbA hS h2 dL_law_366 ?_
  refine lv_aload_n hx hb dL_law_367 rfl (lv_at hl 3 rfl) ?_
  refine va_calli (vx_runSW (As := [.ref x0, .int (xs (nI (4 * j) + 1).toNatClampNeg), .int (xs (nI (4 * j) + 2).toNatClampNeg), .ref (x0 + 211)]) (rest := []) ⟨hx, hb, hml, hown, hts⟩ (kL_grip l D cI cC cZ cQ cJ t x0 x0 (x0 + 211) G f (xs (nI (4 * j) + 1).toNatClampNeg) (xs (nI (4 * j) + 2).toNatClampNeg) (by omega) (Nat.le_refl _) hlS e1 (hk.imp id (fun z => z.imp id And.left))) (vx_cwSW 4 hts gL_law_L_grip rfl rfl rfl (by decide +kernel) ⟨Nat.le_of_ble_eq_true rfl, Nat.le_of_ble_eq_true rfl⟩) ⟨gBw_blind, fun U hU hW => ⟨rfl, ⟨by rw [hU]; exact hP, va_K.moved hW.alike hK⟩, by rw [hU]; exact gEnw.warm hW (gEnw_now hE hS (fun _ h9 => h9))⟩⟩ rfl rfl hl.1 rfl (lv_room (Nat.le_of_ble_eq_true rfl)) dL_law_368 ⟨hc1, hc2⟩) hS (fun q9 _ h9 => lk_A h9) (fun q9 h9 => lk_A h9) (fun r u t9 H1 locs ht hvm hw hB hz hk1 hS => ?_)
  have hw : r = gm 3 1 k := hw
  have hP : va_P D vwCl (GWO cI cC cZ cQ cJ x0 (x0 + 211) G1 (if k = 0 then vp_updL f 0 v.toInt64 else f)) H1 := by rw [← ht]; exact hB
  have hPM := lk_M hPM hk1
  have hm : mRef M1 = r := hm.trans hw.symm
  have hf9 : k = 0 → (if k = 0 then vp_updL f 0 v.toInt64 else f) 0 = v.toInt64 := fun z => by rw [if_pos z]; exact pk_uLs
  generalize (if k = 0 then vp_updL f 0 v.toInt64 else f) = f9 at hP hf9
  generalize H1 = H at hP hPM hS ⊢
  refine lv_istore (lv' := [(5, .int r), (0, .ref b), (1, .ref x0), (2, .ref (x0 + 201)), (3, .ref (x0 + 211)), (4, .int (nI (4 * j)))]) hx hb dL_law_371 hl (by decide) rfl (fun ls hl => ?_)
  refine lv_aload_n hx hb dL_law_373 rfl (lv_at hl 3 rfl) ?_
  refine lv_aload_n hx hb dL_law_374 rfl (lv_at hl 1 rfl) ?_
  refine lv_iload hx hb dL_law_375 (lv_at hl 5 rfl) ?_
  refine lv_iconst (v := 1) hx hb dL_law_377 (by decide) ?_
  refine lv_iadd hx hb dL_law_378 ?_
  refine va_sld hx hb hX hbl hbA hS h1 dL_law_379 ?_
  refine lv_aload_n hx hb dL_law_380 rfl (lv_at hl 1 rfl) ?_
  refine lv_iload hx hb dL_law_381 (lv_at hl 5 rfl) ?_
  refine lv_iconst (v := 2) hx hb dL_law_383 (by decide) ?_
  refine lv_iadd hx hb dL_law_384 ?_
  refine va_sld hx hb hX hbl hbA hS h2 dL_law_385 ?_
  refine gc_wi (As := [.int (xs (nI (4 * j) + 1).toNatClampNeg), .int (xs (nI (4 * j) + 2).toNatClampNeg)]) (rest := []) ⟨hx, hb, hml, hown, hts⟩ hK (kX5_grip l D cI cC cZ cQ cJ (x0 + 201) M (xs (nI (4 * j) + 1).toNatClampNeg) (xs (nI (4 * j) + 2).toNatClampNeg) e2) (cwV 2 hts gL_law_X5_grip rfl rfl rfl (by decide +kernel) ⟨Nat.le_of_ble_eq_true rfl, Nat.le_of_ble_eq_true rfl⟩) (va_recv hK hPM (ci := 5) (q0 := 0) rfl rfl) hPM hS (fun q9 h9 => Nat.le_trans (Nat.le_add_right _ _) h9.1) rfl hl.1 rfl (Nat.le_of_ble_eq_true rfl) ⟨hc1, hc2⟩ dL_law_386 (fun H1 locs hPM hS _ hk1 => ?_)
  have hP := lk_G hP hk1
  have hPM : va_P D vwCl (MW cI cZ (x0 + 201) M1) H1 := hPM
  generalize H1 = H at hP hPM hS ⊢
  refine lv_istore (lv' := [(6, .int w), (5, .int r), (0, .ref b), (1, .ref x0), (2, .ref (x0 + 201)), (3, .ref (x0 + 211)), (4, .int (nI (4 * j)))]) hx hb dL_law_389 hl (by decide) rfl (fun ls hl => ?_)
  refine lv_aload_n hx hb dL_law_391 rfl (lv_at hl 4 rfl) ?_
  refine gc_ri (v := mRef M1) (As := []) (rest := []) ⟨hx, hb, hml, hown, hts⟩ hK (kX5_thrown l D cI cC cZ cQ cJ (x0 + 201) M1 rfl) (cwV 0 hts gL_law_X5_thrown rfl rfl rfl (by decide +kernel) ⟨Nat.le_of_ble_eq_true rfl, Nat.le_of_ble_eq_true rfl⟩) (va_recv hK hPM (ci := 5) (q0 := 0) rfl rfl) hPM rfl hl.1 rfl (Nat.le_of_ble_eq_true rfl) ⟨hc1, hc2⟩ dL_law_392 ?_
  refine lv_iload hx hb dL_law_395 (lv_at hl 1 rfl) ?_
  refine lv_icmp_eq (tgt := 402) hx hb dL_law_397 (by decide) (fun _ => ?_) (fun z => absurd hm z)
  refine lv_iload hx hb dL_law_402 (lv_at hl 1 rfl) ?_
  have fin : W p l e room_1 s m #[Value.ref b] below meth c H locs (cells + 1) (slots + 6) Q (F0 m 419 ls []) := by
    refine lv_goto (tgt := 1847) hx hb dL_law_419 (by decide) ?_
    exact kk G1 M1 f9 _ _ _ ⟨hG1, hP, hPM, hS, lv_sub hl [2, 3, 4, 5, 6] rfl⟩
  refine lv_if_ne (tgt := 419) hx hb dL_law_404 (by decide) (fun _ => fin) (fun z0 => ?_)
  have hk0 : k = 0 := gm_zero hk (hw.symm.trans z0)
  refine lv_aload_n hx hb dL_law_407 rfl (lv_at hl 5 rfl) ?_
  refine lv_iconst (v := 0) hx hb dL_law_408 (by decide) ?_
  refine va_lald (f := f9) (i := 0) hx hb hK hP 201 4 GWO_at rfl (vin_lit rfl) dL_law_409 ?_
  refine lv_iload hx hb dL_law_410 (lv_at hl 0 rfl) ?_
  refine lv_i2l hx hb dL_law_412 rfl ?_
  refine W.lcmp hx hb dL_law_413 ?_
  refine lv_if_eq (tgt := 419) hx hb dL_law_414 (by decide) (fun _ => fin) (fun z => absurd ?_ z)
  rw [show f9 (0 : Int32).toNatClampNeg = v.toInt64 from hf9 hk0, hv hk0]
  exact lg_cmp_self _
set_option maxHeartbeats 4000000 in
set_option maxRecDepth 100000 in
theorem lc_slot {l : Launch} {p : Program} {e : Env} {s : State} {m : MethodId} {below : List Frame} {meth : Method} {c : Code} {D : va_G} {cI cC cZ cQ cJ : ClassId} {t b L x0 j cells slots : Nat} {xs : Nat → Int32} {Q : State → Prop} (F : LFix l p s m meth c b L x0 xs D cI cC cZ cQ cJ t) (hj : 4 * j + 4 ≤ L) {G : GSt} {M : MSt} {f : Nat → Int64} {H : Heap} {locs : List Loc} {ls : Array Slot} (Z : LSta D cI cC cZ cQ cJ s b x0 G M f (nI (4 * j)) H locs ls) (hc1 : cells + 1 ≤ 601024) (hc2 : slots + 6 ≤ 7293034)
    (kk : ∀ (G : GSt) (M : MSt) (f : Nat → Int64) (H : Heap) (locs : List Loc) (ls : Array Slot), LSta D cI cC cZ cQ cJ s b x0 G M f (nI (4 * j)) H locs ls → W p l e room_1 s m #[Value.ref b] below meth c H locs (cells + 1) (slots + 6) Q (F0 m 1847 ls [])) : W p l e room_1 s m #[Value.ref b] below meth c H locs cells slots Q (F0 m 422 ls []) := by
  obtain ⟨⟨hx, hb, hr, hml, hown, htt, hX, hbl, hlocks, hgv⟩, hK, hE, hlS, hL, hx0⟩ := F
  have hts : ∀ w ∈ wsL_law, w.before #[Value.ref b] s = true := fun w hw => htt w (wsL_law_in w hw)
  have hown : s.vm.findClass RL = some m.cls := hown
  obtain ⟨hG, hP, hPM, hS, hl⟩ := Z
  have hbA : ¬ gGe x0 b := fun z => by have z : x0 ≤ b := z; omega
  have h1 : vp_in (nI (4 * j) + 1) L := by rw [nI_1]; exact vp_in_nI (by omega) (by omega)
  have h2 : vp_in (nI (4 * j) + 2) L := by rw [nIa2]; exact vp_in_nI (by omega) (by omega)
  have h3 : vp_in (nI (4 * j) + 3) L := by rw [show nI (4 * j) + 3 = nI (4 * j + 3) from nI_add _ 3]; exact vp_in_nI (by omega) (by omega)
  obtain ⟨k, v, G1, w, M1, e1, e2, hk, hm, hv, hG1⟩ := o_slot hG (xs (nI (4 * j) + 1).toNatClampNeg)
  refine lv_aload_n hx hb dL_law_422 rfl (lv_at hl 1 rfl) ?_
  refine lv_aload_n hx hb dL_law_423 rfl (lv_at hl 0 rfl) ?_
  refine lv_iload hx hb dL_law_424 (lv_at hl 4 rfl) ?_
  refine lv_iconst (v := 1) hx hb dL_law_426 (by decide) ?_
  refine lv_iadd hx hb dL_law_427 ?_
  refine va_sld hx hb hX hbl hbA hS h1 dL_law_428 ?_
  refine lv_aload_n hx hb dL_law_429 rfl (lv_at hl 3 rfl) ?_
  refine va_calli (vx_runSW (As := [.ref x0, .int (xs (nI (4 * j) + 1).toNatClampNeg), .ref (x0 + 211)]) (rest := []) ⟨hx, hb, hml, hown, hts⟩ (kL_slot l D cI cC cZ cQ cJ t x0 x0 (x0 + 211) G f (xs (nI (4 * j) + 1).toNatClampNeg) (by omega) (Nat.le_refl _) hlS e1 (hk.imp id (fun z => z.elim id (fun y => absurd rfl y.2)))) (vx_cwSW 3 hts gL_law_L_slot rfl rfl rfl (by decide +kernel) ⟨Nat.le_of_ble_eq_true rfl, Nat.le_of_ble_eq_true rfl⟩) ⟨gBw_blind, fun U hU hW => ⟨rfl, ⟨by rw [hU]; exact hP, va_K.moved hW.alike hK⟩, by rw [hU]; exact gEnw.warm hW (gEnw_now hE hS (fun _ h9 => h9))⟩⟩ rfl rfl hl.1 rfl (lv_room (Nat.le_of_ble_eq_true rfl)) dL_law_430 ⟨hc1, hc2⟩) hS (fun q9 _ h9 => lk_A h9) (fun q9 h9 => lk_A h9) (fun r u t9 H1 locs ht hvm hw hB hz hk1 hS => ?_)
  have hw : r = gm 3 9 k := hw
  have hP : va_P D vwCl (GWO cI cC cZ cQ cJ x0 (x0 + 211) G1 (if k = 0 then vp_updL f 0 v.toInt64 else f)) H1 := by rw [← ht]; exact hB
  have hPM := lk_M hPM hk1
  have hm : mRef M1 = r := hm.trans hw.symm
  have hf9 : k = 0 → (if k = 0 then vp_updL f 0 v.toInt64 else f) 0 = v.toInt64 := fun z => by rw [if_pos z]; exact pk_uLs
  generalize (if k = 0 then vp_updL f 0 v.toInt64 else f) = f9 at hP hf9
  generalize H1 = H at hP hPM hS ⊢
  refine lv_istore (lv' := [(5, .int r), (0, .ref b), (1, .ref x0), (2, .ref (x0 + 201)), (3, .ref (x0 + 211)), (4, .int (nI (4 * j)))]) hx hb dL_law_433 hl (by decide) rfl (fun ls hl => ?_)
  refine lv_aload_n hx hb dL_law_435 rfl (lv_at hl 3 rfl) ?_
  refine lv_aload_n hx hb dL_law_436 rfl (lv_at hl 1 rfl) ?_
  refine lv_iload hx hb dL_law_437 (lv_at hl 5 rfl) ?_
  refine lv_iconst (v := 1) hx hb dL_law_439 (by decide) ?_
  refine lv_iadd hx hb dL_law_440 ?_
  refine va_sld hx hb hX hbl hbA hS h1 dL_law_441 ?_
  refine gc_wi (As := [.int (xs (nI (4 * j) + 1).toNatClampNeg)]) (rest := []) ⟨hx, hb, hml, hown, hts⟩ hK (kX5_slot l D cI cC cZ cQ cJ (x0 + 201) M (xs (nI (4 * j) + 1).toNatClampNeg) e2) (cwV 1 hts gL_law_X5_slot rfl rfl rfl (by decide +kernel) ⟨Nat.le_of_ble_eq_true rfl, Nat.le_of_ble_eq_true rfl⟩) (va_recv hK hPM (ci := 5) (q0 := 0) rfl rfl) hPM hS (fun q9 h9 => Nat.le_trans (Nat.le_add_right _ _) h9.1) rfl hl.1 rfl (Nat.le_of_ble_eq_true rfl) ⟨hc1, hc2⟩ dL_law_442 (fun H1 locs hPM hS _ hk1 => ?_)
  have hP := lk_G hP hk1
  have hPM : va_P D vwCl (MW cI cZ (x0 + 201) M1) H1 := hPM
  generalize H1 = H at hP hPM hS ⊢
  refine lv_istore (lv' := [(6, .int w), (5, .int r), (0, .ref b), (1, .ref x0), (2, .ref (x0 + 201)), (3, .ref (x0 + 211)), (4, .int (nI (4 * j)))]) hx hb dL_law_445 hl (by decide) rfl (fun ls hl => ?_)
  refine lv_aload_n hx hb dL_law_447 rfl (lv_at hl 4 rfl) ?_
  refine gc_ri (v := mRef M1) (As := []) (rest := []) ⟨hx, hb, hml, hown, hts⟩ hK (kX5_thrown l D cI cC cZ cQ cJ (x0 + 201) M1 rfl) (cwV 0 hts gL_law_X5_thrown rfl rfl rfl (by decide +kernel) ⟨Nat.le_of_ble_eq_true rfl, Nat.le_of_ble_eq_true rfl⟩) (va_recv hK hPM (ci := 5) (q0 := 0) rfl rfl) hPM rfl hl.1 rfl (Nat.le_of_ble_eq_true rfl) ⟨hc1, hc2⟩ dL_law_448 ?_
  refine lv_iload hx hb dL_law_451 (lv_at hl 1 rfl) ?_
  refine lv_icmp_eq (tgt := 458) hx hb dL_law_453 (by decide) (fun _ => ?_) (fun z => absurd hm z)
  refine lv_iload hx hb dL_law_458 (lv_at hl 1 rfl) ?_
  have fin : W p l e room_1 s m #[Value.ref b] below meth c H locs (cells + 1) (slots + 6) Q (F0 m 475 ls []) := by
    refine lv_goto (tgt := 1847) hx hb dL_law_475 (by decide) ?_
    exact kk G1 M1 f9 _ _ _ ⟨hG1, hP, hPM, hS, lv_sub hl [2, 3, 4, 5, 6] rfl⟩
  refine lv_if_ne (tgt := 475) hx hb dL_law_460 (by decide) (fun _ => fin) (fun z0 => ?_)
  have hk0 : k = 0 := gm_zero hk (hw.symm.trans z0)
  refine lv_aload_n hx hb dL_law_463 rfl (lv_at hl 5 rfl) ?_
  refine lv_iconst (v := 0) hx hb dL_law_464 (by decide) ?_
  refine va_lald (f := f9) (i := 0) hx hb hK hP 201 4 GWO_at rfl (vin_lit rfl) dL_law_465 ?_
  refine lv_iload hx hb dL_law_466 (lv_at hl 0 rfl) ?_
  refine lv_i2l hx hb dL_law_468 rfl ?_
  refine W.lcmp hx hb dL_law_469 ?_
  refine lv_if_eq (tgt := 475) hx hb dL_law_470 (by decide) (fun _ => fin) (fun z => absurd ?_ z)
  rw [show f9 (0 : Int32).toNatClampNeg = v.toInt64 from hf9 hk0, hv hk0]
  exact lg_cmp_self _
set_option maxHeartbeats 4000000 in
set_option maxRecDepth 100000 in
theorem lc_random {l : Launch} {p : Program} {e : Env} {s : State} {m : MethodId} {below : List Frame} {meth : Method} {c : Code} {D : va_G} {cI cC cZ cQ cJ : ClassId} {t b L x0 j cells slots : Nat} {xs : Nat → Int32} {Q : State → Prop} (F : LFix l p s m meth c b L x0 xs D cI cC cZ cQ cJ t) (hj : 4 * j + 4 ≤ L) {G : GSt} {M : MSt} {f : Nat → Int64} {H : Heap} {locs : List Loc} {ls : Array Slot} (Z : LSta D cI cC cZ cQ cJ s b x0 G M f (nI (4 * j)) H locs ls) (hc1 : cells + 1 ≤ 601024) (hc2 : slots + 6 ≤ 7293034)
    (kk : ∀ (G : GSt) (M : MSt) (f : Nat → Int64) (H : Heap) (locs : List Loc) (ls : Array Slot), LSta D cI cC cZ cQ cJ s b x0 G M f (nI (4 * j)) H locs ls → W p l e room_1 s m #[Value.ref b] below meth c H locs (cells + 1) (slots + 6) Q (F0 m 1847 ls [])) : W p l e room_1 s m #[Value.ref b] below meth c H locs cells slots Q (F0 m 478 ls []) := by
  obtain ⟨⟨hx, hb, hr, hml, hown, htt, hX, hbl, hlocks, hgv⟩, hK, hE, hlS, hL, hx0⟩ := F
  have hts : ∀ w ∈ wsL_law, w.before #[Value.ref b] s = true := fun w hw => htt w (wsL_law_in w hw)
  have hown : s.vm.findClass RL = some m.cls := hown
  obtain ⟨hG, hP, hPM, hS, hl⟩ := Z
  have hbA : ¬ gGe x0 b := fun z => by have z : x0 ≤ b := z; omega
  have h1 : vp_in (nI (4 * j) + 1) L := by rw [nI_1]; exact vp_in_nI (by omega) (by omega)
  have h2 : vp_in (nI (4 * j) + 2) L := by rw [nIa2]; exact vp_in_nI (by omega) (by omega)
  have h3 : vp_in (nI (4 * j) + 3) L := by rw [show nI (4 * j) + 3 = nI (4 * j + 3) from nI_add _ 3]; exact vp_in_nI (by omega) (by omega)
  obtain ⟨v, M1, e1, e2, hG1⟩ := o_random hG
  refine lv_aload_n hx hb dL_law_478 rfl (lv_at hl 1 rfl) ?_
  refine gc_rl (v := v) (As := []) (rest := []) ⟨hx, hb, hml, hown, hts⟩ hK (kX4_random l D cI cC cZ cQ cJ x0 G e1) (cwV 0 hts gL_law_X4_random rfl rfl rfl (by decide +kernel) ⟨Nat.le_of_ble_eq_true rfl, Nat.le_of_ble_eq_true rfl⟩) (va_recv hK (gL (w1 := GW cI cC cZ cQ x0 G) hP) (ci := 4) (q0 := 0) rfl rfl) (gL (w1 := GW cI cC cZ cQ x0 G) hP) rfl hl.1 rfl (Nat.le_of_ble_eq_true rfl) ⟨Nat.le_of_succ_le hc1, Nat.le_trans (Nat.le_add_right _ 6) hc2⟩ dL_law_479 ?_
  refine lv_aload_n hx hb dL_law_482 rfl (lv_at hl 2 rfl) ?_
  refine gc_wl (v := v) (As := []) (rest := [.long v]) ⟨hx, hb, hml, hown, hts⟩ hK (kX5_random l D cI cC cZ cQ cJ (x0 + 201) M e2) (cwV 0 hts gL_law_X5_random rfl rfl rfl (by decide +kernel) ⟨Nat.le_of_ble_eq_true rfl, Nat.le_of_ble_eq_true rfl⟩) (va_recv hK hPM (ci := 5) (q0 := 0) rfl rfl) hPM hS (fun q9 h9 => Nat.le_trans (Nat.le_add_right _ _) h9.1) rfl hl.1 rfl (Nat.le_of_ble_eq_true rfl) ⟨Nat.le_of_succ_le hc1, Nat.le_trans (Nat.le_add_right _ 6) hc2⟩ dL_law_483 (fun H1 locs hPM hS _ hk1 => ?_)
  have hP := lk_G hP hk1
  have hPM : va_P D vwCl (MW cI cZ (x0 + 201) M1) H1 := hPM
  generalize H1 = H at hP hPM hS ⊢
  refine W.lcmp hx hb dL_law_486 ?_
  exact lv_if_eq (tgt := 1847) hx hb dL_law_487 (by decide) (fun _ => W.widen (k := cells + 1) (n := slots + 6) (Nat.le_succ _) (Nat.le_add_right _ _) (kk G M1 f _ _ _ ⟨hG1, hP, hPM, hS, hl⟩)) (fun z => absurd (lg_cmp_self _) z)

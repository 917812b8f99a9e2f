set_option maxHeartbeats 4000000 in
set_option maxRecDepth 100000 in
theorem lc_undo {l : Launch} {p : Program} {e : Env} {s : State} {m : MethodId} {below : List Frame} {meth : Method} {c : Code} {D : va_G} {cI cC cZ cQ cJ : ClassId} {t b L x0 j cells slots : Nat} {xs : Nat → Int32} {Q : State → Prop} (F : LFix l p s m meth c b L x0 xs D cI cC cZ cQ cJ t) (hj : 4 * j + 4 ≤ L) {G : GSt} {M : MSt} {f : Nat → Int64} {H : Heap} {locs : List Loc} {ls : Array Slot} (Z : LSta D cI cC cZ cQ cJ s b x0 G M f (nI (4 * j)) H locs ls) (hc1 : cells + 1 ≤ 601024) (hc2 : slots + 6 ≤ 7293034)
    (kk : ∀ (G : GSt) (M : MSt) (f : Nat → Int64) (H : Heap) (locs : List Loc) (ls : Array Slot), LSta D cI cC cZ cQ cJ s b x0 G M f (nI (4 * j)) H locs ls → W p l e room_1 s m #[Value.ref b] below meth c H locs (cells + 1) (slots + 6) Q (F0 m 1847 ls [])) : W p l e room_1 s m #[Value.ref b] below meth c H locs cells slots Q (F0 m 966 ls []) := by
  obtain ⟨⟨hx, hb, hr, hml, hown, htt, hX, hbl, hlocks, hgv⟩, hK, hE, hlS, hL, hx0⟩ := F
  have hts : ∀ w ∈ wsL_law, w.before #[Value.ref b] s = true := fun w hw => htt w (wsL_law_in w hw)
  have hown : s.vm.findClass RL = some m.cls := hown
  obtain ⟨hG, hP, hPM, hS, hl⟩ := Z
  have hbA : ¬ gGe x0 b := fun z => by have z : x0 ≤ b := z; omega
  have h1 : vp_in (nI (4 * j) + 1) L := by rw [nI_1]; exact vp_in_nI (by omega) (by omega)
  have h2 : vp_in (nI (4 * j) + 2) L := by rw [nIa2]; exact vp_in_nI (by omega) (by omega)
  have h3 : vp_in (nI (4 * j) + 3) L := by rw [show nI (4 * j) + 3 = nI (4 * j + 3) from nI_add _ 3]; exact vp_in_nI (by omega) (by omega)
  obtain ⟨k, v, G1, w, M1, e1, e2, hk, hm, hv, hG1⟩ := o_undo hG
  refine lv_aload_n hx hb dL_law_966 rfl (lv_at hl 1 rfl) ?_
  refine lv_aload_n hx hb dL_law_967 rfl (lv_at hl 3 rfl) ?_
  refine va_calli (vx_runSW (As := [.ref x0, .ref (x0 + 211)]) (rest := []) ⟨hx, hb, hml, hown, hts⟩ (kL_undo l D cI cC cZ cQ cJ t x0 x0 (x0 + 211) G f (by omega) (Nat.le_refl _) hlS e1 (hk.imp id (fun z => z.elim id (fun y => absurd rfl y.2)))) (vx_cwSW 2 hts gL_law_L_undo rfl rfl rfl (by decide +kernel) ⟨Nat.le_of_ble_eq_true rfl, Nat.le_of_ble_eq_true rfl⟩) ⟨gBw_blind, fun U hU hW => ⟨rfl, ⟨by rw [hU]; exact hP, va_K.moved hW.alike hK⟩, by rw [hU]; exact gEnw.warm hW (gEnw_now hE hS (fun _ h9 => h9))⟩⟩ rfl rfl hl.1 rfl (lv_room (Nat.le_of_ble_eq_true rfl)) dL_law_968 ⟨hc1, hc2⟩) hS (fun q9 _ h9 => lk_A h9) (fun q9 h9 => lk_A h9) (fun r u t9 H1 locs ht hvm hw hB hz hk1 hS => ?_)
  have hw : r = gm 2 9 k := hw
  have hP : va_P D vwCl (GWO cI cC cZ cQ cJ x0 (x0 + 211) G1 (if k = 0 then vp_updL f 0 v.toInt64 else f)) H1 := by rw [← ht]; exact hB
  have hPM := lk_M hPM hk1
  have hm : mRef M1 = r := hm.trans hw.symm
  have hf9 : k = 0 → (if k = 0 then vp_updL f 0 v.toInt64 else f) 0 = v.toInt64 := fun z => by rw [if_pos z]; exact pk_uLs
  generalize (if k = 0 then vp_updL f 0 v.toInt64 else f) = f9 at hP hf9
  generalize H1 = H at hP hPM hS ⊢
  refine lv_istore (lv' := [(5, .int r), (0, .ref b), (1, .ref x0), (2, .ref (x0 + 201)), (3, .ref (x0 + 211)), (4, .int (nI (4 * j)))]) hx hb dL_law_971 hl (by decide) rfl (fun ls hl => ?_)
  refine lv_aload_n hx hb dL_law_973 rfl (lv_at hl 3 rfl) ?_
  refine gc_wi (As := []) (rest := []) ⟨hx, hb, hml, hown, hts⟩ hK (kX5_undo l D cI cC cZ cQ cJ (x0 + 201) M e2) (cwV 0 hts gL_law_X5_undo rfl rfl rfl (by decide +kernel) ⟨Nat.le_of_ble_eq_true rfl, Nat.le_of_ble_eq_true rfl⟩) (va_recv hK hPM (ci := 5) (q0 := 0) rfl rfl) hPM hS (fun q9 h9 => Nat.le_trans (Nat.le_add_right _ _) h9.1) rfl hl.1 rfl (Nat.le_of_ble_eq_true rfl) ⟨hc1, hc2⟩ dL_law_974 (fun H1 locs hPM hS _ hk1 => ?_)
  have hP := lk_G hP hk1
  have hPM : va_P D vwCl (MW cI cZ (x0 + 201) M1) H1 := hPM
  generalize H1 = H at hP hPM hS ⊢
  refine lv_istore (lv' := [(6, .int w), (5, .int r), (0, .ref b), (1, .ref x0), (2, .ref (x0 + 201)), (3, .ref (x0 + 211)), (4, .int (nI (4 * j)))]) hx hb dL_law_977 hl (by decide) rfl (fun ls hl => ?_)
  refine lv_aload_n hx hb dL_law_979 rfl (lv_at hl 4 rfl) ?_
  refine gc_ri (v := mRef M1) (As := []) (rest := []) ⟨hx, hb, hml, hown, hts⟩ hK (kX5_thrown l D cI cC cZ cQ cJ (x0 + 201) M1 rfl) (cwV 0 hts gL_law_X5_thrown rfl rfl rfl (by decide +kernel) ⟨Nat.le_of_ble_eq_true rfl, Nat.le_of_ble_eq_true rfl⟩) (va_recv hK hPM (ci := 5) (q0 := 0) rfl rfl) hPM rfl hl.1 rfl (Nat.le_of_ble_eq_true rfl) ⟨hc1, hc2⟩ dL_law_980 ?_
  refine lv_iload hx hb dL_law_983 (lv_at hl 1 rfl) ?_
  refine lv_icmp_eq (tgt := 990) hx hb dL_law_985 (by decide) (fun _ => ?_) (fun z => absurd hm z)
  refine lv_iload hx hb dL_law_990 (lv_at hl 1 rfl) ?_
  have fin : W p l e room_1 s m #[Value.ref b] below meth c H locs (cells + 1) (slots + 6) Q (F0 m 1007 ls []) := by
    refine lv_goto (tgt := 1847) hx hb dL_law_1007 (by decide) ?_
    exact kk G1 M1 f9 _ _ _ ⟨hG1, hP, hPM, hS, lv_sub hl [2, 3, 4, 5, 6] rfl⟩
  refine lv_if_ne (tgt := 1007) hx hb dL_law_992 (by decide) (fun _ => fin) (fun z0 => ?_)
  have hk0 : k = 0 := gm_zero hk (hw.symm.trans z0)
  refine lv_aload_n hx hb dL_law_995 rfl (lv_at hl 5 rfl) ?_
  refine lv_iconst (v := 0) hx hb dL_law_996 (by decide) ?_
  refine va_lald (f := f9) (i := 0) hx hb hK hP 201 4 GWO_at rfl (vin_lit rfl) dL_law_997 ?_
  refine lv_iload hx hb dL_law_998 (lv_at hl 0 rfl) ?_
  refine lv_i2l hx hb dL_law_1000 rfl ?_
  refine W.lcmp hx hb dL_law_1001 ?_
  refine lv_if_eq (tgt := 1007) hx hb dL_law_1002 (by decide) (fun _ => fin) (fun z => absurd ?_ z)
  rw [show f9 (0 : Int32).toNatClampNeg = v.toInt64 from hf9 hk0, hv hk0]
  exact lg_cmp_self _
set_option maxHeartbeats 4000000 in
set_option maxRecDepth 100000 in
theorem lc_gap {l : Launch} {p : Program} {e : Env} {s : State} {m : MethodId} {below : List Frame} {meth : Method} {c : Code} {D : va_G} {cI cC cZ cQ cJ : ClassId} {t b L x0 j cells slots : Nat} {xs : Nat → Int32} {Q : State → Prop} (F : LFix l p s m meth c b L x0 xs D cI cC cZ cQ cJ t) (hj : 4 * j + 4 ≤ L) {G : GSt} {M : MSt} {f : Nat → Int64} {H : Heap} {locs : List Loc} {ls : Array Slot} (Z : LSta D cI cC cZ cQ cJ s b x0 G M f (nI (4 * j)) H locs ls) (hc1 : cells + 1 ≤ 601024) (hc2 : slots + 6 ≤ 7293034)
    (kk : ∀ (G : GSt) (M : MSt) (f : Nat → Int64) (H : Heap) (locs : List Loc) (ls : Array Slot), LSta D cI cC cZ cQ cJ s b x0 G M f (nI (4 * j)) H locs ls → W p l e room_1 s m #[Value.ref b] below meth c H locs (cells + 1) (slots + 6) Q (F0 m 1847 ls [])) : W p l e room_1 s m #[Value.ref b] below meth c H locs cells slots Q (F0 m 1010 ls []) := by
  obtain ⟨⟨hx, hb, hr, hml, hown, htt, hX, hbl, hlocks, hgv⟩, hK, hE, hlS, hL, hx0⟩ := F
  have hts : ∀ w ∈ wsL_law, w.before #[Value.ref b] s = true := fun w hw => htt w (wsL_law_in w hw)
  have hown : s.vm.findClass RL = some m.cls := hown
  obtain ⟨hG, hP, hPM, hS, hl⟩ := Z
  have hbA : ¬ gGe x0 b := fun z => by have z : x0 ≤ b := z; omega
  have h1 : vp_in (nI (4 * j) + 1) L := by rw [nI_1]; exact vp_in_nI (by omega) (by omega)
  have h2 : vp_in (nI (4 * j) + 2) L := by rw [nIa2]; exact vp_in_nI (by omega) (by omega)
  have h3 : vp_in (nI (4 * j) + 3) L := by rw [show nI (4 * j) + 3 = nI (4 * j + 3) from nI_add _ 3]; exact vp_in_nI (by omega) (by omega)
  obtain ⟨k, v, G1, w, M1, e1, e2, hk, hm, hv, hG1⟩ := o_gap hG (xs (nI (4 * j) + 1).toNatClampNeg)
  refine lv_aload_n hx hb dL_law_1010 rfl (lv_at hl 1 rfl) ?_
  refine lv_aload_n hx hb dL_law_1011 rfl (lv_at hl 0 rfl) ?_
  refine lv_iload hx hb dL_law_1012 (lv_at hl 4 rfl) ?_
  refine lv_iconst (v := 1) hx hb dL_law_1014 (by decide) ?_
  refine lv_iadd hx hb dL_law_1015 ?_
  refine va_sld hx hb hX hbl hbA hS h1 dL_law_1016 ?_
  refine lv_aload_n hx hb dL_law_1017 rfl (lv_at hl 3 rfl) ?_
  refine va_calli (vx_runSW (As := [.ref x0, .int (xs (nI (4 * j) + 1).toNatClampNeg), .ref (x0 + 211)]) (rest := []) ⟨hx, hb, hml, hown, hts⟩ (kL_gap l D cI cC cZ cQ cJ t x0 x0 (x0 + 211) G f (xs (nI (4 * j) + 1).toNatClampNeg) (by omega) (Nat.le_refl _) hlS e1 (hk.imp id (fun z => z.elim id (fun y => absurd rfl y.2)))) (vx_cwSW 3 hts gL_law_L_gap rfl rfl rfl (by decide +kernel) ⟨Nat.le_of_ble_eq_true rfl, Nat.le_of_ble_eq_true rfl⟩) ⟨gBw_blind, fun U hU hW => ⟨rfl, ⟨by rw [hU]; exact hP, va_K.moved hW.alike hK⟩, by rw [hU]; exact gEnw.warm hW (gEnw_now hE hS (fun _ h9 => h9))⟩⟩ rfl rfl hl.1 rfl (lv_room (Nat.le_of_ble_eq_true rfl)) dL_law_1018 ⟨hc1, hc2⟩) hS (fun q9 _ h9 => lk_A h9) (fun q9 h9 => lk_A h9) (fun r u t9 H1 locs ht hvm hw hB hz hk1 hS => ?_)
  have hw : r = gm 3 9 k := hw
  have hP : va_P D vwCl (GWO cI cC cZ cQ cJ x0 (x0 + 211) G1 (if k = 0 then vp_updL f 0 v.toInt64 else f)) H1 := by rw [← ht]; exact hB
  have hPM := lk_M hPM hk1
  have hm : mRef M1 = r := hm.trans hw.symm
  have hf9 : k = 0 → (if k = 0 then vp_updL f 0 v.toInt64 else f) 0 = v.toInt64 := fun z => by rw [if_pos z]; exact pk_uLs
  generalize (if k = 0 then vp_updL f 0 v.toInt64 else f) = f9 at hP hf9
  generalize H1 = H at hP hPM hS ⊢
  refine lv_istore (lv' := [(5, .int r), (0, .ref b), (1, .ref x0), (2, .ref (x0 + 201)), (3, .ref (x0 + 211)), (4, .int (nI (4 * j)))]) hx hb dL_law_1021 hl (by decide) rfl (fun ls hl => ?_)
  refine lv_aload_n hx hb dL_law_1023 rfl (lv_at hl 3 rfl) ?_
  refine lv_aload_n hx hb dL_law_1024 rfl (lv_at hl 1 rfl) ?_
  refine lv_iload hx hb dL_law_1025 (lv_at hl 5 rfl) ?_
  refine lv_iconst (v := 1) hx hb dL_law_1027 (by decide) ?_
  refine lv_iadd hx hb dL_law_1028 ?_
  refine va_sld hx hb hX hbl hbA hS h1 dL_law_1029 ?_
  refine gc_wi (As := [.int (xs (nI (4 * j) + 1).toNatClampNeg)]) (rest := []) ⟨hx, hb, hml, hown, hts⟩ hK (kX5_gap l D cI cC cZ cQ cJ (x0 + 201) M (xs (nI (4 * j) + 1).toNatClampNeg) e2) (cwV 1 hts gL_law_X5_gap rfl rfl rfl (by decide +kernel) ⟨Nat.le_of_ble_eq_true rfl, Nat.le_of_ble_eq_true rfl⟩) (va_recv hK hPM (ci := 5) (q0 := 0) rfl rfl) hPM hS (fun q9 h9 => Nat.le_trans (Nat.le_add_right _ _) h9.1) rfl hl.1 rfl (Nat.le_of_ble_eq_true rfl) ⟨hc1, hc2⟩ dL_law_1030 (fun H1 locs hPM hS _ hk1 => ?_)
  have hP := lk_G hP hk1
  have hPM : va_P D vwCl (MW cI cZ (x0 + 201) M1) H1 := hPM
  generalize H1 = H at hP hPM hS ⊢
  refine lv_istore (lv' := [(6, .int w), (5, .int r), (0, .ref b), (1, .ref x0), (2, .ref (x0 + 201)), (3, .ref (x0 + 211)), (4, .int (nI (4 * j)))]) hx hb dL_law_1033 hl (by decide) rfl (fun ls hl => ?_)
  refine lv_aload_n hx hb dL_law_1035 rfl (lv_at hl 4 rfl) ?_
  refine gc_ri (v := mRef M1) (As := []) (rest := []) ⟨hx, hb, hml, hown, hts⟩ hK (kX5_thrown l D cI cC cZ cQ cJ (x0 + 201) M1 rfl) (cwV 0 hts gL_law_X5_thrown rfl rfl rfl (by decide +kernel) ⟨Nat.le_of_ble_eq_true rfl, Nat.le_of_ble_eq_true rfl⟩) (va_recv hK hPM (ci := 5) (q0 := 0) rfl rfl) hPM rfl hl.1 rfl (Nat.le_of_ble_eq_true rfl) ⟨hc1, hc2⟩ dL_law_1036 ?_
  refine lv_iload hx hb dL_law_1039 (lv_at hl 1 rfl) ?_
  refine lv_icmp_eq (tgt := 1046) hx hb dL_law_1041 (by decide) (fun _ => ?_) (fun z => absurd hm z)
  refine lv_iload hx hb dL_law_1046 (lv_at hl 1 rfl) ?_
  have fin : W p l e room_1 s m #[Value.ref b] below meth c H locs (cells + 1) (slots + 6) Q (F0 m 1063 ls []) := by
    refine lv_goto (tgt := 1847) hx hb dL_law_1063 (by decide) ?_
    exact kk G1 M1 f9 _ _ _ ⟨hG1, hP, hPM, hS, lv_sub hl [2, 3, 4, 5, 6] rfl⟩
  refine lv_if_ne (tgt := 1063) hx hb dL_law_1048 (by decide) (fun _ => fin) (fun z0 => ?_)
  have hk0 : k = 0 := gm_zero hk (hw.symm.trans z0)
  refine lv_aload_n hx hb dL_law_1051 rfl (lv_at hl 5 rfl) ?_
  refine lv_iconst (v := 0) hx hb dL_law_1052 (by decide) ?_
  refine va_lald (f := f9) (i := 0) hx hb hK hP 201 4 GWO_at rfl (vin_lit rfl) dL_law_1053 ?_
  refine lv_iload hx hb dL_law_1054 (lv_at hl 0 rfl) ?_
  refine lv_i2l hx hb dL_law_1056 rfl ?_
  refine W.lcmp hx hb dL_law_1057 ?_
  refine lv_if_eq (tgt := 1063) hx hb dL_law_1058 (by decide) (fun _ => fin) (fun z => absurd ?_ z)
  rw [show f9 (0 : Int32).toNatClampNeg = v.toInt64 from hf9 hk0, hv hk0]
  exact lg_cmp_self _
set_option maxHeartbeats 4000000 in
set_option maxRecDepth 100000 in
theorem lc_room {l : Launch} {p : Program} {e : Env} {s : State} {m : MethodId} {below : List Frame} {meth : Method} {c : Code} {D : va_G} {cI cC cZ cQ cJ : ClassId} {t b L x0 j cells slots : Nat} {xs : Nat → Int32} {Q : State → Prop} (F : LFix l p s m meth c b L x0 xs D cI cC cZ cQ cJ t) (hj : 4 * j + 4 ≤ L) {G : GSt} {M : MSt} {f : Nat → Int64} {H : Heap} {locs : List Loc} {ls : Array Slot} (Z : LSta D cI cC cZ cQ cJ s b x0 G M f (nI (4 * j)) H locs ls) (hc1 : cells + 1 ≤ 601024) (hc2 : slots + 6 ≤ 7293034)
    (kk : ∀ (G : GSt) (M : MSt) (f : Nat → Int64) (H : Heap) (locs : List Loc) (ls : Array Slot), LSta D cI cC cZ cQ cJ s b x0 G M f (nI (4 * j)) H locs ls → W p l e room_1 s m #[Value.ref b] below meth c H locs (cells + 1) (slots + 6) Q (F0 m 1847 ls [])) : W p l e room_1 s m #[Value.ref b] below meth c H locs cells slots Q (F0 m 1066 ls []) := by
  obtain ⟨⟨hx, hb, hr, hml, hown, htt, hX, hbl, hlocks, hgv⟩, hK, hE, hlS, hL, hx0⟩ := F
  have hts : ∀ w ∈ wsL_law, w.before #[Value.ref b] s = true := fun w hw => htt w (wsL_law_in w hw)
  have hown : s.vm.findClass RL = some m.cls := hown
  obtain ⟨hG, hP, hPM, hS, hl⟩ := Z
  have hbA : ¬ gGe x0 b := fun z => by have z : x0 ≤ b := z; omega
  have h1 : vp_in (nI (4 * j) + 1) L := by rw [nI_1]; exact vp_in_nI (by omega) (by omega)
  have h2 : vp_in (nI (4 * j) + 2) L := by rw [nIa2]; exact vp_in_nI (by omega) (by omega)
  have h3 : vp_in (nI (4 * j) + 3) L := by rw [show nI (4 * j) + 3 = nI (4 * j + 3) from nI_add _ 3]; exact vp_in_nI (by omega) (by omega)
  obtain ⟨k, v, G1, w, M1, e1, e2, hk, hm, hv, hG1⟩ := o_room hG (xs (nI (4 * j) + 1).toNatClampNeg)
  refine lv_aload_n hx hb dL_law_1066 rfl (lv_at hl 1 rfl) ?_
  refine lv_aload_n hx hb dL_law_1067 rfl (lv_at hl 0 rfl) ?_
  refine lv_iload hx hb dL_law_1068 (lv_at hl 4 rfl) ?_
  refine lv_iconst (v := 1) hx hb dL_law_1070 (by decide) ?_
  refine lv_iadd hx hb dL_law_1071 ?_
  refine va_sld hx hb hX hbl hbA hS h1 dL_law_1072 ?_
  refine lv_aload_n hx hb dL_law_1073 rfl (lv_at hl 3 rfl) ?_
  refine va_calli (vx_runSW (As := [.ref x0, .int (xs (nI (4 * j) + 1).toNatClampNeg), .ref (x0 + 211)]) (rest := []) ⟨hx, hb, hml, hown, hts⟩ (kL_room l D cI cC cZ cQ cJ t x0 x0 (x0 + 211) G f (xs (nI (4 * j) + 1).toNatClampNeg) (by omega) (Nat.le_refl _) hlS e1 (hk.imp id (fun z => z.elim id (fun y => absurd rfl y.2)))) (vx_cwSW 3 hts gL_law_L_room rfl rfl rfl (by decide +kernel) ⟨Nat.le_of_ble_eq_true rfl, Nat.le_of_ble_eq_true rfl⟩) ⟨gBw_blind, fun U hU hW => ⟨rfl, ⟨by rw [hU]; exact hP, va_K.moved hW.alike hK⟩, by rw [hU]; exact gEnw.warm hW (gEnw_now hE hS (fun _ h9 => h9))⟩⟩ rfl rfl hl.1 rfl (lv_room (Nat.le_of_ble_eq_true rfl)) dL_law_1074 ⟨hc1, hc2⟩) hS (fun q9 _ h9 => lk_A h9) (fun q9 h9 => lk_A h9) (fun r u t9 H1 locs ht hvm hw hB hz hk1 hS => ?_)
  have hw : r = gm 1 9 k := hw
  have hP : va_P D vwCl (GWO cI cC cZ cQ cJ x0 (x0 + 211) G1 (if k = 0 then vp_updL f 0 v.toInt64 else f)) H1 := by rw [← ht]; exact hB
  have hPM := lk_M hPM hk1
  have hm : mRef M1 = r := hm.trans hw.symm
  have hf9 : k = 0 → (if k = 0 then vp_updL f 0 v.toInt64 else f) 0 = v.toInt64 := fun z => by rw [if_pos z]; exact pk_uLs
  generalize (if k = 0 then vp_updL f 0 v.toInt64 else f) = f9 at hP hf9
  generalize H1 = H at hP hPM hS ⊢
  refine lv_istore (lv' := [(5, .int r), (0, .ref b), (1, .ref x0), (2, .ref (x0 + 201)), (3, .ref (x0 + 211)), (4, .int (nI (4 * j)))]) hx hb dL_law_1077 hl (by decide) rfl (fun ls hl => ?_)
  refine lv_aload_n hx hb dL_law_1079 rfl (lv_at hl 3 rfl) ?_
  refine lv_aload_n hx hb dL_law_1080 rfl (lv_at hl 1 rfl) ?_
  refine lv_iload hx hb dL_law_1081 (lv_at hl 5 rfl) ?_
  refine lv_iconst (v := 1) hx hb dL_law_1083 (by decide) ?_
  refine lv_iadd hx hb dL_law_1084 ?_
  refine va_sld hx hb hX hbl hbA hS h1 dL_law_1085 ?_
  refine gc_wi (As := [.int (xs (nI (4 * j) + 1).toNatClampNeg)]) (rest := []) ⟨hx, hb, hml, hown, hts⟩ hK (kX5_room l D cI cC cZ cQ cJ (x0 + 201) M (xs (nI (4 * j) + 1).toNatClampNeg) e2) (cwV 1 hts gL_law_X5_room rfl rfl rfl (by decide +kernel) ⟨Nat.le_of_ble_eq_true rfl, Nat.le_of_ble_eq_true rfl⟩) (va_recv hK hPM (ci := 5) (q0 := 0) rfl rfl) hPM hS (fun q9 h9 => Nat.le_trans (Nat.le_add_right _ _) h9.1) rfl hl.1 rfl (Nat.le_of_ble_eq_true rfl) ⟨hc1, hc2⟩ dL_law_1086 (fun H1 locs hPM hS _ hk1 => ?_)
  have hP := lk_G hP hk1
  have hPM : va_P D vwCl (MW cI cZ (x0 + 201) M1) H1 := hPM
  generalize H1 = H at hP hPM hS ⊢
  refine lv_istore (lv' := [(6, .int w), (5, .int r), (0, .ref b), (1, .ref x0), (2, .ref (x0 + 201)), (3, .ref (x0 + 211)), (4, .int (nI (4 * j)))]) hx hb dL_law_1089 hl (by decide) rfl (fun ls hl => ?_)
  refine lv_aload_n hx hb dL_law_1091 rfl (lv_at hl 4 rfl) ?_
  refine gc_ri (v := mRef M1) (As := []) (rest := []) ⟨hx, hb, hml, hown, hts⟩ hK (kX5_thrown l D cI cC cZ cQ cJ (x0 + 201) M1 rfl) (cwV 0 hts gL_law_X5_thrown rfl rfl rfl (by decide +kernel) ⟨Nat.le_of_ble_eq_true rfl, Nat.le_of_ble_eq_true rfl⟩) (va_recv hK hPM (ci := 5) (q0 := 0) rfl rfl) hPM rfl hl.1 rfl (Nat.le_of_ble_eq_true rfl) ⟨hc1, hc2⟩ dL_law_1092 ?_
  refine lv_iload hx hb dL_law_1095 (lv_at hl 1 rfl) ?_
  refine lv_icmp_eq (tgt := 1102) hx hb dL_law_1097 (by decide) (fun _ => ?_) (fun z => absurd hm z)
  refine lv_iload hx hb dL_law_1102 (lv_at hl 1 rfl) ?_
  have fin : W p l e room_1 s m #[Value.ref b] below meth c H locs (cells + 1) (slots + 6) Q (F0 m 1119 ls []) := by
    refine lv_goto (tgt := 1847) hx hb dL_law_1119 (by decide) ?_
    exact kk G1 M1 f9 _ _ _ ⟨hG1, hP, hPM, hS, lv_sub hl [2, 3, 4, 5, 6] rfl⟩
  refine lv_if_ne (tgt := 1119) hx hb dL_law_1104 (by decide) (fun _ => fin) (fun z0 => ?_)
  have hk0 : k = 0 := gm_zero hk (hw.symm.trans z0)
  refine lv_aload_n hx hb dL_law_1107 rfl (lv_at hl 5 rfl) ?_
  refine lv_iconst (v := 0) hx hb dL_law_1108 (by decide) ?_
  refine va_lald (f := f9) (i := 0) hx hb hK hP 201 4 GWO_at rfl (vin_lit rfl) dL_law_1109 ?_
  refine lv_iload hx hb dL_law_1110 (lv_at hl 0 rfl) ?_
  refine lv_i2l hx hb dL_law_1112 rfl ?_
  refine W.lcmp hx hb dL_law_1113 ?_
  refine lv_if_eq (tgt := 1119) hx hb dL_law_1114 (by decide) (fun _ => fin) (fun z => absurd ?_ z)
  rw [show f9 (0 : Int32).toNatClampNeg = v.toInt64 from hf9 hk0, hv hk0]
  exact lg_cmp_self _
set_option maxHeartbeats 4000000 in
set_option maxRecDepth 100000 in
theorem lc_groups {l : Launch} {p : Program} {e : Env} {s : State} {m : MethodId} {below : List Frame} {meth : Method} {c : Code} {D : va_G} {cI cC cZ cQ cJ : ClassId} {t b L x0 j cells slots : Nat} {xs : Nat → Int32} {Q : State → Prop} (F : LFix l p s m meth c b L x0 xs D cI cC cZ cQ cJ t) (hj : 4 * j + 4 ≤ L) {G : GSt} {M : MSt} {f : Nat → Int64} {H : Heap} {locs : List Loc} {ls : Array Slot} (Z : LSta D cI cC cZ cQ cJ s b x0 G M f (nI (4 * j)) H locs ls) (hc1 : cells + 1 ≤ 601024) (hc2 : slots + 6 ≤ 7293034)
    (kk : ∀ (G : GSt) (M : MSt) (f : Nat → Int64) (H : Heap) (locs : List Loc) (ls : Array Slot), LSta D cI cC cZ cQ cJ s b x0 G M f (nI (4 * j)) H locs ls → W p l e room_1 s m #[Value.ref b] below meth c H locs (cells + 1) (slots + 6) Q (F0 m 1847 ls [])) : W p l e room_1 s m #[Value.ref b] below meth c H locs cells slots Q (F0 m 1122 ls []) := by
  obtain ⟨⟨hx, hb, hr, hml, hown, htt, hX, hbl, hlocks, hgv⟩, hK, hE, hlS, hL, hx0⟩ := F
  have hts : ∀ w ∈ wsL_law, w.before #[Value.ref b] s = true := fun w hw => htt w (wsL_law_in w hw)
  have hown : s.vm.findClass RL = some m.cls := hown
  obtain ⟨hG, hP, hPM, hS, hl⟩ := Z
  have hbA : ¬ gGe x0 b := fun z => by have z : x0 ≤ b := z; omega
  have h1 : vp_in (nI (4 * j) + 1) L := by rw [nI_1]; exact vp_in_nI (by omega) (by omega)
  have h2 : vp_in (nI (4 * j) + 2) L := by rw [nIa2]; exact vp_in_nI (by omega) (by omega)
  have h3 : vp_in (nI (4 * j) + 3) L := by rw [show nI (4 * j) + 3 = nI (4 * j + 3) from nI_add _ 3]; exact vp_in_nI (by omega) (by omega)
  obtain ⟨k, v, G1, w, M1, e1, e2, hk, hm, hv, hG1⟩ := o_groups hG (xs (nI (4 * j) + 1).toNatClampNeg)
  refine lv_aload_n hx hb dL_law_1122 rfl (lv_at hl 1 rfl) ?_
  refine lv_aload_n hx hb dL_law_1123 rfl (lv_at hl 0 rfl) ?_
  refine lv_iload hx hb dL_law_1124 (lv_at hl 4 rfl) ?_
  refine lv_iconst (v := 1) hx hb dL_law_1126 (by decide) ?_
  refine lv_iadd hx hb dL_law_1127 ?_
  refine va_sld hx hb hX hbl hbA hS h1 dL_law_1128 ?_
  refine lv_aload_n hx hb dL_law_1129 rfl (lv_at hl 3 rfl) ?_
  refine va_calli (vx_runSW (As := [.ref x0, .int (xs (nI (4 * j) + 1).toNatClampNeg), .ref (x0 + 211)]) (rest := []) ⟨hx, hb, hml, hown, hts⟩ (kL_groups l D cI cC cZ cQ cJ t x0 x0 (x0 + 211) G f (xs (nI (4 * j) + 1).toNatClampNeg) (by omega) (Nat.le_refl _) hlS e1 (hk.imp id (fun z => z.elim id (fun y => absurd rfl y.2)))) (vx_cwSW 3 hts gL_law_L_groups rfl rfl rfl (by decide +kernel) ⟨Nat.le_of_ble_eq_true rfl, Nat.le_of_ble_eq_true rfl⟩) ⟨gBw_blind, fun U hU hW => ⟨rfl, ⟨by rw [hU]; exact hP, va_K.moved hW.alike hK⟩, by rw [hU]; exact gEnw.warm hW (gEnw_now hE hS (fun _ h9 => h9))⟩⟩ rfl rfl hl.1 rfl (lv_room (Nat.le_of_ble_eq_true rfl)) dL_law_1130 ⟨hc1, hc2⟩) hS (fun q9 _ h9 => lk_A h9) (fun q9 h9 => lk_A h9) (fun r u t9 H1 locs ht hvm hw hB hz hk1 hS => ?_)
  have hw : r = gm 1 9 k := hw
  have hP : va_P D vwCl (GWO cI cC cZ cQ cJ x0 (x0 + 211) G1 (if k = 0 then vp_updL f 0 v.toInt64 else f)) H1 := by rw [← ht]; exact hB
  have hPM := lk_M hPM hk1
  have hm : mRef M1 = r := hm.trans hw.symm
  have hf9 : k = 0 → (if k = 0 then vp_updL f 0 v.toInt64 else f) 0 = v.toInt64 := fun z => by rw [if_pos z]; exact pk_uLs
  generalize (if k = 0 then vp_updL f 0 v.toInt64 else f) = f9 at hP hf9
  generalize H1 = H at hP hPM hS ⊢
  refine lv_istore (lv' := [(5, .int r), (0, .ref b), (1, .ref x0), (2, .ref (x0 + 201)), (3, .ref (x0 + 211)), (4, .int (nI (4 * j)))]) hx hb dL_law_1133 hl (by decide) rfl (fun ls hl => ?_)
  refine lv_aload_n hx hb dL_law_1135 rfl (lv_at hl 3 rfl) ?_
  refine lv_aload_n hx hb dL_law_1136 rfl (lv_at hl 1 rfl) ?_
  refine lv_iload hx hb dL_law_1137 (lv_at hl 5 rfl) ?_
  refine lv_iconst (v := 1) hx hb dL_law_1139 (by decide) ?_
  refine lv_iadd hx hb dL_law_1140 ?_
  refine va_sld hx hb hX hbl hbA hS h1 dL_law_1141 ?_
  refine gc_wi (As := [.int (xs (nI (4 * j) + 1).toNatClampNeg)]) (rest := []) ⟨hx, hb, hml, hown, hts⟩ hK (kX5_groups l D cI cC cZ cQ cJ (x0 + 201) M (xs (nI (4 * j) + 1).toNatClampNeg) e2) (cwV 1 hts gL_law_X5_groups rfl rfl rfl (by decide +kernel) ⟨Nat.le_of_ble_eq_true rfl, Nat.le_of_ble_eq_true rfl⟩) (va_recv hK hPM (ci := 5) (q0 := 0) rfl rfl) hPM hS (fun q9 h9 => Nat.le_trans (Nat.le_add_right _ _) h9.1) rfl hl.1 rfl (Nat.le_of_ble_eq_true rfl) ⟨hc1, hc2⟩ dL_law_1142 (fun H1 locs hPM hS _ hk1 => ?_)
  have hP := lk_G hP hk1
  have hPM : va_P D vwCl (MW cI cZ (x0 + 201) M1) H1 := hPM
  generalize H1 = H at hP hPM hS ⊢
  refine lv_istore (lv' := [(6, .int w), (5, .int r), (0, .ref b), (1, .ref x0), (2, .ref (x0 + 201)), (3, .ref (x0 + 211)), (4, .int (nI (4 * j)))]) hx hb dL_law_1145 hl (by decide) rfl (fun ls hl => ?_)
  refine lv_aload_n hx hb dL_law_1147 rfl (lv_at hl 4 rfl) ?_
  refine gc_ri (v := mRef M1) (As := []) (rest := []) ⟨hx, hb, hml, hown, hts⟩ hK (kX5_thrown l D cI cC cZ cQ cJ (x0 + 201) M1 rfl) (cwV 0 hts gL_law_X5_thrown rfl rfl rfl (by decide +kernel) ⟨Nat.le_of_ble_eq_true rfl, Nat.le_of_ble_eq_true rfl⟩) (va_recv hK hPM (ci := 5) (q0 := 0) rfl rfl) hPM rfl hl.1 rfl (Nat.le_of_ble_eq_true rfl) ⟨hc1, hc2⟩ dL_law_1148 ?_
  refine lv_iload hx hb dL_law_1151 (lv_at hl 1 rfl) ?_
  refine lv_icmp_eq (tgt := 1158) hx hb dL_law_1153 (by decide) (fun _ => ?_) (fun z => absurd hm z)
  refine lv_iload hx hb dL_law_1158 (lv_at hl 1 rfl) ?_
  have fin : W p l e room_1 s m #[Value.ref b] below meth c H locs (cells + 1) (slots + 6) Q (F0 m 1175 ls []) := by
    refine lv_goto (tgt := 1847) hx hb dL_law_1175 (by decide) ?_
    exact kk G1 M1 f9 _ _ _ ⟨hG1, hP, hPM, hS, lv_sub hl [2, 3, 4, 5, 6] rfl⟩
  refine lv_if_ne (tgt := 1175) hx hb dL_law_1160 (by decide) (fun _ => fin) (fun z0 => ?_)
  have hk0 : k = 0 := gm_zero hk (hw.symm.trans z0)
  refine lv_aload_n hx hb dL_law_1163 rfl (lv_at hl 5 rfl) ?_
  refine lv_iconst (v := 0) hx hb dL_law_1164 (by decide) ?_
  refine va_lald (f := f9) (i := 0) hx hb hK hP 201 4 GWO_at rfl (vin_lit rfl) dL_law_1165 ?_
  refine lv_iload hx hb dL_law_1166 (lv_at hl 0 rfl) ?_
  refine lv_i2l hx hb dL_law_1168 rfl ?_
  refine W.lcmp hx hb dL_law_1169 ?_
  refine lv_if_eq (tgt := 1175) hx hb dL_law_1170 (by decide) (fun _ => fin) (fun z => absurd ?_ z)
  rw [show f9 (0 : Int32).toNatClampNeg = v.toInt64 from hf9 hk0, hv hk0]
  exact lg_cmp_self _
set_option maxHeartbeats 4000000 in
set_option maxRecDepth 100000 in
theorem lc_dueAfter {l : Launch} {p : Program} {e : Env} {s : State} {m : MethodId} {below : List Frame} {meth : Method} {c : Code} {D : va_G} {cI cC cZ cQ cJ : ClassId} {t b L x0 j cells slots : Nat} {xs : Nat → Int32} {Q : State → Prop} (F : LFix l p s m meth c b L x0 xs D cI cC cZ cQ cJ t) (hj : 4 * j + 4 ≤ L) {G : GSt} {M : MSt} {f : Nat → Int64} {H : Heap} {locs : List Loc} {ls : Array Slot} (Z : LSta D cI cC cZ cQ cJ s b x0 G M f (nI (4 * j)) H locs ls) (hc1 : cells + 1 ≤ 601024) (hc2 : slots + 6 ≤ 7293034)
    (kk : ∀ (G : GSt) (M : MSt) (f : Nat → Int64) (H : Heap) (locs : List Loc) (ls : Array Slot), LSta D cI cC cZ cQ cJ s b x0 G M f (nI (4 * j)) H locs ls → W p l e room_1 s m #[Value.ref b] below meth c H locs (cells + 1) (slots + 6) Q (F0 m 1847 ls [])) : W p l e room_1 s m #[Value.ref b] below meth c H locs cells slots Q (F0 m 1178 ls []) := by
  obtain ⟨⟨hx, hb, hr, hml, hown, htt, hX, hbl, hlocks, hgv⟩, hK, hE, hlS, hL, hx0⟩ := F
  have hts : ∀ w ∈ wsL_law, w.before #[Value.ref b] s = true := fun w hw => htt w (wsL_law_in w hw)
  have hown : s.vm.findClass RL = some m.cls := hown
  obtain ⟨hG, hP, hPM, hS, hl⟩ := Z
  have hbA : ¬ gGe x0 b := fun z => by have z : x0 ≤ b := z; omega
  have h1 : vp_in (nI (4 * j) + 1) L := by rw [nI_1]; exact vp_in_nI (by omega) (by omega)
  have h2 : vp_in (nI (4 * j) + 2) L := by rw [nIa2]; exact vp_in_nI (by omega) (by omega)
  have h3 : vp_in (nI (4 * j) + 3) L := by rw [show nI (4 * j) + 3 = nI (4 * j + 3) from nI_add _ 3]; exact vp_in_nI (by omega) (by omega)
  obtain ⟨k, v, G1, w, M1, e1, e2, hk, hm, hv, hG1⟩ := o_dueAfter hG (xs (nI (4 * j) + 1).toNatClampNeg)
  refine lv_aload_n hx hb dL_law_1178 rfl (lv_at hl 1 rfl) ?_
  refine lv_aload_n hx hb dL_law_1179 rfl (lv_at hl 0 rfl) ?_
  refine lv_iload hx hb dL_law_1180 (lv_at hl 4 rfl) ?_
  refine lv_iconst (v := 1) hx hb dL_law_1182 (by decide) ?_
  refine lv_iadd hx hb dL_law_1183 ?_
  refine va_sld hx hb hX hbl hbA hS h1 dL_law_1184 ?_
  refine lv_aload_n hx hb dL_law_1185 rfl (lv_at hl 3 rfl) ?_
  refine va_calli (vx_runSW (As := [.ref x0, .int (xs (nI (4 * j) + 1).toNatClampNeg), .ref (x0 + 211)]) (rest := []) ⟨hx, hb, hml, hown, hts⟩ (kL_dueAfter l D cI cC cZ cQ cJ t x0 x0 (x0 + 211) G f (xs (nI (4 * j) + 1).toNatClampNeg) (by omega) (Nat.le_refl _) hlS e1 (hk.imp id (fun z => z.elim id (fun y => absurd rfl y.2)))) (vx_cwSW 3 hts gL_law_L_dueAfter rfl rfl rfl (by decide +kernel) ⟨Nat.le_of_ble_eq_true rfl, Nat.le_of_ble_eq_true rfl⟩) ⟨gBw_blind, fun U hU hW => ⟨rfl, ⟨by rw [hU]; exact hP, va_K.moved hW.alike hK⟩, by rw [hU]; exact gEnw.warm hW (gEnw_now hE hS (fun _ h9 => h9))⟩⟩ rfl rfl hl.1 rfl (lv_room (Nat.le_of_ble_eq_true rfl)) dL_law_1186 ⟨hc1, hc2⟩) hS (fun q9 _ h9 => lk_A h9) (fun q9 h9 => lk_A h9) (fun r u t9 H1 locs ht hvm hw hB hz hk1 hS => ?_)
  have hw : r = gm 3 9 k := hw
  have hP : va_P D vwCl (GWO cI cC cZ cQ cJ x0 (x0 + 211) G1 (if k = 0 then vp_updL f 0 v.toInt64 else f)) H1 := by rw [← ht]; exact hB
  have hPM := lk_M hPM hk1
  have hm : mRef M1 = r := hm.trans hw.symm
  have hf9 : k = 0 → (if k = 0 then vp_updL f 0 v.toInt64 else f) 0 = v.toInt64 := fun z => by rw [if_pos z]; exact pk_uLs
  generalize (if k = 0 then vp_updL f 0 v.toInt64 else f) = f9 at hP hf9
  generalize H1 = H at hP hPM hS ⊢
  refine lv_istore (lv' := [(5, .int r), (0, .ref b), (1, .ref x0), (2, .ref (x0 + 201)), (3, .ref (x0 + 211)), (4, .int (nI (4 * j)))]) hx hb dL_law_1189 hl (by decide) rfl (fun ls hl => ?_)
  refine lv_aload_n hx hb dL_law_1191 rfl (lv_at hl 3 rfl) ?_
  refine lv_aload_n hx hb dL_law_1192 rfl (lv_at hl 1 rfl) ?_
  refine lv_iload hx hb dL_law_1193 (lv_at hl 5 rfl) ?_
  refine lv_iconst (v := 1) hx hb dL_law_1195 (by decide) ?_
  refine lv_iadd hx hb dL_law_1196 ?_
  refine va_sld hx hb hX hbl hbA hS h1 dL_law_1197 ?_
  refine gc_wi (As := [.int (xs (nI (4 * j) + 1).toNatClampNeg)]) (rest := []) ⟨hx, hb, hml, hown, hts⟩ hK (kX5_dueAfter l D cI cC cZ cQ cJ (x0 + 201) M (xs (nI (4 * j) + 1).toNatClampNeg) e2) (cwV 1 hts gL_law_X5_dueAfter rfl rfl rfl (by decide +kernel) ⟨Nat.le_of_ble_eq_true rfl, Nat.le_of_ble_eq_true rfl⟩) (va_recv hK hPM (ci := 5) (q0 := 0) rfl rfl) hPM hS (fun q9 h9 => Nat.le_trans (Nat.le_add_right _ _) h9.1) rfl hl.1 rfl (Nat.le_of_ble_eq_true rfl) ⟨hc1, hc2⟩ dL_law_1198 (fun H1 locs hPM hS _ hk1 => ?_)
  have hP := lk_G hP hk1
  have hPM : va_P D vwCl (MW cI cZ (x0 + 201) M1) H1 := hPM
  generalize H1 = H at hP hPM hS ⊢
  refine lv_istore (lv' := [(6, .int w), (5, .int r), (0, .ref b), (1, .ref x0), (2, .ref (x0 + 201)), (3, .ref (x0 + 211)), (4, .int (nI (4 * j)))]) hx hb dL_law_1201 hl (by decide) rfl (fun ls hl => ?_)
  refine lv_aload_n hx hb dL_law_1203 rfl (lv_at hl 4 rfl) ?_
  refine gc_ri (v := mRef M1) (As := []) (rest := []) ⟨hx, hb, hml, hown, hts⟩ hK (kX5_thrown l D cI cC cZ cQ cJ (x0 + 201) M1 rfl) (cwV 0 hts gL_law_X5_thrown rfl rfl rfl (by decide +kernel) ⟨Nat.le_of_ble_eq_true rfl, Nat.le_of_ble_eq_true rfl⟩) (va_recv hK hPM (ci := 5) (q0 := 0) rfl rfl) hPM rfl hl.1 rfl (Nat.le_of_ble_eq_true rfl) ⟨hc1, hc2⟩ dL_law_1204 ?_
  refine lv_iload hx hb dL_law_1207 (lv_at hl 1 rfl) ?_
  refine lv_icmp_eq (tgt := 1214) hx hb dL_law_1209 (by decide) (fun _ => ?_) (fun z => absurd hm z)
  refine lv_iload hx hb dL_law_1214 (lv_at hl 1 rfl) ?_
  have fin : W p l e room_1 s m #[Value.ref b] below meth c H locs (cells + 1) (slots + 6) Q (F0 m 1231 ls []) := by
    refine lv_goto (tgt := 1847) hx hb dL_law_1231 (by decide) ?_
    exact kk G1 M1 f9 _ _ _ ⟨hG1, hP, hPM, hS, lv_sub hl [2, 3, 4, 5, 6] rfl⟩
  refine lv_if_ne (tgt := 1231) hx hb dL_law_1216 (by decide) (fun _ => fin) (fun z0 => ?_)
  have hk0 : k = 0 := gm_zero hk (hw.symm.trans z0)
  refine lv_aload_n hx hb dL_law_1219 rfl (lv_at hl 5 rfl) ?_
  refine lv_iconst (v := 0) hx hb dL_law_1220 (by decide) ?_
  refine va_lald (f := f9) (i := 0) hx hb hK hP 201 4 GWO_at rfl (vin_lit rfl) dL_law_1221 ?_
  refine lv_iload hx hb dL_law_1222 (lv_at hl 0 rfl) ?_
  refine lv_i2l hx hb dL_law_1224 rfl ?_
  refine W.lcmp hx hb dL_law_1225 ?_
  refine lv_if_eq (tgt := 1231) hx hb dL_law_1226 (by decide) (fun _ => fin) (fun z => absurd ?_ z)
  rw [show f9 (0 : Int32).toNatClampNeg = v.toInt64 from hf9 hk0, hv hk0]
  exact lg_cmp_self _
set_option maxHeartbeats 4000000 in
set_option maxRecDepth 100000 in
theorem lc_chance {l : Launch} {p : Program} {e : Env} {s : State} {m : MethodId} {below : List Frame} {meth : Method} {c : Code} {D : va_G} {cI cC cZ cQ cJ : ClassId} {t b L x0 j cells slots : Nat} {xs : Nat → Int32} {Q : State → Prop} (F : LFix l p s m meth c b L x0 xs D cI cC cZ cQ cJ t) (hj : 4 * j + 4 ≤ L) {G : GSt} {M : MSt} {f : Nat → Int64} {H : Heap} {locs : List Loc} {ls : Array Slot} (Z : LSta D cI cC cZ cQ cJ s b x0 G M f (nI (4 * j)) H locs ls) (hc1 : cells + 1 ≤ 601024) (hc2 : slots + 6 ≤ 7293034)
    (kk : ∀ (G : GSt) (M : MSt) (f : Nat → Int64) (H : Heap) (locs : List Loc) (ls : Array Slot), LSta D cI cC cZ cQ cJ s b x0 G M f (nI (4 * j)) H locs ls → W p l e room_1 s m #[Value.ref b] below meth c H locs (cells + 1) (slots + 6) Q (F0 m 1847 ls [])) : W p l e room_1 s m #[Value.ref b] below meth c H locs cells slots Q (F0 m 1234 ls []) := by
  obtain ⟨⟨hx, hb, hr, hml, hown, htt, hX, hbl, hlocks, hgv⟩, hK, hE, hlS, hL, hx0⟩ := F
  have hts : ∀ w ∈ wsL_law, w.before #[Value.ref b] s = true := fun w hw => htt w (wsL_law_in w hw)
  have hown : s.vm.findClass RL = some m.cls := hown
  obtain ⟨hG, hP, hPM, hS, hl⟩ := Z
  have hbA : ¬ gGe x0 b := fun z => by have z : x0 ≤ b := z; omega
  have h1 : vp_in (nI (4 * j) + 1) L := by rw [nI_1]; exact vp_in_nI (by omega) (by omega)
  have h2 : vp_in (nI (4 * j) + 2) L := by rw [nIa2]; exact vp_in_nI (by omega) (by omega)
  have h3 : vp_in (nI (4 * j) + 3) L := by rw [show nI (4 * j) + 3 = nI (4 * j + 3) from nI_add _ 3]; exact vp_in_nI (by omega) (by omega)
  by_cases h0 : (xs (nI (4 * j) + 2).toNatClampNeg) = 0
  · obtain ⟨k, v, G1, w, M1, e1, e2, hk, hm, hv, hG1⟩ := o_chance hG (xs (nI (4 * j) + 1).toNatClampNeg) 0
    refine lv_aload_n hx hb dL_law_1234 rfl (lv_at hl 1 rfl) ?_
    refine lv_aload_n hx hb dL_law_1235 rfl (lv_at hl 0 rfl) ?_
    refine lv_iload hx hb dL_law_1236 (lv_at hl 4 rfl) ?_
    refine lv_iconst (v := 1) hx hb dL_law_1238 (by decide) ?_
    refine lv_iadd hx hb dL_law_1239 ?_
    refine va_sld hx hb hX hbl hbA hS h1 dL_law_1240 ?_
    refine lv_aload_n hx hb dL_law_1241 rfl (lv_at hl 0 rfl) ?_
    refine lv_iload hx hb dL_law_1242 (lv_at hl 4 rfl) ?_
    refine lv_iconst (v := 2) hx hb dL_law_1244 (by decide) ?_
    refine lv_iadd hx hb dL_law_1245 ?_
    refine va_sld hx hb hX hbl hbA hS h2 dL_law_1246 ?_
    refine lv_if_eq (tgt := 1254) hx hb dL_law_1247 (by decide) (fun _ => ?_) (fun z => absurd h0 z)
    refine lv_iconst (v := 0) hx hb dL_law_1254 (by decide) ?_
    refine lv_aload_n hx hb dL_law_1255 rfl (lv_at hl 3 rfl) ?_
    refine va_calli (vx_runSW (As := [.ref x0, .int (xs (nI (4 * j) + 1).toNatClampNeg), .int 0, .ref (x0 + 211)]) (rest := []) ⟨hx, hb, hml, hown, hts⟩ (kL_chance l D cI cC cZ cQ cJ t x0 x0 (x0 + 211) G f (xs (nI (4 * j) + 1).toNatClampNeg) 0 (by omega) (Nat.le_refl _) hlS e1 (hk.imp id (fun z => z.elim id (fun y => absurd rfl y.2)))) (vx_cwSW 4 hts gL_law_L_chance rfl rfl rfl (by decide +kernel) ⟨Nat.le_of_ble_eq_true rfl, Nat.le_of_ble_eq_true rfl⟩) ⟨gBw_blind, fun U hU hW => ⟨rfl, ⟨by rw [hU]; exact hP, va_K.moved hW.alike hK⟩, by rw [hU]; exact gEnw.warm hW (gEnw_now hE hS (fun _ h9 => h9))⟩⟩ rfl rfl hl.1 rfl (lv_room (Nat.le_of_ble_eq_true rfl)) dL_law_1256 ⟨hc1, hc2⟩) hS (fun q9 _ h9 => lk_A h9) (fun q9 h9 => lk_A h9) (fun r u t9 H1 locs ht hvm hw hB hz hk1 hS => ?_)
    have hw : r = gm 1 9 k := hw
    have hP : va_P D vwCl (GWO cI cC cZ cQ cJ x0 (x0 + 211) G1 (if k = 0 then vp_updL f 0 v.toInt64 else f)) H1 := by rw [← ht]; exact hB
    have hPM := lk_M hPM hk1
    have hm : mRef M1 = r := hm.trans hw.symm
    have hf9 : k = 0 → (if k = 0 then vp_updL f 0 v.toInt64 else f) 0 = v.toInt64 := fun z => by rw [if_pos z]; exact pk_uLs
    generalize (if k = 0 then vp_updL f 0 v.toInt64 else f) = f9 at hP hf9
    generalize H1 = H at hP hPM hS ⊢
    refine lv_istore (lv' := [(5, .int r), (0, .ref b), (1, .ref x0), (2, .ref (x0 + 201)), (3, .ref (x0 + 211)), (4, .int (nI (4 * j)))]) hx hb dL_law_1259 hl (by decide) rfl (fun ls hl => ?_)
    refine lv_aload_n hx hb dL_law_1261 rfl (lv_at hl 3 rfl) ?_
    refine lv_aload_n hx hb dL_law_1262 rfl (lv_at hl 1 rfl) ?_
    refine lv_iload hx hb dL_law_1263 (lv_at hl 5 rfl) ?_
    refine lv_iconst (v := 1) hx hb dL_law_1265 (by decide) ?_
    refine lv_iadd hx hb dL_law_1266 ?_
    refine va_sld hx hb hX hbl hbA hS h1 dL_law_1267 ?_
    refine lv_aload_n hx hb dL_law_1268 rfl (lv_at hl 1 rfl) ?_
    refine lv_iload hx hb dL_law_1269 (lv_at hl 5 rfl) ?_
    refine lv_iconst (v := 2) hx hb dL_law_1271 (by decide) ?_
    refine lv_iadd hx hb dL_law_1272 ?_
    refine va_sld hx hb hX hbl hbA hS h2 dL_law_1273 ?_
    refine lv_if_eq (tgt := 1281) hx hb dL_law_1274 (by decide) (fun _ => ?_) (fun z => absurd h0 z)
    refine lv_iconst (v := 0) hx hb dL_law_1281 (by decide) ?_
    refine gc_wi (As := [.int (xs (nI (4 * j) + 1).toNatClampNeg), .int 0]) (rest := []) ⟨hx, hb, hml, hown, hts⟩ hK (kX5_chance l D cI cC cZ cQ cJ (x0 + 201) M (xs (nI (4 * j) + 1).toNatClampNeg) 0 e2) (cwV 2 hts gL_law_X5_chance rfl rfl rfl (by decide +kernel) ⟨Nat.le_of_ble_eq_true rfl, Nat.le_of_ble_eq_true rfl⟩) (va_recv hK hPM (ci := 5) (q0 := 0) rfl rfl) hPM hS (fun q9 h9 => Nat.le_trans (Nat.le_add_right _ _) h9.1) rfl hl.1 rfl (Nat.le_of_ble_eq_true rfl) ⟨hc1, hc2⟩ dL_law_1282 (fun H1 locs hPM hS _ hk1 => ?_)
    have hP := lk_G hP hk1
    have hPM : va_P D vwCl (MW cI cZ (x0 + 201) M1) H1 := hPM
    generalize H1 = H at hP hPM hS ⊢
    refine lv_istore (lv' := [(6, .int w), (5, .int r), (0, .ref b), (1, .ref x0), (2, .ref (x0 + 201)), (3, .ref (x0 + 211)), (4, .int (nI (4 * j)))]) hx hb dL_law_1285 hl (by decide) rfl (fun ls hl => ?_)
    refine lv_aload_n hx hb dL_law_1287 rfl (lv_at hl 4 rfl) ?_
    refine gc_ri (v := mRef M1) (As := []) (rest := []) ⟨hx, hb, hml, hown, hts⟩ hK (kX5_thrown l D cI cC cZ cQ cJ (x0 + 201) M1 rfl) (cwV 0 hts gL_law_X5_thrown rfl rfl rfl (by decide +kernel) ⟨Nat.le_of_ble_eq_true rfl, Nat.le_of_ble_eq_true rfl⟩) (va_recv hK hPM (ci := 5) (q0 := 0) rfl rfl) hPM rfl hl.1 rfl (Nat.le_of_ble_eq_true rfl) ⟨hc1, hc2⟩ dL_law_1288 ?_
    refine lv_iload hx hb dL_law_1291 (lv_at hl 1 rfl) ?_
    refine lv_icmp_eq (tgt := 1298) hx hb dL_law_1293 (by decide) (fun _ => ?_) (fun z => absurd hm z)
    refine lv_iload hx hb dL_law_1298 (lv_at hl 1 rfl) ?_
    have fin : W p l e room_1 s m #[Value.ref b] below meth c H locs (cells + 1) (slots + 6) Q (F0 m 1315 ls []) := by
      refine lv_goto (tgt := 1847) hx hb dL_law_1315 (by decide) ?_
      exact kk G1 M1 f9 _ _ _ ⟨hG1, hP, hPM, hS, lv_sub hl [2, 3, 4, 5, 6] rfl⟩
    refine lv_if_ne (tgt := 1315) hx hb dL_law_1300 (by decide) (fun _ => fin) (fun z0 => ?_)
    have hk0 : k = 0 := gm_zero hk (hw.symm.trans z0)
    refine lv_aload_n hx hb dL_law_1303 rfl (lv_at hl 5 rfl) ?_
    refine lv_iconst (v := 0) hx hb dL_law_1304 (by decide) ?_
    refine va_lald (f := f9) (i := 0) hx hb hK hP 201 4 GWO_at rfl (vin_lit rfl) dL_law_1305 ?_
    refine lv_iload hx hb dL_law_1306 (lv_at hl 0 rfl) ?_
    refine lv_i2l hx hb dL_law_1308 rfl ?_
    refine W.lcmp hx hb dL_law_1309 ?_
    refine lv_if_eq (tgt := 1315) hx hb dL_law_1310 (by decide) (fun _ => fin) (fun z => absurd ?_ z)
    rw [show f9 (0 : Int32).toNatClampNeg = v.toInt64 from hf9 hk0, hv hk0]
    exact lg_cmp_self _
  · obtain ⟨k, v, G1, w, M1, e1, e2, hk, hm, hv, hG1⟩ := o_chance hG (xs (nI (4 * j) + 1).toNatClampNeg) 1
    refine lv_aload_n hx hb dL_law_1234 rfl (lv_at hl 1 rfl) ?_
    refine lv_aload_n hx hb dL_law_1235 rfl (lv_at hl 0 rfl) ?_
    refine lv_iload hx hb dL_law_1236 (lv_at hl 4 rfl) ?_
    refine lv_iconst (v := 1) hx hb dL_law_1238 (by decide) ?_
    refine lv_iadd hx hb dL_law_1239 ?_
    refine va_sld hx hb hX hbl hbA hS h1 dL_law_1240 ?_
    refine lv_aload_n hx hb dL_law_1241 rfl (lv_at hl 0 rfl) ?_
    refine lv_iload hx hb dL_law_1242 (lv_at hl 4 rfl) ?_
    refine lv_iconst (v := 2) hx hb dL_law_1244 (by decide) ?_
    refine lv_iadd hx hb dL_law_1245 ?_
    refine va_sld hx hb hX hbl hbA hS h2 dL_law_1246 ?_
    refine lv_if_eq (tgt := 1254) hx hb dL_law_1247 (by decide) (fun z => absurd z h0) (fun _ => ?_)
    refine lv_iconst (v := 1) hx hb dL_law_1250 (by decide) ?_
    refine lv_goto (tgt := 1255) hx hb dL_law_1251 (by decide) ?_
    refine lv_aload_n hx hb dL_law_1255 rfl (lv_at hl 3 rfl) ?_
    refine va_calli (vx_runSW (As := [.ref x0, .int (xs (nI (4 * j) + 1).toNatClampNeg), .int 1, .ref (x0 + 211)]) (rest := []) ⟨hx, hb, hml, hown, hts⟩ (kL_chance l D cI cC cZ cQ cJ t x0 x0 (x0 + 211) G f (xs (nI (4 * j) + 1).toNatClampNeg) 1 (by omega) (Nat.le_refl _) hlS e1 (hk.imp id (fun z => z.elim id (fun y => absurd rfl y.2)))) (vx_cwSW 4 hts gL_law_L_chance rfl rfl rfl (by decide +kernel) ⟨Nat.le_of_ble_eq_true rfl, Nat.le_of_ble_eq_true rfl⟩) ⟨gBw_blind, fun U hU hW => ⟨rfl, ⟨by rw [hU]; exact hP, va_K.moved hW.alike hK⟩, by rw [hU]; exact gEnw.warm hW (gEnw_now hE hS (fun _ h9 => h9))⟩⟩ rfl rfl hl.1 rfl (lv_room (Nat.le_of_ble_eq_true rfl)) dL_law_1256 ⟨hc1, hc2⟩) hS (fun q9 _ h9 => lk_A h9) (fun q9 h9 => lk_A h9) (fun r u t9 H1 locs ht hvm hw hB hz hk1 hS => ?_)
    have hw : r = gm 1 9 k := hw
    have hP : va_P D vwCl (GWO cI cC cZ cQ cJ x0 (x0 + 211) G1 (if k = 0 then vp_updL f 0 v.toInt64 else f)) H1 := by rw [← ht]; exact hB
    have hPM := lk_M hPM hk1
    have hm : mRef M1 = r := hm.trans hw.symm
    have hf9 : k = 0 → (if k = 0 then vp_updL f 0 v.toInt64 else f) 0 = v.toInt64 := fun z => by rw [if_pos z]; exact pk_uLs
    generalize (if k = 0 then vp_updL f 0 v.toInt64 else f) = f9 at hP hf9
    generalize H1 = H at hP hPM hS ⊢
    refine lv_istore (lv' := [(5, .int r), (0, .ref b), (1, .ref x0), (2, .ref (x0 + 201)), (3, .ref (x0 + 211)), (4, .int (nI (4 * j)))]) hx hb dL_law_1259 hl (by decide) rfl (fun ls hl => ?_)
    refine lv_aload_n hx hb dL_law_1261 rfl (lv_at hl 3 rfl) ?_
    refine lv_aload_n hx hb dL_law_1262 rfl (lv_at hl 1 rfl) ?_
    refine lv_iload hx hb dL_law_1263 (lv_at hl 5 rfl) ?_
    refine lv_iconst (v := 1) hx hb dL_law_1265 (by decide) ?_
    refine lv_iadd hx hb dL_law_1266 ?_
    refine va_sld hx hb hX hbl hbA hS h1 dL_law_1267 ?_
    refine lv_aload_n hx hb dL_law_1268 rfl (lv_at hl 1 rfl) ?_
    refine lv_iload hx hb dL_law_1269 (lv_at hl 5 rfl) ?_
    refine lv_iconst (v := 2) hx hb dL_law_1271 (by decide) ?_
    refine lv_iadd hx hb dL_law_1272 ?_
    refine va_sld hx hb hX hbl hbA hS h2 dL_law_1273 ?_
    refine lv_if_eq (tgt := 1281) hx hb dL_law_1274 (by decide) (fun z => absurd z h0) (fun _ => ?_)
    refine lv_iconst (v := 1) hx hb dL_law_1277 (by decide) ?_
    refine lv_goto (tgt := 1282) hx hb dL_law_1278 (by decide) ?_
    refine gc_wi (As := [.int (xs (nI (4 * j) + 1).toNatClampNeg), .int 1]) (rest := []) ⟨hx, hb, hml, hown, hts⟩ hK (kX5_chance l D cI cC cZ cQ cJ (x0 + 201) M (xs (nI (4 * j) + 1).toNatClampNeg) 1 e2) (cwV 2 hts gL_law_X5_chance rfl rfl rfl (by decide +kernel) ⟨Nat.le_of_ble_eq_true rfl, Nat.le_of_ble_eq_true rfl⟩) (va_recv hK hPM (ci := 5) (q0 := 0) rfl rfl) hPM hS (fun q9 h9 => Nat.le_trans (Nat.le_add_right _ _) h9.1) rfl hl.1 rfl (Nat.le_of_ble_eq_true rfl) ⟨hc1, hc2⟩ dL_law_1282 (fun H1 locs hPM hS _ hk1 => ?_)
    have hP := lk_G hP hk1
    have hPM : va_P D vwCl (MW cI cZ (x0 + 201) M1) H1 := hPM
    generalize H1 = H at hP hPM hS ⊢
    refine lv_istore (lv' := [(6, .int w), (5, .int r), (0, .ref b), (1, .ref x0), (2, .ref (x0 + 201)), (3, .ref (x0 + 211)), (4, .int (nI (4 * j)))]) hx hb dL_law_1285 hl (by decide) rfl (fun ls hl => ?_)
    refine lv_aload_n hx hb dL_law_1287 rfl (lv_at hl 4 rfl) ?_
    refine gc_ri (v := mRef M1) (As := []) (rest := []) ⟨hx, hb, hml, hown, hts⟩ hK (kX5_thrown l D cI cC cZ cQ cJ (x0 + 201) M1 rfl) (cwV 0 hts gL_law_X5_thrown rfl rfl rfl (by decide +kernel) ⟨Nat.le_of_ble_eq_true rfl, Nat.le_of_ble_eq_true rfl⟩) (va_recv hK hPM (ci := 5) (q0 := 0) rfl rfl) hPM rfl hl.1 rfl (Nat.le_of_ble_eq_true rfl) ⟨hc1, hc2⟩ dL_law_1288 ?_
    refine lv_iload hx hb dL_law_1291 (lv_at hl 1 rfl) ?_
    refine lv_icmp_eq (tgt := 1298) hx hb dL_law_1293 (by decide) (fun _ => ?_) (fun z => absurd hm z)
    refine lv_iload hx hb dL_law_1298 (lv_at hl 1 rfl) ?_
    have fin : W p l e room_1 s m #[Value.ref b] below meth c H locs (cells + 1) (slots + 6) Q (F0 m 1315 ls []) := by
      refine lv_goto (tgt := 1847) hx hb dL_law_1315 (by decide) ?_
      exact kk G1 M1 f9 _ _ _ ⟨hG1, hP, hPM, hS, lv_sub hl [2, 3, 4, 5, 6] rfl⟩
    refine lv_if_ne (tgt := 1315) hx hb dL_law_1300 (by decide) (fun _ => fin) (fun z0 => ?_)
    have hk0 : k = 0 := gm_zero hk (hw.symm.trans z0)
    refine lv_aload_n hx hb dL_law_1303 rfl (lv_at hl 5 rfl) ?_
    refine lv_iconst (v := 0) hx hb dL_law_1304 (by decide) ?_
    refine va_lald (f := f9) (i := 0) hx hb hK hP 201 4 GWO_at rfl (vin_lit rfl) dL_law_1305 ?_
    refine lv_iload hx hb dL_law_1306 (lv_at hl 0 rfl) ?_
    refine lv_i2l hx hb dL_law_1308 rfl ?_
    refine W.lcmp hx hb dL_law_1309 ?_
    refine lv_if_eq (tgt := 1315) hx hb dL_law_1310 (by decide) (fun _ => fin) (fun z => absurd ?_ z)
    rw [show f9 (0 : Int32).toNatClampNeg = v.toInt64 from hf9 hk0, hv hk0]
    exact lg_cmp_self _
set_option maxHeartbeats 4000000 in
set_option maxRecDepth 100000 in
theorem lc_ahead {l : Launch} {p : Program} {e : Env} {s : State} {m : MethodId} {below : List Frame} {meth : Method} {c : Code} {D : va_G} {cI cC cZ cQ cJ : ClassId} {t b L x0 j cells slots : Nat} {xs : Nat → Int32} {Q : State → Prop} (F : LFix l p s m meth c b L x0 xs D cI cC cZ cQ cJ t) (hj : 4 * j + 4 ≤ L) {G : GSt} {M : MSt} {f : Nat → Int64} {H : Heap} {locs : List Loc} {ls : Array Slot} (Z : LSta D cI cC cZ cQ cJ s b x0 G M f (nI (4 * j)) H locs ls) (hc1 : cells + 1 ≤ 601024) (hc2 : slots + 6 ≤ 7293034)
    (kk : ∀ (G : GSt) (M : MSt) (f : Nat → Int64) (H : Heap) (locs : List Loc) (ls : Array Slot), LSta D cI cC cZ cQ cJ s b x0 G M f (nI (4 * j)) H locs ls → W p l e room_1 s m #[Value.ref b] below meth c H locs (cells + 1) (slots + 6) Q (F0 m 1847 ls [])) : W p l e room_1 s m #[Value.ref b] below meth c H locs cells slots Q (F0 m 1318 ls []) := by
  obtain ⟨⟨hx, hb, hr, hml, hown, htt, hX, hbl, hlocks, hgv⟩, hK, hE, hlS, hL, hx0⟩ := F
  have hts : ∀ w ∈ wsL_law, w.before #[Value.ref b] s = true := fun w hw => htt w (wsL_law_in w hw)
  have hown : s.vm.findClass RL = some m.cls := hown
  obtain ⟨hG, hP, hPM, hS, hl⟩ := Z
  have hbA : ¬ gGe x0 b := fun z => by have z : x0 ≤ b := z; omega
  have h1 : vp_in (nI (4 * j) + 1) L := by rw [nI_1]; exact vp_in_nI (by omega) (by omega)
  have h2 : vp_in (nI (4 * j) + 2) L := by rw [nIa2]; exact vp_in_nI (by omega) (by omega)
  have h3 : vp_in (nI (4 * j) + 3) L := by rw [show nI (4 * j) + 3 = nI (4 * j + 3) from nI_add _ 3]; exact vp_in_nI (by omega) (by omega)
  obtain ⟨k, v, G1, w, M1, e1, e2, hk, hm, hv, hG1⟩ := o_ahead hG (xs (nI (4 * j) + 1).toNatClampNeg) (xs (nI (4 * j) + 2).toNatClampNeg) (xs (nI (4 * j) + 3).toNatClampNeg)
  refine lv_aload_n hx hb dL_law_1318 rfl (lv_at hl 1 rfl) ?_
  refine lv_aload_n hx hb dL_law_1319 rfl (lv_at hl 0 rfl) ?_
  refine lv_iload hx hb dL_law_1320 (lv_at hl 4 rfl) ?_
  refine lv_iconst (v := 1) hx hb dL_law_1322 (by decide) ?_
  refine lv_iadd hx hb dL_law_1323 ?_
  refine va_sld hx hb hX hbl hbA hS h1 dL_law_1324 ?_
  refine lv_aload_n hx hb dL_law_1325 rfl (lv_at hl 0 rfl) ?_
  refine lv_iload hx hb dL_law_1326 (lv_at hl 4 rfl) ?_
  refine lv_iconst (v := 2) hx hb dL_law_1328 (by decide) ?_
  refine lv_iadd hx hb dL_law_1329 ?_
  refine va_sld hx hb hX hbl hbA hS h2 dL_law_1330 ?_
  refine lv_aload_n hx hb dL_law_1331 rfl (lv_at hl 0 rfl) ?_
  refine lv_iload hx hb dL_law_1332 (lv_at hl 4 rfl) ?_
  refine lv_iconst (v := 3) hx hb dL_law_1334 (by decide) ?_
  refine lv_iadd hx hb dL_law_1335 ?_
  refine va_sld hx hb hX hbl hbA hS h3 dL_law_1336 ?_
  refine lv_aload_n hx hb dL_law_1337 rfl (lv_at hl 3 rfl) ?_
  refine va_calli (vx_runSW (As := [.ref x0, .int (xs (nI (4 * j) + 1).toNatClampNeg), .int (xs (nI (4 * j) + 2).toNatClampNeg), .int (xs (nI (4 * j) + 3).toNatClampNeg), .ref (x0 + 211)]) (rest := []) ⟨hx, hb, hml, hown, hts⟩ (kL_ahead l D cI cC cZ cQ cJ t x0 x0 (x0 + 211) G f (xs (nI (4 * j) + 1).toNatClampNeg) (xs (nI (4 * j) + 2).toNatClampNeg) (xs (nI (4 * j) + 3).toNatClampNeg) (by omega) (Nat.le_refl _) hlS e1 (hk.imp id (fun z => z.imp id And.left))) (vx_cwSW 5 hts gL_law_L_ahead rfl rfl rfl (by decide +kernel) ⟨Nat.le_of_ble_eq_true rfl, Nat.le_of_ble_eq_true rfl⟩) ⟨gBw_blind, fun U hU hW => ⟨rfl, ⟨by rw [hU]; exact hP, va_K.moved hW.alike hK⟩, by rw [hU]; exact gEnw.warm hW (gEnw_now hE hS (fun _ h9 => h9))⟩⟩ rfl rfl hl.1 rfl (lv_room (Nat.le_of_ble_eq_true rfl)) dL_law_1338 ⟨hc1, hc2⟩) hS (fun q9 _ h9 => lk_A h9) (fun q9 h9 => lk_A h9) (fun r u t9 H1 locs ht hvm hw hB hz hk1 hS => ?_)
  have hw : r = gm 3 1 k := hw
  have hP : va_P D vwCl (GWO cI cC cZ cQ cJ x0 (x0 + 211) G1 (if k = 0 then vp_updL f 0 v.toInt64 else f)) H1 := by rw [← ht]; exact hB
  have hPM := lk_M hPM hk1
  have hm : mRef M1 = r := hm.trans hw.symm
  have hf9 : k = 0 → (if k = 0 then vp_updL f 0 v.toInt64 else f) 0 = v.toInt64 := fun z => by rw [if_pos z]; exact pk_uLs
  generalize (if k = 0 then vp_updL f 0 v.toInt64 else f) = f9 at hP hf9
  generalize H1 = H at hP hPM hS ⊢
  refine lv_istore (lv' := [(5, .int r), (0, .ref b), (1, .ref x0), (2, .ref (x0 + 201)), (3, .ref (x0 + 211)), (4, .int (nI (4 * j)))]) hx hb dL_law_1341 hl (by decide) rfl (fun ls hl => ?_)
  refine lv_aload_n hx hb dL_law_1343 rfl (lv_at hl 3 rfl) ?_
  refine lv_aload_n hx hb dL_law_1344 rfl (lv_at hl 1 rfl) ?_
  refine lv_iload hx hb dL_law_1345 (lv_at hl 5 rfl) ?_
  refine lv_iconst (v := 1) hx hb dL_law_1347 (by decide) ?_
  refine lv_iadd hx hb dL_law_1348 ?_
  refine va_sld hx hb hX hbl hbA hS h1 dL_law_1349 ?_
  refine lv_aload_n hx hb dL_law_1350 rfl (lv_at hl 1 rfl) ?_
  refine lv_iload hx hb dL_law_1351 (lv_at hl 5 rfl) ?_
  refine lv_iconst (v := 2) hx hb dL_law_1353 (by decide) ?_
  refine lv_iadd hx hb dL_law_1354 ?_
  refine va_sld hx hb hX hbl hbA hS h2 dL_law_1355 ?_
  refine lv_aload_n hx hb dL_law_1356 rfl (lv_at hl 1 rfl) ?_
  refine lv_iload hx hb dL_law_1357 (lv_at hl 5 rfl) ?_
  refine lv_iconst (v := 3) hx hb dL_law_1359 (by decide) ?_
  refine lv_iadd hx hb dL_law_1360 ?_
  refine va_sld hx hb hX hbl hbA hS h3 dL_law_1361 ?_
  refine gc_wi (As := [.int (xs (nI (4 * j) + 1).toNatClampNeg), .int (xs (nI (4 * j) + 2).toNatClampNeg), .int (xs (nI (4 * j) + 3).toNatClampNeg)]) (rest := []) ⟨hx, hb, hml, hown, hts⟩ hK (kX5_ahead l D cI cC cZ cQ cJ (x0 + 201) M (xs (nI (4 * j) + 1).toNatClampNeg) (xs (nI (4 * j) + 2).toNatClampNeg) (xs (nI (4 * j) + 3).toNatClampNeg) e2) (cwV 3 hts gL_law_X5_ahead rfl rfl rfl (by decide +kernel) ⟨Nat.le_of_ble_eq_true rfl, Nat.le_of_ble_eq_true rfl⟩) (va_recv hK hPM (ci := 5) (q0 := 0) rfl rfl) hPM hS (fun q9 h9 => Nat.le_trans (Nat.le_add_right _ _) h9.1) rfl hl.1 rfl (Nat.le_of_ble_eq_true rfl) ⟨hc1, hc2⟩ dL_law_1362 (fun H1 locs hPM hS _ hk1 => ?_)
  have hP := lk_G hP hk1
  have hPM : va_P D vwCl (MW cI cZ (x0 + 201) M1) H1 := hPM
  generalize H1 = H at hP hPM hS ⊢
  refine lv_istore (lv' := [(6, .int w), (5, .int r), (0, .ref b), (1, .ref x0), (2, .ref (x0 + 201)), (3, .ref (x0 + 211)), (4, .int (nI (4 * j)))]) hx hb dL_law_1365 hl (by decide) rfl (fun ls hl => ?_)
  refine lv_aload_n hx hb dL_law_1367 rfl (lv_at hl 4 rfl) ?_
  refine gc_ri (v := mRef M1) (As := []) (rest := []) ⟨hx, hb, hml, hown, hts⟩ hK (kX5_thrown l D cI cC cZ cQ cJ (x0 + 201) M1 rfl) (cwV 0 hts gL_law_X5_thrown rfl rfl rfl (by decide +kernel) ⟨Nat.le_of_ble_eq_true rfl, Nat.le_of_ble_eq_true rfl⟩) (va_recv hK hPM (ci := 5) (q0 := 0) rfl rfl) hPM rfl hl.1 rfl (Nat.le_of_ble_eq_true rfl) ⟨hc1, hc2⟩ dL_law_1368 ?_
  refine lv_iload hx hb dL_law_1371 (lv_at hl 1 rfl) ?_
  refine lv_icmp_eq (tgt := 1378) hx hb dL_law_1373 (by decide) (fun _ => ?_) (fun z => absurd hm z)
  refine lv_iload hx hb dL_law_1378 (lv_at hl 1 rfl) ?_
  have fin : W p l e room_1 s m #[Value.ref b] below meth c H locs (cells + 1) (slots + 6) Q (F0 m 1395 ls []) := by
    refine lv_goto (tgt := 1847) hx hb dL_law_1395 (by decide) ?_
    exact kk G1 M1 f9 _ _ _ ⟨hG1, hP, hPM, hS, lv_sub hl [2, 3, 4, 5, 6] rfl⟩
  refine lv_if_ne (tgt := 1395) hx hb dL_law_1380 (by decide) (fun _ => fin) (fun z0 => ?_)
  have hk0 : k = 0 := gm_zero hk (hw.symm.trans z0)
  refine lv_aload_n hx hb dL_law_1383 rfl (lv_at hl 5 rfl) ?_
  refine lv_iconst (v := 0) hx hb dL_law_1384 (by decide) ?_
  refine va_lald (f := f9) (i := 0) hx hb hK hP 201 4 GWO_at rfl (vin_lit rfl) dL_law_1385 ?_
  refine lv_iload hx hb dL_law_1386 (lv_at hl 0 rfl) ?_
  refine lv_i2l hx hb dL_law_1388 rfl ?_
  refine W.lcmp hx hb dL_law_1389 ?_
  refine lv_if_eq (tgt := 1395) hx hb dL_law_1390 (by decide) (fun _ => fin) (fun z => absurd ?_ z)
  rw [show f9 (0 : Int32).toNatClampNeg = v.toInt64 from hf9 hk0, hv hk0]
  exact lg_cmp_self _
set_option maxHeartbeats 4000000 in
set_option maxRecDepth 100000 in
theorem lc_happens {l : Launch} {p : Program} {e : Env} {s : State} {m : MethodId} {below : List Frame} {meth : Method} {c : Code} {D : va_G} {cI cC cZ cQ cJ : ClassId} {t b L x0 j cells slots : Nat} {xs : Nat → Int32} {Q : State → Prop} (F : LFix l p s m meth c b L x0 xs D cI cC cZ cQ cJ t) (hj : 4 * j + 4 ≤ L) {G : GSt} {M : MSt} {f : Nat → Int64} {H : Heap} {locs : List Loc} {ls : Array Slot} (Z : LSta D cI cC cZ cQ cJ s b x0 G M f (nI (4 * j)) H locs ls) (hc1 : cells + 1 ≤ 601024) (hc2 : slots + 6 ≤ 7293034)
    (kk : ∀ (G : GSt) (M : MSt) (f : Nat → Int64) (H : Heap) (locs : List Loc) (ls : Array Slot), LSta D cI cC cZ cQ cJ s b x0 G M f (nI (4 * j)) H locs ls → W p l e room_1 s m #[Value.ref b] below meth c H locs (cells + 1) (slots + 6) Q (F0 m 1847 ls [])) : W p l e room_1 s m #[Value.ref b] below meth c H locs cells slots Q (F0 m 1398 ls []) := by
  obtain ⟨⟨hx, hb, hr, hml, hown, htt, hX, hbl, hlocks, hgv⟩, hK, hE, hlS, hL, hx0⟩ := F
  have hts : ∀ w ∈ wsL_law, w.before #[Value.ref b] s = true := fun w hw => htt w (wsL_law_in w hw)
  have hown : s.vm.findClass RL = some m.cls := hown
  obtain ⟨hG, hP, hPM, hS, hl⟩ := Z
  have hbA : ¬ gGe x0 b := fun z => by have z : x0 ≤ b := z; omega
  have h1 : vp_in (nI (4 * j) + 1) L := by rw [nI_1]; exact vp_in_nI (by omega) (by omega)
  have h2 : vp_in (nI (4 * j) + 2) L := by rw [nIa2]; exact vp_in_nI (by omega) (by omega)
  have h3 : vp_in (nI (4 * j) + 3) L := by rw [show nI (4 * j) + 3 = nI (4 * j + 3) from nI_add _ 3]; exact vp_in_nI (by omega) (by omega)
  obtain ⟨k, v, G1, w, M1, e1, e2, hk, hm, hv, hG1⟩ := o_happens hG (xs (nI (4 * j) + 1).toNatClampNeg) (xs (nI (4 * j) + 2).toNatClampNeg)
  refine lv_aload_n hx hb dL_law_1398 rfl (lv_at hl 1 rfl) ?_
  refine lv_aload_n hx hb dL_law_1399 rfl (lv_at hl 0 rfl) ?_
  refine lv_iload hx hb dL_law_1400 (lv_at hl 4 rfl) ?_
  refine lv_iconst (v := 1) hx hb dL_law_1402 (by decide) ?_
  refine lv_iadd hx hb dL_law_1403 ?_
  refine va_sld hx hb hX hbl hbA hS h1 dL_law_1404 ?_
  refine lv_aload_n hx hb dL_law_1405 rfl (lv_at hl 0 rfl) ?_
  refine lv_iload hx hb dL_law_1406 (lv_at hl 4 rfl) ?_
  refine lv_iconst (v := 2) hx hb dL_law_1408 (by decide) ?_
  refine lv_iadd hx hb dL_law_1409 ?_
  refine va_sld hx hb hX hbl hbA hS h2 dL_law_1410 ?_
  refine lv_aload_n hx hb dL_law_1411 rfl (lv_at hl 3 rfl) ?_
  refine va_calli (vx_runSW (As := [.ref x0, .int (xs (nI (4 * j) + 1).toNatClampNeg), .int (xs (nI (4 * j) + 2).toNatClampNeg), .ref (x0 + 211)]) (rest := []) ⟨hx, hb, hml, hown, hts⟩ (kL_happens l D cI cC cZ cQ cJ t x0 x0 (x0 + 211) G f (xs (nI (4 * j) + 1).toNatClampNeg) (xs (nI (4 * j) + 2).toNatClampNeg) (by omega) (Nat.le_refl _) hlS e1 (hk.imp id (fun z => z.elim id (fun y => absurd rfl y.2)))) (vx_cwSW 4 hts gL_law_L_happens rfl rfl rfl (by decide +kernel) ⟨Nat.le_of_ble_eq_true rfl, Nat.le_of_ble_eq_true rfl⟩) ⟨gBw_blind, fun U hU hW => ⟨rfl, ⟨by rw [hU]; exact hP, va_K.moved hW.alike hK⟩, by rw [hU]; exact gEnw.warm hW (gEnw_now hE hS (fun _ h9 => h9))⟩⟩ rfl rfl hl.1 rfl (lv_room (Nat.le_of_ble_eq_true rfl)) dL_law_1412 ⟨hc1, hc2⟩) hS (fun q9 _ h9 => lk_A h9) (fun q9 h9 => lk_A h9) (fun r u t9 H1 locs ht hvm hw hB hz hk1 hS => ?_)
  have hw : r = gm 1 9 k := hw
  have hP : va_P D vwCl (GWO cI cC cZ cQ cJ x0 (x0 + 211) G1 (if k = 0 then vp_updL f 0 v.toInt64 else f)) H1 := by rw [← ht]; exact hB
  have hPM := lk_M hPM hk1
  have hm : mRef M1 = r := hm.trans hw.symm
  have hf9 : k = 0 → (if k = 0 then vp_updL f 0 v.toInt64 else f) 0 = v.toInt64 := fun z => by rw [if_pos z]; exact pk_uLs
  generalize (if k = 0 then vp_updL f 0 v.toInt64 else f) = f9 at hP hf9
  generalize H1 = H at hP hPM hS ⊢
  refine lv_istore (lv' := [(5, .int r), (0, .ref b), (1, .ref x0), (2, .ref (x0 + 201)), (3, .ref (x0 + 211)), (4, .int (nI (4 * j)))]) hx hb dL_law_1415 hl (by decide) rfl (fun ls hl => ?_)
  refine lv_aload_n hx hb dL_law_1417 rfl (lv_at hl 3 rfl) ?_
  refine lv_aload_n hx hb dL_law_1418 rfl (lv_at hl 1 rfl) ?_
  refine lv_iload hx hb dL_law_1419 (lv_at hl 5 rfl) ?_
  refine lv_iconst (v := 1) hx hb dL_law_1421 (by decide) ?_
  refine lv_iadd hx hb dL_law_1422 ?_
  refine va_sld hx hb hX hbl hbA hS h1 dL_law_1423 ?_
  refine lv_aload_n hx hb dL_law_1424 rfl (lv_at hl 1 rfl) ?_
  refine lv_iload hx hb dL_law_1425 (lv_at hl 5 rfl) ?_
  refine lv_iconst (v := 2) hx hb dL_law_1427 (by decide) ?_
  refine lv_iadd hx hb dL_law_1428 ?_
  refine va_sld hx hb hX hbl hbA hS h2 dL_law_1429 ?_
  refine gc_wi (As := [.int (xs (nI (4 * j) + 1).toNatClampNeg), .int (xs (nI (4 * j) + 2).toNatClampNeg)]) (rest := []) ⟨hx, hb, hml, hown, hts⟩ hK (kX5_happens l D cI cC cZ cQ cJ (x0 + 201) M (xs (nI (4 * j) + 1).toNatClampNeg) (xs (nI (4 * j) + 2).toNatClampNeg) e2) (cwV 2 hts gL_law_X5_happens rfl rfl rfl (by decide +kernel) ⟨Nat.le_of_ble_eq_true rfl, Nat.le_of_ble_eq_true rfl⟩) (va_recv hK hPM (ci := 5) (q0 := 0) rfl rfl) hPM hS (fun q9 h9 => Nat.le_trans (Nat.le_add_right _ _) h9.1) rfl hl.1 rfl (Nat.le_of_ble_eq_true rfl) ⟨hc1, hc2⟩ dL_law_1430 (fun H1 locs hPM hS _ hk1 => ?_)
  have hP := lk_G hP hk1
  have hPM : va_P D vwCl (MW cI cZ (x0 + 201) M1) H1 := hPM
  generalize H1 = H at hP hPM hS ⊢
  refine lv_istore (lv' := [(6, .int w), (5, .int r), (0, .ref b), (1, .ref x0), (2, .ref (x0 + 201)), (3, .ref (x0 + 211)), (4, .int (nI (4 * j)))]) hx hb dL_law_1433 hl (by decide) rfl (fun ls hl => ?_)
  refine lv_aload_n hx hb dL_law_1435 rfl (lv_at hl 4 rfl) ?_
  refine gc_ri (v := mRef M1) (As := []) (rest := []) ⟨hx, hb, hml, hown, hts⟩ hK (kX5_thrown l D cI cC cZ cQ cJ (x0 + 201) M1 rfl) (cwV 0 hts gL_law_X5_thrown rfl rfl rfl (by decide +kernel) ⟨Nat.le_of_ble_eq_true rfl, Nat.le_of_ble_eq_true rfl⟩) (va_recv hK hPM (ci := 5) (q0 := 0) rfl rfl) hPM rfl hl.1 rfl (Nat.le_of_ble_eq_true rfl) ⟨hc1, hc2⟩ dL_law_1436 ?_
  refine lv_iload hx hb dL_law_1439 (lv_at hl 1 rfl) ?_
  refine lv_icmp_eq (tgt := 1446) hx hb dL_law_1441 (by decide) (fun _ => ?_) (fun z => absurd hm z)
  refine lv_iload hx hb dL_law_1446 (lv_at hl 1 rfl) ?_
  have fin : W p l e room_1 s m #[Value.ref b] below meth c H locs (cells + 1) (slots + 6) Q (F0 m 1463 ls []) := by
    refine lv_goto (tgt := 1847) hx hb dL_law_1463 (by decide) ?_
    exact kk G1 M1 f9 _ _ _ ⟨hG1, hP, hPM, hS, lv_sub hl [2, 3, 4, 5, 6] rfl⟩
  refine lv_if_ne (tgt := 1463) hx hb dL_law_1448 (by decide) (fun _ => fin) (fun z0 => ?_)
  have hk0 : k = 0 := gm_zero hk (hw.symm.trans z0)
  refine lv_aload_n hx hb dL_law_1451 rfl (lv_at hl 5 rfl) ?_
  refine lv_iconst (v := 0) hx hb dL_law_1452 (by decide) ?_
  refine va_lald (f := f9) (i := 0) hx hb hK hP 201 4 GWO_at rfl (vin_lit rfl) dL_law_1453 ?_
  refine lv_iload hx hb dL_law_1454 (lv_at hl 0 rfl) ?_
  refine lv_i2l hx hb dL_law_1456 rfl ?_
  refine W.lcmp hx hb dL_law_1457 ?_
  refine lv_if_eq (tgt := 1463) hx hb dL_law_1458 (by decide) (fun _ => fin) (fun z => absurd ?_ z)
  rw [show f9 (0 : Int32).toNatClampNeg = v.toInt64 from hf9 hk0, hv hk0]
  exact lg_cmp_self _

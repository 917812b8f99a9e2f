set_option maxHeartbeats 4000000 in
set_option maxRecDepth 100000 in
theorem lc_bestLimit {l : Launch} {p : Program} {e : Env} {s : State} {m : MethodId} {below : List Frame} {meth : Method} {c : Code} {D : va_G} {cI cC cZ cQ cJ : ClassId} {t b L x0 j cells slots : Nat} {xs : Nat → Int32} {Q : State → Prop} (F : LFix l p s m meth c b L x0 xs D cI cC cZ cQ cJ t) (hj : 4 * j + 4 ≤ L) {G : GSt} {M : MSt} {f : Nat → Int64} {H : Heap} {locs : List Loc} {ls : Array Slot} (Z : LSta D cI cC cZ cQ cJ s b x0 G M f (nI (4 * j)) H locs ls) (hc1 : cells + 1 ≤ 601024) (hc2 : slots + 6 ≤ 7293034)
    (kk : ∀ (G : GSt) (M : MSt) (f : Nat → Int64) (H : Heap) (locs : List Loc) (ls : Array Slot), LSta D cI cC cZ cQ cJ s b x0 G M f (nI (4 * j)) H locs ls → W p l e room_1 s m #[Value.ref b] below meth c H locs (cells + 1) (slots + 6) Q (F0 m 1847 ls [])) : W p l e room_1 s m #[Value.ref b] below meth c H locs cells slots Q (F0 m 1466 ls []) := by
  obtain ⟨⟨hx, hb, hr, hml, hown, htt, hX, hbl, hlocks, hgv⟩, hK, hE, hlS, hL, hx0⟩ := F
  have hts : ∀ w ∈ wsL_law, w.before #[Value.ref b] s = true := fun w hw => htt w (wsL_law_in w hw)
  have hown : s.vm.findClass RL = some m.cls := hown
  obtain ⟨hG, hP, hPM, hS, hl⟩ := Z
  have hbA : ¬ gGe x0 b := fun z => by have z : x0 ≤ b := z; omega
  have h1 : vp_in (nI (4 * j) + 1) L := by rw [nI_1]; exact vp_in_nI (by omega) (by omega)
  have h2 : vp_in (nI (4 * j) + 2) L := by rw [nIa2]; exact vp_in_nI (by omega) (by omega)
  have h3 : vp_in (nI (4 * j) + 3) L := by rw [show nI (4 * j) + 3 = nI (4 * j + 3) from nI_add _ 3]; exact vp_in_nI (by omega) (by omega)
  obtain ⟨k, v, G1, w, M1, e1, e2, hk, hm, hv, hG1⟩ := o_bestLimit hG (xs (nI (4 * j) + 1).toNatClampNeg)
  refine lv_aload_n hx hb dL_law_1466 rfl (lv_at hl 1 rfl) ?_
  refine lv_aload_n hx hb dL_law_1467 rfl (lv_at hl 0 rfl) ?_
  refine lv_iload hx hb dL_law_1468 (lv_at hl 4 rfl) ?_
  refine lv_iconst (v := 1) hx hb dL_law_1470 (by decide) ?_
  refine lv_iadd hx hb dL_law_1471 ?_
  refine va_sld hx hb hX hbl hbA hS h1 dL_law_1472 ?_
  refine lv_aload_n hx hb dL_law_1473 rfl (lv_at hl 3 rfl) ?_
  refine va_calli (vx_runSW (As := [.ref x0, .int (xs (nI (4 * j) + 1).toNatClampNeg), .ref (x0 + 211)]) (rest := []) ⟨hx, hb, hml, hown, hts⟩ (kL_bestLimit l D cI cC cZ cQ cJ t x0 x0 (x0 + 211) G f (xs (nI (4 * j) + 1).toNatClampNeg) (by omega) (Nat.le_refl _) hlS e1 (hk.imp id (fun z => z.elim id (fun y => absurd rfl y.2)))) (vx_cwSW 3 hts gL_law_L_bestLimit rfl rfl rfl (by decide +kernel) ⟨Nat.le_of_ble_eq_true rfl, Nat.le_of_ble_eq_true rfl⟩) ⟨gBw_blind, fun U hU hW => ⟨rfl, ⟨by rw [hU]; exact hP, va_K.moved hW.alike hK⟩, by rw [hU]; exact gEnw.warm hW (gEnw_now hE hS (fun _ h9 => h9))⟩⟩ rfl rfl hl.1 rfl (lv_room (Nat.le_of_ble_eq_true rfl)) dL_law_1474 ⟨hc1, hc2⟩) hS (fun q9 _ h9 => lk_A h9) (fun q9 h9 => lk_A h9) (fun r u t9 H1 locs ht hvm hw hB hz hk1 hS => ?_)
  have hw : r = gm 1 9 k := hw
  have hP : va_P D vwCl (GWO cI cC cZ cQ cJ x0 (x0 + 211) G1 (if k = 0 then vp_updL f 0 v.toInt64 else f)) H1 := by rw [← ht]; exact hB
  have hPM := lk_M hPM hk1
  have hm : mRef M1 = r := hm.trans hw.symm
  have hf9 : k = 0 → (if k = 0 then vp_updL f 0 v.toInt64 else f) 0 = v.toInt64 := fun z => by rw [if_pos z]; exact pk_uLs
  generalize (if k = 0 then vp_updL f 0 v.toInt64 else f) = f9 at hP hf9
  generalize H1 = H at hP hPM hS ⊢
  refine lv_istore (lv' := [(5, .int r), (0, .ref b), (1, .ref x0), (2, .ref (x0 + 201)), (3, .ref (x0 + 211)), (4, .int (nI (4 * j)))]) hx hb dL_law_1477 hl (by decide) rfl (fun ls hl => ?_)
  refine lv_aload_n hx hb dL_law_1479 rfl (lv_at hl 3 rfl) ?_
  refine lv_aload_n hx hb dL_law_1480 rfl (lv_at hl 1 rfl) ?_
  refine lv_iload hx hb dL_law_1481 (lv_at hl 5 rfl) ?_
  refine lv_iconst (v := 1) hx hb dL_law_1483 (by decide) ?_
  refine lv_iadd hx hb dL_law_1484 ?_
  refine va_sld hx hb hX hbl hbA hS h1 dL_law_1485 ?_
  refine gc_wi (As := [.int (xs (nI (4 * j) + 1).toNatClampNeg)]) (rest := []) ⟨hx, hb, hml, hown, hts⟩ hK (kX5_bestLimit l D cI cC cZ cQ cJ (x0 + 201) M (xs (nI (4 * j) + 1).toNatClampNeg) e2) (cwV 1 hts gL_law_X5_bestLimit rfl rfl rfl (by decide +kernel) ⟨Nat.le_of_ble_eq_true rfl, Nat.le_of_ble_eq_true rfl⟩) (va_recv hK hPM (ci := 5) (q0 := 0) rfl rfl) hPM hS (fun q9 h9 => Nat.le_trans (Nat.le_add_right _ _) h9.1) rfl hl.1 rfl (Nat.le_of_ble_eq_true rfl) ⟨hc1, hc2⟩ dL_law_1486 (fun H1 locs hPM hS _ hk1 => ?_)
  have hP := lk_G hP hk1
  have hPM : va_P D vwCl (MW cI cZ (x0 + 201) M1) H1 := hPM
  generalize H1 = H at hP hPM hS ⊢
  refine lv_istore (lv' := [(6, .int w), (5, .int r), (0, .ref b), (1, .ref x0), (2, .ref (x0 + 201)), (3, .ref (x0 + 211)), (4, .int (nI (4 * j)))]) hx hb dL_law_1489 hl (by decide) rfl (fun ls hl => ?_)
  refine lv_aload_n hx hb dL_law_1491 rfl (lv_at hl 4 rfl) ?_
  refine gc_ri (v := mRef M1) (As := []) (rest := []) ⟨hx, hb, hml, hown, hts⟩ hK (kX5_thrown l D cI cC cZ cQ cJ (x0 + 201) M1 rfl) (cwV 0 hts gL_law_X5_thrown rfl rfl rfl (by decide +kernel) ⟨Nat.le_of_ble_eq_true rfl, Nat.le_of_ble_eq_true rfl⟩) (va_recv hK hPM (ci := 5) (q0 := 0) rfl rfl) hPM rfl hl.1 rfl (Nat.le_of_ble_eq_true rfl) ⟨hc1, hc2⟩ dL_law_1492 ?_
  refine lv_iload hx hb dL_law_1495 (lv_at hl 1 rfl) ?_
  refine lv_icmp_eq (tgt := 1502) hx hb dL_law_1497 (by decide) (fun _ => ?_) (fun z => absurd hm z)
  refine lv_iload hx hb dL_law_1502 (lv_at hl 1 rfl) ?_
  have fin : W p l e room_1 s m #[Value.ref b] below meth c H locs (cells + 1) (slots + 6) Q (F0 m 1519 ls []) := by
    refine lv_goto (tgt := 1847) hx hb dL_law_1519 (by decide) ?_
    exact kk G1 M1 f9 _ _ _ ⟨hG1, hP, hPM, hS, lv_sub hl [2, 3, 4, 5, 6] rfl⟩
  refine lv_if_ne (tgt := 1519) hx hb dL_law_1504 (by decide) (fun _ => fin) (fun z0 => ?_)
  have hk0 : k = 0 := gm_zero hk (hw.symm.trans z0)
  refine lv_aload_n hx hb dL_law_1507 rfl (lv_at hl 5 rfl) ?_
  refine lv_iconst (v := 0) hx hb dL_law_1508 (by decide) ?_
  refine va_lald (f := f9) (i := 0) hx hb hK hP 201 4 GWO_at rfl (vin_lit rfl) dL_law_1509 ?_
  refine lv_iload hx hb dL_law_1510 (lv_at hl 0 rfl) ?_
  refine lv_i2l hx hb dL_law_1512 rfl ?_
  refine W.lcmp hx hb dL_law_1513 ?_
  refine lv_if_eq (tgt := 1519) hx hb dL_law_1514 (by decide) (fun _ => fin) (fun z => absurd ?_ z)
  rw [show f9 (0 : Int32).toNatClampNeg = v.toInt64 from hf9 hk0, hv hk0]
  exact lg_cmp_self _
set_option maxHeartbeats 4000000 in
set_option maxRecDepth 100000 in
theorem lc_emptyAfter {l : Launch} {p : Program} {e : Env} {s : State} {m : MethodId} {below : List Frame} {meth : Method} {c : Code} {D : va_G} {cI cC cZ cQ cJ : ClassId} {t b L x0 j cells slots : Nat} {xs : Nat → Int32} {Q : State → Prop} (F : LFix l p s m meth c b L x0 xs D cI cC cZ cQ cJ t) (hj : 4 * j + 4 ≤ L) {G : GSt} {M : MSt} {f : Nat → Int64} {H : Heap} {locs : List Loc} {ls : Array Slot} (Z : LSta D cI cC cZ cQ cJ s b x0 G M f (nI (4 * j)) H locs ls) (hc1 : cells + 1 ≤ 601024) (hc2 : slots + 6 ≤ 7293034)
    (kk : ∀ (G : GSt) (M : MSt) (f : Nat → Int64) (H : Heap) (locs : List Loc) (ls : Array Slot), LSta D cI cC cZ cQ cJ s b x0 G M f (nI (4 * j)) H locs ls → W p l e room_1 s m #[Value.ref b] below meth c H locs (cells + 1) (slots + 6) Q (F0 m 1847 ls [])) : W p l e room_1 s m #[Value.ref b] below meth c H locs cells slots Q (F0 m 1522 ls []) := by
  obtain ⟨⟨hx, hb, hr, hml, hown, htt, hX, hbl, hlocks, hgv⟩, hK, hE, hlS, hL, hx0⟩ := F
  have hts : ∀ w ∈ wsL_law, w.before #[Value.ref b] s = true := fun w hw => htt w (wsL_law_in w hw)
  have hown : s.vm.findClass RL = some m.cls := hown
  obtain ⟨hG, hP, hPM, hS, hl⟩ := Z
  have hbA : ¬ gGe x0 b := fun z => by have z : x0 ≤ b := z; omega
  have h1 : vp_in (nI (4 * j) + 1) L := by rw [nI_1]; exact vp_in_nI (by omega) (by omega)
  have h2 : vp_in (nI (4 * j) + 2) L := by rw [nIa2]; exact vp_in_nI (by omega) (by omega)
  have h3 : vp_in (nI (4 * j) + 3) L := by rw [show nI (4 * j) + 3 = nI (4 * j + 3) from nI_add _ 3]; exact vp_in_nI (by omega) (by omega)
  obtain ⟨v, G1, M1, e1, e2, hG1⟩ := o_emptyAfter hG
  refine lv_aload_n hx hb dL_law_1522 rfl (lv_at hl 1 rfl) ?_
  refine gc_wi (v := v) (As := []) (rest := []) ⟨hx, hb, hml, hown, hts⟩ hK (kX4_emptyAfter l D cI cC cZ cQ cJ x0 G e1) (cwV 0 hts gL_law_X4_emptyAfter rfl rfl rfl (by decide +kernel) ⟨Nat.le_of_ble_eq_true rfl, Nat.le_of_ble_eq_true rfl⟩) (va_recv hK (gL (w1 := GW cI cC cZ cQ x0 G) hP) (ci := 4) (q0 := 0) rfl rfl) (gL (w1 := GW cI cC cZ cQ x0 G) hP) hS (fun q9 h9 => h9.1) rfl hl.1 rfl (Nat.le_of_ble_eq_true rfl) ⟨Nat.le_of_succ_le hc1, Nat.le_trans (Nat.le_add_right _ 6) hc2⟩ dL_law_1523 (fun H1 locs hPG hS _ hk1 => ?_)
  have hP : va_P D vwCl (GWO cI cC cZ cQ cJ x0 (x0 + 211) G1 f) H1 := GWO_put (by omega) hP hPG hk1
  have hPM := lk_M2 hPM hk1
  generalize H1 = H at hP hPM hS ⊢
  refine lv_aload_n hx hb dL_law_1526 rfl (lv_at hl 2 rfl) ?_
  refine gc_wi (v := v) (As := []) (rest := [.int v]) ⟨hx, hb, hml, hown, hts⟩ hK (kX5_emptyAfter l D cI cC cZ cQ cJ (x0 + 201) M e2) (cwV 0 hts gL_law_X5_emptyAfter rfl rfl rfl (by decide +kernel) ⟨Nat.le_of_ble_eq_true rfl, Nat.le_of_ble_eq_true rfl⟩) (va_recv hK hPM (ci := 5) (q0 := 0) rfl rfl) hPM hS (fun q9 h9 => Nat.le_trans (Nat.le_add_right _ _) h9.1) rfl hl.1 rfl (Nat.le_of_ble_eq_true rfl) ⟨Nat.le_of_succ_le hc1, Nat.le_trans (Nat.le_add_right _ 6) hc2⟩ dL_law_1527 (fun H1 locs hPM hS _ hk1 => ?_)
  have hP := lk_G hP hk1
  have hPM : va_P D vwCl (MW cI cZ (x0 + 201) M1) H1 := hPM
  generalize H1 = H at hP hPM hS ⊢
  exact lv_icmp_eq (tgt := 1847) hx hb dL_law_1530 (by decide) (fun _ => W.widen (k := cells + 1) (n := slots + 6) (Nat.le_succ _) (Nat.le_add_right _ _) (kk G1 M1 f _ _ _ ⟨hG1, hP, hPM, hS, hl⟩)) (fun z => absurd rfl z)
set_option maxHeartbeats 4000000 in
set_option maxRecDepth 100000 in
theorem lc_runScript {l : Launch} {p : Program} {e : Env} {s : State} {m : MethodId} {below : List Frame} {meth : Method} {c : Code} {D : va_G} {cI cC cZ cQ cJ : ClassId} {t b L x0 j cells slots : Nat} {xs : Nat → Int32} {Q : State → Prop} (F : LFix l p s m meth c b L x0 xs D cI cC cZ cQ cJ t) (hj : 4 * j + 4 ≤ L) {G : GSt} {M : MSt} {f : Nat → Int64} {H : Heap} {locs : List Loc} {ls : Array Slot} (Z : LSta D cI cC cZ cQ cJ s b x0 G M f (nI (4 * j)) H locs ls) (hc1 : cells + 1 ≤ 601024) (hc2 : slots + 6 ≤ 7293034)
    (kk : ∀ (G : GSt) (M : MSt) (f : Nat → Int64) (H : Heap) (locs : List Loc) (ls : Array Slot), LSta D cI cC cZ cQ cJ s b x0 G M f (nI (4 * j)) H locs ls → W p l e room_1 s m #[Value.ref b] below meth c H locs (cells + 1) (slots + 6) Q (F0 m 1847 ls [])) : W p l e room_1 s m #[Value.ref b] below meth c H locs cells slots Q (F0 m 1535 ls []) := by
  obtain ⟨⟨hx, hb, hr, hml, hown, htt, hX, hbl, hlocks, hgv⟩, hK, hE, hlS, hL, hx0⟩ := F
  have hts : ∀ w ∈ wsL_law, w.before #[Value.ref b] s = true := fun w hw => htt w (wsL_law_in w hw)
  have hown : s.vm.findClass RL = some m.cls := hown
  obtain ⟨hG, hP, hPM, hS, hl⟩ := Z
  have hbA : ¬ gGe x0 b := fun z => by have z : x0 ≤ b := z; omega
  have h1 : vp_in (nI (4 * j) + 1) L := by rw [nI_1]; exact vp_in_nI (by omega) (by omega)
  have h2 : vp_in (nI (4 * j) + 2) L := by rw [nIa2]; exact vp_in_nI (by omega) (by omega)
  have h3 : vp_in (nI (4 * j) + 3) L := by rw [show nI (4 * j) + 3 = nI (4 * j + 3) from nI_add _ 3]; exact vp_in_nI (by omega) (by omega)
  obtain ⟨k, v, G1, w, M1, e1, e2, hk, hm, hv, hG1⟩ := o_runScript hG (xs (nI (4 * j) + 1).toNatClampNeg) ((((xs (nI (4 * j) + 2).toNatClampNeg)).toInt64 <<< ((32 : Int32).toInt64 &&& 63)) ||| (((xs (nI (4 * j) + 3).toNatClampNeg)).toInt64 &&& 4294967295))
  refine lv_aload_n hx hb dL_law_1535 rfl (lv_at hl 1 rfl) ?_
  refine lv_aload_n hx hb dL_law_1536 rfl (lv_at hl 0 rfl) ?_
  refine lv_iload hx hb dL_law_1537 (lv_at hl 4 rfl) ?_
  refine lv_iconst (v := 1) hx hb dL_law_1539 (by decide) ?_
  refine lv_iadd hx hb dL_law_1540 ?_
  refine va_sld hx hb hX hbl hbA hS h1 dL_law_1541 ?_
  refine lv_aload_n hx hb dL_law_1542 rfl (lv_at hl 0 rfl) ?_
  refine lv_iload hx hb dL_law_1543 (lv_at hl 4 rfl) ?_
  refine lv_iconst (v := 2) hx hb dL_law_1545 (by decide) ?_
  refine lv_iadd hx hb dL_law_1546 ?_
  refine va_sld hx hb hX hbl hbA hS h2 dL_law_1547 ?_
  refine lv_i2l hx hb dL_law_1548 rfl ?_
  refine lv_bipush (v := 32) hx hb dL_law_1549 (by decide) ?_
  refine lv_lshl hx hb dL_law_1551 rfl ?_
  refine lv_aload_n hx hb dL_law_1552 rfl (lv_at hl 0 rfl) ?_
  refine lv_iload hx hb dL_law_1553 (lv_at hl 4 rfl) ?_
  refine lv_iconst (v := 3) hx hb dL_law_1555 (by decide) ?_
  refine lv_iadd hx hb dL_law_1556 ?_
  refine va_sld hx hb hX hbl hbA hS h3 dL_law_1557 ?_
  refine lv_i2l hx hb dL_law_1558 rfl ?_
  refine lv_ldc2 (v := 4294967295) hx hb hown (hts (.constantLong RL 158 (4294967295)) (by decide +kernel)) dL_law_1559 ?_
  refine lv_land hx hb dL_law_1562 ?_
  refine lv_lor hx hb dL_law_1563 ?_
  refine lv_aload_n hx hb dL_law_1564 rfl (lv_at hl 3 rfl) ?_
  refine va_calli (vx_runSW (As := [.ref x0, .int (xs (nI (4 * j) + 1).toNatClampNeg), .long ((((xs (nI (4 * j) + 2).toNatClampNeg)).toInt64 <<< ((32 : Int32).toInt64 &&& 63)) ||| (((xs (nI (4 * j) + 3).toNatClampNeg)).toInt64 &&& 4294967295)), .ref (x0 + 211)]) (rest := []) ⟨hx, hb, hml, hown, hts⟩ (kL_runScript l D cI cC cZ cQ cJ t x0 x0 (x0 + 211) G f (xs (nI (4 * j) + 1).toNatClampNeg) ((((xs (nI (4 * j) + 2).toNatClampNeg)).toInt64 <<< ((32 : Int32).toInt64 &&& 63)) ||| (((xs (nI (4 * j) + 3).toNatClampNeg)).toInt64 &&& 4294967295)) (by omega) (Nat.le_refl _) hlS e1 (hk.imp id (fun z => z.elim id (fun y => absurd rfl y.2)))) (vx_cwSW 4 hts gL_law_L_runScript rfl rfl rfl (by decide +kernel) ⟨Nat.le_of_ble_eq_true rfl, Nat.le_of_ble_eq_true rfl⟩) ⟨gBw_blind, fun U hU hW => ⟨rfl, ⟨by rw [hU]; exact hP, va_K.moved hW.alike hK⟩, by rw [hU]; exact gEnw.warm hW (gEnw_now hE hS (fun _ h9 => h9))⟩⟩ rfl rfl hl.1 rfl (lv_room (Nat.le_of_ble_eq_true rfl)) dL_law_1565 ⟨hc1, hc2⟩) hS (fun q9 _ h9 => lk_A h9) (fun q9 h9 => lk_A h9) (fun r u t9 H1 locs ht hvm hw hB hz hk1 hS => ?_)
  have hw : r = gm 1 9 k := hw
  have hP : va_P D vwCl (GWO cI cC cZ cQ cJ x0 (x0 + 211) G1 (if k = 0 then vp_updL f 0 v.toInt64 else f)) H1 := by rw [← ht]; exact hB
  have hPM := lk_M hPM hk1
  have hm : mRef M1 = r := hm.trans hw.symm
  have hf9 : k = 0 → (if k = 0 then vp_updL f 0 v.toInt64 else f) 0 = v.toInt64 := fun z => by rw [if_pos z]; exact pk_uLs
  generalize (if k = 0 then vp_updL f 0 v.toInt64 else f) = f9 at hP hf9
  generalize H1 = H at hP hPM hS ⊢
  refine lv_istore (lv' := [(5, .int r), (0, .ref b), (1, .ref x0), (2, .ref (x0 + 201)), (3, .ref (x0 + 211)), (4, .int (nI (4 * j)))]) hx hb dL_law_1568 hl (by decide) rfl (fun ls hl => ?_)
  refine lv_aload_n hx hb dL_law_1570 rfl (lv_at hl 3 rfl) ?_
  refine lv_aload_n hx hb dL_law_1571 rfl (lv_at hl 1 rfl) ?_
  refine lv_iload hx hb dL_law_1572 (lv_at hl 5 rfl) ?_
  refine lv_iconst (v := 1) hx hb dL_law_1574 (by decide) ?_
  refine lv_iadd hx hb dL_law_1575 ?_
  refine va_sld hx hb hX hbl hbA hS h1 dL_law_1576 ?_
  refine lv_aload_n hx hb dL_law_1577 rfl (lv_at hl 1 rfl) ?_
  refine lv_iload hx hb dL_law_1578 (lv_at hl 5 rfl) ?_
  refine lv_iconst (v := 2) hx hb dL_law_1580 (by decide) ?_
  refine lv_iadd hx hb dL_law_1581 ?_
  refine va_sld hx hb hX hbl hbA hS h2 dL_law_1582 ?_
  refine lv_i2l hx hb dL_law_1583 rfl ?_
  refine lv_bipush (v := 32) hx hb dL_law_1584 (by decide) ?_
  refine lv_lshl hx hb dL_law_1586 rfl ?_
  refine lv_aload_n hx hb dL_law_1587 rfl (lv_at hl 1 rfl) ?_
  refine lv_iload hx hb dL_law_1588 (lv_at hl 5 rfl) ?_
  refine lv_iconst (v := 3) hx hb dL_law_1590 (by decide) ?_
  refine lv_iadd hx hb dL_law_1591 ?_
  refine va_sld hx hb hX hbl hbA hS h3 dL_law_1592 ?_
  refine lv_i2l hx hb dL_law_1593 rfl ?_
  refine lv_ldc2 (v := 4294967295) hx hb hown (hts (.constantLong RL 158 (4294967295)) (by decide +kernel)) dL_law_1594 ?_
  refine lv_land hx hb dL_law_1597 ?_
  refine lv_lor hx hb dL_law_1598 ?_
  refine gc_wi (As := [.int (xs (nI (4 * j) + 1).toNatClampNeg), .long ((((xs (nI (4 * j) + 2).toNatClampNeg)).toInt64 <<< ((32 : Int32).toInt64 &&& 63)) ||| (((xs (nI (4 * j) + 3).toNatClampNeg)).toInt64 &&& 4294967295))]) (rest := []) ⟨hx, hb, hml, hown, hts⟩ hK (kX5_runScript l D cI cC cZ cQ cJ (x0 + 201) M (xs (nI (4 * j) + 1).toNatClampNeg) ((((xs (nI (4 * j) + 2).toNatClampNeg)).toInt64 <<< ((32 : Int32).toInt64 &&& 63)) ||| (((xs (nI (4 * j) + 3).toNatClampNeg)).toInt64 &&& 4294967295)) e2) (cwV 2 hts gL_law_X5_runScript rfl rfl rfl (by decide +kernel) ⟨Nat.le_of_ble_eq_true rfl, Nat.le_of_ble_eq_true rfl⟩) (va_recv hK hPM (ci := 5) (q0 := 0) rfl rfl) hPM hS (fun q9 h9 => Nat.le_trans (Nat.le_add_right _ _) h9.1) rfl hl.1 rfl (Nat.le_of_ble_eq_true rfl) ⟨hc1, hc2⟩ dL_law_1599 (fun H1 locs hPM hS _ hk1 => ?_)
  have hP := lk_G hP hk1
  have hPM : va_P D vwCl (MW cI cZ (x0 + 201) M1) H1 := hPM
  generalize H1 = H at hP hPM hS ⊢
  refine lv_istore (lv' := [(6, .int w), (5, .int r), (0, .ref b), (1, .ref x0), (2, .ref (x0 + 201)), (3, .ref (x0 + 211)), (4, .int (nI (4 * j)))]) hx hb dL_law_1602 hl (by decide) rfl (fun ls hl => ?_)
  refine lv_aload_n hx hb dL_law_1604 rfl (lv_at hl 4 rfl) ?_
  refine gc_ri (v := mRef M1) (As := []) (rest := []) ⟨hx, hb, hml, hown, hts⟩ hK (kX5_thrown l D cI cC cZ cQ cJ (x0 + 201) M1 rfl) (cwV 0 hts gL_law_X5_thrown rfl rfl rfl (by decide +kernel) ⟨Nat.le_of_ble_eq_true rfl, Nat.le_of_ble_eq_true rfl⟩) (va_recv hK hPM (ci := 5) (q0 := 0) rfl rfl) hPM rfl hl.1 rfl (Nat.le_of_ble_eq_true rfl) ⟨hc1, hc2⟩ dL_law_1605 ?_
  refine lv_iload hx hb dL_law_1608 (lv_at hl 1 rfl) ?_
  refine lv_icmp_eq (tgt := 1615) hx hb dL_law_1610 (by decide) (fun _ => ?_) (fun z => absurd hm z)
  refine lv_iload hx hb dL_law_1615 (lv_at hl 1 rfl) ?_
  have fin : W p l e room_1 s m #[Value.ref b] below meth c H locs (cells + 1) (slots + 6) Q (F0 m 1632 ls []) := by
    refine lv_goto (tgt := 1847) hx hb dL_law_1632 (by decide) ?_
    exact kk G1 M1 f9 _ _ _ ⟨hG1, hP, hPM, hS, lv_sub hl [2, 3, 4, 5, 6] rfl⟩
  refine lv_if_ne (tgt := 1632) hx hb dL_law_1617 (by decide) (fun _ => fin) (fun z0 => ?_)
  have hk0 : k = 0 := gm_zero hk (hw.symm.trans z0)
  refine lv_aload_n hx hb dL_law_1620 rfl (lv_at hl 5 rfl) ?_
  refine lv_iconst (v := 0) hx hb dL_law_1621 (by decide) ?_
  refine va_lald (f := f9) (i := 0) hx hb hK hP 201 4 GWO_at rfl (vin_lit rfl) dL_law_1622 ?_
  refine lv_iload hx hb dL_law_1623 (lv_at hl 0 rfl) ?_
  refine lv_i2l hx hb dL_law_1625 rfl ?_
  refine W.lcmp hx hb dL_law_1626 ?_
  refine lv_if_eq (tgt := 1632) hx hb dL_law_1627 (by decide) (fun _ => fin) (fun z => absurd ?_ z)
  rw [show f9 (0 : Int32).toNatClampNeg = v.toInt64 from hf9 hk0, hv hk0]
  exact lg_cmp_self _
set_option maxHeartbeats 4000000 in
set_option maxRecDepth 100000 in
theorem lc_simulate {l : Launch} {p : Program} {e : Env} {s : State} {m : MethodId} {below : List Frame} {meth : Method} {c : Code} {D : va_G} {cI cC cZ cQ cJ : ClassId} {t b L x0 j cells slots : Nat} {xs : Nat → Int32} {Q : State → Prop} (F : LFix l p s m meth c b L x0 xs D cI cC cZ cQ cJ t) (hj : 4 * j + 4 ≤ L) {G : GSt} {M : MSt} {f : Nat → Int64} {H : Heap} {locs : List Loc} {ls : Array Slot} (Z : LSta D cI cC cZ cQ cJ s b x0 G M f (nI (4 * j)) H locs ls) (hc1 : cells + 1 ≤ 601024) (hc2 : slots + 6 ≤ 7293034)
    (kk : ∀ (G : GSt) (M : MSt) (f : Nat → Int64) (H : Heap) (locs : List Loc) (ls : Array Slot), LSta D cI cC cZ cQ cJ s b x0 G M f (nI (4 * j)) H locs ls → W p l e room_1 s m #[Value.ref b] below meth c H locs (cells + 1) (slots + 6) Q (F0 m 1847 ls [])) : W p l e room_1 s m #[Value.ref b] below meth c H locs cells slots Q (F0 m 1635 ls []) := by
  obtain ⟨⟨hx, hb, hr, hml, hown, htt, hX, hbl, hlocks, hgv⟩, hK, hE, hlS, hL, hx0⟩ := F
  have hts : ∀ w ∈ wsL_law, w.before #[Value.ref b] s = true := fun w hw => htt w (wsL_law_in w hw)
  have hown : s.vm.findClass RL = some m.cls := hown
  obtain ⟨hG, hP, hPM, hS, hl⟩ := Z
  have hbA : ¬ gGe x0 b := fun z => by have z : x0 ≤ b := z; omega
  have h1 : vp_in (nI (4 * j) + 1) L := by rw [nI_1]; exact vp_in_nI (by omega) (by omega)
  have h2 : vp_in (nI (4 * j) + 2) L := by rw [nIa2]; exact vp_in_nI (by omega) (by omega)
  have h3 : vp_in (nI (4 * j) + 3) L := by rw [show nI (4 * j) + 3 = nI (4 * j + 3) from nI_add _ 3]; exact vp_in_nI (by omega) (by omega)
  obtain ⟨k, v, G1, w, M1, e1, e2, hk, hm, hv, hG1⟩ := o_simulate hG ((((xs (nI (4 * j) + 1).toNatClampNeg)).toInt64 <<< ((32 : Int32).toInt64 &&& 63)) ||| (((xs (nI (4 * j) + 2).toNatClampNeg)).toInt64 &&& 4294967295)) (xs (nI (4 * j) + 3).toNatClampNeg)
  refine lv_aload_n hx hb dL_law_1635 rfl (lv_at hl 1 rfl) ?_
  refine lv_aload_n hx hb dL_law_1636 rfl (lv_at hl 0 rfl) ?_
  refine lv_iload hx hb dL_law_1637 (lv_at hl 4 rfl) ?_
  refine lv_iconst (v := 1) hx hb dL_law_1639 (by decide) ?_
  refine lv_iadd hx hb dL_law_1640 ?_
  refine va_sld hx hb hX hbl hbA hS h1 dL_law_1641 ?_
  refine lv_i2l hx hb dL_law_1642 rfl ?_
  refine lv_bipush (v := 32) hx hb dL_law_1643 (by decide) ?_
  refine lv_lshl hx hb dL_law_1645 rfl ?_
  refine lv_aload_n hx hb dL_law_1646 rfl (lv_at hl 0 rfl) ?_
  refine lv_iload hx hb dL_law_1647 (lv_at hl 4 rfl) ?_
  refine lv_iconst (v := 2) hx hb dL_law_1649 (by decide) ?_
  refine lv_iadd hx hb dL_law_1650 ?_
  refine va_sld hx hb hX hbl hbA hS h2 dL_law_1651 ?_
  refine lv_i2l hx hb dL_law_1652 rfl ?_
  refine lv_ldc2 (v := 4294967295) hx hb hown (hts (.constantLong RL 158 (4294967295)) (by decide +kernel)) dL_law_1653 ?_
  refine lv_land hx hb dL_law_1656 ?_
  refine lv_lor hx hb dL_law_1657 ?_
  refine lv_aload_n hx hb dL_law_1658 rfl (lv_at hl 0 rfl) ?_
  refine lv_iload hx hb dL_law_1659 (lv_at hl 4 rfl) ?_
  refine lv_iconst (v := 3) hx hb dL_law_1661 (by decide) ?_
  refine lv_iadd hx hb dL_law_1662 ?_
  refine va_sld hx hb hX hbl hbA hS h3 dL_law_1663 ?_
  refine lv_aload_n hx hb dL_law_1664 rfl (lv_at hl 3 rfl) ?_
  refine va_calli (vx_runSW (As := [.ref x0, .long ((((xs (nI (4 * j) + 1).toNatClampNeg)).toInt64 <<< ((32 : Int32).toInt64 &&& 63)) ||| (((xs (nI (4 * j) + 2).toNatClampNeg)).toInt64 &&& 4294967295)), .int (xs (nI (4 * j) + 3).toNatClampNeg), .ref (x0 + 211)]) (rest := []) ⟨hx, hb, hml, hown, hts⟩ (kL_simulate l D cI cC cZ cQ cJ t x0 x0 (x0 + 211) G f ((((xs (nI (4 * j) + 1).toNatClampNeg)).toInt64 <<< ((32 : Int32).toInt64 &&& 63)) ||| (((xs (nI (4 * j) + 2).toNatClampNeg)).toInt64 &&& 4294967295)) (xs (nI (4 * j) + 3).toNatClampNeg) (by omega) (Nat.le_refl _) hlS e1 (hk.imp id (fun z => z.elim id (fun y => absurd rfl y.2)))) (vx_cwSW 4 hts gL_law_L_simulate rfl rfl rfl (by decide +kernel) ⟨Nat.le_of_ble_eq_true rfl, Nat.le_of_ble_eq_true rfl⟩) ⟨gBw_blind, fun U hU hW => ⟨rfl, ⟨by rw [hU]; exact hP, va_K.moved hW.alike hK⟩, by rw [hU]; exact gEnw.warm hW (gEnw_now hE hS (fun _ h9 => h9))⟩⟩ rfl rfl hl.1 rfl (lv_room (Nat.le_of_ble_eq_true rfl)) dL_law_1665 ⟨hc1, hc2⟩) hS (fun q9 _ h9 => lk_A h9) (fun q9 h9 => lk_A h9) (fun r u t9 H1 locs ht hvm hw hB hz hk1 hS => ?_)
  have hw : r = gm 1 9 k := hw
  have hP : va_P D vwCl (GWO cI cC cZ cQ cJ x0 (x0 + 211) G1 (if k = 0 then vp_updL f 0 v.toInt64 else f)) H1 := by rw [← ht]; exact hB
  have hPM := lk_M hPM hk1
  have hm : mRef M1 = r := hm.trans hw.symm
  have hf9 : k = 0 → (if k = 0 then vp_updL f 0 v.toInt64 else f) 0 = v.toInt64 := fun z => by rw [if_pos z]; exact pk_uLs
  generalize (if k = 0 then vp_updL f 0 v.toInt64 else f) = f9 at hP hf9
  generalize H1 = H at hP hPM hS ⊢
  refine lv_istore (lv' := [(5, .int r), (0, .ref b), (1, .ref x0), (2, .ref (x0 + 201)), (3, .ref (x0 + 211)), (4, .int (nI (4 * j)))]) hx hb dL_law_1668 hl (by decide) rfl (fun ls hl => ?_)
  refine lv_aload_n hx hb dL_law_1670 rfl (lv_at hl 3 rfl) ?_
  refine lv_aload_n hx hb dL_law_1671 rfl (lv_at hl 1 rfl) ?_
  refine lv_iload hx hb dL_law_1672 (lv_at hl 5 rfl) ?_
  refine lv_iconst (v := 1) hx hb dL_law_1674 (by decide) ?_
  refine lv_iadd hx hb dL_law_1675 ?_
  refine va_sld hx hb hX hbl hbA hS h1 dL_law_1676 ?_
  refine lv_i2l hx hb dL_law_1677 rfl ?_
  refine lv_bipush (v := 32) hx hb dL_law_1678 (by decide) ?_
  refine lv_lshl hx hb dL_law_1680 rfl ?_
  refine lv_aload_n hx hb dL_law_1681 rfl (lv_at hl 1 rfl) ?_
  refine lv_iload hx hb dL_law_1682 (lv_at hl 5 rfl) ?_
  refine lv_iconst (v := 2) hx hb dL_law_1684 (by decide) ?_
  refine lv_iadd hx hb dL_law_1685 ?_
  refine va_sld hx hb hX hbl hbA hS h2 dL_law_1686 ?_
  refine lv_i2l hx hb dL_law_1687 rfl ?_
  refine lv_ldc2 (v := 4294967295) hx hb hown (hts (.constantLong RL 158 (4294967295)) (by decide +kernel)) dL_law_1688 ?_
  refine lv_land hx hb dL_law_1691 ?_
  refine lv_lor hx hb dL_law_1692 ?_
  refine lv_aload_n hx hb dL_law_1693 rfl (lv_at hl 1 rfl) ?_
  refine lv_iload hx hb dL_law_1694 (lv_at hl 5 rfl) ?_
  refine lv_iconst (v := 3) hx hb dL_law_1696 (by decide) ?_
  refine lv_iadd hx hb dL_law_1697 ?_
  refine va_sld hx hb hX hbl hbA hS h3 dL_law_1698 ?_
  refine gc_wi (As := [.long ((((xs (nI (4 * j) + 1).toNatClampNeg)).toInt64 <<< ((32 : Int32).toInt64 &&& 63)) ||| (((xs (nI (4 * j) + 2).toNatClampNeg)).toInt64 &&& 4294967295)), .int (xs (nI (4 * j) + 3).toNatClampNeg)]) (rest := []) ⟨hx, hb, hml, hown, hts⟩ hK (kX5_simulate l D cI cC cZ cQ cJ (x0 + 201) M ((((xs (nI (4 * j) + 1).toNatClampNeg)).toInt64 <<< ((32 : Int32).toInt64 &&& 63)) ||| (((xs (nI (4 * j) + 2).toNatClampNeg)).toInt64 &&& 4294967295)) (xs (nI (4 * j) + 3).toNatClampNeg) e2) (cwV 2 hts gL_law_X5_simulate rfl rfl rfl (by decide +kernel) ⟨Nat.le_of_ble_eq_true rfl, Nat.le_of_ble_eq_true rfl⟩) (va_recv hK hPM (ci := 5) (q0 := 0) rfl rfl) hPM hS (fun q9 h9 => Nat.le_trans (Nat.le_add_right _ _) h9.1) rfl hl.1 rfl (Nat.le_of_ble_eq_true rfl) ⟨hc1, hc2⟩ dL_law_1699 (fun H1 locs hPM hS _ hk1 => ?_)
  have hP := lk_G hP hk1
  have hPM : va_P D vwCl (MW cI cZ (x0 + 201) M1) H1 := hPM
  generalize H1 = H at hP hPM hS ⊢
  refine lv_istore (lv' := [(6, .int w), (5, .int r), (0, .ref b), (1, .ref x0), (2, .ref (x0 + 201)), (3, .ref (x0 + 211)), (4, .int (nI (4 * j)))]) hx hb dL_law_1702 hl (by decide) rfl (fun ls hl => ?_)
  refine lv_aload_n hx hb dL_law_1704 rfl (lv_at hl 4 rfl) ?_
  refine gc_ri (v := mRef M1) (As := []) (rest := []) ⟨hx, hb, hml, hown, hts⟩ hK (kX5_thrown l D cI cC cZ cQ cJ (x0 + 201) M1 rfl) (cwV 0 hts gL_law_X5_thrown rfl rfl rfl (by decide +kernel) ⟨Nat.le_of_ble_eq_true rfl, Nat.le_of_ble_eq_true rfl⟩) (va_recv hK hPM (ci := 5) (q0 := 0) rfl rfl) hPM rfl hl.1 rfl (Nat.le_of_ble_eq_true rfl) ⟨hc1, hc2⟩ dL_law_1705 ?_
  refine lv_iload hx hb dL_law_1708 (lv_at hl 1 rfl) ?_
  refine lv_icmp_eq (tgt := 1715) hx hb dL_law_1710 (by decide) (fun _ => ?_) (fun z => absurd hm z)
  refine lv_iload hx hb dL_law_1715 (lv_at hl 1 rfl) ?_
  have fin : W p l e room_1 s m #[Value.ref b] below meth c H locs (cells + 1) (slots + 6) Q (F0 m 1732 ls []) := by
    refine lv_goto (tgt := 1847) hx hb dL_law_1732 (by decide) ?_
    exact kk G1 M1 f9 _ _ _ ⟨hG1, hP, hPM, hS, lv_sub hl [2, 3, 4, 5, 6] rfl⟩
  refine lv_if_ne (tgt := 1732) hx hb dL_law_1717 (by decide) (fun _ => fin) (fun z0 => ?_)
  have hk0 : k = 0 := gm_zero hk (hw.symm.trans z0)
  refine lv_aload_n hx hb dL_law_1720 rfl (lv_at hl 5 rfl) ?_
  refine lv_iconst (v := 0) hx hb dL_law_1721 (by decide) ?_
  refine va_lald (f := f9) (i := 0) hx hb hK hP 201 4 GWO_at rfl (vin_lit rfl) dL_law_1722 ?_
  refine lv_iload hx hb dL_law_1723 (lv_at hl 0 rfl) ?_
  refine lv_i2l hx hb dL_law_1725 rfl ?_
  refine W.lcmp hx hb dL_law_1726 ?_
  refine lv_if_eq (tgt := 1732) hx hb dL_law_1727 (by decide) (fun _ => fin) (fun z => absurd ?_ z)
  rw [show f9 (0 : Int32).toNatClampNeg = v.toInt64 from hf9 hk0, hv hk0]
  exact lg_cmp_self _
set_option maxHeartbeats 4000000 in
set_option maxRecDepth 100000 in
theorem lc_save {l : Launch} {p : Program} {e : Env} {s : State} {m : MethodId} {below : List Frame} {meth : Method} {c : Code} {D : va_G} {cI cC cZ cQ cJ : ClassId} {t b L x0 j cells slots : Nat} {xs : Nat → Int32} {Q : State → Prop} (F : LFix l p s m meth c b L x0 xs D cI cC cZ cQ cJ t) (hj : 4 * j + 4 ≤ L) {G : GSt} {M : MSt} {f : Nat → Int64} {H : Heap} {locs : List Loc} {ls : Array Slot} (Z : LSta D cI cC cZ cQ cJ s b x0 G M f (nI (4 * j)) H locs ls) (hc1 : cells + 1 ≤ 601024) (hc2 : slots + 6 ≤ 7293034)
    (kk : ∀ (G : GSt) (M : MSt) (f : Nat → Int64) (H : Heap) (locs : List Loc) (ls : Array Slot), LSta D cI cC cZ cQ cJ s b x0 G M f (nI (4 * j)) H locs ls → W p l e room_1 s m #[Value.ref b] below meth c H locs (cells + 1) (slots + 6) Q (F0 m 1847 ls [])) : W p l e room_1 s m #[Value.ref b] below meth c H locs cells slots Q (F0 m 1735 ls []) := by
  obtain ⟨⟨hx, hb, hr, hml, hown, htt, hX, hbl, hlocks, hgv⟩, hK, hE, hlS, hL, hx0⟩ := F
  have hts : ∀ w ∈ wsL_law, w.before #[Value.ref b] s = true := fun w hw => htt w (wsL_law_in w hw)
  have hown : s.vm.findClass RL = some m.cls := hown
  obtain ⟨hG, hP, hPM, hS, hl⟩ := Z
  have hbA : ¬ gGe x0 b := fun z => by have z : x0 ≤ b := z; omega
  have h1 : vp_in (nI (4 * j) + 1) L := by rw [nI_1]; exact vp_in_nI (by omega) (by omega)
  have h2 : vp_in (nI (4 * j) + 2) L := by rw [nIa2]; exact vp_in_nI (by omega) (by omega)
  have h3 : vp_in (nI (4 * j) + 3) L := by rw [show nI (4 * j) + 3 = nI (4 * j + 3) from nI_add _ 3]; exact vp_in_nI (by omega) (by omega)
  obtain ⟨k, v, G1, w, M1, e1, e2, hk, hm, hv, hG1⟩ := o_save hG (xs (nI (4 * j) + 1).toNatClampNeg)
  refine lv_aload_n hx hb dL_law_1735 rfl (lv_at hl 1 rfl) ?_
  refine lv_aload_n hx hb dL_law_1736 rfl (lv_at hl 0 rfl) ?_
  refine lv_iload hx hb dL_law_1737 (lv_at hl 4 rfl) ?_
  refine lv_iconst (v := 1) hx hb dL_law_1739 (by decide) ?_
  refine lv_iadd hx hb dL_law_1740 ?_
  refine va_sld hx hb hX hbl hbA hS h1 dL_law_1741 ?_
  refine lv_aload_n hx hb dL_law_1742 rfl (lv_at hl 3 rfl) ?_
  refine va_calli (vx_runSW (As := [.ref x0, .int (xs (nI (4 * j) + 1).toNatClampNeg), .ref (x0 + 211)]) (rest := []) ⟨hx, hb, hml, hown, hts⟩ (kL_save l D cI cC cZ cQ cJ t x0 x0 (x0 + 211) G f (xs (nI (4 * j) + 1).toNatClampNeg) (by omega) (Nat.le_refl _) hlS e1 (hk.imp id (fun z => z.elim id (fun y => absurd rfl y.2)))) (vx_cwSW 3 hts gL_law_L_save rfl rfl rfl (by decide +kernel) ⟨Nat.le_of_ble_eq_true rfl, Nat.le_of_ble_eq_true rfl⟩) ⟨gBw_blind, fun U hU hW => ⟨rfl, ⟨by rw [hU]; exact hP, va_K.moved hW.alike hK⟩, by rw [hU]; exact gEnw.warm hW (gEnw_now hE hS (fun _ h9 => h9))⟩⟩ rfl rfl hl.1 rfl (lv_room (Nat.le_of_ble_eq_true rfl)) dL_law_1743 ⟨hc1, hc2⟩) hS (fun q9 _ h9 => lk_A h9) (fun q9 h9 => lk_A h9) (fun r u t9 H1 locs ht hvm hw hB hz hk1 hS => ?_)
  have hw : r = gm 3 9 k := hw
  have hP : va_P D vwCl (GWO cI cC cZ cQ cJ x0 (x0 + 211) G1 (if k = 0 then vp_updL f 0 v.toInt64 else f)) H1 := by rw [← ht]; exact hB
  have hPM := lk_M hPM hk1
  have hm : mRef M1 = r := hm.trans hw.symm
  have hf9 : k = 0 → (if k = 0 then vp_updL f 0 v.toInt64 else f) 0 = v.toInt64 := fun z => by rw [if_pos z]; exact pk_uLs
  generalize (if k = 0 then vp_updL f 0 v.toInt64 else f) = f9 at hP hf9
  generalize H1 = H at hP hPM hS ⊢
  refine lv_istore (lv' := [(5, .int r), (0, .ref b), (1, .ref x0), (2, .ref (x0 + 201)), (3, .ref (x0 + 211)), (4, .int (nI (4 * j)))]) hx hb dL_law_1746 hl (by decide) rfl (fun ls hl => ?_)
  refine lv_aload_n hx hb dL_law_1748 rfl (lv_at hl 3 rfl) ?_
  refine lv_aload_n hx hb dL_law_1749 rfl (lv_at hl 1 rfl) ?_
  refine lv_iload hx hb dL_law_1750 (lv_at hl 5 rfl) ?_
  refine lv_iconst (v := 1) hx hb dL_law_1752 (by decide) ?_
  refine lv_iadd hx hb dL_law_1753 ?_
  refine va_sld hx hb hX hbl hbA hS h1 dL_law_1754 ?_
  refine gc_wi (As := [.int (xs (nI (4 * j) + 1).toNatClampNeg)]) (rest := []) ⟨hx, hb, hml, hown, hts⟩ hK (kX5_save l D cI cC cZ cQ cJ (x0 + 201) M (xs (nI (4 * j) + 1).toNatClampNeg) e2) (cwV 1 hts gL_law_X5_save rfl rfl rfl (by decide +kernel) ⟨Nat.le_of_ble_eq_true rfl, Nat.le_of_ble_eq_true rfl⟩) (va_recv hK hPM (ci := 5) (q0 := 0) rfl rfl) hPM hS (fun q9 h9 => Nat.le_trans (Nat.le_add_right _ _) h9.1) rfl hl.1 rfl (Nat.le_of_ble_eq_true rfl) ⟨hc1, hc2⟩ dL_law_1755 (fun H1 locs hPM hS _ hk1 => ?_)
  have hP := lk_G hP hk1
  have hPM : va_P D vwCl (MW cI cZ (x0 + 201) M1) H1 := hPM
  generalize H1 = H at hP hPM hS ⊢
  refine lv_istore (lv' := [(6, .int w), (5, .int r), (0, .ref b), (1, .ref x0), (2, .ref (x0 + 201)), (3, .ref (x0 + 211)), (4, .int (nI (4 * j)))]) hx hb dL_law_1758 hl (by decide) rfl (fun ls hl => ?_)
  refine lv_aload_n hx hb dL_law_1760 rfl (lv_at hl 4 rfl) ?_
  refine gc_ri (v := mRef M1) (As := []) (rest := []) ⟨hx, hb, hml, hown, hts⟩ hK (kX5_thrown l D cI cC cZ cQ cJ (x0 + 201) M1 rfl) (cwV 0 hts gL_law_X5_thrown rfl rfl rfl (by decide +kernel) ⟨Nat.le_of_ble_eq_true rfl, Nat.le_of_ble_eq_true rfl⟩) (va_recv hK hPM (ci := 5) (q0 := 0) rfl rfl) hPM rfl hl.1 rfl (Nat.le_of_ble_eq_true rfl) ⟨hc1, hc2⟩ dL_law_1761 ?_
  refine lv_iload hx hb dL_law_1764 (lv_at hl 1 rfl) ?_
  refine lv_icmp_eq (tgt := 1771) hx hb dL_law_1766 (by decide) (fun _ => ?_) (fun z => absurd hm z)
  refine lv_iload hx hb dL_law_1771 (lv_at hl 1 rfl) ?_
  have fin : W p l e room_1 s m #[Value.ref b] below meth c H locs (cells + 1) (slots + 6) Q (F0 m 1788 ls []) := by
    refine lv_goto (tgt := 1847) hx hb dL_law_1788 (by decide) ?_
    exact kk G1 M1 f9 _ _ _ ⟨hG1, hP, hPM, hS, lv_sub hl [2, 3, 4, 5, 6] rfl⟩
  refine lv_if_ne (tgt := 1788) hx hb dL_law_1773 (by decide) (fun _ => fin) (fun z0 => ?_)
  have hk0 : k = 0 := gm_zero hk (hw.symm.trans z0)
  refine lv_aload_n hx hb dL_law_1776 rfl (lv_at hl 5 rfl) ?_
  refine lv_iconst (v := 0) hx hb dL_law_1777 (by decide) ?_
  refine va_lald (f := f9) (i := 0) hx hb hK hP 201 4 GWO_at rfl (vin_lit rfl) dL_law_1778 ?_
  refine lv_iload hx hb dL_law_1779 (lv_at hl 0 rfl) ?_
  refine lv_i2l hx hb dL_law_1781 rfl ?_
  refine W.lcmp hx hb dL_law_1782 ?_
  refine lv_if_eq (tgt := 1788) hx hb dL_law_1783 (by decide) (fun _ => fin) (fun z => absurd ?_ z)
  rw [show f9 (0 : Int32).toNatClampNeg = v.toInt64 from hf9 hk0, hv hk0]
  exact lg_cmp_self _
set_option maxHeartbeats 4000000 in
set_option maxRecDepth 100000 in
theorem lc_restore {l : Launch} {p : Program} {e : Env} {s : State} {m : MethodId} {below : List Frame} {meth : Method} {c : Code} {D : va_G} {cI cC cZ cQ cJ : ClassId} {t b L x0 j cells slots : Nat} {xs : Nat → Int32} {Q : State → Prop} (F : LFix l p s m meth c b L x0 xs D cI cC cZ cQ cJ t) (hj : 4 * j + 4 ≤ L) {G : GSt} {M : MSt} {f : Nat → Int64} {H : Heap} {locs : List Loc} {ls : Array Slot} (Z : LSta D cI cC cZ cQ cJ s b x0 G M f (nI (4 * j)) H locs ls) (hc1 : cells + 1 ≤ 601024) (hc2 : slots + 6 ≤ 7293034)
    (kk : ∀ (G : GSt) (M : MSt) (f : Nat → Int64) (H : Heap) (locs : List Loc) (ls : Array Slot), LSta D cI cC cZ cQ cJ s b x0 G M f (nI (4 * j)) H locs ls → W p l e room_1 s m #[Value.ref b] below meth c H locs (cells + 1) (slots + 6) Q (F0 m 1847 ls [])) : W p l e room_1 s m #[Value.ref b] below meth c H locs cells slots Q (F0 m 1791 ls []) := by
  obtain ⟨⟨hx, hb, hr, hml, hown, htt, hX, hbl, hlocks, hgv⟩, hK, hE, hlS, hL, hx0⟩ := F
  have hts : ∀ w ∈ wsL_law, w.before #[Value.ref b] s = true := fun w hw => htt w (wsL_law_in w hw)
  have hown : s.vm.findClass RL = some m.cls := hown
  obtain ⟨hG, hP, hPM, hS, hl⟩ := Z
  have hbA : ¬ gGe x0 b := fun z => by have z : x0 ≤ b := z; omega
  have h1 : vp_in (nI (4 * j) + 1) L := by rw [nI_1]; exact vp_in_nI (by omega) (by omega)
  have h2 : vp_in (nI (4 * j) + 2) L := by rw [nIa2]; exact vp_in_nI (by omega) (by omega)
  have h3 : vp_in (nI (4 * j) + 3) L := by rw [show nI (4 * j) + 3 = nI (4 * j + 3) from nI_add _ 3]; exact vp_in_nI (by omega) (by omega)
  obtain ⟨k, v, G1, w, M1, e1, e2, hk, hm, hv, hG1⟩ := o_restore hG (xs (nI (4 * j) + 1).toNatClampNeg)
  refine lv_aload_n hx hb dL_law_1791 rfl (lv_at hl 1 rfl) ?_
  refine lv_aload_n hx hb dL_law_1792 rfl (lv_at hl 0 rfl) ?_
  refine lv_iload hx hb dL_law_1793 (lv_at hl 4 rfl) ?_
  refine lv_iconst (v := 1) hx hb dL_law_1795 (by decide) ?_
  refine lv_iadd hx hb dL_law_1796 ?_
  refine va_sld hx hb hX hbl hbA hS h1 dL_law_1797 ?_
  refine lv_aload_n hx hb dL_law_1798 rfl (lv_at hl 3 rfl) ?_
  refine va_calli (vx_runSW (As := [.ref x0, .int (xs (nI (4 * j) + 1).toNatClampNeg), .ref (x0 + 211)]) (rest := []) ⟨hx, hb, hml, hown, hts⟩ (kL_restore l D cI cC cZ cQ cJ t x0 x0 (x0 + 211) G f (xs (nI (4 * j) + 1).toNatClampNeg) (by omega) (Nat.le_refl _) hlS e1 (hk.imp id (fun z => z.imp id And.left))) (vx_cwSW 3 hts gL_law_L_restore rfl rfl rfl (by decide +kernel) ⟨Nat.le_of_ble_eq_true rfl, Nat.le_of_ble_eq_true rfl⟩) ⟨gBw_blind, fun U hU hW => ⟨rfl, ⟨by rw [hU]; exact hP, va_K.moved hW.alike hK⟩, by rw [hU]; exact gEnw.warm hW (gEnw_now hE hS (fun _ h9 => h9))⟩⟩ rfl rfl hl.1 rfl (lv_room (Nat.le_of_ble_eq_true rfl)) dL_law_1799 ⟨hc1, hc2⟩) hS (fun q9 _ h9 => lk_A h9) (fun q9 h9 => lk_A h9) (fun r u t9 H1 locs ht hvm hw hB hz hk1 hS => ?_)
  have hw : r = gm 3 2 k := hw
  have hP : va_P D vwCl (GWO cI cC cZ cQ cJ x0 (x0 + 211) G1 (if k = 0 then vp_updL f 0 v.toInt64 else f)) H1 := by rw [← ht]; exact hB
  have hPM := lk_M hPM hk1
  have hm : mRef M1 = r := hm.trans hw.symm
  have hf9 : k = 0 → (if k = 0 then vp_updL f 0 v.toInt64 else f) 0 = v.toInt64 := fun z => by rw [if_pos z]; exact pk_uLs
  generalize (if k = 0 then vp_updL f 0 v.toInt64 else f) = f9 at hP hf9
  generalize H1 = H at hP hPM hS ⊢
  refine lv_istore (lv' := [(5, .int r), (0, .ref b), (1, .ref x0), (2, .ref (x0 + 201)), (3, .ref (x0 + 211)), (4, .int (nI (4 * j)))]) hx hb dL_law_1802 hl (by decide) rfl (fun ls hl => ?_)
  refine lv_aload_n hx hb dL_law_1804 rfl (lv_at hl 3 rfl) ?_
  refine lv_aload_n hx hb dL_law_1805 rfl (lv_at hl 1 rfl) ?_
  refine lv_iload hx hb dL_law_1806 (lv_at hl 5 rfl) ?_
  refine lv_iconst (v := 1) hx hb dL_law_1808 (by decide) ?_
  refine lv_iadd hx hb dL_law_1809 ?_
  refine va_sld hx hb hX hbl hbA hS h1 dL_law_1810 ?_
  refine gc_wi (As := [.int (xs (nI (4 * j) + 1).toNatClampNeg)]) (rest := []) ⟨hx, hb, hml, hown, hts⟩ hK (kX5_restore l D cI cC cZ cQ cJ (x0 + 201) M (xs (nI (4 * j) + 1).toNatClampNeg) e2) (cwV 1 hts gL_law_X5_restore rfl rfl rfl (by decide +kernel) ⟨Nat.le_of_ble_eq_true rfl, Nat.le_of_ble_eq_true rfl⟩) (va_recv hK hPM (ci := 5) (q0 := 0) rfl rfl) hPM hS (fun q9 h9 => Nat.le_trans (Nat.le_add_right _ _) h9.1) rfl hl.1 rfl (Nat.le_of_ble_eq_true rfl) ⟨hc1, hc2⟩ dL_law_1811 (fun H1 locs hPM hS _ hk1 => ?_)
  have hP := lk_G hP hk1
  have hPM : va_P D vwCl (MW cI cZ (x0 + 201) M1) H1 := hPM
  generalize H1 = H at hP hPM hS ⊢
  refine lv_istore (lv' := [(6, .int w), (5, .int r), (0, .ref b), (1, .ref x0), (2, .ref (x0 + 201)), (3, .ref (x0 + 211)), (4, .int (nI (4 * j)))]) hx hb dL_law_1814 hl (by decide) rfl (fun ls hl => ?_)
  refine lv_aload_n hx hb dL_law_1816 rfl (lv_at hl 4 rfl) ?_
  refine gc_ri (v := mRef M1) (As := []) (rest := []) ⟨hx, hb, hml, hown, hts⟩ hK (kX5_thrown l D cI cC cZ cQ cJ (x0 + 201) M1 rfl) (cwV 0 hts gL_law_X5_thrown rfl rfl rfl (by decide +kernel) ⟨Nat.le_of_ble_eq_true rfl, Nat.le_of_ble_eq_true rfl⟩) (va_recv hK hPM (ci := 5) (q0 := 0) rfl rfl) hPM rfl hl.1 rfl (Nat.le_of_ble_eq_true rfl) ⟨hc1, hc2⟩ dL_law_1817 ?_
  refine lv_iload hx hb dL_law_1820 (lv_at hl 1 rfl) ?_
  refine lv_icmp_eq (tgt := 1827) hx hb dL_law_1822 (by decide) (fun _ => ?_) (fun z => absurd hm z)
  refine lv_iload hx hb dL_law_1827 (lv_at hl 1 rfl) ?_
  have fin : W p l e room_1 s m #[Value.ref b] below meth c H locs (cells + 1) (slots + 6) Q (F0 m 1844 ls []) := by
    refine lv_goto (tgt := 1847) hx hb dL_law_1844 (by decide) ?_
    exact kk G1 M1 f9 _ _ _ ⟨hG1, hP, hPM, hS, lv_sub hl [2, 3, 4, 5, 6] rfl⟩
  refine lv_if_ne (tgt := 1844) hx hb dL_law_1829 (by decide) (fun _ => fin) (fun z0 => ?_)
  have hk0 : k = 0 := gm_zero hk (hw.symm.trans z0)
  refine lv_aload_n hx hb dL_law_1832 rfl (lv_at hl 5 rfl) ?_
  refine lv_iconst (v := 0) hx hb dL_law_1833 (by decide) ?_
  refine va_lald (f := f9) (i := 0) hx hb hK hP 201 4 GWO_at rfl (vin_lit rfl) dL_law_1834 ?_
  refine lv_iload hx hb dL_law_1835 (lv_at hl 0 rfl) ?_
  refine lv_i2l hx hb dL_law_1837 rfl ?_
  refine W.lcmp hx hb dL_law_1838 ?_
  refine lv_if_eq (tgt := 1844) hx hb dL_law_1839 (by decide) (fun _ => fin) (fun z => absurd ?_ z)
  rw [show f9 (0 : Int32).toNatClampNeg = v.toInt64 from hf9 hk0, hv hk0]
  exact lg_cmp_self _

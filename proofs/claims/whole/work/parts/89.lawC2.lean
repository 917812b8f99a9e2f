set_option maxHeartbeats 4000000 in
set_option maxRecDepth 100000 in
theorem lc_report {l : Launch} {p : Program} {e : Env} {s : State} {m : MethodId} {below : List Frame} {meth : Method} {c : Code} {D : va_G} {cI cC cZ cQ cJ : ClassId} {t b L x0 j cells slots : Nat} {xs : Nat → Int32} {Q : State → Prop} (F : LFix l p s m meth c b L x0 xs D cI cC cZ cQ cJ t) (hj : 4 * j + 4 ≤ L) {G : GSt} {M : MSt} {f : Nat → Int64} {H : Heap} {locs : List Loc} {ls : Array Slot} (Z : LSta D cI cC cZ cQ cJ s b x0 G M f (nI (4 * j)) H locs ls) (hc1 : cells + 1 ≤ 601024) (hc2 : slots + 6 ≤ 7293034)
    (kk : ∀ (G : GSt) (M : MSt) (f : Nat → Int64) (H : Heap) (locs : List Loc) (ls : Array Slot), LSta D cI cC cZ cQ cJ s b x0 G M f (nI (4 * j)) H locs ls → W p l e room_1 s m #[Value.ref b] below meth c H locs (cells + 1) (slots + 6) Q (F0 m 1847 ls [])) : W p l e room_1 s m #[Value.ref b] below meth c H locs cells slots Q (F0 m 492 ls []) := by
  obtain ⟨⟨hx, hb, hr, hml, hown, htt, hX, hbl, hlocks, hgv⟩, hK, hE, hlS, hL, hx0⟩ := F
  have hts : ∀ w ∈ wsL_law, w.before #[Value.ref b] s = true := fun w hw => htt w (wsL_law_in w hw)
  have hown : s.vm.findClass RL = some m.cls := hown
  obtain ⟨hG, hP, hPM, hS, hl⟩ := Z
  have hbA : ¬ gGe x0 b := fun z => by have z : x0 ≤ b := z; omega
  have h1 : vp_in (nI (4 * j) + 1) L := by rw [nI_1]; exact vp_in_nI (by omega) (by omega)
  have h2 : vp_in (nI (4 * j) + 2) L := by rw [nIa2]; exact vp_in_nI (by omega) (by omega)
  have h3 : vp_in (nI (4 * j) + 3) L := by rw [show nI (4 * j) + 3 = nI (4 * j + 3) from nI_add _ 3]; exact vp_in_nI (by omega) (by omega)
  obtain ⟨k, v, G1, w, M1, e1, e2, hk, hm, hv, hG1⟩ := o_report hG (xs (nI (4 * j) + 1).toNatClampNeg)
  refine lv_aload_n hx hb dL_law_492 rfl (lv_at hl 1 rfl) ?_
  refine lv_aload_n hx hb dL_law_493 rfl (lv_at hl 0 rfl) ?_
  refine lv_iload hx hb dL_law_494 (lv_at hl 4 rfl) ?_
  refine lv_iconst (v := 1) hx hb dL_law_496 (by decide) ?_
  refine lv_iadd hx hb dL_law_497 ?_
  refine va_sld hx hb hX hbl hbA hS h1 dL_law_498 ?_
  refine lv_aload_n hx hb dL_law_499 rfl (lv_at hl 3 rfl) ?_
  refine va_calli (vx_runSW (As := [.ref x0, .int (xs (nI (4 * j) + 1).toNatClampNeg), .ref (x0 + 211)]) (rest := []) ⟨hx, hb, hml, hown, hts⟩ (kL_report l D cI cC cZ cQ cJ t x0 x0 (x0 + 211) G f (xs (nI (4 * j) + 1).toNatClampNeg) (by omega) (Nat.le_refl _) hlS e1 (hk.imp id (fun z => z.elim id (fun y => absurd rfl y.2)))) (vx_cwSW 3 hts gL_law_L_report rfl rfl rfl (by decide +kernel) ⟨Nat.le_of_ble_eq_true rfl, Nat.le_of_ble_eq_true rfl⟩) ⟨gBw_blind, fun U hU hW => ⟨rfl, ⟨by rw [hU]; exact hP, va_K.moved hW.alike hK⟩, by rw [hU]; exact gEnw.warm hW (gEnw_now hE hS (fun _ h9 => h9))⟩⟩ rfl rfl hl.1 rfl (lv_room (Nat.le_of_ble_eq_true rfl)) dL_law_500 ⟨hc1, hc2⟩) hS (fun q9 _ h9 => lk_A h9) (fun q9 h9 => lk_A h9) (fun r u t9 H1 locs ht hvm hw hB hz hk1 hS => ?_)
  have hw : r = gm 1 9 k := hw
  have hP : va_P D vwCl (GWO cI cC cZ cQ cJ x0 (x0 + 211) G1 (if k = 0 then vp_updL f 0 v.toInt64 else f)) H1 := by rw [← ht]; exact hB
  have hPM := lk_M hPM hk1
  have hm : mRef M1 = r := hm.trans hw.symm
  have hf9 : k = 0 → (if k = 0 then vp_updL f 0 v.toInt64 else f) 0 = v.toInt64 := fun z => by rw [if_pos z]; exact pk_uLs
  generalize (if k = 0 then vp_updL f 0 v.toInt64 else f) = f9 at hP hf9
  generalize H1 = H at hP hPM hS ⊢
  refine lv_istore (lv' := [(5, .int r), (0, .ref b), (1, .ref x0), (2, .ref (x0 + 201)), (3, .ref (x0 + 211)), (4, .int (nI (4 * j)))]) hx hb dL_law_503 hl (by decide) rfl (fun ls hl => ?_)
  refine lv_aload_n hx hb dL_law_505 rfl (lv_at hl 3 rfl) ?_
  refine lv_aload_n hx hb dL_law_506 rfl (lv_at hl 1 rfl) ?_
  refine lv_iload hx hb dL_law_507 (lv_at hl 5 rfl) ?_
  refine lv_iconst (v := 1) hx hb dL_law_509 (by decide) ?_
  refine lv_iadd hx hb dL_law_510 ?_
  refine va_sld hx hb hX hbl hbA hS h1 dL_law_511 ?_
  refine gc_wi (As := [.int (xs (nI (4 * j) + 1).toNatClampNeg)]) (rest := []) ⟨hx, hb, hml, hown, hts⟩ hK (kX5_report l D cI cC cZ cQ cJ (x0 + 201) M (xs (nI (4 * j) + 1).toNatClampNeg) e2) (cwV 1 hts gL_law_X5_report rfl rfl rfl (by decide +kernel) ⟨Nat.le_of_ble_eq_true rfl, Nat.le_of_ble_eq_true rfl⟩) (va_recv hK hPM (ci := 5) (q0 := 0) rfl rfl) hPM hS (fun q9 h9 => Nat.le_trans (Nat.le_add_right _ _) h9.1) rfl hl.1 rfl (Nat.le_of_ble_eq_true rfl) ⟨hc1, hc2⟩ dL_law_512 (fun H1 locs hPM hS _ hk1 => ?_)
  have hP := lk_G hP hk1
  have hPM : va_P D vwCl (MW cI cZ (x0 + 201) M1) H1 := hPM
  generalize H1 = H at hP hPM hS ⊢
  refine lv_istore (lv' := [(6, .int w), (5, .int r), (0, .ref b), (1, .ref x0), (2, .ref (x0 + 201)), (3, .ref (x0 + 211)), (4, .int (nI (4 * j)))]) hx hb dL_law_515 hl (by decide) rfl (fun ls hl => ?_)
  refine lv_aload_n hx hb dL_law_517 rfl (lv_at hl 4 rfl) ?_
  refine gc_ri (v := mRef M1) (As := []) (rest := []) ⟨hx, hb, hml, hown, hts⟩ hK (kX5_thrown l D cI cC cZ cQ cJ (x0 + 201) M1 rfl) (cwV 0 hts gL_law_X5_thrown rfl rfl rfl (by decide +kernel) ⟨Nat.le_of_ble_eq_true rfl, Nat.le_of_ble_eq_true rfl⟩) (va_recv hK hPM (ci := 5) (q0 := 0) rfl rfl) hPM rfl hl.1 rfl (Nat.le_of_ble_eq_true rfl) ⟨hc1, hc2⟩ dL_law_518 ?_
  refine lv_iload hx hb dL_law_521 (lv_at hl 1 rfl) ?_
  refine lv_icmp_eq (tgt := 528) hx hb dL_law_523 (by decide) (fun _ => ?_) (fun z => absurd hm z)
  refine lv_iload hx hb dL_law_528 (lv_at hl 1 rfl) ?_
  have fin : W p l e room_1 s m #[Value.ref b] below meth c H locs (cells + 1) (slots + 6) Q (F0 m 545 ls []) := by
    refine lv_goto (tgt := 1847) hx hb dL_law_545 (by decide) ?_
    exact kk G1 M1 f9 _ _ _ ⟨hG1, hP, hPM, hS, lv_sub hl [2, 3, 4, 5, 6] rfl⟩
  refine lv_if_ne (tgt := 545) hx hb dL_law_530 (by decide) (fun _ => fin) (fun z0 => ?_)
  have hk0 : k = 0 := gm_zero hk (hw.symm.trans z0)
  refine lv_aload_n hx hb dL_law_533 rfl (lv_at hl 5 rfl) ?_
  refine lv_iconst (v := 0) hx hb dL_law_534 (by decide) ?_
  refine va_lald (f := f9) (i := 0) hx hb hK hP 201 4 GWO_at rfl (vin_lit rfl) dL_law_535 ?_
  refine lv_iload hx hb dL_law_536 (lv_at hl 0 rfl) ?_
  refine lv_i2l hx hb dL_law_538 rfl ?_
  refine W.lcmp hx hb dL_law_539 ?_
  refine lv_if_eq (tgt := 545) hx hb dL_law_540 (by decide) (fun _ => fin) (fun z => absurd ?_ z)
  rw [show f9 (0 : Int32).toNatClampNeg = v.toInt64 from hf9 hk0, hv hk0]
  exact lg_cmp_self _
set_option maxHeartbeats 4000000 in
set_option maxRecDepth 100000 in
theorem lc_step {l : Launch} {p : Program} {e : Env} {s : State} {m : MethodId} {below : List Frame} {meth : Method} {c : Code} {D : va_G} {cI cC cZ cQ cJ : ClassId} {t b L x0 j cells slots : Nat} {xs : Nat → Int32} {Q : State → Prop} (F : LFix l p s m meth c b L x0 xs D cI cC cZ cQ cJ t) (hj : 4 * j + 4 ≤ L) {G : GSt} {M : MSt} {f : Nat → Int64} {H : Heap} {locs : List Loc} {ls : Array Slot} (Z : LSta D cI cC cZ cQ cJ s b x0 G M f (nI (4 * j)) H locs ls) (hc1 : cells + 1 ≤ 601024) (hc2 : slots + 6 ≤ 7293034)
    (kk : ∀ (G : GSt) (M : MSt) (f : Nat → Int64) (H : Heap) (locs : List Loc) (ls : Array Slot), LSta D cI cC cZ cQ cJ s b x0 G M f (nI (4 * j)) H locs ls → W p l e room_1 s m #[Value.ref b] below meth c H locs (cells + 1) (slots + 6) Q (F0 m 1847 ls [])) : W p l e room_1 s m #[Value.ref b] below meth c H locs cells slots Q (F0 m 548 ls []) := by
  obtain ⟨⟨hx, hb, hr, hml, hown, htt, hX, hbl, hlocks, hgv⟩, hK, hE, hlS, hL, hx0⟩ := F
  have hts : ∀ w ∈ wsL_law, w.before #[Value.ref b] s = true := fun w hw => htt w (wsL_law_in w hw)
  have hown : s.vm.findClass RL = some m.cls := hown
  obtain ⟨hG, hP, hPM, hS, hl⟩ := Z
  have hbA : ¬ gGe x0 b := fun z => by have z : x0 ≤ b := z; omega
  have h1 : vp_in (nI (4 * j) + 1) L := by rw [nI_1]; exact vp_in_nI (by omega) (by omega)
  have h2 : vp_in (nI (4 * j) + 2) L := by rw [nIa2]; exact vp_in_nI (by omega) (by omega)
  have h3 : vp_in (nI (4 * j) + 3) L := by rw [show nI (4 * j) + 3 = nI (4 * j + 3) from nI_add _ 3]; exact vp_in_nI (by omega) (by omega)
  obtain ⟨k, v, G1, w, M1, e1, e2, hk, hm, hv, hG1⟩ := o_step hG (xs (nI (4 * j) + 1).toNatClampNeg)
  refine lv_aload_n hx hb dL_law_548 rfl (lv_at hl 1 rfl) ?_
  refine lv_aload_n hx hb dL_law_549 rfl (lv_at hl 0 rfl) ?_
  refine lv_iload hx hb dL_law_550 (lv_at hl 4 rfl) ?_
  refine lv_iconst (v := 1) hx hb dL_law_552 (by decide) ?_
  refine lv_iadd hx hb dL_law_553 ?_
  refine va_sld hx hb hX hbl hbA hS h1 dL_law_554 ?_
  refine lv_aload_n hx hb dL_law_555 rfl (lv_at hl 3 rfl) ?_
  refine va_calli (vx_runSW (As := [.ref x0, .int (xs (nI (4 * j) + 1).toNatClampNeg), .ref (x0 + 211)]) (rest := []) ⟨hx, hb, hml, hown, hts⟩ (kL_step l D cI cC cZ cQ cJ t x0 x0 (x0 + 211) G f (xs (nI (4 * j) + 1).toNatClampNeg) (by omega) (Nat.le_refl _) hlS e1 (hk.imp id (fun z => z.elim id (fun y => absurd rfl y.2)))) (vx_cwSW 3 hts gL_law_L_step rfl rfl rfl (by decide +kernel) ⟨Nat.le_of_ble_eq_true rfl, Nat.le_of_ble_eq_true rfl⟩) ⟨gBw_blind, fun U hU hW => ⟨rfl, ⟨by rw [hU]; exact hP, va_K.moved hW.alike hK⟩, by rw [hU]; exact gEnw.warm hW (gEnw_now hE hS (fun _ h9 => h9))⟩⟩ rfl rfl hl.1 rfl (lv_room (Nat.le_of_ble_eq_true rfl)) dL_law_556 ⟨hc1, hc2⟩) hS (fun q9 _ h9 => lk_A h9) (fun q9 h9 => lk_A h9) (fun r u t9 H1 locs ht hvm hw hB hz hk1 hS => ?_)
  have hw : r = gm 1 9 k := hw
  have hP : va_P D vwCl (GWO cI cC cZ cQ cJ x0 (x0 + 211) G1 (if k = 0 then vp_updL f 0 v.toInt64 else f)) H1 := by rw [← ht]; exact hB
  have hPM := lk_M hPM hk1
  have hm : mRef M1 = r := hm.trans hw.symm
  have hf9 : k = 0 → (if k = 0 then vp_updL f 0 v.toInt64 else f) 0 = v.toInt64 := fun z => by rw [if_pos z]; exact pk_uLs
  generalize (if k = 0 then vp_updL f 0 v.toInt64 else f) = f9 at hP hf9
  generalize H1 = H at hP hPM hS ⊢
  refine lv_istore (lv' := [(5, .int r), (0, .ref b), (1, .ref x0), (2, .ref (x0 + 201)), (3, .ref (x0 + 211)), (4, .int (nI (4 * j)))]) hx hb dL_law_559 hl (by decide) rfl (fun ls hl => ?_)
  refine lv_aload_n hx hb dL_law_561 rfl (lv_at hl 3 rfl) ?_
  refine lv_aload_n hx hb dL_law_562 rfl (lv_at hl 1 rfl) ?_
  refine lv_iload hx hb dL_law_563 (lv_at hl 5 rfl) ?_
  refine lv_iconst (v := 1) hx hb dL_law_565 (by decide) ?_
  refine lv_iadd hx hb dL_law_566 ?_
  refine va_sld hx hb hX hbl hbA hS h1 dL_law_567 ?_
  refine gc_wi (As := [.int (xs (nI (4 * j) + 1).toNatClampNeg)]) (rest := []) ⟨hx, hb, hml, hown, hts⟩ hK (kX5_step l D cI cC cZ cQ cJ (x0 + 201) M (xs (nI (4 * j) + 1).toNatClampNeg) e2) (cwV 1 hts gL_law_X5_step rfl rfl rfl (by decide +kernel) ⟨Nat.le_of_ble_eq_true rfl, Nat.le_of_ble_eq_true rfl⟩) (va_recv hK hPM (ci := 5) (q0 := 0) rfl rfl) hPM hS (fun q9 h9 => Nat.le_trans (Nat.le_add_right _ _) h9.1) rfl hl.1 rfl (Nat.le_of_ble_eq_true rfl) ⟨hc1, hc2⟩ dL_law_568 (fun H1 locs hPM hS _ hk1 => ?_)
  have hP := lk_G hP hk1
  have hPM : va_P D vwCl (MW cI cZ (x0 + 201) M1) H1 := hPM
  generalize H1 = H at hP hPM hS ⊢
  refine lv_istore (lv' := [(6, .int w), (5, .int r), (0, .ref b), (1, .ref x0), (2, .ref (x0 + 201)), (3, .ref (x0 + 211)), (4, .int (nI (4 * j)))]) hx hb dL_law_571 hl (by decide) rfl (fun ls hl => ?_)
  refine lv_aload_n hx hb dL_law_573 rfl (lv_at hl 4 rfl) ?_
  refine gc_ri (v := mRef M1) (As := []) (rest := []) ⟨hx, hb, hml, hown, hts⟩ hK (kX5_thrown l D cI cC cZ cQ cJ (x0 + 201) M1 rfl) (cwV 0 hts gL_law_X5_thrown rfl rfl rfl (by decide +kernel) ⟨Nat.le_of_ble_eq_true rfl, Nat.le_of_ble_eq_true rfl⟩) (va_recv hK hPM (ci := 5) (q0 := 0) rfl rfl) hPM rfl hl.1 rfl (Nat.le_of_ble_eq_true rfl) ⟨hc1, hc2⟩ dL_law_574 ?_
  refine lv_iload hx hb dL_law_577 (lv_at hl 1 rfl) ?_
  refine lv_icmp_eq (tgt := 584) hx hb dL_law_579 (by decide) (fun _ => ?_) (fun z => absurd hm z)
  refine lv_iload hx hb dL_law_584 (lv_at hl 1 rfl) ?_
  have fin : W p l e room_1 s m #[Value.ref b] below meth c H locs (cells + 1) (slots + 6) Q (F0 m 601 ls []) := by
    refine lv_goto (tgt := 1847) hx hb dL_law_601 (by decide) ?_
    exact kk G1 M1 f9 _ _ _ ⟨hG1, hP, hPM, hS, lv_sub hl [2, 3, 4, 5, 6] rfl⟩
  refine lv_if_ne (tgt := 601) hx hb dL_law_586 (by decide) (fun _ => fin) (fun z0 => ?_)
  have hk0 : k = 0 := gm_zero hk (hw.symm.trans z0)
  refine lv_aload_n hx hb dL_law_589 rfl (lv_at hl 5 rfl) ?_
  refine lv_iconst (v := 0) hx hb dL_law_590 (by decide) ?_
  refine va_lald (f := f9) (i := 0) hx hb hK hP 201 4 GWO_at rfl (vin_lit rfl) dL_law_591 ?_
  refine lv_iload hx hb dL_law_592 (lv_at hl 0 rfl) ?_
  refine lv_i2l hx hb dL_law_594 rfl ?_
  refine W.lcmp hx hb dL_law_595 ?_
  refine lv_if_eq (tgt := 601) hx hb dL_law_596 (by decide) (fun _ => fin) (fun z => absurd ?_ z)
  rw [show f9 (0 : Int32).toNatClampNeg = v.toInt64 from hf9 hk0, hv hk0]
  exact lg_cmp_self _
set_option maxHeartbeats 4000000 in
set_option maxRecDepth 100000 in
theorem lc_addGrip {l : Launch} {p : Program} {e : Env} {s : State} {m : MethodId} {below : List Frame} {meth : Method} {c : Code} {D : va_G} {cI cC cZ cQ cJ : ClassId} {t b L x0 j cells slots : Nat} {xs : Nat → Int32} {Q : State → Prop} (F : LFix l p s m meth c b L x0 xs D cI cC cZ cQ cJ t) (hj : 4 * j + 4 ≤ L) {G : GSt} {M : MSt} {f : Nat → Int64} {H : Heap} {locs : List Loc} {ls : Array Slot} (Z : LSta D cI cC cZ cQ cJ s b x0 G M f (nI (4 * j)) H locs ls) (hc1 : cells + 1 ≤ 601024) (hc2 : slots + 6 ≤ 7293034)
    (kk : ∀ (G : GSt) (M : MSt) (f : Nat → Int64) (H : Heap) (locs : List Loc) (ls : Array Slot), LSta D cI cC cZ cQ cJ s b x0 G M f (nI (4 * j)) H locs ls → W p l e room_1 s m #[Value.ref b] below meth c H locs (cells + 1) (slots + 6) Q (F0 m 1847 ls [])) : W p l e room_1 s m #[Value.ref b] below meth c H locs cells slots Q (F0 m 604 ls []) := by
  obtain ⟨⟨hx, hb, hr, hml, hown, htt, hX, hbl, hlocks, hgv⟩, hK, hE, hlS, hL, hx0⟩ := F
  have hts : ∀ w ∈ wsL_law, w.before #[Value.ref b] s = true := fun w hw => htt w (wsL_law_in w hw)
  have hown : s.vm.findClass RL = some m.cls := hown
  obtain ⟨hG, hP, hPM, hS, hl⟩ := Z
  have hbA : ¬ gGe x0 b := fun z => by have z : x0 ≤ b := z; omega
  have h1 : vp_in (nI (4 * j) + 1) L := by rw [nI_1]; exact vp_in_nI (by omega) (by omega)
  have h2 : vp_in (nI (4 * j) + 2) L := by rw [nIa2]; exact vp_in_nI (by omega) (by omega)
  have h3 : vp_in (nI (4 * j) + 3) L := by rw [show nI (4 * j) + 3 = nI (4 * j + 3) from nI_add _ 3]; exact vp_in_nI (by omega) (by omega)
  obtain ⟨k, v, G1, w, M1, e1, e2, hk, hm, hv, hG1⟩ := o_addGrip hG (xs (nI (4 * j) + 1).toNatClampNeg)
  refine lv_aload_n hx hb dL_law_604 rfl (lv_at hl 1 rfl) ?_
  refine lv_aload_n hx hb dL_law_605 rfl (lv_at hl 0 rfl) ?_
  refine lv_iload hx hb dL_law_606 (lv_at hl 4 rfl) ?_
  refine lv_iconst (v := 1) hx hb dL_law_608 (by decide) ?_
  refine lv_iadd hx hb dL_law_609 ?_
  refine va_sld hx hb hX hbl hbA hS h1 dL_law_610 ?_
  refine lv_aload_n hx hb dL_law_611 rfl (lv_at hl 3 rfl) ?_
  refine va_calli (vx_runSW (As := [.ref x0, .int (xs (nI (4 * j) + 1).toNatClampNeg), .ref (x0 + 211)]) (rest := []) ⟨hx, hb, hml, hown, hts⟩ (kL_addGrip l D cI cC cZ cQ cJ t x0 x0 (x0 + 211) G f (xs (nI (4 * j) + 1).toNatClampNeg) (by omega) (Nat.le_refl _) hlS e1 (hk.imp id (fun z => z.imp id And.left))) (vx_cwSW 3 hts gL_law_L_addGrip rfl rfl rfl (by decide +kernel) ⟨Nat.le_of_ble_eq_true rfl, Nat.le_of_ble_eq_true rfl⟩) ⟨gBw_blind, fun U hU hW => ⟨rfl, ⟨by rw [hU]; exact hP, va_K.moved hW.alike hK⟩, by rw [hU]; exact gEnw.warm hW (gEnw_now hE hS (fun _ h9 => h9))⟩⟩ rfl rfl hl.1 rfl (lv_room (Nat.le_of_ble_eq_true rfl)) dL_law_612 ⟨hc1, hc2⟩) hS (fun q9 _ h9 => lk_A h9) (fun q9 h9 => lk_A h9) (fun r u t9 H1 locs ht hvm hw hB hz hk1 hS => ?_)
  have hw : r = gm 1 2 k := hw
  have hP : va_P D vwCl (GWO cI cC cZ cQ cJ x0 (x0 + 211) G1 (if k = 0 then vp_updL f 0 v.toInt64 else f)) H1 := by rw [← ht]; exact hB
  have hPM := lk_M hPM hk1
  have hm : mRef M1 = r := hm.trans hw.symm
  have hf9 : k = 0 → (if k = 0 then vp_updL f 0 v.toInt64 else f) 0 = v.toInt64 := fun z => by rw [if_pos z]; exact pk_uLs
  generalize (if k = 0 then vp_updL f 0 v.toInt64 else f) = f9 at hP hf9
  generalize H1 = H at hP hPM hS ⊢
  refine lv_istore (lv' := [(5, .int r), (0, .ref b), (1, .ref x0), (2, .ref (x0 + 201)), (3, .ref (x0 + 211)), (4, .int (nI (4 * j)))]) hx hb dL_law_615 hl (by decide) rfl (fun ls hl => ?_)
  refine lv_aload_n hx hb dL_law_617 rfl (lv_at hl 3 rfl) ?_
  refine lv_aload_n hx hb dL_law_618 rfl (lv_at hl 1 rfl) ?_
  refine lv_iload hx hb dL_law_619 (lv_at hl 5 rfl) ?_
  refine lv_iconst (v := 1) hx hb dL_law_621 (by decide) ?_
  refine lv_iadd hx hb dL_law_622 ?_
  refine va_sld hx hb hX hbl hbA hS h1 dL_law_623 ?_
  refine gc_wi (As := [.int (xs (nI (4 * j) + 1).toNatClampNeg)]) (rest := []) ⟨hx, hb, hml, hown, hts⟩ hK (kX5_addGrip l D cI cC cZ cQ cJ (x0 + 201) M (xs (nI (4 * j) + 1).toNatClampNeg) e2) (cwV 1 hts gL_law_X5_addGrip rfl rfl rfl (by decide +kernel) ⟨Nat.le_of_ble_eq_true rfl, Nat.le_of_ble_eq_true rfl⟩) (va_recv hK hPM (ci := 5) (q0 := 0) rfl rfl) hPM hS (fun q9 h9 => Nat.le_trans (Nat.le_add_right _ _) h9.1) rfl hl.1 rfl (Nat.le_of_ble_eq_true rfl) ⟨hc1, hc2⟩ dL_law_624 (fun H1 locs hPM hS _ hk1 => ?_)
  have hP := lk_G hP hk1
  have hPM : va_P D vwCl (MW cI cZ (x0 + 201) M1) H1 := hPM
  generalize H1 = H at hP hPM hS ⊢
  refine lv_istore (lv' := [(6, .int w), (5, .int r), (0, .ref b), (1, .ref x0), (2, .ref (x0 + 201)), (3, .ref (x0 + 211)), (4, .int (nI (4 * j)))]) hx hb dL_law_627 hl (by decide) rfl (fun ls hl => ?_)
  refine lv_aload_n hx hb dL_law_629 rfl (lv_at hl 4 rfl) ?_
  refine gc_ri (v := mRef M1) (As := []) (rest := []) ⟨hx, hb, hml, hown, hts⟩ hK (kX5_thrown l D cI cC cZ cQ cJ (x0 + 201) M1 rfl) (cwV 0 hts gL_law_X5_thrown rfl rfl rfl (by decide +kernel) ⟨Nat.le_of_ble_eq_true rfl, Nat.le_of_ble_eq_true rfl⟩) (va_recv hK hPM (ci := 5) (q0 := 0) rfl rfl) hPM rfl hl.1 rfl (Nat.le_of_ble_eq_true rfl) ⟨hc1, hc2⟩ dL_law_630 ?_
  refine lv_iload hx hb dL_law_633 (lv_at hl 1 rfl) ?_
  refine lv_icmp_eq (tgt := 640) hx hb dL_law_635 (by decide) (fun _ => ?_) (fun z => absurd hm z)
  refine lv_iload hx hb dL_law_640 (lv_at hl 1 rfl) ?_
  have fin : W p l e room_1 s m #[Value.ref b] below meth c H locs (cells + 1) (slots + 6) Q (F0 m 657 ls []) := by
    refine lv_goto (tgt := 1847) hx hb dL_law_657 (by decide) ?_
    exact kk G1 M1 f9 _ _ _ ⟨hG1, hP, hPM, hS, lv_sub hl [2, 3, 4, 5, 6] rfl⟩
  refine lv_if_ne (tgt := 657) hx hb dL_law_642 (by decide) (fun _ => fin) (fun z0 => ?_)
  have hk0 : k = 0 := gm_zero hk (hw.symm.trans z0)
  refine lv_aload_n hx hb dL_law_645 rfl (lv_at hl 5 rfl) ?_
  refine lv_iconst (v := 0) hx hb dL_law_646 (by decide) ?_
  refine va_lald (f := f9) (i := 0) hx hb hK hP 201 4 GWO_at rfl (vin_lit rfl) dL_law_647 ?_
  refine lv_iload hx hb dL_law_648 (lv_at hl 0 rfl) ?_
  refine lv_i2l hx hb dL_law_650 rfl ?_
  refine W.lcmp hx hb dL_law_651 ?_
  refine lv_if_eq (tgt := 657) hx hb dL_law_652 (by decide) (fun _ => fin) (fun z => absurd ?_ z)
  rw [show f9 (0 : Int32).toNatClampNeg = v.toInt64 from hf9 hk0, hv hk0]
  exact lg_cmp_self _
set_option maxHeartbeats 4000000 in
set_option maxRecDepth 100000 in
theorem lc_putOn {l : Launch} {p : Program} {e : Env} {s : State} {m : MethodId} {below : List Frame} {meth : Method} {c : Code} {D : va_G} {cI cC cZ cQ cJ : ClassId} {t b L x0 j cells slots : Nat} {xs : Nat → Int32} {Q : State → Prop} (F : LFix l p s m meth c b L x0 xs D cI cC cZ cQ cJ t) (hj : 4 * j + 4 ≤ L) {G : GSt} {M : MSt} {f : Nat → Int64} {H : Heap} {locs : List Loc} {ls : Array Slot} (Z : LSta D cI cC cZ cQ cJ s b x0 G M f (nI (4 * j)) H locs ls) (hc1 : cells + 1 ≤ 601024) (hc2 : slots + 6 ≤ 7293034)
    (kk : ∀ (G : GSt) (M : MSt) (f : Nat → Int64) (H : Heap) (locs : List Loc) (ls : Array Slot), LSta D cI cC cZ cQ cJ s b x0 G M f (nI (4 * j)) H locs ls → W p l e room_1 s m #[Value.ref b] below meth c H locs (cells + 1) (slots + 6) Q (F0 m 1847 ls [])) : W p l e room_1 s m #[Value.ref b] below meth c H locs cells slots Q (F0 m 660 ls []) := by
  obtain ⟨⟨hx, hb, hr, hml, hown, htt, hX, hbl, hlocks, hgv⟩, hK, hE, hlS, hL, hx0⟩ := F
  have hts : ∀ w ∈ wsL_law, w.before #[Value.ref b] s = true := fun w hw => htt w (wsL_law_in w hw)
  have hown : s.vm.findClass RL = some m.cls := hown
  obtain ⟨hG, hP, hPM, hS, hl⟩ := Z
  have hbA : ¬ gGe x0 b := fun z => by have z : x0 ≤ b := z; omega
  have h1 : vp_in (nI (4 * j) + 1) L := by rw [nI_1]; exact vp_in_nI (by omega) (by omega)
  have h2 : vp_in (nI (4 * j) + 2) L := by rw [nIa2]; exact vp_in_nI (by omega) (by omega)
  have h3 : vp_in (nI (4 * j) + 3) L := by rw [show nI (4 * j) + 3 = nI (4 * j + 3) from nI_add _ 3]; exact vp_in_nI (by omega) (by omega)
  obtain ⟨k, v, G1, w, M1, e1, e2, hk, hm, hv, hG1⟩ := o_putOn hG (xs (nI (4 * j) + 1).toNatClampNeg) (xs (nI (4 * j) + 2).toNatClampNeg)
  refine lv_aload_n hx hb dL_law_660 rfl (lv_at hl 1 rfl) ?_
  refine lv_aload_n hx hb dL_law_661 rfl (lv_at hl 0 rfl) ?_
  refine lv_iload hx hb dL_law_662 (lv_at hl 4 rfl) ?_
  refine lv_iconst (v := 1) hx hb dL_law_664 (by decide) ?_
  refine lv_iadd hx hb dL_law_665 ?_
  refine va_sld hx hb hX hbl hbA hS h1 dL_law_666 ?_
  refine lv_aload_n hx hb dL_law_667 rfl (lv_at hl 0 rfl) ?_
  refine lv_iload hx hb dL_law_668 (lv_at hl 4 rfl) ?_
  refine lv_iconst (v := 2) hx hb dL_law_670 (by decide) ?_
  refine lv_iadd hx hb dL_law_671 ?_
  refine va_sld hx hb hX hbl hbA hS h2 dL_law_672 ?_
  refine lv_aload_n hx hb dL_law_673 rfl (lv_at hl 3 rfl) ?_
  refine va_calli (vx_runSW (As := [.ref x0, .int (xs (nI (4 * j) + 1).toNatClampNeg), .int (xs (nI (4 * j) + 2).toNatClampNeg), .ref (x0 + 211)]) (rest := []) ⟨hx, hb, hml, hown, hts⟩ (kL_putOn l D cI cC cZ cQ cJ t x0 x0 (x0 + 211) G f (xs (nI (4 * j) + 1).toNatClampNeg) (xs (nI (4 * j) + 2).toNatClampNeg) (by omega) (Nat.le_refl _) hlS e1 (hk.imp id (fun z => z.imp id And.left))) (vx_cwSW 4 hts gL_law_L_putOn rfl rfl rfl (by decide +kernel) ⟨Nat.le_of_ble_eq_true rfl, Nat.le_of_ble_eq_true rfl⟩) ⟨gBw_blind, fun U hU hW => ⟨rfl, ⟨by rw [hU]; exact hP, va_K.moved hW.alike hK⟩, by rw [hU]; exact gEnw.warm hW (gEnw_now hE hS (fun _ h9 => h9))⟩⟩ rfl rfl hl.1 rfl (lv_room (Nat.le_of_ble_eq_true rfl)) dL_law_674 ⟨hc1, hc2⟩) hS (fun q9 _ h9 => lk_A h9) (fun q9 h9 => lk_A h9) (fun r u t9 H1 locs ht hvm hw hB hz hk1 hS => ?_)
  have hw : r = gm 3 2 k := hw
  have hP : va_P D vwCl (GWO cI cC cZ cQ cJ x0 (x0 + 211) G1 (if k = 0 then vp_updL f 0 v.toInt64 else f)) H1 := by rw [← ht]; exact hB
  have hPM := lk_M hPM hk1
  have hm : mRef M1 = r := hm.trans hw.symm
  have hf9 : k = 0 → (if k = 0 then vp_updL f 0 v.toInt64 else f) 0 = v.toInt64 := fun z => by rw [if_pos z]; exact pk_uLs
  generalize (if k = 0 then vp_updL f 0 v.toInt64 else f) = f9 at hP hf9
  generalize H1 = H at hP hPM hS ⊢
  refine lv_istore (lv' := [(5, .int r), (0, .ref b), (1, .ref x0), (2, .ref (x0 + 201)), (3, .ref (x0 + 211)), (4, .int (nI (4 * j)))]) hx hb dL_law_677 hl (by decide) rfl (fun ls hl => ?_)
  refine lv_aload_n hx hb dL_law_679 rfl (lv_at hl 3 rfl) ?_
  refine lv_aload_n hx hb dL_law_680 rfl (lv_at hl 1 rfl) ?_
  refine lv_iload hx hb dL_law_681 (lv_at hl 5 rfl) ?_
  refine lv_iconst (v := 1) hx hb dL_law_683 (by decide) ?_
  refine lv_iadd hx hb dL_law_684 ?_
  refine va_sld hx hb hX hbl hbA hS h1 dL_law_685 ?_
  refine lv_aload_n hx hb dL_law_686 rfl (lv_at hl 1 rfl) ?_
  refine lv_iload hx hb dL_law_687 (lv_at hl 5 rfl) ?_
  refine lv_iconst (v := 2) hx hb dL_law_689 (by decide) ?_
  refine lv_iadd hx hb dL_law_690 ?_
  refine va_sld hx hb hX hbl hbA hS h2 dL_law_691 ?_
  refine gc_wi (As := [.int (xs (nI (4 * j) + 1).toNatClampNeg), .int (xs (nI (4 * j) + 2).toNatClampNeg)]) (rest := []) ⟨hx, hb, hml, hown, hts⟩ hK (kX5_putOn l D cI cC cZ cQ cJ (x0 + 201) M (xs (nI (4 * j) + 1).toNatClampNeg) (xs (nI (4 * j) + 2).toNatClampNeg) e2) (cwV 2 hts gL_law_X5_putOn rfl rfl rfl (by decide +kernel) ⟨Nat.le_of_ble_eq_true rfl, Nat.le_of_ble_eq_true rfl⟩) (va_recv hK hPM (ci := 5) (q0 := 0) rfl rfl) hPM hS (fun q9 h9 => Nat.le_trans (Nat.le_add_right _ _) h9.1) rfl hl.1 rfl (Nat.le_of_ble_eq_true rfl) ⟨hc1, hc2⟩ dL_law_692 (fun H1 locs hPM hS _ hk1 => ?_)
  have hP := lk_G hP hk1
  have hPM : va_P D vwCl (MW cI cZ (x0 + 201) M1) H1 := hPM
  generalize H1 = H at hP hPM hS ⊢
  refine lv_istore (lv' := [(6, .int w), (5, .int r), (0, .ref b), (1, .ref x0), (2, .ref (x0 + 201)), (3, .ref (x0 + 211)), (4, .int (nI (4 * j)))]) hx hb dL_law_695 hl (by decide) rfl (fun ls hl => ?_)
  refine lv_aload_n hx hb dL_law_697 rfl (lv_at hl 4 rfl) ?_
  refine gc_ri (v := mRef M1) (As := []) (rest := []) ⟨hx, hb, hml, hown, hts⟩ hK (kX5_thrown l D cI cC cZ cQ cJ (x0 + 201) M1 rfl) (cwV 0 hts gL_law_X5_thrown rfl rfl rfl (by decide +kernel) ⟨Nat.le_of_ble_eq_true rfl, Nat.le_of_ble_eq_true rfl⟩) (va_recv hK hPM (ci := 5) (q0 := 0) rfl rfl) hPM rfl hl.1 rfl (Nat.le_of_ble_eq_true rfl) ⟨hc1, hc2⟩ dL_law_698 ?_
  refine lv_iload hx hb dL_law_701 (lv_at hl 1 rfl) ?_
  refine lv_icmp_eq (tgt := 708) hx hb dL_law_703 (by decide) (fun _ => ?_) (fun z => absurd hm z)
  refine lv_iload hx hb dL_law_708 (lv_at hl 1 rfl) ?_
  have fin : W p l e room_1 s m #[Value.ref b] below meth c H locs (cells + 1) (slots + 6) Q (F0 m 725 ls []) := by
    refine lv_goto (tgt := 1847) hx hb dL_law_725 (by decide) ?_
    exact kk G1 M1 f9 _ _ _ ⟨hG1, hP, hPM, hS, lv_sub hl [2, 3, 4, 5, 6] rfl⟩
  refine lv_if_ne (tgt := 725) hx hb dL_law_710 (by decide) (fun _ => fin) (fun z0 => ?_)
  have hk0 : k = 0 := gm_zero hk (hw.symm.trans z0)
  refine lv_aload_n hx hb dL_law_713 rfl (lv_at hl 5 rfl) ?_
  refine lv_iconst (v := 0) hx hb dL_law_714 (by decide) ?_
  refine va_lald (f := f9) (i := 0) hx hb hK hP 201 4 GWO_at rfl (vin_lit rfl) dL_law_715 ?_
  refine lv_iload hx hb dL_law_716 (lv_at hl 0 rfl) ?_
  refine lv_i2l hx hb dL_law_718 rfl ?_
  refine W.lcmp hx hb dL_law_719 ?_
  refine lv_if_eq (tgt := 725) hx hb dL_law_720 (by decide) (fun _ => fin) (fun z => absurd ?_ z)
  rw [show f9 (0 : Int32).toNatClampNeg = v.toInt64 from hf9 hk0, hv hk0]
  exact lg_cmp_self _
set_option maxHeartbeats 4000000 in
set_option maxRecDepth 100000 in
theorem lc_takeOff {l : Launch} {p : Program} {e : Env} {s : State} {m : MethodId} {below : List Frame} {meth : Method} {c : Code} {D : va_G} {cI cC cZ cQ cJ : ClassId} {t b L x0 j cells slots : Nat} {xs : Nat → Int32} {Q : State → Prop} (F : LFix l p s m meth c b L x0 xs D cI cC cZ cQ cJ t) (hj : 4 * j + 4 ≤ L) {G : GSt} {M : MSt} {f : Nat → Int64} {H : Heap} {locs : List Loc} {ls : Array Slot} (Z : LSta D cI cC cZ cQ cJ s b x0 G M f (nI (4 * j)) H locs ls) (hc1 : cells + 1 ≤ 601024) (hc2 : slots + 6 ≤ 7293034)
    (kk : ∀ (G : GSt) (M : MSt) (f : Nat → Int64) (H : Heap) (locs : List Loc) (ls : Array Slot), LSta D cI cC cZ cQ cJ s b x0 G M f (nI (4 * j)) H locs ls → W p l e room_1 s m #[Value.ref b] below meth c H locs (cells + 1) (slots + 6) Q (F0 m 1847 ls [])) : W p l e room_1 s m #[Value.ref b] below meth c H locs cells slots Q (F0 m 728 ls []) := by
  obtain ⟨⟨hx, hb, hr, hml, hown, htt, hX, hbl, hlocks, hgv⟩, hK, hE, hlS, hL, hx0⟩ := F
  have hts : ∀ w ∈ wsL_law, w.before #[Value.ref b] s = true := fun w hw => htt w (wsL_law_in w hw)
  have hown : s.vm.findClass RL = some m.cls := hown
  obtain ⟨hG, hP, hPM, hS, hl⟩ := Z
  have hbA : ¬ gGe x0 b := fun z => by have z : x0 ≤ b := z; omega
  have h1 : vp_in (nI (4 * j) + 1) L := by rw [nI_1]; exact vp_in_nI (by omega) (by omega)
  have h2 : vp_in (nI (4 * j) + 2) L := by rw [nIa2]; exact vp_in_nI (by omega) (by omega)
  have h3 : vp_in (nI (4 * j) + 3) L := by rw [show nI (4 * j) + 3 = nI (4 * j + 3) from nI_add _ 3]; exact vp_in_nI (by omega) (by omega)
  obtain ⟨k, v, G1, w, M1, e1, e2, hk, hm, hv, hG1⟩ := o_takeOff hG (xs (nI (4 * j) + 1).toNatClampNeg)
  refine lv_aload_n hx hb dL_law_728 rfl (lv_at hl 1 rfl) ?_
  refine lv_aload_n hx hb dL_law_729 rfl (lv_at hl 0 rfl) ?_
  refine lv_iload hx hb dL_law_730 (lv_at hl 4 rfl) ?_
  refine lv_iconst (v := 1) hx hb dL_law_732 (by decide) ?_
  refine lv_iadd hx hb dL_law_733 ?_
  refine va_sld hx hb hX hbl hbA hS h1 dL_law_734 ?_
  refine lv_aload_n hx hb dL_law_735 rfl (lv_at hl 3 rfl) ?_
  refine va_calli (vx_runSW (As := [.ref x0, .int (xs (nI (4 * j) + 1).toNatClampNeg), .ref (x0 + 211)]) (rest := []) ⟨hx, hb, hml, hown, hts⟩ (kL_takeOff l D cI cC cZ cQ cJ t x0 x0 (x0 + 211) G f (xs (nI (4 * j) + 1).toNatClampNeg) (by omega) (Nat.le_refl _) hlS e1 (hk.imp id (fun z => z.imp id And.left))) (vx_cwSW 3 hts gL_law_L_takeOff rfl rfl rfl (by decide +kernel) ⟨Nat.le_of_ble_eq_true rfl, Nat.le_of_ble_eq_true rfl⟩) ⟨gBw_blind, fun U hU hW => ⟨rfl, ⟨by rw [hU]; exact hP, va_K.moved hW.alike hK⟩, by rw [hU]; exact gEnw.warm hW (gEnw_now hE hS (fun _ h9 => h9))⟩⟩ rfl rfl hl.1 rfl (lv_room (Nat.le_of_ble_eq_true rfl)) dL_law_736 ⟨hc1, hc2⟩) hS (fun q9 _ h9 => lk_A h9) (fun q9 h9 => lk_A h9) (fun r u t9 H1 locs ht hvm hw hB hz hk1 hS => ?_)
  have hw : r = gm 3 2 k := hw
  have hP : va_P D vwCl (GWO cI cC cZ cQ cJ x0 (x0 + 211) G1 (if k = 0 then vp_updL f 0 v.toInt64 else f)) H1 := by rw [← ht]; exact hB
  have hPM := lk_M hPM hk1
  have hm : mRef M1 = r := hm.trans hw.symm
  have hf9 : k = 0 → (if k = 0 then vp_updL f 0 v.toInt64 else f) 0 = v.toInt64 := fun z => by rw [if_pos z]; exact pk_uLs
  generalize (if k = 0 then vp_updL f 0 v.toInt64 else f) = f9 at hP hf9
  generalize H1 = H at hP hPM hS ⊢
  refine lv_istore (lv' := [(5, .int r), (0, .ref b), (1, .ref x0), (2, .ref (x0 + 201)), (3, .ref (x0 + 211)), (4, .int (nI (4 * j)))]) hx hb dL_law_739 hl (by decide) rfl (fun ls hl => ?_)
  refine lv_aload_n hx hb dL_law_741 rfl (lv_at hl 3 rfl) ?_
  refine lv_aload_n hx hb dL_law_742 rfl (lv_at hl 1 rfl) ?_
  refine lv_iload hx hb dL_law_743 (lv_at hl 5 rfl) ?_
  refine lv_iconst (v := 1) hx hb dL_law_745 (by decide) ?_
  refine lv_iadd hx hb dL_law_746 ?_
  refine va_sld hx hb hX hbl hbA hS h1 dL_law_747 ?_
  refine gc_wi (As := [.int (xs (nI (4 * j) + 1).toNatClampNeg)]) (rest := []) ⟨hx, hb, hml, hown, hts⟩ hK (kX5_takeOff l D cI cC cZ cQ cJ (x0 + 201) M (xs (nI (4 * j) + 1).toNatClampNeg) e2) (cwV 1 hts gL_law_X5_takeOff rfl rfl rfl (by decide +kernel) ⟨Nat.le_of_ble_eq_true rfl, Nat.le_of_ble_eq_true rfl⟩) (va_recv hK hPM (ci := 5) (q0 := 0) rfl rfl) hPM hS (fun q9 h9 => Nat.le_trans (Nat.le_add_right _ _) h9.1) rfl hl.1 rfl (Nat.le_of_ble_eq_true rfl) ⟨hc1, hc2⟩ dL_law_748 (fun H1 locs hPM hS _ hk1 => ?_)
  have hP := lk_G hP hk1
  have hPM : va_P D vwCl (MW cI cZ (x0 + 201) M1) H1 := hPM
  generalize H1 = H at hP hPM hS ⊢
  refine lv_istore (lv' := [(6, .int w), (5, .int r), (0, .ref b), (1, .ref x0), (2, .ref (x0 + 201)), (3, .ref (x0 + 211)), (4, .int (nI (4 * j)))]) hx hb dL_law_751 hl (by decide) rfl (fun ls hl => ?_)
  refine lv_aload_n hx hb dL_law_753 rfl (lv_at hl 4 rfl) ?_
  refine gc_ri (v := mRef M1) (As := []) (rest := []) ⟨hx, hb, hml, hown, hts⟩ hK (kX5_thrown l D cI cC cZ cQ cJ (x0 + 201) M1 rfl) (cwV 0 hts gL_law_X5_thrown rfl rfl rfl (by decide +kernel) ⟨Nat.le_of_ble_eq_true rfl, Nat.le_of_ble_eq_true rfl⟩) (va_recv hK hPM (ci := 5) (q0 := 0) rfl rfl) hPM rfl hl.1 rfl (Nat.le_of_ble_eq_true rfl) ⟨hc1, hc2⟩ dL_law_754 ?_
  refine lv_iload hx hb dL_law_757 (lv_at hl 1 rfl) ?_
  refine lv_icmp_eq (tgt := 764) hx hb dL_law_759 (by decide) (fun _ => ?_) (fun z => absurd hm z)
  refine lv_iload hx hb dL_law_764 (lv_at hl 1 rfl) ?_
  have fin : W p l e room_1 s m #[Value.ref b] below meth c H locs (cells + 1) (slots + 6) Q (F0 m 781 ls []) := by
    refine lv_goto (tgt := 1847) hx hb dL_law_781 (by decide) ?_
    exact kk G1 M1 f9 _ _ _ ⟨hG1, hP, hPM, hS, lv_sub hl [2, 3, 4, 5, 6] rfl⟩
  refine lv_if_ne (tgt := 781) hx hb dL_law_766 (by decide) (fun _ => fin) (fun z0 => ?_)
  have hk0 : k = 0 := gm_zero hk (hw.symm.trans z0)
  refine lv_aload_n hx hb dL_law_769 rfl (lv_at hl 5 rfl) ?_
  refine lv_iconst (v := 0) hx hb dL_law_770 (by decide) ?_
  refine va_lald (f := f9) (i := 0) hx hb hK hP 201 4 GWO_at rfl (vin_lit rfl) dL_law_771 ?_
  refine lv_iload hx hb dL_law_772 (lv_at hl 0 rfl) ?_
  refine lv_i2l hx hb dL_law_774 rfl ?_
  refine W.lcmp hx hb dL_law_775 ?_
  refine lv_if_eq (tgt := 781) hx hb dL_law_776 (by decide) (fun _ => fin) (fun z => absurd ?_ z)
  rw [show f9 (0 : Int32).toNatClampNeg = v.toInt64 from hf9 hk0, hv hk0]
  exact lg_cmp_self _
set_option maxHeartbeats 4000000 in
set_option maxRecDepth 100000 in
theorem lc_scrap {l : Launch} {p : Program} {e : Env} {s : State} {m : MethodId} {below : List Frame} {meth : Method} {c : Code} {D : va_G} {cI cC cZ cQ cJ : ClassId} {t b L x0 j cells slots : Nat} {xs : Nat → Int32} {Q : State → Prop} (F : LFix l p s m meth c b L x0 xs D cI cC cZ cQ cJ t) (hj : 4 * j + 4 ≤ L) {G : GSt} {M : MSt} {f : Nat → Int64} {H : Heap} {locs : List Loc} {ls : Array Slot} (Z : LSta D cI cC cZ cQ cJ s b x0 G M f (nI (4 * j)) H locs ls) (hc1 : cells + 1 ≤ 601024) (hc2 : slots + 6 ≤ 7293034)
    (kk : ∀ (G : GSt) (M : MSt) (f : Nat → Int64) (H : Heap) (locs : List Loc) (ls : Array Slot), LSta D cI cC cZ cQ cJ s b x0 G M f (nI (4 * j)) H locs ls → W p l e room_1 s m #[Value.ref b] below meth c H locs (cells + 1) (slots + 6) Q (F0 m 1847 ls [])) : W p l e room_1 s m #[Value.ref b] below meth c H locs cells slots Q (F0 m 784 ls []) := by
  obtain ⟨⟨hx, hb, hr, hml, hown, htt, hX, hbl, hlocks, hgv⟩, hK, hE, hlS, hL, hx0⟩ := F
  have hts : ∀ w ∈ wsL_law, w.before #[Value.ref b] s = true := fun w hw => htt w (wsL_law_in w hw)
  have hown : s.vm.findClass RL = some m.cls := hown
  obtain ⟨hG, hP, hPM, hS, hl⟩ := Z
  have hbA : ¬ gGe x0 b := fun z => by have z : x0 ≤ b := z; omega
  have h1 : vp_in (nI (4 * j) + 1) L := by rw [nI_1]; exact vp_in_nI (by omega) (by omega)
  have h2 : vp_in (nI (4 * j) + 2) L := by rw [nIa2]; exact vp_in_nI (by omega) (by omega)
  have h3 : vp_in (nI (4 * j) + 3) L := by rw [show nI (4 * j) + 3 = nI (4 * j + 3) from nI_add _ 3]; exact vp_in_nI (by omega) (by omega)
  obtain ⟨k, v, G1, w, M1, e1, e2, hk, hm, hv, hG1⟩ := o_scrap hG (xs (nI (4 * j) + 1).toNatClampNeg)
  refine lv_aload_n hx hb dL_law_784 rfl (lv_at hl 1 rfl) ?_
  refine lv_aload_n hx hb dL_law_785 rfl (lv_at hl 0 rfl) ?_
  refine lv_iload hx hb dL_law_786 (lv_at hl 4 rfl) ?_
  refine lv_iconst (v := 1) hx hb dL_law_788 (by decide) ?_
  refine lv_iadd hx hb dL_law_789 ?_
  refine va_sld hx hb hX hbl hbA hS h1 dL_law_790 ?_
  refine lv_aload_n hx hb dL_law_791 rfl (lv_at hl 3 rfl) ?_
  refine va_calli (vx_runSW (As := [.ref x0, .int (xs (nI (4 * j) + 1).toNatClampNeg), .ref (x0 + 211)]) (rest := []) ⟨hx, hb, hml, hown, hts⟩ (kL_scrap l D cI cC cZ cQ cJ t x0 x0 (x0 + 211) G f (xs (nI (4 * j) + 1).toNatClampNeg) (by omega) (Nat.le_refl _) hlS e1 (hk.imp id (fun z => z.imp id And.left))) (vx_cwSW 3 hts gL_law_L_scrap rfl rfl rfl (by decide +kernel) ⟨Nat.le_of_ble_eq_true rfl, Nat.le_of_ble_eq_true rfl⟩) ⟨gBw_blind, fun U hU hW => ⟨rfl, ⟨by rw [hU]; exact hP, va_K.moved hW.alike hK⟩, by rw [hU]; exact gEnw.warm hW (gEnw_now hE hS (fun _ h9 => h9))⟩⟩ rfl rfl hl.1 rfl (lv_room (Nat.le_of_ble_eq_true rfl)) dL_law_792 ⟨hc1, hc2⟩) hS (fun q9 _ h9 => lk_A h9) (fun q9 h9 => lk_A h9) (fun r u t9 H1 locs ht hvm hw hB hz hk1 hS => ?_)
  have hw : r = gm 3 2 k := hw
  have hP : va_P D vwCl (GWO cI cC cZ cQ cJ x0 (x0 + 211) G1 (if k = 0 then vp_updL f 0 v.toInt64 else f)) H1 := by rw [← ht]; exact hB
  have hPM := lk_M hPM hk1
  have hm : mRef M1 = r := hm.trans hw.symm
  have hf9 : k = 0 → (if k = 0 then vp_updL f 0 v.toInt64 else f) 0 = v.toInt64 := fun z => by rw [if_pos z]; exact pk_uLs
  generalize (if k = 0 then vp_updL f 0 v.toInt64 else f) = f9 at hP hf9
  generalize H1 = H at hP hPM hS ⊢
  refine lv_istore (lv' := [(5, .int r), (0, .ref b), (1, .ref x0), (2, .ref (x0 + 201)), (3, .ref (x0 + 211)), (4, .int (nI (4 * j)))]) hx hb dL_law_795 hl (by decide) rfl (fun ls hl => ?_)
  refine lv_aload_n hx hb dL_law_797 rfl (lv_at hl 3 rfl) ?_
  refine lv_aload_n hx hb dL_law_798 rfl (lv_at hl 1 rfl) ?_
  refine lv_iload hx hb dL_law_799 (lv_at hl 5 rfl) ?_
  refine lv_iconst (v := 1) hx hb dL_law_801 (by decide) ?_
  refine lv_iadd hx hb dL_law_802 ?_
  refine va_sld hx hb hX hbl hbA hS h1 dL_law_803 ?_
  refine gc_wi (As := [.int (xs (nI (4 * j) + 1).toNatClampNeg)]) (rest := []) ⟨hx, hb, hml, hown, hts⟩ hK (kX5_scrap l D cI cC cZ cQ cJ (x0 + 201) M (xs (nI (4 * j) + 1).toNatClampNeg) e2) (cwV 1 hts gL_law_X5_scrap rfl rfl rfl (by decide +kernel) ⟨Nat.le_of_ble_eq_true rfl, Nat.le_of_ble_eq_true rfl⟩) (va_recv hK hPM (ci := 5) (q0 := 0) rfl rfl) hPM hS (fun q9 h9 => Nat.le_trans (Nat.le_add_right _ _) h9.1) rfl hl.1 rfl (Nat.le_of_ble_eq_true rfl) ⟨hc1, hc2⟩ dL_law_804 (fun H1 locs hPM hS _ hk1 => ?_)
  have hP := lk_G hP hk1
  have hPM : va_P D vwCl (MW cI cZ (x0 + 201) M1) H1 := hPM
  generalize H1 = H at hP hPM hS ⊢
  refine lv_istore (lv' := [(6, .int w), (5, .int r), (0, .ref b), (1, .ref x0), (2, .ref (x0 + 201)), (3, .ref (x0 + 211)), (4, .int (nI (4 * j)))]) hx hb dL_law_807 hl (by decide) rfl (fun ls hl => ?_)
  refine lv_aload_n hx hb dL_law_809 rfl (lv_at hl 4 rfl) ?_
  refine gc_ri (v := mRef M1) (As := []) (rest := []) ⟨hx, hb, hml, hown, hts⟩ hK (kX5_thrown l D cI cC cZ cQ cJ (x0 + 201) M1 rfl) (cwV 0 hts gL_law_X5_thrown rfl rfl rfl (by decide +kernel) ⟨Nat.le_of_ble_eq_true rfl, Nat.le_of_ble_eq_true rfl⟩) (va_recv hK hPM (ci := 5) (q0 := 0) rfl rfl) hPM rfl hl.1 rfl (Nat.le_of_ble_eq_true rfl) ⟨hc1, hc2⟩ dL_law_810 ?_
  refine lv_iload hx hb dL_law_813 (lv_at hl 1 rfl) ?_
  refine lv_icmp_eq (tgt := 820) hx hb dL_law_815 (by decide) (fun _ => ?_) (fun z => absurd hm z)
  refine lv_iload hx hb dL_law_820 (lv_at hl 1 rfl) ?_
  have fin : W p l e room_1 s m #[Value.ref b] below meth c H locs (cells + 1) (slots + 6) Q (F0 m 837 ls []) := by
    refine lv_goto (tgt := 1847) hx hb dL_law_837 (by decide) ?_
    exact kk G1 M1 f9 _ _ _ ⟨hG1, hP, hPM, hS, lv_sub hl [2, 3, 4, 5, 6] rfl⟩
  refine lv_if_ne (tgt := 837) hx hb dL_law_822 (by decide) (fun _ => fin) (fun z0 => ?_)
  have hk0 : k = 0 := gm_zero hk (hw.symm.trans z0)
  refine lv_aload_n hx hb dL_law_825 rfl (lv_at hl 5 rfl) ?_
  refine lv_iconst (v := 0) hx hb dL_law_826 (by decide) ?_
  refine va_lald (f := f9) (i := 0) hx hb hK hP 201 4 GWO_at rfl (vin_lit rfl) dL_law_827 ?_
  refine lv_iload hx hb dL_law_828 (lv_at hl 0 rfl) ?_
  refine lv_i2l hx hb dL_law_830 rfl ?_
  refine W.lcmp hx hb dL_law_831 ?_
  refine lv_if_eq (tgt := 837) hx hb dL_law_832 (by decide) (fun _ => fin) (fun z => absurd ?_ z)
  rw [show f9 (0 : Int32).toNatClampNeg = v.toInt64 from hf9 hk0, hv hk0]
  exact lg_cmp_self _
set_option maxHeartbeats 4000000 in
set_option maxRecDepth 100000 in
theorem lc_setLimit {l : Launch} {p : Program} {e : Env} {s : State} {m : MethodId} {below : List Frame} {meth : Method} {c : Code} {D : va_G} {cI cC cZ cQ cJ : ClassId} {t b L x0 j cells slots : Nat} {xs : Nat → Int32} {Q : State → Prop} (F : LFix l p s m meth c b L x0 xs D cI cC cZ cQ cJ t) (hj : 4 * j + 4 ≤ L) {G : GSt} {M : MSt} {f : Nat → Int64} {H : Heap} {locs : List Loc} {ls : Array Slot} (Z : LSta D cI cC cZ cQ cJ s b x0 G M f (nI (4 * j)) H locs ls) (hc1 : cells + 1 ≤ 601024) (hc2 : slots + 6 ≤ 7293034)
    (kk : ∀ (G : GSt) (M : MSt) (f : Nat → Int64) (H : Heap) (locs : List Loc) (ls : Array Slot), LSta D cI cC cZ cQ cJ s b x0 G M f (nI (4 * j)) H locs ls → W p l e room_1 s m #[Value.ref b] below meth c H locs (cells + 1) (slots + 6) Q (F0 m 1847 ls [])) : W p l e room_1 s m #[Value.ref b] below meth c H locs cells slots Q (F0 m 840 ls []) := by
  obtain ⟨⟨hx, hb, hr, hml, hown, htt, hX, hbl, hlocks, hgv⟩, hK, hE, hlS, hL, hx0⟩ := F
  have hts : ∀ w ∈ wsL_law, w.before #[Value.ref b] s = true := fun w hw => htt w (wsL_law_in w hw)
  have hown : s.vm.findClass RL = some m.cls := hown
  obtain ⟨hG, hP, hPM, hS, hl⟩ := Z
  have hbA : ¬ gGe x0 b := fun z => by have z : x0 ≤ b := z; omega
  have h1 : vp_in (nI (4 * j) + 1) L := by rw [nI_1]; exact vp_in_nI (by omega) (by omega)
  have h2 : vp_in (nI (4 * j) + 2) L := by rw [nIa2]; exact vp_in_nI (by omega) (by omega)
  have h3 : vp_in (nI (4 * j) + 3) L := by rw [show nI (4 * j) + 3 = nI (4 * j + 3) from nI_add _ 3]; exact vp_in_nI (by omega) (by omega)
  obtain ⟨k, v, G1, w, M1, e1, e2, hk, hm, hv, hG1⟩ := o_setLimit hG (xs (nI (4 * j) + 1).toNatClampNeg) (xs (nI (4 * j) + 2).toNatClampNeg)
  refine lv_aload_n hx hb dL_law_840 rfl (lv_at hl 1 rfl) ?_
  refine lv_aload_n hx hb dL_law_841 rfl (lv_at hl 0 rfl) ?_
  refine lv_iload hx hb dL_law_842 (lv_at hl 4 rfl) ?_
  refine lv_iconst (v := 1) hx hb dL_law_844 (by decide) ?_
  refine lv_iadd hx hb dL_law_845 ?_
  refine va_sld hx hb hX hbl hbA hS h1 dL_law_846 ?_
  refine lv_aload_n hx hb dL_law_847 rfl (lv_at hl 0 rfl) ?_
  refine lv_iload hx hb dL_law_848 (lv_at hl 4 rfl) ?_
  refine lv_iconst (v := 2) hx hb dL_law_850 (by decide) ?_
  refine lv_iadd hx hb dL_law_851 ?_
  refine va_sld hx hb hX hbl hbA hS h2 dL_law_852 ?_
  refine lv_aload_n hx hb dL_law_853 rfl (lv_at hl 3 rfl) ?_
  refine va_calli (vx_runSW (As := [.ref x0, .int (xs (nI (4 * j) + 1).toNatClampNeg), .int (xs (nI (4 * j) + 2).toNatClampNeg), .ref (x0 + 211)]) (rest := []) ⟨hx, hb, hml, hown, hts⟩ (kL_setLimit l D cI cC cZ cQ cJ t x0 x0 (x0 + 211) G f (xs (nI (4 * j) + 1).toNatClampNeg) (xs (nI (4 * j) + 2).toNatClampNeg) (by omega) (Nat.le_refl _) hlS e1 (hk.imp id (fun z => z.elim id (fun y => absurd rfl y.2)))) (vx_cwSW 4 hts gL_law_L_setLimit rfl rfl rfl (by decide +kernel) ⟨Nat.le_of_ble_eq_true rfl, Nat.le_of_ble_eq_true rfl⟩) ⟨gBw_blind, fun U hU hW => ⟨rfl, ⟨by rw [hU]; exact hP, va_K.moved hW.alike hK⟩, by rw [hU]; exact gEnw.warm hW (gEnw_now hE hS (fun _ h9 => h9))⟩⟩ rfl rfl hl.1 rfl (lv_room (Nat.le_of_ble_eq_true rfl)) dL_law_854 ⟨hc1, hc2⟩) hS (fun q9 _ h9 => lk_A h9) (fun q9 h9 => lk_A h9) (fun r u t9 H1 locs ht hvm hw hB hz hk1 hS => ?_)
  have hw : r = gm 1 9 k := hw
  have hP : va_P D vwCl (GWO cI cC cZ cQ cJ x0 (x0 + 211) G1 (if k = 0 then vp_updL f 0 v.toInt64 else f)) H1 := by rw [← ht]; exact hB
  have hPM := lk_M hPM hk1
  have hm : mRef M1 = r := hm.trans hw.symm
  have hf9 : k = 0 → (if k = 0 then vp_updL f 0 v.toInt64 else f) 0 = v.toInt64 := fun z => by rw [if_pos z]; exact pk_uLs
  generalize (if k = 0 then vp_updL f 0 v.toInt64 else f) = f9 at hP hf9
  generalize H1 = H at hP hPM hS ⊢
  refine lv_istore (lv' := [(5, .int r), (0, .ref b), (1, .ref x0), (2, .ref (x0 + 201)), (3, .ref (x0 + 211)), (4, .int (nI (4 * j)))]) hx hb dL_law_857 hl (by decide) rfl (fun ls hl => ?_)
  refine lv_aload_n hx hb dL_law_859 rfl (lv_at hl 3 rfl) ?_
  refine lv_aload_n hx hb dL_law_860 rfl (lv_at hl 1 rfl) ?_
  refine lv_iload hx hb dL_law_861 (lv_at hl 5 rfl) ?_
  refine lv_iconst (v := 1) hx hb dL_law_863 (by decide) ?_
  refine lv_iadd hx hb dL_law_864 ?_
  refine va_sld hx hb hX hbl hbA hS h1 dL_law_865 ?_
  refine lv_aload_n hx hb dL_law_866 rfl (lv_at hl 1 rfl) ?_
  refine lv_iload hx hb dL_law_867 (lv_at hl 5 rfl) ?_
  refine lv_iconst (v := 2) hx hb dL_law_869 (by decide) ?_
  refine lv_iadd hx hb dL_law_870 ?_
  refine va_sld hx hb hX hbl hbA hS h2 dL_law_871 ?_
  refine gc_wi (As := [.int (xs (nI (4 * j) + 1).toNatClampNeg), .int (xs (nI (4 * j) + 2).toNatClampNeg)]) (rest := []) ⟨hx, hb, hml, hown, hts⟩ hK (kX5_setLimit l D cI cC cZ cQ cJ (x0 + 201) M (xs (nI (4 * j) + 1).toNatClampNeg) (xs (nI (4 * j) + 2).toNatClampNeg) e2) (cwV 2 hts gL_law_X5_setLimit rfl rfl rfl (by decide +kernel) ⟨Nat.le_of_ble_eq_true rfl, Nat.le_of_ble_eq_true rfl⟩) (va_recv hK hPM (ci := 5) (q0 := 0) rfl rfl) hPM hS (fun q9 h9 => Nat.le_trans (Nat.le_add_right _ _) h9.1) rfl hl.1 rfl (Nat.le_of_ble_eq_true rfl) ⟨hc1, hc2⟩ dL_law_872 (fun H1 locs hPM hS _ hk1 => ?_)
  have hP := lk_G hP hk1
  have hPM : va_P D vwCl (MW cI cZ (x0 + 201) M1) H1 := hPM
  generalize H1 = H at hP hPM hS ⊢
  refine lv_istore (lv' := [(6, .int w), (5, .int r), (0, .ref b), (1, .ref x0), (2, .ref (x0 + 201)), (3, .ref (x0 + 211)), (4, .int (nI (4 * j)))]) hx hb dL_law_875 hl (by decide) rfl (fun ls hl => ?_)
  refine lv_aload_n hx hb dL_law_877 rfl (lv_at hl 4 rfl) ?_
  refine gc_ri (v := mRef M1) (As := []) (rest := []) ⟨hx, hb, hml, hown, hts⟩ hK (kX5_thrown l D cI cC cZ cQ cJ (x0 + 201) M1 rfl) (cwV 0 hts gL_law_X5_thrown rfl rfl rfl (by decide +kernel) ⟨Nat.le_of_ble_eq_true rfl, Nat.le_of_ble_eq_true rfl⟩) (va_recv hK hPM (ci := 5) (q0 := 0) rfl rfl) hPM rfl hl.1 rfl (Nat.le_of_ble_eq_true rfl) ⟨hc1, hc2⟩ dL_law_878 ?_
  refine lv_iload hx hb dL_law_881 (lv_at hl 1 rfl) ?_
  refine lv_icmp_eq (tgt := 888) hx hb dL_law_883 (by decide) (fun _ => ?_) (fun z => absurd hm z)
  refine lv_iload hx hb dL_law_888 (lv_at hl 1 rfl) ?_
  have fin : W p l e room_1 s m #[Value.ref b] below meth c H locs (cells + 1) (slots + 6) Q (F0 m 905 ls []) := by
    refine lv_goto (tgt := 1847) hx hb dL_law_905 (by decide) ?_
    exact kk G1 M1 f9 _ _ _ ⟨hG1, hP, hPM, hS, lv_sub hl [2, 3, 4, 5, 6] rfl⟩
  refine lv_if_ne (tgt := 905) hx hb dL_law_890 (by decide) (fun _ => fin) (fun z0 => ?_)
  have hk0 : k = 0 := gm_zero hk (hw.symm.trans z0)
  refine lv_aload_n hx hb dL_law_893 rfl (lv_at hl 5 rfl) ?_
  refine lv_iconst (v := 0) hx hb dL_law_894 (by decide) ?_
  refine va_lald (f := f9) (i := 0) hx hb hK hP 201 4 GWO_at rfl (vin_lit rfl) dL_law_895 ?_
  refine lv_iload hx hb dL_law_896 (lv_at hl 0 rfl) ?_
  refine lv_i2l hx hb dL_law_898 rfl ?_
  refine W.lcmp hx hb dL_law_899 ?_
  refine lv_if_eq (tgt := 905) hx hb dL_law_900 (by decide) (fun _ => fin) (fun z => absurd ?_ z)
  rw [show f9 (0 : Int32).toNatClampNeg = v.toInt64 from hf9 hk0, hv hk0]
  exact lg_cmp_self _
set_option maxHeartbeats 4000000 in
set_option maxRecDepth 100000 in
theorem lc_setRandom {l : Launch} {p : Program} {e : Env} {s : State} {m : MethodId} {below : List Frame} {meth : Method} {c : Code} {D : va_G} {cI cC cZ cQ cJ : ClassId} {t b L x0 j cells slots : Nat} {xs : Nat → Int32} {Q : State → Prop} (F : LFix l p s m meth c b L x0 xs D cI cC cZ cQ cJ t) (hj : 4 * j + 4 ≤ L) {G : GSt} {M : MSt} {f : Nat → Int64} {H : Heap} {locs : List Loc} {ls : Array Slot} (Z : LSta D cI cC cZ cQ cJ s b x0 G M f (nI (4 * j)) H locs ls) (hc1 : cells + 1 ≤ 601024) (hc2 : slots + 6 ≤ 7293034)
    (kk : ∀ (G : GSt) (M : MSt) (f : Nat → Int64) (H : Heap) (locs : List Loc) (ls : Array Slot), LSta D cI cC cZ cQ cJ s b x0 G M f (nI (4 * j)) H locs ls → W p l e room_1 s m #[Value.ref b] below meth c H locs (cells + 1) (slots + 6) Q (F0 m 1847 ls [])) : W p l e room_1 s m #[Value.ref b] below meth c H locs cells slots Q (F0 m 908 ls []) := by
  obtain ⟨⟨hx, hb, hr, hml, hown, htt, hX, hbl, hlocks, hgv⟩, hK, hE, hlS, hL, hx0⟩ := F
  have hts : ∀ w ∈ wsL_law, w.before #[Value.ref b] s = true := fun w hw => htt w (wsL_law_in w hw)
  have hown : s.vm.findClass RL = some m.cls := hown
  obtain ⟨hG, hP, hPM, hS, hl⟩ := Z
  have hbA : ¬ gGe x0 b := fun z => by have z : x0 ≤ b := z; omega
  have h1 : vp_in (nI (4 * j) + 1) L := by rw [nI_1]; exact vp_in_nI (by omega) (by omega)
  have h2 : vp_in (nI (4 * j) + 2) L := by rw [nIa2]; exact vp_in_nI (by omega) (by omega)
  have h3 : vp_in (nI (4 * j) + 3) L := by rw [show nI (4 * j) + 3 = nI (4 * j + 3) from nI_add _ 3]; exact vp_in_nI (by omega) (by omega)
  obtain ⟨v, G1, M1, e1, e2, hG1⟩ := o_setRandom hG ((((xs (nI (4 * j) + 1).toNatClampNeg)).toInt64 <<< ((32 : Int32).toInt64 &&& 63)) ||| (((xs (nI (4 * j) + 2).toNatClampNeg)).toInt64 &&& 4294967295))
  refine lv_aload_n hx hb dL_law_908 rfl (lv_at hl 1 rfl) ?_
  refine lv_aload_n hx hb dL_law_909 rfl (lv_at hl 0 rfl) ?_
  refine lv_iload hx hb dL_law_910 (lv_at hl 4 rfl) ?_
  refine lv_iconst (v := 1) hx hb dL_law_912 (by decide) ?_
  refine lv_iadd hx hb dL_law_913 ?_
  refine va_sld hx hb hX hbl hbA hS h1 dL_law_914 ?_
  refine lv_i2l hx hb dL_law_915 rfl ?_
  refine lv_bipush (v := 32) hx hb dL_law_916 (by decide) ?_
  refine lv_lshl hx hb dL_law_918 rfl ?_
  refine lv_aload_n hx hb dL_law_919 rfl (lv_at hl 0 rfl) ?_
  refine lv_iload hx hb dL_law_920 (lv_at hl 4 rfl) ?_
  refine lv_iconst (v := 2) hx hb dL_law_922 (by decide) ?_
  refine lv_iadd hx hb dL_law_923 ?_
  refine va_sld hx hb hX hbl hbA hS h2 dL_law_924 ?_
  refine lv_i2l hx hb dL_law_925 rfl ?_
  refine lv_ldc2 (v := 4294967295) hx hb hown (hts (.constantLong RL 158 (4294967295)) (by decide +kernel)) dL_law_926 ?_
  refine lv_land hx hb dL_law_929 ?_
  refine lv_lor hx hb dL_law_930 ?_
  refine gc_wl (v := v) (As := [.long ((((xs (nI (4 * j) + 1).toNatClampNeg)).toInt64 <<< ((32 : Int32).toInt64 &&& 63)) ||| (((xs (nI (4 * j) + 2).toNatClampNeg)).toInt64 &&& 4294967295))]) (rest := []) ⟨hx, hb, hml, hown, hts⟩ hK (kX4_setRandom l D cI cC cZ cQ cJ x0 G ((((xs (nI (4 * j) + 1).toNatClampNeg)).toInt64 <<< ((32 : Int32).toInt64 &&& 63)) ||| (((xs (nI (4 * j) + 2).toNatClampNeg)).toInt64 &&& 4294967295)) e1) (cwV 1 hts gL_law_X4_setRandom rfl rfl rfl (by decide +kernel) ⟨Nat.le_of_ble_eq_true rfl, Nat.le_of_ble_eq_true rfl⟩) (va_recv hK (gL (w1 := GW cI cC cZ cQ x0 G) hP) (ci := 4) (q0 := 0) rfl rfl) (gL (w1 := GW cI cC cZ cQ x0 G) hP) hS (fun q9 h9 => h9.1) rfl hl.1 rfl (Nat.le_of_ble_eq_true rfl) ⟨Nat.le_of_succ_le hc1, Nat.le_trans (Nat.le_add_right _ 6) hc2⟩ dL_law_931 (fun H1 locs hPG hS _ hk1 => ?_)
  have hP : va_P D vwCl (GWO cI cC cZ cQ cJ x0 (x0 + 211) G1 f) H1 := GWO_put (by omega) hP hPG hk1
  have hPM := lk_M2 hPM hk1
  generalize H1 = H at hP hPM hS ⊢
  refine lv_aload_n hx hb dL_law_934 rfl (lv_at hl 2 rfl) ?_
  refine lv_aload_n hx hb dL_law_935 rfl (lv_at hl 0 rfl) ?_
  refine lv_iload hx hb dL_law_936 (lv_at hl 4 rfl) ?_
  refine lv_iconst (v := 1) hx hb dL_law_938 (by decide) ?_
  refine lv_iadd hx hb dL_law_939 ?_
  refine va_sld hx hb hX hbl hbA hS h1 dL_law_940 ?_
  refine lv_i2l hx hb dL_law_941 rfl ?_
  refine lv_bipush (v := 32) hx hb dL_law_942 (by decide) ?_
  refine lv_lshl hx hb dL_law_944 rfl ?_
  refine lv_aload_n hx hb dL_law_945 rfl (lv_at hl 0 rfl) ?_
  refine lv_iload hx hb dL_law_946 (lv_at hl 4 rfl) ?_
  refine lv_iconst (v := 2) hx hb dL_law_948 (by decide) ?_
  refine lv_iadd hx hb dL_law_949 ?_
  refine va_sld hx hb hX hbl hbA hS h2 dL_law_950 ?_
  refine lv_i2l hx hb dL_law_951 rfl ?_
  refine lv_ldc2 (v := 4294967295) hx hb hown (hts (.constantLong RL 158 (4294967295)) (by decide +kernel)) dL_law_952 ?_
  refine lv_land hx hb dL_law_955 ?_
  refine lv_lor hx hb dL_law_956 ?_
  refine gc_wl (v := v) (As := [.long ((((xs (nI (4 * j) + 1).toNatClampNeg)).toInt64 <<< ((32 : Int32).toInt64 &&& 63)) ||| (((xs (nI (4 * j) + 2).toNatClampNeg)).toInt64 &&& 4294967295))]) (rest := [.long v]) ⟨hx, hb, hml, hown, hts⟩ hK (kX5_setRandom l D cI cC cZ cQ cJ (x0 + 201) M ((((xs (nI (4 * j) + 1).toNatClampNeg)).toInt64 <<< ((32 : Int32).toInt64 &&& 63)) ||| (((xs (nI (4 * j) + 2).toNatClampNeg)).toInt64 &&& 4294967295)) e2) (cwV 1 hts gL_law_X5_setRandom rfl rfl rfl (by decide +kernel) ⟨Nat.le_of_ble_eq_true rfl, Nat.le_of_ble_eq_true rfl⟩) (va_recv hK hPM (ci := 5) (q0 := 0) rfl rfl) hPM hS (fun q9 h9 => Nat.le_trans (Nat.le_add_right _ _) h9.1) rfl hl.1 rfl (Nat.le_of_ble_eq_true rfl) ⟨Nat.le_of_succ_le hc1, Nat.le_trans (Nat.le_add_right _ 6) hc2⟩ dL_law_957 (fun H1 locs hPM hS _ hk1 => ?_)
  have hP := lk_G hP hk1
  have hPM : va_P D vwCl (MW cI cZ (x0 + 201) M1) H1 := hPM
  generalize H1 = H at hP hPM hS ⊢
  refine W.lcmp hx hb dL_law_960 ?_
  exact lv_if_eq (tgt := 1847) hx hb dL_law_961 (by decide) (fun _ => W.widen (k := cells + 1) (n := slots + 6) (Nat.le_succ _) (Nat.le_add_right _ _) (kk G1 M1 f _ _ _ ⟨hG1, hP, hPM, hS, hl⟩)) (fun z => absurd (lg_cmp_self _) z)

set_option maxHeartbeats 4000000 in
set_option maxRecDepth 100000 in
/-- what the script's next number chooses -/
theorem law_disp {l : Launch} {p : Program} {e : Env} {s : State} {m : MethodId} {below : List Frame} {meth : Method} {c : Code} {D : va_G} {cI cC cZ cQ cJ : ClassId} {t b L x0 j cells slots : Nat} {xs : Nat → Int32} {Q : State → Prop} (F : LFix l p s m meth c b L x0 xs D cI cC cZ cQ cJ t) (hj : 4 * j + 4 ≤ L) {G : GSt} {M : MSt} {f : Nat → Int64} {H : Heap} {locs : List Loc} {ls : Array Slot} (Z : LSta D cI cC cZ cQ cJ s b x0 G M f (nI (4 * j)) H locs ls) (hc1 : cells + 1 ≤ 601024) (hc2 : slots + 6 ≤ 7293034)
    (kk : ∀ (G : GSt) (M : MSt) (f : Nat → Int64) (H : Heap) (locs : List Loc) (ls : Array Slot), LSta D cI cC cZ cQ cJ s b x0 G M f (nI (4 * j)) H locs ls → W p l e room_1 s m #[Value.ref b] below meth c H locs (cells + 1) (slots + 6) Q (F0 m 1847 ls [])) {v : Nat} (hv : v < 32) : W p l e room_1 s m #[Value.ref b] below meth c H locs cells slots Q (F0 m 39 ls [.int (nI v)]) := by
  have hx := F.1.1
  have hb := F.1.2.1
  have : v = 0 ∨ v = 1 ∨ v = 2 ∨ v = 3 ∨ v = 4 ∨ v = 5 ∨ v = 6 ∨ v = 7 ∨ v = 8 ∨ v = 9 ∨ v = 10 ∨ v = 11 ∨ v = 12 ∨ v = 13 ∨ v = 14 ∨ v = 15 ∨ v = 16 ∨ v = 17 ∨ v = 18 ∨ v = 19 ∨ v = 20 ∨ v = 21 ∨ v = 22 ∨ v = 23 ∨ v = 24 ∨ v = 25 ∨ v = 26 ∨ v = 27 ∨ v = 28 ∨ v = 29 ∨ v = 30 ∨ v = 31 := by omega
  rcases this with rfl | rfl | rfl | rfl | rfl | rfl | rfl | rfl | rfl | rfl | rfl | rfl | rfl | rfl | rfl | rfl | rfl | rfl | rfl | rfl | rfl | rfl | rfl | rfl | rfl | rfl | rfl | rfl | rfl | rfl | rfl | rfl
  · refine lv_tableIn (off := 133) (tgt := 172) hx hb dL_law_39 (by decide) (by decide) (by rfl) (by decide) ?_
    exact lc_append F hj Z hc1 hc2 kk
  · refine lv_tableIn (off := 189) (tgt := 228) hx hb dL_law_39 (by decide) (by decide) (by rfl) (by decide) ?_
    exact lc_clearText F hj Z hc1 hc2 kk
  · refine lv_tableIn (off := 202) (tgt := 241) hx hb dL_law_39 (by decide) (by decide) (by rfl) (by decide) ?_
    exact lc_errorPosition F hj Z hc1 hc2 kk
  · refine lv_tableIn (off := 215) (tgt := 254) hx hb dL_law_39 (by decide) (by decide) (by rfl) (by decide) ?_
    exact lc_load F hj Z hc1 hc2 kk
  · refine lv_tableIn (off := 259) (tgt := 298) hx hb dL_law_39 (by decide) (by decide) (by rfl) (by decide) ?_
    exact lc_about F hj Z hc1 hc2 kk
  · refine lv_tableIn (off := 315) (tgt := 354) hx hb dL_law_39 (by decide) (by decide) (by rfl) (by decide) ?_
    exact lc_grip F hj Z hc1 hc2 kk
  · refine lv_tableIn (off := 383) (tgt := 422) hx hb dL_law_39 (by decide) (by decide) (by rfl) (by decide) ?_
    exact lc_slot F hj Z hc1 hc2 kk
  · refine lv_tableIn (off := 439) (tgt := 478) hx hb dL_law_39 (by decide) (by decide) (by rfl) (by decide) ?_
    exact lc_random F hj Z hc1 hc2 kk
  · refine lv_tableIn (off := 453) (tgt := 492) hx hb dL_law_39 (by decide) (by decide) (by rfl) (by decide) ?_
    exact lc_report F hj Z hc1 hc2 kk
  · refine lv_tableIn (off := 509) (tgt := 548) hx hb dL_law_39 (by decide) (by decide) (by rfl) (by decide) ?_
    exact lc_step F hj Z hc1 hc2 kk
  · refine lv_tableIn (off := 565) (tgt := 604) hx hb dL_law_39 (by decide) (by decide) (by rfl) (by decide) ?_
    exact lc_addGrip F hj Z hc1 hc2 kk
  · refine lv_tableIn (off := 621) (tgt := 660) hx hb dL_law_39 (by decide) (by decide) (by rfl) (by decide) ?_
    exact lc_putOn F hj Z hc1 hc2 kk
  · refine lv_tableIn (off := 689) (tgt := 728) hx hb dL_law_39 (by decide) (by decide) (by rfl) (by decide) ?_
    exact lc_takeOff F hj Z hc1 hc2 kk
  · refine lv_tableIn (off := 745) (tgt := 784) hx hb dL_law_39 (by decide) (by decide) (by rfl) (by decide) ?_
    exact lc_scrap F hj Z hc1 hc2 kk
  · refine lv_tableIn (off := 801) (tgt := 840) hx hb dL_law_39 (by decide) (by decide) (by rfl) (by decide) ?_
    exact lc_setLimit F hj Z hc1 hc2 kk
  · refine lv_tableIn (off := 869) (tgt := 908) hx hb dL_law_39 (by decide) (by decide) (by rfl) (by decide) ?_
    exact lc_setRandom F hj Z hc1 hc2 kk
  · refine lv_tableIn (off := 927) (tgt := 966) hx hb dL_law_39 (by decide) (by decide) (by rfl) (by decide) ?_
    exact lc_undo F hj Z hc1 hc2 kk
  · refine lv_tableIn (off := 971) (tgt := 1010) hx hb dL_law_39 (by decide) (by decide) (by rfl) (by decide) ?_
    exact lc_gap F hj Z hc1 hc2 kk
  · refine lv_tableIn (off := 1027) (tgt := 1066) hx hb dL_law_39 (by decide) (by decide) (by rfl) (by decide) ?_
    exact lc_room F hj Z hc1 hc2 kk
  · refine lv_tableIn (off := 1083) (tgt := 1122) hx hb dL_law_39 (by decide) (by decide) (by rfl) (by decide) ?_
    exact lc_groups F hj Z hc1 hc2 kk
  · refine lv_tableIn (off := 1139) (tgt := 1178) hx hb dL_law_39 (by decide) (by decide) (by rfl) (by decide) ?_
    exact lc_dueAfter F hj Z hc1 hc2 kk
  · refine lv_tableIn (off := 1195) (tgt := 1234) hx hb dL_law_39 (by decide) (by decide) (by rfl) (by decide) ?_
    exact lc_chance F hj Z hc1 hc2 kk
  · refine lv_tableIn (off := 1279) (tgt := 1318) hx hb dL_law_39 (by decide) (by decide) (by rfl) (by decide) ?_
    exact lc_ahead F hj Z hc1 hc2 kk
  · refine lv_tableIn (off := 1359) (tgt := 1398) hx hb dL_law_39 (by decide) (by decide) (by rfl) (by decide) ?_
    exact lc_happens F hj Z hc1 hc2 kk
  · refine lv_tableIn (off := 1427) (tgt := 1466) hx hb dL_law_39 (by decide) (by decide) (by rfl) (by decide) ?_
    exact lc_bestLimit F hj Z hc1 hc2 kk
  · refine lv_tableIn (off := 1483) (tgt := 1522) hx hb dL_law_39 (by decide) (by decide) (by rfl) (by decide) ?_
    exact lc_emptyAfter F hj Z hc1 hc2 kk
  · refine lv_tableIn (off := 1496) (tgt := 1535) hx hb dL_law_39 (by decide) (by decide) (by rfl) (by decide) ?_
    exact lc_runScript F hj Z hc1 hc2 kk
  · refine lv_tableIn (off := 1596) (tgt := 1635) hx hb dL_law_39 (by decide) (by decide) (by rfl) (by decide) ?_
    exact lc_simulate F hj Z hc1 hc2 kk
  · refine lv_tableIn (off := 1696) (tgt := 1735) hx hb dL_law_39 (by decide) (by decide) (by rfl) (by decide) ?_
    exact lc_save F hj Z hc1 hc2 kk
  · refine lv_tableIn (off := 1752) (tgt := 1791) hx hb dL_law_39 (by decide) (by decide) (by rfl) (by decide) ?_
    exact lc_restore F hj Z hc1 hc2 kk
  · refine lv_tableOut (tgt := 1847) hx hb dL_law_39 (Or.inr (by decide)) (by decide) ?_
    exact W.widen (k := cells + 1) (n := slots + 6) (Nat.le_succ _) (Nat.le_add_right _ _) (kk G M f _ _ _ Z)
  · refine lv_tableOut (tgt := 1847) hx hb dL_law_39 (Or.inr (by decide)) (by decide) ?_
    exact W.widen (k := cells + 1) (n := slots + 6) (Nat.le_succ _) (Nat.le_add_right _ _) (kk G M f _ _ _ Z)
set_option maxHeartbeats 4000000 in
set_option maxRecDepth 100000 in
/-- THE LAW'S LOOP -/
theorem law_loop {l : Launch} {p : Program} {e : Env} {s : State} {m : MethodId} {below : List Frame} {meth : Method} {c : Code} {D : va_G} {cI cC cZ cQ cJ : ClassId} {t b L x0 : Nat} {xs : Nat → Int32} (F : LFix l p s m meth c b L x0 xs D cI cC cZ cQ cJ t) :
    ∀ (n j : Nat), 4 * j ≤ L → L + 1 ≤ 4 * j + n → ∀ (G : GSt) (M : MSt) (f : Nat → Int64) (H : Heap) (locs : List Loc) (ls : Array Slot), LSta D cI cC cZ cQ cJ s b x0 G M f (nI (4 * j)) H locs ls → W p l e room_1 s m #[Value.ref b] below meth c H locs (212 + j) (4498 + 6 * j) (lw_Z below #[Value.ref b] s) (F0 m 23 ls []) := by
  intro n
  induction n with
  | zero => intro j h1 h2; exact absurd h2 (by omega)
  | succ n ih =>
    intro j h1 h2 G M f H locs ls Z
    have Z' := Z
    have F' := F
    obtain ⟨⟨hx, hb, hr, hml, hown, htt, hX, hbl, hlocks, hgv⟩, hK, hE, hlS, hL, hx0⟩ := F'
    obtain ⟨hG, hP, hPM, hS, hl⟩ := Z'
    have hbA : ¬ gGe x0 b := fun z => by have z : x0 ≤ b := z; omega
    refine lv_iload hx hb dL_law_23 (lv_at hl 4 rfl) ?_
    refine lv_aload_n hx hb dL_law_25 rfl (lv_at hl 0 rfl) ?_
    refine va_slen hx hb hX hbl hbA hS dL_law_26 ?_
    refine lv_iconst (v := 4) hx hb dL_law_27 (by decide) ?_
    refine lv_isub hx hb dL_law_28 ?_
    have e4 : (nI L - 4).toInt = (L : Int) - 4 := by rw [show (4 : Int32) = nI 4 from rfl]; exact pk_sub_toInt (by omega) (by omega)
    have ej : (nI (4 * j)).toInt = ((4 * j : Nat) : Int) := nI_toInt (by omega)
    refine lv_icmp_gt (tgt := 1853) hx hb dL_law_29 (by decide) (fun c1 => ?_) (fun c1 => ?_)
    · refine lv_iconst (v := 1) hx hb dL_law_1853 (by decide) ?_
      refine va_forget (fun q hq => by have h9 : x0 ≤ q.base := hS.2.2 q hq; omega) ?_
      refine W.widen (k := 601024) (n := 7293034) (by omega) (by omega) ?_
      exact lw_ret hx hb hr hlocks dL_law_1854
    · have hj : 4 * j + 4 ≤ L := by
        have c1 : ¬ (nI L - 4 < nI (4 * j)) := c1
        rw [fa_lt, e4, ej] at c1
        omega
      have h0 : vp_in (nI (4 * j)) L := vp_in_nI (by omega) (by omega)
      refine lv_aload_n hx hb dL_law_32 rfl (lv_at hl 0 rfl) ?_
      refine lv_iload hx hb dL_law_33 (lv_at hl 4 rfl) ?_
      refine va_sld hx hb hX hbl hbA hS h0 dL_law_35 ?_
      refine lv_bipush (v := 31) hx hb dL_law_36 (by decide) ?_
      refine lv_iand hx hb dL_law_38 ?_
      obtain ⟨v, hv, ev⟩ := pk_andE (xs (nI (4 * j)).toNatClampNeg) (m := 31) 5 (by decide)
      rw [ev]
      refine law_disp F hj Z (by omega) (by omega) (fun G M f H locs ls Z => ?_) hv
      obtain ⟨hG, hP, hPM, hS, hl⟩ := Z
      refine lv_iinc (v := nI (4 * (j + 1))) (lv' := [(4, .int (nI (4 * (j + 1)))), (0, .ref b), (1, .ref x0), (2, .ref (x0 + 201)), (3, .ref (x0 + 211))]) hx hb dL_law_1847 hl (k := 4) rfl (nI_add (4 * j) 4) (by decide) rfl (fun ls hl => ?_)
      refine lv_goto (tgt := 23) hx hb dL_law_1850 (by decide) ?_
      refine W.widen (k := 212 + (j + 1)) (n := 4498 + 6 * (j + 1)) (by omega) (by omega) ?_
      exact ih (j + 1) hj (by omega) G M f H locs ls ⟨hG, hP, hPM, hS, lv_sub hl [1, 2, 3, 4, 0] rfl⟩

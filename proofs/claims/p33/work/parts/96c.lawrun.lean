set_option maxHeartbeats 16000000 in
set_option maxRecDepth 100000 in
theorem law_run {p : Program} {l : Launch} {e : Env} {s : State} {m : MethodId} {below : List Frame} {meth : Method} {c : Code} {D : va_G} {cI cC cZ cQ cJ : ClassId} {t lo ca b L q z : Nat} {xs : Nat → Int32} (C0 : lw_At p s m meth c b L xs) (hts : ∀ w ∈ wsL_law, w.before #[Value.ref b] s = true) (hK : va_K D vwCl (gTy cI cC cZ cQ cJ) s) (hE : gEnw t lo s s.heap) (hCh : gChr lo ca s s.heap) (hlS : l.stackTraces = false) (hlo : lo ≤ q) (hx0 : q = s.heap.size) (hd : q + 201 ≤ z) (hL : L < 2 ^ 31) (X : GSt × GSt) {R : GSt × GSt} (h : fL_law L xs X = some R) (H : Heap) (locs : List Loc) (ls : Array Slot) (hP : va_P D vwCl (GGW cI cC cZ cQ q z X) H) (hS : va_S (gGe q) s.heap H locs) (hl : lv_has ls 7 [(0, .ref b), (1, .ref q), (2, .ref z)]) : W p l e room_1 s m #[Value.ref b] below meth c H locs 402 4644 (lw_Z below #[Value.ref b] s) (F0 m 16 ls []) := by
  obtain ⟨hx, hb, hr, hml, hown, htt, hX, hbl, hlocks, hgv⟩ := id C0
  have hown : s.vm.findClass RL = some m.cls := hown
  have hqz : q ≤ z := by omega
  have hbA : ¬ gGe q b := fun y => by have y : q ≤ b := y; omega
  have LP52 : ∀ (kk : (GSt × GSt) → Option (GSt × GSt)) (cX sX : Nat), cX ≤ 600130 → sX ≤ 7301080 → ∀ (n cc ss : Nat) (S : (GSt × GSt)) (x4 : Int32) (H : Heap) (locs : List Loc) (ls : Array Slot), cc + n * 6928 ≤ cX → ss + n * 41566 ≤ sX → fL_law_L52 kk L xs n S x4 = some R → (∀ (S : (GSt × GSt)) (H : Heap) (locs : List Loc) (ls : Array Slot), kk S = some R → va_P D vwCl (GGW cI cC cZ cQ q z S) H → va_S (gGe q) s.heap H locs → lv_has ls 7 [(1, .ref q), (2, .ref z), (3, .int 1)] → W p l e room_1 s m #[Value.ref b] below meth c H locs cX sX (lw_Z below #[Value.ref b] s) (F0 m 264 ls [])) → va_P D vwCl (GGW cI cC cZ cQ q z S) H → va_S (gGe q) s.heap H locs → lv_has ls 7 [(0, .ref b), (1, .ref q), (2, .ref z), (3, .int 1), (4, .int x4)] → W p l e room_1 s m #[Value.ref b] below meth c H locs cc ss (lw_Z below #[Value.ref b] s) (F0 m 52 ls []) := by
    intro kk cX sX hcX hsX n
    induction n with
    | zero => intro cc ss S x4 H locs ls _ _ h hk hP hS hl; exact no_some h
    | succ n ih =>
      intro cc ss S x4 H locs ls hcc hss h hk hP hS hl
      rw [fL_law_L52] at h
      refine lv_iload hx hb dL_law_52 (lv_at hl 4 rfl) ?_
      refine lv_bipush (v := 30) hx hb dL_law_54 (by decide) ?_
      refine lv_icmp_ge (tgt := 264) hx hb dL_law_56 (by decide) (fun c1 => ?_) (fun c1 => ?_)
      · replace h := (if_pos c1).symm.trans h
        refine W.widen (k := cX) (n := sX) (by omega) (by omega) ?_
        exact hk S H locs ls h hP hS (lv_sub hl [1, 2, 3] rfl)
      · replace h := (if_neg c1).symm.trans h
        refine lv_iload_n hx hb dL_law_59 rfl (lv_at hl 3 rfl) ?_
        refine lv_if_eq (tgt := 264) hx hb dL_law_60 (by decide) (fun c => absurd c (by decide)) (fun _ => ?_)
        refine lv_aload_n hx hb dL_law_63 rfl (lv_at hl 0 rfl) ?_
        refine lv_iconst (v := 2) hx hb dL_law_64 (by decide) ?_
        refine lv_iload hx hb dL_law_65 (lv_at hl 4 rfl) ?_
        refine lv_imul hx hb dL_law_67 ?_
        obtain ⟨r68, hr68, h⟩ := bd_some h
        refine gdraw (rest := []) ⟨hx, hb, hml, hown, hts⟩ hX hbl hbA hS hL hr68 gL_law_L_draw hl.1 (Nat.le_of_ble_eq_true rfl) ⟨by show _ ≤ (600130 : Nat); omega, by show _ ≤ (7301080 : Nat); omega⟩ ⟨Nat.le_of_ble_eq_true rfl, Nat.le_of_ble_eq_true rfl⟩ dL_law_68 ?_
        refine lv_istore (lv' := [(5, .int r68), (0, .ref b), (1, .ref q), (2, .ref z), (3, .int 1), (4, .int x4)]) hx hb dL_law_71 hl (by decide) rfl (fun ls hl => ?_)
        refine lv_aload_n hx hb dL_law_73 rfl (lv_at hl 1 rfl) ?_
        refine lv_iconst (v := 2) hx hb dL_law_74 (by decide) ?_
        refine lv_iload hx hb dL_law_75 (lv_at hl 5 rfl) ?_
        refine lv_imul hx hb dL_law_77 ?_
        refine lv_iconst (v := 1) hx hb dL_law_78 (by decide) ?_
        refine lv_iadd hx hb dL_law_79 ?_
        obtain ⟨r80, hr80, h⟩ := bd_some h
        refine gdraw (rest := []) ⟨hx, hb, hml, hown, hts⟩ hX hbl hbA hS hL hr80 gL_law_L_draw hl.1 (Nat.le_of_ble_eq_true rfl) ⟨by show _ ≤ (600130 : Nat); omega, by show _ ≤ (7301080 : Nat); omega⟩ ⟨Nat.le_of_ble_eq_true rfl, Nat.le_of_ble_eq_true rfl⟩ dL_law_80 ?_
        refine lv_istore (lv' := [(6, .int r80), (5, .int r68), (0, .ref b), (1, .ref q), (2, .ref z), (3, .int 1), (4, .int x4)]) hx hb dL_law_83 hl (by decide) rfl (fun ls hl => ?_)
        refine lv_iload hx hb dL_law_85 (lv_at hl 6 rfl) ?_
        refine lv_bipush (v := 15) hx hb dL_law_87 (by decide) ?_
        refine lv_irem hx hb dL_law_89 (by decide) ?_
        obtain ⟨a258_11, haa258_11, h⟩ := bd_some h
        have JJ258 : ∀ (H : Heap) (locs : List Loc) (ls : Array Slot), va_P D vwCl (GGW cI cC cZ cQ q z a258_11) H → va_S (gGe q) s.heap H locs → lv_has ls 7 [(0, .ref b), (1, .ref q), (2, .ref z), (3, .int 1), (4, .int x4)] → W p l e room_1 s m #[Value.ref b] below meth c H locs (cc + 6928) (ss + 41566) (lw_Z below #[Value.ref b] s) (F0 m 258 ls []) := by
          intro H locs ls hP hS hl
          refine lv_iinc (v := (x4 + 1)) (lv' := [(4, .int (x4 + 1)), (0, .ref b), (1, .ref q), (2, .ref z), (3, .int 1)]) hx hb dL_law_258 hl (k := 4) rfl rfl (by decide) rfl (fun ls hl => ?_)
          refine lv_goto (tgt := 52) hx hb dL_law_261 (by decide) ?_
          exact ih (cc + 6928) (ss + 41566) a258_11 (x4 + 1) H locs ls (by omega) (by omega) h hk hP hS (lv_sub hl [1, 2, 3, 4, 0] rfl)
        clear h
        replace h := haa258_11
        clear haa258_11
        refine lv_if_ne (tgt := 124) hx hb dL_law_90 (by decide) (fun c2 => ?_) (fun c2 => ?_)
        · replace h := (if_neg c2).symm.trans h
          refine lv_aload_n hx hb dL_law_124 rfl (lv_at hl 3 rfl) ?_
          refine lv_iload hx hb dL_law_125 (lv_at hl 1 rfl) ?_
          refine lv_iload hx hb dL_law_127 (lv_at hl 0 rfl) ?_
          obtain ⟨r129, hr129, h⟩ := bd_some h
          refine gws_l (As := [.ref q, .int r68, .int r80]) (rest := []) (k2 := (cc + 1)) (n2 := (ss + 6)) ⟨hx, hb, hml, hown, hts⟩ (gEnw_now hE hS (fun _ h9 => Nat.le_trans hlo h9)) hK (kL_act l D cI cC cZ cQ cJ t lo q (nP S) r68 r80 hlo hlS hr129) (va_cwS 3 hts gL_law_L_act rfl rfl rfl (by decide +kernel) ⟨Nat.le_of_ble_eq_true rfl, Nat.le_of_ble_eq_true rfl⟩) (GGW_gP (X := S) hP) hS (fun _ h9 => h9.1) rfl hl.1 rfl (Nat.le_of_ble_eq_true rfl) ⟨by show _ ≤ (600130 : Nat); omega, by show _ ≤ (7301080 : Nat); omega⟩ rfl rfl dL_law_129 (fun H1 locs hP1 hS hz1 hk1 => ?_)
          have hP : va_P D vwCl (GGW cI cC cZ cQ q z (r129.2, (nQ S))) H1 := GGW_P (X := S) hd hP hP1 hk1
          generalize H1 = H at hP hS ⊢
          refine lv_aload_n hx hb dL_law_132 rfl (lv_at hl 4 rfl) ?_
          refine lv_iload hx hb dL_law_133 (lv_at hl 1 rfl) ?_
          refine lv_iload hx hb dL_law_135 (lv_at hl 0 rfl) ?_
          obtain ⟨r137, hr137, h⟩ := bd_some h
          refine gws_l (As := [.ref z, .int r68, .int r80]) (rest := [.long r129.1]) (k2 := (cc + 2)) (n2 := (ss + 12)) ⟨hx, hb, hml, hown, hts⟩ (gEnw_now hE hS (fun _ h9 => Nat.le_trans hlo h9)) hK (kL_act l D cI cC cZ cQ cJ t lo z (nQ S) r68 r80 (Nat.le_trans hlo (Nat.le_trans (Nat.le_add_right _ _) hd)) hlS hr137) (va_cwS 3 hts gL_law_L_act rfl rfl rfl (by decide +kernel) ⟨Nat.le_of_ble_eq_true rfl, Nat.le_of_ble_eq_true rfl⟩) (GGW_gQ (X := (r129.2, (nQ S))) hP) hS (fun _ h9 => Nat.le_trans hqz h9.1) rfl hl.1 rfl (Nat.le_of_ble_eq_true rfl) ⟨by show _ ≤ (600130 : Nat); omega, by show _ ≤ (7301080 : Nat); omega⟩ rfl rfl dL_law_137 (fun H1 locs hP1 hS hz1 hk1 => ?_)
          have hP : va_P D vwCl (GGW cI cC cZ cQ q z (r129.2, r137.2)) H1 := GGW_Q (X := (r129.2, (nQ S))) hd hP hP1 hk1
          generalize H1 = H at hP hS ⊢
          refine W.lcmp hx hb dL_law_140 ?_
          refine lv_if_ne (tgt := 148) hx hb dL_law_141 (by decide) (fun c3 => ?_) (fun c3 => ?_)
          · replace h := (if_neg c3).symm.trans h
            exact no_some h
          · replace h := (if_pos c3).symm.trans h
            refine lv_iconst (v := 1) hx hb dL_law_144 (by decide) ?_
            refine lv_goto (tgt := 149) hx hb dL_law_145 (by decide) ?_
            refine lv_istore_n (lv' := [(3, .int 1), (6, .int r80), (5, .int r68), (0, .ref b), (1, .ref q), (2, .ref z), (4, .int x4)]) hx hb dL_law_149 rfl hl (by decide) rfl (fun ls hl => ?_)
            refine lv_iload hx hb dL_law_150 (lv_at hl 6 rfl) ?_
            refine lv_iconst (v := 4) hx hb dL_law_152 (by decide) ?_
            refine lv_irem hx hb dL_law_153 (by decide) ?_
            obtain ⟨a181_4, haa181_4, h⟩ := bd_some h
            have JJ181 : ∀ (H : Heap) (locs : List Loc) (ls : Array Slot), va_P D vwCl (GGW cI cC cZ cQ q z a181_4) H → va_S (gGe q) s.heap H locs → lv_has ls 7 [(0, .ref b), (1, .ref q), (2, .ref z), (3, .int 1), (4, .int x4), (6, .int r80)] → W p l e room_1 s m #[Value.ref b] below meth c H locs (cc + 1505) (ss + 9028) (lw_Z below #[Value.ref b] s) (F0 m 181 ls []) := by
              intro H locs ls hP hS hl
              refine lv_iload hx hb dL_law_181 (lv_at hl 4 rfl) ?_
              refine lv_bipush (v := 15) hx hb dL_law_183 (by decide) ?_
              refine lv_irem hx hb dL_law_185 (by decide) ?_
              refine lv_bipush (v := 14) hx hb dL_law_186 (by decide) ?_
              obtain ⟨a230_8, haa230_8, h⟩ := bd_some h
              have JJ230 : ∀ (H : Heap) (locs : List Loc) (ls : Array Slot), va_P D vwCl (GGW cI cC cZ cQ q z a230_8) H → va_S (gGe q) s.heap H locs → lv_has ls 7 [(0, .ref b), (1, .ref q), (2, .ref z), (3, .int 1), (4, .int x4), (6, .int r80)] → W p l e room_1 s m #[Value.ref b] below meth c H locs (cc + 6584) (ss + 39502) (lw_Z below #[Value.ref b] s) (F0 m 230 ls []) := by
                intro H locs ls hP hS hl
                refine lv_iload_n hx hb dL_law_230 rfl (lv_at hl 3 rfl) ?_
                refine lv_if_eq (tgt := 256) hx hb dL_law_231 (by decide) (fun c => absurd c (by decide)) (fun _ => ?_)
                refine lv_iload hx hb dL_law_234 (lv_at hl 4 rfl) ?_
                refine lv_bipush (v := 6) hx hb dL_law_236 (by decide) ?_
                refine lv_irem hx hb dL_law_238 (by decide) ?_
                obtain ⟨a252_10, haa252_10, h⟩ := bd_some h
                have JJ252 : ∀ (H : Heap) (locs : List Loc) (ls : Array Slot), va_P D vwCl (GGW cI cC cZ cQ q z a252_10) H → va_S (gGe q) s.heap H locs → lv_has ls 7 [(0, .ref b), (1, .ref q), (2, .ref z), (4, .int x4)] → W p l e room_1 s m #[Value.ref b] below meth c H locs (cc + 6928) (ss + 41566) (lw_Z below #[Value.ref b] s) (F0 m 252 ls []) := by
                  intro H locs ls hP hS hl
                  refine lv_iconst (v := 1) hx hb dL_law_252 (by decide) ?_
                  refine lv_goto (tgt := 257) hx hb dL_law_253 (by decide) ?_
                  refine lv_istore_n (lv' := [(3, .int 1), (0, .ref b), (1, .ref q), (2, .ref z), (4, .int x4)]) hx hb dL_law_257 rfl hl (by decide) rfl (fun ls hl => ?_)
                  have h := Option.some.inj h
                  subst h
                  refine W.widen (k := (cc + 6928)) (n := (ss + 41566)) (by omega) (by omega) ?_
                  exact JJ258 H locs ls hP hS (lv_sub hl [1, 2, 3, 0, 4] rfl)
                clear h
                replace h := haa252_10
                clear haa252_10
                refine lv_if_gt (tgt := 252) hx hb dL_law_239 (by decide) (fun c10 => ?_) (fun c10 => ?_)
                · replace h := (if_pos c10).symm.trans h
                  have h := Option.some.inj h
                  subst h
                  refine W.widen (k := (cc + 6928)) (n := (ss + 41566)) (by omega) (by omega) ?_
                  exact JJ252 H locs ls hP hS (lv_sub hl [0, 1, 2, 4] rfl)
                · replace h := (if_neg c10).symm.trans h
                  refine lv_aload_n hx hb dL_law_242 rfl (lv_at hl 1 rfl) ?_
                  refine lv_aload_n hx hb dL_law_243 rfl (lv_at hl 2 rfl) ?_
                  refine lv_iload hx hb dL_law_244 (lv_at hl 5 rfl) ?_
                  obtain ⟨r246, hr246, h⟩ := bd_some h
                  refine gws_i (As := [.ref q, .ref z, .int r80]) (rest := []) (k2 := (cc + 6928)) (n2 := (ss + 41566)) ⟨hx, hb, hml, hown, hts⟩ (gEnw_now hE hS (fun _ h9 => Nat.le_trans hlo h9)) hK (kL_alike l D cI cC cZ cQ cJ t lo q z a230_8 r80 hd hlo hlS hr246) (va_cwS 3 hts gL_law_L_alike rfl rfl rfl (by decide +kernel) ⟨Nat.le_of_ble_eq_true rfl, Nat.le_of_ble_eq_true rfl⟩) hP hS (fun _ h9 => gOr_ge hqz h9) rfl hl.1 rfl (Nat.le_of_ble_eq_true rfl) ⟨by show _ ≤ (600130 : Nat); omega, by show _ ≤ (7301080 : Nat); omega⟩ rfl rfl dL_law_246 (fun H1 locs hP1 hS hz1 hk1 => ?_)
                  have hP : va_P D vwCl (GGW cI cC cZ cQ q z r246) H1 := hP1
                  generalize H1 = H at hP hS ⊢
                  refine lv_if_eq (tgt := 256) hx hb dL_law_249 (by decide) (fun c => absurd c (by decide)) (fun _ => ?_)
                  have h := Option.some.inj h
                  subst h
                  refine W.widen (k := (cc + 6928)) (n := (ss + 41566)) (by omega) (by omega) ?_
                  exact JJ252 H locs ls hP hS (lv_sub hl [0, 1, 2, 4] rfl)
              clear h
              replace h := haa230_8
              clear haa230_8
              refine lv_icmp_ne (tgt := 230) hx hb dL_law_188 (by decide) (fun c6 => ?_) (fun c6 => ?_)
              · replace h := (if_neg c6).symm.trans h
                have h := Option.some.inj h
                subst h
                refine W.widen (k := (cc + 6584)) (n := (ss + 39502)) (by omega) (by omega) ?_
                exact JJ230 H locs ls hP hS (lv_sub hl [0, 1, 2, 3, 4, 5] rfl)
              · replace h := (if_pos c6).symm.trans h
                refine lv_iload_n hx hb dL_law_191 rfl (lv_at hl 3 rfl) ?_
                refine lv_if_eq (tgt := 228) hx hb dL_law_192 (by decide) (fun c => absurd c (by decide)) (fun _ => ?_)
                refine lv_aload_n hx hb dL_law_195 rfl (lv_at hl 2 rfl) ?_
                refine lv_iload hx hb dL_law_196 (lv_at hl 5 rfl) ?_
                obtain ⟨r198, hr198, h⟩ := bd_some h
                refine gws_i (As := [.ref z, .int r80]) (rest := []) (k2 := (cc + 6582)) (n2 := (ss + 39490)) ⟨hx, hb, hml, hown, hts⟩ (gEnw_now hE hS (fun _ h9 => Nat.le_trans hlo h9)) hK (kL_follows l D cI cC cZ cQ cJ t lo z (nQ a181_4) r80 (Nat.le_trans hlo (Nat.le_trans (Nat.le_add_right _ _) hd)) hlS hr198) (va_cwS 2 hts gL_law_L_follows rfl rfl rfl (by decide +kernel) ⟨Nat.le_of_ble_eq_true rfl, Nat.le_of_ble_eq_true rfl⟩) (GGW_gQ (X := a181_4) hP) hS (fun _ h9 => Nat.le_trans hqz h9.1) rfl hl.1 rfl (Nat.le_of_ble_eq_true rfl) ⟨by show _ ≤ (600130 : Nat); omega, by show _ ≤ (7301080 : Nat); omega⟩ rfl rfl dL_law_198 (fun H1 locs hP1 hS hz1 hk1 => ?_)
                have hP : va_P D vwCl (GGW cI cC cZ cQ q z ((nP a181_4), r198)) H1 := GGW_Q (X := a181_4) hd hP hP1 hk1
                generalize H1 = H at hP hS ⊢
                refine lv_if_eq (tgt := 228) hx hb dL_law_201 (by decide) (fun c => absurd c (by decide)) (fun _ => ?_)
                refine lv_aload_n hx hb dL_law_204 rfl (lv_at hl 1 rfl) ?_
                refine lv_iconst (v := 1) hx hb dL_law_205 (by decide) ?_
                obtain ⟨r206, hr206, h⟩ := bd_some h
                refine gww_l (As := [.ref q, .int 1]) (rest := []) (k2 := (cc + 6583)) (n2 := (ss + 39496)) ⟨hx, hb, hml, hown, hts⟩ (gEnw_now hE hS (fun _ h9 => Nat.le_trans hlo h9)) hK (kL_save l D cI cC cZ cQ cJ t lo q (nP a181_4) 1 hlo hlS hr206) (vx_cwSW 2 hts gL_law_L_save rfl rfl rfl (by decide +kernel) ⟨Nat.le_of_ble_eq_true rfl, Nat.le_of_ble_eq_true rfl⟩) (GGW_gP (X := ((nP a181_4), r198)) hP) hS (fun _ h9 => h9.1) rfl hl.1 rfl (Nat.le_of_ble_eq_true rfl) ⟨by show _ ≤ (600130 : Nat); omega, by show _ ≤ (7301080 : Nat); omega⟩ rfl rfl dL_law_206 (fun H1 locs hP1 hS hz1 hk1 => ?_)
                have hP : va_P D vwCl (GGW cI cC cZ cQ q z (r206.2, r198)) H1 := GGW_P (X := ((nP a181_4), r198)) hd hP hP1 hk1
                generalize H1 = H at hP hS ⊢
                refine lv_lconst (v := 0) hx hb dL_law_209 (by decide) ?_
                refine W.lcmp hx hb dL_law_210 ?_
                refine lv_if_lt (tgt := 228) hx hb dL_law_211 (by decide) (fun c7 => ?_) (fun c7 => ?_)
                · replace h := (if_pos c7).symm.trans h
                  exact no_some h
                · replace h := (if_neg c7).symm.trans h
                  refine lv_aload_n hx hb dL_law_214 rfl (lv_at hl 1 rfl) ?_
                  refine lv_iconst (v := 1) hx hb dL_law_215 (by decide) ?_
                  obtain ⟨r216, hr216, h⟩ := bd_some h
                  refine gww_l (As := [.ref q, .int 1]) (rest := []) (k2 := (cc + 6584)) (n2 := (ss + 39502)) ⟨hx, hb, hml, hown, hts⟩ (gEnw_now hE hS (fun _ h9 => Nat.le_trans hlo h9)) hK (kL_restore l D cI cC cZ cQ cJ t lo q r206.2 1 hlo hlS hr216) (vx_cwSW 2 hts gL_law_L_restore rfl rfl rfl (by decide +kernel) ⟨Nat.le_of_ble_eq_true rfl, Nat.le_of_ble_eq_true rfl⟩) (GGW_gP (X := (r206.2, r198)) hP) hS (fun _ h9 => h9.1) rfl hl.1 rfl (Nat.le_of_ble_eq_true rfl) ⟨by show _ ≤ (600130 : Nat); omega, by show _ ≤ (7301080 : Nat); omega⟩ rfl rfl dL_law_216 (fun H1 locs hP1 hS hz1 hk1 => ?_)
                  have hP : va_P D vwCl (GGW cI cC cZ cQ q z (r216.2, r198)) H1 := GGW_P (X := (r206.2, r198)) hd hP hP1 hk1
                  generalize H1 = H at hP hS ⊢
                  refine lv_lconst (v := 0) hx hb dL_law_219 (by decide) ?_
                  refine W.lcmp hx hb dL_law_220 ?_
                  refine lv_if_lt (tgt := 228) hx hb dL_law_221 (by decide) (fun c8 => ?_) (fun c8 => ?_)
                  · replace h := (if_pos c8).symm.trans h
                    exact no_some h
                  · replace h := (if_neg c8).symm.trans h
                    refine lv_iconst (v := 1) hx hb dL_law_224 (by decide) ?_
                    refine lv_goto (tgt := 229) hx hb dL_law_225 (by decide) ?_
                    refine lv_istore_n (lv' := [(3, .int 1), (0, .ref b), (1, .ref q), (2, .ref z), (4, .int x4), (6, .int r80)]) hx hb dL_law_229 rfl hl (by decide) rfl (fun ls hl => ?_)
                    have h := Option.some.inj h
                    subst h
                    refine W.widen (k := (cc + 6584)) (n := (ss + 39502)) (by omega) (by omega) ?_
                    exact JJ230 H locs ls hP hS (lv_sub hl [1, 2, 3, 0, 4, 5] rfl)
            clear h
            replace h := haa181_4
            clear haa181_4
            refine lv_if_ne (tgt := 181) hx hb dL_law_154 (by decide) (fun c4 => ?_) (fun c4 => ?_)
            · replace h := (if_neg c4).symm.trans h
              have h := Option.some.inj h
              subst h
              refine W.widen (k := (cc + 1505)) (n := (ss + 9028)) (by omega) (by omega) ?_
              exact JJ181 H locs ls hP hS (lv_sub hl [3, 4, 5, 0, 6, 1] rfl)
            · replace h := (if_pos c4).symm.trans h
              refine lv_iload_n hx hb dL_law_157 rfl (lv_at hl 0 rfl) ?_
              refine lv_if_eq (tgt := 179) hx hb dL_law_158 (by decide) (fun c => absurd c (by decide)) (fun _ => ?_)
              refine lv_aload_n hx hb dL_law_161 rfl (lv_at hl 5 rfl) ?_
              obtain ⟨r162, hr162, h⟩ := bd_some h
              refine gws_i (As := [.ref z]) (rest := []) (k2 := (cc + 332)) (n2 := (ss + 1992)) ⟨hx, hb, hml, hown, hts⟩ (gEnw_now hE hS (fun _ h9 => Nat.le_trans hlo h9)) hK (kL_errors l D cI cC cZ cQ cJ t lo z r137.2 (Nat.le_trans hlo (Nat.le_trans (Nat.le_add_right _ _) hd)) hlS hr162) (va_cwS 1 hts gL_law_L_errors rfl rfl rfl (by decide +kernel) ⟨Nat.le_of_ble_eq_true rfl, Nat.le_of_ble_eq_true rfl⟩) (GGW_gQ (X := (r129.2, r137.2)) hP) hS (fun _ h9 => Nat.le_trans hqz h9.1) rfl hl.1 rfl (Nat.le_of_ble_eq_true rfl) ⟨by show _ ≤ (600130 : Nat); omega, by show _ ≤ (7301080 : Nat); omega⟩ rfl rfl dL_law_162 (fun H1 locs hP1 hS hz1 hk1 => ?_)
              have hP : va_P D vwCl (GGW cI cC cZ cQ q z (r129.2, r162)) H1 := GGW_Q (X := (r129.2, r137.2)) hd hP hP1 hk1
              generalize H1 = H at hP hS ⊢
              refine lv_if_eq (tgt := 179) hx hb dL_law_165 (by decide) (fun c => absurd c (by decide)) (fun _ => ?_)
              refine lv_aload_n hx hb dL_law_168 rfl (lv_at hl 5 rfl) ?_
              obtain ⟨r169, hr169, h⟩ := bd_some h
              refine gwsC_i (As := [.ref z]) (rest := []) (k2 := (cc + 1505)) (n2 := (ss + 9028)) ⟨hx, hb, hml, hown, hts⟩ (hCh.now hS (fun _ h9 => Nat.le_trans hlo h9)) (gEnw_now hE hS (fun _ h9 => Nat.le_trans hlo h9)) hK (kL_built l D cI cC cZ cQ cJ t lo z r162 (Nat.le_trans hlo (Nat.le_trans (Nat.le_add_right _ _) hd)) hlS hr169) (va_cwS 1 hts gL_law_L_built rfl rfl rfl (by decide +kernel) ⟨Nat.le_of_ble_eq_true rfl, Nat.le_of_ble_eq_true rfl⟩) (GGW_gQ (X := (r129.2, r162)) hP) hS (fun _ h9 => Nat.le_trans hqz h9.1) rfl hl.1 rfl (Nat.le_of_ble_eq_true rfl) ⟨by show _ ≤ (600130 : Nat); omega, by show _ ≤ (7301080 : Nat); omega⟩ rfl rfl dL_law_169 (fun H1 locs hP1 hS hz1 hk1 => ?_)
              have hP : va_P D vwCl (GGW cI cC cZ cQ q z (r129.2, r169)) H1 := GGW_Q (X := (r129.2, r162)) hd hP hP1 hk1
              generalize H1 = H at hP hS ⊢
              refine lv_if_eq (tgt := 179) hx hb dL_law_172 (by decide) (fun c => absurd c (by decide)) (fun _ => ?_)
              refine lv_iconst (v := 1) hx hb dL_law_175 (by decide) ?_
              refine lv_goto (tgt := 180) hx hb dL_law_176 (by decide) ?_
              refine lv_istore_n (lv' := [(3, .int 1), (6, .int r80), (5, .int r68), (0, .ref b), (1, .ref q), (2, .ref z), (4, .int x4)]) hx hb dL_law_180 rfl hl (by decide) rfl (fun ls hl => ?_)
              have h := Option.some.inj h
              subst h
              refine W.widen (k := (cc + 1505)) (n := (ss + 9028)) (by omega) (by omega) ?_
              exact JJ181 H locs ls hP hS (lv_sub hl [3, 4, 5, 0, 6, 1] rfl)
        · replace h := (if_pos c2).symm.trans h
          refine lv_aload_n hx hb dL_law_93 rfl (lv_at hl 3 rfl) ?_
          refine lv_iload hx hb dL_law_94 (lv_at hl 1 rfl) ?_
          refine lv_iload hx hb dL_law_96 (lv_at hl 0 rfl) ?_
          obtain ⟨r98, hr98, h⟩ := bd_some h
          refine gws_i (As := [.ref q, .int r68, .int r80]) (rest := []) (k2 := (cc + 44)) (n2 := (ss + 264)) ⟨hx, hb, hml, hown, hts⟩ (gEnw_now hE hS (fun _ h9 => Nat.le_trans hlo h9)) hK (kL_tells l D cI cC cZ cQ cJ t lo q (nP S) r68 r80 hlo hlS hr98) (va_cwS 3 hts gL_law_L_tells rfl rfl rfl (by decide +kernel) ⟨Nat.le_of_ble_eq_true rfl, Nat.le_of_ble_eq_true rfl⟩) (GGW_gP (X := S) hP) hS (fun _ h9 => h9.1) rfl hl.1 rfl (Nat.le_of_ble_eq_true rfl) ⟨by show _ ≤ (600130 : Nat); omega, by show _ ≤ (7301080 : Nat); omega⟩ rfl rfl dL_law_98 (fun H1 locs hP1 hS hz1 hk1 => ?_)
          have hP : va_P D vwCl (GGW cI cC cZ cQ q z (r98, (nQ S))) H1 := GGW_P (X := S) hd hP hP1 hk1
          generalize H1 = H at hP hS ⊢
          refine lv_if_eq (tgt := 119) hx hb dL_law_101 (by decide) (fun c => absurd c (by decide)) (fun _ => ?_)
          refine lv_aload_n hx hb dL_law_104 rfl (lv_at hl 4 rfl) ?_
          refine lv_iload hx hb dL_law_105 (lv_at hl 1 rfl) ?_
          refine lv_iload hx hb dL_law_107 (lv_at hl 0 rfl) ?_
          obtain ⟨r109, hr109, h⟩ := bd_some h
          refine gws_i (As := [.ref z, .int r68, .int r80]) (rest := []) (k2 := (cc + 88)) (n2 := (ss + 528)) ⟨hx, hb, hml, hown, hts⟩ (gEnw_now hE hS (fun _ h9 => Nat.le_trans hlo h9)) hK (kL_tells l D cI cC cZ cQ cJ t lo z (nQ S) r68 r80 (Nat.le_trans hlo (Nat.le_trans (Nat.le_add_right _ _) hd)) hlS hr109) (va_cwS 3 hts gL_law_L_tells rfl rfl rfl (by decide +kernel) ⟨Nat.le_of_ble_eq_true rfl, Nat.le_of_ble_eq_true rfl⟩) (GGW_gQ (X := (r98, (nQ S))) hP) hS (fun _ h9 => Nat.le_trans hqz h9.1) rfl hl.1 rfl (Nat.le_of_ble_eq_true rfl) ⟨by show _ ≤ (600130 : Nat); omega, by show _ ≤ (7301080 : Nat); omega⟩ rfl rfl dL_law_109 (fun H1 locs hP1 hS hz1 hk1 => ?_)
          have hP : va_P D vwCl (GGW cI cC cZ cQ q z (r98, r109)) H1 := GGW_Q (X := (r98, (nQ S))) hd hP hP1 hk1
          generalize H1 = H at hP hS ⊢
          refine lv_if_eq (tgt := 119) hx hb dL_law_112 (by decide) (fun c => absurd c (by decide)) (fun _ => ?_)
          refine lv_iconst (v := 1) hx hb dL_law_115 (by decide) ?_
          refine lv_goto (tgt := 120) hx hb dL_law_116 (by decide) ?_
          refine lv_istore_n (lv' := [(3, .int 1), (6, .int r80), (5, .int r68), (0, .ref b), (1, .ref q), (2, .ref z), (4, .int x4)]) hx hb dL_law_120 rfl hl (by decide) rfl (fun ls hl => ?_)
          refine lv_goto (tgt := 258) hx hb dL_law_121 (by decide) ?_
          have h := Option.some.inj h
          subst h
          refine W.widen (k := (cc + 6928)) (n := (ss + 41566)) (by omega) (by omega) ?_
          exact JJ258 H locs ls hP hS (lv_sub hl [3, 4, 5, 0, 6] rfl)
  unfold fL_law at h
  refine lv_aload_n hx hb dL_law_16 rfl (lv_at hl 1 rfl) ?_
  refine lv_aload_n hx hb dL_law_17 rfl (lv_at hl 2 rfl) ?_
  refine lv_aload_n hx hb dL_law_18 rfl (lv_at hl 0 rfl) ?_
  refine lv_iconst (v := 0) hx hb dL_law_19 (by decide) ?_
  obtain ⟨r20, hr20, h⟩ := bd_some h
  refine gdraw (rest := [.ref z, .ref q]) ⟨hx, hb, hml, hown, hts⟩ hX hbl hbA hS hL hr20 gL_law_L_draw hl.1 (Nat.le_of_ble_eq_true rfl) ⟨by show _ ≤ (600130 : Nat); omega, by show _ ≤ (7301080 : Nat); omega⟩ ⟨Nat.le_of_ble_eq_true rfl, Nat.le_of_ble_eq_true rfl⟩ dL_law_20 ?_
  obtain ⟨r23, hr23, h⟩ := bd_some h
  refine gws_i (As := [.ref q, .ref z, .int r20]) (rest := []) (k2 := 746) (n2 := 6708) ⟨hx, hb, hml, hown, hts⟩ (gEnw_now hE hS (fun _ h9 => Nat.le_trans hlo h9)) hK (kL_alike l D cI cC cZ cQ cJ t lo q z X r20 hd hlo hlS hr23) (va_cwS 3 hts gL_law_L_alike rfl rfl rfl (by decide +kernel) ⟨Nat.le_of_ble_eq_true rfl, Nat.le_of_ble_eq_true rfl⟩) hP hS (fun _ h9 => gOr_ge hqz h9) rfl hl.1 rfl (Nat.le_of_ble_eq_true rfl) ⟨by show _ ≤ (600130 : Nat); omega, by show _ ≤ (7301080 : Nat); omega⟩ rfl rfl dL_law_23 (fun H1 locs hP1 hS hz1 hk1 => ?_)
  have hP : va_P D vwCl (GGW cI cC cZ cQ q z r23) H1 := hP1
  generalize H1 = H at hP hS ⊢
  refine lv_if_eq (tgt := 47) hx hb dL_law_26 (by decide) (fun c => absurd c (by decide)) (fun _ => ?_)
  refine lv_aload_n hx hb dL_law_29 rfl (lv_at hl 1 rfl) ?_
  obtain ⟨r30, hr30, h⟩ := bd_some h
  refine gws_i (As := [.ref q]) (rest := []) (k2 := 1076) (n2 := 8688) ⟨hx, hb, hml, hown, hts⟩ (gEnw_now hE hS (fun _ h9 => Nat.le_trans hlo h9)) hK (kL_errors l D cI cC cZ cQ cJ t lo q (nP r23) hlo hlS hr30) (va_cwS 1 hts gL_law_L_errors rfl rfl rfl (by decide +kernel) ⟨Nat.le_of_ble_eq_true rfl, Nat.le_of_ble_eq_true rfl⟩) (GGW_gP (X := r23) hP) hS (fun _ h9 => h9.1) rfl hl.1 rfl (Nat.le_of_ble_eq_true rfl) ⟨by show _ ≤ (600130 : Nat); omega, by show _ ≤ (7301080 : Nat); omega⟩ rfl rfl dL_law_30 (fun H1 locs hP1 hS hz1 hk1 => ?_)
  have hP : va_P D vwCl (GGW cI cC cZ cQ q z (r30, (nQ r23))) H1 := GGW_P (X := r23) hd hP hP1 hk1
  generalize H1 = H at hP hS ⊢
  refine lv_if_eq (tgt := 47) hx hb dL_law_33 (by decide) (fun c => absurd c (by decide)) (fun _ => ?_)
  refine lv_aload_n hx hb dL_law_36 rfl (lv_at hl 1 rfl) ?_
  obtain ⟨r37, hr37, h⟩ := bd_some h
  refine gwsC_i (As := [.ref q]) (rest := []) (k2 := 2249) (n2 := 15724) ⟨hx, hb, hml, hown, hts⟩ (hCh.now hS (fun _ h9 => Nat.le_trans hlo h9)) (gEnw_now hE hS (fun _ h9 => Nat.le_trans hlo h9)) hK (kL_built l D cI cC cZ cQ cJ t lo q r30 hlo hlS hr37) (va_cwS 1 hts gL_law_L_built rfl rfl rfl (by decide +kernel) ⟨Nat.le_of_ble_eq_true rfl, Nat.le_of_ble_eq_true rfl⟩) (GGW_gP (X := (r30, (nQ r23))) hP) hS (fun _ h9 => h9.1) rfl hl.1 rfl (Nat.le_of_ble_eq_true rfl) ⟨by show _ ≤ (600130 : Nat); omega, by show _ ≤ (7301080 : Nat); omega⟩ rfl rfl dL_law_37 (fun H1 locs hP1 hS hz1 hk1 => ?_)
  have hP : va_P D vwCl (GGW cI cC cZ cQ q z (r37, (nQ r23))) H1 := GGW_P (X := (r30, (nQ r23))) hd hP hP1 hk1
  generalize H1 = H at hP hS ⊢
  refine lv_if_eq (tgt := 47) hx hb dL_law_40 (by decide) (fun c => absurd c (by decide)) (fun _ => ?_)
  refine lv_iconst (v := 1) hx hb dL_law_43 (by decide) ?_
  refine lv_goto (tgt := 48) hx hb dL_law_44 (by decide) ?_
  refine lv_istore_n (lv' := [(3, .int 1), (0, .ref b), (1, .ref q), (2, .ref z)]) hx hb dL_law_48 rfl hl (by decide) rfl (fun ls hl => ?_)
  refine lv_iconst (v := 0) hx hb dL_law_49 (by decide) ?_
  refine lv_istore (lv' := [(4, .int 0), (3, .int 1), (0, .ref b), (1, .ref q), (2, .ref z)]) hx hb dL_law_50 hl (by decide) rfl (fun ls hl => ?_)
  refine LP52 _ 217017 1304270 (by omega) (by omega) 31 2249 15724 (r37, (nQ r23)) 0 H locs ls (by omega) (by omega) h (fun S H locs ls h hP hS hl => ?_) hP hS (lv_sub hl [2, 3, 4, 1, 0] rfl)
  refine lv_iload_n hx hb dL_law_264 rfl (lv_at hl 2 rfl) ?_
  refine lv_if_eq (tgt := 283) hx hb dL_law_265 (by decide) (fun c => absurd c (by decide)) (fun _ => ?_)
  refine lv_aload_n hx hb dL_law_268 rfl (lv_at hl 0 rfl) ?_
  refine lv_aload_n hx hb dL_law_269 rfl (lv_at hl 1 rfl) ?_
  refine lv_ldcw (v := 35753) hx hb hown (hts (.constant RL 267 (35753)) (by decide +kernel)) dL_law_270 ?_
  obtain ⟨r273, hr273, h⟩ := bd_some h
  refine gws_i (As := [.ref q, .ref z, .int 35753]) (rest := []) (k2 := 217361) (n2 := 1306334) ⟨hx, hb, hml, hown, hts⟩ (gEnw_now hE hS (fun _ h9 => Nat.le_trans hlo h9)) hK (kL_alike l D cI cC cZ cQ cJ t lo q z S 35753 hd hlo hlS hr273) (va_cwS 3 hts gL_law_L_alike rfl rfl rfl (by decide +kernel) ⟨Nat.le_of_ble_eq_true rfl, Nat.le_of_ble_eq_true rfl⟩) hP hS (fun _ h9 => gOr_ge hqz h9) rfl hl.1 rfl (Nat.le_of_ble_eq_true rfl) ⟨by show _ ≤ (600130 : Nat); omega, by show _ ≤ (7301080 : Nat); omega⟩ rfl rfl dL_law_273 (fun H1 locs hP1 hS hz1 hk1 => ?_)
  have hP : va_P D vwCl (GGW cI cC cZ cQ q z r273) H1 := hP1
  generalize H1 = H at hP hS ⊢
  refine lv_if_eq (tgt := 283) hx hb dL_law_276 (by decide) (fun c => absurd c (by decide)) (fun _ => ?_)
  refine lv_iconst (v := 1) hx hb dL_law_279 (by decide) ?_
  refine lv_goto (tgt := 284) hx hb dL_law_280 (by decide) ?_
  refine va_forget (fun q9 h9 => by have h8 : q ≤ q9.base := hS.2.2 q9 h9; omega) ?_
  refine W.widen (k := 600130) (n := 7301080) (by omega) (by omega) ?_
  exact lw_ret hx hb hr hlocks dL_law_284

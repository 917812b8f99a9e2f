set_option maxHeartbeats 16000000 in
set_option maxRecDepth 100000 in
theorem kL_alike (l : Launch) (D : va_G) (cI cC cZ cQ cJ : ClassId) (t lo : Nat) (q : Nat) (z : Nat) (X : GSt × GSt) (p0 : Int32) (hd : q + 201 ≤ z) (hlo : lo ≤ q) (hlS : l.stackTraces = false) {R : (GSt × GSt)} (h : fL_alike X p0 = some R) : Met l yL_alike wsL_alike ({ frames := 10, cells := 344, slots := 2064, locals := 182 } : Room) (va_Pc [.ref q, .ref z, .int p0] (gBw D (gTy cI cC cZ cQ cJ) t lo (va_P D vwCl (GGW cI cC cZ cQ q z X)))) (va_Qi (fun r (_ : Unit) => r = 1) (fun _ t => va_P D vwCl (GGW cI cC cZ cQ q z R) t.heap) (gOr (fIv q 201) (fIv z 201))) 344 2064 (gOr (fIv q 201) (fIv z 201)) := by
  refine Met.ofW (cc := cL_alike) (maxL := 8) (ret := (some .boolean)) (by decide) rfl ?_
  intro p e s m args below meth c s₁ B hml hv
  obtain ⟨rfl, ⟨hP, hK⟩, hE⟩ := hv
  have hx := B.exec
  have hb := B.bytes
  have hr := B.returns
  have hts := atoms_spec (ws := wsL_alike) B.pre
  have hown : s.vm.findClass RL = some m.cls := findClass_of_methodNamed B.named
  generalize hRM : (headSpec wsL_alike ({ frames := 10, cells := 344, slots := 2064, locals := 182 } : Room)).room = RM
  replace hRM : ({ frames := 10, cells := 344, slots := 2064, locals := 182 } : Room) = RM := hRM
  subst hRM
  have hl := lv_entry ([.ref q, .ref z, .int p0]) (n := 8) (Nat.le_of_ble_eq_true rfl)
  rw [lg_entry_eq]
  generalize (lg_sl ([.ref q, .ref z, .int p0]) ++ List.replicate (8 - (lg_sl ([.ref q, .ref z, .int p0])).length) Slot.unset).toArray = ls at hl ⊢
  have hl : lv_has ls 8 [(0, .ref q), (1, .ref z), (2, .int p0)] := hl
  have hS : va_S (gOr (fIv q 201) (fIv z 201)) s.heap s.heap [] := va_S.rf
  have hP0 := hP
  have LP196 : ∀ (kk : (GSt × GSt) → Int32 → Int32 → Option (GSt × GSt)) (cX sX : Nat), cX ≤ 344 → sX ≤ 2064 → ∀ (n cc ss : Nat) (S : (GSt × GSt)) (x2 : Int32) (x4 : Int32) (x6 : Int32) (H : Heap) (locs : List Loc) (ls : Array Slot), cc + n * 8 ≤ cX → ss + n * 48 ≤ sX → fL_alike_L196 kk n S x2 x4 x6 = some R → (∀ (S : (GSt × GSt)) (y2 : Int32) (y4 : Int32) (H : Heap) (locs : List Loc) (ls : Array Slot), kk S y2 y4 = some R → va_P D vwCl (GGW cI cC cZ cQ q z S) H → va_S (gOr (fIv q 201) (fIv z 201)) s.heap H locs → lv_has ls 8 [(0, .ref q), (1, .ref z), (2, .int y2), (4, .int y4), (5, .int 1)] → W p l e ({ frames := 10, cells := 344, slots := 2064, locals := 182 } : Room) s m ([.ref q, .ref z, .int p0] : List Value).toArray below meth c H locs cX sX (MQ below (va_Qi (fun r (_ : Unit) => r = 1) (fun _ t => va_P D vwCl (GGW cI cC cZ cQ q z R) t.heap) (gOr (fIv q 201) (fIv z 201))) ([.ref q, .ref z, .int p0] : List Value).toArray s 344 2064 (gOr (fIv q 201) (fIv z 201))) (F0 m 304 ls [])) → va_P D vwCl (GGW cI cC cZ cQ q z S) H → va_S (gOr (fIv q 201) (fIv z 201)) s.heap H locs → lv_has ls 8 [(0, .ref q), (1, .ref z), (2, .int x2), (4, .int x4), (5, .int 1), (6, .int x6)] → W p l e ({ frames := 10, cells := 344, slots := 2064, locals := 182 } : Room) s m ([.ref q, .ref z, .int p0] : List Value).toArray below meth c H locs cc ss (MQ below (va_Qi (fun r (_ : Unit) => r = 1) (fun _ t => va_P D vwCl (GGW cI cC cZ cQ q z R) t.heap) (gOr (fIv q 201) (fIv z 201))) ([.ref q, .ref z, .int p0] : List Value).toArray s 344 2064 (gOr (fIv q 201) (fIv z 201))) (F0 m 196 ls []) := by
    intro kk cX sX hcX hsX n
    induction n with
    | zero => intro cc ss S x2 x4 x6 H locs ls _ _ h hk hP hS hl; exact no_some h
    | succ n ih =>
      intro cc ss S x2 x4 x6 H locs ls hcc hss h hk hP hS hl
      rw [fL_alike_L196] at h
      refine lv_iload hx hb dL_alike_196 (lv_at hl 5 rfl) ?_
      refine lv_iconst (v := 4) hx hb dL_alike_198 (by decide) ?_
      refine lv_icmp_ge (tgt := 304) hx hb dL_alike_199 (by decide) (fun c14 => ?_) (fun c14 => ?_)
      · replace h := (if_pos c14).symm.trans h
        refine W.widen (k := cX) (n := sX) (by omega) (by omega) ?_
        exact hk S x2 x4 H locs ls h hP hS (lv_sub hl [0, 1, 2, 3, 4] rfl)
      · replace h := (if_neg c14).symm.trans h
        refine lv_iload hx hb dL_alike_202 (lv_at hl 4 rfl) ?_
        refine lv_if_eq (tgt := 304) hx hb dL_alike_204 (by decide) (fun c => absurd c (by decide)) (fun _ => ?_)
        refine lv_aload_n hx hb dL_alike_207 rfl (lv_at hl 0 rfl) ?_
        refine lv_iload hx hb dL_alike_208 (lv_at hl 3 rfl) ?_
        refine lv_iload hx hb dL_alike_210 (lv_at hl 5 rfl) ?_
        obtain ⟨r212, hr212, h⟩ := bd_some h
        refine gww_l (As := [.ref q, .int x4, .int x6]) (rest := []) (k2 := (cc + 1)) (n2 := (ss + 6)) ⟨hx, hb, hml, hown, hts⟩ (gEnw_now hE hS (gOr_lo hlo hd)) hK (kL_happens l D cI cC cZ cQ cJ t lo q (nP S) x4 x6 hlo hlS hr212) (vx_cwSW 3 hts gL_alike_L_happens rfl rfl rfl (by decide +kernel) ⟨Nat.le_of_ble_eq_true rfl, Nat.le_of_ble_eq_true rfl⟩) (GGW_gP (X := S) hP) hS (fun _ h9 => Or.inl h9) rfl hl.1 rfl (Nat.le_of_ble_eq_true rfl) ⟨by show _ ≤ (344 : Nat); omega, by show _ ≤ (2064 : Nat); omega⟩ rfl rfl dL_alike_212 (fun H1 locs hP1 hS hz1 hk1 => ?_)
        have hP : va_P D vwCl (GGW cI cC cZ cQ q z (r212.2, (nQ S))) H1 := GGW_P (X := S) hd hP hP1 hk1
        generalize H1 = H at hP hS ⊢
        refine lv_aload_n hx hb dL_alike_215 rfl (lv_at hl 1 rfl) ?_
        refine lv_iload hx hb dL_alike_216 (lv_at hl 3 rfl) ?_
        refine lv_iload hx hb dL_alike_218 (lv_at hl 5 rfl) ?_
        obtain ⟨r220, hr220, h⟩ := bd_some h
        refine gww_l (As := [.ref z, .int x4, .int x6]) (rest := [.long r212.1]) (k2 := (cc + 2)) (n2 := (ss + 12)) ⟨hx, hb, hml, hown, hts⟩ (gEnw_now hE hS (gOr_lo hlo hd)) hK (kL_happens l D cI cC cZ cQ cJ t lo z (nQ S) x4 x6 (Nat.le_trans hlo (Nat.le_trans (Nat.le_add_right _ _) hd)) hlS hr220) (vx_cwSW 3 hts gL_alike_L_happens rfl rfl rfl (by decide +kernel) ⟨Nat.le_of_ble_eq_true rfl, Nat.le_of_ble_eq_true rfl⟩) (GGW_gQ (X := (r212.2, (nQ S))) hP) hS (fun _ h9 => Or.inr h9) rfl hl.1 rfl (Nat.le_of_ble_eq_true rfl) ⟨by show _ ≤ (344 : Nat); omega, by show _ ≤ (2064 : Nat); omega⟩ rfl rfl dL_alike_220 (fun H1 locs hP1 hS hz1 hk1 => ?_)
        have hP : va_P D vwCl (GGW cI cC cZ cQ q z (r212.2, r220.2)) H1 := GGW_Q (X := (r212.2, (nQ S))) hd hP hP1 hk1
        generalize H1 = H at hP hS ⊢
        refine W.lcmp hx hb dL_alike_223 ?_
        refine lv_if_ne (tgt := 295) hx hb dL_alike_224 (by decide) (fun c15 => ?_) (fun c15 => ?_)
        · replace h := (if_neg c15).symm.trans h
          exact no_some h
        · replace h := (if_pos c15).symm.trans h
          refine lv_aload_n hx hb dL_alike_227 rfl (lv_at hl 0 rfl) ?_
          refine lv_iload hx hb dL_alike_228 (lv_at hl 5 rfl) ?_
          obtain ⟨r230, hr230, h⟩ := bd_some h
          refine gww_l (As := [.ref q, .int x6]) (rest := []) (k2 := (cc + 3)) (n2 := (ss + 18)) ⟨hx, hb, hml, hown, hts⟩ (gEnw_now hE hS (gOr_lo hlo hd)) hK (kL_room l D cI cC cZ cQ cJ t lo q r212.2 x6 hlo hlS hr230) (vx_cwSW 2 hts gL_alike_L_room rfl rfl rfl (by decide +kernel) ⟨Nat.le_of_ble_eq_true rfl, Nat.le_of_ble_eq_true rfl⟩) (GGW_gP (X := (r212.2, r220.2)) hP) hS (fun _ h9 => Or.inl h9) rfl hl.1 rfl (Nat.le_of_ble_eq_true rfl) ⟨by show _ ≤ (344 : Nat); omega, by show _ ≤ (2064 : Nat); omega⟩ rfl rfl dL_alike_230 (fun H1 locs hP1 hS hz1 hk1 => ?_)
          have hP : va_P D vwCl (GGW cI cC cZ cQ q z (r230.2, r220.2)) H1 := GGW_P (X := (r212.2, r220.2)) hd hP hP1 hk1
          generalize H1 = H at hP hS ⊢
          refine lv_aload_n hx hb dL_alike_233 rfl (lv_at hl 1 rfl) ?_
          refine lv_iload hx hb dL_alike_234 (lv_at hl 5 rfl) ?_
          obtain ⟨r236, hr236, h⟩ := bd_some h
          refine gww_l (As := [.ref z, .int x6]) (rest := [.long r230.1]) (k2 := (cc + 4)) (n2 := (ss + 24)) ⟨hx, hb, hml, hown, hts⟩ (gEnw_now hE hS (gOr_lo hlo hd)) hK (kL_room l D cI cC cZ cQ cJ t lo z r220.2 x6 (Nat.le_trans hlo (Nat.le_trans (Nat.le_add_right _ _) hd)) hlS hr236) (vx_cwSW 2 hts gL_alike_L_room rfl rfl rfl (by decide +kernel) ⟨Nat.le_of_ble_eq_true rfl, Nat.le_of_ble_eq_true rfl⟩) (GGW_gQ (X := (r230.2, r220.2)) hP) hS (fun _ h9 => Or.inr h9) rfl hl.1 rfl (Nat.le_of_ble_eq_true rfl) ⟨by show _ ≤ (344 : Nat); omega, by show _ ≤ (2064 : Nat); omega⟩ rfl rfl dL_alike_236 (fun H1 locs hP1 hS hz1 hk1 => ?_)
          have hP : va_P D vwCl (GGW cI cC cZ cQ q z (r230.2, r236.2)) H1 := GGW_Q (X := (r230.2, r220.2)) hd hP hP1 hk1
          generalize H1 = H at hP hS ⊢
          refine W.lcmp hx hb dL_alike_239 ?_
          refine lv_if_ne (tgt := 295) hx hb dL_alike_240 (by decide) (fun c16 => ?_) (fun c16 => ?_)
          · replace h := (if_neg c16).symm.trans h
            exact no_some h
          · replace h := (if_pos c16).symm.trans h
            refine lv_aload_n hx hb dL_alike_243 rfl (lv_at hl 0 rfl) ?_
            refine lv_iload hx hb dL_alike_244 (lv_at hl 5 rfl) ?_
            obtain ⟨r246, hr246, h⟩ := bd_some h
            refine gww_l (As := [.ref q, .int x6]) (rest := []) (k2 := (cc + 5)) (n2 := (ss + 30)) ⟨hx, hb, hml, hown, hts⟩ (gEnw_now hE hS (gOr_lo hlo hd)) hK (kL_groups l D cI cC cZ cQ cJ t lo q r230.2 x6 hlo hlS hr246) (vx_cwSW 2 hts gL_alike_L_groups rfl rfl rfl (by decide +kernel) ⟨Nat.le_of_ble_eq_true rfl, Nat.le_of_ble_eq_true rfl⟩) (GGW_gP (X := (r230.2, r236.2)) hP) hS (fun _ h9 => Or.inl h9) rfl hl.1 rfl (Nat.le_of_ble_eq_true rfl) ⟨by show _ ≤ (344 : Nat); omega, by show _ ≤ (2064 : Nat); omega⟩ rfl rfl dL_alike_246 (fun H1 locs hP1 hS hz1 hk1 => ?_)
            have hP : va_P D vwCl (GGW cI cC cZ cQ q z (r246.2, r236.2)) H1 := GGW_P (X := (r230.2, r236.2)) hd hP hP1 hk1
            generalize H1 = H at hP hS ⊢
            refine lv_aload_n hx hb dL_alike_249 rfl (lv_at hl 1 rfl) ?_
            refine lv_iload hx hb dL_alike_250 (lv_at hl 5 rfl) ?_
            obtain ⟨r252, hr252, h⟩ := bd_some h
            refine gww_l (As := [.ref z, .int x6]) (rest := [.long r246.1]) (k2 := (cc + 6)) (n2 := (ss + 36)) ⟨hx, hb, hml, hown, hts⟩ (gEnw_now hE hS (gOr_lo hlo hd)) hK (kL_groups l D cI cC cZ cQ cJ t lo z r236.2 x6 (Nat.le_trans hlo (Nat.le_trans (Nat.le_add_right _ _) hd)) hlS hr252) (vx_cwSW 2 hts gL_alike_L_groups rfl rfl rfl (by decide +kernel) ⟨Nat.le_of_ble_eq_true rfl, Nat.le_of_ble_eq_true rfl⟩) (GGW_gQ (X := (r246.2, r236.2)) hP) hS (fun _ h9 => Or.inr h9) rfl hl.1 rfl (Nat.le_of_ble_eq_true rfl) ⟨by show _ ≤ (344 : Nat); omega, by show _ ≤ (2064 : Nat); omega⟩ rfl rfl dL_alike_252 (fun H1 locs hP1 hS hz1 hk1 => ?_)
            have hP : va_P D vwCl (GGW cI cC cZ cQ q z (r246.2, r252.2)) H1 := GGW_Q (X := (r246.2, r236.2)) hd hP hP1 hk1
            generalize H1 = H at hP hS ⊢
            refine W.lcmp hx hb dL_alike_255 ?_
            refine lv_if_ne (tgt := 295) hx hb dL_alike_256 (by decide) (fun c17 => ?_) (fun c17 => ?_)
            · replace h := (if_neg c17).symm.trans h
              exact no_some h
            · replace h := (if_pos c17).symm.trans h
              refine lv_aload_n hx hb dL_alike_259 rfl (lv_at hl 0 rfl) ?_
              refine lv_iload_n hx hb dL_alike_260 rfl (lv_at hl 2 rfl) ?_
              refine lv_bipush (v := 7) hx hb dL_alike_261 (by decide) ?_
              refine lv_iload hx hb dL_alike_263 (lv_at hl 5 rfl) ?_
              refine lv_imul hx hb dL_alike_265 ?_
              refine lv_iadd hx hb dL_alike_266 ?_
              refine lv_bipush (v := 60) hx hb dL_alike_267 (by decide) ?_
              refine lv_irem hx hb dL_alike_269 (by decide) ?_
              obtain ⟨r270, hr270, h⟩ := bd_some h
              refine gww_l (As := [.ref q, .int ((x2 + (7 * x6)) - (x2 + (7 * x6)) / 60 * 60)]) (rest := []) (k2 := (cc + 7)) (n2 := (ss + 42)) ⟨hx, hb, hml, hown, hts⟩ (gEnw_now hE hS (gOr_lo hlo hd)) hK (kL_report l D cI cC cZ cQ cJ t lo q r246.2 ((x2 + (7 * x6)) - (x2 + (7 * x6)) / 60 * 60) hlo hlS hr270) (vx_cwSW 2 hts gL_alike_L_report rfl rfl rfl (by decide +kernel) ⟨Nat.le_of_ble_eq_true rfl, Nat.le_of_ble_eq_true rfl⟩) (GGW_gP (X := (r246.2, r252.2)) hP) hS (fun _ h9 => Or.inl h9) rfl hl.1 rfl (Nat.le_of_ble_eq_true rfl) ⟨by show _ ≤ (344 : Nat); omega, by show _ ≤ (2064 : Nat); omega⟩ rfl rfl dL_alike_270 (fun H1 locs hP1 hS hz1 hk1 => ?_)
              have hP : va_P D vwCl (GGW cI cC cZ cQ q z (r270.2, r252.2)) H1 := GGW_P (X := (r246.2, r252.2)) hd hP hP1 hk1
              generalize H1 = H at hP hS ⊢
              refine lv_aload_n hx hb dL_alike_273 rfl (lv_at hl 1 rfl) ?_
              refine lv_iload_n hx hb dL_alike_274 rfl (lv_at hl 2 rfl) ?_
              refine lv_bipush (v := 7) hx hb dL_alike_275 (by decide) ?_
              refine lv_iload hx hb dL_alike_277 (lv_at hl 5 rfl) ?_
              refine lv_imul hx hb dL_alike_279 ?_
              refine lv_iadd hx hb dL_alike_280 ?_
              refine lv_bipush (v := 60) hx hb dL_alike_281 (by decide) ?_
              refine lv_irem hx hb dL_alike_283 (by decide) ?_
              obtain ⟨r284, hr284, h⟩ := bd_some h
              refine gww_l (As := [.ref z, .int ((x2 + (7 * x6)) - (x2 + (7 * x6)) / 60 * 60)]) (rest := [.long r270.1]) (k2 := (cc + 8)) (n2 := (ss + 48)) ⟨hx, hb, hml, hown, hts⟩ (gEnw_now hE hS (gOr_lo hlo hd)) hK (kL_report l D cI cC cZ cQ cJ t lo z r252.2 ((x2 + (7 * x6)) - (x2 + (7 * x6)) / 60 * 60) (Nat.le_trans hlo (Nat.le_trans (Nat.le_add_right _ _) hd)) hlS hr284) (vx_cwSW 2 hts gL_alike_L_report rfl rfl rfl (by decide +kernel) ⟨Nat.le_of_ble_eq_true rfl, Nat.le_of_ble_eq_true rfl⟩) (GGW_gQ (X := (r270.2, r252.2)) hP) hS (fun _ h9 => Or.inr h9) rfl hl.1 rfl (Nat.le_of_ble_eq_true rfl) ⟨by show _ ≤ (344 : Nat); omega, by show _ ≤ (2064 : Nat); omega⟩ rfl rfl dL_alike_284 (fun H1 locs hP1 hS hz1 hk1 => ?_)
              have hP : va_P D vwCl (GGW cI cC cZ cQ q z (r270.2, r284.2)) H1 := GGW_Q (X := (r270.2, r252.2)) hd hP hP1 hk1
              generalize H1 = H at hP hS ⊢
              refine W.lcmp hx hb dL_alike_287 ?_
              refine lv_if_ne (tgt := 295) hx hb dL_alike_288 (by decide) (fun c18 => ?_) (fun c18 => ?_)
              · replace h := (if_neg c18).symm.trans h
                exact no_some h
              · replace h := (if_pos c18).symm.trans h
                refine lv_iconst (v := 1) hx hb dL_alike_291 (by decide) ?_
                refine lv_goto (tgt := 296) hx hb dL_alike_292 (by decide) ?_
                refine lv_istore (lv' := [(5, .int 1), (0, .ref q), (1, .ref z), (2, .int x2), (4, .int x4), (6, .int x6)]) hx hb dL_alike_296 hl (by decide) rfl (fun ls hl => ?_)
                refine lv_iinc (v := (x6 + 1)) (lv' := [(6, .int (x6 + 1)), (5, .int 1), (0, .ref q), (1, .ref z), (2, .int x2), (4, .int x4)]) hx hb dL_alike_298 hl (k := 5) rfl rfl (by decide) rfl (fun ls hl => ?_)
                refine lv_goto (tgt := 196) hx hb dL_alike_301 (by decide) ?_
                exact ih (cc + 8) (ss + 48) (r270.2, r284.2) x2 x4 (x6 + 1) H locs ls (by omega) (by omega) h hk hP hS (lv_sub hl [2, 3, 4, 5, 1, 0] rfl)
  unfold fL_alike at h
  obtain ⟨H, hH⟩ : ∃ H, H = s.heap := ⟨_, rfl⟩
  obtain ⟨locs, hlz⟩ : ∃ z : List Loc, z = [] := ⟨_, rfl⟩
  have hP : va_P D vwCl (GGW cI cC cZ cQ q z X) H := by rw [hH]; exact hP
  have hS : va_S (gOr (fIv q 201) (fIv z 201)) s.heap H locs := by rw [hH, hlz]; exact hS
  refine gc_at hH hlz ?_
  refine lv_iload_n hx hb dL_alike_0 rfl (lv_at hl 2 rfl) ?_
  refine lv_bipush (v := 12) hx hb dL_alike_1 (by decide) ?_
  refine lv_irem hx hb dL_alike_3 (by decide) ?_
  refine lv_istore_n (lv' := [(3, .int (p0 - p0 / 12 * 12)), (0, .ref q), (1, .ref z), (2, .int p0)]) hx hb dL_alike_4 rfl hl (by decide) rfl (fun ls hl => ?_)
  refine lv_iconst (v := 1) hx hb dL_alike_5 (by decide) ?_
  refine lv_iload_n hx hb dL_alike_6 rfl (lv_at hl 3 rfl) ?_
  refine lv_bipush (v := 12) hx hb dL_alike_7 (by decide) ?_
  refine lv_idiv hx hb dL_alike_9 (by decide) ?_
  refine lv_bipush (v := 60) hx hb dL_alike_10 (by decide) ?_
  refine lv_irem hx hb dL_alike_12 (by decide) ?_
  refine lv_iadd hx hb dL_alike_13 ?_
  refine lv_istore (lv' := [(4, .int (1 + ((p0 / 12) - (p0 / 12) / 60 * 60))), (3, .int (p0 - p0 / 12 * 12)), (0, .ref q), (1, .ref z), (2, .int p0)]) hx hb dL_alike_14 hl (by decide) rfl (fun ls hl => ?_)
  refine lv_aload_n hx hb dL_alike_16 rfl (lv_at hl 2 rfl) ?_
  obtain ⟨r17, hr17, h⟩ := bd_some h
  refine gws_l (As := [.ref q]) (rest := []) (k2 := 144) (n2 := 864) ⟨hx, hb, hml, hown, hts⟩ (gEnw_now hE hS (gOr_lo hlo hd)) hK (kL_now l D cI cC cZ cQ cJ t lo q (nP X) hlo hlS hr17) (va_cwS 1 hts gL_alike_L_now rfl rfl rfl (by decide +kernel) ⟨Nat.le_of_ble_eq_true rfl, Nat.le_of_ble_eq_true rfl⟩) (GGW_gP (X := X) hP) hS (fun _ h9 => Or.inl h9) rfl hl.1 rfl (Nat.le_of_ble_eq_true rfl) ⟨by show _ ≤ (344 : Nat); omega, by show _ ≤ (2064 : Nat); omega⟩ rfl rfl dL_alike_17 (fun H1 locs hP1 hS hz1 hk1 => ?_)
  have hP : va_P D vwCl (GGW cI cC cZ cQ q z (r17.2, (nQ X))) H1 := GGW_P (X := X) hd hP hP1 hk1
  generalize H1 = H at hP hS ⊢
  refine lv_aload_n hx hb dL_alike_20 rfl (lv_at hl 3 rfl) ?_
  obtain ⟨r21, hr21, h⟩ := bd_some h
  refine gws_l (As := [.ref z]) (rest := [.long r17.1]) (k2 := 288) (n2 := 1728) ⟨hx, hb, hml, hown, hts⟩ (gEnw_now hE hS (gOr_lo hlo hd)) hK (kL_now l D cI cC cZ cQ cJ t lo z (nQ X) (Nat.le_trans hlo (Nat.le_trans (Nat.le_add_right _ _) hd)) hlS hr21) (va_cwS 1 hts gL_alike_L_now rfl rfl rfl (by decide +kernel) ⟨Nat.le_of_ble_eq_true rfl, Nat.le_of_ble_eq_true rfl⟩) (GGW_gQ (X := (r17.2, (nQ X))) hP) hS (fun _ h9 => Or.inr h9) rfl hl.1 rfl (Nat.le_of_ble_eq_true rfl) ⟨by show _ ≤ (344 : Nat); omega, by show _ ≤ (2064 : Nat); omega⟩ rfl rfl dL_alike_21 (fun H1 locs hP1 hS hz1 hk1 => ?_)
  have hP : va_P D vwCl (GGW cI cC cZ cQ q z (r17.2, r21.2)) H1 := GGW_Q (X := (r17.2, (nQ X))) hd hP hP1 hk1
  generalize H1 = H at hP hS ⊢
  refine W.lcmp hx hb dL_alike_24 ?_
  refine lv_if_ne (tgt := 190) hx hb dL_alike_25 (by decide) (fun c1 => ?_) (fun c1 => ?_)
  · replace h := (if_neg c1).symm.trans h
    exact no_some h
  · replace h := (if_pos c1).symm.trans h
    refine lv_aload_n hx hb dL_alike_28 rfl (lv_at hl 2 rfl) ?_
    obtain ⟨r29, hr29, h⟩ := bd_some h
    refine gs_wi (As := []) (rest := []) ⟨hx, hb, hml, hown, hts⟩ (gZ_now hE.1.1 hS (gOr_lo hlo hd)) hK (kX4_errorPosition l D cI cC cZ cQ cJ t lo q r17.2 hlo hr29) (cwV 0 hts gL_alike_X4_errorPosition rfl rfl rfl (by decide +kernel) ⟨Nat.le_of_ble_eq_true rfl, Nat.le_of_ble_eq_true rfl⟩) (va_recv hK (GGW_gP (X := (r17.2, r21.2)) hP) (ci := 4) (q0 := 0) rfl rfl) (GGW_gP (X := (r17.2, r21.2)) hP) hS (fun _ h9 => Or.inl h9) rfl hl.1 rfl (Nat.le_of_ble_eq_true rfl) ⟨by show _ ≤ (344 : Nat); omega, by show _ ≤ (2064 : Nat); omega⟩ dL_alike_29 (fun H1 locs hP1 hS hz1 hk1 => ?_)
    have hP : va_P D vwCl (GGW cI cC cZ cQ q z (r29.2, r21.2)) H1 := GGW_P (X := (r17.2, r21.2)) hd hP hP1 hk1
    generalize H1 = H at hP hS ⊢
    refine lv_aload_n hx hb dL_alike_32 rfl (lv_at hl 3 rfl) ?_
    obtain ⟨r33, hr33, h⟩ := bd_some h
    refine gs_wi (As := []) (rest := [.int r29.1]) ⟨hx, hb, hml, hown, hts⟩ (gZ_now hE.1.1 hS (gOr_lo hlo hd)) hK (kX4_errorPosition l D cI cC cZ cQ cJ t lo z r21.2 (Nat.le_trans hlo (Nat.le_trans (Nat.le_add_right _ _) hd)) hr33) (cwV 0 hts gL_alike_X4_errorPosition rfl rfl rfl (by decide +kernel) ⟨Nat.le_of_ble_eq_true rfl, Nat.le_of_ble_eq_true rfl⟩) (va_recv hK (GGW_gQ (X := (r29.2, r21.2)) hP) (ci := 4) (q0 := 0) rfl rfl) (GGW_gQ (X := (r29.2, r21.2)) hP) hS (fun _ h9 => Or.inr h9) rfl hl.1 rfl (Nat.le_of_ble_eq_true rfl) ⟨by show _ ≤ (344 : Nat); omega, by show _ ≤ (2064 : Nat); omega⟩ dL_alike_33 (fun H1 locs hP1 hS hz1 hk1 => ?_)
    have hP : va_P D vwCl (GGW cI cC cZ cQ q z (r29.2, r33.2)) H1 := GGW_Q (X := (r29.2, r21.2)) hd hP hP1 hk1
    generalize H1 = H at hP hS ⊢
    refine lv_icmp_ne (tgt := 190) hx hb dL_alike_36 (by decide) (fun c2 => ?_) (fun c2 => ?_)
    · replace h := (if_neg c2).symm.trans h
      exact no_some h
    · replace h := (if_pos c2).symm.trans h
      refine lv_aload_n hx hb dL_alike_39 rfl (lv_at hl 2 rfl) ?_
      obtain ⟨r40, hr40, h⟩ := bd_some h
      refine gc_wi (As := []) (rest := []) ⟨hx, hb, hml, hown, hts⟩ hK (kX4_emptyAfter l D cI cC cZ cQ cJ q r29.2 hr40) (cwV 0 hts gL_alike_X4_emptyAfter rfl rfl rfl (by decide +kernel) ⟨Nat.le_of_ble_eq_true rfl, Nat.le_of_ble_eq_true rfl⟩) (va_recv hK (GGW_gP (X := (r29.2, r33.2)) hP) (ci := 4) (q0 := 0) rfl rfl) (GGW_gP (X := (r29.2, r33.2)) hP) hS (fun _ h9 => Or.inl h9) rfl hl.1 rfl (Nat.le_of_ble_eq_true rfl) ⟨by show _ ≤ (344 : Nat); omega, by show _ ≤ (2064 : Nat); omega⟩ dL_alike_40 (fun H1 locs hP1 hS hz1 hk1 => ?_)
      have hP : va_P D vwCl (GGW cI cC cZ cQ q z (r40.2, r33.2)) H1 := GGW_P (X := (r29.2, r33.2)) hd hP hP1 hk1
      generalize H1 = H at hP hS ⊢
      refine lv_aload_n hx hb dL_alike_43 rfl (lv_at hl 3 rfl) ?_
      obtain ⟨r44, hr44, h⟩ := bd_some h
      refine gc_wi (As := []) (rest := [.int r40.1]) ⟨hx, hb, hml, hown, hts⟩ hK (kX4_emptyAfter l D cI cC cZ cQ cJ z r33.2 hr44) (cwV 0 hts gL_alike_X4_emptyAfter rfl rfl rfl (by decide +kernel) ⟨Nat.le_of_ble_eq_true rfl, Nat.le_of_ble_eq_true rfl⟩) (va_recv hK (GGW_gQ (X := (r40.2, r33.2)) hP) (ci := 4) (q0 := 0) rfl rfl) (GGW_gQ (X := (r40.2, r33.2)) hP) hS (fun _ h9 => Or.inr h9) rfl hl.1 rfl (Nat.le_of_ble_eq_true rfl) ⟨by show _ ≤ (344 : Nat); omega, by show _ ≤ (2064 : Nat); omega⟩ dL_alike_44 (fun H1 locs hP1 hS hz1 hk1 => ?_)
      have hP : va_P D vwCl (GGW cI cC cZ cQ q z (r40.2, r44.2)) H1 := GGW_Q (X := (r40.2, r33.2)) hd hP hP1 hk1
      generalize H1 = H at hP hS ⊢
      refine lv_icmp_ne (tgt := 190) hx hb dL_alike_47 (by decide) (fun c3 => ?_) (fun c3 => ?_)
      · replace h := (if_neg c3).symm.trans h
        exact no_some h
      · replace h := (if_pos c3).symm.trans h
        refine lv_aload_n hx hb dL_alike_50 rfl (lv_at hl 2 rfl) ?_
        refine lv_iload hx hb dL_alike_51 (lv_at hl 0 rfl) ?_
        obtain ⟨r53, hr53, h⟩ := bd_some h
        refine gww_l (As := [.ref q, .int (1 + ((p0 / 12) - (p0 / 12) / 60 * 60))]) (rest := []) (k2 := 289) (n2 := 1734) ⟨hx, hb, hml, hown, hts⟩ (gEnw_now hE hS (gOr_lo hlo hd)) hK (kL_bestLimit l D cI cC cZ cQ cJ t lo q r40.2 (1 + ((p0 / 12) - (p0 / 12) / 60 * 60)) hlo hlS hr53) (vx_cwSW 2 hts gL_alike_L_bestLimit rfl rfl rfl (by decide +kernel) ⟨Nat.le_of_ble_eq_true rfl, Nat.le_of_ble_eq_true rfl⟩) (GGW_gP (X := (r40.2, r44.2)) hP) hS (fun _ h9 => Or.inl h9) rfl hl.1 rfl (Nat.le_of_ble_eq_true rfl) ⟨by show _ ≤ (344 : Nat); omega, by show _ ≤ (2064 : Nat); omega⟩ rfl rfl dL_alike_53 (fun H1 locs hP1 hS hz1 hk1 => ?_)
        have hP : va_P D vwCl (GGW cI cC cZ cQ q z (r53.2, r44.2)) H1 := GGW_P (X := (r40.2, r44.2)) hd hP hP1 hk1
        generalize H1 = H at hP hS ⊢
        refine lv_aload_n hx hb dL_alike_56 rfl (lv_at hl 3 rfl) ?_
        refine lv_iload hx hb dL_alike_57 (lv_at hl 0 rfl) ?_
        obtain ⟨r59, hr59, h⟩ := bd_some h
        refine gww_l (As := [.ref z, .int (1 + ((p0 / 12) - (p0 / 12) / 60 * 60))]) (rest := [.long r53.1]) (k2 := 290) (n2 := 1740) ⟨hx, hb, hml, hown, hts⟩ (gEnw_now hE hS (gOr_lo hlo hd)) hK (kL_bestLimit l D cI cC cZ cQ cJ t lo z r44.2 (1 + ((p0 / 12) - (p0 / 12) / 60 * 60)) (Nat.le_trans hlo (Nat.le_trans (Nat.le_add_right _ _) hd)) hlS hr59) (vx_cwSW 2 hts gL_alike_L_bestLimit rfl rfl rfl (by decide +kernel) ⟨Nat.le_of_ble_eq_true rfl, Nat.le_of_ble_eq_true rfl⟩) (GGW_gQ (X := (r53.2, r44.2)) hP) hS (fun _ h9 => Or.inr h9) rfl hl.1 rfl (Nat.le_of_ble_eq_true rfl) ⟨by show _ ≤ (344 : Nat); omega, by show _ ≤ (2064 : Nat); omega⟩ rfl rfl dL_alike_59 (fun H1 locs hP1 hS hz1 hk1 => ?_)
        have hP : va_P D vwCl (GGW cI cC cZ cQ q z (r53.2, r59.2)) H1 := GGW_Q (X := (r53.2, r44.2)) hd hP hP1 hk1
        generalize H1 = H at hP hS ⊢
        refine W.lcmp hx hb dL_alike_62 ?_
        refine lv_if_ne (tgt := 190) hx hb dL_alike_63 (by decide) (fun c4 => ?_) (fun c4 => ?_)
        · replace h := (if_neg c4).symm.trans h
          exact no_some h
        · replace h := (if_pos c4).symm.trans h
          refine lv_aload_n hx hb dL_alike_66 rfl (lv_at hl 2 rfl) ?_
          refine lv_iload_n hx hb dL_alike_67 rfl (lv_at hl 1 rfl) ?_
          refine lv_iload hx hb dL_alike_68 (lv_at hl 0 rfl) ?_
          refine lv_iload_n hx hb dL_alike_70 rfl (lv_at hl 4 rfl) ?_
          refine lv_bipush (v := 8) hx hb dL_alike_71 (by decide) ?_
          refine lv_irem hx hb dL_alike_73 (by decide) ?_
          obtain ⟨r74, hr74, h⟩ := bd_some h
          refine gww_l (As := [.ref q, .int (p0 - p0 / 12 * 12), .int (1 + ((p0 / 12) - (p0 / 12) / 60 * 60)), .int (p0 - p0 / 8 * 8)]) (rest := []) (k2 := 291) (n2 := 1746) ⟨hx, hb, hml, hown, hts⟩ (gEnw_now hE hS (gOr_lo hlo hd)) hK (kL_ahead l D cI cC cZ cQ cJ t lo q r53.2 (p0 - p0 / 12 * 12) (1 + ((p0 / 12) - (p0 / 12) / 60 * 60)) (p0 - p0 / 8 * 8) hlo hlS hr74) (vx_cwSW 4 hts gL_alike_L_ahead rfl rfl rfl (by decide +kernel) ⟨Nat.le_of_ble_eq_true rfl, Nat.le_of_ble_eq_true rfl⟩) (GGW_gP (X := (r53.2, r59.2)) hP) hS (fun _ h9 => Or.inl h9) rfl hl.1 rfl (Nat.le_of_ble_eq_true rfl) ⟨by show _ ≤ (344 : Nat); omega, by show _ ≤ (2064 : Nat); omega⟩ rfl rfl dL_alike_74 (fun H1 locs hP1 hS hz1 hk1 => ?_)
          have hP : va_P D vwCl (GGW cI cC cZ cQ q z (r74.2, r59.2)) H1 := GGW_P (X := (r53.2, r59.2)) hd hP hP1 hk1
          generalize H1 = H at hP hS ⊢
          refine lv_aload_n hx hb dL_alike_77 rfl (lv_at hl 3 rfl) ?_
          refine lv_iload_n hx hb dL_alike_78 rfl (lv_at hl 1 rfl) ?_
          refine lv_iload hx hb dL_alike_79 (lv_at hl 0 rfl) ?_
          refine lv_iload_n hx hb dL_alike_81 rfl (lv_at hl 4 rfl) ?_
          refine lv_bipush (v := 8) hx hb dL_alike_82 (by decide) ?_
          refine lv_irem hx hb dL_alike_84 (by decide) ?_
          obtain ⟨r85, hr85, h⟩ := bd_some h
          refine gww_l (As := [.ref z, .int (p0 - p0 / 12 * 12), .int (1 + ((p0 / 12) - (p0 / 12) / 60 * 60)), .int (p0 - p0 / 8 * 8)]) (rest := [.long r74.1]) (k2 := 292) (n2 := 1752) ⟨hx, hb, hml, hown, hts⟩ (gEnw_now hE hS (gOr_lo hlo hd)) hK (kL_ahead l D cI cC cZ cQ cJ t lo z r59.2 (p0 - p0 / 12 * 12) (1 + ((p0 / 12) - (p0 / 12) / 60 * 60)) (p0 - p0 / 8 * 8) (Nat.le_trans hlo (Nat.le_trans (Nat.le_add_right _ _) hd)) hlS hr85) (vx_cwSW 4 hts gL_alike_L_ahead rfl rfl rfl (by decide +kernel) ⟨Nat.le_of_ble_eq_true rfl, Nat.le_of_ble_eq_true rfl⟩) (GGW_gQ (X := (r74.2, r59.2)) hP) hS (fun _ h9 => Or.inr h9) rfl hl.1 rfl (Nat.le_of_ble_eq_true rfl) ⟨by show _ ≤ (344 : Nat); omega, by show _ ≤ (2064 : Nat); omega⟩ rfl rfl dL_alike_85 (fun H1 locs hP1 hS hz1 hk1 => ?_)
          have hP : va_P D vwCl (GGW cI cC cZ cQ q z (r74.2, r85.2)) H1 := GGW_Q (X := (r74.2, r59.2)) hd hP hP1 hk1
          generalize H1 = H at hP hS ⊢
          refine W.lcmp hx hb dL_alike_88 ?_
          refine lv_if_ne (tgt := 190) hx hb dL_alike_89 (by decide) (fun c5 => ?_) (fun c5 => ?_)
          · replace h := (if_neg c5).symm.trans h
            exact no_some h
          · replace h := (if_pos c5).symm.trans h
            refine lv_aload_n hx hb dL_alike_92 rfl (lv_at hl 2 rfl) ?_
            refine lv_iload_n hx hb dL_alike_93 rfl (lv_at hl 1 rfl) ?_
            obtain ⟨r94, hr94, h⟩ := bd_some h
            refine gww_l (As := [.ref q, .int (p0 - p0 / 12 * 12)]) (rest := []) (k2 := 293) (n2 := 1758) ⟨hx, hb, hml, hown, hts⟩ (gEnw_now hE hS (gOr_lo hlo hd)) hK (kL_gap l D cI cC cZ cQ cJ t lo q r74.2 (p0 - p0 / 12 * 12) hlo hlS hr94) (vx_cwSW 2 hts gL_alike_L_gap rfl rfl rfl (by decide +kernel) ⟨Nat.le_of_ble_eq_true rfl, Nat.le_of_ble_eq_true rfl⟩) (GGW_gP (X := (r74.2, r85.2)) hP) hS (fun _ h9 => Or.inl h9) rfl hl.1 rfl (Nat.le_of_ble_eq_true rfl) ⟨by show _ ≤ (344 : Nat); omega, by show _ ≤ (2064 : Nat); omega⟩ rfl rfl dL_alike_94 (fun H1 locs hP1 hS hz1 hk1 => ?_)
            have hP : va_P D vwCl (GGW cI cC cZ cQ q z (r94.2, r85.2)) H1 := GGW_P (X := (r74.2, r85.2)) hd hP hP1 hk1
            generalize H1 = H at hP hS ⊢
            refine lv_aload_n hx hb dL_alike_97 rfl (lv_at hl 3 rfl) ?_
            refine lv_iload_n hx hb dL_alike_98 rfl (lv_at hl 1 rfl) ?_
            obtain ⟨r99, hr99, h⟩ := bd_some h
            refine gww_l (As := [.ref z, .int (p0 - p0 / 12 * 12)]) (rest := [.long r94.1]) (k2 := 294) (n2 := 1764) ⟨hx, hb, hml, hown, hts⟩ (gEnw_now hE hS (gOr_lo hlo hd)) hK (kL_gap l D cI cC cZ cQ cJ t lo z r85.2 (p0 - p0 / 12 * 12) (Nat.le_trans hlo (Nat.le_trans (Nat.le_add_right _ _) hd)) hlS hr99) (vx_cwSW 2 hts gL_alike_L_gap rfl rfl rfl (by decide +kernel) ⟨Nat.le_of_ble_eq_true rfl, Nat.le_of_ble_eq_true rfl⟩) (GGW_gQ (X := (r94.2, r85.2)) hP) hS (fun _ h9 => Or.inr h9) rfl hl.1 rfl (Nat.le_of_ble_eq_true rfl) ⟨by show _ ≤ (344 : Nat); omega, by show _ ≤ (2064 : Nat); omega⟩ rfl rfl dL_alike_99 (fun H1 locs hP1 hS hz1 hk1 => ?_)
            have hP : va_P D vwCl (GGW cI cC cZ cQ q z (r94.2, r99.2)) H1 := GGW_Q (X := (r94.2, r85.2)) hd hP hP1 hk1
            generalize H1 = H at hP hS ⊢
            refine W.lcmp hx hb dL_alike_102 ?_
            refine lv_if_ne (tgt := 190) hx hb dL_alike_103 (by decide) (fun c6 => ?_) (fun c6 => ?_)
            · replace h := (if_neg c6).symm.trans h
              exact no_some h
            · replace h := (if_pos c6).symm.trans h
              refine lv_aload_n hx hb dL_alike_106 rfl (lv_at hl 2 rfl) ?_
              refine lv_iload_n hx hb dL_alike_107 rfl (lv_at hl 1 rfl) ?_
              obtain ⟨r108, hr108, h⟩ := bd_some h
              refine gww_l (As := [.ref q, .int (p0 - p0 / 12 * 12)]) (rest := []) (k2 := 295) (n2 := 1770) ⟨hx, hb, hml, hown, hts⟩ (gEnw_now hE hS (gOr_lo hlo hd)) hK (kL_dueAfter l D cI cC cZ cQ cJ t lo q r94.2 (p0 - p0 / 12 * 12) hlo hlS hr108) (vx_cwSW 2 hts gL_alike_L_dueAfter rfl rfl rfl (by decide +kernel) ⟨Nat.le_of_ble_eq_true rfl, Nat.le_of_ble_eq_true rfl⟩) (GGW_gP (X := (r94.2, r99.2)) hP) hS (fun _ h9 => Or.inl h9) rfl hl.1 rfl (Nat.le_of_ble_eq_true rfl) ⟨by show _ ≤ (344 : Nat); omega, by show _ ≤ (2064 : Nat); omega⟩ rfl rfl dL_alike_108 (fun H1 locs hP1 hS hz1 hk1 => ?_)
              have hP : va_P D vwCl (GGW cI cC cZ cQ q z (r108.2, r99.2)) H1 := GGW_P (X := (r94.2, r99.2)) hd hP hP1 hk1
              generalize H1 = H at hP hS ⊢
              refine lv_aload_n hx hb dL_alike_111 rfl (lv_at hl 3 rfl) ?_
              refine lv_iload_n hx hb dL_alike_112 rfl (lv_at hl 1 rfl) ?_
              obtain ⟨r113, hr113, h⟩ := bd_some h
              refine gww_l (As := [.ref z, .int (p0 - p0 / 12 * 12)]) (rest := [.long r108.1]) (k2 := 296) (n2 := 1776) ⟨hx, hb, hml, hown, hts⟩ (gEnw_now hE hS (gOr_lo hlo hd)) hK (kL_dueAfter l D cI cC cZ cQ cJ t lo z r99.2 (p0 - p0 / 12 * 12) (Nat.le_trans hlo (Nat.le_trans (Nat.le_add_right _ _) hd)) hlS hr113) (vx_cwSW 2 hts gL_alike_L_dueAfter rfl rfl rfl (by decide +kernel) ⟨Nat.le_of_ble_eq_true rfl, Nat.le_of_ble_eq_true rfl⟩) (GGW_gQ (X := (r108.2, r99.2)) hP) hS (fun _ h9 => Or.inr h9) rfl hl.1 rfl (Nat.le_of_ble_eq_true rfl) ⟨by show _ ≤ (344 : Nat); omega, by show _ ≤ (2064 : Nat); omega⟩ rfl rfl dL_alike_113 (fun H1 locs hP1 hS hz1 hk1 => ?_)
              have hP : va_P D vwCl (GGW cI cC cZ cQ q z (r108.2, r113.2)) H1 := GGW_Q (X := (r108.2, r99.2)) hd hP hP1 hk1
              generalize H1 = H at hP hS ⊢
              refine W.lcmp hx hb dL_alike_116 ?_
              refine lv_if_ne (tgt := 190) hx hb dL_alike_117 (by decide) (fun c7 => ?_) (fun c7 => ?_)
              · replace h := (if_neg c7).symm.trans h
                exact no_some h
              · replace h := (if_pos c7).symm.trans h
                refine lv_aload_n hx hb dL_alike_120 rfl (lv_at hl 2 rfl) ?_
                refine lv_iconst (v := 1) hx hb dL_alike_121 (by decide) ?_
                refine lv_iload_n hx hb dL_alike_122 rfl (lv_at hl 4 rfl) ?_
                refine lv_bipush (v := 9) hx hb dL_alike_123 (by decide) ?_
                refine lv_irem hx hb dL_alike_125 (by decide) ?_
                refine lv_iadd hx hb dL_alike_126 ?_
                refine lv_iload_n hx hb dL_alike_127 rfl (lv_at hl 4 rfl) ?_
                refine lv_iconst (v := 2) hx hb dL_alike_128 (by decide) ?_
                refine lv_irem hx hb dL_alike_129 (by decide) ?_
                obtain ⟨a138_8, haa138_8, h⟩ := bd_some h
                have JJ138 : ∀ (H : Heap) (locs : List Loc) (ls : Array Slot), va_P D vwCl (GGW cI cC cZ cQ q z (r108.2, r113.2)) H → va_S (gOr (fIv q 201) (fIv z 201)) s.heap H locs → lv_has ls 8 [(0, .ref q), (1, .ref z), (2, .int p0), (4, .int (1 + ((p0 / 12) - (p0 / 12) / 60 * 60)))] → W p l e ({ frames := 10, cells := 344, slots := 2064, locals := 182 } : Room) s m ([.ref q, .ref z, .int p0] : List Value).toArray below meth c H locs 296 1776 (MQ below (va_Qi (fun r (_ : Unit) => r = 1) (fun _ t => va_P D vwCl (GGW cI cC cZ cQ q z R) t.heap) (gOr (fIv q 201) (fIv z 201))) ([.ref q, .ref z, .int p0] : List Value).toArray s 344 2064 (gOr (fIv q 201) (fIv z 201))) (F0 m 138 ls [.int a138_8, .int (1 + (p0 - p0 / 9 * 9)), .ref q]) := by
                  intro H locs ls hP hS hl
                  obtain ⟨r138, hr138, h⟩ := bd_some h
                  refine gww_l (As := [.ref q, .int (1 + (p0 - p0 / 9 * 9)), .int a138_8]) (rest := []) (k2 := 297) (n2 := 1782) ⟨hx, hb, hml, hown, hts⟩ (gEnw_now hE hS (gOr_lo hlo hd)) hK (kL_chance l D cI cC cZ cQ cJ t lo q r108.2 (1 + (p0 - p0 / 9 * 9)) a138_8 hlo hlS hr138) (vx_cwSW 3 hts gL_alike_L_chance rfl rfl rfl (by decide +kernel) ⟨Nat.le_of_ble_eq_true rfl, Nat.le_of_ble_eq_true rfl⟩) (GGW_gP (X := (r108.2, r113.2)) hP) hS (fun _ h9 => Or.inl h9) rfl hl.1 rfl (Nat.le_of_ble_eq_true rfl) ⟨by show _ ≤ (344 : Nat); omega, by show _ ≤ (2064 : Nat); omega⟩ rfl rfl dL_alike_138 (fun H1 locs hP1 hS hz1 hk1 => ?_)
                  have hP : va_P D vwCl (GGW cI cC cZ cQ q z (r138.2, r113.2)) H1 := GGW_P (X := (r108.2, r113.2)) hd hP hP1 hk1
                  generalize H1 = H at hP hS ⊢
                  refine lv_aload_n hx hb dL_alike_141 rfl (lv_at hl 1 rfl) ?_
                  refine lv_iconst (v := 1) hx hb dL_alike_142 (by decide) ?_
                  refine lv_iload_n hx hb dL_alike_143 rfl (lv_at hl 2 rfl) ?_
                  refine lv_bipush (v := 9) hx hb dL_alike_144 (by decide) ?_
                  refine lv_irem hx hb dL_alike_146 (by decide) ?_
                  refine lv_iadd hx hb dL_alike_147 ?_
                  refine lv_iload_n hx hb dL_alike_148 rfl (lv_at hl 2 rfl) ?_
                  refine lv_iconst (v := 2) hx hb dL_alike_149 (by decide) ?_
                  refine lv_irem hx hb dL_alike_150 (by decide) ?_
                  obtain ⟨a159_10, haa159_10, h⟩ := bd_some h
                  have JJ159 : ∀ (H : Heap) (locs : List Loc) (ls : Array Slot), va_P D vwCl (GGW cI cC cZ cQ q z (r138.2, r113.2)) H → va_S (gOr (fIv q 201) (fIv z 201)) s.heap H locs → lv_has ls 8 [(0, .ref q), (1, .ref z), (2, .int p0), (4, .int (1 + ((p0 / 12) - (p0 / 12) / 60 * 60)))] → W p l e ({ frames := 10, cells := 344, slots := 2064, locals := 182 } : Room) s m ([.ref q, .ref z, .int p0] : List Value).toArray below meth c H locs 297 1782 (MQ below (va_Qi (fun r (_ : Unit) => r = 1) (fun _ t => va_P D vwCl (GGW cI cC cZ cQ q z R) t.heap) (gOr (fIv q 201) (fIv z 201))) ([.ref q, .ref z, .int p0] : List Value).toArray s 344 2064 (gOr (fIv q 201) (fIv z 201))) (F0 m 159 ls [.int a159_10, .int (1 + (p0 - p0 / 9 * 9)), .ref z, .long r138.1]) := by
                    intro H locs ls hP hS hl
                    obtain ⟨r159, hr159, h⟩ := bd_some h
                    refine gww_l (As := [.ref z, .int (1 + (p0 - p0 / 9 * 9)), .int a159_10]) (rest := [.long r138.1]) (k2 := 298) (n2 := 1788) ⟨hx, hb, hml, hown, hts⟩ (gEnw_now hE hS (gOr_lo hlo hd)) hK (kL_chance l D cI cC cZ cQ cJ t lo z r113.2 (1 + (p0 - p0 / 9 * 9)) a159_10 (Nat.le_trans hlo (Nat.le_trans (Nat.le_add_right _ _) hd)) hlS hr159) (vx_cwSW 3 hts gL_alike_L_chance rfl rfl rfl (by decide +kernel) ⟨Nat.le_of_ble_eq_true rfl, Nat.le_of_ble_eq_true rfl⟩) (GGW_gQ (X := (r138.2, r113.2)) hP) hS (fun _ h9 => Or.inr h9) rfl hl.1 rfl (Nat.le_of_ble_eq_true rfl) ⟨by show _ ≤ (344 : Nat); omega, by show _ ≤ (2064 : Nat); omega⟩ rfl rfl dL_alike_159 (fun H1 locs hP1 hS hz1 hk1 => ?_)
                    have hP : va_P D vwCl (GGW cI cC cZ cQ q z (r138.2, r159.2)) H1 := GGW_Q (X := (r138.2, r113.2)) hd hP hP1 hk1
                    generalize H1 = H at hP hS ⊢
                    refine W.lcmp hx hb dL_alike_162 ?_
                    refine lv_if_ne (tgt := 190) hx hb dL_alike_163 (by decide) (fun c12 => ?_) (fun c12 => ?_)
                    · replace h := (if_neg c12).symm.trans h
                      exact no_some h
                    · replace h := (if_pos c12).symm.trans h
                      refine lv_aload_n hx hb dL_alike_166 rfl (lv_at hl 0 rfl) ?_
                      refine lv_iload_n hx hb dL_alike_167 rfl (lv_at hl 2 rfl) ?_
                      refine lv_bipush (v := 20) hx hb dL_alike_168 (by decide) ?_
                      refine lv_irem hx hb dL_alike_170 (by decide) ?_
                      obtain ⟨r171, hr171, h⟩ := bd_some h
                      refine gww_l (As := [.ref q, .int (p0 - p0 / 20 * 20)]) (rest := []) (k2 := 299) (n2 := 1794) ⟨hx, hb, hml, hown, hts⟩ (gEnw_now hE hS (gOr_lo hlo hd)) hK (kL_slot l D cI cC cZ cQ cJ t lo q r138.2 (p0 - p0 / 20 * 20) hlo hlS hr171) (vx_cwSW 2 hts gL_alike_L_slot rfl rfl rfl (by decide +kernel) ⟨Nat.le_of_ble_eq_true rfl, Nat.le_of_ble_eq_true rfl⟩) (GGW_gP (X := (r138.2, r159.2)) hP) hS (fun _ h9 => Or.inl h9) rfl hl.1 rfl (Nat.le_of_ble_eq_true rfl) ⟨by show _ ≤ (344 : Nat); omega, by show _ ≤ (2064 : Nat); omega⟩ rfl rfl dL_alike_171 (fun H1 locs hP1 hS hz1 hk1 => ?_)
                      have hP : va_P D vwCl (GGW cI cC cZ cQ q z (r171.2, r159.2)) H1 := GGW_P (X := (r138.2, r159.2)) hd hP hP1 hk1
                      generalize H1 = H at hP hS ⊢
                      refine lv_aload_n hx hb dL_alike_174 rfl (lv_at hl 1 rfl) ?_
                      refine lv_iload_n hx hb dL_alike_175 rfl (lv_at hl 2 rfl) ?_
                      refine lv_bipush (v := 20) hx hb dL_alike_176 (by decide) ?_
                      refine lv_irem hx hb dL_alike_178 (by decide) ?_
                      obtain ⟨r179, hr179, h⟩ := bd_some h
                      refine gww_l (As := [.ref z, .int (p0 - p0 / 20 * 20)]) (rest := [.long r171.1]) (k2 := 300) (n2 := 1800) ⟨hx, hb, hml, hown, hts⟩ (gEnw_now hE hS (gOr_lo hlo hd)) hK (kL_slot l D cI cC cZ cQ cJ t lo z r159.2 (p0 - p0 / 20 * 20) (Nat.le_trans hlo (Nat.le_trans (Nat.le_add_right _ _) hd)) hlS hr179) (vx_cwSW 2 hts gL_alike_L_slot rfl rfl rfl (by decide +kernel) ⟨Nat.le_of_ble_eq_true rfl, Nat.le_of_ble_eq_true rfl⟩) (GGW_gQ (X := (r171.2, r159.2)) hP) hS (fun _ h9 => Or.inr h9) rfl hl.1 rfl (Nat.le_of_ble_eq_true rfl) ⟨by show _ ≤ (344 : Nat); omega, by show _ ≤ (2064 : Nat); omega⟩ rfl rfl dL_alike_179 (fun H1 locs hP1 hS hz1 hk1 => ?_)
                      have hP : va_P D vwCl (GGW cI cC cZ cQ q z (r171.2, r179.2)) H1 := GGW_Q (X := (r171.2, r159.2)) hd hP hP1 hk1
                      generalize H1 = H at hP hS ⊢
                      refine W.lcmp hx hb dL_alike_182 ?_
                      refine lv_if_ne (tgt := 190) hx hb dL_alike_183 (by decide) (fun c13 => ?_) (fun c13 => ?_)
                      · replace h := (if_neg c13).symm.trans h
                        exact no_some h
                      · replace h := (if_pos c13).symm.trans h
                        refine lv_iconst (v := 1) hx hb dL_alike_186 (by decide) ?_
                        refine lv_goto (tgt := 191) hx hb dL_alike_187 (by decide) ?_
                        refine lv_istore (lv' := [(5, .int 1), (0, .ref q), (1, .ref z), (2, .int p0), (4, .int (1 + ((p0 / 12) - (p0 / 12) / 60 * 60)))]) hx hb dL_alike_191 hl (by decide) rfl (fun ls hl => ?_)
                        refine lv_iconst (v := 0) hx hb dL_alike_193 (by decide) ?_
                        refine lv_istore (lv' := [(6, .int 0), (5, .int 1), (0, .ref q), (1, .ref z), (2, .int p0), (4, .int (1 + ((p0 / 12) - (p0 / 12) / 60 * 60)))]) hx hb dL_alike_194 hl (by decide) rfl (fun ls hl => ?_)
                        refine LP196 _ 340 2040 (by omega) (by omega) 5 300 1800 (r171.2, r179.2) p0 (1 + ((p0 / 12) - (p0 / 12) / 60 * 60)) 0 H locs ls (by omega) (by omega) h (fun S y2 y4 H locs ls h hP hS hl => ?_) hP hS (lv_sub hl [2, 3, 4, 5, 1, 0] rfl)
                        refine lv_ldc2 (v := 100000) hx hb hown (hts (.constantLong RL 163 (100000)) (by decide +kernel)) dL_alike_304 ?_
                        refine lv_sipush (v := 10000) hx hb dL_alike_307 (by decide) ?_
                        refine lv_iconst (v := 1) hx hb dL_alike_310 (by decide) ?_
                        refine lv_iload_n hx hb dL_alike_311 rfl (lv_at hl 2 rfl) ?_
                        refine lv_bipush (v := 8) hx hb dL_alike_312 (by decide) ?_
                        refine lv_irem hx hb dL_alike_314 (by decide) ?_
                        refine lv_iadd hx hb dL_alike_315 ?_
                        refine lv_imul hx hb dL_alike_316 ?_
                        refine lv_iload_n hx hb dL_alike_317 rfl (lv_at hl 2 rfl) ?_
                        refine lv_bipush (v := 8) hx hb dL_alike_318 (by decide) ?_
                        refine lv_idiv hx hb dL_alike_320 (by decide) ?_
                        refine lv_sipush (v := 10000) hx hb dL_alike_321 (by decide) ?_
                        refine lv_irem hx hb dL_alike_324 (by decide) ?_
                        refine lv_iadd hx hb dL_alike_325 ?_
                        refine lv_i2l hx hb dL_alike_326 rfl ?_
                        refine lv_lmul hx hb dL_alike_327 ?_
                        refine lv_iload_n hx hb dL_alike_328 rfl (lv_at hl 2 rfl) ?_
                        refine lv_ldc (v := 100000) hx hb hown (hts (.constant RL 165 (100000)) (by decide +kernel)) dL_alike_329 ?_
                        refine lv_irem hx hb dL_alike_331 (by decide) ?_
                        refine lv_i2l hx hb dL_alike_332 rfl ?_
                        refine lv_ladd hx hb dL_alike_333 ?_
                        refine lv_topl (fun yv19 eyv19 => ?_)
                        rw [← eyv19] at h
                        refine lv_lstore (lv' := [(6, .long yv19), (0, .ref q), (1, .ref z), (2, .int y2), (4, .int y4), (5, .int 1)]) hx hb dL_alike_334 hl (by decide) rfl (fun ls hl => ?_)
                        refine lv_iload hx hb dL_alike_336 (lv_at hl 5 rfl) ?_
                        refine lv_if_eq (tgt := 383) hx hb dL_alike_338 (by decide) (fun c => absurd c (by decide)) (fun _ => ?_)
                        refine lv_aload_n hx hb dL_alike_341 rfl (lv_at hl 1 rfl) ?_
                        refine lv_iconst (v := 2) hx hb dL_alike_342 (by decide) ?_
                        refine lv_lload hx hb dL_alike_343 (lv_at hl 0 rfl) ?_
                        obtain ⟨r345, hr345, h⟩ := bd_some h
                        refine gww_l (As := [.ref q, .int 2, .long yv19]) (rest := []) (k2 := 341) (n2 := 2046) ⟨hx, hb, hml, hown, hts⟩ (gEnw_now hE hS (gOr_lo hlo hd)) hK (kL_script l D cI cC cZ cQ cJ t lo q (nP S) 2 yv19 hlo hlS hr345) (vx_cwSW 3 hts gL_alike_L_script rfl rfl rfl (by decide +kernel) ⟨Nat.le_of_ble_eq_true rfl, Nat.le_of_ble_eq_true rfl⟩) (GGW_gP (X := S) hP) hS (fun _ h9 => Or.inl h9) rfl hl.1 rfl (Nat.le_of_ble_eq_true rfl) ⟨by show _ ≤ (344 : Nat); omega, by show _ ≤ (2064 : Nat); omega⟩ rfl rfl dL_alike_345 (fun H1 locs hP1 hS hz1 hk1 => ?_)
                        have hP : va_P D vwCl (GGW cI cC cZ cQ q z (r345.2, (nQ S))) H1 := GGW_P (X := S) hd hP hP1 hk1
                        generalize H1 = H at hP hS ⊢
                        refine lv_aload_n hx hb dL_alike_348 rfl (lv_at hl 2 rfl) ?_
                        refine lv_iconst (v := 2) hx hb dL_alike_349 (by decide) ?_
                        refine lv_lload hx hb dL_alike_350 (lv_at hl 0 rfl) ?_
                        obtain ⟨r352, hr352, h⟩ := bd_some h
                        refine gww_l (As := [.ref z, .int 2, .long yv19]) (rest := [.long r345.1]) (k2 := 342) (n2 := 2052) ⟨hx, hb, hml, hown, hts⟩ (gEnw_now hE hS (gOr_lo hlo hd)) hK (kL_script l D cI cC cZ cQ cJ t lo z (nQ S) 2 yv19 (Nat.le_trans hlo (Nat.le_trans (Nat.le_add_right _ _) hd)) hlS hr352) (vx_cwSW 3 hts gL_alike_L_script rfl rfl rfl (by decide +kernel) ⟨Nat.le_of_ble_eq_true rfl, Nat.le_of_ble_eq_true rfl⟩) (GGW_gQ (X := (r345.2, (nQ S))) hP) hS (fun _ h9 => Or.inr h9) rfl hl.1 rfl (Nat.le_of_ble_eq_true rfl) ⟨by show _ ≤ (344 : Nat); omega, by show _ ≤ (2064 : Nat); omega⟩ rfl rfl dL_alike_352 (fun H1 locs hP1 hS hz1 hk1 => ?_)
                        have hP : va_P D vwCl (GGW cI cC cZ cQ q z (r345.2, r352.2)) H1 := GGW_Q (X := (r345.2, (nQ S))) hd hP hP1 hk1
                        generalize H1 = H at hP hS ⊢
                        refine W.lcmp hx hb dL_alike_355 ?_
                        refine lv_if_ne (tgt := 383) hx hb dL_alike_356 (by decide) (fun c20 => ?_) (fun c20 => ?_)
                        · replace h := (if_neg c20).symm.trans h
                          exact no_some h
                        · replace h := (if_pos c20).symm.trans h
                          refine lv_aload_n hx hb dL_alike_359 rfl (lv_at hl 1 rfl) ?_
                          refine lv_iload_n hx hb dL_alike_360 rfl (lv_at hl 3 rfl) ?_
                          refine lv_i2l hx hb dL_alike_361 rfl ?_
                          refine lv_iload hx hb dL_alike_362 (lv_at hl 4 rfl) ?_
                          obtain ⟨r364, hr364, h⟩ := bd_some h
                          refine gww_l (As := [.ref q, .long ((y2).toInt64), .int y4]) (rest := []) (k2 := 343) (n2 := 2058) ⟨hx, hb, hml, hown, hts⟩ (gEnw_now hE hS (gOr_lo hlo hd)) hK (kL_simulate l D cI cC cZ cQ cJ t lo q r345.2 ((y2).toInt64) y4 hlo hlS hr364) (vx_cwSW 3 hts gL_alike_L_simulate rfl rfl rfl (by decide +kernel) ⟨Nat.le_of_ble_eq_true rfl, Nat.le_of_ble_eq_true rfl⟩) (GGW_gP (X := (r345.2, r352.2)) hP) hS (fun _ h9 => Or.inl h9) rfl hl.1 rfl (Nat.le_of_ble_eq_true rfl) ⟨by show _ ≤ (344 : Nat); omega, by show _ ≤ (2064 : Nat); omega⟩ rfl rfl dL_alike_364 (fun H1 locs hP1 hS hz1 hk1 => ?_)
                          have hP : va_P D vwCl (GGW cI cC cZ cQ q z (r364.2, r352.2)) H1 := GGW_P (X := (r345.2, r352.2)) hd hP hP1 hk1
                          generalize H1 = H at hP hS ⊢
                          refine lv_aload_n hx hb dL_alike_367 rfl (lv_at hl 2 rfl) ?_
                          refine lv_iload_n hx hb dL_alike_368 rfl (lv_at hl 3 rfl) ?_
                          refine lv_i2l hx hb dL_alike_369 rfl ?_
                          refine lv_iload hx hb dL_alike_370 (lv_at hl 4 rfl) ?_
                          obtain ⟨r372, hr372, h⟩ := bd_some h
                          refine gww_l (As := [.ref z, .long ((y2).toInt64), .int y4]) (rest := [.long r364.1]) (k2 := 344) (n2 := 2064) ⟨hx, hb, hml, hown, hts⟩ (gEnw_now hE hS (gOr_lo hlo hd)) hK (kL_simulate l D cI cC cZ cQ cJ t lo z r352.2 ((y2).toInt64) y4 (Nat.le_trans hlo (Nat.le_trans (Nat.le_add_right _ _) hd)) hlS hr372) (vx_cwSW 3 hts gL_alike_L_simulate rfl rfl rfl (by decide +kernel) ⟨Nat.le_of_ble_eq_true rfl, Nat.le_of_ble_eq_true rfl⟩) (GGW_gQ (X := (r364.2, r352.2)) hP) hS (fun _ h9 => Or.inr h9) rfl hl.1 rfl (Nat.le_of_ble_eq_true rfl) ⟨by show _ ≤ (344 : Nat); omega, by show _ ≤ (2064 : Nat); omega⟩ rfl rfl dL_alike_372 (fun H1 locs hP1 hS hz1 hk1 => ?_)
                          have hP : va_P D vwCl (GGW cI cC cZ cQ q z (r364.2, r372.2)) H1 := GGW_Q (X := (r364.2, r352.2)) hd hP hP1 hk1
                          generalize H1 = H at hP hS ⊢
                          refine W.lcmp hx hb dL_alike_375 ?_
                          refine lv_if_ne (tgt := 383) hx hb dL_alike_376 (by decide) (fun c21 => ?_) (fun c21 => ?_)
                          · replace h := (if_neg c21).symm.trans h
                            exact no_some h
                          · replace h := (if_pos c21).symm.trans h
                            refine lv_iconst (v := 1) hx hb dL_alike_379 (by decide) ?_
                            refine lv_goto (tgt := 384) hx hb dL_alike_380 (by decide) ?_
                            refine W.widen (k := 344) (n := 2064) (by omega) (by omega) ?_
                            have h := Option.some.inj h
                            subst h
                            exact W.zret (v := 1) hx hb hr rfl (fun t ht hW => ⟨⟨_, (), rfl, rfl, gh ht hP⟩, hS.F ht⟩) hS.2.2 dL_alike_384
                  clear h
                  replace h := haa159_10
                  clear haa159_10
                  refine lv_if_ne (tgt := 158) hx hb dL_alike_151 (by decide) (fun c10 => ?_) (fun c10 => ?_)
                  · replace h := (if_neg c10).symm.trans h
                    refine lv_iconst (v := 0) hx hb dL_alike_158 (by decide) ?_
                    have h := Option.some.inj h
                    subst h
                    refine W.widen (k := 297) (n := 1782) (by omega) (by omega) ?_
                    exact JJ159 H locs ls hP hS (lv_sub hl [0, 1, 2, 3] rfl)
                  · replace h := (if_pos c10).symm.trans h
                    refine lv_iconst (v := 1) hx hb dL_alike_154 (by decide) ?_
                    refine lv_goto (tgt := 159) hx hb dL_alike_155 (by decide) ?_
                    have h := Option.some.inj h
                    subst h
                    refine W.widen (k := 297) (n := 1782) (by omega) (by omega) ?_
                    exact JJ159 H locs ls hP hS (lv_sub hl [0, 1, 2, 3] rfl)
                clear h
                replace h := haa138_8
                clear haa138_8
                refine lv_if_ne (tgt := 137) hx hb dL_alike_130 (by decide) (fun c8 => ?_) (fun c8 => ?_)
                · replace h := (if_neg c8).symm.trans h
                  refine lv_iconst (v := 0) hx hb dL_alike_137 (by decide) ?_
                  have h := Option.some.inj h
                  subst h
                  refine W.widen (k := 296) (n := 1776) (by omega) (by omega) ?_
                  exact JJ138 H locs ls hP hS (lv_sub hl [2, 3, 4, 0] rfl)
                · replace h := (if_pos c8).symm.trans h
                  refine lv_iconst (v := 1) hx hb dL_alike_133 (by decide) ?_
                  refine lv_goto (tgt := 138) hx hb dL_alike_134 (by decide) ?_
                  have h := Option.some.inj h
                  subst h
                  refine W.widen (k := 296) (n := 1776) (by omega) (by omega) ?_
                  exact JJ138 H locs ls hP hS (lv_sub hl [2, 3, 4, 0] rfl)

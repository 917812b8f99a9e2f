set_option maxHeartbeats 16000000 in
set_option maxRecDepth 100000 in
theorem kL_tells (l : Launch) (D : va_G) (cI cC cZ cQ cJ : ClassId) (t lo : Nat) (q : Nat) (G : GSt) (p0 : Int32) (p1 : Int32) (hlo : lo ≤ q) (hlS : l.stackTraces = false) {R : GSt} (h : fL_tells G p0 p1 = some R) : Met l yL_tells wsL_tells ({ frames := 9, cells := 44, slots := 264, locals := 185 } : Room) (va_Pc [.ref q, .int p0, .int p1] (gBw D (gTy cI cC cZ cQ cJ) t lo (va_P D vwCl (GW cI cC cZ cQ q G)))) (va_Qi (fun r (_ : Unit) => r = 1) (fun _ t => va_P D vwCl (GW cI cC cZ cQ q R) t.heap) (fIv q 201)) 44 264 (fIv q 201) := by
  refine Met.ofW (cc := cL_tells) (maxL := 8) (ret := (some .boolean)) (by decide) rfl ?_
  intro p e s m args below meth c s₁ B hml hv
  obtain ⟨rfl, ⟨hP, hK⟩, hE⟩ := hv
  have hx := B.exec
  have hb := B.bytes
  have hr := B.returns
  have hts := atoms_spec (ws := wsL_tells) B.pre
  have hown : s.vm.findClass RL = some m.cls := findClass_of_methodNamed B.named
  generalize hRM : (headSpec wsL_tells ({ frames := 9, cells := 44, slots := 264, locals := 185 } : Room)).room = RM
  replace hRM : ({ frames := 9, cells := 44, slots := 264, locals := 185 } : Room) = RM := hRM
  subst hRM
  have hl := lv_entry ([.ref q, .int p0, .int p1]) (n := 8) (Nat.le_of_ble_eq_true rfl)
  rw [lg_entry_eq]
  generalize (lg_sl ([.ref q, .int p0, .int p1]) ++ List.replicate (8 - (lg_sl ([.ref q, .int p0, .int p1])).length) Slot.unset).toArray = ls at hl ⊢
  have hl : lv_has ls 8 [(0, .ref q), (1, .int p0), (2, .int p1)] := hl
  have hS : va_S (fIv q 201) s.heap s.heap [] := va_S.rf
  have hP0 := hP
  have LP143 : ∀ (kk : GSt → Int32 → Int32 → Int32 → Int32 → Option GSt) (cX sX : Nat), cX ≤ 44 → sX ≤ 264 → ∀ (n cc ss : Nat) (S : GSt) (x1 : Int32) (x2 : Int32) (x3 : Int32) (x5 : Int32) (x6 : Int32) (x7 : Int32) (H : Heap) (locs : List Loc) (ls : Array Slot), cc + n * 4 ≤ cX → ss + n * 24 ≤ sX → fL_tells_L143 kk n S x1 x2 x3 x5 x6 x7 = some R → (∀ (S : GSt) (y1 : Int32) (y3 : Int32) (y5 : Int32) (y6 : Int32) (H : Heap) (locs : List Loc) (ls : Array Slot), kk S y1 y3 y5 y6 = some R → va_P D vwCl (GW cI cC cZ cQ q S) H → va_S (fIv q 201) s.heap H locs → lv_has ls 8 [(0, .ref q), (1, .int y1), (3, .int y3), (4, .int 1), (5, .int y5), (6, .int y6)] → W p l e ({ frames := 9, cells := 44, slots := 264, locals := 185 } : Room) s m ([.ref q, .int p0, .int p1] : List Value).toArray below meth c H locs cX sX (MQ below (va_Qi (fun r (_ : Unit) => r = 1) (fun _ t => va_P D vwCl (GW cI cC cZ cQ q R) t.heap) (fIv q 201)) ([.ref q, .int p0, .int p1] : List Value).toArray s 44 264 (fIv q 201)) (F0 m 220 ls [])) → va_P D vwCl (GW cI cC cZ cQ q S) H → va_S (fIv q 201) s.heap H locs → lv_has ls 8 [(0, .ref q), (1, .int x1), (2, .int x2), (3, .int x3), (4, .int 1), (5, .int x5), (6, .int x6), (7, .int x7)] → W p l e ({ frames := 9, cells := 44, slots := 264, locals := 185 } : Room) s m ([.ref q, .int p0, .int p1] : List Value).toArray below meth c H locs cc ss (MQ below (va_Qi (fun r (_ : Unit) => r = 1) (fun _ t => va_P D vwCl (GW cI cC cZ cQ q R) t.heap) (fIv q 201)) ([.ref q, .int p0, .int p1] : List Value).toArray s 44 264 (fIv q 201)) (F0 m 143 ls []) := by
    intro kk cX sX hcX hsX n
    induction n with
    | zero => intro cc ss S x1 x2 x3 x5 x6 x7 H locs ls _ _ h hk hP hS hl; exact no_some h
    | succ n ih =>
      intro cc ss S x1 x2 x3 x5 x6 x7 H locs ls hcc hss h hk hP hS hl
      rw [fL_tells_L143] at h
      refine lv_iload hx hb dL_tells_143 (lv_at hl 7 rfl) ?_
      refine lv_iload hx hb dL_tells_145 (lv_at hl 5 rfl) ?_
      refine lv_icmp_ge (tgt := 220) hx hb dL_tells_147 (by decide) (fun c6 => ?_) (fun c6 => ?_)
      · replace h := (if_pos c6).symm.trans h
        refine W.widen (k := cX) (n := sX) (by omega) (by omega) ?_
        exact hk S x1 x3 x5 x6 H locs ls h hP hS (lv_sub hl [0, 1, 3, 4, 5, 6] rfl)
      · replace h := (if_neg c6).symm.trans h
        refine lv_iload hx hb dL_tells_150 (lv_at hl 7 rfl) ?_
        refine lv_iload_n hx hb dL_tells_152 rfl (lv_at hl 3 rfl) ?_
        refine lv_icmp_ge (tgt := 220) hx hb dL_tells_153 (by decide) (fun c7 => ?_) (fun c7 => ?_)
        · replace h := (if_pos c7).symm.trans h
          refine W.widen (k := cX) (n := sX) (by omega) (by omega) ?_
          exact hk S x1 x3 x5 x6 H locs ls h hP hS (lv_sub hl [0, 1, 3, 4, 5, 6] rfl)
        · replace h := (if_neg c7).symm.trans h
          refine lv_iload hx hb dL_tells_156 (lv_at hl 4 rfl) ?_
          refine lv_if_eq (tgt := 220) hx hb dL_tells_158 (by decide) (fun c => absurd c (by decide)) (fun _ => ?_)
          refine lv_aload_n hx hb dL_tells_161 rfl (lv_at hl 0 rfl) ?_
          refine lv_bipush (v := 103) hx hb dL_tells_162 (by decide) ?_
          obtain ⟨r164, hr164, h⟩ := bd_some h
          refine gww_l (As := [.ref q, .int 103]) (rest := []) (k2 := (cc + 1)) (n2 := (ss + 6)) ⟨hx, hb, hml, hown, hts⟩ (gEnw_now hE hS (fun _ h9 => Nat.le_trans hlo h9.1)) hK (kL_append l D cI cC cZ cQ cJ t lo q S 103 hlo hlS hr164) (vx_cwSW 2 hts gL_tells_L_append rfl rfl rfl (by decide +kernel) ⟨Nat.le_of_ble_eq_true rfl, Nat.le_of_ble_eq_true rfl⟩) hP hS (fun _ h9 => h9) rfl hl.1 rfl (Nat.le_of_ble_eq_true rfl) ⟨by show _ ≤ (44 : Nat); omega, by show _ ≤ (264 : Nat); omega⟩ rfl rfl dL_tells_164 (fun H1 locs hP1 hS hz1 hk1 => ?_)
          have hP : va_P D vwCl (GW cI cC cZ cQ q r164.2) H1 := hP1
          generalize H1 = H at hP hS ⊢
          refine lv_lconst (v := 0) hx hb dL_tells_167 (by decide) ?_
          refine W.lcmp hx hb dL_tells_168 ?_
          refine lv_if_le (tgt := 211) hx hb dL_tells_169 (by decide) (fun c8 => ?_) (fun c8 => ?_)
          · replace h := (if_pos c8).symm.trans h
            exact no_some h
          · replace h := (if_neg c8).symm.trans h
            refine lv_aload_n hx hb dL_tells_172 rfl (lv_at hl 0 rfl) ?_
            refine lv_bipush (v := 48) hx hb dL_tells_173 (by decide) ?_
            refine lv_iload_n hx hb dL_tells_175 rfl (lv_at hl 2 rfl) ?_
            refine lv_iload hx hb dL_tells_176 (lv_at hl 7 rfl) ?_
            refine lv_ishr hx hb dL_tells_178 ?_
            refine lv_iconst (v := 3) hx hb dL_tells_179 (by decide) ?_
            refine lv_iand hx hb dL_tells_180 ?_
            refine lv_iadd hx hb dL_tells_181 ?_
            obtain ⟨r182, hr182, h⟩ := bd_some h
            refine gww_l (As := [.ref q, .int (48 + ((x2 >>> (x7 &&& 31)) &&& 3))]) (rest := []) (k2 := (cc + 2)) (n2 := (ss + 12)) ⟨hx, hb, hml, hown, hts⟩ (gEnw_now hE hS (fun _ h9 => Nat.le_trans hlo h9.1)) hK (kL_append l D cI cC cZ cQ cJ t lo q r164.2 (48 + ((x2 >>> (x7 &&& 31)) &&& 3)) hlo hlS hr182) (vx_cwSW 2 hts gL_tells_L_append rfl rfl rfl (by decide +kernel) ⟨Nat.le_of_ble_eq_true rfl, Nat.le_of_ble_eq_true rfl⟩) hP hS (fun _ h9 => h9) rfl hl.1 rfl (Nat.le_of_ble_eq_true rfl) ⟨by show _ ≤ (44 : Nat); omega, by show _ ≤ (264 : Nat); omega⟩ rfl rfl dL_tells_182 (fun H1 locs hP1 hS hz1 hk1 => ?_)
            have hP : va_P D vwCl (GW cI cC cZ cQ q r182.2) H1 := hP1
            generalize H1 = H at hP hS ⊢
            refine lv_lconst (v := 0) hx hb dL_tells_185 (by decide) ?_
            refine W.lcmp hx hb dL_tells_186 ?_
            refine lv_if_le (tgt := 211) hx hb dL_tells_187 (by decide) (fun c9 => ?_) (fun c9 => ?_)
            · replace h := (if_pos c9).symm.trans h
              exact no_some h
            · replace h := (if_neg c9).symm.trans h
              refine lv_aload_n hx hb dL_tells_190 rfl (lv_at hl 0 rfl) ?_
              refine lv_iload_n hx hb dL_tells_191 rfl (lv_at hl 2 rfl) ?_
              refine lv_sipush (v := 2000) hx hb dL_tells_192 (by decide) ?_
              refine lv_idiv hx hb dL_tells_195 (by decide) ?_
              refine lv_iload hx hb dL_tells_196 (lv_at hl 7 rfl) ?_
              refine lv_iadd hx hb dL_tells_198 ?_
              refine lv_iload_n hx hb dL_tells_199 rfl (lv_at hl 3 rfl) ?_
              obtain ⟨hn10, h⟩ := nz_some h
              refine lv_irem hx hb dL_tells_200 hn10 ?_
              obtain ⟨r201, hr201, h⟩ := bd_some h
              refine gws_i (As := [.ref q, .int (((x2 / 2000) + x7) - ((x2 / 2000) + x7) / x3 * x3)]) (rest := []) (k2 := (cc + 4)) (n2 := (ss + 24)) ⟨hx, hb, hml, hown, hts⟩ (gEnw_now hE hS (fun _ h9 => Nat.le_trans hlo h9.1)) hK (kL_two l D cI cC cZ cQ cJ t lo q r182.2 (((x2 / 2000) + x7) - ((x2 / 2000) + x7) / x3 * x3) hlo hlS hr201) (va_cwS 2 hts gL_tells_L_two rfl rfl rfl (by decide +kernel) ⟨Nat.le_of_ble_eq_true rfl, Nat.le_of_ble_eq_true rfl⟩) hP hS (fun _ h9 => h9) rfl hl.1 rfl (Nat.le_of_ble_eq_true rfl) ⟨by show _ ≤ (44 : Nat); omega, by show _ ≤ (264 : Nat); omega⟩ rfl rfl dL_tells_201 (fun H1 locs hP1 hS hz1 hk1 => ?_)
              have hP : va_P D vwCl (GW cI cC cZ cQ q r201) H1 := hP1
              generalize H1 = H at hP hS ⊢
              refine lv_if_eq (tgt := 211) hx hb dL_tells_204 (by decide) (fun c => absurd c (by decide)) (fun _ => ?_)
              refine lv_iconst (v := 1) hx hb dL_tells_207 (by decide) ?_
              refine lv_goto (tgt := 212) hx hb dL_tells_208 (by decide) ?_
              refine lv_istore (lv' := [(4, .int 1), (0, .ref q), (1, .int x1), (2, .int x2), (3, .int x3), (5, .int x5), (6, .int x6), (7, .int x7)]) hx hb dL_tells_212 hl (by decide) rfl (fun ls hl => ?_)
              refine lv_iinc (v := (x7 + 1)) (lv' := [(7, .int (x7 + 1)), (4, .int 1), (0, .ref q), (1, .int x1), (2, .int x2), (3, .int x3), (5, .int x5), (6, .int x6)]) hx hb dL_tells_214 hl (k := 7) rfl rfl (by decide) rfl (fun ls hl => ?_)
              refine lv_goto (tgt := 143) hx hb dL_tells_217 (by decide) ?_
              exact ih (cc + 4) (ss + 24) r201 x1 x2 x3 x5 x6 (x7 + 1) H locs ls (by omega) (by omega) h hk hP hS (lv_sub hl [2, 3, 4, 5, 1, 6, 7, 0] rfl)
  have LP223 : ∀ (kk : GSt → Int32 → Int32 → Int32 → Option GSt) (cX sX : Nat), cX ≤ 44 → sX ≤ 264 → ∀ (n cc ss : Nat) (S : GSt) (x1 : Int32) (x3 : Int32) (x5 : Int32) (x6 : Int32) (x7 : Int32) (H : Heap) (locs : List Loc) (ls : Array Slot), cc + n * 2 ≤ cX → ss + n * 12 ≤ sX → fL_tells_L223 kk n S x1 x3 x5 x6 x7 = some R → (∀ (S : GSt) (y3 : Int32) (y5 : Int32) (y6 : Int32) (H : Heap) (locs : List Loc) (ls : Array Slot), kk S y3 y5 y6 = some R → va_P D vwCl (GW cI cC cZ cQ q S) H → va_S (fIv q 201) s.heap H locs → lv_has ls 8 [(0, .ref q), (3, .int y3), (4, .int 1), (5, .int y5), (6, .int y6)] → W p l e ({ frames := 9, cells := 44, slots := 264, locals := 185 } : Room) s m ([.ref q, .int p0, .int p1] : List Value).toArray below meth c H locs cX sX (MQ below (va_Qi (fun r (_ : Unit) => r = 1) (fun _ t => va_P D vwCl (GW cI cC cZ cQ q R) t.heap) (fIv q 201)) ([.ref q, .int p0, .int p1] : List Value).toArray s 44 264 (fIv q 201)) (F0 m 277 ls [])) → va_P D vwCl (GW cI cC cZ cQ q S) H → va_S (fIv q 201) s.heap H locs → lv_has ls 8 [(0, .ref q), (1, .int x1), (3, .int x3), (4, .int 1), (5, .int x5), (6, .int x6), (7, .int x7)] → W p l e ({ frames := 9, cells := 44, slots := 264, locals := 185 } : Room) s m ([.ref q, .int p0, .int p1] : List Value).toArray below meth c H locs cc ss (MQ below (va_Qi (fun r (_ : Unit) => r = 1) (fun _ t => va_P D vwCl (GW cI cC cZ cQ q R) t.heap) (fIv q 201)) ([.ref q, .int p0, .int p1] : List Value).toArray s 44 264 (fIv q 201)) (F0 m 223 ls []) := by
    intro kk cX sX hcX hsX n
    induction n with
    | zero => intro cc ss S x1 x3 x5 x6 x7 H locs ls _ _ h hk hP hS hl; exact no_some h
    | succ n ih =>
      intro cc ss S x1 x3 x5 x6 x7 H locs ls hcc hss h hk hP hS hl
      rw [fL_tells_L223] at h
      refine lv_iload hx hb dL_tells_223 (lv_at hl 6 rfl) ?_
      refine lv_iload hx hb dL_tells_225 (lv_at hl 5 rfl) ?_
      refine lv_icmp_ge (tgt := 277) hx hb dL_tells_227 (by decide) (fun c11 => ?_) (fun c11 => ?_)
      · replace h := (if_pos c11).symm.trans h
        refine W.widen (k := cX) (n := sX) (by omega) (by omega) ?_
        exact hk S x3 x5 x6 H locs ls h hP hS (lv_sub hl [0, 2, 3, 4, 5] rfl)
      · replace h := (if_neg c11).symm.trans h
        refine lv_iload hx hb dL_tells_230 (lv_at hl 3 rfl) ?_
        refine lv_if_eq (tgt := 277) hx hb dL_tells_232 (by decide) (fun c => absurd c (by decide)) (fun _ => ?_)
        refine lv_aload_n hx hb dL_tells_235 rfl (lv_at hl 0 rfl) ?_
        refine lv_bipush (v := 104) hx hb dL_tells_236 (by decide) ?_
        obtain ⟨r238, hr238, h⟩ := bd_some h
        refine gww_l (As := [.ref q, .int 104]) (rest := []) (k2 := (cc + 1)) (n2 := (ss + 6)) ⟨hx, hb, hml, hown, hts⟩ (gEnw_now hE hS (fun _ h9 => Nat.le_trans hlo h9.1)) hK (kL_append l D cI cC cZ cQ cJ t lo q S 104 hlo hlS hr238) (vx_cwSW 2 hts gL_tells_L_append rfl rfl rfl (by decide +kernel) ⟨Nat.le_of_ble_eq_true rfl, Nat.le_of_ble_eq_true rfl⟩) hP hS (fun _ h9 => h9) rfl hl.1 rfl (Nat.le_of_ble_eq_true rfl) ⟨by show _ ≤ (44 : Nat); omega, by show _ ≤ (264 : Nat); omega⟩ rfl rfl dL_tells_238 (fun H1 locs hP1 hS hz1 hk1 => ?_)
        have hP : va_P D vwCl (GW cI cC cZ cQ q r238.2) H1 := hP1
        generalize H1 = H at hP hS ⊢
        refine lv_lconst (v := 0) hx hb dL_tells_241 (by decide) ?_
        refine W.lcmp hx hb dL_tells_242 ?_
        refine lv_if_le (tgt := 268) hx hb dL_tells_243 (by decide) (fun c12 => ?_) (fun c12 => ?_)
        · replace h := (if_pos c12).symm.trans h
          exact no_some h
        · replace h := (if_neg c12).symm.trans h
          refine lv_aload_n hx hb dL_tells_246 rfl (lv_at hl 0 rfl) ?_
          refine lv_bipush (v := 48) hx hb dL_tells_247 (by decide) ?_
          refine lv_iload_n hx hb dL_tells_249 rfl (lv_at hl 1 rfl) ?_
          refine lv_iload hx hb dL_tells_250 (lv_at hl 6 rfl) ?_
          refine lv_ishr hx hb dL_tells_252 ?_
          refine lv_iconst (v := 3) hx hb dL_tells_253 (by decide) ?_
          refine lv_iand hx hb dL_tells_254 ?_
          refine lv_iadd hx hb dL_tells_255 ?_
          obtain ⟨r256, hr256, h⟩ := bd_some h
          refine gww_l (As := [.ref q, .int (48 + ((x1 >>> (x7 &&& 31)) &&& 3))]) (rest := []) (k2 := (cc + 2)) (n2 := (ss + 12)) ⟨hx, hb, hml, hown, hts⟩ (gEnw_now hE hS (fun _ h9 => Nat.le_trans hlo h9.1)) hK (kL_append l D cI cC cZ cQ cJ t lo q r238.2 (48 + ((x1 >>> (x7 &&& 31)) &&& 3)) hlo hlS hr256) (vx_cwSW 2 hts gL_tells_L_append rfl rfl rfl (by decide +kernel) ⟨Nat.le_of_ble_eq_true rfl, Nat.le_of_ble_eq_true rfl⟩) hP hS (fun _ h9 => h9) rfl hl.1 rfl (Nat.le_of_ble_eq_true rfl) ⟨by show _ ≤ (44 : Nat); omega, by show _ ≤ (264 : Nat); omega⟩ rfl rfl dL_tells_256 (fun H1 locs hP1 hS hz1 hk1 => ?_)
          have hP : va_P D vwCl (GW cI cC cZ cQ q r256.2) H1 := hP1
          generalize H1 = H at hP hS ⊢
          refine lv_lconst (v := 0) hx hb dL_tells_259 (by decide) ?_
          refine W.lcmp hx hb dL_tells_260 ?_
          refine lv_if_le (tgt := 268) hx hb dL_tells_261 (by decide) (fun c13 => ?_) (fun c13 => ?_)
          · replace h := (if_pos c13).symm.trans h
            exact no_some h
          · replace h := (if_neg c13).symm.trans h
            refine lv_iconst (v := 1) hx hb dL_tells_264 (by decide) ?_
            refine lv_goto (tgt := 269) hx hb dL_tells_265 (by decide) ?_
            refine lv_istore (lv' := [(4, .int 1), (0, .ref q), (1, .int x1), (3, .int x3), (5, .int x5), (6, .int x6), (7, .int x7)]) hx hb dL_tells_269 hl (by decide) rfl (fun ls hl => ?_)
            refine lv_iinc (v := (x7 + 1)) (lv' := [(7, .int (x7 + 1)), (4, .int 1), (0, .ref q), (1, .int x1), (3, .int x3), (5, .int x5), (6, .int x6)]) hx hb dL_tells_271 hl (k := 6) rfl rfl (by decide) rfl (fun ls hl => ?_)
            refine lv_goto (tgt := 223) hx hb dL_tells_274 (by decide) ?_
            exact ih (cc + 2) (ss + 12) r256.2 x1 x3 x5 x6 (x7 + 1) H locs ls (by omega) (by omega) h hk hP hS (lv_sub hl [2, 3, 4, 1, 5, 6, 0] rfl)
  unfold fL_tells at h
  obtain ⟨H, hH⟩ : ∃ H, H = s.heap := ⟨_, rfl⟩
  obtain ⟨locs, hlz⟩ : ∃ z : List Loc, z = [] := ⟨_, rfl⟩
  have hP : va_P D vwCl (GW cI cC cZ cQ q G) H := by rw [hH]; exact hP
  have hS : va_S (fIv q 201) s.heap H locs := by rw [hH, hlz]; exact hS
  refine gc_at hH hlz ?_
  refine lv_iconst (v := 4) hx hb dL_tells_0 (by decide) ?_
  refine lv_iload_n hx hb dL_tells_1 rfl (lv_at hl 1 rfl) ?_
  refine lv_bipush (v := 17) hx hb dL_tells_2 (by decide) ?_
  refine lv_irem hx hb dL_tells_4 (by decide) ?_
  refine lv_iadd hx hb dL_tells_5 ?_
  refine lv_istore_n (lv' := [(3, .int (4 + (p0 - p0 / 17 * 17))), (0, .ref q), (1, .int p0), (2, .int p1)]) hx hb dL_tells_6 rfl hl (by decide) rfl (fun ls hl => ?_)
  refine lv_aload_n hx hb dL_tells_7 rfl (lv_at hl 1 rfl) ?_
  obtain ⟨r8, hr8, h⟩ := bd_some h
  refine gc_wi (As := []) (rest := []) ⟨hx, hb, hml, hown, hts⟩ hK (kX4_clearText l D cI cC cZ cQ cJ q G hr8) (cwV 0 hts gL_tells_X4_clearText rfl rfl rfl (by decide +kernel) ⟨Nat.le_of_ble_eq_true rfl, Nat.le_of_ble_eq_true rfl⟩) (va_recv hK hP (ci := 4) (q0 := 0) rfl rfl) hP hS (fun _ h9 => h9) rfl hl.1 rfl (Nat.le_of_ble_eq_true rfl) ⟨by show _ ≤ (44 : Nat); omega, by show _ ≤ (264 : Nat); omega⟩ dL_tells_8 (fun H1 locs hP1 hS hz1 hk1 => ?_)
  have hP : va_P D vwCl (GW cI cC cZ cQ q r8.2) H1 := hP1
  generalize H1 = H at hP hS ⊢
  refine lv_if_lt (tgt := 120) hx hb dL_tells_11 (by decide) (fun c1 => ?_) (fun c1 => ?_)
  · replace h := (if_pos c1).symm.trans h
    exact no_some h
  · replace h := (if_neg c1).symm.trans h
    refine lv_aload_n hx hb dL_tells_14 rfl (lv_at hl 1 rfl) ?_
    refine lv_bipush (v := 76) hx hb dL_tells_15 (by decide) ?_
    obtain ⟨r17, hr17, h⟩ := bd_some h
    refine gww_l (As := [.ref q, .int 76]) (rest := []) (k2 := 1) (n2 := 6) ⟨hx, hb, hml, hown, hts⟩ (gEnw_now hE hS (fun _ h9 => Nat.le_trans hlo h9.1)) hK (kL_append l D cI cC cZ cQ cJ t lo q r8.2 76 hlo hlS hr17) (vx_cwSW 2 hts gL_tells_L_append rfl rfl rfl (by decide +kernel) ⟨Nat.le_of_ble_eq_true rfl, Nat.le_of_ble_eq_true rfl⟩) hP hS (fun _ h9 => h9) rfl hl.1 rfl (Nat.le_of_ble_eq_true rfl) ⟨by show _ ≤ (44 : Nat); omega, by show _ ≤ (264 : Nat); omega⟩ rfl rfl dL_tells_17 (fun H1 locs hP1 hS hz1 hk1 => ?_)
    have hP : va_P D vwCl (GW cI cC cZ cQ q r17.2) H1 := hP1
    generalize H1 = H at hP hS ⊢
    refine lv_lconst (v := 1) hx hb dL_tells_20 (by decide) ?_
    refine W.lcmp hx hb dL_tells_21 ?_
    refine lv_if_ne (tgt := 120) hx hb dL_tells_22 (by decide) (fun c2 => ?_) (fun c2 => ?_)
    · replace h := (if_neg c2).symm.trans h
      exact no_some h
    · replace h := (if_pos c2).symm.trans h
      refine lv_aload_n hx hb dL_tells_25 rfl (lv_at hl 1 rfl) ?_
      refine lv_iload_n hx hb dL_tells_26 rfl (lv_at hl 0 rfl) ?_
      obtain ⟨r27, hr27, h⟩ := bd_some h
      refine gws_i (As := [.ref q, .int (4 + (p0 - p0 / 17 * 17))]) (rest := []) (k2 := 3) (n2 := 18) ⟨hx, hb, hml, hown, hts⟩ (gEnw_now hE hS (fun _ h9 => Nat.le_trans hlo h9.1)) hK (kL_two l D cI cC cZ cQ cJ t lo q r17.2 (4 + (p0 - p0 / 17 * 17)) hlo hlS hr27) (va_cwS 2 hts gL_tells_L_two rfl rfl rfl (by decide +kernel) ⟨Nat.le_of_ble_eq_true rfl, Nat.le_of_ble_eq_true rfl⟩) hP hS (fun _ h9 => h9) rfl hl.1 rfl (Nat.le_of_ble_eq_true rfl) ⟨by show _ ≤ (44 : Nat); omega, by show _ ≤ (264 : Nat); omega⟩ rfl rfl dL_tells_27 (fun H1 locs hP1 hS hz1 hk1 => ?_)
      have hP : va_P D vwCl (GW cI cC cZ cQ q r27) H1 := hP1
      generalize H1 = H at hP hS ⊢
      refine lv_if_eq (tgt := 120) hx hb dL_tells_30 (by decide) (fun c => absurd c (by decide)) (fun _ => ?_)
      refine lv_aload_n hx hb dL_tells_33 rfl (lv_at hl 1 rfl) ?_
      refine lv_iconst (v := 1) hx hb dL_tells_34 (by decide) ?_
      refine lv_iload_n hx hb dL_tells_35 rfl (lv_at hl 2 rfl) ?_
      refine lv_bipush (v := 17) hx hb dL_tells_36 (by decide) ?_
      refine lv_idiv hx hb dL_tells_38 (by decide) ?_
      refine lv_bipush (v := 12) hx hb dL_tells_39 (by decide) ?_
      refine lv_irem hx hb dL_tells_41 (by decide) ?_
      refine lv_iadd hx hb dL_tells_42 ?_
      obtain ⟨r43, hr43, h⟩ := bd_some h
      refine gws_i (As := [.ref q, .int (1 + ((p0 / 17) - (p0 / 17) / 12 * 12))]) (rest := []) (k2 := 5) (n2 := 30) ⟨hx, hb, hml, hown, hts⟩ (gEnw_now hE hS (fun _ h9 => Nat.le_trans hlo h9.1)) hK (kL_two l D cI cC cZ cQ cJ t lo q r27 (1 + ((p0 / 17) - (p0 / 17) / 12 * 12)) hlo hlS hr43) (va_cwS 2 hts gL_tells_L_two rfl rfl rfl (by decide +kernel) ⟨Nat.le_of_ble_eq_true rfl, Nat.le_of_ble_eq_true rfl⟩) hP hS (fun _ h9 => h9) rfl hl.1 rfl (Nat.le_of_ble_eq_true rfl) ⟨by show _ ≤ (44 : Nat); omega, by show _ ≤ (264 : Nat); omega⟩ rfl rfl dL_tells_43 (fun H1 locs hP1 hS hz1 hk1 => ?_)
      have hP : va_P D vwCl (GW cI cC cZ cQ q r43) H1 := hP1
      generalize H1 = H at hP hS ⊢
      refine lv_if_eq (tgt := 120) hx hb dL_tells_46 (by decide) (fun c => absurd c (by decide)) (fun _ => ?_)
      refine lv_aload_n hx hb dL_tells_49 rfl (lv_at hl 1 rfl) ?_
      refine lv_iconst (v := 1) hx hb dL_tells_50 (by decide) ?_
      refine lv_iload_n hx hb dL_tells_51 rfl (lv_at hl 2 rfl) ?_
      refine lv_sipush (v := 204) hx hb dL_tells_52 (by decide) ?_
      refine lv_idiv hx hb dL_tells_55 (by decide) ?_
      refine lv_bipush (v := 12) hx hb dL_tells_56 (by decide) ?_
      refine lv_irem hx hb dL_tells_58 (by decide) ?_
      refine lv_iadd hx hb dL_tells_59 ?_
      obtain ⟨r60, hr60, h⟩ := bd_some h
      refine gws_i (As := [.ref q, .int (1 + ((p0 / 204) - (p0 / 204) / 12 * 12))]) (rest := []) (k2 := 7) (n2 := 42) ⟨hx, hb, hml, hown, hts⟩ (gEnw_now hE hS (fun _ h9 => Nat.le_trans hlo h9.1)) hK (kL_two l D cI cC cZ cQ cJ t lo q r43 (1 + ((p0 / 204) - (p0 / 204) / 12 * 12)) hlo hlS hr60) (va_cwS 2 hts gL_tells_L_two rfl rfl rfl (by decide +kernel) ⟨Nat.le_of_ble_eq_true rfl, Nat.le_of_ble_eq_true rfl⟩) hP hS (fun _ h9 => h9) rfl hl.1 rfl (Nat.le_of_ble_eq_true rfl) ⟨by show _ ≤ (44 : Nat); omega, by show _ ≤ (264 : Nat); omega⟩ rfl rfl dL_tells_60 (fun H1 locs hP1 hS hz1 hk1 => ?_)
      have hP : va_P D vwCl (GW cI cC cZ cQ q r60) H1 := hP1
      generalize H1 = H at hP hS ⊢
      refine lv_if_eq (tgt := 120) hx hb dL_tells_63 (by decide) (fun c => absurd c (by decide)) (fun _ => ?_)
      refine lv_aload_n hx hb dL_tells_66 rfl (lv_at hl 1 rfl) ?_
      refine lv_bipush (v := 49) hx hb dL_tells_67 (by decide) ?_
      refine lv_iload_n hx hb dL_tells_69 rfl (lv_at hl 3 rfl) ?_
      refine lv_iconst (v := 5) hx hb dL_tells_70 (by decide) ?_
      refine lv_irem hx hb dL_tells_71 (by decide) ?_
      refine lv_iadd hx hb dL_tells_72 ?_
      obtain ⟨r73, hr73, h⟩ := bd_some h
      refine gww_l (As := [.ref q, .int (49 + (p1 - p1 / 5 * 5))]) (rest := []) (k2 := 8) (n2 := 48) ⟨hx, hb, hml, hown, hts⟩ (gEnw_now hE hS (fun _ h9 => Nat.le_trans hlo h9.1)) hK (kL_append l D cI cC cZ cQ cJ t lo q r60 (49 + (p1 - p1 / 5 * 5)) hlo hlS hr73) (vx_cwSW 2 hts gL_tells_L_append rfl rfl rfl (by decide +kernel) ⟨Nat.le_of_ble_eq_true rfl, Nat.le_of_ble_eq_true rfl⟩) hP hS (fun _ h9 => h9) rfl hl.1 rfl (Nat.le_of_ble_eq_true rfl) ⟨by show _ ≤ (44 : Nat); omega, by show _ ≤ (264 : Nat); omega⟩ rfl rfl dL_tells_73 (fun H1 locs hP1 hS hz1 hk1 => ?_)
      have hP : va_P D vwCl (GW cI cC cZ cQ q r73.2) H1 := hP1
      generalize H1 = H at hP hS ⊢
      refine lv_lconst (v := 0) hx hb dL_tells_76 (by decide) ?_
      refine W.lcmp hx hb dL_tells_77 ?_
      refine lv_if_le (tgt := 120) hx hb dL_tells_78 (by decide) (fun c3 => ?_) (fun c3 => ?_)
      · replace h := (if_pos c3).symm.trans h
        exact no_some h
      · replace h := (if_neg c3).symm.trans h
        refine lv_aload_n hx hb dL_tells_81 rfl (lv_at hl 1 rfl) ?_
        refine lv_bipush (v := 49) hx hb dL_tells_82 (by decide) ?_
        refine lv_iload_n hx hb dL_tells_84 rfl (lv_at hl 3 rfl) ?_
        refine lv_iconst (v := 5) hx hb dL_tells_85 (by decide) ?_
        refine lv_idiv hx hb dL_tells_86 (by decide) ?_
        refine lv_iconst (v := 4) hx hb dL_tells_87 (by decide) ?_
        refine lv_irem hx hb dL_tells_88 (by decide) ?_
        refine lv_iadd hx hb dL_tells_89 ?_
        obtain ⟨r90, hr90, h⟩ := bd_some h
        refine gww_l (As := [.ref q, .int (49 + ((p1 / 5) - (p1 / 5) / 4 * 4))]) (rest := []) (k2 := 9) (n2 := 54) ⟨hx, hb, hml, hown, hts⟩ (gEnw_now hE hS (fun _ h9 => Nat.le_trans hlo h9.1)) hK (kL_append l D cI cC cZ cQ cJ t lo q r73.2 (49 + ((p1 / 5) - (p1 / 5) / 4 * 4)) hlo hlS hr90) (vx_cwSW 2 hts gL_tells_L_append rfl rfl rfl (by decide +kernel) ⟨Nat.le_of_ble_eq_true rfl, Nat.le_of_ble_eq_true rfl⟩) hP hS (fun _ h9 => h9) rfl hl.1 rfl (Nat.le_of_ble_eq_true rfl) ⟨by show _ ≤ (44 : Nat); omega, by show _ ≤ (264 : Nat); omega⟩ rfl rfl dL_tells_90 (fun H1 locs hP1 hS hz1 hk1 => ?_)
        have hP : va_P D vwCl (GW cI cC cZ cQ q r90.2) H1 := hP1
        generalize H1 = H at hP hS ⊢
        refine lv_lconst (v := 0) hx hb dL_tells_93 (by decide) ?_
        refine W.lcmp hx hb dL_tells_94 ?_
        refine lv_if_le (tgt := 120) hx hb dL_tells_95 (by decide) (fun c4 => ?_) (fun c4 => ?_)
        · replace h := (if_pos c4).symm.trans h
          exact no_some h
        · replace h := (if_neg c4).symm.trans h
          refine lv_aload_n hx hb dL_tells_98 rfl (lv_at hl 1 rfl) ?_
          refine lv_bipush (v := 49) hx hb dL_tells_99 (by decide) ?_
          refine lv_iload_n hx hb dL_tells_101 rfl (lv_at hl 3 rfl) ?_
          refine lv_bipush (v := 20) hx hb dL_tells_102 (by decide) ?_
          refine lv_idiv hx hb dL_tells_104 (by decide) ?_
          refine lv_iconst (v := 4) hx hb dL_tells_105 (by decide) ?_
          refine lv_irem hx hb dL_tells_106 (by decide) ?_
          refine lv_iadd hx hb dL_tells_107 ?_
          obtain ⟨r108, hr108, h⟩ := bd_some h
          refine gww_l (As := [.ref q, .int (49 + ((p1 / 20) - (p1 / 20) / 4 * 4))]) (rest := []) (k2 := 10) (n2 := 60) ⟨hx, hb, hml, hown, hts⟩ (gEnw_now hE hS (fun _ h9 => Nat.le_trans hlo h9.1)) hK (kL_append l D cI cC cZ cQ cJ t lo q r90.2 (49 + ((p1 / 20) - (p1 / 20) / 4 * 4)) hlo hlS hr108) (vx_cwSW 2 hts gL_tells_L_append rfl rfl rfl (by decide +kernel) ⟨Nat.le_of_ble_eq_true rfl, Nat.le_of_ble_eq_true rfl⟩) hP hS (fun _ h9 => h9) rfl hl.1 rfl (Nat.le_of_ble_eq_true rfl) ⟨by show _ ≤ (44 : Nat); omega, by show _ ≤ (264 : Nat); omega⟩ rfl rfl dL_tells_108 (fun H1 locs hP1 hS hz1 hk1 => ?_)
          have hP : va_P D vwCl (GW cI cC cZ cQ q r108.2) H1 := hP1
          generalize H1 = H at hP hS ⊢
          refine lv_lconst (v := 0) hx hb dL_tells_111 (by decide) ?_
          refine W.lcmp hx hb dL_tells_112 ?_
          refine lv_if_le (tgt := 120) hx hb dL_tells_113 (by decide) (fun c5 => ?_) (fun c5 => ?_)
          · replace h := (if_pos c5).symm.trans h
            exact no_some h
          · replace h := (if_neg c5).symm.trans h
            refine lv_iconst (v := 1) hx hb dL_tells_116 (by decide) ?_
            refine lv_goto (tgt := 121) hx hb dL_tells_117 (by decide) ?_
            refine lv_istore (lv' := [(4, .int 1), (3, .int (4 + (p0 - p0 / 17 * 17))), (0, .ref q), (1, .int p0), (2, .int p1)]) hx hb dL_tells_121 hl (by decide) rfl (fun ls hl => ?_)
            refine lv_iload_n hx hb dL_tells_123 rfl (lv_at hl 4 rfl) ?_
            refine lv_bipush (v := 80) hx hb dL_tells_124 (by decide) ?_
            refine lv_idiv hx hb dL_tells_126 (by decide) ?_
            refine lv_iconst (v := 5) hx hb dL_tells_127 (by decide) ?_
            refine lv_irem hx hb dL_tells_128 (by decide) ?_
            refine lv_istore (lv' := [(5, .int ((p1 / 80) - (p1 / 80) / 5 * 5)), (4, .int 1), (3, .int (4 + (p0 - p0 / 17 * 17))), (0, .ref q), (1, .int p0), (2, .int p1)]) hx hb dL_tells_129 hl (by decide) rfl (fun ls hl => ?_)
            refine lv_iload_n hx hb dL_tells_131 rfl (lv_at hl 5 rfl) ?_
            refine lv_sipush (v := 400) hx hb dL_tells_132 (by decide) ?_
            refine lv_idiv hx hb dL_tells_135 (by decide) ?_
            refine lv_iconst (v := 5) hx hb dL_tells_136 (by decide) ?_
            refine lv_irem hx hb dL_tells_137 (by decide) ?_
            refine lv_istore (lv' := [(6, .int ((p1 / 400) - (p1 / 400) / 5 * 5)), (5, .int ((p1 / 80) - (p1 / 80) / 5 * 5)), (4, .int 1), (3, .int (4 + (p0 - p0 / 17 * 17))), (0, .ref q), (1, .int p0), (2, .int p1)]) hx hb dL_tells_138 hl (by decide) rfl (fun ls hl => ?_)
            refine lv_iconst (v := 0) hx hb dL_tells_140 (by decide) ?_
            refine lv_istore (lv' := [(7, .int 0), (6, .int ((p1 / 400) - (p1 / 400) / 5 * 5)), (5, .int ((p1 / 80) - (p1 / 80) / 5 * 5)), (4, .int 1), (3, .int (4 + (p0 - p0 / 17 * 17))), (0, .ref q), (1, .int p0), (2, .int p1)]) hx hb dL_tells_141 hl (by decide) rfl (fun ls hl => ?_)
            refine LP143 _ 30 180 (by omega) (by omega) 5 10 60 r108.2 p0 p1 (4 + (p0 - p0 / 17 * 17)) ((p1 / 80) - (p1 / 80) / 5 * 5) ((p1 / 400) - (p1 / 400) / 5 * 5) 0 H locs ls (by omega) (by omega) h (fun S y1 y3 y5 y6 H locs ls h hP hS hl => ?_) hP hS (lv_sub hl [5, 6, 7, 4, 3, 2, 1, 0] rfl)
            refine lv_iconst (v := 0) hx hb dL_tells_220 (by decide) ?_
            refine lv_istore (lv' := [(7, .int 0), (0, .ref q), (1, .int y1), (3, .int y3), (4, .int 1), (5, .int y5), (6, .int y6)]) hx hb dL_tells_221 hl (by decide) rfl (fun ls hl => ?_)
            refine LP223 _ 40 240 (by omega) (by omega) 5 30 180 S y1 y3 y5 y6 0 H locs ls (by omega) (by omega) h (fun S y3 y5 y6 H locs ls h hP hS hl => ?_) hP hS (lv_sub hl [1, 2, 3, 4, 5, 6, 0] rfl)
            refine lv_iload hx hb dL_tells_277 (lv_at hl 2 rfl) ?_
            refine lv_if_eq (tgt := 362) hx hb dL_tells_279 (by decide) (fun c => absurd c (by decide)) (fun _ => ?_)
            refine lv_aload_n hx hb dL_tells_282 rfl (lv_at hl 0 rfl) ?_
            obtain ⟨r283, hr283, h⟩ := bd_some h
            refine gs_wi (As := []) (rest := []) ⟨hx, hb, hml, hown, hts⟩ (gZ_now hE.1.1 hS (fun _ h9 => Nat.le_trans hlo h9.1)) hK (kX4_errorPosition l D cI cC cZ cQ cJ t lo q S hlo hr283) (cwV 0 hts gL_tells_X4_errorPosition rfl rfl rfl (by decide +kernel) ⟨Nat.le_of_ble_eq_true rfl, Nat.le_of_ble_eq_true rfl⟩) (va_recv hK hP (ci := 4) (q0 := 0) rfl rfl) hP hS (fun _ h9 => h9) rfl hl.1 rfl (Nat.le_of_ble_eq_true rfl) ⟨by show _ ≤ (44 : Nat); omega, by show _ ≤ (264 : Nat); omega⟩ dL_tells_283 (fun H1 locs hP1 hS hz1 hk1 => ?_)
            have hP : va_P D vwCl (GW cI cC cZ cQ q r283.2) H1 := hP1
            generalize H1 = H at hP hS ⊢
            refine lv_bipush (v := (-9)) hx hb dL_tells_286 (by decide) ?_
            refine lv_icmp_ne (tgt := 362) hx hb dL_tells_288 (by decide) (fun c14 => ?_) (fun c14 => ?_)
            · replace h := (if_neg c14).symm.trans h
              exact no_some h
            · replace h := (if_pos c14).symm.trans h
              refine lv_aload_n hx hb dL_tells_291 rfl (lv_at hl 0 rfl) ?_
              obtain ⟨r292, hr292, h⟩ := bd_some h
              refine gww_l (As := [.ref q]) (rest := []) (k2 := 41) (n2 := 246) ⟨hx, hb, hml, hown, hts⟩ (gEnw_now hE hS (fun _ h9 => Nat.le_trans hlo h9.1)) hK (kL_load l D cI cC cZ cQ cJ t lo q r283.2 hlo hlS hr292) (vx_cwSW 1 hts gL_tells_L_load rfl rfl rfl (by decide +kernel) ⟨Nat.le_of_ble_eq_true rfl, Nat.le_of_ble_eq_true rfl⟩) hP hS (fun _ h9 => h9) rfl hl.1 rfl (Nat.le_of_ble_eq_true rfl) ⟨by show _ ≤ (44 : Nat); omega, by show _ ≤ (264 : Nat); omega⟩ rfl rfl dL_tells_292 (fun H1 locs hP1 hS hz1 hk1 => ?_)
              have hP : va_P D vwCl (GW cI cC cZ cQ q r292.2) H1 := hP1
              generalize H1 = H at hP hS ⊢
              refine lv_iload hx hb dL_tells_295 (lv_at hl 3 rfl) ?_
              refine lv_iload_n hx hb dL_tells_297 rfl (lv_at hl 1 rfl) ?_
              obtain ⟨a307_15, haa307_15, h⟩ := bd_some h
              have JJ307 : ∀ (H : Heap) (locs : List Loc) (ls : Array Slot), va_P D vwCl (GW cI cC cZ cQ q r292.2) H → va_S (fIv q 201) s.heap H locs → lv_has ls 8 [(0, .ref q), (6, .int y6)] → W p l e ({ frames := 9, cells := 44, slots := 264, locals := 185 } : Room) s m ([.ref q, .int p0, .int p1] : List Value).toArray below meth c H locs 41 246 (MQ below (va_Qi (fun r (_ : Unit) => r = 1) (fun _ t => va_P D vwCl (GW cI cC cZ cQ q R) t.heap) (fIv q 201)) ([.ref q, .int p0, .int p1] : List Value).toArray s 44 264 (fIv q 201)) (F0 m 307 ls [.int a307_15, .long r292.1]) := by
                intro H locs ls hP hS hl
                refine lv_iload hx hb dL_tells_307 (lv_at hl 1 rfl) ?_
                refine lv_iadd hx hb dL_tells_309 ?_
                refine lv_i2l hx hb dL_tells_310 rfl ?_
                refine W.lcmp hx hb dL_tells_311 ?_
                refine lv_if_ne (tgt := 362) hx hb dL_tells_312 (by decide) (fun c17 => ?_) (fun c17 => ?_)
                · replace h := (if_neg c17).symm.trans h
                  exact no_some h
                · replace h := (if_pos c17).symm.trans h
                  refine lv_aload_n hx hb dL_tells_315 rfl (lv_at hl 0 rfl) ?_
                  refine lv_iconst (v := 3) hx hb dL_tells_316 (by decide) ?_
                  obtain ⟨r317, hr317, h⟩ := bd_some h
                  refine gww_l (As := [.ref q, .int 3]) (rest := []) (k2 := 42) (n2 := 252) ⟨hx, hb, hml, hown, hts⟩ (gEnw_now hE hS (fun _ h9 => Nat.le_trans hlo h9.1)) hK (kL_about l D cI cC cZ cQ cJ t lo q r292.2 3 hlo hlS hr317) (vx_cwSW 2 hts gL_tells_L_about rfl rfl rfl (by decide +kernel) ⟨Nat.le_of_ble_eq_true rfl, Nat.le_of_ble_eq_true rfl⟩) hP hS (fun _ h9 => h9) rfl hl.1 rfl (Nat.le_of_ble_eq_true rfl) ⟨by show _ ≤ (44 : Nat); omega, by show _ ≤ (264 : Nat); omega⟩ rfl rfl dL_tells_317 (fun H1 locs hP1 hS hz1 hk1 => ?_)
                  have hP : va_P D vwCl (GW cI cC cZ cQ q r317.2) H1 := hP1
                  generalize H1 = H at hP hS ⊢
                  refine lv_iload hx hb dL_tells_320 (lv_at hl 1 rfl) ?_
                  refine lv_i2l hx hb dL_tells_322 rfl ?_
                  refine W.lcmp hx hb dL_tells_323 ?_
                  refine lv_if_ne (tgt := 362) hx hb dL_tells_324 (by decide) (fun c18 => ?_) (fun c18 => ?_)
                  · replace h := (if_neg c18).symm.trans h
                    exact no_some h
                  · replace h := (if_pos c18).symm.trans h
                    refine lv_aload_n hx hb dL_tells_327 rfl (lv_at hl 0 rfl) ?_
                    refine lv_bipush (v := 6) hx hb dL_tells_328 (by decide) ?_
                    obtain ⟨r330, hr330, h⟩ := bd_some h
                    refine gww_l (As := [.ref q, .int 6]) (rest := []) (k2 := 43) (n2 := 258) ⟨hx, hb, hml, hown, hts⟩ (gEnw_now hE hS (fun _ h9 => Nat.le_trans hlo h9.1)) hK (kL_about l D cI cC cZ cQ cJ t lo q r317.2 6 hlo hlS hr330) (vx_cwSW 2 hts gL_tells_L_about rfl rfl rfl (by decide +kernel) ⟨Nat.le_of_ble_eq_true rfl, Nat.le_of_ble_eq_true rfl⟩) hP hS (fun _ h9 => h9) rfl hl.1 rfl (Nat.le_of_ble_eq_true rfl) ⟨by show _ ≤ (44 : Nat); omega, by show _ ≤ (264 : Nat); omega⟩ rfl rfl dL_tells_330 (fun H1 locs hP1 hS hz1 hk1 => ?_)
                    have hP : va_P D vwCl (GW cI cC cZ cQ q r330.2) H1 := hP1
                    generalize H1 = H at hP hS ⊢
                    refine lv_lconst (v := 0) hx hb dL_tells_333 (by decide) ?_
                    refine W.lcmp hx hb dL_tells_334 ?_
                    refine lv_if_ne (tgt := 362) hx hb dL_tells_335 (by decide) (fun c19 => ?_) (fun c19 => ?_)
                    · replace h := (if_neg c19).symm.trans h
                      exact no_some h
                    · replace h := (if_pos c19).symm.trans h
                      refine lv_aload_n hx hb dL_tells_338 rfl (lv_at hl 0 rfl) ?_
                      obtain ⟨r339, hr339, h⟩ := bd_some h
                      refine gc_rl (As := []) (rest := []) ⟨hx, hb, hml, hown, hts⟩ hK (kX4_random l D cI cC cZ cQ cJ q r330.2 hr339) (cwV 0 hts gL_tells_X4_random rfl rfl rfl (by decide +kernel) ⟨Nat.le_of_ble_eq_true rfl, Nat.le_of_ble_eq_true rfl⟩) (va_recv hK hP (ci := 4) (q0 := 0) rfl rfl) hP rfl hl.1 rfl (Nat.le_of_ble_eq_true rfl) ⟨by show _ ≤ (44 : Nat); omega, by show _ ≤ (264 : Nat); omega⟩ dL_tells_339 ?_
                      refine lv_lconst (v := 0) hx hb dL_tells_342 (by decide) ?_
                      refine W.lcmp hx hb dL_tells_343 ?_
                      refine lv_if_ne (tgt := 362) hx hb dL_tells_344 (by decide) (fun c20 => ?_) (fun c20 => ?_)
                      · replace h := (if_neg c20).symm.trans h
                        exact no_some h
                      · replace h := (if_pos c20).symm.trans h
                        refine lv_aload_n hx hb dL_tells_347 rfl (lv_at hl 0 rfl) ?_
                        obtain ⟨r348, hr348, h⟩ := bd_some h
                        refine gww_l (As := [.ref q]) (rest := []) (k2 := 44) (n2 := 264) ⟨hx, hb, hml, hown, hts⟩ (gEnw_now hE hS (fun _ h9 => Nat.le_trans hlo h9.1)) hK (kL_undo l D cI cC cZ cQ cJ t lo q r330.2 hlo hlS hr348) (vx_cwSW 1 hts gL_tells_L_undo rfl rfl rfl (by decide +kernel) ⟨Nat.le_of_ble_eq_true rfl, Nat.le_of_ble_eq_true rfl⟩) hP hS (fun _ h9 => h9) rfl hl.1 rfl (Nat.le_of_ble_eq_true rfl) ⟨by show _ ≤ (44 : Nat); omega, by show _ ≤ (264 : Nat); omega⟩ rfl rfl dL_tells_348 (fun H1 locs hP1 hS hz1 hk1 => ?_)
                        have hP : va_P D vwCl (GW cI cC cZ cQ q r348.2) H1 := hP1
                        generalize H1 = H at hP hS ⊢
                        refine lv_ldc2 (v := (-9000000000000000003)) hx hb hown (hts (.constantLong RL 21 (-9000000000000000003)) (by decide +kernel)) dL_tells_351 ?_
                        refine W.lcmp hx hb dL_tells_354 ?_
                        refine lv_if_ne (tgt := 362) hx hb dL_tells_355 (by decide) (fun c21 => ?_) (fun c21 => ?_)
                        · replace h := (if_neg c21).symm.trans h
                          exact no_some h
                        · replace h := (if_pos c21).symm.trans h
                          refine lv_iconst (v := 1) hx hb dL_tells_358 (by decide) ?_
                          refine lv_goto (tgt := 363) hx hb dL_tells_359 (by decide) ?_
                          refine W.widen (k := 44) (n := 264) (by omega) (by omega) ?_
                          have h := Option.some.inj h
                          subst h
                          exact W.zret (v := 1) hx hb hr rfl (fun t ht hW => ⟨⟨_, (), rfl, rfl, gh ht hP⟩, hS.F ht⟩) hS.2.2 dL_tells_363
              clear h
              replace h := haa307_15
              clear haa307_15
              refine lv_icmp_ge (tgt := 306) hx hb dL_tells_298 (by decide) (fun c15 => ?_) (fun c15 => ?_)
              · replace h := (if_pos c15).symm.trans h
                refine lv_iload_n hx hb dL_tells_306 rfl (lv_at hl 1 rfl) ?_
                have h := Option.some.inj h
                subst h
                refine W.widen (k := 41) (n := 246) (by omega) (by omega) ?_
                exact JJ307 H locs ls hP hS (lv_sub hl [0, 4] rfl)
              · replace h := (if_neg c15).symm.trans h
                refine lv_iload hx hb dL_tells_301 (lv_at hl 3 rfl) ?_
                refine lv_goto (tgt := 307) hx hb dL_tells_303 (by decide) ?_
                have h := Option.some.inj h
                subst h
                refine W.widen (k := 41) (n := 246) (by omega) (by omega) ?_
                exact JJ307 H locs ls hP hS (lv_sub hl [0, 4] rfl)

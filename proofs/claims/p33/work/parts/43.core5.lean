/-! MY OWN KIT, five: what the throwing of exceptions rests on -/
def gIAE : String := "java/lang/IllegalArgumentException"
def gISE : String := "java/lang/IllegalStateException"
def gIOB : String := "java/lang/IndexOutOfBoundsException"
def gEx (k : Nat) : String := if k = 1 then gIAE else if k = 2 then gISE else gIOB
def gStrs : List (Nat × String) := [(58, "c is not 0 to 255"), (72, "the text has 60 characters"), (89, "the text is not a lift"), (118, "what is not 0 to 12"), (126, "no such grip"), (132, "what is not 0 to 7"), (141, "no such slot"), (150, "i is negative"), (162, "m is not 1 to 99"), (170, "weight is not 0 to 3"), (173, "there are 12 grips"), (178, "no such grip or slot"), (187, "it can\'t be put there"), (193, "the grip is not on the line"), (201, "the grip is scrapped"), (209, "what or v is out of range"), (211, "no state is remembered"), (229, "what is not 0 to 2"), (240, "passes is not 1 to 9"), (242, "m is not 0 to 99"), (244, "m or what is out of range"), (255, "n is not 1 to 3"), (261, "script is out of range"), (273, "no such save slot"), (278, "nothing has been saved there")]
def gNm : List String := ["java/lang/RuntimeException", "java/lang/Exception"]
def gDc : List String := ["java/lang/RuntimeException", "java/lang/Exception", Bundle.tN]
def gEnv (t lo : Nat) (U : State) (H : Heap) : Prop := gZ t lo U H ∧ vx_Zq Bundle.tN "UNASSIGNED_STACK" Bundle.steD (fun a => lo ≤ a) U H ∧ vx_Zq Bundle.tN "SUPPRESSED_SENTINEL" Bundle.listD (fun a => lo ≤ a) U H ∧ (∀ q ∈ gStrs, ∃ a, vk_R RX4 q.1 q.2 a U) ∧ (∀ E ∈ [gIAE, gISE, gIOB], va_Nw (.castable E E) U) ∧ ∀ y ∈ gDc, va_Nw (.declares (Bundle.initS y)) U
theorem gEnv.warm {t lo : Nat} {u U : State} {H : Heap} (hW : u.WarmedH U.vm) (h : gEnv t lo u H) : gEnv t lo U H :=
  ⟨h.1.warm hW, h.2.1.moved hW.alike, h.2.2.1.moved hW.alike, fun q hq => by obtain ⟨a, ha⟩ := h.2.2.2.1 q hq; exact ⟨a, ha.warm hW⟩, fun E hE => va_Nw.warmC hW (h.2.2.2.2.1 E hE), fun y hy => va_Nw.warmD hW (h.2.2.2.2.2 y hy)⟩
theorem gEnv_now {t lo : Nat} {s : State} {A : Nat → Prop} {H : Heap} {locs : List Loc} (h : gEnv t lo s s.heap) (hS : va_S A s.heap H locs) (hlo : ∀ a, A a → lo ≤ a) : gEnv t lo s H :=
  ⟨gZ_now h.1 hS hlo, h.2.1.kept fun a h1 h2 => hS.2.1 a h1 (fun z => h2 (hlo a z)), h.2.2.1.kept fun a h1 h2 => hS.2.1 a h1 (fun z => h2 (hlo a z)), h.2.2.2⟩
def gBe (D : va_G) (tys : List (ClassId × FieldType)) (t lo : Nat) (B : Heap → Prop) : State → Prop := fun U => (B U.heap ∧ va_K D vwCl tys U) ∧ gEnv t lo U U.heap
theorem gZ_blind {t lo : Nat} {U : State} {g : JFrame} {mk : MethodId} {a : Array Value} (q : gZ t lo U U.heap) : gZ t lo (U.calling g mk a) (U.calling g mk a).heap := ⟨q.1.moved (u := U) (U := U.calling g mk a) (Vm.Alike.refl U.vm), q.2.1.moved (u := U) (U := U.calling g mk a) (Vm.Alike.refl U.vm), va_Nw.same rfl (u := U) (U := U.calling g mk a) rfl q.2.2⟩
theorem gBe_blind {D : va_G} {tys : List (ClassId × FieldType)} {t lo : Nat} {B : Heap → Prop} {av : List Value} : FrameBlind (va_Pc av (gBe D tys t lo B)) := fun a U g mk q =>
  ⟨q.1, ⟨q.2.1.1, va_K.moved (u := U) (U := U.calling g mk a) (Vm.Alike.refl U.vm) q.2.1.2⟩, gZ_blind q.2.2.1, q.2.2.2.1.moved (u := U) (U := U.calling g mk a) (Vm.Alike.refl U.vm), q.2.2.2.2.1.moved (u := U) (U := U.calling g mk a) (Vm.Alike.refl U.vm),
   fun z hz => by obtain ⟨a9, ha⟩ := q.2.2.2.2.2.1 z hz; exact ⟨a9, vk_R.same (u := U) (U := U.calling g mk a) rfl ha⟩, fun E hE => va_Nw.same rfl (u := U) (U := U.calling g mk a) rfl (q.2.2.2.2.2.2.1 E hE), fun y hy => va_Nw.same rfl (u := U) (U := U.calling g mk a) rfl (q.2.2.2.2.2.2.2 y hy)⟩
theorem gx_ng_IAE : ∀ w ∈ (vx_atS RX4 60 gIAE gNm).filter (fun w => !goodWord w), w ∈ [Cond.castable gIAE gIAE, Cond.declares (Bundle.initS "java/lang/RuntimeException"), Cond.declares (Bundle.initS "java/lang/Exception"), Cond.declares (Bundle.initS Bundle.tN)] := by decide +kernel
theorem gx_ot_IAE : ∀ w ∈ Cond.classLink RX4 56 gIAE :: Cond.initialized gIAE :: vx_atS RX4 60 gIAE gNm, vx_ot w = true := by decide +kernel
theorem gx_ng_ISE : ∀ w ∈ (vx_atS RX4 74 gISE gNm).filter (fun w => !goodWord w), w ∈ [Cond.castable gISE gISE, Cond.declares (Bundle.initS "java/lang/RuntimeException"), Cond.declares (Bundle.initS "java/lang/Exception"), Cond.declares (Bundle.initS Bundle.tN)] := by decide +kernel
theorem gx_ot_ISE : ∀ w ∈ Cond.classLink RX4 70 gISE :: Cond.initialized gISE :: vx_atS RX4 74 gISE gNm, vx_ot w = true := by decide +kernel
theorem gx_ng_IOB : ∀ w ∈ (vx_atS RX4 128 gIOB gNm).filter (fun w => !goodWord w), w ∈ [Cond.castable gIOB gIOB, Cond.declares (Bundle.initS "java/lang/RuntimeException"), Cond.declares (Bundle.initS "java/lang/Exception"), Cond.declares (Bundle.initS Bundle.tN)] := by decide +kernel
theorem gx_ot_IOB : ∀ w ∈ Cond.classLink RX4 124 gIOB :: Cond.initialized gIOB :: vx_atS RX4 128 gIOB gNm, vx_ot w = true := by decide +kernel
theorem gx_end {D : va_G} {ws : va_W} {A : Nat → Prop} {s : State} {H : Heap} {locs : List Loc} (hP : va_P D vwCl ws H) (hS : va_S A s.heap H locs) (t : State) (hz : H.size ≤ t.heap.size) (hk : ∀ q, q < H.size → t.heap[q]? = H[q]?) : va_P D vwCl ws t.heap ∧ va_F A s t :=
  ⟨hP.kept fun k q h => hk q.1 (hP k q h).lt, Nat.le_trans hS.1 hz, fun q h1 h2 => by rw [hk q (Nat.lt_of_lt_of_le h1 hS.1)]; exact hS.2.1 q h1 h2⟩
theorem GW_selfI {cI cC cZ cQ : ClassId} {x : Nat} {G : GSt} : va_D (fIv x 201) (GW cI cC cZ cQ x G) := gOrd_D (GW_ord cI cC cZ cQ x G) fun a h => by rw [GW_len] at h; exact h
theorem GW_lift {D : va_G} {cI cC cZ cQ : ClassId} {q : Nat} {G : GSt} {H : Heap} (h : va_P D vwCl (GW cI cC cZ cQ q G) H) : va_P D vwCl (LW cI (q + 1) (gLift G)) H := (GW_parts h).2.1
theorem GW_trial {D : va_G} {cI cC cZ cQ : ClassId} {q : Nat} {G : GSt} {H : Heap} (h : va_P D vwCl (GW cI cC cZ cQ q G) H) : va_P D vwCl (LW cI (q + 11) (gTrial G)) H := (GW_parts h).2.2.1
theorem GW_txt {D : va_G} {cI cC cZ cQ : ClassId} {q : Nat} {G : GSt} {H : Heap} (h : va_P D vwCl (GW cI cC cZ cQ q G) H) : va_P D vwCl (TW cI cC (q + 21) (gTxt G)) H := (GW_parts h).2.2.2.1
theorem GW_sum {D : va_G} {cI cC cZ cQ : ClassId} {q : Nat} {G : GSt} {H : Heap} (h : va_P D vwCl (GW cI cC cZ cQ q G) H) : va_P D vwCl (SW cC (q + 34) (gSum G)) H := (GW_parts h).2.2.2.2.1
theorem GW_his {D : va_G} {cI cC cZ cQ : ClassId} {q : Nat} {G : GSt} {H : Heap} (h : va_P D vwCl (GW cI cC cZ cQ q G) H) : va_P D vwCl (MmW cI cQ (q + 36) 14 (gHis G)) H := (GW_parts h).2.2.2.2.2.1
theorem GW_sav {D : va_G} {cI cC cZ cQ : ClassId} {q : Nat} {G : GSt} {H : Heap} (h : va_P D vwCl (GW cI cC cZ cQ q G) H) : va_P D vwCl (MmW cI cQ (q + 178) 2 (gSav G)) H := (GW_parts h).2.2.2.2.2.2.1
theorem GW_sg {D : va_G} {cI cC cZ cQ : ClassId} {q : Nat} {G : GSt} {H : Heap} (h : va_P D vwCl (GW cI cC cZ cQ q G) H) : va_P D vwCl (SW cC (q + 22) (tSg (gTxt G))) H := TW_S (T := gTxt G) (GW_txt h)
theorem GW_draft {D : va_G} {cI cC cZ cQ : ClassId} {q : Nat} {G : GSt} {H : Heap} (h : va_P D vwCl (GW cI cC cZ cQ q G) H) : va_P D vwCl (LW cI (q + 24) (tD (gTxt G))) H := TW_L (T := gTxt G) (GW_txt h)
/-- a text reader's world out of its three parts -/
theorem TW_make {D : va_G} {cI cC : ClassId} {q : Nat} {T : TSt} {H : Heap} (h0 : va_P D vwCl [(q, .inr (1, [.ref (q + 1), .ref (q + 3), .int (tAt T)]))] H) (h1 : va_P D vwCl (SW cC (q + 1) (tSg T)) H) (h2 : va_P D vwCl (LW cI (q + 3) (tD T)) H) : va_P D vwCl (TW cI cC q T) H :=
  va_P.app (w1 := [(q, .inr (1, [.ref (q + 1), .ref (q + 3), .int (tAt T)]))]) h0 (va_P.app h1 h2)
theorem TW_hd {D : va_G} {cI cC : ClassId} {q : Nat} {T : TSt} {H : Heap} (h : va_P D vwCl (TW cI cC q T) H) : va_P D vwCl [(q, .inr (1, [.ref (q + 1), .ref (q + 3), .int (tAt T)]))] H := gL (w1 := [_]) (w2 := SW cC (q + 1) (tSg T) ++ LW cI (q + 3) (tD T)) h
theorem GW_putSg {D : va_G} {cI cC cZ cQ : ClassId} {q : Nat} {G : GSt} {H H1 : Heap} {Z : SSt} (h : va_P D vwCl (GW cI cC cZ cQ q G) H) (h1 : va_P D vwCl (SW cC (q + 22) Z) H1) (hk : ∀ a : Nat, a < H.size → ¬ fIv (q + 22) 2 a → H1[a]? = H[a]?) : va_P D vwCl (GW cI cC cZ cQ q (gLift G, gTrial G, (Z, tD (gTxt G), tAt (gTxt G)), gSum G, gHis G, gSav G, gSvd G, gRem G, gNxt G)) H1 := by
  refine GW_putTxt (nTxt := (Z, tD (gTxt G), tAt (gTxt G))) h ?_ (fun a hl n => hk a hl (fun z => n ⟨by have := z.1; omega, by have := z.2; omega⟩))
  refine TW_make (T := (Z, tD (gTxt G), tAt (gTxt G))) ?_ h1 ?_
  · exact gKeep (n := 1) gOne_ord rfl (TW_hd (T := gTxt G) (GW_txt h)) (fun a hl hi => hk a hl (fun z => by have b1 := z.1; have b2 := z.2; have b3 := hi.1; have b4 := hi.2; dsimp only at b3 b4; omega))
  · exact gKeep (n := 10) (LW_ord cI _ _) rfl (GW_draft h) (fun a hl hi => hk a hl (fun z => by have b1 := z.1; have b2 := z.2; have b3 := hi.1; have b4 := hi.2; omega))
theorem GW_putLD {D : va_G} {cI cC cZ cQ : ClassId} {q : Nat} {G : GSt} {H H1 : Heap} {nL : LSt} (h : va_P D vwCl (GW cI cC cZ cQ q G) H) (h1 : va_P D vwCl (LW cI (q + 1) nL) H1) (h2 : va_P D vwCl (LW cI (q + 24) (tD (gTxt G))) H1) (hk : ∀ a : Nat, a < H.size → ¬ fIv (q + 1) 10 a → ¬ fIv (q + 24) 10 a → H1[a]? = H[a]?) : va_P D vwCl (GW cI cC cZ cQ q (nL, gTrial G, gTxt G, gSum G, gHis G, gSav G, gSvd G, gRem G, gNxt G)) H1 := by
  refine GW_putLT (nLift := nL) (nTxt := gTxt G) h h1 ?_ (fun a hl n1 n2 => hk a hl n1 (fun z => n2 ⟨by have := z.1; omega, by have := z.2; omega⟩))
  refine TW_make ?_ ?_ h2
  · exact gKeep (n := 1) gOne_ord rfl (TW_hd (GW_txt h)) (fun a hl hi => hk a hl (fun z => by have b1 := z.1; have b2 := z.2; have b3 := hi.1; have b4 := hi.2; dsimp only at b3 b4; omega) (fun z => by have b1 := z.1; have b2 := z.2; have b3 := hi.1; have b4 := hi.2; dsimp only at b3 b4; omega))
  · exact gKeep (n := 2) (SW_ord cC _ _) rfl (GW_sg h) (fun a hl hi => hk a hl (fun z => by have b1 := z.1; have b2 := z.2; have b3 := hi.1; have b4 := hi.2; omega) (fun z => by have b1 := z.1; have b2 := z.2; have b3 := hi.1; have b4 := hi.2; omega))
theorem GW_inLift {q : Nat} : ∀ a, fIv (q + 1) 10 a → fIv q 201 a := fun a h => ⟨by have := h.1; omega, by have := h.2; omega⟩
theorem GW_inTrial {q : Nat} : ∀ a, fIv (q + 11) 10 a → fIv q 201 a := fun a h => ⟨by have := h.1; omega, by have := h.2; omega⟩
theorem GW_inTxt {q : Nat} : ∀ a, fIv (q + 21) 13 a → fIv q 201 a := fun a h => ⟨by have := h.1; omega, by have := h.2; omega⟩
theorem GW_inSum {q : Nat} : ∀ a, fIv (q + 34) 2 a → fIv q 201 a := fun a h => ⟨by have := h.1; omega, by have := h.2; omega⟩
theorem GW_inSg {q : Nat} : ∀ a, fIv (q + 22) 2 a → fIv q 201 a := fun a h => ⟨by have := h.1; omega, by have := h.2; omega⟩
theorem GW_inTL {q : Nat} : ∀ a, gOr (fIv (q + 11) 10) (fIv (q + 1) 10) a → fIv q 201 a := fun a h => h.elim (fun h => ⟨by have := h.1; omega, by have := h.2; omega⟩) (fun h => ⟨by have := h.1; omega, by have := h.2; omega⟩)
theorem GW_inLD {q : Nat} : ∀ a, gOr (fIv (q + 1) 10) (fIv (q + 24) 10) a → fIv q 201 a := fun a h => h.elim (fun h => ⟨by have := h.1; omega, by have := h.2; omega⟩) (fun h => ⟨by have := h.1; omega, by have := h.2; omega⟩)
theorem GW_inLS {q : Nat} : ∀ a, gOr (fIv (q + 1) 10) (fIv (q + 34) 2) a → fIv q 201 a := fun a h => h.elim (fun h => ⟨by have := h.1; omega, by have := h.2; omega⟩) (fun h => ⟨by have := h.1; omega, by have := h.2; omega⟩)
theorem GW_inHisLift {q : Nat} : ∀ a, gOr (fIv (q + 36) 142) (fIv (q + 1) 10) a → fIv q 201 a := fun a h => h.elim (fun h => ⟨by have := h.1; omega, by have := h.2; omega⟩) (fun h => ⟨by have := h.1; omega, by have := h.2; omega⟩)
theorem GW_inSavLift {q : Nat} : ∀ a, gOr (fIv (q + 178) 22) (fIv (q + 1) 10) a → fIv q 201 a := fun a h => h.elim (fun h => ⟨by have := h.1; omega, by have := h.2; omega⟩) (fun h => ⟨by have := h.1; omega, by have := h.2; omega⟩)

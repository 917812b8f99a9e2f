def fX0_init : Option LSt := (fX0_clear (z0, z0, z0, z0, z0, z0, z0, z0, z0, 0, 0, 0, 0)).bind (fun r76 => some ((lWe r76), (lCy r76), (lWr r76), (lPu r76), (lSl r76), (lPl r76), (lSp r76), (lSt r76), (upd (upd (upd (upd (upd (lLi r76) 0 10) 1 20) 2 4) 3 2) 4 3), 8, (lStn r76), (lClk r76), (lRnd r76)))
def fX5_init : Option MSt := lt (aw (mA ((fun _ => z0), 0, 0, 0, 0, 0, 0)) 3 99 10) (fun a1 => lt (aw a1 3 100 20) (fun a2 => lt (aw a2 3 101 4) (fun a3 => lt (aw a3 3 102 2) (fun a4 => lt (aw a4 3 103 3) (fun a5 => some (a5, (mRef ((fun _ => z0), 0, 0, 0, 0, 0, 0)), (mSize ((fun _ => z0), 0, 0, 0, 0, 0, 0)), (mSpot ((fun _ => z0), 0, 0, 0, 0, 0, 0)), (mRN ((fun _ => z0), 0, 0, 0, 0, 0, 0)), 8, (mActs ((fun _ => z0), 0, 0, 0, 0, 0, 0))))))))
theorem MW_D {cI cZ : ClassId} {q : Nat} {M : MSt} {A : Nat → Prop} (hA : ∀ a, fIv q 10 a → A a) : va_D A (MW cI cZ q M) := gOrd_D (MW_ord cI cZ q M) hA
set_option maxHeartbeats 8000000 in
set_option maxRecDepth 100000 in
theorem kX3_init (l : Launch) (D : va_G) (cI cC cZ cQ cJ : ClassId) (q : Nat) : Met l yX3_init wsX3_init ({ frames := 1, cells := 1, slots := 60, locals := 12 } : Room) (va_Pc [.ref q] (gB D (gTy cI cC cZ cQ cJ) (fun H => H.size = q + 1 ∧ va_P D vwCl [(q, .inr (3, [.null, .int 0]))] H))) (va_Qv (fun _ : Unit => True) (fun _ t => t.heap.size = q + 2 ∧ va_P D vwCl (SW cC q (z0, 0)) t.heap) (gGe q)) 1 60 (gGe q) := by
  refine Met.ofW (cc := cX3_init) (maxL := 1) (ret := none) (by decide) rfl ?_
  intro p e s m args below meth c s₁ B hml hv
  obtain ⟨rfl, ⟨hsz, hP⟩, hK⟩ := hv
  have hx := B.exec
  have hb := B.bytes
  have hr9 := B.returns
  have hts := atoms_spec (ws := wsX3_init) B.pre
  have hown : s.vm.findClass RX3 = some m.cls := findClass_of_methodNamed B.named
  have hlocks := B.notSynchronized
  have hin : meth.name = "<init>" := (name_of_methodNamed B.named B.method).1
  have hA0 : ∀ a : Nat, s.heap.size ≤ a → gGe q a := fun a h => by show q ≤ a; omega
  have hl := lv_entry ([.ref q]) (n := 1) (Nat.le_of_ble_eq_true rfl)
  rw [lg_entry_eq]
  generalize (lg_sl ([.ref q]) ++ List.replicate (1 - (lg_sl ([.ref q])).length) Slot.unset).toArray = ls at hl ⊢
  have hl : lv_has ls 1 [(0, .ref q)] := hl
  have hS : va_S (gGe q) s.heap s.heap [] := va_S.rf
  have hD : va_D (gGe q) [(q, .inr (3, [.null, .int 0]))] := gOrd_D (A := gGe q) (l := [(q, .inr (3, [.null, .int 0]))]) (q := q) ⟨rfl, trivial⟩ (fun _ h9 => h9.1)
  obtain ⟨H, hH⟩ : ∃ H, H = s.heap := ⟨_, rfl⟩
  obtain ⟨locs, hlz⟩ : ∃ z : List Loc, z = [] := ⟨_, rfl⟩
  have hP : va_P D vwCl [(q, .inr (3, [.null, .int 0]))] H := by rw [hH]; exact hP
  have hS : va_S (gGe q) s.heap H locs := by rw [hH, hlz]; exact hS
  refine gc_at hH hlz ?_
  refine lv_aload_n hx hb dX3_init_0 rfl (lv_at hl 0 rfl) ?_
  refine W.objInit hx hb hown (hts (.methodLink RX3 3 objectInit) (by decide +kernel)) (hts (.instanceMethod objectInit) (by decide +kernel)) (hts (.code objectInit ⟨#[0xb1]⟩ 1 none) (by decide +kernel)) rfl (by rw [hml]; exact hl.1) rfl dX3_init_1 (Nat.le_of_ble_eq_true rfl) (Nat.le_of_ble_eq_true rfl) ?_
  refine W.eq (g2 := F0 m 4 ls []) rfl ?_
  refine lv_aload_n hx hb dX3_init_4 rfl (lv_at hl 0 rfl) ?_
  refine lv_bipush (v := 60) hx hb dX3_init_5 (by decide) ?_
  refine va_newa (atype := .char) (ty := .char) (a0 := (60, .inl z0)) (N' := 60) hx hb (hts (.arrayClass .char) (by decide +kernel)) rfl hK hP hD hS hA0 (fun _ => rfl) (by decide) (by decide) (by decide) (Nat.le_of_ble_eq_true rfl) (Nat.le_of_ble_eq_true rfl) dX3_init_7 (fun q9 cA9 H hK9 hP hD hS => ?_)
  obtain rfl : cC = cA9 := g_cc (hK.2 1 _ rfl).2 (hK9.2 4 _ rfl).2
  clear hK9
  refine W.widen (k := 1) (n := 60) (Nat.le_of_ble_eq_true rfl) (Nat.le_of_ble_eq_true rfl) ?_
  refine g_size (fun hz9 => ?_)
  obtain rfl : q9 = q + 1 := g_pin hD ⟨rfl, trivial⟩ rfl hP (by omega)
  have hP : va_P D vwCl [(q, .inr (3, [.null, .int 0])), ((q + 1), .inl (cC, 60, .inl z0))] H := hP
  have hD : va_D (gGe q) [(q, .inr (3, [.null, .int 0])), ((q + 1), .inl (cC, 60, .inl z0))] := gOrd_D (A := gGe q) (l := [(q, .inr (3, [.null, .int 0])), ((q + 1), .inl (cC, 60, .inl z0))]) (q := q) ⟨rfl, rfl, trivial⟩ (fun _ h9 => h9.1)
  refine va_putF (D := D) (ci := 3) (v := .ref (q + 1)) (ty := tyX3 0) (C := RX3) (T := TX3) (N := 2) hx hb hts (by decide +kernel) tyX3 tyX3_ok nmX3 hown hK hP hD hS 0 rfl rfl 0 (by decide) (hts (.fieldLink RX3 9 "GripInspector$Signs" "row" "[C") (by decide +kernel)) (fun _ h9 => h9) rfl hin rfl (by decide +kernel) rfl rfl (Nat.le_of_ble_eq_true rfl) dX3_init_9 (fun H locs hP hD hS => ?_)
  have hP : va_P D vwCl [(q, .inr (3, [.ref (q + 1), .int 0])), ((q + 1), .inl (cC, 60, .inl z0))] H := hP
  have hD : va_D (gGe q) [(q, .inr (3, [.ref (q + 1), .int 0])), ((q + 1), .inl (cC, 60, .inl z0))] := hD
  have hP : va_P D vwCl (SW cC q (z0, 0)) H := hP
  refine lv_aload_n hx hb dX3_init_12 rfl (lv_at hl 0 rfl) ?_
  refine lv_iconst (v := 0) hx hb dX3_init_13 (by decide) ?_
  refine va_put (D := D) (ci := 3) (v := .int 0) (ty := .int) (C := RX3) (T := TX3) (N := 2) hx hb hts (by decide +kernel) tyX3 tyX3_ok nmX3 hown hK hP (SW_D (A := gGe q) (fun _ h9 => h9.1)) hS 0 rfl rfl 1 (by decide) (hts (.fieldLink RX3 15 "GripInspector$Signs" "length" "I") (by decide +kernel)) (fun _ h9 => h9) rfl (by decide +kernel) rfl rfl (Nat.le_of_ble_eq_true rfl) dX3_init_14 (fun H locs hP _ hS => ?_)
  have hP : va_P D vwCl (SW cC q (z0, 0)) H := hP
  refine g_size (fun hz9 => ?_)
  have hz8 : q + 1 < H.size := (hP 1 _ rfl).lt
  exact W.vret hx hb hr9 (fun t ht hW => ⟨⟨(), rfl, trivial, gHB (B := fun H => H.size = q + 2 ∧ va_P D vwCl (SW cC q (z0, 0)) H) ht ⟨by omega, hP⟩⟩, hS.F ht⟩) hS.2.2 dX3_init_17

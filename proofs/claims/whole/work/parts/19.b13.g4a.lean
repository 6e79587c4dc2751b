set_option maxHeartbeats 4000000 in
set_option maxRecDepth 100000 in
/-- ClassMill$Code.addHandler -/
theorem v1_addHandler (l : Launch) (dC : Nat → ClassId) (dI : Nat → Nat → Nat) (sz : Nat) (h0 : Nat) (a1 : Int32) (a2 : Int32) (a3 : Int32) (qf0 : Nat) (v1 : Int32) (qf2 : Nat) (v3 : Int32) (v4 : Int32) (qf5 : Nat) (qf6 : Nat) (v7 : Int32) (v8 : Int32) (qf9 : Nat) (v10 : Int32) (qf11 : Nat) (qf12 : Nat) (qf13 : Nat) (v14 : Int32) (v15 : Int32) (cf9 : ClassId) (f9 : (Nat → Int32)) (cf2 : ClassId) (f2 : (Nat → Int32)) (cf13 : ClassId) (f13 : (Nat → Int32)) (cf11 : ClassId) (f11 : (Nat → Int32)) (cf12 : ClassId) (f12 : (Nat → Int32)) (cf6 : ClassId) (f6 : (Nat → Int32)) (nf : Nat) (o11 : (Nat → Int32)) (o12 : (Nat → Int32)) (o13 : (Nat → Int32)) (o2 : (Nat → Int32)) (o9 : (Nat → Int32)) (w10 : Int32) (w14 : Int32) (w15 : Int32) (w3 : Int32) (w4 : Int32) (hsp : sp_v1_addHandler nf a1 a2 a3 v1 v3 v4 v7 v10 v14 v15 f9 f2 f13 f11 f12 f6 = some (o11, o12, o13, o2, o9, w10, w14, w15, w3, w4)) : Met l yX1_addHandler (.code yX1_addHandler cX1_addHandler 5 none :: VS_h7) ({ frames := 2, cells := 0, slots := 0, locals := 64 }) (va_Pc [.ref h0, .int a1, .int a2, .int a3] (fun U => U.heap.size = sz ∧ va_P (dC, dI) vwCl [(h0, .inr (1, [.ref qf0, .int v1, .ref qf2, .int v3, .int v4, .ref qf5, .ref qf6, .int v7, .int v8, .ref qf9, .int v10, .ref qf11, .ref qf12, .ref qf13, .int v14, .int v15])), (qf9, .inl (cf9, 80, .inl f9)), (qf2, .inl (cf2, 20, .inl f2)), (qf13, .inl (cf13, 100, .inl f13)), (qf11, .inl (cf11, 100, .inl f11)), (qf12, .inl (cf12, 5200, .inl f12)), (qf6, .inl (cf6, 750, .inl f6))] U.heap ∧ va_K (dC, dI) vwCl [(cf9, .int), (cf2, .int), (cf13, .int), (cf11, .int), (cf12, .int), (cf6, .int)] U ∧ va_D (fun _ => True) [(h0, .inr (1, [.ref qf0, .int v1, .ref qf2, .int v3, .int v4, .ref qf5, .ref qf6, .int v7, .int v8, .ref qf9, .int v10, .ref qf11, .ref qf12, .ref qf13, .int v14, .int v15])), (qf9, .inl (cf9, 80, .inl f9)), (qf2, .inl (cf2, 20, .inl f2)), (qf13, .inl (cf13, 100, .inl f13)), (qf11, .inl (cf11, 100, .inl f11)), (qf12, .inl (cf12, 5200, .inl f12)), (qf6, .inl (cf6, 750, .inl f6))])) (va_Qv (fun (u : Unit) => match u with | () => True) (fun (u : Unit) (t : State) => match u with | () => va_P (dC, dI) vwCl [(h0, .inr (1, [.ref qf0, .int v1, .ref qf2, .int w3, .int w4, .ref qf5, .ref qf6, .int v7, .int v8, .ref qf9, .int w10, .ref qf11, .ref qf12, .ref qf13, .int w14, .int w15])), (qf9, .inl (cf9, 80, .inl o9)), (qf2, .inl (cf2, 20, .inl o2)), (qf13, .inl (cf13, 100, .inl o13)), (qf11, .inl (cf11, 100, .inl o11)), (qf12, .inl (cf12, 5200, .inl o12)), (qf6, .inl (cf6, 750, .inl f6))] t.heap ∧ va_K (dC, dI) vwCl [(cf9, .int), (cf2, .int), (cf13, .int), (cf11, .int), (cf12, .int), (cf6, .int)] t ∧ va_D (va_A [(h0, .inr (1, [.ref qf0, .int v1, .ref qf2, .int v3, .int v4, .ref qf5, .ref qf6, .int v7, .int v8, .ref qf9, .int v10, .ref qf11, .ref qf12, .ref qf13, .int v14, .int v15])), (qf9, .inl (cf9, 80, .inl f9)), (qf2, .inl (cf2, 20, .inl f2)), (qf13, .inl (cf13, 100, .inl f13)), (qf11, .inl (cf11, 100, .inl f11)), (qf12, .inl (cf12, 5200, .inl f12)), (qf6, .inl (cf6, 750, .inl f6))] sz) [(h0, .inr (1, [.ref qf0, .int v1, .ref qf2, .int w3, .int w4, .ref qf5, .ref qf6, .int v7, .int v8, .ref qf9, .int w10, .ref qf11, .ref qf12, .ref qf13, .int w14, .int w15])), (qf9, .inl (cf9, 80, .inl o9)), (qf2, .inl (cf2, 20, .inl o2)), (qf13, .inl (cf13, 100, .inl o13)), (qf11, .inl (cf11, 100, .inl o11)), (qf12, .inl (cf12, 5200, .inl o12)), (qf6, .inl (cf6, 750, .inl f6))]) (va_A [(h0, .inr (1, [.ref qf0, .int v1, .ref qf2, .int v3, .int v4, .ref qf5, .ref qf6, .int v7, .int v8, .ref qf9, .int v10, .ref qf11, .ref qf12, .ref qf13, .int v14, .int v15])), (qf9, .inl (cf9, 80, .inl f9)), (qf2, .inl (cf2, 20, .inl f2)), (qf13, .inl (cf13, 100, .inl f13)), (qf11, .inl (cf11, 100, .inl f11)), (qf12, .inl (cf12, 5200, .inl f12)), (qf6, .inl (cf6, 750, .inl f6))] sz)) 0 0 (va_A [(h0, .inr (1, [.ref qf0, .int v1, .ref qf2, .int v3, .int v4, .ref qf5, .ref qf6, .int v7, .int v8, .ref qf9, .int v10, .ref qf11, .ref qf12, .ref qf13, .int v14, .int v15])), (qf9, .inl (cf9, 80, .inl f9)), (qf2, .inl (cf2, 20, .inl f2)), (qf13, .inl (cf13, 100, .inl f13)), (qf11, .inl (cf11, 100, .inl f11)), (qf12, .inl (cf12, 5200, .inl f12)), (qf6, .inl (cf6, 750, .inl f6))] sz) := by
  refine Met.ofW (cc := cX1_addHandler) (maxL := 5) (ret := none) (by decide) rfl ?_
  intro p e s m args below meth c s₁ B hml hv
  obtain ⟨rfl, hsz, hP, hK, hD0⟩ := hv
  have hx := B.exec
  have hb := B.bytes
  have hr := B.returns
  have hts := atoms_spec (ws := (.code yX1_addHandler cX1_addHandler 5 none :: VS_h7)) B.pre
  replace hts := fun w (h : w ∈ VS_h7) => hts w (List.mem_cons_of_mem _ h)
  have hown : s.vm.findClass RX1 = some m.cls := findClass_of_methodNamed B.named
  have hlocks := B.notSynchronized
  subst hsz
  have hD := hD0.self (sz := s.heap.size)
  generalize hAe : va_A [(h0, .inr (1, [.ref qf0, .int v1, .ref qf2, .int v3, .int v4, .ref qf5, .ref qf6, .int v7, .int v8, .ref qf9, .int v10, .ref qf11, .ref qf12, .ref qf13, .int v14, .int v15])), (qf9, .inl (cf9, 80, .inl f9)), (qf2, .inl (cf2, 20, .inl f2)), (qf13, .inl (cf13, 100, .inl f13)), (qf11, .inl (cf11, 100, .inl f11)), (qf12, .inl (cf12, 5200, .inl f12)), (qf6, .inl (cf6, 750, .inl f6))] s.heap.size = A at hD  ⊢
  have hA : ∀ q : Nat, s.heap.size ≤ q → A q := fun q h => by rw [← hAe]; exact Or.inr h
  have hP : va_P (dC, dI) vwCl [(h0, .inr (1, [.ref qf0, .int v1, .ref qf2, .int v3, .int v4, .ref qf5, .ref qf6, .int v7, .int v8, .ref qf9, .int v10, .ref qf11, .ref qf12, .ref qf13, .int v14, .int v15])), (qf9, .inl (cf9, 80, .inl f9)), (qf2, .inl (cf2, 20, .inl f2)), (qf13, .inl (cf13, 100, .inl f13)), (qf11, .inl (cf11, 100, .inl f11)), (qf12, .inl (cf12, 5200, .inl f12)), (qf6, .inl (cf6, 750, .inl f6))] s.heap := hP
  have hl := lv_entry ([.ref h0, .int a1, .int a2, .int a3]) (n := 5) (Nat.le_of_ble_eq_true rfl)
  rw [lg_entry_eq]
  generalize (lg_sl ([.ref h0, .int a1, .int a2, .int a3]) ++ List.replicate (5 - (lg_sl ([.ref h0, .int a1, .int a2, .int a3])).length) Slot.unset).toArray = ls at hl ⊢
  have hl : lv_has ls 5 [(0, .ref h0), (1, .int a1), (2, .int a2), (3, .int a3)] := hl
  obtain ⟨H, hH⟩ : ∃ H : Heap, s.heap = H := ⟨_, rfl⟩
  rw [hH] at hP ⊢
  have hS : va_S A s.heap H [] := by rw [← hH]; exact va_S.rf
  obtain ⟨locs, hlo⟩ : ∃ locs : List Loc, locs = [] := ⟨_, rfl⟩
  rw [← hlo] at hS ⊢
  unfold sp_v1_addHandler at hsp
  refine jn_use (α := Heap × List Loc × Array Slot × Int32 × (Nat → Int32) × (Nat → Int32) × (Nat → Int32) × (Nat → Int32) × (Nat → Int32) × Int32 × Int32 × Int32 × Int32 × Int32) (fun x9 => x9.1) (fun x9 => x9.2.1) (fun x9 => F0 m 76 x9.2.2.1 []) (fun x9 => match x9 with | (H, locs, ls, l3_76, g11_76, g12_76, g13_76, g2_76, g9_76, x10_76, x14_76, x15_76, x3_76, x4_76) => lv_has ls 5 [(0, .ref h0), (3, .int l3_76)] ∧ va_S A s.heap H locs ∧ va_D A [(h0, .inr (1, [.ref qf0, .int v1, .ref qf2, .int x3_76, .int x4_76, .ref qf5, .ref qf6, .int v7, .int v8, .ref qf9, .int x10_76, .ref qf11, .ref qf12, .ref qf13, .int x14_76, .int x15_76])), (qf9, .inl (cf9, 80, .inl g9_76)), (qf2, .inl (cf2, 20, .inl g2_76)), (qf13, .inl (cf13, 100, .inl g13_76)), (qf11, .inl (cf11, 100, .inl g11_76)), (qf12, .inl (cf12, 5200, .inl g12_76)), (qf6, .inl (cf6, 750, .inl f6))] ∧ va_P (dC, dI) vwCl [(h0, .inr (1, [.ref qf0, .int v1, .ref qf2, .int x3_76, .int x4_76, .ref qf5, .ref qf6, .int v7, .int v8, .ref qf9, .int x10_76, .ref qf11, .ref qf12, .ref qf13, .int x14_76, .int x15_76])), (qf9, .inl (cf9, 80, .inl g9_76)), (qf2, .inl (cf2, 20, .inl g2_76)), (qf13, .inl (cf13, 100, .inl g13_76)), (qf11, .inl (cf11, 100, .inl g11_76)), (qf12, .inl (cf12, 5200, .inl g12_76)), (qf6, .inl (cf6, 750, .inl f6))] H ∧ jn_v1_addHandler_76 nf a1 a2 a3 v1 v3 v4 v7 v10 v14 v15 f9 f2 f13 f11 f12 f6 l3_76 g11_76 g12_76 g13_76 g2_76 g9_76 x10_76 x14_76 x15_76 x3_76 x4_76 = some (o11, o12, o13, o2, o9, w10, w14, w15, w3, w4)) ?_ ?_
  · intro x9 hJ9
    obtain ⟨H, locs, ls, l3_76, g11_76, g12_76, g13_76, g2_76, g9_76, x10_76, x14_76, x15_76, x3_76, x4_76⟩ := x9
    obtain ⟨hl, hS, hD, hP, hsp⟩ := hJ9
    replace hl : lv_has ls 5 [(0, .ref h0), (3, .int l3_76)] := hl
    replace hS : va_S A s.heap H locs := hS
    replace hD : va_D A [(h0, .inr (1, [.ref qf0, .int v1, .ref qf2, .int x3_76, .int x4_76, .ref qf5, .ref qf6, .int v7, .int v8, .ref qf9, .int x10_76, .ref qf11, .ref qf12, .ref qf13, .int x14_76, .int x15_76])), (qf9, .inl (cf9, 80, .inl g9_76)), (qf2, .inl (cf2, 20, .inl g2_76)), (qf13, .inl (cf13, 100, .inl g13_76)), (qf11, .inl (cf11, 100, .inl g11_76)), (qf12, .inl (cf12, 5200, .inl g12_76)), (qf6, .inl (cf6, 750, .inl f6))] := hD
    replace hP : va_P (dC, dI) vwCl [(h0, .inr (1, [.ref qf0, .int v1, .ref qf2, .int x3_76, .int x4_76, .ref qf5, .ref qf6, .int v7, .int v8, .ref qf9, .int x10_76, .ref qf11, .ref qf12, .ref qf13, .int x14_76, .int x15_76])), (qf9, .inl (cf9, 80, .inl g9_76)), (qf2, .inl (cf2, 20, .inl g2_76)), (qf13, .inl (cf13, 100, .inl g13_76)), (qf11, .inl (cf11, 100, .inl g11_76)), (qf12, .inl (cf12, 5200, .inl g12_76)), (qf6, .inl (cf6, 750, .inl f6))] H := hP
    replace hsp : jn_v1_addHandler_76 nf a1 a2 a3 v1 v3 v4 v7 v10 v14 v15 f9 f2 f13 f11 f12 f6 l3_76 g11_76 g12_76 g13_76 g2_76 g9_76 x10_76 x14_76 x15_76 x3_76 x4_76 = some (o11, o12, o13, o2, o9, w10, w14, w15, w3, w4) := hsp
    show W _ _ _ _ _ _ _ _ _ _ H locs _ _ _ (F0 m 76 ls [])
    unfold jn_v1_addHandler_76 at hsp
    try dsimp only at hsp
    refine lv_aload_n hx hb dX1_addHandler_76 rfl (lv_at hl 0 rfl) ?_
    refine lv_iload_n hx hb dX1_addHandler_77 rfl (lv_at hl 1 rfl) ?_
    obtain ⟨⟨g901_0, u1_1, u1_2⟩, hu_1, hsp⟩ := ox_bind hsp
    try dsimp only at hsp
    have hPc := hP.sub (ws' := [(h0, .inr (1, [.ref qf0, .int v1, .ref qf2, .int x3_76, .int x4_76, .ref qf5, .ref qf6, .int v7, .int v8, .ref qf9, .int x10_76, .ref qf11, .ref qf12, .ref qf13, .int x14_76, .int x15_76])), (qf2, .inl (cf2, 20, .inl g2_76))]) [0, 2] rfl
    have hDc := hD.sub (ws' := [(h0, .inr (1, [.ref qf0, .int v1, .ref qf2, .int x3_76, .int x4_76, .ref qf5, .ref qf6, .int v7, .int v8, .ref qf9, .int x10_76, .ref qf11, .ref qf12, .ref qf13, .int x14_76, .int x15_76])), (qf2, .inl (cf2, 20, .inl g2_76))]) [0, 2] (by decide) rfl
    have hKc := hK.sub (tys' := [(cf2, .int)]) [1] rfl
    have hFc := va_free (wc := [(h0, .inr (1, [.ref qf0, .int v1, .ref qf2, .int x3_76, .int x4_76, .ref qf5, .ref qf6, .int v7, .int v8, .ref qf9, .int x10_76, .ref qf11, .ref qf12, .ref qf13, .int x14_76, .int x15_76])), (qf2, .inl (cf2, 20, .inl g2_76))]) hD hS hA [0, 2] rfl
    refine va_callv (va_runV (As := [.int l3_76]) (rest := []) ⟨hx, hb, hml, hown, hts⟩ (t1_push l dC dI H.size h0 l3_76 qf0 v1 qf2 x3_76 x4_76 qf5 qf6 v7 v8 qf9 x10_76 qf11 qf12 qf13 x14_76 x15_76 cf2 g2_76 nf g901_0 u1_1 u1_2 hu_1) (cwV 1 hts gv_h7_3 rfl rfl rfl (by decide +kernel) ⟨Nat.le_of_ble_eq_true rfl, Nat.le_of_ble_eq_true rfl⟩) ⟨fun a U g mk q => by obtain ⟨q0, q1, qP, qK, qD⟩ := q; exact ⟨q0, q1, qP, va_K.moved (u := U) (U := U.calling g mk a) (Vm.Alike.refl U.vm) qK, qD⟩, va_recv hKc hPc (ci := 1) (q0 := 0) rfl rfl, fun U hU hW => ⟨rfl, by rw [hU], by rw [hU]; exact hPc, va_K.moved hW.alike hKc, hDc.weaken (fun _ _ _ _ => trivial)⟩⟩ rfl rfl hl.1 rfl (lv_room (Nat.le_of_ble_eq_true rfl)) dX1_addHandler_78 ⟨Nat.le_of_ble_eq_true rfl, Nat.le_of_ble_eq_true rfl⟩) hS (fun q _ h => hFc q h) hFc ?_
    clear hS
    intro u t H1 locs ht hvm hw hB hz1 hk1 hS
    obtain ⟨⟩ := u
    obtain ⟨hP1, hK1, hD1⟩ := hB
    rw [ht] at hP1
    have hK1 := va_K.moved hvm.symm hK1
    try dsimp only at hw
    have hPD := va_join (wr := [(qf9, .inl (cf9, 80, .inl g9_76)), (qf13, .inl (cf13, 100, .inl g13_76)), (qf11, .inl (cf11, 100, .inl g11_76)), (qf12, .inl (cf12, 5200, .inl g12_76)), (qf6, .inl (cf6, 750, .inl f6))]) (w1 := [(h0, .inr (1, [.ref qf0, .int v1, .ref qf2, .int u1_1, .int u1_2, .ref qf5, .ref qf6, .int v7, .int v8, .ref qf9, .int x10_76, .ref qf11, .ref qf12, .ref qf13, .int x14_76, .int x15_76])), (qf2, .inl (cf2, 20, .inl g901_0))]) hP hD [0, 2] [1, 3, 4, 5, 6] rfl rfl (by decide) (by decide) hk1 hFc hP1 hD1
    clear hP hD
    obtain ⟨hP, hD⟩ := hPD
    replace hK := (hK.sub (tys' := [(cf9, .int), (cf13, .int), (cf11, .int), (cf12, .int), (cf6, .int)]) [0, 2, 3, 4, 5] rfl).app hK1
    clear hPc hDc hKc hFc hP1 hK1 hD1 hz1 hk1 ht hvm
    generalize H1 = H at hP hS ⊢
    replace hP : va_P (dC, dI) vwCl [(qf9, .inl (cf9, 80, .inl g9_76)), (qf13, .inl (cf13, 100, .inl g13_76)), (qf11, .inl (cf11, 100, .inl g11_76)), (qf12, .inl (cf12, 5200, .inl g12_76)), (qf6, .inl (cf6, 750, .inl f6)), (h0, .inr (1, [.ref qf0, .int v1, .ref qf2, .int u1_1, .int u1_2, .ref qf5, .ref qf6, .int v7, .int v8, .ref qf9, .int x10_76, .ref qf11, .ref qf12, .ref qf13, .int x14_76, .int x15_76])), (qf2, .inl (cf2, 20, .inl g901_0))] H := hP
    replace hD : va_D A [(qf9, .inl (cf9, 80, .inl g9_76)), (qf13, .inl (cf13, 100, .inl g13_76)), (qf11, .inl (cf11, 100, .inl g11_76)), (qf12, .inl (cf12, 5200, .inl g12_76)), (qf6, .inl (cf6, 750, .inl f6)), (h0, .inr (1, [.ref qf0, .int v1, .ref qf2, .int u1_1, .int u1_2, .ref qf5, .ref qf6, .int v7, .int v8, .ref qf9, .int x10_76, .ref qf11, .ref qf12, .ref qf13, .int x14_76, .int x15_76])), (qf2, .inl (cf2, 20, .inl g901_0))] := hD
    replace hK : va_K (dC, dI) vwCl [(cf9, .int), (cf13, .int), (cf11, .int), (cf12, .int), (cf6, .int), (cf2, .int)] s := hK
    refine lv_aload_n hx hb dX1_addHandler_81 rfl (lv_at hl 0 rfl) ?_
    refine lv_aload_n hx hb dX1_addHandler_82 rfl (lv_at hl 0 rfl) ?_
    refine lv_aload_n hx hb dX1_addHandler_83 rfl (lv_at hl 0 rfl) ?_
    refine va_get (D := (dC, dI)) (ci := 1) (v := .int v1) (C := RX1) (T := TX1) (N := 16) hx hb hts uV_h7_X1 hown hK hP 5 rfl rfl 1 (by decide) (hts (.fieldLink RX1 39 "ClassMill$Code" "length" "I") mw_h7_57) (fun _ h9 => h9) rfl dX1_addHandler_84 ?_
    obtain ⟨⟨u2_0, g902_1, g902_2, u2_3⟩, hu_2, hsp⟩ := ox_bind hsp
    try dsimp only at hsp
    have hPc := hP.sub (ws' := [(h0, .inr (1, [.ref qf0, .int v1, .ref qf2, .int u1_1, .int u1_2, .ref qf5, .ref qf6, .int v7, .int v8, .ref qf9, .int x10_76, .ref qf11, .ref qf12, .ref qf13, .int x14_76, .int x15_76])), (qf13, .inl (cf13, 100, .inl g13_76)), (qf11, .inl (cf11, 100, .inl g11_76))]) [5, 1, 2] rfl
    have hDc := hD.sub (ws' := [(h0, .inr (1, [.ref qf0, .int v1, .ref qf2, .int u1_1, .int u1_2, .ref qf5, .ref qf6, .int v7, .int v8, .ref qf9, .int x10_76, .ref qf11, .ref qf12, .ref qf13, .int x14_76, .int x15_76])), (qf13, .inl (cf13, 100, .inl g13_76)), (qf11, .inl (cf11, 100, .inl g11_76))]) [5, 1, 2] (by decide) rfl
    have hKc := hK.sub (tys' := [(cf13, .int), (cf11, .int)]) [1, 2] rfl
    have hFc := va_free (wc := [(h0, .inr (1, [.ref qf0, .int v1, .ref qf2, .int u1_1, .int u1_2, .ref qf5, .ref qf6, .int v7, .int v8, .ref qf9, .int x10_76, .ref qf11, .ref qf12, .ref qf13, .int x14_76, .int x15_76])), (qf13, .inl (cf13, 100, .inl g13_76)), (qf11, .inl (cf11, 100, .inl g11_76))]) hD hS hA [5, 1, 2] rfl
    refine va_calli (va_runV (As := [.int v1]) (rest := [.ref h0]) ⟨hx, hb, hml, hown, hts⟩ (v1_slotOfFrame l dC dI H.size h0 v1 qf0 v1 qf2 u1_1 u1_2 qf5 qf6 v7 v8 qf9 x10_76 qf11 qf12 qf13 x14_76 x15_76 cf13 g13_76 cf11 g11_76 nf u2_0 g902_1 g902_2 u2_3 hu_2) (cwV 1 hts gv_h7_106 rfl rfl rfl (by decide +kernel) ⟨Nat.le_of_ble_eq_true rfl, Nat.le_of_ble_eq_true rfl⟩) ⟨fun a U g mk q => by obtain ⟨q0, q1, qP, qK, qD⟩ := q; exact ⟨q0, q1, qP, va_K.moved (u := U) (U := U.calling g mk a) (Vm.Alike.refl U.vm) qK, qD⟩, va_recv hKc hPc (ci := 1) (q0 := 0) rfl rfl, fun U hU hW => ⟨rfl, by rw [hU], by rw [hU]; exact hPc, va_K.moved hW.alike hKc, hDc.weaken (fun _ _ _ _ => trivial)⟩⟩ rfl rfl hl.1 rfl (lv_room (Nat.le_of_ble_eq_true rfl)) dX1_addHandler_87 ⟨Nat.le_of_ble_eq_true rfl, Nat.le_of_ble_eq_true rfl⟩) hS (fun q _ h => hFc q h) hFc ?_
    clear hS
    intro r_6 u t H1 locs ht hvm hw hB hz1 hk1 hS
    obtain ⟨⟩ := u
    obtain ⟨hP1, hK1, hD1⟩ := hB
    rw [ht] at hP1
    have hK1 := va_K.moved hvm.symm hK1
    try dsimp only at hw
    have hPD := va_join (wr := [(qf9, .inl (cf9, 80, .inl g9_76)), (qf12, .inl (cf12, 5200, .inl g12_76)), (qf6, .inl (cf6, 750, .inl f6)), (qf2, .inl (cf2, 20, .inl g901_0))]) (w1 := [(h0, .inr (1, [.ref qf0, .int v1, .ref qf2, .int u1_1, .int u1_2, .ref qf5, .ref qf6, .int v7, .int v8, .ref qf9, .int x10_76, .ref qf11, .ref qf12, .ref qf13, .int u2_3, .int x15_76])), (qf13, .inl (cf13, 100, .inl g902_2)), (qf11, .inl (cf11, 100, .inl g902_1))]) hP hD [5, 1, 2] [0, 3, 4, 6] rfl rfl (by decide) (by decide) hk1 hFc hP1 hD1
    clear hP hD
    obtain ⟨hP, hD⟩ := hPD
    replace hK := (hK.sub (tys' := [(cf9, .int), (cf12, .int), (cf6, .int), (cf2, .int)]) [0, 3, 4, 5] rfl).app hK1
    clear hPc hDc hKc hFc hP1 hK1 hD1 hz1 hk1 ht hvm
    generalize H1 = H at hP hS ⊢
    replace hP : va_P (dC, dI) vwCl [(qf9, .inl (cf9, 80, .inl g9_76)), (qf12, .inl (cf12, 5200, .inl g12_76)), (qf6, .inl (cf6, 750, .inl f6)), (qf2, .inl (cf2, 20, .inl g901_0)), (h0, .inr (1, [.ref qf0, .int v1, .ref qf2, .int u1_1, .int u1_2, .ref qf5, .ref qf6, .int v7, .int v8, .ref qf9, .int x10_76, .ref qf11, .ref qf12, .ref qf13, .int u2_3, .int x15_76])), (qf13, .inl (cf13, 100, .inl g902_2)), (qf11, .inl (cf11, 100, .inl g902_1))] H := hP
    replace hD : va_D A [(qf9, .inl (cf9, 80, .inl g9_76)), (qf12, .inl (cf12, 5200, .inl g12_76)), (qf6, .inl (cf6, 750, .inl f6)), (qf2, .inl (cf2, 20, .inl g901_0)), (h0, .inr (1, [.ref qf0, .int v1, .ref qf2, .int u1_1, .int u1_2, .ref qf5, .ref qf6, .int v7, .int v8, .ref qf9, .int x10_76, .ref qf11, .ref qf12, .ref qf13, .int u2_3, .int x15_76])), (qf13, .inl (cf13, 100, .inl g902_2)), (qf11, .inl (cf11, 100, .inl g902_1))] := hD
    replace hK : va_K (dC, dI) vwCl [(cf9, .int), (cf12, .int), (cf6, .int), (cf2, .int), (cf13, .int), (cf11, .int)] s := hK
    obtain rfl := hw
    refine lv_aload_n hx hb dX1_addHandler_90 rfl (lv_at hl 0 rfl) ?_
    refine va_get (D := (dC, dI)) (ci := 1) (v := .int v7) (C := RX1) (T := TX1) (N := 16) hx hb hts uV_h7_X1 hown hK hP 4 rfl rfl 7 (by decide) (hts (.fieldLink RX1 49 "ClassMill$Code" "sight" "I") mw_h7_441) (fun _ h9 => h9) rfl dX1_addHandler_91 ?_
    refine lv_aload_n hx hb dX1_addHandler_94 rfl (lv_at hl 0 rfl) ?_
    refine va_get (D := (dC, dI)) (ci := 1) (v := .int u1_1) (C := RX1) (T := TX1) (N := 16) hx hb hts uV_h7_X1 hown hK hP 4 rfl rfl 3 (by decide) (hts (.fieldLink RX1 43 "ClassMill$Code" "height" "I") mw_h7_442) (fun _ h9 => h9) rfl dX1_addHandler_95 ?_
    obtain ⟨⟨g903_0, u3_1⟩, hu_3, hsp⟩ := ox_bind hsp
    try dsimp only at hsp
    have hPc := hP.sub (ws' := [(h0, .inr (1, [.ref qf0, .int v1, .ref qf2, .int u1_1, .int u1_2, .ref qf5, .ref qf6, .int v7, .int v8, .ref qf9, .int x10_76, .ref qf11, .ref qf12, .ref qf13, .int u2_3, .int x15_76])), (qf12, .inl (cf12, 5200, .inl g12_76)), (qf6, .inl (cf6, 750, .inl f6)), (qf2, .inl (cf2, 20, .inl g901_0))]) [4, 1, 2, 3] rfl
    have hDc := hD.sub (ws' := [(h0, .inr (1, [.ref qf0, .int v1, .ref qf2, .int u1_1, .int u1_2, .ref qf5, .ref qf6, .int v7, .int v8, .ref qf9, .int x10_76, .ref qf11, .ref qf12, .ref qf13, .int u2_3, .int x15_76])), (qf12, .inl (cf12, 5200, .inl g12_76)), (qf6, .inl (cf6, 750, .inl f6)), (qf2, .inl (cf2, 20, .inl g901_0))]) [4, 1, 2, 3] (by decide) rfl
    have hKc := hK.sub (tys' := [(cf12, .int), (cf6, .int), (cf2, .int)]) [1, 2, 3] rfl
    have hFc := va_free (wc := [(h0, .inr (1, [.ref qf0, .int v1, .ref qf2, .int u1_1, .int u1_2, .ref qf5, .ref qf6, .int v7, .int v8, .ref qf9, .int x10_76, .ref qf11, .ref qf12, .ref qf13, .int u2_3, .int x15_76])), (qf12, .inl (cf12, 5200, .inl g12_76)), (qf6, .inl (cf6, 750, .inl f6)), (qf2, .inl (cf2, 20, .inl g901_0))]) hD hS hA [4, 1, 2, 3] rfl
    refine va_callv (va_runV (As := [.int u2_0, .int v7, .int u1_1]) (rest := []) ⟨hx, hb, hml, hown, hts⟩ (v1_fillFrame l dC dI H.size h0 u2_0 v7 u1_1 qf0 v1 qf2 u1_1 u1_2 qf5 qf6 v7 v8 qf9 x10_76 qf11 qf12 qf13 u2_3 x15_76 cf12 g12_76 cf6 f6 cf2 g901_0 nf g903_0 u3_1 hu_3) (cwV 3 hts gv_h7_107 rfl rfl rfl (by decide +kernel) ⟨Nat.le_of_ble_eq_true rfl, Nat.le_of_ble_eq_true rfl⟩) ⟨fun a U g mk q => by obtain ⟨q0, q1, qP, qK, qD⟩ := q; exact ⟨q0, q1, qP, va_K.moved (u := U) (U := U.calling g mk a) (Vm.Alike.refl U.vm) qK, qD⟩, va_recv hKc hPc (ci := 1) (q0 := 0) rfl rfl, fun U hU hW => ⟨rfl, by rw [hU], by rw [hU]; exact hPc, va_K.moved hW.alike hKc, hDc.weaken (fun _ _ _ _ => trivial)⟩⟩ rfl rfl hl.1 rfl (lv_room (Nat.le_of_ble_eq_true rfl)) dX1_addHandler_98 ⟨Nat.le_of_ble_eq_true rfl, Nat.le_of_ble_eq_true rfl⟩) hS (fun q _ h => hFc q h) hFc ?_
    clear hS
    intro u t H1 locs ht hvm hw hB hz1 hk1 hS
    obtain ⟨⟩ := u
    obtain ⟨hP1, hK1, hD1⟩ := hB
    rw [ht] at hP1
    have hK1 := va_K.moved hvm.symm hK1
    try dsimp only at hw
    have hPD := va_join (wr := [(qf9, .inl (cf9, 80, .inl g9_76)), (qf13, .inl (cf13, 100, .inl g902_2)), (qf11, .inl (cf11, 100, .inl g902_1))]) (w1 := [(h0, .inr (1, [.ref qf0, .int v1, .ref qf2, .int u1_1, .int u1_2, .ref qf5, .ref qf6, .int v7, .int v8, .ref qf9, .int x10_76, .ref qf11, .ref qf12, .ref qf13, .int u2_3, .int u3_1])), (qf12, .inl (cf12, 5200, .inl g903_0)), (qf6, .inl (cf6, 750, .inl f6)), (qf2, .inl (cf2, 20, .inl g901_0))]) hP hD [4, 1, 2, 3] [0, 5, 6] rfl rfl (by decide) (by decide) hk1 hFc hP1 hD1
    clear hP hD
    obtain ⟨hP, hD⟩ := hPD
    replace hK := (hK.sub (tys' := [(cf9, .int), (cf13, .int), (cf11, .int)]) [0, 4, 5] rfl).app hK1
    clear hPc hDc hKc hFc hP1 hK1 hD1 hz1 hk1 ht hvm
    generalize H1 = H at hP hS ⊢
    replace hP : va_P (dC, dI) vwCl [(qf9, .inl (cf9, 80, .inl g9_76)), (qf13, .inl (cf13, 100, .inl g902_2)), (qf11, .inl (cf11, 100, .inl g902_1)), (h0, .inr (1, [.ref qf0, .int v1, .ref qf2, .int u1_1, .int u1_2, .ref qf5, .ref qf6, .int v7, .int v8, .ref qf9, .int x10_76, .ref qf11, .ref qf12, .ref qf13, .int u2_3, .int u3_1])), (qf12, .inl (cf12, 5200, .inl g903_0)), (qf6, .inl (cf6, 750, .inl f6)), (qf2, .inl (cf2, 20, .inl g901_0))] H := hP
    replace hD : va_D A [(qf9, .inl (cf9, 80, .inl g9_76)), (qf13, .inl (cf13, 100, .inl g902_2)), (qf11, .inl (cf11, 100, .inl g902_1)), (h0, .inr (1, [.ref qf0, .int v1, .ref qf2, .int u1_1, .int u1_2, .ref qf5, .ref qf6, .int v7, .int v8, .ref qf9, .int x10_76, .ref qf11, .ref qf12, .ref qf13, .int u2_3, .int u3_1])), (qf12, .inl (cf12, 5200, .inl g903_0)), (qf6, .inl (cf6, 750, .inl f6)), (qf2, .inl (cf2, 20, .inl g901_0))] := hD
    replace hK : va_K (dC, dI) vwCl [(cf9, .int), (cf13, .int), (cf11, .int), (cf12, .int), (cf6, .int), (cf2, .int)] s := hK
    have hr0 := Option.some.inj hsp
    clear hsp
    obtain ⟨hq0, hr1⟩ := Prod.mk.inj hr0
    clear hr0
    obtain ⟨hq1, hr2⟩ := Prod.mk.inj hr1
    clear hr1
    obtain ⟨hq2, hr3⟩ := Prod.mk.inj hr2
    clear hr2
    obtain ⟨hq3, hr4⟩ := Prod.mk.inj hr3
    clear hr3
    obtain ⟨hq4, hr5⟩ := Prod.mk.inj hr4
    clear hr4
    obtain ⟨hq5, hr6⟩ := Prod.mk.inj hr5
    clear hr5
    obtain ⟨hq6, hr7⟩ := Prod.mk.inj hr6
    clear hr6
    obtain ⟨hq7, hr8⟩ := Prod.mk.inj hr7
    clear hr7
    obtain ⟨hq8, hr9⟩ := Prod.mk.inj hr8
    clear hr8
    subst hq0
    subst hq1
    subst hq2
    subst hq3
    subst hq4
    subst hq5
    subst hq6
    subst hq7
    subst hq8
    subst hr9
    have hP9 := hP.sub (ws' := [(h0, .inr (1, [.ref qf0, .int v1, .ref qf2, .int u1_1, .int u1_2, .ref qf5, .ref qf6, .int v7, .int v8, .ref qf9, .int x10_76, .ref qf11, .ref qf12, .ref qf13, .int u2_3, .int u3_1])), (qf9, .inl (cf9, 80, .inl g9_76)), (qf2, .inl (cf2, 20, .inl g901_0)), (qf13, .inl (cf13, 100, .inl g902_2)), (qf11, .inl (cf11, 100, .inl g902_1)), (qf12, .inl (cf12, 5200, .inl g903_0)), (qf6, .inl (cf6, 750, .inl f6))]) [3, 0, 6, 1, 2, 4, 5] rfl
    have hD9 := hD.sub (ws' := [(h0, .inr (1, [.ref qf0, .int v1, .ref qf2, .int u1_1, .int u1_2, .ref qf5, .ref qf6, .int v7, .int v8, .ref qf9, .int x10_76, .ref qf11, .ref qf12, .ref qf13, .int u2_3, .int u3_1])), (qf9, .inl (cf9, 80, .inl g9_76)), (qf2, .inl (cf2, 20, .inl g901_0)), (qf13, .inl (cf13, 100, .inl g902_2)), (qf11, .inl (cf11, 100, .inl g902_1)), (qf12, .inl (cf12, 5200, .inl g903_0)), (qf6, .inl (cf6, 750, .inl f6))]) [3, 0, 6, 1, 2, 4, 5] (by decide) rfl
    have hK9 := hK.sub (tys' := [(cf9, .int), (cf2, .int), (cf13, .int), (cf11, .int), (cf12, .int), (cf6, .int)]) [0, 5, 1, 2, 3, 4] rfl
    exact W.vret hx hb hr (fun t ht hW => ⟨⟨(), rfl, trivial, by rw [ht]; exact hP9, va_K.moved hW.alike hK9, hD9⟩, hS.F ht⟩) hS.2.2 dX1_addHandler_101
  intro hj_76
  refine lv_aload_n hx hb dX1_addHandler_0 rfl (lv_at hl 0 rfl) ?_
  refine va_get (D := (dC, dI)) (ci := 1) (v := .int v10) (C := RX1) (T := TX1) (N := 16) hx hb hts uV_h7_X1 hown hK hP 0 rfl rfl 10 (by decide) (hts (.fieldLink RX1 55 "ClassMill$Code" "handlerCount" "I") mw_h7_53) (fun _ h9 => h9) rfl dX1_addHandler_1 ?_
  refine lv_bipush (v := 20) hx hb dX1_addHandler_4 (by decide) ?_
  refine lv_icmp_lt (tgt := 17) hx hb dX1_addHandler_6 (by decide) (fun c_1 => ?_) (fun c_1 => ?_)
  · rw [if_pos c_1] at hsp
    refine lv_aload_n hx hb dX1_addHandler_17 rfl (lv_at hl 0 rfl) ?_
    refine va_get (D := (dC, dI)) (ci := 1) (v := .int v10) (C := RX1) (T := TX1) (N := 16) hx hb hts uV_h7_X1 hown hK hP 0 rfl rfl 10 (by decide) (hts (.fieldLink RX1 55 "ClassMill$Code" "handlerCount" "I") mw_h7_53) (fun _ h9 => h9) rfl dX1_addHandler_18 ?_
    refine lv_iconst (v := 4) hx hb dX1_addHandler_21 (by decide) ?_
    refine lv_imul hx hb dX1_addHandler_22 ?_
    refine lv_istore (lv' := [(4, .int (v10 * 4)), (0, .ref h0), (1, .int a1), (2, .int a2), (3, .int a3)]) hx hb dX1_addHandler_23 hl (by decide) rfl (fun ls hl => ?_)
    refine lv_aload_n hx hb dX1_addHandler_25 rfl (lv_at hl 1 rfl) ?_
    refine va_get (D := (dC, dI)) (ci := 1) (v := .ref qf9) (C := RX1) (T := TX1) (N := 16) hx hb hts uV_h7_X1 hown hK hP 0 rfl rfl 9 (by decide) (hts (.fieldLink RX1 27 "ClassMill$Code" "handlers" "[I") mw_h7_54) (fun _ h9 => h9) rfl dX1_addHandler_26 ?_
    refine lv_iload hx hb dX1_addHandler_29 (lv_at hl 0 rfl) ?_
    refine lv_iload_n hx hb dX1_addHandler_31 rfl (lv_at hl 2 rfl) ?_
    obtain ⟨hi_2, hsp⟩ := ox_in hsp
    refine va_iast hx hb hK hP hD hS 1 0 rfl rfl (i := (v10 * 4)) (x := a1) hi_2 dX1_addHandler_32 ?_
    clear hP hD hS
    intro H locs hP hD hS
    replace hP : va_P (dC, dI) vwCl [(h0, .inr (1, [.ref qf0, .int v1, .ref qf2, .int v3, .int v4, .ref qf5, .ref qf6, .int v7, .int v8, .ref qf9, .int v10, .ref qf11, .ref qf12, .ref qf13, .int v14, .int v15])), (qf9, .inl (cf9, 80, .inl (upd f9 ((v10 * 4) : Int32).toNatClampNeg a1))), (qf2, .inl (cf2, 20, .inl f2)), (qf13, .inl (cf13, 100, .inl f13)), (qf11, .inl (cf11, 100, .inl f11)), (qf12, .inl (cf12, 5200, .inl f12)), (qf6, .inl (cf6, 750, .inl f6))] H := hP
    replace hD : va_D A [(h0, .inr (1, [.ref qf0, .int v1, .ref qf2, .int v3, .int v4, .ref qf5, .ref qf6, .int v7, .int v8, .ref qf9, .int v10, .ref qf11, .ref qf12, .ref qf13, .int v14, .int v15])), (qf9, .inl (cf9, 80, .inl (upd f9 ((v10 * 4) : Int32).toNatClampNeg a1))), (qf2, .inl (cf2, 20, .inl f2)), (qf13, .inl (cf13, 100, .inl f13)), (qf11, .inl (cf11, 100, .inl f11)), (qf12, .inl (cf12, 5200, .inl f12)), (qf6, .inl (cf6, 750, .inl f6))] := hD
    refine lv_aload_n hx hb dX1_addHandler_33 rfl (lv_at hl 1 rfl) ?_
    refine va_get (D := (dC, dI)) (ci := 1) (v := .ref qf9) (C := RX1) (T := TX1) (N := 16) hx hb hts uV_h7_X1 hown hK hP 0 rfl rfl 9 (by decide) (hts (.fieldLink RX1 27 "ClassMill$Code" "handlers" "[I") mw_h7_54) (fun _ h9 => h9) rfl dX1_addHandler_34 ?_
    refine lv_iload hx hb dX1_addHandler_37 (lv_at hl 0 rfl) ?_
    refine lv_iconst (v := 1) hx hb dX1_addHandler_39 (by decide) ?_
    refine lv_iadd hx hb dX1_addHandler_40 ?_
    refine lv_iload_n hx hb dX1_addHandler_41 rfl (lv_at hl 3 rfl) ?_
    obtain ⟨hi_3, hsp⟩ := ox_in hsp
    refine va_iast hx hb hK hP hD hS 1 0 rfl rfl (i := ((v10 * 4) + 1)) (x := a2) hi_3 dX1_addHandler_42 ?_
    clear hP hD hS
    intro H locs hP hD hS
    replace hP : va_P (dC, dI) vwCl [(h0, .inr (1, [.ref qf0, .int v1, .ref qf2, .int v3, .int v4, .ref qf5, .ref qf6, .int v7, .int v8, .ref qf9, .int v10, .ref qf11, .ref qf12, .ref qf13, .int v14, .int v15])), (qf9, .inl (cf9, 80, .inl (upd (upd f9 ((v10 * 4) : Int32).toNatClampNeg a1) (((v10 * 4) + 1) : Int32).toNatClampNeg a2))), (qf2, .inl (cf2, 20, .inl f2)), (qf13, .inl (cf13, 100, .inl f13)), (qf11, .inl (cf11, 100, .inl f11)), (qf12, .inl (cf12, 5200, .inl f12)), (qf6, .inl (cf6, 750, .inl f6))] H := hP
    replace hD : va_D A [(h0, .inr (1, [.ref qf0, .int v1, .ref qf2, .int v3, .int v4, .ref qf5, .ref qf6, .int v7, .int v8, .ref qf9, .int v10, .ref qf11, .ref qf12, .ref qf13, .int v14, .int v15])), (qf9, .inl (cf9, 80, .inl (upd (upd f9 ((v10 * 4) : Int32).toNatClampNeg a1) (((v10 * 4) + 1) : Int32).toNatClampNeg a2))), (qf2, .inl (cf2, 20, .inl f2)), (qf13, .inl (cf13, 100, .inl f13)), (qf11, .inl (cf11, 100, .inl f11)), (qf12, .inl (cf12, 5200, .inl f12)), (qf6, .inl (cf6, 750, .inl f6))] := hD
    refine lv_aload_n hx hb dX1_addHandler_43 rfl (lv_at hl 1 rfl) ?_
    refine va_get (D := (dC, dI)) (ci := 1) (v := .ref qf9) (C := RX1) (T := TX1) (N := 16) hx hb hts uV_h7_X1 hown hK hP 0 rfl rfl 9 (by decide) (hts (.fieldLink RX1 27 "ClassMill$Code" "handlers" "[I") mw_h7_54) (fun _ h9 => h9) rfl dX1_addHandler_44 ?_
    refine lv_iload hx hb dX1_addHandler_47 (lv_at hl 0 rfl) ?_
    refine lv_iconst (v := 2) hx hb dX1_addHandler_49 (by decide) ?_
    refine lv_iadd hx hb dX1_addHandler_50 ?_
    refine lv_aload_n hx hb dX1_addHandler_51 rfl (lv_at hl 1 rfl) ?_
    refine va_get (D := (dC, dI)) (ci := 1) (v := .int v1) (C := RX1) (T := TX1) (N := 16) hx hb hts uV_h7_X1 hown hK hP 0 rfl rfl 1 (by decide) (hts (.fieldLink RX1 39 "ClassMill$Code" "length" "I") mw_h7_57) (fun _ h9 => h9) rfl dX1_addHandler_52 ?_
    obtain ⟨hi_4, hsp⟩ := ox_in hsp
    refine va_iast hx hb hK hP hD hS 1 0 rfl rfl (i := ((v10 * 4) + 2)) (x := v1) hi_4 dX1_addHandler_55 ?_
    clear hP hD hS
    intro H locs hP hD hS
    replace hP : va_P (dC, dI) vwCl [(h0, .inr (1, [.ref qf0, .int v1, .ref qf2, .int v3, .int v4, .ref qf5, .ref qf6, .int v7, .int v8, .ref qf9, .int v10, .ref qf11, .ref qf12, .ref qf13, .int v14, .int v15])), (qf9, .inl (cf9, 80, .inl (upd (upd (upd f9 ((v10 * 4) : Int32).toNatClampNeg a1) (((v10 * 4) + 1) : Int32).toNatClampNeg a2) (((v10 * 4) + 2) : Int32).toNatClampNeg v1))), (qf2, .inl (cf2, 20, .inl f2)), (qf13, .inl (cf13, 100, .inl f13)), (qf11, .inl (cf11, 100, .inl f11)), (qf12, .inl (cf12, 5200, .inl f12)), (qf6, .inl (cf6, 750, .inl f6))] H := hP
    replace hD : va_D A [(h0, .inr (1, [.ref qf0, .int v1, .ref qf2, .int v3, .int v4, .ref qf5, .ref qf6, .int v7, .int v8, .ref qf9, .int v10, .ref qf11, .ref qf12, .ref qf13, .int v14, .int v15])), (qf9, .inl (cf9, 80, .inl (upd (upd (upd f9 ((v10 * 4) : Int32).toNatClampNeg a1) (((v10 * 4) + 1) : Int32).toNatClampNeg a2) (((v10 * 4) + 2) : Int32).toNatClampNeg v1))), (qf2, .inl (cf2, 20, .inl f2)), (qf13, .inl (cf13, 100, .inl f13)), (qf11, .inl (cf11, 100, .inl f11)), (qf12, .inl (cf12, 5200, .inl f12)), (qf6, .inl (cf6, 750, .inl f6))] := hD
    refine lv_aload_n hx hb dX1_addHandler_56 rfl (lv_at hl 1 rfl) ?_
    refine va_get (D := (dC, dI)) (ci := 1) (v := .ref qf9) (C := RX1) (T := TX1) (N := 16) hx hb hts uV_h7_X1 hown hK hP 0 rfl rfl 9 (by decide) (hts (.fieldLink RX1 27 "ClassMill$Code" "handlers" "[I") mw_h7_54) (fun _ h9 => h9) rfl dX1_addHandler_57 ?_
    refine lv_iload hx hb dX1_addHandler_60 (lv_at hl 0 rfl) ?_
    refine lv_iconst (v := 3) hx hb dX1_addHandler_62 (by decide) ?_
    refine lv_iadd hx hb dX1_addHandler_63 ?_
    refine lv_iload_n hx hb dX1_addHandler_64 rfl (lv_at hl 4 rfl) ?_
    obtain ⟨hi_5, hsp⟩ := ox_in hsp
    refine va_iast hx hb hK hP hD hS 1 0 rfl rfl (i := ((v10 * 4) + 3)) (x := a3) hi_5 dX1_addHandler_65 ?_
    clear hP hD hS
    intro H locs hP hD hS
    replace hP : va_P (dC, dI) vwCl [(h0, .inr (1, [.ref qf0, .int v1, .ref qf2, .int v3, .int v4, .ref qf5, .ref qf6, .int v7, .int v8, .ref qf9, .int v10, .ref qf11, .ref qf12, .ref qf13, .int v14, .int v15])), (qf9, .inl (cf9, 80, .inl (upd (upd (upd (upd f9 ((v10 * 4) : Int32).toNatClampNeg a1) (((v10 * 4) + 1) : Int32).toNatClampNeg a2) (((v10 * 4) + 2) : Int32).toNatClampNeg v1) (((v10 * 4) + 3) : Int32).toNatClampNeg a3))), (qf2, .inl (cf2, 20, .inl f2)), (qf13, .inl (cf13, 100, .inl f13)), (qf11, .inl (cf11, 100, .inl f11)), (qf12, .inl (cf12, 5200, .inl f12)), (qf6, .inl (cf6, 750, .inl f6))] H := hP
    replace hD : va_D A [(h0, .inr (1, [.ref qf0, .int v1, .ref qf2, .int v3, .int v4, .ref qf5, .ref qf6, .int v7, .int v8, .ref qf9, .int v10, .ref qf11, .ref qf12, .ref qf13, .int v14, .int v15])), (qf9, .inl (cf9, 80, .inl (upd (upd (upd (upd f9 ((v10 * 4) : Int32).toNatClampNeg a1) (((v10 * 4) + 1) : Int32).toNatClampNeg a2) (((v10 * 4) + 2) : Int32).toNatClampNeg v1) (((v10 * 4) + 3) : Int32).toNatClampNeg a3))), (qf2, .inl (cf2, 20, .inl f2)), (qf13, .inl (cf13, 100, .inl f13)), (qf11, .inl (cf11, 100, .inl f11)), (qf12, .inl (cf12, 5200, .inl f12)), (qf6, .inl (cf6, 750, .inl f6))] := hD
    refine lv_aload_n hx hb dX1_addHandler_66 rfl (lv_at hl 1 rfl) ?_
    refine lv_dup hx hb dX1_addHandler_67 rfl ?_
    refine va_get (D := (dC, dI)) (ci := 1) (v := .int v10) (C := RX1) (T := TX1) (N := 16) hx hb hts uV_h7_X1 hown hK hP 0 rfl rfl 10 (by decide) (hts (.fieldLink RX1 55 "ClassMill$Code" "handlerCount" "I") mw_h7_53) (fun _ h9 => h9) rfl dX1_addHandler_68 ?_
    refine lv_iconst (v := 1) hx hb dX1_addHandler_71 (by decide) ?_
    refine lv_iadd hx hb dX1_addHandler_72 ?_
    refine va_put (D := (dC, dI)) (ci := 1) (v := .int (v10 + 1)) (ty := .int) (C := RX1) (T := TX1) (N := 16) hx hb hts uV_h7_X1 tyX1 tyX1_ok nmX1 hown hK hP hD hS 0 rfl rfl 10 (by decide) (hts (.fieldLink RX1 55 "ClassMill$Code" "handlerCount" "I") mw_h7_53) (fun _ h9 => h9) rfl (by decide +kernel) rfl rfl (Nat.le_of_ble_eq_true rfl) dX1_addHandler_73 ?_
    clear hP hD hS
    intro H locs hP hD hS
    replace hP : va_P (dC, dI) vwCl [(h0, .inr (1, [.ref qf0, .int v1, .ref qf2, .int v3, .int v4, .ref qf5, .ref qf6, .int v7, .int v8, .ref qf9, .int (v10 + 1), .ref qf11, .ref qf12, .ref qf13, .int v14, .int v15])), (qf9, .inl (cf9, 80, .inl (upd (upd (upd (upd f9 ((v10 * 4) : Int32).toNatClampNeg a1) (((v10 * 4) + 1) : Int32).toNatClampNeg a2) (((v10 * 4) + 2) : Int32).toNatClampNeg v1) (((v10 * 4) + 3) : Int32).toNatClampNeg a3))), (qf2, .inl (cf2, 20, .inl f2)), (qf13, .inl (cf13, 100, .inl f13)), (qf11, .inl (cf11, 100, .inl f11)), (qf12, .inl (cf12, 5200, .inl f12)), (qf6, .inl (cf6, 750, .inl f6))] H := hP
    replace hD : va_D A [(h0, .inr (1, [.ref qf0, .int v1, .ref qf2, .int v3, .int v4, .ref qf5, .ref qf6, .int v7, .int v8, .ref qf9, .int (v10 + 1), .ref qf11, .ref qf12, .ref qf13, .int v14, .int v15])), (qf9, .inl (cf9, 80, .inl (upd (upd (upd (upd f9 ((v10 * 4) : Int32).toNatClampNeg a1) (((v10 * 4) + 1) : Int32).toNatClampNeg a2) (((v10 * 4) + 2) : Int32).toNatClampNeg v1) (((v10 * 4) + 3) : Int32).toNatClampNeg a3))), (qf2, .inl (cf2, 20, .inl f2)), (qf13, .inl (cf13, 100, .inl f13)), (qf11, .inl (cf11, 100, .inl f11)), (qf12, .inl (cf12, 5200, .inl f12)), (qf6, .inl (cf6, 750, .inl f6))] := hD
    exact hj_76 (H, locs, ls, a3, f11, f12, f13, f2, (upd (upd (upd (upd f9 ((v10 * 4) : Int32).toNatClampNeg a1) (((v10 * 4) + 1) : Int32).toNatClampNeg a2) (((v10 * 4) + 2) : Int32).toNatClampNeg v1) (((v10 * 4) + 3) : Int32).toNatClampNeg a3), (v10 + 1), v14, v15, v3, v4) ⟨lv_sub hl [1, 4] rfl, hS, hD.sub (ws' := [(h0, .inr (1, [.ref qf0, .int v1, .ref qf2, .int v3, .int v4, .ref qf5, .ref qf6, .int v7, .int v8, .ref qf9, .int (v10 + 1), .ref qf11, .ref qf12, .ref qf13, .int v14, .int v15])), (qf9, .inl (cf9, 80, .inl (upd (upd (upd (upd f9 ((v10 * 4) : Int32).toNatClampNeg a1) (((v10 * 4) + 1) : Int32).toNatClampNeg a2) (((v10 * 4) + 2) : Int32).toNatClampNeg v1) (((v10 * 4) + 3) : Int32).toNatClampNeg a3))), (qf2, .inl (cf2, 20, .inl f2)), (qf13, .inl (cf13, 100, .inl f13)), (qf11, .inl (cf11, 100, .inl f11)), (qf12, .inl (cf12, 5200, .inl f12)), (qf6, .inl (cf6, 750, .inl f6))]) [0, 1, 2, 3, 4, 5, 6] (by decide) rfl, hP.sub (ws' := [(h0, .inr (1, [.ref qf0, .int v1, .ref qf2, .int v3, .int v4, .ref qf5, .ref qf6, .int v7, .int v8, .ref qf9, .int (v10 + 1), .ref qf11, .ref qf12, .ref qf13, .int v14, .int v15])), (qf9, .inl (cf9, 80, .inl (upd (upd (upd (upd f9 ((v10 * 4) : Int32).toNatClampNeg a1) (((v10 * 4) + 1) : Int32).toNatClampNeg a2) (((v10 * 4) + 2) : Int32).toNatClampNeg v1) (((v10 * 4) + 3) : Int32).toNatClampNeg a3))), (qf2, .inl (cf2, 20, .inl f2)), (qf13, .inl (cf13, 100, .inl f13)), (qf11, .inl (cf11, 100, .inl f11)), (qf12, .inl (cf12, 5200, .inl f12)), (qf6, .inl (cf6, 750, .inl f6))]) [0, 1, 2, 3, 4, 5, 6] rfl, hsp⟩
  · rw [if_neg c_1] at hsp
    refine lv_aload_n hx hb dX1_addHandler_9 rfl (lv_at hl 0 rfl) ?_
    refine lv_iconst (v := 1) hx hb dX1_addHandler_10 (by decide) ?_
    refine va_put (D := (dC, dI)) (ci := 1) (v := .int 1) (ty := .boolean) (C := RX1) (T := TX1) (N := 16) hx hb hts uV_h7_X1 tyX1 tyX1_ok nmX1 hown hK hP hD hS 0 rfl rfl 15 (by decide) (hts (.fieldLink RX1 61 "ClassMill$Code" "full" "Z") mw_h7_25) (fun _ h9 => h9) rfl (by decide +kernel) rfl rfl (Nat.le_of_ble_eq_true rfl) dX1_addHandler_11 ?_
    clear hP hD hS
    intro H locs hP hD hS
    replace hP : va_P (dC, dI) vwCl [(h0, .inr (1, [.ref qf0, .int v1, .ref qf2, .int v3, .int v4, .ref qf5, .ref qf6, .int v7, .int v8, .ref qf9, .int v10, .ref qf11, .ref qf12, .ref qf13, .int v14, .int 1])), (qf9, .inl (cf9, 80, .inl f9)), (qf2, .inl (cf2, 20, .inl f2)), (qf13, .inl (cf13, 100, .inl f13)), (qf11, .inl (cf11, 100, .inl f11)), (qf12, .inl (cf12, 5200, .inl f12)), (qf6, .inl (cf6, 750, .inl f6))] H := hP
    replace hD : va_D A [(h0, .inr (1, [.ref qf0, .int v1, .ref qf2, .int v3, .int v4, .ref qf5, .ref qf6, .int v7, .int v8, .ref qf9, .int v10, .ref qf11, .ref qf12, .ref qf13, .int v14, .int 1])), (qf9, .inl (cf9, 80, .inl f9)), (qf2, .inl (cf2, 20, .inl f2)), (qf13, .inl (cf13, 100, .inl f13)), (qf11, .inl (cf11, 100, .inl f11)), (qf12, .inl (cf12, 5200, .inl f12)), (qf6, .inl (cf6, 750, .inl f6))] := hD
    refine lv_goto (tgt := 76) hx hb dX1_addHandler_14 (by decide) ?_
    exact hj_76 (H, locs, ls, a3, f11, f12, f13, f2, f9, v10, v14, 1, v3, v4) ⟨lv_sub hl [0, 3] rfl, hS, hD.sub (ws' := [(h0, .inr (1, [.ref qf0, .int v1, .ref qf2, .int v3, .int v4, .ref qf5, .ref qf6, .int v7, .int v8, .ref qf9, .int v10, .ref qf11, .ref qf12, .ref qf13, .int v14, .int 1])), (qf9, .inl (cf9, 80, .inl f9)), (qf2, .inl (cf2, 20, .inl f2)), (qf13, .inl (cf13, 100, .inl f13)), (qf11, .inl (cf11, 100, .inl f11)), (qf12, .inl (cf12, 5200, .inl f12)), (qf6, .inl (cf6, 750, .inl f6))]) [0, 1, 2, 3, 4, 5, 6] (by decide) rfl, hP.sub (ws' := [(h0, .inr (1, [.ref qf0, .int v1, .ref qf2, .int v3, .int v4, .ref qf5, .ref qf6, .int v7, .int v8, .ref qf9, .int v10, .ref qf11, .ref qf12, .ref qf13, .int v14, .int 1])), (qf9, .inl (cf9, 80, .inl f9)), (qf2, .inl (cf2, 20, .inl f2)), (qf13, .inl (cf13, 100, .inl f13)), (qf11, .inl (cf11, 100, .inl f11)), (qf12, .inl (cf12, 5200, .inl f12)), (qf6, .inl (cf6, 750, .inl f6))]) [0, 1, 2, 3, 4, 5, 6] rfl, hsp⟩
def sp_v2_forget (nf : Nat) (f5 : Nat → Int32) (f9 : Nat → Int32) (f1_0 : Nat → Int32) (f1_1 : Nat → Int32) : Option ((Nat → Int32) × (Nat → Int32) × (Nat → Int32) × (Nat → Int32) × Int32) := ((sp_jd_fill nf 0 8 f5).bind (fun p1 => ((sp_jd_fill nf 0 8 f9).bind (fun p2 => ((sp_v4_forget nf f1_0 f1_1).bind (fun p3 => (some (p3.1, p3.2, p1, p2, 0))))))))
set_option maxHeartbeats 4000000 in
set_option maxRecDepth 100000 in
/-- ClassMill$Heads.forget -/
theorem v2_forget (l : Launch) (dC : Nat → ClassId) (dI : Nat → Nat → Nat) (sz : Nat) (h0 : Nat) (qf0 : Nat) (qf1 : Nat) (v2 : Int32) (qf3 : Nat) (qf4 : Nat) (qf5 : Nat) (qf6 : Nat) (qf7 : Nat) (qf8 : Nat) (qf9 : Nat) (qf10 : Nat) (qf11 : Nat) (qf12 : Nat) (qf13 : Nat) (qf14 : Nat) (qf15 : Nat) (qf16 : Nat) (qf17 : Nat) (qf18 : Nat) (qf19 : Nat) (v20 : Int32) (cf5 : ClassId) (f5 : (Nat → Int32)) (cf9 : ClassId) (f9 : (Nat → Int32)) (qf1_0 : Nat) (qf1_1 : Nat) (cf1_0 : ClassId) (f1_0 : (Nat → Int32)) (cf1_1 : ClassId) (f1_1 : (Nat → Int32)) (nf : Nat) (o1_0 : (Nat → Int32)) (o1_1 : (Nat → Int32)) (o5 : (Nat → Int32)) (o9 : (Nat → Int32)) (w2 : Int32) (hsp : sp_v2_forget nf f5 f9 f1_0 f1_1 = some (o1_0, o1_1, o5, o9, w2)) : Met l yX2_forget (.code yX2_forget cX2_forget 1 none :: VS_h7) ({ frames := 2, cells := 0, slots := 0, locals := 44 }) (va_Pc [.ref h0] (fun U => U.heap.size = sz ∧ va_P (dC, dI) vwCl [(h0, .inr (2, [.ref qf0, .ref qf1, .int v2, .ref qf3, .ref qf4, .ref qf5, .ref qf6, .ref qf7, .ref qf8, .ref qf9, .ref qf10, .ref qf11, .ref qf12, .ref qf13, .ref qf14, .ref qf15, .ref qf16, .ref qf17, .ref qf18, .ref qf19, .int v20])), (qf5, .inl (cf5, 8, .inl f5)), (qf9, .inl (cf9, 8, .inl f9)), (qf1, .inr (4, [.ref qf1_0, .ref qf1_1])), (qf1_0, .inl (cf1_0, 16, .inl f1_0)), (qf1_1, .inl (cf1_1, 256, .inl f1_1))] U.heap ∧ va_K (dC, dI) vwCl [(cf5, .int), (cf9, .int), (cf1_0, .int), (cf1_1, .boolean)] U ∧ va_D (fun _ => True) [(h0, .inr (2, [.ref qf0, .ref qf1, .int v2, .ref qf3, .ref qf4, .ref qf5, .ref qf6, .ref qf7, .ref qf8, .ref qf9, .ref qf10, .ref qf11, .ref qf12, .ref qf13, .ref qf14, .ref qf15, .ref qf16, .ref qf17, .ref qf18, .ref qf19, .int v20])), (qf5, .inl (cf5, 8, .inl f5)), (qf9, .inl (cf9, 8, .inl f9)), (qf1, .inr (4, [.ref qf1_0, .ref qf1_1])), (qf1_0, .inl (cf1_0, 16, .inl f1_0)), (qf1_1, .inl (cf1_1, 256, .inl f1_1))])) (va_Qv (fun (u : Unit) => match u with | () => True) (fun (u : Unit) (t : State) => match u with | () => va_P (dC, dI) vwCl [(h0, .inr (2, [.ref qf0, .ref qf1, .int w2, .ref qf3, .ref qf4, .ref qf5, .ref qf6, .ref qf7, .ref qf8, .ref qf9, .ref qf10, .ref qf11, .ref qf12, .ref qf13, .ref qf14, .ref qf15, .ref qf16, .ref qf17, .ref qf18, .ref qf19, .int v20])), (qf5, .inl (cf5, 8, .inl o5)), (qf9, .inl (cf9, 8, .inl o9)), (qf1, .inr (4, [.ref qf1_0, .ref qf1_1])), (qf1_0, .inl (cf1_0, 16, .inl o1_0)), (qf1_1, .inl (cf1_1, 256, .inl o1_1))] t.heap ∧ va_K (dC, dI) vwCl [(cf5, .int), (cf9, .int), (cf1_0, .int), (cf1_1, .boolean)] t ∧ va_D (va_A [(h0, .inr (2, [.ref qf0, .ref qf1, .int v2, .ref qf3, .ref qf4, .ref qf5, .ref qf6, .ref qf7, .ref qf8, .ref qf9, .ref qf10, .ref qf11, .ref qf12, .ref qf13, .ref qf14, .ref qf15, .ref qf16, .ref qf17, .ref qf18, .ref qf19, .int v20])), (qf5, .inl (cf5, 8, .inl f5)), (qf9, .inl (cf9, 8, .inl f9)), (qf1, .inr (4, [.ref qf1_0, .ref qf1_1])), (qf1_0, .inl (cf1_0, 16, .inl f1_0)), (qf1_1, .inl (cf1_1, 256, .inl f1_1))] sz) [(h0, .inr (2, [.ref qf0, .ref qf1, .int w2, .ref qf3, .ref qf4, .ref qf5, .ref qf6, .ref qf7, .ref qf8, .ref qf9, .ref qf10, .ref qf11, .ref qf12, .ref qf13, .ref qf14, .ref qf15, .ref qf16, .ref qf17, .ref qf18, .ref qf19, .int v20])), (qf5, .inl (cf5, 8, .inl o5)), (qf9, .inl (cf9, 8, .inl o9)), (qf1, .inr (4, [.ref qf1_0, .ref qf1_1])), (qf1_0, .inl (cf1_0, 16, .inl o1_0)), (qf1_1, .inl (cf1_1, 256, .inl o1_1))]) (va_A [(h0, .inr (2, [.ref qf0, .ref qf1, .int v2, .ref qf3, .ref qf4, .ref qf5, .ref qf6, .ref qf7, .ref qf8, .ref qf9, .ref qf10, .ref qf11, .ref qf12, .ref qf13, .ref qf14, .ref qf15, .ref qf16, .ref qf17, .ref qf18, .ref qf19, .int v20])), (qf5, .inl (cf5, 8, .inl f5)), (qf9, .inl (cf9, 8, .inl f9)), (qf1, .inr (4, [.ref qf1_0, .ref qf1_1])), (qf1_0, .inl (cf1_0, 16, .inl f1_0)), (qf1_1, .inl (cf1_1, 256, .inl f1_1))] sz)) 0 0 (va_A [(h0, .inr (2, [.ref qf0, .ref qf1, .int v2, .ref qf3, .ref qf4, .ref qf5, .ref qf6, .ref qf7, .ref qf8, .ref qf9, .ref qf10, .ref qf11, .ref qf12, .ref qf13, .ref qf14, .ref qf15, .ref qf16, .ref qf17, .ref qf18, .ref qf19, .int v20])), (qf5, .inl (cf5, 8, .inl f5)), (qf9, .inl (cf9, 8, .inl f9)), (qf1, .inr (4, [.ref qf1_0, .ref qf1_1])), (qf1_0, .inl (cf1_0, 16, .inl f1_0)), (qf1_1, .inl (cf1_1, 256, .inl f1_1))] sz) := by
  refine Met.ofW (cc := cX2_forget) (maxL := 1) (ret := none) (by decide) rfl ?_
  intro p e s m args below meth c s₁ B hml hv
  obtain ⟨rfl, hsz, hP, hK, hD0⟩ := hv
  have hx := B.exec
  have hb := B.bytes
  have hr := B.returns
  have hts := atoms_spec (ws := (.code yX2_forget cX2_forget 1 none :: VS_h7)) B.pre
  replace hts := fun w (h : w ∈ VS_h7) => hts w (List.mem_cons_of_mem _ h)
  have hown : s.vm.findClass RX2 = some m.cls := findClass_of_methodNamed B.named
  have hlocks := B.notSynchronized
  subst hsz
  have hD := hD0.self (sz := s.heap.size)
  generalize hAe : va_A [(h0, .inr (2, [.ref qf0, .ref qf1, .int v2, .ref qf3, .ref qf4, .ref qf5, .ref qf6, .ref qf7, .ref qf8, .ref qf9, .ref qf10, .ref qf11, .ref qf12, .ref qf13, .ref qf14, .ref qf15, .ref qf16, .ref qf17, .ref qf18, .ref qf19, .int v20])), (qf5, .inl (cf5, 8, .inl f5)), (qf9, .inl (cf9, 8, .inl f9)), (qf1, .inr (4, [.ref qf1_0, .ref qf1_1])), (qf1_0, .inl (cf1_0, 16, .inl f1_0)), (qf1_1, .inl (cf1_1, 256, .inl f1_1))] s.heap.size = A at hD  ⊢
  have hA : ∀ q : Nat, s.heap.size ≤ q → A q := fun q h => by rw [← hAe]; exact Or.inr h
  have hP : va_P (dC, dI) vwCl [(h0, .inr (2, [.ref qf0, .ref qf1, .int v2, .ref qf3, .ref qf4, .ref qf5, .ref qf6, .ref qf7, .ref qf8, .ref qf9, .ref qf10, .ref qf11, .ref qf12, .ref qf13, .ref qf14, .ref qf15, .ref qf16, .ref qf17, .ref qf18, .ref qf19, .int v20])), (qf5, .inl (cf5, 8, .inl f5)), (qf9, .inl (cf9, 8, .inl f9)), (qf1, .inr (4, [.ref qf1_0, .ref qf1_1])), (qf1_0, .inl (cf1_0, 16, .inl f1_0)), (qf1_1, .inl (cf1_1, 256, .inl f1_1))] s.heap := hP
  have hl := lv_entry ([.ref h0]) (n := 1) (Nat.le_of_ble_eq_true rfl)
  rw [lg_entry_eq]
  generalize (lg_sl ([.ref h0]) ++ List.replicate (1 - (lg_sl ([.ref h0])).length) Slot.unset).toArray = ls at hl ⊢
  have hl : lv_has ls 1 [(0, .ref h0)] := hl
  obtain ⟨H, hH⟩ : ∃ H : Heap, s.heap = H := ⟨_, rfl⟩
  rw [hH] at hP ⊢
  have hS : va_S A s.heap H [] := by rw [← hH]; exact va_S.rf
  obtain ⟨locs, hlo⟩ : ∃ locs : List Loc, locs = [] := ⟨_, rfl⟩
  rw [← hlo] at hS ⊢
  unfold sp_v2_forget at hsp
  refine lv_aload_n hx hb dX2_forget_0 rfl (lv_at hl 0 rfl) ?_
  refine lv_iconst (v := 0) hx hb dX2_forget_1 (by decide) ?_
  refine va_put (D := (dC, dI)) (ci := 2) (v := .int 0) (ty := .int) (C := RX2) (T := TX2) (N := 21) hx hb hts uV_h7_X2 tyX2 tyX2_ok nmX2 hown hK hP hD hS 0 rfl rfl 2 (by decide) (hts (.fieldLink RX2 78 "ClassMill$Heads" "classes" "I") mw_h7_98) (fun _ h9 => h9) rfl (by decide +kernel) rfl rfl (Nat.le_of_ble_eq_true rfl) dX2_forget_2 ?_
  clear hP hD hS
  intro H locs hP hD hS
  replace hP : va_P (dC, dI) vwCl [(h0, .inr (2, [.ref qf0, .ref qf1, .int 0, .ref qf3, .ref qf4, .ref qf5, .ref qf6, .ref qf7, .ref qf8, .ref qf9, .ref qf10, .ref qf11, .ref qf12, .ref qf13, .ref qf14, .ref qf15, .ref qf16, .ref qf17, .ref qf18, .ref qf19, .int v20])), (qf5, .inl (cf5, 8, .inl f5)), (qf9, .inl (cf9, 8, .inl f9)), (qf1, .inr (4, [.ref qf1_0, .ref qf1_1])), (qf1_0, .inl (cf1_0, 16, .inl f1_0)), (qf1_1, .inl (cf1_1, 256, .inl f1_1))] H := hP
  replace hD : va_D A [(h0, .inr (2, [.ref qf0, .ref qf1, .int 0, .ref qf3, .ref qf4, .ref qf5, .ref qf6, .ref qf7, .ref qf8, .ref qf9, .ref qf10, .ref qf11, .ref qf12, .ref qf13, .ref qf14, .ref qf15, .ref qf16, .ref qf17, .ref qf18, .ref qf19, .int v20])), (qf5, .inl (cf5, 8, .inl f5)), (qf9, .inl (cf9, 8, .inl f9)), (qf1, .inr (4, [.ref qf1_0, .ref qf1_1])), (qf1_0, .inl (cf1_0, 16, .inl f1_0)), (qf1_1, .inl (cf1_1, 256, .inl f1_1))] := hD
  refine lv_aload_n hx hb dX2_forget_5 rfl (lv_at hl 0 rfl) ?_
  refine va_get (D := (dC, dI)) (ci := 2) (v := .ref qf5) (C := RX2) (T := TX2) (N := 21) hx hb hts uV_h7_X2 hown hK hP 0 rfl rfl 5 (by decide) (hts (.fieldLink RX2 27 "ClassMill$Heads" "fields" "[I") mw_h7_451) (fun _ h9 => h9) rfl dX2_forget_6 ?_
  refine lv_iconst (v := 0) hx hb dX2_forget_9 (by decide) ?_
  obtain ⟨g901_0, hu_1, hsp⟩ := ox_bind hsp
  try dsimp only at hsp
  have hPc := hP.sub (ws' := [(qf5, .inl (cf5, 8, .inl f5))]) [1] rfl
  have hDc := hD.sub (ws' := [(qf5, .inl (cf5, 8, .inl f5))]) [1] (by decide) rfl
  have hKc := hK.sub (tys' := [(cf5, .int)]) [0] rfl
  have hFc := va_free (wc := [(qf5, .inl (cf5, 8, .inl f5))]) hD hS hA [1] rfl
  refine va_callv (va_runS (As := [.ref qf5, .int 0]) (rest := []) ⟨hx, hb, hml, hown, hts⟩ (jd_fill l dC dI H.size qf5 0 cf5 8 f5 nf g901_0 hu_1) (va_cwS 2 hts gv_h7_10 rfl rfl rfl (by decide +kernel) ⟨Nat.le_of_ble_eq_true rfl, Nat.le_of_ble_eq_true rfl⟩) ⟨fun a U g mk q => by obtain ⟨q0, q1, qP, qK, qD⟩ := q; exact ⟨q0, q1, qP, va_K.moved (u := U) (U := U.calling g mk a) (Vm.Alike.refl U.vm) qK, qD⟩, fun U hU hW => ⟨rfl, by rw [hU], by rw [hU]; exact hPc, va_K.moved hW.alike hKc, hDc.weaken (fun _ _ _ _ => trivial)⟩⟩ rfl rfl hl.1 rfl (lv_room (Nat.le_of_ble_eq_true rfl)) dX2_forget_10 ⟨Nat.le_of_ble_eq_true rfl, Nat.le_of_ble_eq_true rfl⟩) hS (fun q _ h => hFc q h) hFc ?_
  clear hS
  intro u t H1 locs ht hvm hw hB hz1 hk1 hS
  obtain ⟨⟩ := u
  obtain ⟨hP1, hK1, hD1⟩ := hB
  rw [ht] at hP1
  have hK1 := va_K.moved hvm.symm hK1
  try dsimp only at hw
  have hPD := va_join (wr := [(h0, .inr (2, [.ref qf0, .ref qf1, .int 0, .ref qf3, .ref qf4, .ref qf5, .ref qf6, .ref qf7, .ref qf8, .ref qf9, .ref qf10, .ref qf11, .ref qf12, .ref qf13, .ref qf14, .ref qf15, .ref qf16, .ref qf17, .ref qf18, .ref qf19, .int v20])), (qf9, .inl (cf9, 8, .inl f9)), (qf1, .inr (4, [.ref qf1_0, .ref qf1_1])), (qf1_0, .inl (cf1_0, 16, .inl f1_0)), (qf1_1, .inl (cf1_1, 256, .inl f1_1))]) (w1 := [(qf5, .inl (cf5, 8, .inl g901_0))]) hP hD [1] [0, 2, 3, 4, 5] rfl rfl (by decide) (by decide) hk1 hFc hP1 hD1
  clear hP hD
  obtain ⟨hP, hD⟩ := hPD
  replace hK := (hK.sub (tys' := [(cf9, .int), (cf1_0, .int), (cf1_1, .boolean)]) [1, 2, 3] rfl).app hK1
  clear hPc hDc hKc hFc hP1 hK1 hD1 hz1 hk1 ht hvm
  generalize H1 = H at hP hS ⊢
  replace hP : va_P (dC, dI) vwCl [(h0, .inr (2, [.ref qf0, .ref qf1, .int 0, .ref qf3, .ref qf4, .ref qf5, .ref qf6, .ref qf7, .ref qf8, .ref qf9, .ref qf10, .ref qf11, .ref qf12, .ref qf13, .ref qf14, .ref qf15, .ref qf16, .ref qf17, .ref qf18, .ref qf19, .int v20])), (qf9, .inl (cf9, 8, .inl f9)), (qf1, .inr (4, [.ref qf1_0, .ref qf1_1])), (qf1_0, .inl (cf1_0, 16, .inl f1_0)), (qf1_1, .inl (cf1_1, 256, .inl f1_1)), (qf5, .inl (cf5, 8, .inl g901_0))] H := hP
  replace hD : va_D A [(h0, .inr (2, [.ref qf0, .ref qf1, .int 0, .ref qf3, .ref qf4, .ref qf5, .ref qf6, .ref qf7, .ref qf8, .ref qf9, .ref qf10, .ref qf11, .ref qf12, .ref qf13, .ref qf14, .ref qf15, .ref qf16, .ref qf17, .ref qf18, .ref qf19, .int v20])), (qf9, .inl (cf9, 8, .inl f9)), (qf1, .inr (4, [.ref qf1_0, .ref qf1_1])), (qf1_0, .inl (cf1_0, 16, .inl f1_0)), (qf1_1, .inl (cf1_1, 256, .inl f1_1)), (qf5, .inl (cf5, 8, .inl g901_0))] := hD
  replace hK : va_K (dC, dI) vwCl [(cf9, .int), (cf1_0, .int), (cf1_1, .boolean), (cf5, .int)] s := hK
  refine lv_aload_n hx hb dX2_forget_13 rfl (lv_at hl 0 rfl) ?_
  refine va_get (D := (dC, dI)) (ci := 2) (v := .ref qf9) (C := RX2) (T := TX2) (N := 21) hx hb hts uV_h7_X2 hown hK hP 0 rfl rfl 9 (by decide) (hts (.fieldLink RX2 39 "ClassMill$Heads" "methods" "[I") mw_h7_125) (fun _ h9 => h9) rfl dX2_forget_14 ?_
  refine lv_iconst (v := 0) hx hb dX2_forget_17 (by decide) ?_
  obtain ⟨g902_0, hu_2, hsp⟩ := ox_bind hsp
  try dsimp only at hsp
  have hPc := hP.sub (ws' := [(qf9, .inl (cf9, 8, .inl f9))]) [1] rfl
  have hDc := hD.sub (ws' := [(qf9, .inl (cf9, 8, .inl f9))]) [1] (by decide) rfl
  have hKc := hK.sub (tys' := [(cf9, .int)]) [0] rfl
  have hFc := va_free (wc := [(qf9, .inl (cf9, 8, .inl f9))]) hD hS hA [1] rfl
  refine va_callv (va_runS (As := [.ref qf9, .int 0]) (rest := []) ⟨hx, hb, hml, hown, hts⟩ (jd_fill l dC dI H.size qf9 0 cf9 8 f9 nf g902_0 hu_2) (va_cwS 2 hts gv_h7_10 rfl rfl rfl (by decide +kernel) ⟨Nat.le_of_ble_eq_true rfl, Nat.le_of_ble_eq_true rfl⟩) ⟨fun a U g mk q => by obtain ⟨q0, q1, qP, qK, qD⟩ := q; exact ⟨q0, q1, qP, va_K.moved (u := U) (U := U.calling g mk a) (Vm.Alike.refl U.vm) qK, qD⟩, fun U hU hW => ⟨rfl, by rw [hU], by rw [hU]; exact hPc, va_K.moved hW.alike hKc, hDc.weaken (fun _ _ _ _ => trivial)⟩⟩ rfl rfl hl.1 rfl (lv_room (Nat.le_of_ble_eq_true rfl)) dX2_forget_18 ⟨Nat.le_of_ble_eq_true rfl, Nat.le_of_ble_eq_true rfl⟩) hS (fun q _ h => hFc q h) hFc ?_
  clear hS
  intro u t H1 locs ht hvm hw hB hz1 hk1 hS
  obtain ⟨⟩ := u
  obtain ⟨hP1, hK1, hD1⟩ := hB
  rw [ht] at hP1
  have hK1 := va_K.moved hvm.symm hK1
  try dsimp only at hw
  have hPD := va_join (wr := [(h0, .inr (2, [.ref qf0, .ref qf1, .int 0, .ref qf3, .ref qf4, .ref qf5, .ref qf6, .ref qf7, .ref qf8, .ref qf9, .ref qf10, .ref qf11, .ref qf12, .ref qf13, .ref qf14, .ref qf15, .ref qf16, .ref qf17, .ref qf18, .ref qf19, .int v20])), (qf1, .inr (4, [.ref qf1_0, .ref qf1_1])), (qf1_0, .inl (cf1_0, 16, .inl f1_0)), (qf1_1, .inl (cf1_1, 256, .inl f1_1)), (qf5, .inl (cf5, 8, .inl g901_0))]) (w1 := [(qf9, .inl (cf9, 8, .inl g902_0))]) hP hD [1] [0, 2, 3, 4, 5] rfl rfl (by decide) (by decide) hk1 hFc hP1 hD1
  clear hP hD
  obtain ⟨hP, hD⟩ := hPD
  replace hK := (hK.sub (tys' := [(cf1_0, .int), (cf1_1, .boolean), (cf5, .int)]) [1, 2, 3] rfl).app hK1
  clear hPc hDc hKc hFc hP1 hK1 hD1 hz1 hk1 ht hvm
  generalize H1 = H at hP hS ⊢
  replace hP : va_P (dC, dI) vwCl [(h0, .inr (2, [.ref qf0, .ref qf1, .int 0, .ref qf3, .ref qf4, .ref qf5, .ref qf6, .ref qf7, .ref qf8, .ref qf9, .ref qf10, .ref qf11, .ref qf12, .ref qf13, .ref qf14, .ref qf15, .ref qf16, .ref qf17, .ref qf18, .ref qf19, .int v20])), (qf1, .inr (4, [.ref qf1_0, .ref qf1_1])), (qf1_0, .inl (cf1_0, 16, .inl f1_0)), (qf1_1, .inl (cf1_1, 256, .inl f1_1)), (qf5, .inl (cf5, 8, .inl g901_0)), (qf9, .inl (cf9, 8, .inl g902_0))] H := hP
  replace hD : va_D A [(h0, .inr (2, [.ref qf0, .ref qf1, .int 0, .ref qf3, .ref qf4, .ref qf5, .ref qf6, .ref qf7, .ref qf8, .ref qf9, .ref qf10, .ref qf11, .ref qf12, .ref qf13, .ref qf14, .ref qf15, .ref qf16, .ref qf17, .ref qf18, .ref qf19, .int v20])), (qf1, .inr (4, [.ref qf1_0, .ref qf1_1])), (qf1_0, .inl (cf1_0, 16, .inl f1_0)), (qf1_1, .inl (cf1_1, 256, .inl f1_1)), (qf5, .inl (cf5, 8, .inl g901_0)), (qf9, .inl (cf9, 8, .inl g902_0))] := hD
  replace hK : va_K (dC, dI) vwCl [(cf1_0, .int), (cf1_1, .boolean), (cf5, .int), (cf9, .int)] s := hK
  refine lv_aload_n hx hb dX2_forget_21 rfl (lv_at hl 0 rfl) ?_
  refine va_get (D := (dC, dI)) (ci := 2) (v := .ref qf1) (C := RX2) (T := TX2) (N := 21) hx hb hts uV_h7_X2 hown hK hP 0 rfl rfl 1 (by decide) (hts (.fieldLink RX2 14 "ClassMill$Heads" "kin" "LClassMill$Kin;") mw_h7_147) (fun _ h9 => h9) rfl dX2_forget_22 ?_
  obtain ⟨⟨g903_0, g903_1⟩, hu_3, hsp⟩ := ox_bind hsp
  try dsimp only at hsp
  have hPc := hP.sub (ws' := [(qf1, .inr (4, [.ref qf1_0, .ref qf1_1])), (qf1_0, .inl (cf1_0, 16, .inl f1_0)), (qf1_1, .inl (cf1_1, 256, .inl f1_1))]) [1, 2, 3] rfl
  have hDc := hD.sub (ws' := [(qf1, .inr (4, [.ref qf1_0, .ref qf1_1])), (qf1_0, .inl (cf1_0, 16, .inl f1_0)), (qf1_1, .inl (cf1_1, 256, .inl f1_1))]) [1, 2, 3] (by decide) rfl
  have hKc := hK.sub (tys' := [(cf1_0, .int), (cf1_1, .boolean)]) [0, 1] rfl
  have hFc := va_free (wc := [(qf1, .inr (4, [.ref qf1_0, .ref qf1_1])), (qf1_0, .inl (cf1_0, 16, .inl f1_0)), (qf1_1, .inl (cf1_1, 256, .inl f1_1))]) hD hS hA [1, 2, 3] rfl
  refine va_callv (va_runV (As := []) (rest := []) ⟨hx, hb, hml, hown, hts⟩ (v4_forget l dC dI H.size qf1 qf1_0 qf1_1 cf1_0 f1_0 cf1_1 f1_1 nf g903_0 g903_1 hu_3) (cwV 0 hts gv_h7_109 rfl rfl rfl (by decide +kernel) ⟨Nat.le_of_ble_eq_true rfl, Nat.le_of_ble_eq_true rfl⟩) ⟨fun a U g mk q => by obtain ⟨q0, q1, qP, qK, qD⟩ := q; exact ⟨q0, q1, qP, va_K.moved (u := U) (U := U.calling g mk a) (Vm.Alike.refl U.vm) qK, qD⟩, va_recv hKc hPc (ci := 4) (q0 := 0) rfl rfl, fun U hU hW => ⟨rfl, by rw [hU], by rw [hU]; exact hPc, va_K.moved hW.alike hKc, hDc.weaken (fun _ _ _ _ => trivial)⟩⟩ rfl rfl hl.1 rfl (lv_room (Nat.le_of_ble_eq_true rfl)) dX2_forget_25 ⟨Nat.le_of_ble_eq_true rfl, Nat.le_of_ble_eq_true rfl⟩) hS (fun q _ h => hFc q h) hFc ?_
  clear hS
  intro u t H1 locs ht hvm hw hB hz1 hk1 hS
  obtain ⟨⟩ := u
  obtain ⟨hP1, hK1, hD1⟩ := hB
  rw [ht] at hP1
  have hK1 := va_K.moved hvm.symm hK1
  try dsimp only at hw
  have hPD := va_join (wr := [(h0, .inr (2, [.ref qf0, .ref qf1, .int 0, .ref qf3, .ref qf4, .ref qf5, .ref qf6, .ref qf7, .ref qf8, .ref qf9, .ref qf10, .ref qf11, .ref qf12, .ref qf13, .ref qf14, .ref qf15, .ref qf16, .ref qf17, .ref qf18, .ref qf19, .int v20])), (qf5, .inl (cf5, 8, .inl g901_0)), (qf9, .inl (cf9, 8, .inl g902_0))]) (w1 := [(qf1, .inr (4, [.ref qf1_0, .ref qf1_1])), (qf1_0, .inl (cf1_0, 16, .inl g903_0)), (qf1_1, .inl (cf1_1, 256, .inl g903_1))]) hP hD [1, 2, 3] [0, 4, 5] rfl rfl (by decide) (by decide) hk1 hFc hP1 hD1
  clear hP hD
  obtain ⟨hP, hD⟩ := hPD
  replace hK := (hK.sub (tys' := [(cf5, .int), (cf9, .int)]) [2, 3] rfl).app hK1
  clear hPc hDc hKc hFc hP1 hK1 hD1 hz1 hk1 ht hvm
  generalize H1 = H at hP hS ⊢
  replace hP : va_P (dC, dI) vwCl [(h0, .inr (2, [.ref qf0, .ref qf1, .int 0, .ref qf3, .ref qf4, .ref qf5, .ref qf6, .ref qf7, .ref qf8, .ref qf9, .ref qf10, .ref qf11, .ref qf12, .ref qf13, .ref qf14, .ref qf15, .ref qf16, .ref qf17, .ref qf18, .ref qf19, .int v20])), (qf5, .inl (cf5, 8, .inl g901_0)), (qf9, .inl (cf9, 8, .inl g902_0)), (qf1, .inr (4, [.ref qf1_0, .ref qf1_1])), (qf1_0, .inl (cf1_0, 16, .inl g903_0)), (qf1_1, .inl (cf1_1, 256, .inl g903_1))] H := hP
  replace hD : va_D A [(h0, .inr (2, [.ref qf0, .ref qf1, .int 0, .ref qf3, .ref qf4, .ref qf5, .ref qf6, .ref qf7, .ref qf8, .ref qf9, .ref qf10, .ref qf11, .ref qf12, .ref qf13, .ref qf14, .ref qf15, .ref qf16, .ref qf17, .ref qf18, .ref qf19, .int v20])), (qf5, .inl (cf5, 8, .inl g901_0)), (qf9, .inl (cf9, 8, .inl g902_0)), (qf1, .inr (4, [.ref qf1_0, .ref qf1_1])), (qf1_0, .inl (cf1_0, 16, .inl g903_0)), (qf1_1, .inl (cf1_1, 256, .inl g903_1))] := hD
  replace hK : va_K (dC, dI) vwCl [(cf5, .int), (cf9, .int), (cf1_0, .int), (cf1_1, .boolean)] s := hK
  have hr0 := Option.some.inj hsp
  clear hsp
  obtain ⟨hq0, hr1⟩ := Prod.mk.inj hr0
  clear hr0
  obtain ⟨hq1, hr2⟩ := Prod.mk.inj hr1
  clear hr1
  obtain ⟨hq2, hr3⟩ := Prod.mk.inj hr2
  clear hr2
  obtain ⟨hq3, hr4⟩ := Prod.mk.inj hr3
  clear hr3
  subst hq0
  subst hq1
  subst hq2
  subst hq3
  subst hr4
  have hP9 := hP.sub (ws' := [(h0, .inr (2, [.ref qf0, .ref qf1, .int 0, .ref qf3, .ref qf4, .ref qf5, .ref qf6, .ref qf7, .ref qf8, .ref qf9, .ref qf10, .ref qf11, .ref qf12, .ref qf13, .ref qf14, .ref qf15, .ref qf16, .ref qf17, .ref qf18, .ref qf19, .int v20])), (qf5, .inl (cf5, 8, .inl g901_0)), (qf9, .inl (cf9, 8, .inl g902_0)), (qf1, .inr (4, [.ref qf1_0, .ref qf1_1])), (qf1_0, .inl (cf1_0, 16, .inl g903_0)), (qf1_1, .inl (cf1_1, 256, .inl g903_1))]) [0, 1, 2, 3, 4, 5] rfl
  have hD9 := hD.sub (ws' := [(h0, .inr (2, [.ref qf0, .ref qf1, .int 0, .ref qf3, .ref qf4, .ref qf5, .ref qf6, .ref qf7, .ref qf8, .ref qf9, .ref qf10, .ref qf11, .ref qf12, .ref qf13, .ref qf14, .ref qf15, .ref qf16, .ref qf17, .ref qf18, .ref qf19, .int v20])), (qf5, .inl (cf5, 8, .inl g901_0)), (qf9, .inl (cf9, 8, .inl g902_0)), (qf1, .inr (4, [.ref qf1_0, .ref qf1_1])), (qf1_0, .inl (cf1_0, 16, .inl g903_0)), (qf1_1, .inl (cf1_1, 256, .inl g903_1))]) [0, 1, 2, 3, 4, 5] (by decide) rfl
  have hK9 := hK.sub (tys' := [(cf5, .int), (cf9, .int), (cf1_0, .int), (cf1_1, .boolean)]) [0, 1, 2, 3] rfl
  exact W.vret hx hb hr (fun t ht hW => ⟨⟨(), rfl, trivial, by rw [ht]; exact hP9, va_K.moved hW.alike hK9, hD9⟩, hS.F ht⟩) hS.2.2 dX2_forget_28
def lp_v2_readClasses_48 (nf n : Nat) (v2 : Int32) (v0_3 : Int32) (v0_9 : Int32) (v0_11 : Int32) (v0_12 : Int32) (f4 : Nat → Int32) (f3 : Nat → Int32) (f0_2 : Nat → Int32) (f0_0 : Nat → Int32) (f0_1 : Nat → Int32) (f1_1 : Nat → Int32) (f1_0 : Nat → Int32)  (l1_48 : Int32) (g1_0_48 : Nat → Int32) (g1_1_48 : Nat → Int32) (g4_48 : Nat → Int32) (x0_11_48 : Int32) (x0_12_48 : Int32) : Option ((Nat → Int32) × (Nat → Int32) × (Nat → Int32) × Int32 × Int32) := match n with
  | 0 => none
  | n + 1 => (if v2 ≤ l1_48 then ((sp_t4_settle nf g1_1_48 g1_0_48).bind (fun p1 => (some (g1_0_48, p1, g4_48, x0_11_48, x0_12_48)))) else (if x0_11_48 = 0 then ((sp_t2_classAbove nf l1_48 v2 f3 v0_3 f0_0 f0_2 g4_48).bind (fun p2 => ((sp_tk_setAbove nf (8 + l1_48) p2 g1_0_48).bind (fun p3 => (lp_v2_readClasses_48 nf n v2 v0_3 v0_9 v0_11 v0_12 f4 f3 f0_2 f0_0 f0_1 f1_1 f1_0 (l1_48 + 1) p3 g1_1_48 g4_48 x0_11_48 x0_12_48))))) else ((sp_t4_settle nf g1_1_48 g1_0_48).bind (fun p4 => (some (g1_0_48, p4, g4_48, x0_11_48, x0_12_48))))))
def jn_v2_readClasses_46 (nf : Nat) (v2 : Int32) (v0_3 : Int32) (v0_9 : Int32) (v0_11 : Int32) (v0_12 : Int32) (f4 : Nat → Int32) (f3 : Nat → Int32) (f0_2 : Nat → Int32) (f0_0 : Nat → Int32) (f0_1 : Nat → Int32) (f1_1 : Nat → Int32) (f1_0 : Nat → Int32)  (g1_0_46 : Nat → Int32) (g1_1_46 : Nat → Int32) (g4_46 : Nat → Int32) (x0_11_46 : Int32) (x0_12_46 : Int32) : Option ((Nat → Int32) × (Nat → Int32) × (Nat → Int32) × Int32 × Int32) := (lp_v2_readClasses_48 nf nf v2 v0_3 v0_9 v0_11 v0_12 f4 f3 f0_2 f0_0 f0_1 f1_1 f1_0  0 g1_0_46 g1_1_46 g4_46 x0_11_46 x0_12_46)
def lp_v2_readClasses_17 (nf n : Nat) (v2 : Int32) (v0_3 : Int32) (v0_9 : Int32) (v0_11 : Int32) (v0_12 : Int32) (f4 : Nat → Int32) (f3 : Nat → Int32) (f0_2 : Nat → Int32) (f0_0 : Nat → Int32) (f0_1 : Nat → Int32) (f1_1 : Nat → Int32) (f1_0 : Nat → Int32)  (l1_17 : Int32) (g1_0_17 : Nat → Int32) (g1_1_17 : Nat → Int32) (g4_17 : Nat → Int32) (x0_11_17 : Int32) (x0_12_17 : Int32) : Option ((Nat → Int32) × (Nat → Int32) × (Nat → Int32) × Int32 × Int32) := match n with
  | 0 => none
  | n + 1 => (if v2 ≤ l1_17 then (jn_v2_readClasses_46 nf v2 v0_3 v0_9 v0_11 v0_12 f4 f3 f0_2 f0_0 f0_1 f1_1 f1_0  g1_0_17 g1_1_17 g4_17 x0_11_17 x0_12_17) else (if x0_11_17 = 0 then ((sp_t2_checkClassHead nf l1_17 v2 f3 v0_3 x0_11_17 x0_12_17 f0_2 f0_0 g4_17 f0_1).bind (fun p1 => (lp_v2_readClasses_17 nf n v2 v0_3 v0_9 v0_11 v0_12 f4 f3 f0_2 f0_0 f0_1 f1_1 f1_0 (l1_17 + 1) g1_0_17 g1_1_17 g4_17 p1.1 p1.2))) else (jn_v2_readClasses_46 nf v2 v0_3 v0_9 v0_11 v0_12 f4 f3 f0_2 f0_0 f0_1 f1_1 f1_0  g1_0_17 g1_1_17 g4_17 x0_11_17 x0_12_17)))
def sp_v2_readClasses (nf : Nat) (v2 : Int32) (v0_3 : Int32) (v0_9 : Int32) (v0_11 : Int32) (v0_12 : Int32) (f4 : Nat → Int32) (f3 : Nat → Int32) (f0_2 : Nat → Int32) (f0_0 : Nat → Int32) (f0_1 : Nat → Int32) (f1_1 : Nat → Int32) (f1_0 : Nat → Int32) : Option ((Nat → Int32) × (Nat → Int32) × (Nat → Int32) × Int32 × Int32) := (if v0_11 = 0 then ((sp_v2_nameClasses nf v2 v0_3 v0_9 f4 f3 f0_2).bind (fun p1 => (lp_v2_readClasses_17 nf nf v2 v0_3 v0_9 v0_11 v0_12 f4 f3 f0_2 f0_0 f0_1 f1_1 f1_0  0 f1_0 f1_1 p1 v0_11 v0_12))) else (some (f1_0, f1_1, f4, v0_11, v0_12)))
set_option maxHeartbeats 4000000 in
set_option maxRecDepth 100000 in
/-- ClassMill$Heads.readClasses -/
theorem v2_readClasses (l : Launch) (dC : Nat → ClassId) (dI : Nat → Nat → Nat) (sz : Nat) (h0 : Nat) (qf0 : Nat) (qf1 : Nat) (v2 : Int32) (qf3 : Nat) (qf4 : Nat) (qf5 : Nat) (qf6 : Nat) (qf7 : Nat) (qf8 : Nat) (qf9 : Nat) (qf10 : Nat) (qf11 : Nat) (qf12 : Nat) (qf13 : Nat) (qf14 : Nat) (qf15 : Nat) (qf16 : Nat) (qf17 : Nat) (qf18 : Nat) (qf19 : Nat) (v20 : Int32) (qf0_0 : Nat) (qf0_1 : Nat) (qf0_2 : Nat) (v0_3 : Int32) (qf0_4 : Nat) (qf0_5 : Nat) (qf0_6 : Nat) (qf0_7 : Nat) (qf0_8 : Nat) (v0_9 : Int32) (v0_10 : Int32) (v0_11 : Int32) (v0_12 : Int32) (cf4 : ClassId) (f4 : (Nat → Int32)) (cf3 : ClassId) (f3 : (Nat → Int32)) (cf0_2 : ClassId) (f0_2 : (Nat → Int32)) (cf0_0 : ClassId) (f0_0 : (Nat → Int32)) (cf0_1 : ClassId) (f0_1 : (Nat → Int32)) (qf1_0 : Nat) (qf1_1 : Nat) (cf1_1 : ClassId) (f1_1 : (Nat → Int32)) (cf1_0 : ClassId) (f1_0 : (Nat → Int32)) (nf : Nat) (o1_0 : (Nat → Int32)) (o1_1 : (Nat → Int32)) (o4 : (Nat → Int32)) (w0_11 : Int32) (w0_12 : Int32) (hsp : sp_v2_readClasses nf v2 v0_3 v0_9 v0_11 v0_12 f4 f3 f0_2 f0_0 f0_1 f1_1 f1_0 = some (o1_0, o1_1, o4, w0_11, w0_12)) : Met l yX2_readClasses (.code yX2_readClasses cX2_readClasses 2 none :: VS_h7) ({ frames := 5, cells := 0, slots := 0, locals := 110 }) (va_Pc [.ref h0] (fun U => U.heap.size = sz ∧ va_P (dC, dI) vwCl [(h0, .inr (2, [.ref qf0, .ref qf1, .int v2, .ref qf3, .ref qf4, .ref qf5, .ref qf6, .ref qf7, .ref qf8, .ref qf9, .ref qf10, .ref qf11, .ref qf12, .ref qf13, .ref qf14, .ref qf15, .ref qf16, .ref qf17, .ref qf18, .ref qf19, .int v20])), (qf0, .inr (9, [.ref qf0_0, .ref qf0_1, .ref qf0_2, .int v0_3, .ref qf0_4, .ref qf0_5, .ref qf0_6, .ref qf0_7, .ref qf0_8, .int v0_9, .int v0_10, .int v0_11, .int v0_12])), (qf4, .inl (cf4, 1740, .inl f4)), (qf3, .inl (cf3, 334, .inl f3)), (qf0_2, .inl (cf0_2, 3001, .inl f0_2)), (qf0_0, .inl (cf0_0, 3001, .inl f0_0)), (qf0_1, .inl (cf0_1, 3001, .inl f0_1)), (qf1, .inr (4, [.ref qf1_0, .ref qf1_1])), (qf1_1, .inl (cf1_1, 256, .inl f1_1)), (qf1_0, .inl (cf1_0, 16, .inl f1_0))] U.heap ∧ va_K (dC, dI) vwCl [(cf4, .int), (cf3, .int), (cf0_2, .int), (cf0_0, .int), (cf0_1, .int), (cf1_1, .boolean), (cf1_0, .int)] U ∧ va_D (fun _ => True) [(h0, .inr (2, [.ref qf0, .ref qf1, .int v2, .ref qf3, .ref qf4, .ref qf5, .ref qf6, .ref qf7, .ref qf8, .ref qf9, .ref qf10, .ref qf11, .ref qf12, .ref qf13, .ref qf14, .ref qf15, .ref qf16, .ref qf17, .ref qf18, .ref qf19, .int v20])), (qf0, .inr (9, [.ref qf0_0, .ref qf0_1, .ref qf0_2, .int v0_3, .ref qf0_4, .ref qf0_5, .ref qf0_6, .ref qf0_7, .ref qf0_8, .int v0_9, .int v0_10, .int v0_11, .int v0_12])), (qf4, .inl (cf4, 1740, .inl f4)), (qf3, .inl (cf3, 334, .inl f3)), (qf0_2, .inl (cf0_2, 3001, .inl f0_2)), (qf0_0, .inl (cf0_0, 3001, .inl f0_0)), (qf0_1, .inl (cf0_1, 3001, .inl f0_1)), (qf1, .inr (4, [.ref qf1_0, .ref qf1_1])), (qf1_1, .inl (cf1_1, 256, .inl f1_1)), (qf1_0, .inl (cf1_0, 16, .inl f1_0))])) (va_Qv (fun (u : Unit) => match u with | () => True) (fun (u : Unit) (t : State) => match u with | () => va_P (dC, dI) vwCl [(h0, .inr (2, [.ref qf0, .ref qf1, .int v2, .ref qf3, .ref qf4, .ref qf5, .ref qf6, .ref qf7, .ref qf8, .ref qf9, .ref qf10, .ref qf11, .ref qf12, .ref qf13, .ref qf14, .ref qf15, .ref qf16, .ref qf17, .ref qf18, .ref qf19, .int v20])), (qf0, .inr (9, [.ref qf0_0, .ref qf0_1, .ref qf0_2, .int v0_3, .ref qf0_4, .ref qf0_5, .ref qf0_6, .ref qf0_7, .ref qf0_8, .int v0_9, .int v0_10, .int w0_11, .int w0_12])), (qf4, .inl (cf4, 1740, .inl o4)), (qf3, .inl (cf3, 334, .inl f3)), (qf0_2, .inl (cf0_2, 3001, .inl f0_2)), (qf0_0, .inl (cf0_0, 3001, .inl f0_0)), (qf0_1, .inl (cf0_1, 3001, .inl f0_1)), (qf1, .inr (4, [.ref qf1_0, .ref qf1_1])), (qf1_1, .inl (cf1_1, 256, .inl o1_1)), (qf1_0, .inl (cf1_0, 16, .inl o1_0))] t.heap ∧ va_K (dC, dI) vwCl [(cf4, .int), (cf3, .int), (cf0_2, .int), (cf0_0, .int), (cf0_1, .int), (cf1_1, .boolean), (cf1_0, .int)] t ∧ va_D (va_A [(h0, .inr (2, [.ref qf0, .ref qf1, .int v2, .ref qf3, .ref qf4, .ref qf5, .ref qf6, .ref qf7, .ref qf8, .ref qf9, .ref qf10, .ref qf11, .ref qf12, .ref qf13, .ref qf14, .ref qf15, .ref qf16, .ref qf17, .ref qf18, .ref qf19, .int v20])), (qf0, .inr (9, [.ref qf0_0, .ref qf0_1, .ref qf0_2, .int v0_3, .ref qf0_4, .ref qf0_5, .ref qf0_6, .ref qf0_7, .ref qf0_8, .int v0_9, .int v0_10, .int v0_11, .int v0_12])), (qf4, .inl (cf4, 1740, .inl f4)), (qf3, .inl (cf3, 334, .inl f3)), (qf0_2, .inl (cf0_2, 3001, .inl f0_2)), (qf0_0, .inl (cf0_0, 3001, .inl f0_0)), (qf0_1, .inl (cf0_1, 3001, .inl f0_1)), (qf1, .inr (4, [.ref qf1_0, .ref qf1_1])), (qf1_1, .inl (cf1_1, 256, .inl f1_1)), (qf1_0, .inl (cf1_0, 16, .inl f1_0))] sz) [(h0, .inr (2, [.ref qf0, .ref qf1, .int v2, .ref qf3, .ref qf4, .ref qf5, .ref qf6, .ref qf7, .ref qf8, .ref qf9, .ref qf10, .ref qf11, .ref qf12, .ref qf13, .ref qf14, .ref qf15, .ref qf16, .ref qf17, .ref qf18, .ref qf19, .int v20])), (qf0, .inr (9, [.ref qf0_0, .ref qf0_1, .ref qf0_2, .int v0_3, .ref qf0_4, .ref qf0_5, .ref qf0_6, .ref qf0_7, .ref qf0_8, .int v0_9, .int v0_10, .int w0_11, .int w0_12])), (qf4, .inl (cf4, 1740, .inl o4)), (qf3, .inl (cf3, 334, .inl f3)), (qf0_2, .inl (cf0_2, 3001, .inl f0_2)), (qf0_0, .inl (cf0_0, 3001, .inl f0_0)), (qf0_1, .inl (cf0_1, 3001, .inl f0_1)), (qf1, .inr (4, [.ref qf1_0, .ref qf1_1])), (qf1_1, .inl (cf1_1, 256, .inl o1_1)), (qf1_0, .inl (cf1_0, 16, .inl o1_0))]) (va_A [(h0, .inr (2, [.ref qf0, .ref qf1, .int v2, .ref qf3, .ref qf4, .ref qf5, .ref qf6, .ref qf7, .ref qf8, .ref qf9, .ref qf10, .ref qf11, .ref qf12, .ref qf13, .ref qf14, .ref qf15, .ref qf16, .ref qf17, .ref qf18, .ref qf19, .int v20])), (qf0, .inr (9, [.ref qf0_0, .ref qf0_1, .ref qf0_2, .int v0_3, .ref qf0_4, .ref qf0_5, .ref qf0_6, .ref qf0_7, .ref qf0_8, .int v0_9, .int v0_10, .int v0_11, .int v0_12])), (qf4, .inl (cf4, 1740, .inl f4)), (qf3, .inl (cf3, 334, .inl f3)), (qf0_2, .inl (cf0_2, 3001, .inl f0_2)), (qf0_0, .inl (cf0_0, 3001, .inl f0_0)), (qf0_1, .inl (cf0_1, 3001, .inl f0_1)), (qf1, .inr (4, [.ref qf1_0, .ref qf1_1])), (qf1_1, .inl (cf1_1, 256, .inl f1_1)), (qf1_0, .inl (cf1_0, 16, .inl f1_0))] sz)) 0 0 (va_A [(h0, .inr (2, [.ref qf0, .ref qf1, .int v2, .ref qf3, .ref qf4, .ref qf5, .ref qf6, .ref qf7, .ref qf8, .ref qf9, .ref qf10, .ref qf11, .ref qf12, .ref qf13, .ref qf14, .ref qf15, .ref qf16, .ref qf17, .ref qf18, .ref qf19, .int v20])), (qf0, .inr (9, [.ref qf0_0, .ref qf0_1, .ref qf0_2, .int v0_3, .ref qf0_4, .ref qf0_5, .ref qf0_6, .ref qf0_7, .ref qf0_8, .int v0_9, .int v0_10, .int v0_11, .int v0_12])), (qf4, .inl (cf4, 1740, .inl f4)), (qf3, .inl (cf3, 334, .inl f3)), (qf0_2, .inl (cf0_2, 3001, .inl f0_2)), (qf0_0, .inl (cf0_0, 3001, .inl f0_0)), (qf0_1, .inl (cf0_1, 3001, .inl f0_1)), (qf1, .inr (4, [.ref qf1_0, .ref qf1_1])), (qf1_1, .inl (cf1_1, 256, .inl f1_1)), (qf1_0, .inl (cf1_0, 16, .inl f1_0))] sz) := by
  refine Met.ofW (cc := cX2_readClasses) (maxL := 2) (ret := none) (by decide) rfl ?_
  intro p e s m args below meth c s₁ B hml hv
  obtain ⟨rfl, hsz, hP, hK, hD0⟩ := hv
  have hx := B.exec
  have hb := B.bytes
  have hr := B.returns
  have hts := atoms_spec (ws := (.code yX2_readClasses cX2_readClasses 2 none :: VS_h7)) B.pre
  replace hts := fun w (h : w ∈ VS_h7) => hts w (List.mem_cons_of_mem _ h)
  have hown : s.vm.findClass RX2 = some m.cls := findClass_of_methodNamed B.named
  have hlocks := B.notSynchronized
  subst hsz
  have hD := hD0.self (sz := s.heap.size)
  generalize hAe : va_A [(h0, .inr (2, [.ref qf0, .ref qf1, .int v2, .ref qf3, .ref qf4, .ref qf5, .ref qf6, .ref qf7, .ref qf8, .ref qf9, .ref qf10, .ref qf11, .ref qf12, .ref qf13, .ref qf14, .ref qf15, .ref qf16, .ref qf17, .ref qf18, .ref qf19, .int v20])), (qf0, .inr (9, [.ref qf0_0, .ref qf0_1, .ref qf0_2, .int v0_3, .ref qf0_4, .ref qf0_5, .ref qf0_6, .ref qf0_7, .ref qf0_8, .int v0_9, .int v0_10, .int v0_11, .int v0_12])), (qf4, .inl (cf4, 1740, .inl f4)), (qf3, .inl (cf3, 334, .inl f3)), (qf0_2, .inl (cf0_2, 3001, .inl f0_2)), (qf0_0, .inl (cf0_0, 3001, .inl f0_0)), (qf0_1, .inl (cf0_1, 3001, .inl f0_1)), (qf1, .inr (4, [.ref qf1_0, .ref qf1_1])), (qf1_1, .inl (cf1_1, 256, .inl f1_1)), (qf1_0, .inl (cf1_0, 16, .inl f1_0))] s.heap.size = A at hD  ⊢
  have hA : ∀ q : Nat, s.heap.size ≤ q → A q := fun q h => by rw [← hAe]; exact Or.inr h
  have hP : va_P (dC, dI) vwCl [(h0, .inr (2, [.ref qf0, .ref qf1, .int v2, .ref qf3, .ref qf4, .ref qf5, .ref qf6, .ref qf7, .ref qf8, .ref qf9, .ref qf10, .ref qf11, .ref qf12, .ref qf13, .ref qf14, .ref qf15, .ref qf16, .ref qf17, .ref qf18, .ref qf19, .int v20])), (qf0, .inr (9, [.ref qf0_0, .ref qf0_1, .ref qf0_2, .int v0_3, .ref qf0_4, .ref qf0_5, .ref qf0_6, .ref qf0_7, .ref qf0_8, .int v0_9, .int v0_10, .int v0_11, .int v0_12])), (qf4, .inl (cf4, 1740, .inl f4)), (qf3, .inl (cf3, 334, .inl f3)), (qf0_2, .inl (cf0_2, 3001, .inl f0_2)), (qf0_0, .inl (cf0_0, 3001, .inl f0_0)), (qf0_1, .inl (cf0_1, 3001, .inl f0_1)), (qf1, .inr (4, [.ref qf1_0, .ref qf1_1])), (qf1_1, .inl (cf1_1, 256, .inl f1_1)), (qf1_0, .inl (cf1_0, 16, .inl f1_0))] s.heap := hP
  have hl := lv_entry ([.ref h0]) (n := 2) (Nat.le_of_ble_eq_true rfl)
  rw [lg_entry_eq]
  generalize (lg_sl ([.ref h0]) ++ List.replicate (2 - (lg_sl ([.ref h0])).length) Slot.unset).toArray = ls at hl ⊢
  have hl : lv_has ls 2 [(0, .ref h0)] := hl
  obtain ⟨H, hH⟩ : ∃ H : Heap, s.heap = H := ⟨_, rfl⟩
  rw [hH] at hP ⊢
  have hS : va_S A s.heap H [] := by rw [← hH]; exact va_S.rf
  obtain ⟨locs, hlo⟩ : ∃ locs : List Loc, locs = [] := ⟨_, rfl⟩
  rw [← hlo] at hS ⊢
  unfold sp_v2_readClasses at hsp
  refine jn_use (α := Heap × List Loc × Array Slot × (Nat → Int32) × (Nat → Int32) × (Nat → Int32) × Int32 × Int32) (fun x9 => x9.1) (fun x9 => x9.2.1) (fun x9 => F0 m 46 x9.2.2.1 []) (fun x9 => match x9 with | (H, locs, ls, g1_0_46, g1_1_46, g4_46, x0_11_46, x0_12_46) => lv_has ls 2 [(0, .ref h0)] ∧ va_S A s.heap H locs ∧ va_D A [(h0, .inr (2, [.ref qf0, .ref qf1, .int v2, .ref qf3, .ref qf4, .ref qf5, .ref qf6, .ref qf7, .ref qf8, .ref qf9, .ref qf10, .ref qf11, .ref qf12, .ref qf13, .ref qf14, .ref qf15, .ref qf16, .ref qf17, .ref qf18, .ref qf19, .int v20])), (qf0, .inr (9, [.ref qf0_0, .ref qf0_1, .ref qf0_2, .int v0_3, .ref qf0_4, .ref qf0_5, .ref qf0_6, .ref qf0_7, .ref qf0_8, .int v0_9, .int v0_10, .int x0_11_46, .int x0_12_46])), (qf4, .inl (cf4, 1740, .inl g4_46)), (qf3, .inl (cf3, 334, .inl f3)), (qf0_2, .inl (cf0_2, 3001, .inl f0_2)), (qf0_0, .inl (cf0_0, 3001, .inl f0_0)), (qf0_1, .inl (cf0_1, 3001, .inl f0_1)), (qf1, .inr (4, [.ref qf1_0, .ref qf1_1])), (qf1_1, .inl (cf1_1, 256, .inl g1_1_46)), (qf1_0, .inl (cf1_0, 16, .inl g1_0_46))] ∧ va_P (dC, dI) vwCl [(h0, .inr (2, [.ref qf0, .ref qf1, .int v2, .ref qf3, .ref qf4, .ref qf5, .ref qf6, .ref qf7, .ref qf8, .ref qf9, .ref qf10, .ref qf11, .ref qf12, .ref qf13, .ref qf14, .ref qf15, .ref qf16, .ref qf17, .ref qf18, .ref qf19, .int v20])), (qf0, .inr (9, [.ref qf0_0, .ref qf0_1, .ref qf0_2, .int v0_3, .ref qf0_4, .ref qf0_5, .ref qf0_6, .ref qf0_7, .ref qf0_8, .int v0_9, .int v0_10, .int x0_11_46, .int x0_12_46])), (qf4, .inl (cf4, 1740, .inl g4_46)), (qf3, .inl (cf3, 334, .inl f3)), (qf0_2, .inl (cf0_2, 3001, .inl f0_2)), (qf0_0, .inl (cf0_0, 3001, .inl f0_0)), (qf0_1, .inl (cf0_1, 3001, .inl f0_1)), (qf1, .inr (4, [.ref qf1_0, .ref qf1_1])), (qf1_1, .inl (cf1_1, 256, .inl g1_1_46)), (qf1_0, .inl (cf1_0, 16, .inl g1_0_46))] H ∧ jn_v2_readClasses_46 nf v2 v0_3 v0_9 v0_11 v0_12 f4 f3 f0_2 f0_0 f0_1 f1_1 f1_0 g1_0_46 g1_1_46 g4_46 x0_11_46 x0_12_46 = some (o1_0, o1_1, o4, w0_11, w0_12)) ?_ ?_
  · intro x9 hJ9
    obtain ⟨H, locs, ls, g1_0_46, g1_1_46, g4_46, x0_11_46, x0_12_46⟩ := x9
    obtain ⟨hl, hS, hD, hP, hsp⟩ := hJ9
    replace hl : lv_has ls 2 [(0, .ref h0)] := hl
    replace hS : va_S A s.heap H locs := hS
    replace hD : va_D A [(h0, .inr (2, [.ref qf0, .ref qf1, .int v2, .ref qf3, .ref qf4, .ref qf5, .ref qf6, .ref qf7, .ref qf8, .ref qf9, .ref qf10, .ref qf11, .ref qf12, .ref qf13, .ref qf14, .ref qf15, .ref qf16, .ref qf17, .ref qf18, .ref qf19, .int v20])), (qf0, .inr (9, [.ref qf0_0, .ref qf0_1, .ref qf0_2, .int v0_3, .ref qf0_4, .ref qf0_5, .ref qf0_6, .ref qf0_7, .ref qf0_8, .int v0_9, .int v0_10, .int x0_11_46, .int x0_12_46])), (qf4, .inl (cf4, 1740, .inl g4_46)), (qf3, .inl (cf3, 334, .inl f3)), (qf0_2, .inl (cf0_2, 3001, .inl f0_2)), (qf0_0, .inl (cf0_0, 3001, .inl f0_0)), (qf0_1, .inl (cf0_1, 3001, .inl f0_1)), (qf1, .inr (4, [.ref qf1_0, .ref qf1_1])), (qf1_1, .inl (cf1_1, 256, .inl g1_1_46)), (qf1_0, .inl (cf1_0, 16, .inl g1_0_46))] := hD
    replace hP : va_P (dC, dI) vwCl [(h0, .inr (2, [.ref qf0, .ref qf1, .int v2, .ref qf3, .ref qf4, .ref qf5, .ref qf6, .ref qf7, .ref qf8, .ref qf9, .ref qf10, .ref qf11, .ref qf12, .ref qf13, .ref qf14, .ref qf15, .ref qf16, .ref qf17, .ref qf18, .ref qf19, .int v20])), (qf0, .inr (9, [.ref qf0_0, .ref qf0_1, .ref qf0_2, .int v0_3, .ref qf0_4, .ref qf0_5, .ref qf0_6, .ref qf0_7, .ref qf0_8, .int v0_9, .int v0_10, .int x0_11_46, .int x0_12_46])), (qf4, .inl (cf4, 1740, .inl g4_46)), (qf3, .inl (cf3, 334, .inl f3)), (qf0_2, .inl (cf0_2, 3001, .inl f0_2)), (qf0_0, .inl (cf0_0, 3001, .inl f0_0)), (qf0_1, .inl (cf0_1, 3001, .inl f0_1)), (qf1, .inr (4, [.ref qf1_0, .ref qf1_1])), (qf1_1, .inl (cf1_1, 256, .inl g1_1_46)), (qf1_0, .inl (cf1_0, 16, .inl g1_0_46))] H := hP
    replace hsp : jn_v2_readClasses_46 nf v2 v0_3 v0_9 v0_11 v0_12 f4 f3 f0_2 f0_0 f0_1 f1_1 f1_0 g1_0_46 g1_1_46 g4_46 x0_11_46 x0_12_46 = some (o1_0, o1_1, o4, w0_11, w0_12) := hsp
    show W _ _ _ _ _ _ _ _ _ _ H locs _ _ _ (F0 m 46 ls [])
    unfold jn_v2_readClasses_46 at hsp
    try dsimp only at hsp
    refine lv_iconst (v := 0) hx hb dX2_readClasses_46 (by decide) ?_
    refine lv_istore_n (lv' := [(1, .int 0), (0, .ref h0)]) hx hb dX2_readClasses_47 rfl hl (by decide) rfl (fun ls hl => ?_)
    replace hl : lv_has ls 2 [(1, .int 0), (0, .ref h0)] := lv_sub hl [0, 1] rfl
    replace hP := hP.sub (ws' := [(h0, .inr (2, [.ref qf0, .ref qf1, .int v2, .ref qf3, .ref qf4, .ref qf5, .ref qf6, .ref qf7, .ref qf8, .ref qf9, .ref qf10, .ref qf11, .ref qf12, .ref qf13, .ref qf14, .ref qf15, .ref qf16, .ref qf17, .ref qf18, .ref qf19, .int v20])), (qf0, .inr (9, [.ref qf0_0, .ref qf0_1, .ref qf0_2, .int v0_3, .ref qf0_4, .ref qf0_5, .ref qf0_6, .ref qf0_7, .ref qf0_8, .int v0_9, .int v0_10, .int x0_11_46, .int x0_12_46])), (qf4, .inl (cf4, 1740, .inl g4_46)), (qf3, .inl (cf3, 334, .inl f3)), (qf0_2, .inl (cf0_2, 3001, .inl f0_2)), (qf0_0, .inl (cf0_0, 3001, .inl f0_0)), (qf0_1, .inl (cf0_1, 3001, .inl f0_1)), (qf1, .inr (4, [.ref qf1_0, .ref qf1_1])), (qf1_1, .inl (cf1_1, 256, .inl g1_1_46)), (qf1_0, .inl (cf1_0, 16, .inl g1_0_46))]) [0, 1, 2, 3, 4, 5, 6, 7, 8, 9] rfl
    replace hD := hD.sub (ws' := [(h0, .inr (2, [.ref qf0, .ref qf1, .int v2, .ref qf3, .ref qf4, .ref qf5, .ref qf6, .ref qf7, .ref qf8, .ref qf9, .ref qf10, .ref qf11, .ref qf12, .ref qf13, .ref qf14, .ref qf15, .ref qf16, .ref qf17, .ref qf18, .ref qf19, .int v20])), (qf0, .inr (9, [.ref qf0_0, .ref qf0_1, .ref qf0_2, .int v0_3, .ref qf0_4, .ref qf0_5, .ref qf0_6, .ref qf0_7, .ref qf0_8, .int v0_9, .int v0_10, .int x0_11_46, .int x0_12_46])), (qf4, .inl (cf4, 1740, .inl g4_46)), (qf3, .inl (cf3, 334, .inl f3)), (qf0_2, .inl (cf0_2, 3001, .inl f0_2)), (qf0_0, .inl (cf0_0, 3001, .inl f0_0)), (qf0_1, .inl (cf0_1, 3001, .inl f0_1)), (qf1, .inr (4, [.ref qf1_0, .ref qf1_1])), (qf1_1, .inl (cf1_1, 256, .inl g1_1_46)), (qf1_0, .inl (cf1_0, 16, .inl g1_0_46))]) [0, 1, 2, 3, 4, 5, 6, 7, 8, 9] (by decide) rfl
    replace hK := hK.sub (tys' := [(cf4, .int), (cf3, .int), (cf0_2, .int), (cf0_0, .int), (cf0_1, .int), (cf1_1, .boolean), (cf1_0, .int)]) [0, 1, 2, 3, 4, 5, 6] rfl
    obtain ⟨n_48, hn_48⟩ : ∃ z : Nat, z = nf := ⟨_, rfl⟩
    obtain ⟨l1_48, el1_48⟩ : ∃ z : Int32, z = 0 := ⟨_, rfl⟩
    obtain ⟨g1_0_48, eg1_0_48⟩ : ∃ z : Nat → Int32, z = g1_0_46 := ⟨_, rfl⟩
    obtain ⟨g1_1_48, eg1_1_48⟩ : ∃ z : Nat → Int32, z = g1_1_46 := ⟨_, rfl⟩
    obtain ⟨g4_48, eg4_48⟩ : ∃ z : Nat → Int32, z = g4_46 := ⟨_, rfl⟩
    obtain ⟨x0_11_48, ex0_11_48⟩ : ∃ z : Int32, z = x0_11_46 := ⟨_, rfl⟩
    obtain ⟨x0_12_48, ex0_12_48⟩ : ∃ z : Int32, z = x0_12_46 := ⟨_, rfl⟩
    replace hsp : lp_v2_readClasses_48 nf n_48 v2 v0_3 v0_9 v0_11 v0_12 f4 f3 f0_2 f0_0 f0_1 f1_1 f1_0 l1_48 g1_0_48 g1_1_48 g4_48 x0_11_48 x0_12_48 = some (o1_0, o1_1, o4, w0_11, w0_12) := by rw [hn_48, el1_48, eg1_0_48, eg1_1_48, eg4_48, ex0_11_48, ex0_12_48]; exact hsp
    replace hl : lv_has ls 2 [(1, .int l1_48), (0, .ref h0)] := by rw [el1_48]; exact hl
    replace hP : va_P (dC, dI) vwCl [(h0, .inr (2, [.ref qf0, .ref qf1, .int v2, .ref qf3, .ref qf4, .ref qf5, .ref qf6, .ref qf7, .ref qf8, .ref qf9, .ref qf10, .ref qf11, .ref qf12, .ref qf13, .ref qf14, .ref qf15, .ref qf16, .ref qf17, .ref qf18, .ref qf19, .int v20])), (qf0, .inr (9, [.ref qf0_0, .ref qf0_1, .ref qf0_2, .int v0_3, .ref qf0_4, .ref qf0_5, .ref qf0_6, .ref qf0_7, .ref qf0_8, .int v0_9, .int v0_10, .int x0_11_48, .int x0_12_48])), (qf4, .inl (cf4, 1740, .inl g4_48)), (qf3, .inl (cf3, 334, .inl f3)), (qf0_2, .inl (cf0_2, 3001, .inl f0_2)), (qf0_0, .inl (cf0_0, 3001, .inl f0_0)), (qf0_1, .inl (cf0_1, 3001, .inl f0_1)), (qf1, .inr (4, [.ref qf1_0, .ref qf1_1])), (qf1_1, .inl (cf1_1, 256, .inl g1_1_48)), (qf1_0, .inl (cf1_0, 16, .inl g1_0_48))] H := by rw [eg1_0_48, eg1_1_48, eg4_48, ex0_11_48, ex0_12_48]; exact hP
    replace hD : va_D A [(h0, .inr (2, [.ref qf0, .ref qf1, .int v2, .ref qf3, .ref qf4, .ref qf5, .ref qf6, .ref qf7, .ref qf8, .ref qf9, .ref qf10, .ref qf11, .ref qf12, .ref qf13, .ref qf14, .ref qf15, .ref qf16, .ref qf17, .ref qf18, .ref qf19, .int v20])), (qf0, .inr (9, [.ref qf0_0, .ref qf0_1, .ref qf0_2, .int v0_3, .ref qf0_4, .ref qf0_5, .ref qf0_6, .ref qf0_7, .ref qf0_8, .int v0_9, .int v0_10, .int x0_11_48, .int x0_12_48])), (qf4, .inl (cf4, 1740, .inl g4_48)), (qf3, .inl (cf3, 334, .inl f3)), (qf0_2, .inl (cf0_2, 3001, .inl f0_2)), (qf0_0, .inl (cf0_0, 3001, .inl f0_0)), (qf0_1, .inl (cf0_1, 3001, .inl f0_1)), (qf1, .inr (4, [.ref qf1_0, .ref qf1_1])), (qf1_1, .inl (cf1_1, 256, .inl g1_1_48)), (qf1_0, .inl (cf1_0, 16, .inl g1_0_48))] := by rw [eg1_0_48, eg1_1_48, eg4_48, ex0_11_48, ex0_12_48]; exact hD
    clear hn_48 el1_48 eg1_0_48 eg1_1_48 eg4_48 ex0_11_48 ex0_12_48
    try clear hlo
    try clear hH
    revert hsp
    revert hP
    revert hD
    revert hS
    revert hl
    revert x0_12_48
    revert x0_11_48
    revert g4_48
    revert g1_1_48
    revert g1_0_48
    revert l1_48
    revert ls
    revert locs
    revert H
    induction n_48 with
    | zero => intro H locs ls l1_48 g1_0_48 g1_1_48 g4_48 x0_11_48 x0_12_48  hl hS hD hP hsp; unfold lp_v2_readClasses_48 at hsp; cases hsp
    | succ n_48 ih_48 =>
      intro H locs ls l1_48 g1_0_48 g1_1_48 g4_48 x0_11_48 x0_12_48  hl hS hD hP hsp
      unfold lp_v2_readClasses_48 at hsp
      try dsimp only at hsp
      refine lv_iload_n hx hb dX2_readClasses_48 rfl (lv_at hl 0 rfl) ?_
      refine lv_aload_n hx hb dX2_readClasses_49 rfl (lv_at hl 1 rfl) ?_
      refine va_get (D := (dC, dI)) (ci := 2) (v := .int v2) (C := RX2) (T := TX2) (N := 21) hx hb hts uV_h7_X2 hown hK hP 0 rfl rfl 2 (by decide) (hts (.fieldLink RX2 78 "ClassMill$Heads" "classes" "I") mw_h7_98) (fun _ h9 => h9) rfl dX2_readClasses_50 ?_
      refine lv_icmp_ge (tgt := 88) hx hb dX2_readClasses_53 (by decide) (fun c_4 => ?_) (fun c_4 => ?_)
      · rw [if_pos c_4] at hsp
        refine lv_aload_n hx hb dX2_readClasses_88 rfl (lv_at hl 1 rfl) ?_
        refine va_get (D := (dC, dI)) (ci := 2) (v := .ref qf1) (C := RX2) (T := TX2) (N := 21) hx hb hts uV_h7_X2 hown hK hP 0 rfl rfl 1 (by decide) (hts (.fieldLink RX2 14 "ClassMill$Heads" "kin" "LClassMill$Kin;") mw_h7_147) (fun _ h9 => h9) rfl dX2_readClasses_89 ?_
        obtain ⟨g903_0, hu_3, hsp⟩ := ox_bind hsp
        try dsimp only at hsp
        have hPc := hP.sub (ws' := [(qf1, .inr (4, [.ref qf1_0, .ref qf1_1])), (qf1_1, .inl (cf1_1, 256, .inl g1_1_48)), (qf1_0, .inl (cf1_0, 16, .inl g1_0_48))]) [7, 8, 9] rfl
        have hDc := hD.sub (ws' := [(qf1, .inr (4, [.ref qf1_0, .ref qf1_1])), (qf1_1, .inl (cf1_1, 256, .inl g1_1_48)), (qf1_0, .inl (cf1_0, 16, .inl g1_0_48))]) [7, 8, 9] (by decide) rfl
        have hKc := hK.sub (tys' := [(cf1_1, .boolean), (cf1_0, .int)]) [5, 6] rfl
        have hFc := va_free (wc := [(qf1, .inr (4, [.ref qf1_0, .ref qf1_1])), (qf1_1, .inl (cf1_1, 256, .inl g1_1_48)), (qf1_0, .inl (cf1_0, 16, .inl g1_0_48))]) hD hS hA [7, 8, 9] rfl
        refine va_callv (va_runV (As := []) (rest := []) ⟨hx, hb, hml, hown, hts⟩ (t4_settle l dC dI H.size qf1 qf1_0 qf1_1 cf1_1 g1_1_48 cf1_0 g1_0_48 nf g903_0 hu_3) (cwV 0 hts gv_h7_112 rfl rfl rfl (by decide +kernel) ⟨Nat.le_of_ble_eq_true rfl, Nat.le_of_ble_eq_true rfl⟩) ⟨fun a U g mk q => by obtain ⟨q0, q1, qP, qK, qD⟩ := q; exact ⟨q0, q1, qP, va_K.moved (u := U) (U := U.calling g mk a) (Vm.Alike.refl U.vm) qK, qD⟩, va_recv hKc hPc (ci := 4) (q0 := 0) rfl rfl, fun U hU hW => ⟨rfl, by rw [hU], by rw [hU]; exact hPc, va_K.moved hW.alike hKc, hDc.weaken (fun _ _ _ _ => trivial)⟩⟩ rfl rfl hl.1 rfl (lv_room (Nat.le_of_ble_eq_true rfl)) dX2_readClasses_92 ⟨Nat.le_of_ble_eq_true rfl, Nat.le_of_ble_eq_true rfl⟩) hS (fun q _ h => hFc q h) hFc ?_
        clear hS
        intro u t H1 locs ht hvm hw hB hz1 hk1 hS
        obtain ⟨⟩ := u
        obtain ⟨hP1, hK1, hD1⟩ := hB
        rw [ht] at hP1
        have hK1 := va_K.moved hvm.symm hK1
        try dsimp only at hw
        have hPD := va_join (wr := [(h0, .inr (2, [.ref qf0, .ref qf1, .int v2, .ref qf3, .ref qf4, .ref qf5, .ref qf6, .ref qf7, .ref qf8, .ref qf9, .ref qf10, .ref qf11, .ref qf12, .ref qf13, .ref qf14, .ref qf15, .ref qf16, .ref qf17, .ref qf18, .ref qf19, .int v20])), (qf0, .inr (9, [.ref qf0_0, .ref qf0_1, .ref qf0_2, .int v0_3, .ref qf0_4, .ref qf0_5, .ref qf0_6, .ref qf0_7, .ref qf0_8, .int v0_9, .int v0_10, .int x0_11_48, .int x0_12_48])), (qf4, .inl (cf4, 1740, .inl g4_48)), (qf3, .inl (cf3, 334, .inl f3)), (qf0_2, .inl (cf0_2, 3001, .inl f0_2)), (qf0_0, .inl (cf0_0, 3001, .inl f0_0)), (qf0_1, .inl (cf0_1, 3001, .inl f0_1))]) (w1 := [(qf1, .inr (4, [.ref qf1_0, .ref qf1_1])), (qf1_1, .inl (cf1_1, 256, .inl g903_0)), (qf1_0, .inl (cf1_0, 16, .inl g1_0_48))]) hP hD [7, 8, 9] [0, 1, 2, 3, 4, 5, 6] rfl rfl (by decide) (by decide) hk1 hFc hP1 hD1
        clear hP hD
        obtain ⟨hP, hD⟩ := hPD
        replace hK := (hK.sub (tys' := [(cf4, .int), (cf3, .int), (cf0_2, .int), (cf0_0, .int), (cf0_1, .int)]) [0, 1, 2, 3, 4] rfl).app hK1
        clear hPc hDc hKc hFc hP1 hK1 hD1 hz1 hk1 ht hvm
        generalize H1 = H at hP hS ⊢
        replace hP : va_P (dC, dI) vwCl [(h0, .inr (2, [.ref qf0, .ref qf1, .int v2, .ref qf3, .ref qf4, .ref qf5, .ref qf6, .ref qf7, .ref qf8, .ref qf9, .ref qf10, .ref qf11, .ref qf12, .ref qf13, .ref qf14, .ref qf15, .ref qf16, .ref qf17, .ref qf18, .ref qf19, .int v20])), (qf0, .inr (9, [.ref qf0_0, .ref qf0_1, .ref qf0_2, .int v0_3, .ref qf0_4, .ref qf0_5, .ref qf0_6, .ref qf0_7, .ref qf0_8, .int v0_9, .int v0_10, .int x0_11_48, .int x0_12_48])), (qf4, .inl (cf4, 1740, .inl g4_48)), (qf3, .inl (cf3, 334, .inl f3)), (qf0_2, .inl (cf0_2, 3001, .inl f0_2)), (qf0_0, .inl (cf0_0, 3001, .inl f0_0)), (qf0_1, .inl (cf0_1, 3001, .inl f0_1)), (qf1, .inr (4, [.ref qf1_0, .ref qf1_1])), (qf1_1, .inl (cf1_1, 256, .inl g903_0)), (qf1_0, .inl (cf1_0, 16, .inl g1_0_48))] H := hP
        replace hD : va_D A [(h0, .inr (2, [.ref qf0, .ref qf1, .int v2, .ref qf3, .ref qf4, .ref qf5, .ref qf6, .ref qf7, .ref qf8, .ref qf9, .ref qf10, .ref qf11, .ref qf12, .ref qf13, .ref qf14, .ref qf15, .ref qf16, .ref qf17, .ref qf18, .ref qf19, .int v20])), (qf0, .inr (9, [.ref qf0_0, .ref qf0_1, .ref qf0_2, .int v0_3, .ref qf0_4, .ref qf0_5, .ref qf0_6, .ref qf0_7, .ref qf0_8, .int v0_9, .int v0_10, .int x0_11_48, .int x0_12_48])), (qf4, .inl (cf4, 1740, .inl g4_48)), (qf3, .inl (cf3, 334, .inl f3)), (qf0_2, .inl (cf0_2, 3001, .inl f0_2)), (qf0_0, .inl (cf0_0, 3001, .inl f0_0)), (qf0_1, .inl (cf0_1, 3001, .inl f0_1)), (qf1, .inr (4, [.ref qf1_0, .ref qf1_1])), (qf1_1, .inl (cf1_1, 256, .inl g903_0)), (qf1_0, .inl (cf1_0, 16, .inl g1_0_48))] := hD
        replace hK : va_K (dC, dI) vwCl [(cf4, .int), (cf3, .int), (cf0_2, .int), (cf0_0, .int), (cf0_1, .int), (cf1_1, .boolean), (cf1_0, .int)] s := hK
        have hr0 := Option.some.inj hsp
        clear hsp
        obtain ⟨hq0, hr1⟩ := Prod.mk.inj hr0
        clear hr0
        obtain ⟨hq1, hr2⟩ := Prod.mk.inj hr1
        clear hr1
        obtain ⟨hq2, hr3⟩ := Prod.mk.inj hr2
        clear hr2
        obtain ⟨hq3, hr4⟩ := Prod.mk.inj hr3
        clear hr3
        subst hq0
        subst hq1
        subst hq2
        subst hq3
        subst hr4
        have hP9 := hP.sub (ws' := [(h0, .inr (2, [.ref qf0, .ref qf1, .int v2, .ref qf3, .ref qf4, .ref qf5, .ref qf6, .ref qf7, .ref qf8, .ref qf9, .ref qf10, .ref qf11, .ref qf12, .ref qf13, .ref qf14, .ref qf15, .ref qf16, .ref qf17, .ref qf18, .ref qf19, .int v20])), (qf0, .inr (9, [.ref qf0_0, .ref qf0_1, .ref qf0_2, .int v0_3, .ref qf0_4, .ref qf0_5, .ref qf0_6, .ref qf0_7, .ref qf0_8, .int v0_9, .int v0_10, .int x0_11_48, .int x0_12_48])), (qf4, .inl (cf4, 1740, .inl g4_48)), (qf3, .inl (cf3, 334, .inl f3)), (qf0_2, .inl (cf0_2, 3001, .inl f0_2)), (qf0_0, .inl (cf0_0, 3001, .inl f0_0)), (qf0_1, .inl (cf0_1, 3001, .inl f0_1)), (qf1, .inr (4, [.ref qf1_0, .ref qf1_1])), (qf1_1, .inl (cf1_1, 256, .inl g903_0)), (qf1_0, .inl (cf1_0, 16, .inl g1_0_48))]) [0, 1, 2, 3, 4, 5, 6, 7, 8, 9] rfl
        have hD9 := hD.sub (ws' := [(h0, .inr (2, [.ref qf0, .ref qf1, .int v2, .ref qf3, .ref qf4, .ref qf5, .ref qf6, .ref qf7, .ref qf8, .ref qf9, .ref qf10, .ref qf11, .ref qf12, .ref qf13, .ref qf14, .ref qf15, .ref qf16, .ref qf17, .ref qf18, .ref qf19, .int v20])), (qf0, .inr (9, [.ref qf0_0, .ref qf0_1, .ref qf0_2, .int v0_3, .ref qf0_4, .ref qf0_5, .ref qf0_6, .ref qf0_7, .ref qf0_8, .int v0_9, .int v0_10, .int x0_11_48, .int x0_12_48])), (qf4, .inl (cf4, 1740, .inl g4_48)), (qf3, .inl (cf3, 334, .inl f3)), (qf0_2, .inl (cf0_2, 3001, .inl f0_2)), (qf0_0, .inl (cf0_0, 3001, .inl f0_0)), (qf0_1, .inl (cf0_1, 3001, .inl f0_1)), (qf1, .inr (4, [.ref qf1_0, .ref qf1_1])), (qf1_1, .inl (cf1_1, 256, .inl g903_0)), (qf1_0, .inl (cf1_0, 16, .inl g1_0_48))]) [0, 1, 2, 3, 4, 5, 6, 7, 8, 9] (by decide) rfl
        have hK9 := hK.sub (tys' := [(cf4, .int), (cf3, .int), (cf0_2, .int), (cf0_0, .int), (cf0_1, .int), (cf1_1, .boolean), (cf1_0, .int)]) [0, 1, 2, 3, 4, 5, 6] rfl
        exact W.vret hx hb hr (fun t ht hW => ⟨⟨(), rfl, trivial, by rw [ht]; exact hP9, va_K.moved hW.alike hK9, hD9⟩, hS.F ht⟩) hS.2.2 dX2_readClasses_95
      · rw [if_neg c_4] at hsp
        refine lv_aload_n hx hb dX2_readClasses_56 rfl (lv_at hl 1 rfl) ?_
        refine va_get (D := (dC, dI)) (ci := 2) (v := .ref qf0) (C := RX2) (T := TX2) (N := 21) hx hb hts uV_h7_X2 hown hK hP 0 rfl rfl 0 (by decide) (hts (.fieldLink RX2 74 "ClassMill$Heads" "text" "LClassMill$Text;") mw_h7_99) (fun _ h9 => h9) rfl dX2_readClasses_57 ?_
        refine va_get (D := (dC, dI)) (ci := 9) (v := .int x0_11_48) (C := RX9) (T := TX9) (N := 13) hx hb hts uV_h7_X9 hown hK hP 1 rfl rfl 11 (by decide) (hts (.fieldLink RX2 91 "ClassMill$Text" "fault" "I") mw_h7_130) (fun _ h9 => h9) rfl dX2_readClasses_60 ?_
        refine lv_if_ne (tgt := 88) hx hb dX2_readClasses_63 (by decide) (fun c_5 => ?_) (fun c_5 => ?_)
        · rw [if_neg c_5] at hsp
          refine lv_aload_n hx hb dX2_readClasses_88 rfl (lv_at hl 1 rfl) ?_
          refine va_get (D := (dC, dI)) (ci := 2) (v := .ref qf1) (C := RX2) (T := TX2) (N := 21) hx hb hts uV_h7_X2 hown hK hP 0 rfl rfl 1 (by decide) (hts (.fieldLink RX2 14 "ClassMill$Heads" "kin" "LClassMill$Kin;") mw_h7_147) (fun _ h9 => h9) rfl dX2_readClasses_89 ?_
          obtain ⟨g904_0, hu_4, hsp⟩ := ox_bind hsp
          try dsimp only at hsp
          have hPc := hP.sub (ws' := [(qf1, .inr (4, [.ref qf1_0, .ref qf1_1])), (qf1_1, .inl (cf1_1, 256, .inl g1_1_48)), (qf1_0, .inl (cf1_0, 16, .inl g1_0_48))]) [7, 8, 9] rfl
          have hDc := hD.sub (ws' := [(qf1, .inr (4, [.ref qf1_0, .ref qf1_1])), (qf1_1, .inl (cf1_1, 256, .inl g1_1_48)), (qf1_0, .inl (cf1_0, 16, .inl g1_0_48))]) [7, 8, 9] (by decide) rfl
          have hKc := hK.sub (tys' := [(cf1_1, .boolean), (cf1_0, .int)]) [5, 6] rfl
          have hFc := va_free (wc := [(qf1, .inr (4, [.ref qf1_0, .ref qf1_1])), (qf1_1, .inl (cf1_1, 256, .inl g1_1_48)), (qf1_0, .inl (cf1_0, 16, .inl g1_0_48))]) hD hS hA [7, 8, 9] rfl
          refine va_callv (va_runV (As := []) (rest := []) ⟨hx, hb, hml, hown, hts⟩ (t4_settle l dC dI H.size qf1 qf1_0 qf1_1 cf1_1 g1_1_48 cf1_0 g1_0_48 nf g904_0 hu_4) (cwV 0 hts gv_h7_112 rfl rfl rfl (by decide +kernel) ⟨Nat.le_of_ble_eq_true rfl, Nat.le_of_ble_eq_true rfl⟩) ⟨fun a U g mk q => by obtain ⟨q0, q1, qP, qK, qD⟩ := q; exact ⟨q0, q1, qP, va_K.moved (u := U) (U := U.calling g mk a) (Vm.Alike.refl U.vm) qK, qD⟩, va_recv hKc hPc (ci := 4) (q0 := 0) rfl rfl, fun U hU hW => ⟨rfl, by rw [hU], by rw [hU]; exact hPc, va_K.moved hW.alike hKc, hDc.weaken (fun _ _ _ _ => trivial)⟩⟩ rfl rfl hl.1 rfl (lv_room (Nat.le_of_ble_eq_true rfl)) dX2_readClasses_92 ⟨Nat.le_of_ble_eq_true rfl, Nat.le_of_ble_eq_true rfl⟩) hS (fun q _ h => hFc q h) hFc ?_
          clear hS
          intro u t H1 locs ht hvm hw hB hz1 hk1 hS
          obtain ⟨⟩ := u
          obtain ⟨hP1, hK1, hD1⟩ := hB
          rw [ht] at hP1
          have hK1 := va_K.moved hvm.symm hK1
          try dsimp only at hw
          have hPD := va_join (wr := [(h0, .inr (2, [.ref qf0, .ref qf1, .int v2, .ref qf3, .ref qf4, .ref qf5, .ref qf6, .ref qf7, .ref qf8, .ref qf9, .ref qf10, .ref qf11, .ref qf12, .ref qf13, .ref qf14, .ref qf15, .ref qf16, .ref qf17, .ref qf18, .ref qf19, .int v20])), (qf0, .inr (9, [.ref qf0_0, .ref qf0_1, .ref qf0_2, .int v0_3, .ref qf0_4, .ref qf0_5, .ref qf0_6, .ref qf0_7, .ref qf0_8, .int v0_9, .int v0_10, .int x0_11_48, .int x0_12_48])), (qf4, .inl (cf4, 1740, .inl g4_48)), (qf3, .inl (cf3, 334, .inl f3)), (qf0_2, .inl (cf0_2, 3001, .inl f0_2)), (qf0_0, .inl (cf0_0, 3001, .inl f0_0)), (qf0_1, .inl (cf0_1, 3001, .inl f0_1))]) (w1 := [(qf1, .inr (4, [.ref qf1_0, .ref qf1_1])), (qf1_1, .inl (cf1_1, 256, .inl g904_0)), (qf1_0, .inl (cf1_0, 16, .inl g1_0_48))]) hP hD [7, 8, 9] [0, 1, 2, 3, 4, 5, 6] rfl rfl (by decide) (by decide) hk1 hFc hP1 hD1
          clear hP hD
          obtain ⟨hP, hD⟩ := hPD
          replace hK := (hK.sub (tys' := [(cf4, .int), (cf3, .int), (cf0_2, .int), (cf0_0, .int), (cf0_1, .int)]) [0, 1, 2, 3, 4] rfl).app hK1
          clear hPc hDc hKc hFc hP1 hK1 hD1 hz1 hk1 ht hvm
          generalize H1 = H at hP hS ⊢
          replace hP : va_P (dC, dI) vwCl [(h0, .inr (2, [.ref qf0, .ref qf1, .int v2, .ref qf3, .ref qf4, .ref qf5, .ref qf6, .ref qf7, .ref qf8, .ref qf9, .ref qf10, .ref qf11, .ref qf12, .ref qf13, .ref qf14, .ref qf15, .ref qf16, .ref qf17, .ref qf18, .ref qf19, .int v20])), (qf0, .inr (9, [.ref qf0_0, .ref qf0_1, .ref qf0_2, .int v0_3, .ref qf0_4, .ref qf0_5, .ref qf0_6, .ref qf0_7, .ref qf0_8, .int v0_9, .int v0_10, .int x0_11_48, .int x0_12_48])), (qf4, .inl (cf4, 1740, .inl g4_48)), (qf3, .inl (cf3, 334, .inl f3)), (qf0_2, .inl (cf0_2, 3001, .inl f0_2)), (qf0_0, .inl (cf0_0, 3001, .inl f0_0)), (qf0_1, .inl (cf0_1, 3001, .inl f0_1)), (qf1, .inr (4, [.ref qf1_0, .ref qf1_1])), (qf1_1, .inl (cf1_1, 256, .inl g904_0)), (qf1_0, .inl (cf1_0, 16, .inl g1_0_48))] H := hP
          replace hD : va_D A [(h0, .inr (2, [.ref qf0, .ref qf1, .int v2, .ref qf3, .ref qf4, .ref qf5, .ref qf6, .ref qf7, .ref qf8, .ref qf9, .ref qf10, .ref qf11, .ref qf12, .ref qf13, .ref qf14, .ref qf15, .ref qf16, .ref qf17, .ref qf18, .ref qf19, .int v20])), (qf0, .inr (9, [.ref qf0_0, .ref qf0_1, .ref qf0_2, .int v0_3, .ref qf0_4, .ref qf0_5, .ref qf0_6, .ref qf0_7, .ref qf0_8, .int v0_9, .int v0_10, .int x0_11_48, .int x0_12_48])), (qf4, .inl (cf4, 1740, .inl g4_48)), (qf3, .inl (cf3, 334, .inl f3)), (qf0_2, .inl (cf0_2, 3001, .inl f0_2)), (qf0_0, .inl (cf0_0, 3001, .inl f0_0)), (qf0_1, .inl (cf0_1, 3001, .inl f0_1)), (qf1, .inr (4, [.ref qf1_0, .ref qf1_1])), (qf1_1, .inl (cf1_1, 256, .inl g904_0)), (qf1_0, .inl (cf1_0, 16, .inl g1_0_48))] := hD
          replace hK : va_K (dC, dI) vwCl [(cf4, .int), (cf3, .int), (cf0_2, .int), (cf0_0, .int), (cf0_1, .int), (cf1_1, .boolean), (cf1_0, .int)] s := hK
          have hr0 := Option.some.inj hsp
          clear hsp
          obtain ⟨hq0, hr1⟩ := Prod.mk.inj hr0
          clear hr0
          obtain ⟨hq1, hr2⟩ := Prod.mk.inj hr1
          clear hr1
          obtain ⟨hq2, hr3⟩ := Prod.mk.inj hr2
          clear hr2
          obtain ⟨hq3, hr4⟩ := Prod.mk.inj hr3
          clear hr3
          subst hq0
          subst hq1
          subst hq2
          subst hq3
          subst hr4
          have hP9 := hP.sub (ws' := [(h0, .inr (2, [.ref qf0, .ref qf1, .int v2, .ref qf3, .ref qf4, .ref qf5, .ref qf6, .ref qf7, .ref qf8, .ref qf9, .ref qf10, .ref qf11, .ref qf12, .ref qf13, .ref qf14, .ref qf15, .ref qf16, .ref qf17, .ref qf18, .ref qf19, .int v20])), (qf0, .inr (9, [.ref qf0_0, .ref qf0_1, .ref qf0_2, .int v0_3, .ref qf0_4, .ref qf0_5, .ref qf0_6, .ref qf0_7, .ref qf0_8, .int v0_9, .int v0_10, .int x0_11_48, .int x0_12_48])), (qf4, .inl (cf4, 1740, .inl g4_48)), (qf3, .inl (cf3, 334, .inl f3)), (qf0_2, .inl (cf0_2, 3001, .inl f0_2)), (qf0_0, .inl (cf0_0, 3001, .inl f0_0)), (qf0_1, .inl (cf0_1, 3001, .inl f0_1)), (qf1, .inr (4, [.ref qf1_0, .ref qf1_1])), (qf1_1, .inl (cf1_1, 256, .inl g904_0)), (qf1_0, .inl (cf1_0, 16, .inl g1_0_48))]) [0, 1, 2, 3, 4, 5, 6, 7, 8, 9] rfl
          have hD9 := hD.sub (ws' := [(h0, .inr (2, [.ref qf0, .ref qf1, .int v2, .ref qf3, .ref qf4, .ref qf5, .ref qf6, .ref qf7, .ref qf8, .ref qf9, .ref qf10, .ref qf11, .ref qf12, .ref qf13, .ref qf14, .ref qf15, .ref qf16, .ref qf17, .ref qf18, .ref qf19, .int v20])), (qf0, .inr (9, [.ref qf0_0, .ref qf0_1, .ref qf0_2, .int v0_3, .ref qf0_4, .ref qf0_5, .ref qf0_6, .ref qf0_7, .ref qf0_8, .int v0_9, .int v0_10, .int x0_11_48, .int x0_12_48])), (qf4, .inl (cf4, 1740, .inl g4_48)), (qf3, .inl (cf3, 334, .inl f3)), (qf0_2, .inl (cf0_2, 3001, .inl f0_2)), (qf0_0, .inl (cf0_0, 3001, .inl f0_0)), (qf0_1, .inl (cf0_1, 3001, .inl f0_1)), (qf1, .inr (4, [.ref qf1_0, .ref qf1_1])), (qf1_1, .inl (cf1_1, 256, .inl g904_0)), (qf1_0, .inl (cf1_0, 16, .inl g1_0_48))]) [0, 1, 2, 3, 4, 5, 6, 7, 8, 9] (by decide) rfl
          have hK9 := hK.sub (tys' := [(cf4, .int), (cf3, .int), (cf0_2, .int), (cf0_0, .int), (cf0_1, .int), (cf1_1, .boolean), (cf1_0, .int)]) [0, 1, 2, 3, 4, 5, 6] rfl
          exact W.vret hx hb hr (fun t ht hW => ⟨⟨(), rfl, trivial, by rw [ht]; exact hP9, va_K.moved hW.alike hK9, hD9⟩, hS.F ht⟩) hS.2.2 dX2_readClasses_95
        · rw [if_pos c_5] at hsp
          refine lv_aload_n hx hb dX2_readClasses_66 rfl (lv_at hl 1 rfl) ?_
          refine va_get (D := (dC, dI)) (ci := 2) (v := .ref qf1) (C := RX2) (T := TX2) (N := 21) hx hb hts uV_h7_X2 hown hK hP 0 rfl rfl 1 (by decide) (hts (.fieldLink RX2 14 "ClassMill$Heads" "kin" "LClassMill$Kin;") mw_h7_147) (fun _ h9 => h9) rfl dX2_readClasses_67 ?_
          refine lv_bipush (v := 8) hx hb dX2_readClasses_70 (by decide) ?_
          refine lv_iload_n hx hb dX2_readClasses_72 rfl (lv_at hl 0 rfl) ?_
          refine lv_iadd hx hb dX2_readClasses_73 ?_
          refine lv_aload_n hx hb dX2_readClasses_74 rfl (lv_at hl 1 rfl) ?_
          refine lv_iload_n hx hb dX2_readClasses_75 rfl (lv_at hl 0 rfl) ?_
          obtain ⟨u5_0, hu_5, hsp⟩ := ox_bind hsp
          try dsimp only at hsp
          have hPc := hP.sub (ws' := [(h0, .inr (2, [.ref qf0, .ref qf1, .int v2, .ref qf3, .ref qf4, .ref qf5, .ref qf6, .ref qf7, .ref qf8, .ref qf9, .ref qf10, .ref qf11, .ref qf12, .ref qf13, .ref qf14, .ref qf15, .ref qf16, .ref qf17, .ref qf18, .ref qf19, .int v20])), (qf3, .inl (cf3, 334, .inl f3)), (qf0, .inr (9, [.ref qf0_0, .ref qf0_1, .ref qf0_2, .int v0_3, .ref qf0_4, .ref qf0_5, .ref qf0_6, .ref qf0_7, .ref qf0_8, .int v0_9, .int v0_10, .int x0_11_48, .int x0_12_48])), (qf0_0, .inl (cf0_0, 3001, .inl f0_0)), (qf0_2, .inl (cf0_2, 3001, .inl f0_2)), (qf4, .inl (cf4, 1740, .inl g4_48))]) [0, 3, 1, 5, 4, 2] rfl
          have hDc := hD.sub (ws' := [(h0, .inr (2, [.ref qf0, .ref qf1, .int v2, .ref qf3, .ref qf4, .ref qf5, .ref qf6, .ref qf7, .ref qf8, .ref qf9, .ref qf10, .ref qf11, .ref qf12, .ref qf13, .ref qf14, .ref qf15, .ref qf16, .ref qf17, .ref qf18, .ref qf19, .int v20])), (qf3, .inl (cf3, 334, .inl f3)), (qf0, .inr (9, [.ref qf0_0, .ref qf0_1, .ref qf0_2, .int v0_3, .ref qf0_4, .ref qf0_5, .ref qf0_6, .ref qf0_7, .ref qf0_8, .int v0_9, .int v0_10, .int x0_11_48, .int x0_12_48])), (qf0_0, .inl (cf0_0, 3001, .inl f0_0)), (qf0_2, .inl (cf0_2, 3001, .inl f0_2)), (qf4, .inl (cf4, 1740, .inl g4_48))]) [0, 3, 1, 5, 4, 2] (by decide) rfl
          have hKc := hK.sub (tys' := [(cf3, .int), (cf0_0, .int), (cf0_2, .int), (cf4, .int)]) [1, 3, 2, 0] rfl
          have hFc := va_free (wc := [(h0, .inr (2, [.ref qf0, .ref qf1, .int v2, .ref qf3, .ref qf4, .ref qf5, .ref qf6, .ref qf7, .ref qf8, .ref qf9, .ref qf10, .ref qf11, .ref qf12, .ref qf13, .ref qf14, .ref qf15, .ref qf16, .ref qf17, .ref qf18, .ref qf19, .int v20])), (qf3, .inl (cf3, 334, .inl f3)), (qf0, .inr (9, [.ref qf0_0, .ref qf0_1, .ref qf0_2, .int v0_3, .ref qf0_4, .ref qf0_5, .ref qf0_6, .ref qf0_7, .ref qf0_8, .int v0_9, .int v0_10, .int x0_11_48, .int x0_12_48])), (qf0_0, .inl (cf0_0, 3001, .inl f0_0)), (qf0_2, .inl (cf0_2, 3001, .inl f0_2)), (qf4, .inl (cf4, 1740, .inl g4_48))]) hD hS hA [0, 3, 1, 5, 4, 2] rfl
          refine va_calli (va_runV (As := [.int l1_48]) (rest := [.int (8 + l1_48), .ref qf1]) ⟨hx, hb, hml, hown, hts⟩ (t2_classAbove l dC dI H.size h0 l1_48 qf0 qf1 v2 qf3 qf4 qf5 qf6 qf7 qf8 qf9 qf10 qf11 qf12 qf13 qf14 qf15 qf16 qf17 qf18 qf19 v20 cf3 f3 qf0_0 qf0_1 qf0_2 v0_3 qf0_4 qf0_5 qf0_6 qf0_7 qf0_8 v0_9 v0_10 x0_11_48 x0_12_48 cf0_0 f0_0 cf0_2 f0_2 cf4 g4_48 nf u5_0 hu_5) (cwV 1 hts gv_h7_113 rfl rfl rfl (by decide +kernel) ⟨Nat.le_of_ble_eq_true rfl, Nat.le_of_ble_eq_true rfl⟩) ⟨fun a U g mk q => by obtain ⟨q0, q1, qP, qK, qD⟩ := q; exact ⟨q0, q1, qP, va_K.moved (u := U) (U := U.calling g mk a) (Vm.Alike.refl U.vm) qK, qD⟩, va_recv hKc hPc (ci := 2) (q0 := 0) rfl rfl, fun U hU hW => ⟨rfl, by rw [hU], by rw [hU]; exact hPc, va_K.moved hW.alike hKc, hDc.weaken (fun _ _ _ _ => trivial)⟩⟩ rfl rfl hl.1 rfl (lv_room (Nat.le_of_ble_eq_true rfl)) dX2_readClasses_76 ⟨Nat.le_of_ble_eq_true rfl, Nat.le_of_ble_eq_true rfl⟩) hS (fun q _ h => hFc q h) hFc ?_
          clear hS
          intro r_6 u t H1 locs ht hvm hw hB hz1 hk1 hS
          obtain ⟨⟩ := u
          obtain ⟨hP1, hK1, hD1⟩ := hB
          rw [ht] at hP1
          have hK1 := va_K.moved hvm.symm hK1
          try dsimp only at hw
          have hPD := va_join (wr := [(qf0_1, .inl (cf0_1, 3001, .inl f0_1)), (qf1, .inr (4, [.ref qf1_0, .ref qf1_1])), (qf1_1, .inl (cf1_1, 256, .inl g1_1_48)), (qf1_0, .inl (cf1_0, 16, .inl g1_0_48))]) (w1 := [(h0, .inr (2, [.ref qf0, .ref qf1, .int v2, .ref qf3, .ref qf4, .ref qf5, .ref qf6, .ref qf7, .ref qf8, .ref qf9, .ref qf10, .ref qf11, .ref qf12, .ref qf13, .ref qf14, .ref qf15, .ref qf16, .ref qf17, .ref qf18, .ref qf19, .int v20])), (qf3, .inl (cf3, 334, .inl f3)), (qf0, .inr (9, [.ref qf0_0, .ref qf0_1, .ref qf0_2, .int v0_3, .ref qf0_4, .ref qf0_5, .ref qf0_6, .ref qf0_7, .ref qf0_8, .int v0_9, .int v0_10, .int x0_11_48, .int x0_12_48])), (qf0_0, .inl (cf0_0, 3001, .inl f0_0)), (qf0_2, .inl (cf0_2, 3001, .inl f0_2)), (qf4, .inl (cf4, 1740, .inl g4_48))]) hP hD [0, 3, 1, 5, 4, 2] [6, 7, 8, 9] rfl rfl (by decide) (by decide) hk1 hFc hP1 hD1
          clear hP hD
          obtain ⟨hP, hD⟩ := hPD
          replace hK := (hK.sub (tys' := [(cf0_1, .int), (cf1_1, .boolean), (cf1_0, .int)]) [4, 5, 6] rfl).app hK1
          clear hPc hDc hKc hFc hP1 hK1 hD1 hz1 hk1 ht hvm
          generalize H1 = H at hP hS ⊢
          replace hP : va_P (dC, dI) vwCl [(qf0_1, .inl (cf0_1, 3001, .inl f0_1)), (qf1, .inr (4, [.ref qf1_0, .ref qf1_1])), (qf1_1, .inl (cf1_1, 256, .inl g1_1_48)), (qf1_0, .inl (cf1_0, 16, .inl g1_0_48)), (h0, .inr (2, [.ref qf0, .ref qf1, .int v2, .ref qf3, .ref qf4, .ref qf5, .ref qf6, .ref qf7, .ref qf8, .ref qf9, .ref qf10, .ref qf11, .ref qf12, .ref qf13, .ref qf14, .ref qf15, .ref qf16, .ref qf17, .ref qf18, .ref qf19, .int v20])), (qf3, .inl (cf3, 334, .inl f3)), (qf0, .inr (9, [.ref qf0_0, .ref qf0_1, .ref qf0_2, .int v0_3, .ref qf0_4, .ref qf0_5, .ref qf0_6, .ref qf0_7, .ref qf0_8, .int v0_9, .int v0_10, .int x0_11_48, .int x0_12_48])), (qf0_0, .inl (cf0_0, 3001, .inl f0_0)), (qf0_2, .inl (cf0_2, 3001, .inl f0_2)), (qf4, .inl (cf4, 1740, .inl g4_48))] H := hP
          replace hD : va_D A [(qf0_1, .inl (cf0_1, 3001, .inl f0_1)), (qf1, .inr (4, [.ref qf1_0, .ref qf1_1])), (qf1_1, .inl (cf1_1, 256, .inl g1_1_48)), (qf1_0, .inl (cf1_0, 16, .inl g1_0_48)), (h0, .inr (2, [.ref qf0, .ref qf1, .int v2, .ref qf3, .ref qf4, .ref qf5, .ref qf6, .ref qf7, .ref qf8, .ref qf9, .ref qf10, .ref qf11, .ref qf12, .ref qf13, .ref qf14, .ref qf15, .ref qf16, .ref qf17, .ref qf18, .ref qf19, .int v20])), (qf3, .inl (cf3, 334, .inl f3)), (qf0, .inr (9, [.ref qf0_0, .ref qf0_1, .ref qf0_2, .int v0_3, .ref qf0_4, .ref qf0_5, .ref qf0_6, .ref qf0_7, .ref qf0_8, .int v0_9, .int v0_10, .int x0_11_48, .int x0_12_48])), (qf0_0, .inl (cf0_0, 3001, .inl f0_0)), (qf0_2, .inl (cf0_2, 3001, .inl f0_2)), (qf4, .inl (cf4, 1740, .inl g4_48))] := hD
          replace hK : va_K (dC, dI) vwCl [(cf0_1, .int), (cf1_1, .boolean), (cf1_0, .int), (cf3, .int), (cf0_0, .int), (cf0_2, .int), (cf4, .int)] s := hK
          obtain rfl := hw
          obtain ⟨g906_0, hu_6, hsp⟩ := ox_bind hsp
          try dsimp only at hsp
          have hPc := hP.sub (ws' := [(qf1, .inr (4, [.ref qf1_0, .ref qf1_1])), (qf1_0, .inl (cf1_0, 16, .inl g1_0_48))]) [1, 3] rfl
          have hDc := hD.sub (ws' := [(qf1, .inr (4, [.ref qf1_0, .ref qf1_1])), (qf1_0, .inl (cf1_0, 16, .inl g1_0_48))]) [1, 3] (by decide) rfl
          have hKc := hK.sub (tys' := [(cf1_0, .int)]) [2] rfl
          have hFc := va_free (wc := [(qf1, .inr (4, [.ref qf1_0, .ref qf1_1])), (qf1_0, .inl (cf1_0, 16, .inl g1_0_48))]) hD hS hA [1, 3] rfl
          refine va_callv (va_runV (As := [.int (8 + l1_48), .int u5_0]) (rest := []) ⟨hx, hb, hml, hown, hts⟩ (tk_setAbove l dC dI H.size qf1 ((8 + l1_48)) u5_0 qf1_0 qf1_1 cf1_0 g1_0_48 nf g906_0 hu_6) (cwV 2 hts gv_h7_114 rfl rfl rfl (by decide +kernel) ⟨Nat.le_of_ble_eq_true rfl, Nat.le_of_ble_eq_true rfl⟩) ⟨fun a U g mk q => by obtain ⟨q0, q1, qP, qK, qD⟩ := q; exact ⟨q0, q1, qP, va_K.moved (u := U) (U := U.calling g mk a) (Vm.Alike.refl U.vm) qK, qD⟩, va_recv hKc hPc (ci := 4) (q0 := 0) rfl rfl, fun U hU hW => ⟨rfl, by rw [hU], by rw [hU]; exact hPc, va_K.moved hW.alike hKc, hDc.weaken (fun _ _ _ _ => trivial)⟩⟩ rfl rfl hl.1 rfl (lv_room (Nat.le_of_ble_eq_true rfl)) dX2_readClasses_79 ⟨Nat.le_of_ble_eq_true rfl, Nat.le_of_ble_eq_true rfl⟩) hS (fun q _ h => hFc q h) hFc ?_
          clear hS
          intro u t H1 locs ht hvm hw hB hz1 hk1 hS
          obtain ⟨⟩ := u
          obtain ⟨hP1, hK1, hD1⟩ := hB
          rw [ht] at hP1
          have hK1 := va_K.moved hvm.symm hK1
          try dsimp only at hw
          have hPD := va_join (wr := [(qf0_1, .inl (cf0_1, 3001, .inl f0_1)), (qf1_1, .inl (cf1_1, 256, .inl g1_1_48)), (h0, .inr (2, [.ref qf0, .ref qf1, .int v2, .ref qf3, .ref qf4, .ref qf5, .ref qf6, .ref qf7, .ref qf8, .ref qf9, .ref qf10, .ref qf11, .ref qf12, .ref qf13, .ref qf14, .ref qf15, .ref qf16, .ref qf17, .ref qf18, .ref qf19, .int v20])), (qf3, .inl (cf3, 334, .inl f3)), (qf0, .inr (9, [.ref qf0_0, .ref qf0_1, .ref qf0_2, .int v0_3, .ref qf0_4, .ref qf0_5, .ref qf0_6, .ref qf0_7, .ref qf0_8, .int v0_9, .int v0_10, .int x0_11_48, .int x0_12_48])), (qf0_0, .inl (cf0_0, 3001, .inl f0_0)), (qf0_2, .inl (cf0_2, 3001, .inl f0_2)), (qf4, .inl (cf4, 1740, .inl g4_48))]) (w1 := [(qf1, .inr (4, [.ref qf1_0, .ref qf1_1])), (qf1_0, .inl (cf1_0, 16, .inl g906_0))]) hP hD [1, 3] [0, 2, 4, 5, 6, 7, 8, 9] rfl rfl (by decide) (by decide) hk1 hFc hP1 hD1
          clear hP hD
          obtain ⟨hP, hD⟩ := hPD
          replace hK := (hK.sub (tys' := [(cf0_1, .int), (cf1_1, .boolean), (cf3, .int), (cf0_0, .int), (cf0_2, .int), (cf4, .int)]) [0, 1, 3, 4, 5, 6] rfl).app hK1
          clear hPc hDc hKc hFc hP1 hK1 hD1 hz1 hk1 ht hvm
          generalize H1 = H at hP hS ⊢
          replace hP : va_P (dC, dI) vwCl [(qf0_1, .inl (cf0_1, 3001, .inl f0_1)), (qf1_1, .inl (cf1_1, 256, .inl g1_1_48)), (h0, .inr (2, [.ref qf0, .ref qf1, .int v2, .ref qf3, .ref qf4, .ref qf5, .ref qf6, .ref qf7, .ref qf8, .ref qf9, .ref qf10, .ref qf11, .ref qf12, .ref qf13, .ref qf14, .ref qf15, .ref qf16, .ref qf17, .ref qf18, .ref qf19, .int v20])), (qf3, .inl (cf3, 334, .inl f3)), (qf0, .inr (9, [.ref qf0_0, .ref qf0_1, .ref qf0_2, .int v0_3, .ref qf0_4, .ref qf0_5, .ref qf0_6, .ref qf0_7, .ref qf0_8, .int v0_9, .int v0_10, .int x0_11_48, .int x0_12_48])), (qf0_0, .inl (cf0_0, 3001, .inl f0_0)), (qf0_2, .inl (cf0_2, 3001, .inl f0_2)), (qf4, .inl (cf4, 1740, .inl g4_48)), (qf1, .inr (4, [.ref qf1_0, .ref qf1_1])), (qf1_0, .inl (cf1_0, 16, .inl g906_0))] H := hP
          replace hD : va_D A [(qf0_1, .inl (cf0_1, 3001, .inl f0_1)), (qf1_1, .inl (cf1_1, 256, .inl g1_1_48)), (h0, .inr (2, [.ref qf0, .ref qf1, .int v2, .ref qf3, .ref qf4, .ref qf5, .ref qf6, .ref qf7, .ref qf8, .ref qf9, .ref qf10, .ref qf11, .ref qf12, .ref qf13, .ref qf14, .ref qf15, .ref qf16, .ref qf17, .ref qf18, .ref qf19, .int v20])), (qf3, .inl (cf3, 334, .inl f3)), (qf0, .inr (9, [.ref qf0_0, .ref qf0_1, .ref qf0_2, .int v0_3, .ref qf0_4, .ref qf0_5, .ref qf0_6, .ref qf0_7, .ref qf0_8, .int v0_9, .int v0_10, .int x0_11_48, .int x0_12_48])), (qf0_0, .inl (cf0_0, 3001, .inl f0_0)), (qf0_2, .inl (cf0_2, 3001, .inl f0_2)), (qf4, .inl (cf4, 1740, .inl g4_48)), (qf1, .inr (4, [.ref qf1_0, .ref qf1_1])), (qf1_0, .inl (cf1_0, 16, .inl g906_0))] := hD
          replace hK : va_K (dC, dI) vwCl [(cf0_1, .int), (cf1_1, .boolean), (cf3, .int), (cf0_0, .int), (cf0_2, .int), (cf4, .int), (cf1_0, .int)] s := hK
          refine lv_iinc (v := (l1_48 + 1)) (lv' := [(1, .int (l1_48 + 1)), (0, .ref h0)]) hx hb dX2_readClasses_82 hl (k := 0) rfl rfl (by decide) rfl (fun ls hl => ?_)
          refine lv_goto (tgt := 48) hx hb dX2_readClasses_85 (by decide) ?_
          exact ih_48 H locs ls (l1_48 + 1) g906_0 g1_1_48 g4_48 x0_11_48 x0_12_48 (lv_sub hl [0, 1] rfl) hS (hD.sub (ws' := [(h0, .inr (2, [.ref qf0, .ref qf1, .int v2, .ref qf3, .ref qf4, .ref qf5, .ref qf6, .ref qf7, .ref qf8, .ref qf9, .ref qf10, .ref qf11, .ref qf12, .ref qf13, .ref qf14, .ref qf15, .ref qf16, .ref qf17, .ref qf18, .ref qf19, .int v20])), (qf0, .inr (9, [.ref qf0_0, .ref qf0_1, .ref qf0_2, .int v0_3, .ref qf0_4, .ref qf0_5, .ref qf0_6, .ref qf0_7, .ref qf0_8, .int v0_9, .int v0_10, .int x0_11_48, .int x0_12_48])), (qf4, .inl (cf4, 1740, .inl g4_48)), (qf3, .inl (cf3, 334, .inl f3)), (qf0_2, .inl (cf0_2, 3001, .inl f0_2)), (qf0_0, .inl (cf0_0, 3001, .inl f0_0)), (qf0_1, .inl (cf0_1, 3001, .inl f0_1)), (qf1, .inr (4, [.ref qf1_0, .ref qf1_1])), (qf1_1, .inl (cf1_1, 256, .inl g1_1_48)), (qf1_0, .inl (cf1_0, 16, .inl g906_0))]) [2, 4, 7, 3, 6, 5, 0, 8, 1, 9] (by decide) rfl) (hP.sub (ws' := [(h0, .inr (2, [.ref qf0, .ref qf1, .int v2, .ref qf3, .ref qf4, .ref qf5, .ref qf6, .ref qf7, .ref qf8, .ref qf9, .ref qf10, .ref qf11, .ref qf12, .ref qf13, .ref qf14, .ref qf15, .ref qf16, .ref qf17, .ref qf18, .ref qf19, .int v20])), (qf0, .inr (9, [.ref qf0_0, .ref qf0_1, .ref qf0_2, .int v0_3, .ref qf0_4, .ref qf0_5, .ref qf0_6, .ref qf0_7, .ref qf0_8, .int v0_9, .int v0_10, .int x0_11_48, .int x0_12_48])), (qf4, .inl (cf4, 1740, .inl g4_48)), (qf3, .inl (cf3, 334, .inl f3)), (qf0_2, .inl (cf0_2, 3001, .inl f0_2)), (qf0_0, .inl (cf0_0, 3001, .inl f0_0)), (qf0_1, .inl (cf0_1, 3001, .inl f0_1)), (qf1, .inr (4, [.ref qf1_0, .ref qf1_1])), (qf1_1, .inl (cf1_1, 256, .inl g1_1_48)), (qf1_0, .inl (cf1_0, 16, .inl g906_0))]) [2, 4, 7, 3, 6, 5, 0, 8, 1, 9] rfl) hsp
  intro hj_46
  refine lv_aload_n hx hb dX2_readClasses_0 rfl (lv_at hl 0 rfl) ?_
  refine va_get (D := (dC, dI)) (ci := 2) (v := .ref qf0) (C := RX2) (T := TX2) (N := 21) hx hb hts uV_h7_X2 hown hK hP 0 rfl rfl 0 (by decide) (hts (.fieldLink RX2 74 "ClassMill$Heads" "text" "LClassMill$Text;") mw_h7_99) (fun _ h9 => h9) rfl dX2_readClasses_1 ?_
  refine va_get (D := (dC, dI)) (ci := 9) (v := .int v0_11) (C := RX9) (T := TX9) (N := 13) hx hb hts uV_h7_X9 hown hK hP 1 rfl rfl 11 (by decide) (hts (.fieldLink RX2 91 "ClassMill$Text" "fault" "I") mw_h7_130) (fun _ h9 => h9) rfl dX2_readClasses_4 ?_
  refine lv_if_eq (tgt := 11) hx hb dX2_readClasses_7 (by decide) (fun c_1 => ?_) (fun c_1 => ?_)
  · rw [if_pos c_1] at hsp
    refine lv_aload_n hx hb dX2_readClasses_11 rfl (lv_at hl 0 rfl) ?_
    obtain ⟨g901_0, hu_1, hsp⟩ := ox_bind hsp
    try dsimp only at hsp
    have hPc := hP.sub (ws' := [(h0, .inr (2, [.ref qf0, .ref qf1, .int v2, .ref qf3, .ref qf4, .ref qf5, .ref qf6, .ref qf7, .ref qf8, .ref qf9, .ref qf10, .ref qf11, .ref qf12, .ref qf13, .ref qf14, .ref qf15, .ref qf16, .ref qf17, .ref qf18, .ref qf19, .int v20])), (qf0, .inr (9, [.ref qf0_0, .ref qf0_1, .ref qf0_2, .int v0_3, .ref qf0_4, .ref qf0_5, .ref qf0_6, .ref qf0_7, .ref qf0_8, .int v0_9, .int v0_10, .int v0_11, .int v0_12])), (qf4, .inl (cf4, 1740, .inl f4)), (qf3, .inl (cf3, 334, .inl f3)), (qf0_2, .inl (cf0_2, 3001, .inl f0_2))]) [0, 1, 2, 3, 4] rfl
    have hDc := hD.sub (ws' := [(h0, .inr (2, [.ref qf0, .ref qf1, .int v2, .ref qf3, .ref qf4, .ref qf5, .ref qf6, .ref qf7, .ref qf8, .ref qf9, .ref qf10, .ref qf11, .ref qf12, .ref qf13, .ref qf14, .ref qf15, .ref qf16, .ref qf17, .ref qf18, .ref qf19, .int v20])), (qf0, .inr (9, [.ref qf0_0, .ref qf0_1, .ref qf0_2, .int v0_3, .ref qf0_4, .ref qf0_5, .ref qf0_6, .ref qf0_7, .ref qf0_8, .int v0_9, .int v0_10, .int v0_11, .int v0_12])), (qf4, .inl (cf4, 1740, .inl f4)), (qf3, .inl (cf3, 334, .inl f3)), (qf0_2, .inl (cf0_2, 3001, .inl f0_2))]) [0, 1, 2, 3, 4] (by decide) rfl
    have hKc := hK.sub (tys' := [(cf4, .int), (cf3, .int), (cf0_2, .int)]) [0, 1, 2] rfl
    have hFc := va_free (wc := [(h0, .inr (2, [.ref qf0, .ref qf1, .int v2, .ref qf3, .ref qf4, .ref qf5, .ref qf6, .ref qf7, .ref qf8, .ref qf9, .ref qf10, .ref qf11, .ref qf12, .ref qf13, .ref qf14, .ref qf15, .ref qf16, .ref qf17, .ref qf18, .ref qf19, .int v20])), (qf0, .inr (9, [.ref qf0_0, .ref qf0_1, .ref qf0_2, .int v0_3, .ref qf0_4, .ref qf0_5, .ref qf0_6, .ref qf0_7, .ref qf0_8, .int v0_9, .int v0_10, .int v0_11, .int v0_12])), (qf4, .inl (cf4, 1740, .inl f4)), (qf3, .inl (cf3, 334, .inl f3)), (qf0_2, .inl (cf0_2, 3001, .inl f0_2))]) hD hS hA [0, 1, 2, 3, 4] rfl
    refine va_callv (va_runV (As := []) (rest := []) ⟨hx, hb, hml, hown, hts⟩ (v2_nameClasses l dC dI H.size h0 qf0 qf1 v2 qf3 qf4 qf5 qf6 qf7 qf8 qf9 qf10 qf11 qf12 qf13 qf14 qf15 qf16 qf17 qf18 qf19 v20 qf0_0 qf0_1 qf0_2 v0_3 qf0_4 qf0_5 qf0_6 qf0_7 qf0_8 v0_9 v0_10 v0_11 v0_12 cf4 f4 cf3 f3 cf0_2 f0_2 nf g901_0 hu_1) (cwV 0 hts gv_h7_110 rfl rfl rfl (by decide +kernel) ⟨Nat.le_of_ble_eq_true rfl, Nat.le_of_ble_eq_true rfl⟩) ⟨fun a U g mk q => by obtain ⟨q0, q1, qP, qK, qD⟩ := q; exact ⟨q0, q1, qP, va_K.moved (u := U) (U := U.calling g mk a) (Vm.Alike.refl U.vm) qK, qD⟩, va_recv hKc hPc (ci := 2) (q0 := 0) rfl rfl, fun U hU hW => ⟨rfl, by rw [hU], by rw [hU]; exact hPc, va_K.moved hW.alike hKc, hDc.weaken (fun _ _ _ _ => trivial)⟩⟩ rfl rfl hl.1 rfl (lv_room (Nat.le_of_ble_eq_true rfl)) dX2_readClasses_12 ⟨Nat.le_of_ble_eq_true rfl, Nat.le_of_ble_eq_true rfl⟩) hS (fun q _ h => hFc q h) hFc ?_
    clear hS
    intro u t H1 locs ht hvm hw hB hz1 hk1 hS
    obtain ⟨⟩ := u
    obtain ⟨hP1, hK1, hD1⟩ := hB
    rw [ht] at hP1
    have hK1 := va_K.moved hvm.symm hK1
    try dsimp only at hw
    have hPD := va_join (wr := [(qf0_0, .inl (cf0_0, 3001, .inl f0_0)), (qf0_1, .inl (cf0_1, 3001, .inl f0_1)), (qf1, .inr (4, [.ref qf1_0, .ref qf1_1])), (qf1_1, .inl (cf1_1, 256, .inl f1_1)), (qf1_0, .inl (cf1_0, 16, .inl f1_0))]) (w1 := [(h0, .inr (2, [.ref qf0, .ref qf1, .int v2, .ref qf3, .ref qf4, .ref qf5, .ref qf6, .ref qf7, .ref qf8, .ref qf9, .ref qf10, .ref qf11, .ref qf12, .ref qf13, .ref qf14, .ref qf15, .ref qf16, .ref qf17, .ref qf18, .ref qf19, .int v20])), (qf0, .inr (9, [.ref qf0_0, .ref qf0_1, .ref qf0_2, .int v0_3, .ref qf0_4, .ref qf0_5, .ref qf0_6, .ref qf0_7, .ref qf0_8, .int v0_9, .int v0_10, .int v0_11, .int v0_12])), (qf4, .inl (cf4, 1740, .inl g901_0)), (qf3, .inl (cf3, 334, .inl f3)), (qf0_2, .inl (cf0_2, 3001, .inl f0_2))]) hP hD [0, 1, 2, 3, 4] [5, 6, 7, 8, 9] rfl rfl (by decide) (by decide) hk1 hFc hP1 hD1
    clear hP hD
    obtain ⟨hP, hD⟩ := hPD
    replace hK := (hK.sub (tys' := [(cf0_0, .int), (cf0_1, .int), (cf1_1, .boolean), (cf1_0, .int)]) [3, 4, 5, 6] rfl).app hK1
    clear hPc hDc hKc hFc hP1 hK1 hD1 hz1 hk1 ht hvm
    generalize H1 = H at hP hS ⊢
    replace hP : va_P (dC, dI) vwCl [(qf0_0, .inl (cf0_0, 3001, .inl f0_0)), (qf0_1, .inl (cf0_1, 3001, .inl f0_1)), (qf1, .inr (4, [.ref qf1_0, .ref qf1_1])), (qf1_1, .inl (cf1_1, 256, .inl f1_1)), (qf1_0, .inl (cf1_0, 16, .inl f1_0)), (h0, .inr (2, [.ref qf0, .ref qf1, .int v2, .ref qf3, .ref qf4, .ref qf5, .ref qf6, .ref qf7, .ref qf8, .ref qf9, .ref qf10, .ref qf11, .ref qf12, .ref qf13, .ref qf14, .ref qf15, .ref qf16, .ref qf17, .ref qf18, .ref qf19, .int v20])), (qf0, .inr (9, [.ref qf0_0, .ref qf0_1, .ref qf0_2, .int v0_3, .ref qf0_4, .ref qf0_5, .ref qf0_6, .ref qf0_7, .ref qf0_8, .int v0_9, .int v0_10, .int v0_11, .int v0_12])), (qf4, .inl (cf4, 1740, .inl g901_0)), (qf3, .inl (cf3, 334, .inl f3)), (qf0_2, .inl (cf0_2, 3001, .inl f0_2))] H := hP
    replace hD : va_D A [(qf0_0, .inl (cf0_0, 3001, .inl f0_0)), (qf0_1, .inl (cf0_1, 3001, .inl f0_1)), (qf1, .inr (4, [.ref qf1_0, .ref qf1_1])), (qf1_1, .inl (cf1_1, 256, .inl f1_1)), (qf1_0, .inl (cf1_0, 16, .inl f1_0)), (h0, .inr (2, [.ref qf0, .ref qf1, .int v2, .ref qf3, .ref qf4, .ref qf5, .ref qf6, .ref qf7, .ref qf8, .ref qf9, .ref qf10, .ref qf11, .ref qf12, .ref qf13, .ref qf14, .ref qf15, .ref qf16, .ref qf17, .ref qf18, .ref qf19, .int v20])), (qf0, .inr (9, [.ref qf0_0, .ref qf0_1, .ref qf0_2, .int v0_3, .ref qf0_4, .ref qf0_5, .ref qf0_6, .ref qf0_7, .ref qf0_8, .int v0_9, .int v0_10, .int v0_11, .int v0_12])), (qf4, .inl (cf4, 1740, .inl g901_0)), (qf3, .inl (cf3, 334, .inl f3)), (qf0_2, .inl (cf0_2, 3001, .inl f0_2))] := hD
    replace hK : va_K (dC, dI) vwCl [(cf0_0, .int), (cf0_1, .int), (cf1_1, .boolean), (cf1_0, .int), (cf4, .int), (cf3, .int), (cf0_2, .int)] s := hK
    refine lv_iconst (v := 0) hx hb dX2_readClasses_15 (by decide) ?_
    refine lv_istore_n (lv' := [(1, .int 0), (0, .ref h0)]) hx hb dX2_readClasses_16 rfl hl (by decide) rfl (fun ls hl => ?_)
    replace hl : lv_has ls 2 [(1, .int 0), (0, .ref h0)] := lv_sub hl [0, 1] rfl
    replace hP := hP.sub (ws' := [(h0, .inr (2, [.ref qf0, .ref qf1, .int v2, .ref qf3, .ref qf4, .ref qf5, .ref qf6, .ref qf7, .ref qf8, .ref qf9, .ref qf10, .ref qf11, .ref qf12, .ref qf13, .ref qf14, .ref qf15, .ref qf16, .ref qf17, .ref qf18, .ref qf19, .int v20])), (qf0, .inr (9, [.ref qf0_0, .ref qf0_1, .ref qf0_2, .int v0_3, .ref qf0_4, .ref qf0_5, .ref qf0_6, .ref qf0_7, .ref qf0_8, .int v0_9, .int v0_10, .int v0_11, .int v0_12])), (qf4, .inl (cf4, 1740, .inl g901_0)), (qf3, .inl (cf3, 334, .inl f3)), (qf0_2, .inl (cf0_2, 3001, .inl f0_2)), (qf0_0, .inl (cf0_0, 3001, .inl f0_0)), (qf0_1, .inl (cf0_1, 3001, .inl f0_1)), (qf1, .inr (4, [.ref qf1_0, .ref qf1_1])), (qf1_1, .inl (cf1_1, 256, .inl f1_1)), (qf1_0, .inl (cf1_0, 16, .inl f1_0))]) [5, 6, 7, 8, 9, 0, 1, 2, 3, 4] rfl
    replace hD := hD.sub (ws' := [(h0, .inr (2, [.ref qf0, .ref qf1, .int v2, .ref qf3, .ref qf4, .ref qf5, .ref qf6, .ref qf7, .ref qf8, .ref qf9, .ref qf10, .ref qf11, .ref qf12, .ref qf13, .ref qf14, .ref qf15, .ref qf16, .ref qf17, .ref qf18, .ref qf19, .int v20])), (qf0, .inr (9, [.ref qf0_0, .ref qf0_1, .ref qf0_2, .int v0_3, .ref qf0_4, .ref qf0_5, .ref qf0_6, .ref qf0_7, .ref qf0_8, .int v0_9, .int v0_10, .int v0_11, .int v0_12])), (qf4, .inl (cf4, 1740, .inl g901_0)), (qf3, .inl (cf3, 334, .inl f3)), (qf0_2, .inl (cf0_2, 3001, .inl f0_2)), (qf0_0, .inl (cf0_0, 3001, .inl f0_0)), (qf0_1, .inl (cf0_1, 3001, .inl f0_1)), (qf1, .inr (4, [.ref qf1_0, .ref qf1_1])), (qf1_1, .inl (cf1_1, 256, .inl f1_1)), (qf1_0, .inl (cf1_0, 16, .inl f1_0))]) [5, 6, 7, 8, 9, 0, 1, 2, 3, 4] (by decide) rfl
    replace hK := hK.sub (tys' := [(cf4, .int), (cf3, .int), (cf0_2, .int), (cf0_0, .int), (cf0_1, .int), (cf1_1, .boolean), (cf1_0, .int)]) [4, 5, 6, 0, 1, 2, 3] rfl
    obtain ⟨n_17, hn_17⟩ : ∃ z : Nat, z = nf := ⟨_, rfl⟩
    obtain ⟨l1_17, el1_17⟩ : ∃ z : Int32, z = 0 := ⟨_, rfl⟩
    obtain ⟨g1_0_17, eg1_0_17⟩ : ∃ z : Nat → Int32, z = f1_0 := ⟨_, rfl⟩
    obtain ⟨g1_1_17, eg1_1_17⟩ : ∃ z : Nat → Int32, z = f1_1 := ⟨_, rfl⟩
    obtain ⟨g4_17, eg4_17⟩ : ∃ z : Nat → Int32, z = g901_0 := ⟨_, rfl⟩
    obtain ⟨x0_11_17, ex0_11_17⟩ : ∃ z : Int32, z = v0_11 := ⟨_, rfl⟩
    obtain ⟨x0_12_17, ex0_12_17⟩ : ∃ z : Int32, z = v0_12 := ⟨_, rfl⟩
    replace hsp : lp_v2_readClasses_17 nf n_17 v2 v0_3 v0_9 v0_11 v0_12 f4 f3 f0_2 f0_0 f0_1 f1_1 f1_0 l1_17 g1_0_17 g1_1_17 g4_17 x0_11_17 x0_12_17 = some (o1_0, o1_1, o4, w0_11, w0_12) := by rw [hn_17, el1_17, eg1_0_17, eg1_1_17, eg4_17, ex0_11_17, ex0_12_17]; exact hsp
    replace hl : lv_has ls 2 [(1, .int l1_17), (0, .ref h0)] := by rw [el1_17]; exact hl
    replace hP : va_P (dC, dI) vwCl [(h0, .inr (2, [.ref qf0, .ref qf1, .int v2, .ref qf3, .ref qf4, .ref qf5, .ref qf6, .ref qf7, .ref qf8, .ref qf9, .ref qf10, .ref qf11, .ref qf12, .ref qf13, .ref qf14, .ref qf15, .ref qf16, .ref qf17, .ref qf18, .ref qf19, .int v20])), (qf0, .inr (9, [.ref qf0_0, .ref qf0_1, .ref qf0_2, .int v0_3, .ref qf0_4, .ref qf0_5, .ref qf0_6, .ref qf0_7, .ref qf0_8, .int v0_9, .int v0_10, .int x0_11_17, .int x0_12_17])), (qf4, .inl (cf4, 1740, .inl g4_17)), (qf3, .inl (cf3, 334, .inl f3)), (qf0_2, .inl (cf0_2, 3001, .inl f0_2)), (qf0_0, .inl (cf0_0, 3001, .inl f0_0)), (qf0_1, .inl (cf0_1, 3001, .inl f0_1)), (qf1, .inr (4, [.ref qf1_0, .ref qf1_1])), (qf1_1, .inl (cf1_1, 256, .inl g1_1_17)), (qf1_0, .inl (cf1_0, 16, .inl g1_0_17))] H := by rw [eg1_0_17, eg1_1_17, eg4_17, ex0_11_17, ex0_12_17]; exact hP
    replace hD : va_D A [(h0, .inr (2, [.ref qf0, .ref qf1, .int v2, .ref qf3, .ref qf4, .ref qf5, .ref qf6, .ref qf7, .ref qf8, .ref qf9, .ref qf10, .ref qf11, .ref qf12, .ref qf13, .ref qf14, .ref qf15, .ref qf16, .ref qf17, .ref qf18, .ref qf19, .int v20])), (qf0, .inr (9, [.ref qf0_0, .ref qf0_1, .ref qf0_2, .int v0_3, .ref qf0_4, .ref qf0_5, .ref qf0_6, .ref qf0_7, .ref qf0_8, .int v0_9, .int v0_10, .int x0_11_17, .int x0_12_17])), (qf4, .inl (cf4, 1740, .inl g4_17)), (qf3, .inl (cf3, 334, .inl f3)), (qf0_2, .inl (cf0_2, 3001, .inl f0_2)), (qf0_0, .inl (cf0_0, 3001, .inl f0_0)), (qf0_1, .inl (cf0_1, 3001, .inl f0_1)), (qf1, .inr (4, [.ref qf1_0, .ref qf1_1])), (qf1_1, .inl (cf1_1, 256, .inl g1_1_17)), (qf1_0, .inl (cf1_0, 16, .inl g1_0_17))] := by rw [eg1_0_17, eg1_1_17, eg4_17, ex0_11_17, ex0_12_17]; exact hD
    clear hn_17 el1_17 eg1_0_17 eg1_1_17 eg4_17 ex0_11_17 ex0_12_17
    try clear hlo
    try clear hH
    revert hsp
    revert hP
    revert hD
    revert hS
    revert hl
    revert x0_12_17
    revert x0_11_17
    revert g4_17
    revert g1_1_17
    revert g1_0_17
    revert l1_17
    revert ls
    revert locs
    revert H
    induction n_17 with
    | zero => intro H locs ls l1_17 g1_0_17 g1_1_17 g4_17 x0_11_17 x0_12_17  hl hS hD hP hsp; unfold lp_v2_readClasses_17 at hsp; cases hsp
    | succ n_17 ih_17 =>
      intro H locs ls l1_17 g1_0_17 g1_1_17 g4_17 x0_11_17 x0_12_17  hl hS hD hP hsp
      unfold lp_v2_readClasses_17 at hsp
      try dsimp only at hsp
      refine lv_iload_n hx hb dX2_readClasses_17 rfl (lv_at hl 0 rfl) ?_
      refine lv_aload_n hx hb dX2_readClasses_18 rfl (lv_at hl 1 rfl) ?_
      refine va_get (D := (dC, dI)) (ci := 2) (v := .int v2) (C := RX2) (T := TX2) (N := 21) hx hb hts uV_h7_X2 hown hK hP 0 rfl rfl 2 (by decide) (hts (.fieldLink RX2 78 "ClassMill$Heads" "classes" "I") mw_h7_98) (fun _ h9 => h9) rfl dX2_readClasses_19 ?_
      refine lv_icmp_ge (tgt := 46) hx hb dX2_readClasses_22 (by decide) (fun c_2 => ?_) (fun c_2 => ?_)
      · rw [if_pos c_2] at hsp
        exact hj_46 (H, locs, ls, g1_0_17, g1_1_17, g4_17, x0_11_17, x0_12_17) ⟨lv_sub hl [1] rfl, hS, hD.sub (ws' := [(h0, .inr (2, [.ref qf0, .ref qf1, .int v2, .ref qf3, .ref qf4, .ref qf5, .ref qf6, .ref qf7, .ref qf8, .ref qf9, .ref qf10, .ref qf11, .ref qf12, .ref qf13, .ref qf14, .ref qf15, .ref qf16, .ref qf17, .ref qf18, .ref qf19, .int v20])), (qf0, .inr (9, [.ref qf0_0, .ref qf0_1, .ref qf0_2, .int v0_3, .ref qf0_4, .ref qf0_5, .ref qf0_6, .ref qf0_7, .ref qf0_8, .int v0_9, .int v0_10, .int x0_11_17, .int x0_12_17])), (qf4, .inl (cf4, 1740, .inl g4_17)), (qf3, .inl (cf3, 334, .inl f3)), (qf0_2, .inl (cf0_2, 3001, .inl f0_2)), (qf0_0, .inl (cf0_0, 3001, .inl f0_0)), (qf0_1, .inl (cf0_1, 3001, .inl f0_1)), (qf1, .inr (4, [.ref qf1_0, .ref qf1_1])), (qf1_1, .inl (cf1_1, 256, .inl g1_1_17)), (qf1_0, .inl (cf1_0, 16, .inl g1_0_17))]) [0, 1, 2, 3, 4, 5, 6, 7, 8, 9] (by decide) rfl, hP.sub (ws' := [(h0, .inr (2, [.ref qf0, .ref qf1, .int v2, .ref qf3, .ref qf4, .ref qf5, .ref qf6, .ref qf7, .ref qf8, .ref qf9, .ref qf10, .ref qf11, .ref qf12, .ref qf13, .ref qf14, .ref qf15, .ref qf16, .ref qf17, .ref qf18, .ref qf19, .int v20])), (qf0, .inr (9, [.ref qf0_0, .ref qf0_1, .ref qf0_2, .int v0_3, .ref qf0_4, .ref qf0_5, .ref qf0_6, .ref qf0_7, .ref qf0_8, .int v0_9, .int v0_10, .int x0_11_17, .int x0_12_17])), (qf4, .inl (cf4, 1740, .inl g4_17)), (qf3, .inl (cf3, 334, .inl f3)), (qf0_2, .inl (cf0_2, 3001, .inl f0_2)), (qf0_0, .inl (cf0_0, 3001, .inl f0_0)), (qf0_1, .inl (cf0_1, 3001, .inl f0_1)), (qf1, .inr (4, [.ref qf1_0, .ref qf1_1])), (qf1_1, .inl (cf1_1, 256, .inl g1_1_17)), (qf1_0, .inl (cf1_0, 16, .inl g1_0_17))]) [0, 1, 2, 3, 4, 5, 6, 7, 8, 9] rfl, hsp⟩
      · rw [if_neg c_2] at hsp
        refine lv_aload_n hx hb dX2_readClasses_25 rfl (lv_at hl 1 rfl) ?_
        refine va_get (D := (dC, dI)) (ci := 2) (v := .ref qf0) (C := RX2) (T := TX2) (N := 21) hx hb hts uV_h7_X2 hown hK hP 0 rfl rfl 0 (by decide) (hts (.fieldLink RX2 74 "ClassMill$Heads" "text" "LClassMill$Text;") mw_h7_99) (fun _ h9 => h9) rfl dX2_readClasses_26 ?_
        refine va_get (D := (dC, dI)) (ci := 9) (v := .int x0_11_17) (C := RX9) (T := TX9) (N := 13) hx hb hts uV_h7_X9 hown hK hP 1 rfl rfl 11 (by decide) (hts (.fieldLink RX2 91 "ClassMill$Text" "fault" "I") mw_h7_130) (fun _ h9 => h9) rfl dX2_readClasses_29 ?_
        refine lv_if_ne (tgt := 46) hx hb dX2_readClasses_32 (by decide) (fun c_3 => ?_) (fun c_3 => ?_)
        · rw [if_neg c_3] at hsp
          exact hj_46 (H, locs, ls, g1_0_17, g1_1_17, g4_17, x0_11_17, x0_12_17) ⟨lv_sub hl [1] rfl, hS, hD.sub (ws' := [(h0, .inr (2, [.ref qf0, .ref qf1, .int v2, .ref qf3, .ref qf4, .ref qf5, .ref qf6, .ref qf7, .ref qf8, .ref qf9, .ref qf10, .ref qf11, .ref qf12, .ref qf13, .ref qf14, .ref qf15, .ref qf16, .ref qf17, .ref qf18, .ref qf19, .int v20])), (qf0, .inr (9, [.ref qf0_0, .ref qf0_1, .ref qf0_2, .int v0_3, .ref qf0_4, .ref qf0_5, .ref qf0_6, .ref qf0_7, .ref qf0_8, .int v0_9, .int v0_10, .int x0_11_17, .int x0_12_17])), (qf4, .inl (cf4, 1740, .inl g4_17)), (qf3, .inl (cf3, 334, .inl f3)), (qf0_2, .inl (cf0_2, 3001, .inl f0_2)), (qf0_0, .inl (cf0_0, 3001, .inl f0_0)), (qf0_1, .inl (cf0_1, 3001, .inl f0_1)), (qf1, .inr (4, [.ref qf1_0, .ref qf1_1])), (qf1_1, .inl (cf1_1, 256, .inl g1_1_17)), (qf1_0, .inl (cf1_0, 16, .inl g1_0_17))]) [0, 1, 2, 3, 4, 5, 6, 7, 8, 9] (by decide) rfl, hP.sub (ws' := [(h0, .inr (2, [.ref qf0, .ref qf1, .int v2, .ref qf3, .ref qf4, .ref qf5, .ref qf6, .ref qf7, .ref qf8, .ref qf9, .ref qf10, .ref qf11, .ref qf12, .ref qf13, .ref qf14, .ref qf15, .ref qf16, .ref qf17, .ref qf18, .ref qf19, .int v20])), (qf0, .inr (9, [.ref qf0_0, .ref qf0_1, .ref qf0_2, .int v0_3, .ref qf0_4, .ref qf0_5, .ref qf0_6, .ref qf0_7, .ref qf0_8, .int v0_9, .int v0_10, .int x0_11_17, .int x0_12_17])), (qf4, .inl (cf4, 1740, .inl g4_17)), (qf3, .inl (cf3, 334, .inl f3)), (qf0_2, .inl (cf0_2, 3001, .inl f0_2)), (qf0_0, .inl (cf0_0, 3001, .inl f0_0)), (qf0_1, .inl (cf0_1, 3001, .inl f0_1)), (qf1, .inr (4, [.ref qf1_0, .ref qf1_1])), (qf1_1, .inl (cf1_1, 256, .inl g1_1_17)), (qf1_0, .inl (cf1_0, 16, .inl g1_0_17))]) [0, 1, 2, 3, 4, 5, 6, 7, 8, 9] rfl, hsp⟩
        · rw [if_pos c_3] at hsp
          refine lv_aload_n hx hb dX2_readClasses_35 rfl (lv_at hl 1 rfl) ?_
          refine lv_iload_n hx hb dX2_readClasses_36 rfl (lv_at hl 0 rfl) ?_
          obtain ⟨⟨u2_0, u2_1⟩, hu_2, hsp⟩ := ox_bind hsp
          try dsimp only at hsp
          have hPc := hP.sub (ws' := [(h0, .inr (2, [.ref qf0, .ref qf1, .int v2, .ref qf3, .ref qf4, .ref qf5, .ref qf6, .ref qf7, .ref qf8, .ref qf9, .ref qf10, .ref qf11, .ref qf12, .ref qf13, .ref qf14, .ref qf15, .ref qf16, .ref qf17, .ref qf18, .ref qf19, .int v20])), (qf3, .inl (cf3, 334, .inl f3)), (qf0, .inr (9, [.ref qf0_0, .ref qf0_1, .ref qf0_2, .int v0_3, .ref qf0_4, .ref qf0_5, .ref qf0_6, .ref qf0_7, .ref qf0_8, .int v0_9, .int v0_10, .int x0_11_17, .int x0_12_17])), (qf0_2, .inl (cf0_2, 3001, .inl f0_2)), (qf0_0, .inl (cf0_0, 3001, .inl f0_0)), (qf4, .inl (cf4, 1740, .inl g4_17)), (qf0_1, .inl (cf0_1, 3001, .inl f0_1))]) [0, 3, 1, 4, 5, 2, 6] rfl
          have hDc := hD.sub (ws' := [(h0, .inr (2, [.ref qf0, .ref qf1, .int v2, .ref qf3, .ref qf4, .ref qf5, .ref qf6, .ref qf7, .ref qf8, .ref qf9, .ref qf10, .ref qf11, .ref qf12, .ref qf13, .ref qf14, .ref qf15, .ref qf16, .ref qf17, .ref qf18, .ref qf19, .int v20])), (qf3, .inl (cf3, 334, .inl f3)), (qf0, .inr (9, [.ref qf0_0, .ref qf0_1, .ref qf0_2, .int v0_3, .ref qf0_4, .ref qf0_5, .ref qf0_6, .ref qf0_7, .ref qf0_8, .int v0_9, .int v0_10, .int x0_11_17, .int x0_12_17])), (qf0_2, .inl (cf0_2, 3001, .inl f0_2)), (qf0_0, .inl (cf0_0, 3001, .inl f0_0)), (qf4, .inl (cf4, 1740, .inl g4_17)), (qf0_1, .inl (cf0_1, 3001, .inl f0_1))]) [0, 3, 1, 4, 5, 2, 6] (by decide) rfl
          have hKc := hK.sub (tys' := [(cf3, .int), (cf0_2, .int), (cf0_0, .int), (cf4, .int), (cf0_1, .int)]) [1, 2, 3, 0, 4] rfl
          have hFc := va_free (wc := [(h0, .inr (2, [.ref qf0, .ref qf1, .int v2, .ref qf3, .ref qf4, .ref qf5, .ref qf6, .ref qf7, .ref qf8, .ref qf9, .ref qf10, .ref qf11, .ref qf12, .ref qf13, .ref qf14, .ref qf15, .ref qf16, .ref qf17, .ref qf18, .ref qf19, .int v20])), (qf3, .inl (cf3, 334, .inl f3)), (qf0, .inr (9, [.ref qf0_0, .ref qf0_1, .ref qf0_2, .int v0_3, .ref qf0_4, .ref qf0_5, .ref qf0_6, .ref qf0_7, .ref qf0_8, .int v0_9, .int v0_10, .int x0_11_17, .int x0_12_17])), (qf0_2, .inl (cf0_2, 3001, .inl f0_2)), (qf0_0, .inl (cf0_0, 3001, .inl f0_0)), (qf4, .inl (cf4, 1740, .inl g4_17)), (qf0_1, .inl (cf0_1, 3001, .inl f0_1))]) hD hS hA [0, 3, 1, 4, 5, 2, 6] rfl
          refine va_callv (va_runV (As := [.int l1_17]) (rest := []) ⟨hx, hb, hml, hown, hts⟩ (t2_checkClassHead l dC dI H.size h0 l1_17 qf0 qf1 v2 qf3 qf4 qf5 qf6 qf7 qf8 qf9 qf10 qf11 qf12 qf13 qf14 qf15 qf16 qf17 qf18 qf19 v20 cf3 f3 qf0_0 qf0_1 qf0_2 v0_3 qf0_4 qf0_5 qf0_6 qf0_7 qf0_8 v0_9 v0_10 x0_11_17 x0_12_17 cf0_2 f0_2 cf0_0 f0_0 cf4 g4_17 cf0_1 f0_1 nf u2_0 u2_1 hu_2) (cwV 1 hts gv_h7_111 rfl rfl rfl (by decide +kernel) ⟨Nat.le_of_ble_eq_true rfl, Nat.le_of_ble_eq_true rfl⟩) ⟨fun a U g mk q => by obtain ⟨q0, q1, qP, qK, qD⟩ := q; exact ⟨q0, q1, qP, va_K.moved (u := U) (U := U.calling g mk a) (Vm.Alike.refl U.vm) qK, qD⟩, va_recv hKc hPc (ci := 2) (q0 := 0) rfl rfl, fun U hU hW => ⟨rfl, by rw [hU], by rw [hU]; exact hPc, va_K.moved hW.alike hKc, hDc.weaken (fun _ _ _ _ => trivial)⟩⟩ rfl rfl hl.1 rfl (lv_room (Nat.le_of_ble_eq_true rfl)) dX2_readClasses_37 ⟨Nat.le_of_ble_eq_true rfl, Nat.le_of_ble_eq_true rfl⟩) hS (fun q _ h => hFc q h) hFc ?_
          clear hS
          intro u t H1 locs ht hvm hw hB hz1 hk1 hS
          obtain ⟨⟩ := u
          obtain ⟨hP1, hK1, hD1⟩ := hB
          rw [ht] at hP1
          have hK1 := va_K.moved hvm.symm hK1
          try dsimp only at hw
          have hPD := va_join (wr := [(qf1, .inr (4, [.ref qf1_0, .ref qf1_1])), (qf1_1, .inl (cf1_1, 256, .inl g1_1_17)), (qf1_0, .inl (cf1_0, 16, .inl g1_0_17))]) (w1 := [(h0, .inr (2, [.ref qf0, .ref qf1, .int v2, .ref qf3, .ref qf4, .ref qf5, .ref qf6, .ref qf7, .ref qf8, .ref qf9, .ref qf10, .ref qf11, .ref qf12, .ref qf13, .ref qf14, .ref qf15, .ref qf16, .ref qf17, .ref qf18, .ref qf19, .int v20])), (qf3, .inl (cf3, 334, .inl f3)), (qf0, .inr (9, [.ref qf0_0, .ref qf0_1, .ref qf0_2, .int v0_3, .ref qf0_4, .ref qf0_5, .ref qf0_6, .ref qf0_7, .ref qf0_8, .int v0_9, .int v0_10, .int u2_0, .int u2_1])), (qf0_2, .inl (cf0_2, 3001, .inl f0_2)), (qf0_0, .inl (cf0_0, 3001, .inl f0_0)), (qf4, .inl (cf4, 1740, .inl g4_17)), (qf0_1, .inl (cf0_1, 3001, .inl f0_1))]) hP hD [0, 3, 1, 4, 5, 2, 6] [7, 8, 9] rfl rfl (by decide) (by decide) hk1 hFc hP1 hD1
          clear hP hD
          obtain ⟨hP, hD⟩ := hPD
          replace hK := (hK.sub (tys' := [(cf1_1, .boolean), (cf1_0, .int)]) [5, 6] rfl).app hK1
          clear hPc hDc hKc hFc hP1 hK1 hD1 hz1 hk1 ht hvm
          generalize H1 = H at hP hS ⊢
          replace hP : va_P (dC, dI) vwCl [(qf1, .inr (4, [.ref qf1_0, .ref qf1_1])), (qf1_1, .inl (cf1_1, 256, .inl g1_1_17)), (qf1_0, .inl (cf1_0, 16, .inl g1_0_17)), (h0, .inr (2, [.ref qf0, .ref qf1, .int v2, .ref qf3, .ref qf4, .ref qf5, .ref qf6, .ref qf7, .ref qf8, .ref qf9, .ref qf10, .ref qf11, .ref qf12, .ref qf13, .ref qf14, .ref qf15, .ref qf16, .ref qf17, .ref qf18, .ref qf19, .int v20])), (qf3, .inl (cf3, 334, .inl f3)), (qf0, .inr (9, [.ref qf0_0, .ref qf0_1, .ref qf0_2, .int v0_3, .ref qf0_4, .ref qf0_5, .ref qf0_6, .ref qf0_7, .ref qf0_8, .int v0_9, .int v0_10, .int u2_0, .int u2_1])), (qf0_2, .inl (cf0_2, 3001, .inl f0_2)), (qf0_0, .inl (cf0_0, 3001, .inl f0_0)), (qf4, .inl (cf4, 1740, .inl g4_17)), (qf0_1, .inl (cf0_1, 3001, .inl f0_1))] H := hP
          replace hD : va_D A [(qf1, .inr (4, [.ref qf1_0, .ref qf1_1])), (qf1_1, .inl (cf1_1, 256, .inl g1_1_17)), (qf1_0, .inl (cf1_0, 16, .inl g1_0_17)), (h0, .inr (2, [.ref qf0, .ref qf1, .int v2, .ref qf3, .ref qf4, .ref qf5, .ref qf6, .ref qf7, .ref qf8, .ref qf9, .ref qf10, .ref qf11, .ref qf12, .ref qf13, .ref qf14, .ref qf15, .ref qf16, .ref qf17, .ref qf18, .ref qf19, .int v20])), (qf3, .inl (cf3, 334, .inl f3)), (qf0, .inr (9, [.ref qf0_0, .ref qf0_1, .ref qf0_2, .int v0_3, .ref qf0_4, .ref qf0_5, .ref qf0_6, .ref qf0_7, .ref qf0_8, .int v0_9, .int v0_10, .int u2_0, .int u2_1])), (qf0_2, .inl (cf0_2, 3001, .inl f0_2)), (qf0_0, .inl (cf0_0, 3001, .inl f0_0)), (qf4, .inl (cf4, 1740, .inl g4_17)), (qf0_1, .inl (cf0_1, 3001, .inl f0_1))] := hD
          replace hK : va_K (dC, dI) vwCl [(cf1_1, .boolean), (cf1_0, .int), (cf3, .int), (cf0_2, .int), (cf0_0, .int), (cf4, .int), (cf0_1, .int)] s := hK
          refine lv_iinc (v := (l1_17 + 1)) (lv' := [(1, .int (l1_17 + 1)), (0, .ref h0)]) hx hb dX2_readClasses_40 hl (k := 0) rfl rfl (by decide) rfl (fun ls hl => ?_)
          refine lv_goto (tgt := 17) hx hb dX2_readClasses_43 (by decide) ?_
          exact ih_17 H locs ls (l1_17 + 1) g1_0_17 g1_1_17 g4_17 u2_0 u2_1 (lv_sub hl [0, 1] rfl) hS (hD.sub (ws' := [(h0, .inr (2, [.ref qf0, .ref qf1, .int v2, .ref qf3, .ref qf4, .ref qf5, .ref qf6, .ref qf7, .ref qf8, .ref qf9, .ref qf10, .ref qf11, .ref qf12, .ref qf13, .ref qf14, .ref qf15, .ref qf16, .ref qf17, .ref qf18, .ref qf19, .int v20])), (qf0, .inr (9, [.ref qf0_0, .ref qf0_1, .ref qf0_2, .int v0_3, .ref qf0_4, .ref qf0_5, .ref qf0_6, .ref qf0_7, .ref qf0_8, .int v0_9, .int v0_10, .int u2_0, .int u2_1])), (qf4, .inl (cf4, 1740, .inl g4_17)), (qf3, .inl (cf3, 334, .inl f3)), (qf0_2, .inl (cf0_2, 3001, .inl f0_2)), (qf0_0, .inl (cf0_0, 3001, .inl f0_0)), (qf0_1, .inl (cf0_1, 3001, .inl f0_1)), (qf1, .inr (4, [.ref qf1_0, .ref qf1_1])), (qf1_1, .inl (cf1_1, 256, .inl g1_1_17)), (qf1_0, .inl (cf1_0, 16, .inl g1_0_17))]) [3, 5, 8, 4, 6, 7, 9, 0, 1, 2] (by decide) rfl) (hP.sub (ws' := [(h0, .inr (2, [.ref qf0, .ref qf1, .int v2, .ref qf3, .ref qf4, .ref qf5, .ref qf6, .ref qf7, .ref qf8, .ref qf9, .ref qf10, .ref qf11, .ref qf12, .ref qf13, .ref qf14, .ref qf15, .ref qf16, .ref qf17, .ref qf18, .ref qf19, .int v20])), (qf0, .inr (9, [.ref qf0_0, .ref qf0_1, .ref qf0_2, .int v0_3, .ref qf0_4, .ref qf0_5, .ref qf0_6, .ref qf0_7, .ref qf0_8, .int v0_9, .int v0_10, .int u2_0, .int u2_1])), (qf4, .inl (cf4, 1740, .inl g4_17)), (qf3, .inl (cf3, 334, .inl f3)), (qf0_2, .inl (cf0_2, 3001, .inl f0_2)), (qf0_0, .inl (cf0_0, 3001, .inl f0_0)), (qf0_1, .inl (cf0_1, 3001, .inl f0_1)), (qf1, .inr (4, [.ref qf1_0, .ref qf1_1])), (qf1_1, .inl (cf1_1, 256, .inl g1_1_17)), (qf1_0, .inl (cf1_0, 16, .inl g1_0_17))]) [3, 5, 8, 4, 6, 7, 9, 0, 1, 2] rfl) hsp
  · rw [if_neg c_1] at hsp
    have hr0 := Option.some.inj hsp
    clear hsp
    obtain ⟨hq0, hr1⟩ := Prod.mk.inj hr0
    clear hr0
    obtain ⟨hq1, hr2⟩ := Prod.mk.inj hr1
    clear hr1
    obtain ⟨hq2, hr3⟩ := Prod.mk.inj hr2
    clear hr2
    obtain ⟨hq3, hr4⟩ := Prod.mk.inj hr3
    clear hr3
    subst hq0
    subst hq1
    subst hq2
    subst hq3
    subst hr4
    have hP9 := hP.sub (ws' := [(h0, .inr (2, [.ref qf0, .ref qf1, .int v2, .ref qf3, .ref qf4, .ref qf5, .ref qf6, .ref qf7, .ref qf8, .ref qf9, .ref qf10, .ref qf11, .ref qf12, .ref qf13, .ref qf14, .ref qf15, .ref qf16, .ref qf17, .ref qf18, .ref qf19, .int v20])), (qf0, .inr (9, [.ref qf0_0, .ref qf0_1, .ref qf0_2, .int v0_3, .ref qf0_4, .ref qf0_5, .ref qf0_6, .ref qf0_7, .ref qf0_8, .int v0_9, .int v0_10, .int v0_11, .int v0_12])), (qf4, .inl (cf4, 1740, .inl f4)), (qf3, .inl (cf3, 334, .inl f3)), (qf0_2, .inl (cf0_2, 3001, .inl f0_2)), (qf0_0, .inl (cf0_0, 3001, .inl f0_0)), (qf0_1, .inl (cf0_1, 3001, .inl f0_1)), (qf1, .inr (4, [.ref qf1_0, .ref qf1_1])), (qf1_1, .inl (cf1_1, 256, .inl f1_1)), (qf1_0, .inl (cf1_0, 16, .inl f1_0))]) [0, 1, 2, 3, 4, 5, 6, 7, 8, 9] rfl
    have hD9 := hD.sub (ws' := [(h0, .inr (2, [.ref qf0, .ref qf1, .int v2, .ref qf3, .ref qf4, .ref qf5, .ref qf6, .ref qf7, .ref qf8, .ref qf9, .ref qf10, .ref qf11, .ref qf12, .ref qf13, .ref qf14, .ref qf15, .ref qf16, .ref qf17, .ref qf18, .ref qf19, .int v20])), (qf0, .inr (9, [.ref qf0_0, .ref qf0_1, .ref qf0_2, .int v0_3, .ref qf0_4, .ref qf0_5, .ref qf0_6, .ref qf0_7, .ref qf0_8, .int v0_9, .int v0_10, .int v0_11, .int v0_12])), (qf4, .inl (cf4, 1740, .inl f4)), (qf3, .inl (cf3, 334, .inl f3)), (qf0_2, .inl (cf0_2, 3001, .inl f0_2)), (qf0_0, .inl (cf0_0, 3001, .inl f0_0)), (qf0_1, .inl (cf0_1, 3001, .inl f0_1)), (qf1, .inr (4, [.ref qf1_0, .ref qf1_1])), (qf1_1, .inl (cf1_1, 256, .inl f1_1)), (qf1_0, .inl (cf1_0, 16, .inl f1_0))]) [0, 1, 2, 3, 4, 5, 6, 7, 8, 9] (by decide) rfl
    have hK9 := hK.sub (tys' := [(cf4, .int), (cf3, .int), (cf0_2, .int), (cf0_0, .int), (cf0_1, .int), (cf1_1, .boolean), (cf1_0, .int)]) [0, 1, 2, 3, 4, 5, 6] rfl
    exact W.vret hx hb hr (fun t ht hW => ⟨⟨(), rfl, trivial, by rw [ht]; exact hP9, va_K.moved hW.alike hK9, hD9⟩, hS.F ht⟩) hS.2.2 dX2_readClasses_10
def lp_v2_checkOverrides_2 (nf n : Nat) (f10 : Nat → Int32) (v0_3 : Int32) (v0_11 : Int32) (v0_12 : Int32) (f9 : Nat → Int32) (f1_0 : Nat → Int32) (f0_2 : Nat → Int32) (f13 : Nat → Int32) (f12 : Nat → Int32) (f15 : Nat → Int32) (f17 : Nat → Int32) (f0_1 : Nat → Int32)  (l1_2 : Int32) (x0_11_2 : Int32) (x0_12_2 : Int32) : Option (Int32 × Int32) := match n with
  | 0 => none
  | n + 1 => (if 96 ≤ l1_2 then (some (x0_11_2, x0_12_2)) else (if x0_11_2 = 0 then ((sp_t2_isMethod nf l1_2 f9).bind (fun p1 => (if p1 = 0 then (lp_v2_checkOverrides_2 nf n f10 v0_3 v0_11 v0_12 f9 f1_0 f0_2 f13 f12 f15 f17 f0_1 (l1_2 + 1) x0_11_2 x0_12_2) else ((sp_v2_checkOverride nf l1_2 f1_0 f10 f9 v0_3 x0_11_2 x0_12_2 f0_2 f13 f12 f15 f17 f0_1).bind (fun p2 => (lp_v2_checkOverrides_2 nf n f10 v0_3 v0_11 v0_12 f9 f1_0 f0_2 f13 f12 f15 f17 f0_1 (l1_2 + 1) p2.1 p2.2)))))) else (some (x0_11_2, x0_12_2))))
def sp_v2_checkOverrides (nf : Nat) (f10 : Nat → Int32) (v0_3 : Int32) (v0_11 : Int32) (v0_12 : Int32) (f9 : Nat → Int32) (f1_0 : Nat → Int32) (f0_2 : Nat → Int32) (f13 : Nat → Int32) (f12 : Nat → Int32) (f15 : Nat → Int32) (f17 : Nat → Int32) (f0_1 : Nat → Int32) : Option (Int32 × Int32) := (lp_v2_checkOverrides_2 nf nf f10 v0_3 v0_11 v0_12 f9 f1_0 f0_2 f13 f12 f15 f17 f0_1  0 v0_11 v0_12)

set_option maxHeartbeats 4000000 in
set_option maxRecDepth 100000 in
/-- ClassMill$Image.readConstant -/
theorem v3_readConstant (l : Launch) (dC : Nat → ClassId) (dI : Nat → Nat → Nat) (sz : Nat) (h0 : Nat) (a1 : Int32) (qf0 : Nat) (v1 : Int32) (v2 : Int32) (v3 : Int32) (qf4 : Nat) (qf5 : Nat) (qf6 : Nat) (v7 : Int32) (v8 : Int32) (v9 : Int32) (v10 : Int32) (qf11 : Nat) (v12 : Int32) (qf13 : Nat) (cf0 : ClassId) (nb : Nat) (f0 : (Nat → Int32)) (cf4 : ClassId) (f4 : (Nat → Int32)) (cf5 : ClassId) (f5 : (Nat → Int32)) (cf6 : ClassId) (f6 : (Nat → Int32)) (nf : Nat) (o4 : (Nat → Int32)) (o5 : (Nat → Int32)) (o6 : (Nat → Int32)) (w2 : Int32) (w3 : Int32) (hsp : sp_v3_readConstant nf a1 v1 v2 v3 nb f0 f4 f5 f6 = some (o4, o5, o6, w2, w3)) : Met l yX3_readConstant (.code yX3_readConstant cX3_readConstant 5 none :: VS_h7) ({ frames := 2, cells := 0, slots := 0, locals := 44 }) (va_Pc [.ref h0, .int a1] (fun U => U.heap.size = sz ∧ va_P (dC, dI) vwCl [(h0, .inr (3, [.ref qf0, .int v1, .int v2, .int v3, .ref qf4, .ref qf5, .ref qf6, .int v7, .int v8, .int v9, .int v10, .ref qf11, .int v12, .ref qf13])), (qf0, .inl (cf0, nb, .inl f0)), (qf4, .inl (cf4, 256, .inl f4)), (qf5, .inl (cf5, 256, .inl f5)), (qf6, .inl (cf6, 256, .inl f6))] U.heap ∧ va_K (dC, dI) vwCl [(cf0, .byte), (cf4, .int), (cf5, .int), (cf6, .int)] U ∧ va_D (fun _ => True) [(h0, .inr (3, [.ref qf0, .int v1, .int v2, .int v3, .ref qf4, .ref qf5, .ref qf6, .int v7, .int v8, .int v9, .int v10, .ref qf11, .int v12, .ref qf13])), (qf0, .inl (cf0, nb, .inl f0)), (qf4, .inl (cf4, 256, .inl f4)), (qf5, .inl (cf5, 256, .inl f5)), (qf6, .inl (cf6, 256, .inl f6))])) (va_Qv (fun (u : Unit) => match u with | () => True) (fun (u : Unit) (t : State) => match u with | () => va_P (dC, dI) vwCl [(h0, .inr (3, [.ref qf0, .int v1, .int w2, .int w3, .ref qf4, .ref qf5, .ref qf6, .int v7, .int v8, .int v9, .int v10, .ref qf11, .int v12, .ref qf13])), (qf0, .inl (cf0, nb, .inl f0)), (qf4, .inl (cf4, 256, .inl o4)), (qf5, .inl (cf5, 256, .inl o5)), (qf6, .inl (cf6, 256, .inl o6))] t.heap ∧ va_K (dC, dI) vwCl [(cf0, .byte), (cf4, .int), (cf5, .int), (cf6, .int)] t ∧ va_D (va_A [(h0, .inr (3, [.ref qf0, .int v1, .int v2, .int v3, .ref qf4, .ref qf5, .ref qf6, .int v7, .int v8, .int v9, .int v10, .ref qf11, .int v12, .ref qf13])), (qf0, .inl (cf0, nb, .inl f0)), (qf4, .inl (cf4, 256, .inl f4)), (qf5, .inl (cf5, 256, .inl f5)), (qf6, .inl (cf6, 256, .inl f6))] sz) [(h0, .inr (3, [.ref qf0, .int v1, .int w2, .int w3, .ref qf4, .ref qf5, .ref qf6, .int v7, .int v8, .int v9, .int v10, .ref qf11, .int v12, .ref qf13])), (qf0, .inl (cf0, nb, .inl f0)), (qf4, .inl (cf4, 256, .inl o4)), (qf5, .inl (cf5, 256, .inl o5)), (qf6, .inl (cf6, 256, .inl o6))]) (va_A [(h0, .inr (3, [.ref qf0, .int v1, .int v2, .int v3, .ref qf4, .ref qf5, .ref qf6, .int v7, .int v8, .int v9, .int v10, .ref qf11, .int v12, .ref qf13])), (qf0, .inl (cf0, nb, .inl f0)), (qf4, .inl (cf4, 256, .inl f4)), (qf5, .inl (cf5, 256, .inl f5)), (qf6, .inl (cf6, 256, .inl f6))] sz)) 0 0 (va_A [(h0, .inr (3, [.ref qf0, .int v1, .int v2, .int v3, .ref qf4, .ref qf5, .ref qf6, .int v7, .int v8, .int v9, .int v10, .ref qf11, .int v12, .ref qf13])), (qf0, .inl (cf0, nb, .inl f0)), (qf4, .inl (cf4, 256, .inl f4)), (qf5, .inl (cf5, 256, .inl f5)), (qf6, .inl (cf6, 256, .inl f6))] sz) := by
  refine Met.ofW (cc := cX3_readConstant) (maxL := 5) (ret := none) (by decide) rfl ?_
  intro p e s m args below meth c s₁ B hml hv
  obtain ⟨rfl, hsz, hP, hK, hD0⟩ := hv
  have hx := B.exec
  have hb := B.bytes
  have hr := B.returns
  have hts := atoms_spec (ws := (.code yX3_readConstant cX3_readConstant 5 none :: VS_h7)) B.pre
  replace hts := fun w (h : w ∈ VS_h7) => hts w (List.mem_cons_of_mem _ h)
  have hown : s.vm.findClass RX3 = some m.cls := findClass_of_methodNamed B.named
  have hlocks := B.notSynchronized
  subst hsz
  have hD := hD0.self (sz := s.heap.size)
  generalize hAe : va_A [(h0, .inr (3, [.ref qf0, .int v1, .int v2, .int v3, .ref qf4, .ref qf5, .ref qf6, .int v7, .int v8, .int v9, .int v10, .ref qf11, .int v12, .ref qf13])), (qf0, .inl (cf0, nb, .inl f0)), (qf4, .inl (cf4, 256, .inl f4)), (qf5, .inl (cf5, 256, .inl f5)), (qf6, .inl (cf6, 256, .inl f6))] s.heap.size = A at hD  ⊢
  have hA : ∀ q : Nat, s.heap.size ≤ q → A q := fun q h => by rw [← hAe]; exact Or.inr h
  have hP : va_P (dC, dI) vwCl [(h0, .inr (3, [.ref qf0, .int v1, .int v2, .int v3, .ref qf4, .ref qf5, .ref qf6, .int v7, .int v8, .int v9, .int v10, .ref qf11, .int v12, .ref qf13])), (qf0, .inl (cf0, nb, .inl f0)), (qf4, .inl (cf4, 256, .inl f4)), (qf5, .inl (cf5, 256, .inl f5)), (qf6, .inl (cf6, 256, .inl f6))] s.heap := hP
  have hl := lv_entry ([.ref h0, .int a1]) (n := 5) (Nat.le_of_ble_eq_true rfl)
  rw [lg_entry_eq]
  generalize (lg_sl ([.ref h0, .int a1]) ++ List.replicate (5 - (lg_sl ([.ref h0, .int a1])).length) Slot.unset).toArray = ls at hl ⊢
  have hl : lv_has ls 5 [(0, .ref h0), (1, .int a1)] := hl
  obtain ⟨H, hH⟩ : ∃ H : Heap, s.heap = H := ⟨_, rfl⟩
  rw [hH] at hP ⊢
  have hS : va_S A s.heap H [] := by rw [← hH]; exact va_S.rf
  obtain ⟨locs, hlo⟩ : ∃ locs : List Loc, locs = [] := ⟨_, rfl⟩
  rw [← hlo] at hS ⊢
  unfold sp_v3_readConstant at hsp
  refine jn_use (α := Heap × List Loc × Array Slot × Int32 × Int32 × Int32 × Int32 × (Nat → Int32) × (Nat → Int32) × (Nat → Int32) × Int32 × Int32) (fun x9 => x9.1) (fun x9 => x9.2.1) (fun x9 => F0 m 80 x9.2.2.1 [.int (x9.2.2.2.2.2.1), .int (x9.2.2.2.2.2.2.1), .ref qf6]) (fun x9 => match x9 with | (H, locs, ls, l2_80, l3_80, s0_80, s1_80, g4_80, g5_80, g6_80, x2_80, x3_80) => lv_has ls 5 [(0, .ref h0), (2, .int l2_80), (3, .int l3_80)] ∧ va_S A s.heap H locs ∧ va_D A [(h0, .inr (3, [.ref qf0, .int v1, .int x2_80, .int x3_80, .ref qf4, .ref qf5, .ref qf6, .int v7, .int v8, .int v9, .int v10, .ref qf11, .int v12, .ref qf13])), (qf0, .inl (cf0, nb, .inl f0)), (qf4, .inl (cf4, 256, .inl g4_80)), (qf5, .inl (cf5, 256, .inl g5_80)), (qf6, .inl (cf6, 256, .inl g6_80))] ∧ va_P (dC, dI) vwCl [(h0, .inr (3, [.ref qf0, .int v1, .int x2_80, .int x3_80, .ref qf4, .ref qf5, .ref qf6, .int v7, .int v8, .int v9, .int v10, .ref qf11, .int v12, .ref qf13])), (qf0, .inl (cf0, nb, .inl f0)), (qf4, .inl (cf4, 256, .inl g4_80)), (qf5, .inl (cf5, 256, .inl g5_80)), (qf6, .inl (cf6, 256, .inl g6_80))] H ∧ jn_v3_readConstant_80 nf a1 v1 v2 v3 nb f0 f4 f5 f6 l2_80 l3_80 s0_80 s1_80 g4_80 g5_80 g6_80 x2_80 x3_80 = some (o4, o5, o6, w2, w3)) ?_ ?_
  · intro x9 hJ9
    obtain ⟨H, locs, ls, l2_80, l3_80, s0_80, s1_80, g4_80, g5_80, g6_80, x2_80, x3_80⟩ := x9
    obtain ⟨hl, hS, hD, hP, hsp⟩ := hJ9
    replace hl : lv_has ls 5 [(0, .ref h0), (2, .int l2_80), (3, .int l3_80)] := hl
    replace hS : va_S A s.heap H locs := hS
    replace hD : va_D A [(h0, .inr (3, [.ref qf0, .int v1, .int x2_80, .int x3_80, .ref qf4, .ref qf5, .ref qf6, .int v7, .int v8, .int v9, .int v10, .ref qf11, .int v12, .ref qf13])), (qf0, .inl (cf0, nb, .inl f0)), (qf4, .inl (cf4, 256, .inl g4_80)), (qf5, .inl (cf5, 256, .inl g5_80)), (qf6, .inl (cf6, 256, .inl g6_80))] := hD
    replace hP : va_P (dC, dI) vwCl [(h0, .inr (3, [.ref qf0, .int v1, .int x2_80, .int x3_80, .ref qf4, .ref qf5, .ref qf6, .int v7, .int v8, .int v9, .int v10, .ref qf11, .int v12, .ref qf13])), (qf0, .inl (cf0, nb, .inl f0)), (qf4, .inl (cf4, 256, .inl g4_80)), (qf5, .inl (cf5, 256, .inl g5_80)), (qf6, .inl (cf6, 256, .inl g6_80))] H := hP
    replace hsp : jn_v3_readConstant_80 nf a1 v1 v2 v3 nb f0 f4 f5 f6 l2_80 l3_80 s0_80 s1_80 g4_80 g5_80 g6_80 x2_80 x3_80 = some (o4, o5, o6, w2, w3) := hsp
    show W _ _ _ _ _ _ _ _ _ _ H locs _ _ _ (F0 m 80 ls [.int s0_80, .int s1_80, .ref qf6])
    unfold jn_v3_readConstant_80 at hsp
    try dsimp only at hsp
    obtain ⟨hi_9, hsp⟩ := ox_in hsp
    refine va_iast hx hb hK hP hD hS 4 3 rfl rfl (i := s1_80) (x := s0_80) hi_9 dX3_readConstant_80 ?_
    clear hP hD hS
    intro H locs hP hD hS
    replace hP : va_P (dC, dI) vwCl [(h0, .inr (3, [.ref qf0, .int v1, .int x2_80, .int x3_80, .ref qf4, .ref qf5, .ref qf6, .int v7, .int v8, .int v9, .int v10, .ref qf11, .int v12, .ref qf13])), (qf0, .inl (cf0, nb, .inl f0)), (qf4, .inl (cf4, 256, .inl g4_80)), (qf5, .inl (cf5, 256, .inl g5_80)), (qf6, .inl (cf6, 256, .inl (upd g6_80 (s1_80 : Int32).toNatClampNeg s0_80)))] H := hP
    replace hD : va_D A [(h0, .inr (3, [.ref qf0, .int v1, .int x2_80, .int x3_80, .ref qf4, .ref qf5, .ref qf6, .int v7, .int v8, .int v9, .int v10, .ref qf11, .int v12, .ref qf13])), (qf0, .inl (cf0, nb, .inl f0)), (qf4, .inl (cf4, 256, .inl g4_80)), (qf5, .inl (cf5, 256, .inl g5_80)), (qf6, .inl (cf6, 256, .inl (upd g6_80 (s1_80 : Int32).toNatClampNeg s0_80)))] := hD
    refine lv_iconst (v := 0) hx hb dX3_readConstant_81 (by decide) ?_
    refine lv_istore (lv' := [(4, .int 0), (0, .ref h0), (2, .int l2_80), (3, .int l3_80)]) hx hb dX3_readConstant_82 hl (by decide) rfl (fun ls hl => ?_)
    replace hl : lv_has ls 5 [(4, .int 0), (0, .ref h0), (2, .int l2_80), (3, .int l3_80)] := lv_sub hl [0, 1, 2, 3] rfl
    replace hP := hP.sub (ws' := [(h0, .inr (3, [.ref qf0, .int v1, .int x2_80, .int x3_80, .ref qf4, .ref qf5, .ref qf6, .int v7, .int v8, .int v9, .int v10, .ref qf11, .int v12, .ref qf13])), (qf0, .inl (cf0, nb, .inl f0)), (qf4, .inl (cf4, 256, .inl g4_80)), (qf5, .inl (cf5, 256, .inl g5_80)), (qf6, .inl (cf6, 256, .inl (upd g6_80 (s1_80 : Int32).toNatClampNeg s0_80)))]) [0, 1, 2, 3, 4] rfl
    replace hD := hD.sub (ws' := [(h0, .inr (3, [.ref qf0, .int v1, .int x2_80, .int x3_80, .ref qf4, .ref qf5, .ref qf6, .int v7, .int v8, .int v9, .int v10, .ref qf11, .int v12, .ref qf13])), (qf0, .inl (cf0, nb, .inl f0)), (qf4, .inl (cf4, 256, .inl g4_80)), (qf5, .inl (cf5, 256, .inl g5_80)), (qf6, .inl (cf6, 256, .inl (upd g6_80 (s1_80 : Int32).toNatClampNeg s0_80)))]) [0, 1, 2, 3, 4] (by decide) rfl
    replace hK := hK.sub (tys' := [(cf0, .byte), (cf4, .int), (cf5, .int), (cf6, .int)]) [0, 1, 2, 3] rfl
    obtain ⟨n_84, hn_84⟩ : ∃ z : Nat, z = nf := ⟨_, rfl⟩
    obtain ⟨l2_84, el2_84⟩ : ∃ z : Int32, z = l2_80 := ⟨_, rfl⟩
    obtain ⟨l3_84, el3_84⟩ : ∃ z : Int32, z = l3_80 := ⟨_, rfl⟩
    obtain ⟨l4_84, el4_84⟩ : ∃ z : Int32, z = 0 := ⟨_, rfl⟩
    obtain ⟨g4_84, eg4_84⟩ : ∃ z : Nat → Int32, z = g4_80 := ⟨_, rfl⟩
    obtain ⟨g5_84, eg5_84⟩ : ∃ z : Nat → Int32, z = g5_80 := ⟨_, rfl⟩
    obtain ⟨g6_84, eg6_84⟩ : ∃ z : Nat → Int32, z = (upd g6_80 (s1_80 : Int32).toNatClampNeg s0_80) := ⟨_, rfl⟩
    obtain ⟨x2_84, ex2_84⟩ : ∃ z : Int32, z = x2_80 := ⟨_, rfl⟩
    obtain ⟨x3_84, ex3_84⟩ : ∃ z : Int32, z = x3_80 := ⟨_, rfl⟩
    replace hsp : lp_v3_readConstant_84 nf n_84 a1 v1 v2 v3 nb f0 f4 f5 f6 l2_84 l3_84 l4_84 g4_84 g5_84 g6_84 x2_84 x3_84 = some (o4, o5, o6, w2, w3) := by rw [hn_84, el2_84, el3_84, el4_84, eg4_84, eg5_84, eg6_84, ex2_84, ex3_84]; exact hsp
    replace hl : lv_has ls 5 [(4, .int l4_84), (0, .ref h0), (2, .int l2_84), (3, .int l3_84)] := by rw [el2_84, el3_84, el4_84]; exact hl
    replace hP : va_P (dC, dI) vwCl [(h0, .inr (3, [.ref qf0, .int v1, .int x2_84, .int x3_84, .ref qf4, .ref qf5, .ref qf6, .int v7, .int v8, .int v9, .int v10, .ref qf11, .int v12, .ref qf13])), (qf0, .inl (cf0, nb, .inl f0)), (qf4, .inl (cf4, 256, .inl g4_84)), (qf5, .inl (cf5, 256, .inl g5_84)), (qf6, .inl (cf6, 256, .inl g6_84))] H := by rw [eg4_84, eg5_84, eg6_84, ex2_84, ex3_84]; exact hP
    replace hD : va_D A [(h0, .inr (3, [.ref qf0, .int v1, .int x2_84, .int x3_84, .ref qf4, .ref qf5, .ref qf6, .int v7, .int v8, .int v9, .int v10, .ref qf11, .int v12, .ref qf13])), (qf0, .inl (cf0, nb, .inl f0)), (qf4, .inl (cf4, 256, .inl g4_84)), (qf5, .inl (cf5, 256, .inl g5_84)), (qf6, .inl (cf6, 256, .inl g6_84))] := by rw [eg4_84, eg5_84, eg6_84, ex2_84, ex3_84]; exact hD
    clear hn_84 el2_84 el3_84 el4_84 eg4_84 eg5_84 eg6_84 ex2_84 ex3_84
    try clear hlo
    try clear hH
    revert hsp
    revert hP
    revert hD
    revert hS
    revert hl
    revert x3_84
    revert x2_84
    revert g6_84
    revert g5_84
    revert g4_84
    revert l4_84
    revert l3_84
    revert l2_84
    revert ls
    revert locs
    revert H
    induction n_84 with
    | zero => intro H locs ls l2_84 l3_84 l4_84 g4_84 g5_84 g6_84 x2_84 x3_84  hl hS hD hP hsp; unfold lp_v3_readConstant_84 at hsp; cases hsp
    | succ n_84 ih_84 =>
      intro H locs ls l2_84 l3_84 l4_84 g4_84 g5_84 g6_84 x2_84 x3_84  hl hS hD hP hsp
      unfold lp_v3_readConstant_84 at hsp
      try dsimp only at hsp
      refine lv_iload hx hb dX3_readConstant_84 (lv_at hl 0 rfl) ?_
      refine lv_iload_n hx hb dX3_readConstant_86 rfl (lv_at hl 3 rfl) ?_
      refine lv_icmp_ge (tgt := 126) hx hb dX3_readConstant_87 (by decide) (fun c_10 => ?_) (fun c_10 => ?_)
      · rw [if_pos c_10] at hsp
        have hr0 := Option.some.inj hsp
        clear hsp
        obtain ⟨hq0, hr1⟩ := Prod.mk.inj hr0
        clear hr0
        obtain ⟨hq1, hr2⟩ := Prod.mk.inj hr1
        clear hr1
        obtain ⟨hq2, hr3⟩ := Prod.mk.inj hr2
        clear hr2
        obtain ⟨hq3, hr4⟩ := Prod.mk.inj hr3
        clear hr3
        subst hq0
        subst hq1
        subst hq2
        subst hq3
        subst hr4
        have hP9 := hP.sub (ws' := [(h0, .inr (3, [.ref qf0, .int v1, .int x2_84, .int x3_84, .ref qf4, .ref qf5, .ref qf6, .int v7, .int v8, .int v9, .int v10, .ref qf11, .int v12, .ref qf13])), (qf0, .inl (cf0, nb, .inl f0)), (qf4, .inl (cf4, 256, .inl g4_84)), (qf5, .inl (cf5, 256, .inl g5_84)), (qf6, .inl (cf6, 256, .inl g6_84))]) [0, 1, 2, 3, 4] rfl
        have hD9 := hD.sub (ws' := [(h0, .inr (3, [.ref qf0, .int v1, .int x2_84, .int x3_84, .ref qf4, .ref qf5, .ref qf6, .int v7, .int v8, .int v9, .int v10, .ref qf11, .int v12, .ref qf13])), (qf0, .inl (cf0, nb, .inl f0)), (qf4, .inl (cf4, 256, .inl g4_84)), (qf5, .inl (cf5, 256, .inl g5_84)), (qf6, .inl (cf6, 256, .inl g6_84))]) [0, 1, 2, 3, 4] (by decide) rfl
        have hK9 := hK.sub (tys' := [(cf0, .byte), (cf4, .int), (cf5, .int), (cf6, .int)]) [0, 1, 2, 3] rfl
        exact W.vret hx hb hr (fun t ht hW => ⟨⟨(), rfl, trivial, by rw [ht]; exact hP9, va_K.moved hW.alike hK9, hD9⟩, hS.F ht⟩) hS.2.2 dX3_readConstant_126
      · rw [if_neg c_10] at hsp
        refine lv_aload_n hx hb dX3_readConstant_90 rfl (lv_at hl 1 rfl) ?_
        refine va_get (D := (dC, dI)) (ci := 3) (v := .int x3_84) (C := RX3) (T := TX3) (N := 14) hx hb hts uV_h7_X3 hown hK hP 0 rfl rfl 3 (by decide) (hts (.fieldLink RX3 46 "ClassMill$Image" "form" "I") mw_h7_157) (fun _ h9 => h9) rfl dX3_readConstant_91 ?_
        refine lv_iconst (v := (-1)) hx hb dX3_readConstant_94 (by decide) ?_
        refine lv_icmp_ne (tgt := 126) hx hb dX3_readConstant_95 (by decide) (fun c_11 => ?_) (fun c_11 => ?_)
        · rw [if_neg c_11] at hsp
          have hr0 := Option.some.inj hsp
          clear hsp
          obtain ⟨hq0, hr1⟩ := Prod.mk.inj hr0
          clear hr0
          obtain ⟨hq1, hr2⟩ := Prod.mk.inj hr1
          clear hr1
          obtain ⟨hq2, hr3⟩ := Prod.mk.inj hr2
          clear hr2
          obtain ⟨hq3, hr4⟩ := Prod.mk.inj hr3
          clear hr3
          subst hq0
          subst hq1
          subst hq2
          subst hq3
          subst hr4
          have hP9 := hP.sub (ws' := [(h0, .inr (3, [.ref qf0, .int v1, .int x2_84, .int x3_84, .ref qf4, .ref qf5, .ref qf6, .int v7, .int v8, .int v9, .int v10, .ref qf11, .int v12, .ref qf13])), (qf0, .inl (cf0, nb, .inl f0)), (qf4, .inl (cf4, 256, .inl g4_84)), (qf5, .inl (cf5, 256, .inl g5_84)), (qf6, .inl (cf6, 256, .inl g6_84))]) [0, 1, 2, 3, 4] rfl
          have hD9 := hD.sub (ws' := [(h0, .inr (3, [.ref qf0, .int v1, .int x2_84, .int x3_84, .ref qf4, .ref qf5, .ref qf6, .int v7, .int v8, .int v9, .int v10, .ref qf11, .int v12, .ref qf13])), (qf0, .inl (cf0, nb, .inl f0)), (qf4, .inl (cf4, 256, .inl g4_84)), (qf5, .inl (cf5, 256, .inl g5_84)), (qf6, .inl (cf6, 256, .inl g6_84))]) [0, 1, 2, 3, 4] (by decide) rfl
          have hK9 := hK.sub (tys' := [(cf0, .byte), (cf4, .int), (cf5, .int), (cf6, .int)]) [0, 1, 2, 3] rfl
          exact W.vret hx hb hr (fun t ht hW => ⟨⟨(), rfl, trivial, by rw [ht]; exact hP9, va_K.moved hW.alike hK9, hD9⟩, hS.F ht⟩) hS.2.2 dX3_readConstant_126
        · rw [if_pos c_11] at hsp
          refine lv_iload_n hx hb dX3_readConstant_98 rfl (lv_at hl 2 rfl) ?_
          refine lv_iconst (v := 1) hx hb dX3_readConstant_99 (by decide) ?_
          refine lv_icmp_ne (tgt := 115) hx hb dX3_readConstant_100 (by decide) (fun c_12 => ?_) (fun c_12 => ?_)
          · rw [if_neg c_12] at hsp
            refine lv_aload_n hx hb dX3_readConstant_115 rfl (lv_at hl 1 rfl) ?_
            obtain ⟨⟨u3_0, u3_1, u3_2⟩, hu_3, hsp⟩ := ox_bind hsp
            try dsimp only at hsp
            have hPc := hP.sub (ws' := [(h0, .inr (3, [.ref qf0, .int v1, .int x2_84, .int x3_84, .ref qf4, .ref qf5, .ref qf6, .int v7, .int v8, .int v9, .int v10, .ref qf11, .int v12, .ref qf13])), (qf0, .inl (cf0, nb, .inl f0))]) [0, 1] rfl
            have hDc := hD.sub (ws' := [(h0, .inr (3, [.ref qf0, .int v1, .int x2_84, .int x3_84, .ref qf4, .ref qf5, .ref qf6, .int v7, .int v8, .int v9, .int v10, .ref qf11, .int v12, .ref qf13])), (qf0, .inl (cf0, nb, .inl f0))]) [0, 1] (by decide) rfl
            have hKc := hK.sub (tys' := [(cf0, .byte)]) [0] rfl
            have hFc := va_free (wc := [(h0, .inr (3, [.ref qf0, .int v1, .int x2_84, .int x3_84, .ref qf4, .ref qf5, .ref qf6, .int v7, .int v8, .int v9, .int v10, .ref qf11, .int v12, .ref qf13])), (qf0, .inl (cf0, nb, .inl f0))]) hD hS hA [0, 1] rfl
            refine va_calli (va_runV (As := []) (rest := []) ⟨hx, hb, hml, hown, hts⟩ (ti_next l dC dI H.size h0 qf0 v1 x2_84 x3_84 qf4 qf5 qf6 v7 v8 v9 v10 qf11 v12 qf13 cf0 nb f0 nf u3_0 u3_1 u3_2 hu_3) (cwV 0 hts gv_h7_30 rfl rfl rfl (by decide +kernel) ⟨Nat.le_of_ble_eq_true rfl, Nat.le_of_ble_eq_true rfl⟩) ⟨fun a U g mk q => by obtain ⟨q0, q1, qP, qK, qD⟩ := q; exact ⟨q0, q1, qP, va_K.moved (u := U) (U := U.calling g mk a) (Vm.Alike.refl U.vm) qK, qD⟩, va_recv hKc hPc (ci := 3) (q0 := 0) rfl rfl, fun U hU hW => ⟨rfl, by rw [hU], by rw [hU]; exact hPc, va_K.moved hW.alike hKc, hDc.weaken (fun _ _ _ _ => trivial)⟩⟩ rfl rfl hl.1 rfl (lv_room (Nat.le_of_ble_eq_true rfl)) dX3_readConstant_116 ⟨Nat.le_of_ble_eq_true rfl, Nat.le_of_ble_eq_true rfl⟩) hS (fun q _ h => hFc q h) hFc ?_
            clear hS
            intro r_13 u t H1 locs ht hvm hw hB hz1 hk1 hS
            obtain ⟨⟩ := u
            obtain ⟨hP1, hK1, hD1⟩ := hB
            rw [ht] at hP1
            have hK1 := va_K.moved hvm.symm hK1
            try dsimp only at hw
            have hPD := va_join (wr := [(qf4, .inl (cf4, 256, .inl g4_84)), (qf5, .inl (cf5, 256, .inl g5_84)), (qf6, .inl (cf6, 256, .inl g6_84))]) (w1 := [(h0, .inr (3, [.ref qf0, .int v1, .int u3_1, .int u3_2, .ref qf4, .ref qf5, .ref qf6, .int v7, .int v8, .int v9, .int v10, .ref qf11, .int v12, .ref qf13])), (qf0, .inl (cf0, nb, .inl f0))]) hP hD [0, 1] [2, 3, 4] rfl rfl (by decide) (by decide) hk1 hFc hP1 hD1
            clear hP hD
            obtain ⟨hP, hD⟩ := hPD
            replace hK := (hK.sub (tys' := [(cf4, .int), (cf5, .int), (cf6, .int)]) [1, 2, 3] rfl).app hK1
            clear hPc hDc hKc hFc hP1 hK1 hD1 hz1 hk1 ht hvm
            generalize H1 = H at hP hS ⊢
            replace hP : va_P (dC, dI) vwCl [(qf4, .inl (cf4, 256, .inl g4_84)), (qf5, .inl (cf5, 256, .inl g5_84)), (qf6, .inl (cf6, 256, .inl g6_84)), (h0, .inr (3, [.ref qf0, .int v1, .int u3_1, .int u3_2, .ref qf4, .ref qf5, .ref qf6, .int v7, .int v8, .int v9, .int v10, .ref qf11, .int v12, .ref qf13])), (qf0, .inl (cf0, nb, .inl f0))] H := hP
            replace hD : va_D A [(qf4, .inl (cf4, 256, .inl g4_84)), (qf5, .inl (cf5, 256, .inl g5_84)), (qf6, .inl (cf6, 256, .inl g6_84)), (h0, .inr (3, [.ref qf0, .int v1, .int u3_1, .int u3_2, .ref qf4, .ref qf5, .ref qf6, .int v7, .int v8, .int v9, .int v10, .ref qf11, .int v12, .ref qf13])), (qf0, .inl (cf0, nb, .inl f0))] := hD
            replace hK : va_K (dC, dI) vwCl [(cf4, .int), (cf5, .int), (cf6, .int), (cf0, .byte)] s := hK
            obtain rfl := hw
            refine lv_pop hx hb dX3_readConstant_119 rfl ?_
            refine lv_iinc (v := (l4_84 + 1)) (lv' := [(4, .int (l4_84 + 1)), (0, .ref h0), (2, .int l2_84), (3, .int l3_84)]) hx hb dX3_readConstant_120 hl (k := 0) rfl rfl (by decide) rfl (fun ls hl => ?_)
            refine lv_goto (tgt := 84) hx hb dX3_readConstant_123 (by decide) ?_
            exact ih_84 H locs ls l2_84 l3_84 (l4_84 + 1) g4_84 g5_84 g6_84 u3_1 u3_2 (lv_sub hl [0, 1, 2, 3] rfl) hS (hD.sub (ws' := [(h0, .inr (3, [.ref qf0, .int v1, .int u3_1, .int u3_2, .ref qf4, .ref qf5, .ref qf6, .int v7, .int v8, .int v9, .int v10, .ref qf11, .int v12, .ref qf13])), (qf0, .inl (cf0, nb, .inl f0)), (qf4, .inl (cf4, 256, .inl g4_84)), (qf5, .inl (cf5, 256, .inl g5_84)), (qf6, .inl (cf6, 256, .inl g6_84))]) [3, 4, 0, 1, 2] (by decide) rfl) (hP.sub (ws' := [(h0, .inr (3, [.ref qf0, .int v1, .int u3_1, .int u3_2, .ref qf4, .ref qf5, .ref qf6, .int v7, .int v8, .int v9, .int v10, .ref qf11, .int v12, .ref qf13])), (qf0, .inl (cf0, nb, .inl f0)), (qf4, .inl (cf4, 256, .inl g4_84)), (qf5, .inl (cf5, 256, .inl g5_84)), (qf6, .inl (cf6, 256, .inl g6_84))]) [3, 4, 0, 1, 2] rfl) hsp
          · rw [if_pos c_12] at hsp
            refine lv_aload_n hx hb dX3_readConstant_103 rfl (lv_at hl 1 rfl) ?_
            refine lv_bipush (v := 33) hx hb dX3_readConstant_104 (by decide) ?_
            refine lv_bipush (v := 126) hx hb dX3_readConstant_106 (by decide) ?_
            obtain ⟨⟨u4_0, u4_1, u4_2⟩, hu_4, hsp⟩ := ox_bind hsp
            try dsimp only at hsp
            have hPc := hP.sub (ws' := [(h0, .inr (3, [.ref qf0, .int v1, .int x2_84, .int x3_84, .ref qf4, .ref qf5, .ref qf6, .int v7, .int v8, .int v9, .int v10, .ref qf11, .int v12, .ref qf13])), (qf0, .inl (cf0, nb, .inl f0))]) [0, 1] rfl
            have hDc := hD.sub (ws' := [(h0, .inr (3, [.ref qf0, .int v1, .int x2_84, .int x3_84, .ref qf4, .ref qf5, .ref qf6, .int v7, .int v8, .int v9, .int v10, .ref qf11, .int v12, .ref qf13])), (qf0, .inl (cf0, nb, .inl f0))]) [0, 1] (by decide) rfl
            have hKc := hK.sub (tys' := [(cf0, .byte)]) [0] rfl
            have hFc := va_free (wc := [(h0, .inr (3, [.ref qf0, .int v1, .int x2_84, .int x3_84, .ref qf4, .ref qf5, .ref qf6, .int v7, .int v8, .int v9, .int v10, .ref qf11, .int v12, .ref qf13])), (qf0, .inl (cf0, nb, .inl f0))]) hD hS hA [0, 1] rfl
            refine va_calli (va_runV (As := [.int 33, .int 126]) (rest := []) ⟨hx, hb, hml, hown, hts⟩ (ti_nextUpTo l dC dI H.size h0 33 126 qf0 v1 x2_84 x3_84 qf4 qf5 qf6 v7 v8 v9 v10 qf11 v12 qf13 cf0 nb f0 nf u4_0 u4_1 u4_2 hu_4) (cwV 2 hts gv_h7_29 rfl rfl rfl (by decide +kernel) ⟨Nat.le_of_ble_eq_true rfl, Nat.le_of_ble_eq_true rfl⟩) ⟨fun a U g mk q => by obtain ⟨q0, q1, qP, qK, qD⟩ := q; exact ⟨q0, q1, qP, va_K.moved (u := U) (U := U.calling g mk a) (Vm.Alike.refl U.vm) qK, qD⟩, va_recv hKc hPc (ci := 3) (q0 := 0) rfl rfl, fun U hU hW => ⟨rfl, by rw [hU], by rw [hU]; exact hPc, va_K.moved hW.alike hKc, hDc.weaken (fun _ _ _ _ => trivial)⟩⟩ rfl rfl hl.1 rfl (lv_room (Nat.le_of_ble_eq_true rfl)) dX3_readConstant_108 ⟨Nat.le_of_ble_eq_true rfl, Nat.le_of_ble_eq_true rfl⟩) hS (fun q _ h => hFc q h) hFc ?_
            clear hS
            intro r_14 u t H1 locs ht hvm hw hB hz1 hk1 hS
            obtain ⟨⟩ := u
            obtain ⟨hP1, hK1, hD1⟩ := hB
            rw [ht] at hP1
            have hK1 := va_K.moved hvm.symm hK1
            try dsimp only at hw
            have hPD := va_join (wr := [(qf4, .inl (cf4, 256, .inl g4_84)), (qf5, .inl (cf5, 256, .inl g5_84)), (qf6, .inl (cf6, 256, .inl g6_84))]) (w1 := [(h0, .inr (3, [.ref qf0, .int v1, .int u4_1, .int u4_2, .ref qf4, .ref qf5, .ref qf6, .int v7, .int v8, .int v9, .int v10, .ref qf11, .int v12, .ref qf13])), (qf0, .inl (cf0, nb, .inl f0))]) hP hD [0, 1] [2, 3, 4] rfl rfl (by decide) (by decide) hk1 hFc hP1 hD1
            clear hP hD
            obtain ⟨hP, hD⟩ := hPD
            replace hK := (hK.sub (tys' := [(cf4, .int), (cf5, .int), (cf6, .int)]) [1, 2, 3] rfl).app hK1
            clear hPc hDc hKc hFc hP1 hK1 hD1 hz1 hk1 ht hvm
            generalize H1 = H at hP hS ⊢
            replace hP : va_P (dC, dI) vwCl [(qf4, .inl (cf4, 256, .inl g4_84)), (qf5, .inl (cf5, 256, .inl g5_84)), (qf6, .inl (cf6, 256, .inl g6_84)), (h0, .inr (3, [.ref qf0, .int v1, .int u4_1, .int u4_2, .ref qf4, .ref qf5, .ref qf6, .int v7, .int v8, .int v9, .int v10, .ref qf11, .int v12, .ref qf13])), (qf0, .inl (cf0, nb, .inl f0))] H := hP
            replace hD : va_D A [(qf4, .inl (cf4, 256, .inl g4_84)), (qf5, .inl (cf5, 256, .inl g5_84)), (qf6, .inl (cf6, 256, .inl g6_84)), (h0, .inr (3, [.ref qf0, .int v1, .int u4_1, .int u4_2, .ref qf4, .ref qf5, .ref qf6, .int v7, .int v8, .int v9, .int v10, .ref qf11, .int v12, .ref qf13])), (qf0, .inl (cf0, nb, .inl f0))] := hD
            replace hK : va_K (dC, dI) vwCl [(cf4, .int), (cf5, .int), (cf6, .int), (cf0, .byte)] s := hK
            obtain rfl := hw
            refine lv_pop hx hb dX3_readConstant_111 rfl ?_
            refine lv_goto (tgt := 120) hx hb dX3_readConstant_112 (by decide) ?_
            refine lv_iinc (v := (l4_84 + 1)) (lv' := [(4, .int (l4_84 + 1)), (0, .ref h0), (2, .int l2_84), (3, .int l3_84)]) hx hb dX3_readConstant_120 hl (k := 0) rfl rfl (by decide) rfl (fun ls hl => ?_)
            refine lv_goto (tgt := 84) hx hb dX3_readConstant_123 (by decide) ?_
            exact ih_84 H locs ls l2_84 l3_84 (l4_84 + 1) g4_84 g5_84 g6_84 u4_1 u4_2 (lv_sub hl [0, 1, 2, 3] rfl) hS (hD.sub (ws' := [(h0, .inr (3, [.ref qf0, .int v1, .int u4_1, .int u4_2, .ref qf4, .ref qf5, .ref qf6, .int v7, .int v8, .int v9, .int v10, .ref qf11, .int v12, .ref qf13])), (qf0, .inl (cf0, nb, .inl f0)), (qf4, .inl (cf4, 256, .inl g4_84)), (qf5, .inl (cf5, 256, .inl g5_84)), (qf6, .inl (cf6, 256, .inl g6_84))]) [3, 4, 0, 1, 2] (by decide) rfl) (hP.sub (ws' := [(h0, .inr (3, [.ref qf0, .int v1, .int u4_1, .int u4_2, .ref qf4, .ref qf5, .ref qf6, .int v7, .int v8, .int v9, .int v10, .ref qf11, .int v12, .ref qf13])), (qf0, .inl (cf0, nb, .inl f0)), (qf4, .inl (cf4, 256, .inl g4_84)), (qf5, .inl (cf5, 256, .inl g5_84)), (qf6, .inl (cf6, 256, .inl g6_84))]) [3, 4, 0, 1, 2] rfl) hsp
  intro hj_80
  refine jn_use (α := Heap × List Loc × Array Slot × Int32 × Int32 × Int32 × (Nat → Int32) × (Nat → Int32) × (Nat → Int32) × Int32 × Int32) (fun x9 => x9.1) (fun x9 => x9.2.1) (fun x9 => F0 m 40 x9.2.2.1 []) (fun x9 => match x9 with | (H, locs, ls, l1_40, l2_40, l3_40, g4_40, g5_40, g6_40, x2_40, x3_40) => lv_has ls 5 [(0, .ref h0), (1, .int l1_40), (2, .int l2_40), (3, .int l3_40)] ∧ va_S A s.heap H locs ∧ va_D A [(h0, .inr (3, [.ref qf0, .int v1, .int x2_40, .int x3_40, .ref qf4, .ref qf5, .ref qf6, .int v7, .int v8, .int v9, .int v10, .ref qf11, .int v12, .ref qf13])), (qf0, .inl (cf0, nb, .inl f0)), (qf4, .inl (cf4, 256, .inl g4_40)), (qf5, .inl (cf5, 256, .inl g5_40)), (qf6, .inl (cf6, 256, .inl g6_40))] ∧ va_P (dC, dI) vwCl [(h0, .inr (3, [.ref qf0, .int v1, .int x2_40, .int x3_40, .ref qf4, .ref qf5, .ref qf6, .int v7, .int v8, .int v9, .int v10, .ref qf11, .int v12, .ref qf13])), (qf0, .inl (cf0, nb, .inl f0)), (qf4, .inl (cf4, 256, .inl g4_40)), (qf5, .inl (cf5, 256, .inl g5_40)), (qf6, .inl (cf6, 256, .inl g6_40))] H ∧ jn_v3_readConstant_40 nf a1 v1 v2 v3 nb f0 f4 f5 f6 l1_40 l2_40 l3_40 g4_40 g5_40 g6_40 x2_40 x3_40 = some (o4, o5, o6, w2, w3)) ?_ ?_
  · intro x9 hJ9
    obtain ⟨H, locs, ls, l1_40, l2_40, l3_40, g4_40, g5_40, g6_40, x2_40, x3_40⟩ := x9
    obtain ⟨hl, hS, hD, hP, hsp⟩ := hJ9
    replace hl : lv_has ls 5 [(0, .ref h0), (1, .int l1_40), (2, .int l2_40), (3, .int l3_40)] := hl
    replace hS : va_S A s.heap H locs := hS
    replace hD : va_D A [(h0, .inr (3, [.ref qf0, .int v1, .int x2_40, .int x3_40, .ref qf4, .ref qf5, .ref qf6, .int v7, .int v8, .int v9, .int v10, .ref qf11, .int v12, .ref qf13])), (qf0, .inl (cf0, nb, .inl f0)), (qf4, .inl (cf4, 256, .inl g4_40)), (qf5, .inl (cf5, 256, .inl g5_40)), (qf6, .inl (cf6, 256, .inl g6_40))] := hD
    replace hP : va_P (dC, dI) vwCl [(h0, .inr (3, [.ref qf0, .int v1, .int x2_40, .int x3_40, .ref qf4, .ref qf5, .ref qf6, .int v7, .int v8, .int v9, .int v10, .ref qf11, .int v12, .ref qf13])), (qf0, .inl (cf0, nb, .inl f0)), (qf4, .inl (cf4, 256, .inl g4_40)), (qf5, .inl (cf5, 256, .inl g5_40)), (qf6, .inl (cf6, 256, .inl g6_40))] H := hP
    replace hsp : jn_v3_readConstant_40 nf a1 v1 v2 v3 nb f0 f4 f5 f6 l1_40 l2_40 l3_40 g4_40 g5_40 g6_40 x2_40 x3_40 = some (o4, o5, o6, w2, w3) := hsp
    show W _ _ _ _ _ _ _ _ _ _ H locs _ _ _ (F0 m 40 ls [])
    unfold jn_v3_readConstant_40 at hsp
    try dsimp only at hsp
    refine lv_aload_n hx hb dX3_readConstant_40 rfl (lv_at hl 0 rfl) ?_
    refine va_get (D := (dC, dI)) (ci := 3) (v := .ref qf4) (C := RX3) (T := TX3) (N := 14) hx hb hts uV_h7_X3 hown hK hP 0 rfl rfl 4 (by decide) (hts (.fieldLink RX3 15 "ClassMill$Image" "tags" "[I") mw_h7_158) (fun _ h9 => h9) rfl dX3_readConstant_41 ?_
    refine lv_iload_n hx hb dX3_readConstant_44 rfl (lv_at hl 1 rfl) ?_
    refine lv_iload_n hx hb dX3_readConstant_45 rfl (lv_at hl 2 rfl) ?_
    obtain ⟨hi_6, hsp⟩ := ox_in hsp
    refine va_iast hx hb hK hP hD hS 2 1 rfl rfl (i := l1_40) (x := l2_40) hi_6 dX3_readConstant_46 ?_
    clear hP hD hS
    intro H locs hP hD hS
    replace hP : va_P (dC, dI) vwCl [(h0, .inr (3, [.ref qf0, .int v1, .int x2_40, .int x3_40, .ref qf4, .ref qf5, .ref qf6, .int v7, .int v8, .int v9, .int v10, .ref qf11, .int v12, .ref qf13])), (qf0, .inl (cf0, nb, .inl f0)), (qf4, .inl (cf4, 256, .inl (upd g4_40 (l1_40 : Int32).toNatClampNeg l2_40))), (qf5, .inl (cf5, 256, .inl g5_40)), (qf6, .inl (cf6, 256, .inl g6_40))] H := hP
    replace hD : va_D A [(h0, .inr (3, [.ref qf0, .int v1, .int x2_40, .int x3_40, .ref qf4, .ref qf5, .ref qf6, .int v7, .int v8, .int v9, .int v10, .ref qf11, .int v12, .ref qf13])), (qf0, .inl (cf0, nb, .inl f0)), (qf4, .inl (cf4, 256, .inl (upd g4_40 (l1_40 : Int32).toNatClampNeg l2_40))), (qf5, .inl (cf5, 256, .inl g5_40)), (qf6, .inl (cf6, 256, .inl g6_40))] := hD
    refine lv_aload_n hx hb dX3_readConstant_47 rfl (lv_at hl 0 rfl) ?_
    refine va_get (D := (dC, dI)) (ci := 3) (v := .ref qf5) (C := RX3) (T := TX3) (N := 14) hx hb hts uV_h7_X3 hown hK hP 0 rfl rfl 5 (by decide) (hts (.fieldLink RX3 19 "ClassMill$Image" "at" "[I") mw_h7_159) (fun _ h9 => h9) rfl dX3_readConstant_48 ?_
    refine lv_iload_n hx hb dX3_readConstant_51 rfl (lv_at hl 1 rfl) ?_
    refine lv_aload_n hx hb dX3_readConstant_52 rfl (lv_at hl 0 rfl) ?_
    refine va_get (D := (dC, dI)) (ci := 3) (v := .int x2_40) (C := RX3) (T := TX3) (N := 14) hx hb hts uV_h7_X3 hown hK hP 0 rfl rfl 2 (by decide) (hts (.fieldLink RX3 43 "ClassMill$Image" "pos" "I") mw_h7_160) (fun _ h9 => h9) rfl dX3_readConstant_53 ?_
    obtain ⟨hi_7, hsp⟩ := ox_in hsp
    refine va_iast hx hb hK hP hD hS 3 2 rfl rfl (i := l1_40) (x := x2_40) hi_7 dX3_readConstant_56 ?_
    clear hP hD hS
    intro H locs hP hD hS
    replace hP : va_P (dC, dI) vwCl [(h0, .inr (3, [.ref qf0, .int v1, .int x2_40, .int x3_40, .ref qf4, .ref qf5, .ref qf6, .int v7, .int v8, .int v9, .int v10, .ref qf11, .int v12, .ref qf13])), (qf0, .inl (cf0, nb, .inl f0)), (qf4, .inl (cf4, 256, .inl (upd g4_40 (l1_40 : Int32).toNatClampNeg l2_40))), (qf5, .inl (cf5, 256, .inl (upd g5_40 (l1_40 : Int32).toNatClampNeg x2_40))), (qf6, .inl (cf6, 256, .inl g6_40))] H := hP
    replace hD : va_D A [(h0, .inr (3, [.ref qf0, .int v1, .int x2_40, .int x3_40, .ref qf4, .ref qf5, .ref qf6, .int v7, .int v8, .int v9, .int v10, .ref qf11, .int v12, .ref qf13])), (qf0, .inl (cf0, nb, .inl f0)), (qf4, .inl (cf4, 256, .inl (upd g4_40 (l1_40 : Int32).toNatClampNeg l2_40))), (qf5, .inl (cf5, 256, .inl (upd g5_40 (l1_40 : Int32).toNatClampNeg x2_40))), (qf6, .inl (cf6, 256, .inl g6_40))] := hD
    refine lv_aload_n hx hb dX3_readConstant_57 rfl (lv_at hl 0 rfl) ?_
    refine va_get (D := (dC, dI)) (ci := 3) (v := .ref qf6) (C := RX3) (T := TX3) (N := 14) hx hb hts uV_h7_X3 hown hK hP 0 rfl rfl 6 (by decide) (hts (.fieldLink RX3 22 "ClassMill$Image" "textStop" "[I") mw_h7_161) (fun _ h9 => h9) rfl dX3_readConstant_58 ?_
    refine lv_iload_n hx hb dX3_readConstant_61 rfl (lv_at hl 1 rfl) ?_
    refine lv_iload_n hx hb dX3_readConstant_62 rfl (lv_at hl 2 rfl) ?_
    refine lv_iconst (v := 1) hx hb dX3_readConstant_63 (by decide) ?_
    refine lv_icmp_ne (tgt := 76) hx hb dX3_readConstant_64 (by decide) (fun c_8 => ?_) (fun c_8 => ?_)
    · rw [if_neg c_8] at hsp
      refine lv_aload_n hx hb dX3_readConstant_76 rfl (lv_at hl 0 rfl) ?_
      refine va_get (D := (dC, dI)) (ci := 3) (v := .int x2_40) (C := RX3) (T := TX3) (N := 14) hx hb hts uV_h7_X3 hown hK hP 0 rfl rfl 2 (by decide) (hts (.fieldLink RX3 43 "ClassMill$Image" "pos" "I") mw_h7_160) (fun _ h9 => h9) rfl dX3_readConstant_77 ?_
      exact hj_80 (H, locs, ls, l2_40, l3_40, x2_40, l1_40, (upd g4_40 (l1_40 : Int32).toNatClampNeg l2_40), (upd g5_40 (l1_40 : Int32).toNatClampNeg x2_40), g6_40, x2_40, x3_40) ⟨lv_sub hl [0, 2, 3] rfl, hS, hD.sub (ws' := [(h0, .inr (3, [.ref qf0, .int v1, .int x2_40, .int x3_40, .ref qf4, .ref qf5, .ref qf6, .int v7, .int v8, .int v9, .int v10, .ref qf11, .int v12, .ref qf13])), (qf0, .inl (cf0, nb, .inl f0)), (qf4, .inl (cf4, 256, .inl (upd g4_40 (l1_40 : Int32).toNatClampNeg l2_40))), (qf5, .inl (cf5, 256, .inl (upd g5_40 (l1_40 : Int32).toNatClampNeg x2_40))), (qf6, .inl (cf6, 256, .inl g6_40))]) [0, 1, 2, 3, 4] (by decide) rfl, hP.sub (ws' := [(h0, .inr (3, [.ref qf0, .int v1, .int x2_40, .int x3_40, .ref qf4, .ref qf5, .ref qf6, .int v7, .int v8, .int v9, .int v10, .ref qf11, .int v12, .ref qf13])), (qf0, .inl (cf0, nb, .inl f0)), (qf4, .inl (cf4, 256, .inl (upd g4_40 (l1_40 : Int32).toNatClampNeg l2_40))), (qf5, .inl (cf5, 256, .inl (upd g5_40 (l1_40 : Int32).toNatClampNeg x2_40))), (qf6, .inl (cf6, 256, .inl g6_40))]) [0, 1, 2, 3, 4] rfl, hsp⟩
    · rw [if_pos c_8] at hsp
      refine lv_aload_n hx hb dX3_readConstant_67 rfl (lv_at hl 0 rfl) ?_
      refine va_get (D := (dC, dI)) (ci := 3) (v := .int x2_40) (C := RX3) (T := TX3) (N := 14) hx hb hts uV_h7_X3 hown hK hP 0 rfl rfl 2 (by decide) (hts (.fieldLink RX3 43 "ClassMill$Image" "pos" "I") mw_h7_160) (fun _ h9 => h9) rfl dX3_readConstant_68 ?_
      refine lv_iload_n hx hb dX3_readConstant_71 rfl (lv_at hl 3 rfl) ?_
      refine lv_iadd hx hb dX3_readConstant_72 ?_
      refine lv_goto (tgt := 80) hx hb dX3_readConstant_73 (by decide) ?_
      exact hj_80 (H, locs, ls, l2_40, l3_40, (x2_40 + l3_40), l1_40, (upd g4_40 (l1_40 : Int32).toNatClampNeg l2_40), (upd g5_40 (l1_40 : Int32).toNatClampNeg x2_40), g6_40, x2_40, x3_40) ⟨lv_sub hl [0, 2, 3] rfl, hS, hD.sub (ws' := [(h0, .inr (3, [.ref qf0, .int v1, .int x2_40, .int x3_40, .ref qf4, .ref qf5, .ref qf6, .int v7, .int v8, .int v9, .int v10, .ref qf11, .int v12, .ref qf13])), (qf0, .inl (cf0, nb, .inl f0)), (qf4, .inl (cf4, 256, .inl (upd g4_40 (l1_40 : Int32).toNatClampNeg l2_40))), (qf5, .inl (cf5, 256, .inl (upd g5_40 (l1_40 : Int32).toNatClampNeg x2_40))), (qf6, .inl (cf6, 256, .inl g6_40))]) [0, 1, 2, 3, 4] (by decide) rfl, hP.sub (ws' := [(h0, .inr (3, [.ref qf0, .int v1, .int x2_40, .int x3_40, .ref qf4, .ref qf5, .ref qf6, .int v7, .int v8, .int v9, .int v10, .ref qf11, .int v12, .ref qf13])), (qf0, .inl (cf0, nb, .inl f0)), (qf4, .inl (cf4, 256, .inl (upd g4_40 (l1_40 : Int32).toNatClampNeg l2_40))), (qf5, .inl (cf5, 256, .inl (upd g5_40 (l1_40 : Int32).toNatClampNeg x2_40))), (qf6, .inl (cf6, 256, .inl g6_40))]) [0, 1, 2, 3, 4] rfl, hsp⟩
  intro hj_40
  refine jn_use (α := Heap × List Loc × Array Slot × Int32 × Int32 × Int32 × (Nat → Int32) × (Nat → Int32) × (Nat → Int32) × Int32 × Int32) (fun x9 => x9.1) (fun x9 => x9.2.1) (fun x9 => F0 m 26 x9.2.2.1 [.int (x9.2.2.2.2.2.1)]) (fun x9 => match x9 with | (H, locs, ls, l1_26, l2_26, s0_26, g4_26, g5_26, g6_26, x2_26, x3_26) => lv_has ls 5 [(0, .ref h0), (1, .int l1_26), (2, .int l2_26)] ∧ va_S A s.heap H locs ∧ va_D A [(h0, .inr (3, [.ref qf0, .int v1, .int x2_26, .int x3_26, .ref qf4, .ref qf5, .ref qf6, .int v7, .int v8, .int v9, .int v10, .ref qf11, .int v12, .ref qf13])), (qf0, .inl (cf0, nb, .inl f0)), (qf4, .inl (cf4, 256, .inl g4_26)), (qf5, .inl (cf5, 256, .inl g5_26)), (qf6, .inl (cf6, 256, .inl g6_26))] ∧ va_P (dC, dI) vwCl [(h0, .inr (3, [.ref qf0, .int v1, .int x2_26, .int x3_26, .ref qf4, .ref qf5, .ref qf6, .int v7, .int v8, .int v9, .int v10, .ref qf11, .int v12, .ref qf13])), (qf0, .inl (cf0, nb, .inl f0)), (qf4, .inl (cf4, 256, .inl g4_26)), (qf5, .inl (cf5, 256, .inl g5_26)), (qf6, .inl (cf6, 256, .inl g6_26))] H ∧ jn_v3_readConstant_26 nf a1 v1 v2 v3 nb f0 f4 f5 f6 l1_26 l2_26 s0_26 g4_26 g5_26 g6_26 x2_26 x3_26 = some (o4, o5, o6, w2, w3)) ?_ ?_
  · intro x9 hJ9
    obtain ⟨H, locs, ls, l1_26, l2_26, s0_26, g4_26, g5_26, g6_26, x2_26, x3_26⟩ := x9
    obtain ⟨hl, hS, hD, hP, hsp⟩ := hJ9
    replace hl : lv_has ls 5 [(0, .ref h0), (1, .int l1_26), (2, .int l2_26)] := hl
    replace hS : va_S A s.heap H locs := hS
    replace hD : va_D A [(h0, .inr (3, [.ref qf0, .int v1, .int x2_26, .int x3_26, .ref qf4, .ref qf5, .ref qf6, .int v7, .int v8, .int v9, .int v10, .ref qf11, .int v12, .ref qf13])), (qf0, .inl (cf0, nb, .inl f0)), (qf4, .inl (cf4, 256, .inl g4_26)), (qf5, .inl (cf5, 256, .inl g5_26)), (qf6, .inl (cf6, 256, .inl g6_26))] := hD
    replace hP : va_P (dC, dI) vwCl [(h0, .inr (3, [.ref qf0, .int v1, .int x2_26, .int x3_26, .ref qf4, .ref qf5, .ref qf6, .int v7, .int v8, .int v9, .int v10, .ref qf11, .int v12, .ref qf13])), (qf0, .inl (cf0, nb, .inl f0)), (qf4, .inl (cf4, 256, .inl g4_26)), (qf5, .inl (cf5, 256, .inl g5_26)), (qf6, .inl (cf6, 256, .inl g6_26))] H := hP
    replace hsp : jn_v3_readConstant_26 nf a1 v1 v2 v3 nb f0 f4 f5 f6 l1_26 l2_26 s0_26 g4_26 g5_26 g6_26 x2_26 x3_26 = some (o4, o5, o6, w2, w3) := hsp
    show W _ _ _ _ _ _ _ _ _ _ H locs _ _ _ (F0 m 26 ls [.int s0_26])
    unfold jn_v3_readConstant_26 at hsp
    try dsimp only at hsp
    refine lv_istore_n (lv' := [(3, .int s0_26), (0, .ref h0), (1, .int l1_26), (2, .int l2_26)]) hx hb dX3_readConstant_26 rfl hl (by decide) rfl (fun ls hl => ?_)
    refine lv_iload_n hx hb dX3_readConstant_27 rfl (lv_at hl 3 rfl) ?_
    refine lv_iconst (v := 1) hx hb dX3_readConstant_28 (by decide) ?_
    refine lv_icmp_ne (tgt := 40) hx hb dX3_readConstant_29 (by decide) (fun c_4 => ?_) (fun c_4 => ?_)
    · rw [if_neg c_4] at hsp
      exact hj_40 (H, locs, ls, l1_26, l2_26, s0_26, g4_26, g5_26, g6_26, x2_26, x3_26) ⟨lv_sub hl [1, 2, 3, 0] rfl, hS, hD.sub (ws' := [(h0, .inr (3, [.ref qf0, .int v1, .int x2_26, .int x3_26, .ref qf4, .ref qf5, .ref qf6, .int v7, .int v8, .int v9, .int v10, .ref qf11, .int v12, .ref qf13])), (qf0, .inl (cf0, nb, .inl f0)), (qf4, .inl (cf4, 256, .inl g4_26)), (qf5, .inl (cf5, 256, .inl g5_26)), (qf6, .inl (cf6, 256, .inl g6_26))]) [0, 1, 2, 3, 4] (by decide) rfl, hP.sub (ws' := [(h0, .inr (3, [.ref qf0, .int v1, .int x2_26, .int x3_26, .ref qf4, .ref qf5, .ref qf6, .int v7, .int v8, .int v9, .int v10, .ref qf11, .int v12, .ref qf13])), (qf0, .inl (cf0, nb, .inl f0)), (qf4, .inl (cf4, 256, .inl g4_26)), (qf5, .inl (cf5, 256, .inl g5_26)), (qf6, .inl (cf6, 256, .inl g6_26))]) [0, 1, 2, 3, 4] rfl, hsp⟩
    · rw [if_pos c_4] at hsp
      refine lv_aload_n hx hb dX3_readConstant_32 rfl (lv_at hl 1 rfl) ?_
      refine lv_iconst (v := 1) hx hb dX3_readConstant_33 (by decide) ?_
      refine lv_bipush (v := 120) hx hb dX3_readConstant_34 (by decide) ?_
      obtain ⟨⟨u2_0, u2_1, u2_2⟩, hu_2, hsp⟩ := ox_bind hsp
      try dsimp only at hsp
      have hPc := hP.sub (ws' := [(h0, .inr (3, [.ref qf0, .int v1, .int x2_26, .int x3_26, .ref qf4, .ref qf5, .ref qf6, .int v7, .int v8, .int v9, .int v10, .ref qf11, .int v12, .ref qf13])), (qf0, .inl (cf0, nb, .inl f0))]) [0, 1] rfl
      have hDc := hD.sub (ws' := [(h0, .inr (3, [.ref qf0, .int v1, .int x2_26, .int x3_26, .ref qf4, .ref qf5, .ref qf6, .int v7, .int v8, .int v9, .int v10, .ref qf11, .int v12, .ref qf13])), (qf0, .inl (cf0, nb, .inl f0))]) [0, 1] (by decide) rfl
      have hKc := hK.sub (tys' := [(cf0, .byte)]) [0] rfl
      have hFc := va_free (wc := [(h0, .inr (3, [.ref qf0, .int v1, .int x2_26, .int x3_26, .ref qf4, .ref qf5, .ref qf6, .int v7, .int v8, .int v9, .int v10, .ref qf11, .int v12, .ref qf13])), (qf0, .inl (cf0, nb, .inl f0))]) hD hS hA [0, 1] rfl
      refine va_calli (va_runV (As := [.int 1, .int 120]) (rest := []) ⟨hx, hb, hml, hown, hts⟩ (ti_nextUpTo l dC dI H.size h0 1 120 qf0 v1 x2_26 x3_26 qf4 qf5 qf6 v7 v8 v9 v10 qf11 v12 qf13 cf0 nb f0 nf u2_0 u2_1 u2_2 hu_2) (cwV 2 hts gv_h7_29 rfl rfl rfl (by decide +kernel) ⟨Nat.le_of_ble_eq_true rfl, Nat.le_of_ble_eq_true rfl⟩) ⟨fun a U g mk q => by obtain ⟨q0, q1, qP, qK, qD⟩ := q; exact ⟨q0, q1, qP, va_K.moved (u := U) (U := U.calling g mk a) (Vm.Alike.refl U.vm) qK, qD⟩, va_recv hKc hPc (ci := 3) (q0 := 0) rfl rfl, fun U hU hW => ⟨rfl, by rw [hU], by rw [hU]; exact hPc, va_K.moved hW.alike hKc, hDc.weaken (fun _ _ _ _ => trivial)⟩⟩ rfl rfl hl.1 rfl (lv_room (Nat.le_of_ble_eq_true rfl)) dX3_readConstant_36 ⟨Nat.le_of_ble_eq_true rfl, Nat.le_of_ble_eq_true rfl⟩) hS (fun q _ h => hFc q h) hFc ?_
      clear hS
      intro r_5 u t H1 locs ht hvm hw hB hz1 hk1 hS
      obtain ⟨⟩ := u
      obtain ⟨hP1, hK1, hD1⟩ := hB
      rw [ht] at hP1
      have hK1 := va_K.moved hvm.symm hK1
      try dsimp only at hw
      have hPD := va_join (wr := [(qf4, .inl (cf4, 256, .inl g4_26)), (qf5, .inl (cf5, 256, .inl g5_26)), (qf6, .inl (cf6, 256, .inl g6_26))]) (w1 := [(h0, .inr (3, [.ref qf0, .int v1, .int u2_1, .int u2_2, .ref qf4, .ref qf5, .ref qf6, .int v7, .int v8, .int v9, .int v10, .ref qf11, .int v12, .ref qf13])), (qf0, .inl (cf0, nb, .inl f0))]) hP hD [0, 1] [2, 3, 4] rfl rfl (by decide) (by decide) hk1 hFc hP1 hD1
      clear hP hD
      obtain ⟨hP, hD⟩ := hPD
      replace hK := (hK.sub (tys' := [(cf4, .int), (cf5, .int), (cf6, .int)]) [1, 2, 3] rfl).app hK1
      clear hPc hDc hKc hFc hP1 hK1 hD1 hz1 hk1 ht hvm
      generalize H1 = H at hP hS ⊢
      replace hP : va_P (dC, dI) vwCl [(qf4, .inl (cf4, 256, .inl g4_26)), (qf5, .inl (cf5, 256, .inl g5_26)), (qf6, .inl (cf6, 256, .inl g6_26)), (h0, .inr (3, [.ref qf0, .int v1, .int u2_1, .int u2_2, .ref qf4, .ref qf5, .ref qf6, .int v7, .int v8, .int v9, .int v10, .ref qf11, .int v12, .ref qf13])), (qf0, .inl (cf0, nb, .inl f0))] H := hP
      replace hD : va_D A [(qf4, .inl (cf4, 256, .inl g4_26)), (qf5, .inl (cf5, 256, .inl g5_26)), (qf6, .inl (cf6, 256, .inl g6_26)), (h0, .inr (3, [.ref qf0, .int v1, .int u2_1, .int u2_2, .ref qf4, .ref qf5, .ref qf6, .int v7, .int v8, .int v9, .int v10, .ref qf11, .int v12, .ref qf13])), (qf0, .inl (cf0, nb, .inl f0))] := hD
      replace hK : va_K (dC, dI) vwCl [(cf4, .int), (cf5, .int), (cf6, .int), (cf0, .byte)] s := hK
      obtain rfl := hw
      refine lv_istore_n (lv' := [(3, .int u2_0), (0, .ref h0), (1, .int l1_26), (2, .int l2_26)]) hx hb dX3_readConstant_39 rfl hl (by decide) rfl (fun ls hl => ?_)
      exact hj_40 (H, locs, ls, l1_26, l2_26, u2_0, g4_26, g5_26, g6_26, u2_1, u2_2) ⟨lv_sub hl [1, 2, 3, 0] rfl, hS, hD.sub (ws' := [(h0, .inr (3, [.ref qf0, .int v1, .int u2_1, .int u2_2, .ref qf4, .ref qf5, .ref qf6, .int v7, .int v8, .int v9, .int v10, .ref qf11, .int v12, .ref qf13])), (qf0, .inl (cf0, nb, .inl f0)), (qf4, .inl (cf4, 256, .inl g4_26)), (qf5, .inl (cf5, 256, .inl g5_26)), (qf6, .inl (cf6, 256, .inl g6_26))]) [3, 4, 0, 1, 2] (by decide) rfl, hP.sub (ws' := [(h0, .inr (3, [.ref qf0, .int v1, .int u2_1, .int u2_2, .ref qf4, .ref qf5, .ref qf6, .int v7, .int v8, .int v9, .int v10, .ref qf11, .int v12, .ref qf13])), (qf0, .inl (cf0, nb, .inl f0)), (qf4, .inl (cf4, 256, .inl g4_26)), (qf5, .inl (cf5, 256, .inl g5_26)), (qf6, .inl (cf6, 256, .inl g6_26))]) [3, 4, 0, 1, 2] rfl, hsp⟩
  intro hj_26
  refine lv_aload_n hx hb dX3_readConstant_0 rfl (lv_at hl 0 rfl) ?_
  refine lv_iconst (v := 1) hx hb dX3_readConstant_1 (by decide) ?_
  refine lv_iconst (v := 4) hx hb dX3_readConstant_2 (by decide) ?_
  obtain ⟨⟨u1_0, u1_1, u1_2⟩, hu_1, hsp⟩ := ox_bind hsp
  try dsimp only at hsp
  have hPc := hP.sub (ws' := [(h0, .inr (3, [.ref qf0, .int v1, .int v2, .int v3, .ref qf4, .ref qf5, .ref qf6, .int v7, .int v8, .int v9, .int v10, .ref qf11, .int v12, .ref qf13])), (qf0, .inl (cf0, nb, .inl f0))]) [0, 1] rfl
  have hDc := hD.sub (ws' := [(h0, .inr (3, [.ref qf0, .int v1, .int v2, .int v3, .ref qf4, .ref qf5, .ref qf6, .int v7, .int v8, .int v9, .int v10, .ref qf11, .int v12, .ref qf13])), (qf0, .inl (cf0, nb, .inl f0))]) [0, 1] (by decide) rfl
  have hKc := hK.sub (tys' := [(cf0, .byte)]) [0] rfl
  have hFc := va_free (wc := [(h0, .inr (3, [.ref qf0, .int v1, .int v2, .int v3, .ref qf4, .ref qf5, .ref qf6, .int v7, .int v8, .int v9, .int v10, .ref qf11, .int v12, .ref qf13])), (qf0, .inl (cf0, nb, .inl f0))]) hD hS hA [0, 1] rfl
  refine va_calli (va_runV (As := [.int 1, .int 4]) (rest := []) ⟨hx, hb, hml, hown, hts⟩ (ti_nextUpTo l dC dI H.size h0 1 4 qf0 v1 v2 v3 qf4 qf5 qf6 v7 v8 v9 v10 qf11 v12 qf13 cf0 nb f0 nf u1_0 u1_1 u1_2 hu_1) (cwV 2 hts gv_h7_29 rfl rfl rfl (by decide +kernel) ⟨Nat.le_of_ble_eq_true rfl, Nat.le_of_ble_eq_true rfl⟩) ⟨fun a U g mk q => by obtain ⟨q0, q1, qP, qK, qD⟩ := q; exact ⟨q0, q1, qP, va_K.moved (u := U) (U := U.calling g mk a) (Vm.Alike.refl U.vm) qK, qD⟩, va_recv hKc hPc (ci := 3) (q0 := 0) rfl rfl, fun U hU hW => ⟨rfl, by rw [hU], by rw [hU]; exact hPc, va_K.moved hW.alike hKc, hDc.weaken (fun _ _ _ _ => trivial)⟩⟩ rfl rfl hl.1 rfl (lv_room (Nat.le_of_ble_eq_true rfl)) dX3_readConstant_3 ⟨Nat.le_of_ble_eq_true rfl, Nat.le_of_ble_eq_true rfl⟩) hS (fun q _ h => hFc q h) hFc ?_
  clear hS
  intro r_1 u t H1 locs ht hvm hw hB hz1 hk1 hS
  obtain ⟨⟩ := u
  obtain ⟨hP1, hK1, hD1⟩ := hB
  rw [ht] at hP1
  have hK1 := va_K.moved hvm.symm hK1
  try dsimp only at hw
  have hPD := va_join (wr := [(qf4, .inl (cf4, 256, .inl f4)), (qf5, .inl (cf5, 256, .inl f5)), (qf6, .inl (cf6, 256, .inl f6))]) (w1 := [(h0, .inr (3, [.ref qf0, .int v1, .int u1_1, .int u1_2, .ref qf4, .ref qf5, .ref qf6, .int v7, .int v8, .int v9, .int v10, .ref qf11, .int v12, .ref qf13])), (qf0, .inl (cf0, nb, .inl f0))]) hP hD [0, 1] [2, 3, 4] rfl rfl (by decide) (by decide) hk1 hFc hP1 hD1
  clear hP hD
  obtain ⟨hP, hD⟩ := hPD
  replace hK := (hK.sub (tys' := [(cf4, .int), (cf5, .int), (cf6, .int)]) [1, 2, 3] rfl).app hK1
  clear hPc hDc hKc hFc hP1 hK1 hD1 hz1 hk1 ht hvm
  generalize H1 = H at hP hS ⊢
  replace hP : va_P (dC, dI) vwCl [(qf4, .inl (cf4, 256, .inl f4)), (qf5, .inl (cf5, 256, .inl f5)), (qf6, .inl (cf6, 256, .inl f6)), (h0, .inr (3, [.ref qf0, .int v1, .int u1_1, .int u1_2, .ref qf4, .ref qf5, .ref qf6, .int v7, .int v8, .int v9, .int v10, .ref qf11, .int v12, .ref qf13])), (qf0, .inl (cf0, nb, .inl f0))] H := hP
  replace hD : va_D A [(qf4, .inl (cf4, 256, .inl f4)), (qf5, .inl (cf5, 256, .inl f5)), (qf6, .inl (cf6, 256, .inl f6)), (h0, .inr (3, [.ref qf0, .int v1, .int u1_1, .int u1_2, .ref qf4, .ref qf5, .ref qf6, .int v7, .int v8, .int v9, .int v10, .ref qf11, .int v12, .ref qf13])), (qf0, .inl (cf0, nb, .inl f0))] := hD
  replace hK : va_K (dC, dI) vwCl [(cf4, .int), (cf5, .int), (cf6, .int), (cf0, .byte)] s := hK
  obtain rfl := hw
  refine lv_istore_n (lv' := [(2, .int u1_0), (0, .ref h0), (1, .int a1)]) hx hb dX3_readConstant_6 rfl hl (by decide) rfl (fun ls hl => ?_)
  refine lv_iload_n hx hb dX3_readConstant_7 rfl (lv_at hl 0 rfl) ?_
  refine lv_iconst (v := 2) hx hb dX3_readConstant_8 (by decide) ?_
  refine lv_icmp_ne (tgt := 16) hx hb dX3_readConstant_9 (by decide) (fun c_2 => ?_) (fun c_2 => ?_)
  · rw [if_neg c_2] at hsp
    refine lv_iload_n hx hb dX3_readConstant_16 rfl (lv_at hl 0 rfl) ?_
    refine lv_iconst (v := 3) hx hb dX3_readConstant_17 (by decide) ?_
    refine lv_icmp_ne (tgt := 25) hx hb dX3_readConstant_18 (by decide) (fun c_3 => ?_) (fun c_3 => ?_)
    · rw [if_neg c_3] at hsp
      refine lv_iconst (v := 3) hx hb dX3_readConstant_25 (by decide) ?_
      exact hj_26 (H, locs, ls, a1, u1_0, 3, f4, f5, f6, u1_1, u1_2) ⟨lv_sub hl [1, 2, 0] rfl, hS, hD.sub (ws' := [(h0, .inr (3, [.ref qf0, .int v1, .int u1_1, .int u1_2, .ref qf4, .ref qf5, .ref qf6, .int v7, .int v8, .int v9, .int v10, .ref qf11, .int v12, .ref qf13])), (qf0, .inl (cf0, nb, .inl f0)), (qf4, .inl (cf4, 256, .inl f4)), (qf5, .inl (cf5, 256, .inl f5)), (qf6, .inl (cf6, 256, .inl f6))]) [3, 4, 0, 1, 2] (by decide) rfl, hP.sub (ws' := [(h0, .inr (3, [.ref qf0, .int v1, .int u1_1, .int u1_2, .ref qf4, .ref qf5, .ref qf6, .int v7, .int v8, .int v9, .int v10, .ref qf11, .int v12, .ref qf13])), (qf0, .inl (cf0, nb, .inl f0)), (qf4, .inl (cf4, 256, .inl f4)), (qf5, .inl (cf5, 256, .inl f5)), (qf6, .inl (cf6, 256, .inl f6))]) [3, 4, 0, 1, 2] rfl, hsp⟩
    · rw [if_pos c_3] at hsp
      refine lv_iconst (v := 1) hx hb dX3_readConstant_21 (by decide) ?_
      refine lv_goto (tgt := 26) hx hb dX3_readConstant_22 (by decide) ?_
      exact hj_26 (H, locs, ls, a1, u1_0, 1, f4, f5, f6, u1_1, u1_2) ⟨lv_sub hl [1, 2, 0] rfl, hS, hD.sub (ws' := [(h0, .inr (3, [.ref qf0, .int v1, .int u1_1, .int u1_2, .ref qf4, .ref qf5, .ref qf6, .int v7, .int v8, .int v9, .int v10, .ref qf11, .int v12, .ref qf13])), (qf0, .inl (cf0, nb, .inl f0)), (qf4, .inl (cf4, 256, .inl f4)), (qf5, .inl (cf5, 256, .inl f5)), (qf6, .inl (cf6, 256, .inl f6))]) [3, 4, 0, 1, 2] (by decide) rfl, hP.sub (ws' := [(h0, .inr (3, [.ref qf0, .int v1, .int u1_1, .int u1_2, .ref qf4, .ref qf5, .ref qf6, .int v7, .int v8, .int v9, .int v10, .ref qf11, .int v12, .ref qf13])), (qf0, .inl (cf0, nb, .inl f0)), (qf4, .inl (cf4, 256, .inl f4)), (qf5, .inl (cf5, 256, .inl f5)), (qf6, .inl (cf6, 256, .inl f6))]) [3, 4, 0, 1, 2] rfl, hsp⟩
  · rw [if_pos c_2] at hsp
    refine lv_iconst (v := 4) hx hb dX3_readConstant_12 (by decide) ?_
    refine lv_goto (tgt := 26) hx hb dX3_readConstant_13 (by decide) ?_
    exact hj_26 (H, locs, ls, a1, u1_0, 4, f4, f5, f6, u1_1, u1_2) ⟨lv_sub hl [1, 2, 0] rfl, hS, hD.sub (ws' := [(h0, .inr (3, [.ref qf0, .int v1, .int u1_1, .int u1_2, .ref qf4, .ref qf5, .ref qf6, .int v7, .int v8, .int v9, .int v10, .ref qf11, .int v12, .ref qf13])), (qf0, .inl (cf0, nb, .inl f0)), (qf4, .inl (cf4, 256, .inl f4)), (qf5, .inl (cf5, 256, .inl f5)), (qf6, .inl (cf6, 256, .inl f6))]) [3, 4, 0, 1, 2] (by decide) rfl, hP.sub (ws' := [(h0, .inr (3, [.ref qf0, .int v1, .int u1_1, .int u1_2, .ref qf4, .ref qf5, .ref qf6, .int v7, .int v8, .int v9, .int v10, .ref qf11, .int v12, .ref qf13])), (qf0, .inl (cf0, nb, .inl f0)), (qf4, .inl (cf4, 256, .inl f4)), (qf5, .inl (cf5, 256, .inl f5)), (qf6, .inl (cf6, 256, .inl f6))]) [3, 4, 0, 1, 2] rfl, hsp⟩
def jn_v3_builtIn_71 (nf : Nat) (a1 : Int32) (a2 : Int32) (v1 : Int32) (nb : Nat) (f0 : Nat → Int32) (nS132 : Nat) (fS132 : Nat → Int32) (kk_8 : Int32 → Int32 → Int32 → Int32 → Int32 → Option (Int32)) (l1_71 : Int32) (l2_71 : Int32) (l3_71 : Int32) (l4_71 : Int32) (l5_71 : Int32) (s0_71 : Int32) : Option (Int32) := (if s0_71 = 0 then (kk_8 l1_71 l2_71 l3_71 (-1) (l5_71 + 1)) else (kk_8 l1_71 l2_71 l3_71 (l4_71 + 1) (l5_71 + 1)))
def jn_v3_builtIn_70 (nf : Nat) (a1 : Int32) (a2 : Int32) (v1 : Int32) (nb : Nat) (f0 : Nat → Int32) (nS132 : Nat) (fS132 : Nat → Int32) (kk_8 : Int32 → Int32 → Int32 → Int32 → Int32 → Option (Int32)) (l1_70 : Int32) (l2_70 : Int32) (l3_70 : Int32) (l4_70 : Int32) (l5_70 : Int32) : Option (Int32) := (jn_v3_builtIn_71 nf a1 a2 v1 nb f0 nS132 fS132 kk_8 l1_70 l2_70 l3_70 l4_70 l5_70 0)
def lp_v3_builtIn_8 (nf n : Nat) (a1 : Int32) (a2 : Int32) (v1 : Int32) (nb : Nat) (f0 : Nat → Int32) (nS132 : Nat) (fS132 : Nat → Int32)  (l1_8 : Int32) (l2_8 : Int32) (l3_8 : Int32) (l4_8 : Int32) (l5_8 : Int32) : Option (Int32) := match n with
  | 0 => none
  | n + 1 => (if (nI nS132) ≤ l5_8 then (some (-1)) else (if l5_8 < 0 then none else if nS132 ≤ (l5_8 : Int32).toNatClampNeg then none else if 2147483648 ≤ nS132 then none else (if (((fS132 (l5_8 : Int32).toNatClampNeg) &&& 255).toUInt32 % 65536).toInt32 = 32 then (if l4_8 = l2_8 then (some l3_8) else (lp_v3_builtIn_8 nf n a1 a2 v1 nb f0 nS132 fS132 l1_8 l2_8 (l3_8 + 1) l1_8 (l5_8 + 1))) else (if l4_8 < 0 then (jn_v3_builtIn_70 nf a1 a2 v1 nb f0 nS132 fS132 (lp_v3_builtIn_8 nf n a1 a2 v1 nb f0 nS132 fS132) l1_8 l2_8 l3_8 l4_8 l5_8) else (if l2_8 ≤ l4_8 then (jn_v3_builtIn_70 nf a1 a2 v1 nb f0 nS132 fS132 (lp_v3_builtIn_8 nf n a1 a2 v1 nb f0 nS132 fS132) l1_8 l2_8 l3_8 l4_8 l5_8) else (if v1 ≤ l4_8 then (jn_v3_builtIn_70 nf a1 a2 v1 nb f0 nS132 fS132 (lp_v3_builtIn_8 nf n a1 a2 v1 nb f0 nS132 fS132) l1_8 l2_8 l3_8 l4_8 l5_8) else (if l4_8 < 0 then none else if nb ≤ (l4_8 : Int32).toNatClampNeg then none else (if (f0 (l4_8 : Int32).toNatClampNeg) = (((fS132 (l5_8 : Int32).toNatClampNeg) &&& 255).toUInt32 % 65536).toInt32 then (jn_v3_builtIn_71 nf a1 a2 v1 nb f0 nS132 fS132 (lp_v3_builtIn_8 nf n a1 a2 v1 nb f0 nS132 fS132) l1_8 l2_8 l3_8 l4_8 l5_8 1) else (jn_v3_builtIn_70 nf a1 a2 v1 nb f0 nS132 fS132 (lp_v3_builtIn_8 nf n a1 a2 v1 nb f0 nS132 fS132) l1_8 l2_8 l3_8 l4_8 l5_8)))))))))
def sp_v3_builtIn (nf : Nat) (a1 : Int32) (a2 : Int32) (v1 : Int32) (nb : Nat) (f0 : Nat → Int32) (nS132 : Nat) (fS132 : Nat → Int32) : Option (Int32) := (lp_v3_builtIn_8 nf nf a1 a2 v1 nb f0 nS132 fS132  a1 a2 0 a1 0)
set_option maxHeartbeats 4000000 in
set_option maxRecDepth 100000 in
/-- ClassMill$Image.builtIn -/
theorem v3_builtIn (l : Launch) (dC : Nat → ClassId) (dI : Nat → Nat → Nat) (sz : Nat) (h0 : Nat) (a1 : Int32) (a2 : Int32) (qf0 : Nat) (v1 : Int32) (v2 : Int32) (v3 : Int32) (qf4 : Nat) (qf5 : Nat) (qf6 : Nat) (v7 : Int32) (v8 : Int32) (v9 : Int32) (v10 : Int32) (qf11 : Nat) (v12 : Int32) (qf13 : Nat) (cf0 : ClassId) (nb : Nat) (f0 : (Nat → Int32)) (nS132 : Nat) (fS132 : (Nat → Int32)) (hS132 : Nat) (qS132 : Nat) (tS132 : String) (nf : Nat) (r0 : Int32) (hsp : sp_v3_builtIn nf a1 a2 v1 nb f0 nS132 fS132 = some r0) : Met l yX3_builtIn (.code yX3_builtIn cX3_builtIn 8 (some .int) :: VS_h7) ({ frames := 4, cells := 0, slots := 0, locals := 85 }) (va_Pc [.ref h0, .int a1, .int a2] (fun U => U.heap.size = sz ∧ va_P (dC, dI) vwCl [(h0, .inr (3, [.ref qf0, .int v1, .int v2, .int v3, .ref qf4, .ref qf5, .ref qf6, .int v7, .int v8, .int v9, .int v10, .ref qf11, .int v12, .ref qf13])), (qf0, .inl (cf0, nb, .inl f0))] U.heap ∧ va_K (dC, dI) vwCl [(cf0, .byte)] U ∧ va_D (fun _ => True) [(h0, .inr (3, [.ref qf0, .int v1, .int v2, .int v3, .ref qf4, .ref qf5, .ref qf6, .int v7, .int v8, .int v9, .int v10, .ref qf11, .int v12, .ref qf13])), (qf0, .inl (cf0, nb, .inl f0))] ∧ pz_W nS132 fS132 hS132 qS132 (va_A [(h0, .inr (3, [.ref qf0, .int v1, .int v2, .int v3, .ref qf4, .ref qf5, .ref qf6, .int v7, .int v8, .int v9, .int v10, .ref qf11, .int v12, .ref qf13])), (qf0, .inl (cf0, nb, .inl f0))] sz) U U.heap ∧ vk_R RX3 132 tS132 hS132 U)) (va_Qi (fun (r : Int32) (u : Unit) => match u with | () => r0 = r) (fun (u : Unit) (t : State) => match u with | () => va_P (dC, dI) vwCl [(h0, .inr (3, [.ref qf0, .int v1, .int v2, .int v3, .ref qf4, .ref qf5, .ref qf6, .int v7, .int v8, .int v9, .int v10, .ref qf11, .int v12, .ref qf13])), (qf0, .inl (cf0, nb, .inl f0))] t.heap ∧ va_K (dC, dI) vwCl [(cf0, .byte)] t ∧ va_D (va_A [(h0, .inr (3, [.ref qf0, .int v1, .int v2, .int v3, .ref qf4, .ref qf5, .ref qf6, .int v7, .int v8, .int v9, .int v10, .ref qf11, .int v12, .ref qf13])), (qf0, .inl (cf0, nb, .inl f0))] sz) [(h0, .inr (3, [.ref qf0, .int v1, .int v2, .int v3, .ref qf4, .ref qf5, .ref qf6, .int v7, .int v8, .int v9, .int v10, .ref qf11, .int v12, .ref qf13])), (qf0, .inl (cf0, nb, .inl f0))]) (va_A [(h0, .inr (3, [.ref qf0, .int v1, .int v2, .int v3, .ref qf4, .ref qf5, .ref qf6, .int v7, .int v8, .int v9, .int v10, .ref qf11, .int v12, .ref qf13])), (qf0, .inl (cf0, nb, .inl f0))] sz)) 0 0 (va_A [(h0, .inr (3, [.ref qf0, .int v1, .int v2, .int v3, .ref qf4, .ref qf5, .ref qf6, .int v7, .int v8, .int v9, .int v10, .ref qf11, .int v12, .ref qf13])), (qf0, .inl (cf0, nb, .inl f0))] sz) := by
  refine Met.ofW (cc := cX3_builtIn) (maxL := 8) (ret := (some .int)) (by decide) rfl ?_
  intro p e s m args below meth c s₁ B hml hv
  obtain ⟨rfl, hsz, hP, hK, hD0, hZWS132, hZRS132⟩ := hv
  have hx := B.exec
  have hb := B.bytes
  have hr := B.returns
  have hts := atoms_spec (ws := (.code yX3_builtIn cX3_builtIn 8 (some .int) :: VS_h7)) B.pre
  replace hts := fun w (h : w ∈ VS_h7) => hts w (List.mem_cons_of_mem _ h)
  have hown : s.vm.findClass RX3 = some m.cls := findClass_of_methodNamed B.named
  have hlocks := B.notSynchronized
  subst hsz
  have hD := hD0.self (sz := s.heap.size)
  generalize hAe : va_A [(h0, .inr (3, [.ref qf0, .int v1, .int v2, .int v3, .ref qf4, .ref qf5, .ref qf6, .int v7, .int v8, .int v9, .int v10, .ref qf11, .int v12, .ref qf13])), (qf0, .inl (cf0, nb, .inl f0))] s.heap.size = A at hD hZWS132 ⊢
  have hA : ∀ q : Nat, s.heap.size ≤ q → A q := fun q h => by rw [← hAe]; exact Or.inr h
  have hP : va_P (dC, dI) vwCl [(h0, .inr (3, [.ref qf0, .int v1, .int v2, .int v3, .ref qf4, .ref qf5, .ref qf6, .int v7, .int v8, .int v9, .int v10, .ref qf11, .int v12, .ref qf13])), (qf0, .inl (cf0, nb, .inl f0))] s.heap := hP
  have hl := lv_entry ([.ref h0, .int a1, .int a2]) (n := 8) (Nat.le_of_ble_eq_true rfl)
  rw [lg_entry_eq]
  generalize (lg_sl ([.ref h0, .int a1, .int a2]) ++ List.replicate (8 - (lg_sl ([.ref h0, .int a1, .int a2])).length) Slot.unset).toArray = ls at hl ⊢
  have hl : lv_has ls 8 [(0, .ref h0), (1, .int a1), (2, .int a2)] := hl
  obtain ⟨H, hH⟩ : ∃ H : Heap, s.heap = H := ⟨_, rfl⟩
  rw [hH] at hP ⊢
  have hS : va_S A s.heap H [] := by rw [← hH]; exact va_S.rf
  obtain ⟨locs, hlo⟩ : ∃ locs : List Loc, locs = [] := ⟨_, rfl⟩
  rw [← hlo] at hS ⊢
  unfold sp_v3_builtIn at hsp
  refine lv_iconst (v := 0) hx hb dX3_builtIn_0 (by decide) ?_
  refine lv_istore_n (lv' := [(3, .int 0), (0, .ref h0), (1, .int a1), (2, .int a2)]) hx hb dX3_builtIn_1 rfl hl (by decide) rfl (fun ls hl => ?_)
  refine lv_iload_n hx hb dX3_builtIn_2 rfl (lv_at hl 2 rfl) ?_
  refine lv_istore (lv' := [(4, .int a1), (3, .int 0), (0, .ref h0), (1, .int a1), (2, .int a2)]) hx hb dX3_builtIn_3 hl (by decide) rfl (fun ls hl => ?_)
  refine lv_iconst (v := 0) hx hb dX3_builtIn_5 (by decide) ?_
  refine lv_istore (lv' := [(5, .int 0), (4, .int a1), (3, .int 0), (0, .ref h0), (1, .int a1), (2, .int a2)]) hx hb dX3_builtIn_6 hl (by decide) rfl (fun ls hl => ?_)
  replace hl : lv_has ls 8 [(5, .int 0), (4, .int a1), (3, .int 0), (0, .ref h0), (1, .int a1), (2, .int a2)] := lv_sub hl [0, 1, 2, 3, 4, 5] rfl
  replace hP := hP.sub (ws' := [(h0, .inr (3, [.ref qf0, .int v1, .int v2, .int v3, .ref qf4, .ref qf5, .ref qf6, .int v7, .int v8, .int v9, .int v10, .ref qf11, .int v12, .ref qf13])), (qf0, .inl (cf0, nb, .inl f0))]) [0, 1] rfl
  replace hD := hD.sub (ws' := [(h0, .inr (3, [.ref qf0, .int v1, .int v2, .int v3, .ref qf4, .ref qf5, .ref qf6, .int v7, .int v8, .int v9, .int v10, .ref qf11, .int v12, .ref qf13])), (qf0, .inl (cf0, nb, .inl f0))]) [0, 1] (by decide) rfl
  replace hK := hK.sub (tys' := [(cf0, .byte)]) [0] rfl
  obtain ⟨n_8, hn_8⟩ : ∃ z : Nat, z = nf := ⟨_, rfl⟩
  obtain ⟨l1_8, el1_8⟩ : ∃ z : Int32, z = a1 := ⟨_, rfl⟩
  obtain ⟨l2_8, el2_8⟩ : ∃ z : Int32, z = a2 := ⟨_, rfl⟩
  obtain ⟨l3_8, el3_8⟩ : ∃ z : Int32, z = 0 := ⟨_, rfl⟩
  obtain ⟨l4_8, el4_8⟩ : ∃ z : Int32, z = a1 := ⟨_, rfl⟩
  obtain ⟨l5_8, el5_8⟩ : ∃ z : Int32, z = 0 := ⟨_, rfl⟩
  replace hsp : lp_v3_builtIn_8 nf n_8 a1 a2 v1 nb f0 nS132 fS132 l1_8 l2_8 l3_8 l4_8 l5_8 = some r0 := by rw [hn_8, el1_8, el2_8, el3_8, el4_8, el5_8]; exact hsp
  replace hl : lv_has ls 8 [(5, .int l5_8), (4, .int l4_8), (3, .int l3_8), (0, .ref h0), (1, .int l1_8), (2, .int l2_8)] := by rw [el1_8, el2_8, el3_8, el4_8, el5_8]; exact hl
  clear hn_8 el1_8 el2_8 el3_8 el4_8 el5_8
  try clear hlo
  try clear hH
  revert hsp
  revert hP
  revert hD
  revert hS
  revert hl
  revert l5_8
  revert l4_8
  revert l3_8
  revert l2_8
  revert l1_8
  revert ls
  revert locs
  revert H
  induction n_8 with
  | zero => intro H locs ls l1_8 l2_8 l3_8 l4_8 l5_8  hl hS hD hP hsp; unfold lp_v3_builtIn_8 at hsp; cases hsp
  | succ n_8 ih_8 =>
    intro H locs ls l1_8 l2_8 l3_8 l4_8 l5_8  hl hS hD hP hsp
    unfold lp_v3_builtIn_8 at hsp
    try dsimp only at hsp
    refine jn_use (α := Heap × List Loc × Array Slot × Int32 × Int32 × Int32 × Int32 × Int32 × Int32) (fun x9 => x9.1) (fun x9 => x9.2.1) (fun x9 => F0 m 71 x9.2.2.1 [.int (x9.2.2.2.2.2.2.2.2)]) (fun x9 => match x9 with | (H, locs, ls, l1_71, l2_71, l3_71, l4_71, l5_71, s0_71) => lv_has ls 8 [(0, .ref h0), (1, .int l1_71), (2, .int l2_71), (3, .int l3_71), (4, .int l4_71), (5, .int l5_71)] ∧ va_S A s.heap H locs ∧ va_D A [(h0, .inr (3, [.ref qf0, .int v1, .int v2, .int v3, .ref qf4, .ref qf5, .ref qf6, .int v7, .int v8, .int v9, .int v10, .ref qf11, .int v12, .ref qf13])), (qf0, .inl (cf0, nb, .inl f0))] ∧ va_P (dC, dI) vwCl [(h0, .inr (3, [.ref qf0, .int v1, .int v2, .int v3, .ref qf4, .ref qf5, .ref qf6, .int v7, .int v8, .int v9, .int v10, .ref qf11, .int v12, .ref qf13])), (qf0, .inl (cf0, nb, .inl f0))] H ∧ jn_v3_builtIn_71 nf a1 a2 v1 nb f0 nS132 fS132 (lp_v3_builtIn_8 nf n_8 a1 a2 v1 nb f0 nS132 fS132) l1_71 l2_71 l3_71 l4_71 l5_71 s0_71 = some r0) ?_ ?_
    · intro x9 hJ9
      obtain ⟨H, locs, ls, l1_71, l2_71, l3_71, l4_71, l5_71, s0_71⟩ := x9
      obtain ⟨hl, hS, hD, hP, hsp⟩ := hJ9
      replace hl : lv_has ls 8 [(0, .ref h0), (1, .int l1_71), (2, .int l2_71), (3, .int l3_71), (4, .int l4_71), (5, .int l5_71)] := hl
      replace hS : va_S A s.heap H locs := hS
      replace hD : va_D A [(h0, .inr (3, [.ref qf0, .int v1, .int v2, .int v3, .ref qf4, .ref qf5, .ref qf6, .int v7, .int v8, .int v9, .int v10, .ref qf11, .int v12, .ref qf13])), (qf0, .inl (cf0, nb, .inl f0))] := hD
      replace hP : va_P (dC, dI) vwCl [(h0, .inr (3, [.ref qf0, .int v1, .int v2, .int v3, .ref qf4, .ref qf5, .ref qf6, .int v7, .int v8, .int v9, .int v10, .ref qf11, .int v12, .ref qf13])), (qf0, .inl (cf0, nb, .inl f0))] H := hP
      replace hsp : jn_v3_builtIn_71 nf a1 a2 v1 nb f0 nS132 fS132 (lp_v3_builtIn_8 nf n_8 a1 a2 v1 nb f0 nS132 fS132) l1_71 l2_71 l3_71 l4_71 l5_71 s0_71 = some r0 := hsp
      show W _ _ _ _ _ _ _ _ _ _ H locs _ _ _ (F0 m 71 ls [.int s0_71])
      unfold jn_v3_builtIn_71 at hsp
      try dsimp only at hsp
      refine lv_istore (lv' := [(7, .int s0_71), (0, .ref h0), (1, .int l1_71), (2, .int l2_71), (3, .int l3_71), (4, .int l4_71), (5, .int l5_71)]) hx hb dX3_builtIn_71 hl (by decide) rfl (fun ls hl => ?_)
      refine lv_iload hx hb dX3_builtIn_73 (lv_at hl 0 rfl) ?_
      refine lv_if_eq (tgt := 85) hx hb dX3_builtIn_75 (by decide) (fun c_12 => ?_) (fun c_12 => ?_)
      · rw [if_pos c_12] at hsp
        refine lv_iconst (v := (-1)) hx hb dX3_builtIn_85 (by decide) ?_
        refine lv_istore (lv' := [(4, .int (-1)), (7, .int s0_71), (0, .ref h0), (1, .int l1_71), (2, .int l2_71), (3, .int l3_71), (5, .int l5_71)]) hx hb dX3_builtIn_86 hl (by decide) rfl (fun ls hl => ?_)
        refine lv_goto (tgt := 105) hx hb dX3_builtIn_88 (by decide) ?_
        refine lv_iinc (v := (l5_71 + 1)) (lv' := [(5, .int (l5_71 + 1)), (4, .int (-1)), (7, .int s0_71), (0, .ref h0), (1, .int l1_71), (2, .int l2_71), (3, .int l3_71)]) hx hb dX3_builtIn_105 hl (k := 6) rfl rfl (by decide) rfl (fun ls hl => ?_)
        refine lv_goto (tgt := 8) hx hb dX3_builtIn_108 (by decide) ?_
        exact ih_8 H locs ls l1_71 l2_71 l3_71 (-1) (l5_71 + 1) (lv_sub hl [0, 1, 6, 3, 4, 5] rfl) hS (hD.sub (ws' := [(h0, .inr (3, [.ref qf0, .int v1, .int v2, .int v3, .ref qf4, .ref qf5, .ref qf6, .int v7, .int v8, .int v9, .int v10, .ref qf11, .int v12, .ref qf13])), (qf0, .inl (cf0, nb, .inl f0))]) [0, 1] (by decide) rfl) (hP.sub (ws' := [(h0, .inr (3, [.ref qf0, .int v1, .int v2, .int v3, .ref qf4, .ref qf5, .ref qf6, .int v7, .int v8, .int v9, .int v10, .ref qf11, .int v12, .ref qf13])), (qf0, .inl (cf0, nb, .inl f0))]) [0, 1] rfl) hsp
      · rw [if_neg c_12] at hsp
        refine lv_iload hx hb dX3_builtIn_78 (lv_at hl 5 rfl) ?_
        refine lv_iconst (v := 1) hx hb dX3_builtIn_80 (by decide) ?_
        refine lv_iadd hx hb dX3_builtIn_81 ?_
        refine lv_goto (tgt := 86) hx hb dX3_builtIn_82 (by decide) ?_
        refine lv_istore (lv' := [(4, .int (l4_71 + 1)), (7, .int s0_71), (0, .ref h0), (1, .int l1_71), (2, .int l2_71), (3, .int l3_71), (5, .int l5_71)]) hx hb dX3_builtIn_86 hl (by decide) rfl (fun ls hl => ?_)
        refine lv_goto (tgt := 105) hx hb dX3_builtIn_88 (by decide) ?_
        refine lv_iinc (v := (l5_71 + 1)) (lv' := [(5, .int (l5_71 + 1)), (4, .int (l4_71 + 1)), (7, .int s0_71), (0, .ref h0), (1, .int l1_71), (2, .int l2_71), (3, .int l3_71)]) hx hb dX3_builtIn_105 hl (k := 6) rfl rfl (by decide) rfl (fun ls hl => ?_)
        refine lv_goto (tgt := 8) hx hb dX3_builtIn_108 (by decide) ?_
        exact ih_8 H locs ls l1_71 l2_71 l3_71 (l4_71 + 1) (l5_71 + 1) (lv_sub hl [0, 1, 6, 3, 4, 5] rfl) hS (hD.sub (ws' := [(h0, .inr (3, [.ref qf0, .int v1, .int v2, .int v3, .ref qf4, .ref qf5, .ref qf6, .int v7, .int v8, .int v9, .int v10, .ref qf11, .int v12, .ref qf13])), (qf0, .inl (cf0, nb, .inl f0))]) [0, 1] (by decide) rfl) (hP.sub (ws' := [(h0, .inr (3, [.ref qf0, .int v1, .int v2, .int v3, .ref qf4, .ref qf5, .ref qf6, .int v7, .int v8, .int v9, .int v10, .ref qf11, .int v12, .ref qf13])), (qf0, .inl (cf0, nb, .inl f0))]) [0, 1] rfl) hsp
    intro hj_71
    refine jn_use (α := Heap × List Loc × Array Slot × Int32 × Int32 × Int32 × Int32 × Int32) (fun x9 => x9.1) (fun x9 => x9.2.1) (fun x9 => F0 m 70 x9.2.2.1 []) (fun x9 => match x9 with | (H, locs, ls, l1_70, l2_70, l3_70, l4_70, l5_70) => lv_has ls 8 [(0, .ref h0), (1, .int l1_70), (2, .int l2_70), (3, .int l3_70), (4, .int l4_70), (5, .int l5_70)] ∧ va_S A s.heap H locs ∧ va_D A [(h0, .inr (3, [.ref qf0, .int v1, .int v2, .int v3, .ref qf4, .ref qf5, .ref qf6, .int v7, .int v8, .int v9, .int v10, .ref qf11, .int v12, .ref qf13])), (qf0, .inl (cf0, nb, .inl f0))] ∧ va_P (dC, dI) vwCl [(h0, .inr (3, [.ref qf0, .int v1, .int v2, .int v3, .ref qf4, .ref qf5, .ref qf6, .int v7, .int v8, .int v9, .int v10, .ref qf11, .int v12, .ref qf13])), (qf0, .inl (cf0, nb, .inl f0))] H ∧ jn_v3_builtIn_70 nf a1 a2 v1 nb f0 nS132 fS132 (lp_v3_builtIn_8 nf n_8 a1 a2 v1 nb f0 nS132 fS132) l1_70 l2_70 l3_70 l4_70 l5_70 = some r0) ?_ ?_
    · intro x9 hJ9
      obtain ⟨H, locs, ls, l1_70, l2_70, l3_70, l4_70, l5_70⟩ := x9
      obtain ⟨hl, hS, hD, hP, hsp⟩ := hJ9
      replace hl : lv_has ls 8 [(0, .ref h0), (1, .int l1_70), (2, .int l2_70), (3, .int l3_70), (4, .int l4_70), (5, .int l5_70)] := hl
      replace hS : va_S A s.heap H locs := hS
      replace hD : va_D A [(h0, .inr (3, [.ref qf0, .int v1, .int v2, .int v3, .ref qf4, .ref qf5, .ref qf6, .int v7, .int v8, .int v9, .int v10, .ref qf11, .int v12, .ref qf13])), (qf0, .inl (cf0, nb, .inl f0))] := hD
      replace hP : va_P (dC, dI) vwCl [(h0, .inr (3, [.ref qf0, .int v1, .int v2, .int v3, .ref qf4, .ref qf5, .ref qf6, .int v7, .int v8, .int v9, .int v10, .ref qf11, .int v12, .ref qf13])), (qf0, .inl (cf0, nb, .inl f0))] H := hP
      replace hsp : jn_v3_builtIn_70 nf a1 a2 v1 nb f0 nS132 fS132 (lp_v3_builtIn_8 nf n_8 a1 a2 v1 nb f0 nS132 fS132) l1_70 l2_70 l3_70 l4_70 l5_70 = some r0 := hsp
      show W _ _ _ _ _ _ _ _ _ _ H locs _ _ _ (F0 m 70 ls [])
      unfold jn_v3_builtIn_70 at hsp
      try dsimp only at hsp
      refine lv_iconst (v := 0) hx hb dX3_builtIn_70 (by decide) ?_
      exact hj_71 (H, locs, ls, l1_70, l2_70, l3_70, l4_70, l5_70, 0) ⟨lv_sub hl [0, 1, 2, 3, 4, 5] rfl, hS, hD.sub (ws' := [(h0, .inr (3, [.ref qf0, .int v1, .int v2, .int v3, .ref qf4, .ref qf5, .ref qf6, .int v7, .int v8, .int v9, .int v10, .ref qf11, .int v12, .ref qf13])), (qf0, .inl (cf0, nb, .inl f0))]) [0, 1] (by decide) rfl, hP.sub (ws' := [(h0, .inr (3, [.ref qf0, .int v1, .int v2, .int v3, .ref qf4, .ref qf5, .ref qf6, .int v7, .int v8, .int v9, .int v10, .ref qf11, .int v12, .ref qf13])), (qf0, .inl (cf0, nb, .inl f0))]) [0, 1] rfl, hsp⟩
    intro hj_70
    refine lv_iload hx hb dX3_builtIn_8 (lv_at hl 0 rfl) ?_
    refine va_ldcS hx hb hown hZRS132 dX3_builtIn_10 ?_
    have hPc := hP.sub (ws' := []) [] rfl
    have hDc := hD.sub (ws' := []) [] (by decide) rfl
    have hKc := hK.sub (tys' := []) [] rfl
    have hFc := va_free (wc := []) hD hS hA [] rfl
    refine va_calli (va_runV (As := []) (rest := [.int l5_8]) ⟨hx, hb, hml, hown, hts⟩ (ct_slen l dC dI H.size nS132 fS132 hS132 qS132) (cwV 0 hts gv_h7_32 rfl rfl rfl (by decide +kernel) ⟨Nat.le_of_ble_eq_true rfl, Nat.le_of_ble_eq_true rfl⟩) ⟨fun a U g mk q => by obtain ⟨q0, q1, qP, qK, qD, qhZW⟩ := q; exact ⟨q0, q1, qP, va_K.moved (u := U) (U := U.calling g mk a) (Vm.Alike.refl U.vm) qK, qD, pz_W.moved (u := U) (U := U.calling g mk a) (Vm.Alike.refl U.vm) qhZW⟩, pz_recv hZWS132 hS, fun U hU hW => ⟨rfl, by rw [hU], by rw [hU]; exact hPc, va_K.moved hW.alike hKc, hDc.weaken (fun _ _ _ _ => trivial), by rw [hU]; exact ((pz_W.moved hW.alike hZWS132).kept hS.2.1).narrow hFc⟩⟩ rfl rfl hl.1 rfl (lv_room (Nat.le_of_ble_eq_true rfl)) dX3_builtIn_12 ⟨Nat.le_of_ble_eq_true rfl, Nat.le_of_ble_eq_true rfl⟩) hS (fun q _ h => hFc q h) hFc ?_
    clear hS
    intro r_1 u t H1 locs ht hvm hw hB hz1 hk1 hS
    obtain ⟨⟩ := u
    obtain ⟨hP1, hK1, hD1⟩ := hB
    rw [ht] at hP1
    try dsimp only at hw
    have hPD := va_join (wr := [(h0, .inr (3, [.ref qf0, .int v1, .int v2, .int v3, .ref qf4, .ref qf5, .ref qf6, .int v7, .int v8, .int v9, .int v10, .ref qf11, .int v12, .ref qf13])), (qf0, .inl (cf0, nb, .inl f0))]) (w1 := []) hP hD [] [0, 1] rfl rfl (by decide) (by decide) hk1 hFc hP1 hD1
    clear hP hD
    obtain ⟨hP, hD⟩ := hPD
    clear hPc hDc hKc hFc hP1 hK1 hD1 hz1 hk1 ht hvm
    generalize H1 = H at hP hS ⊢
    replace hP : va_P (dC, dI) vwCl [(h0, .inr (3, [.ref qf0, .int v1, .int v2, .int v3, .ref qf4, .ref qf5, .ref qf6, .int v7, .int v8, .int v9, .int v10, .ref qf11, .int v12, .ref qf13])), (qf0, .inl (cf0, nb, .inl f0))] H := hP
    replace hD : va_D A [(h0, .inr (3, [.ref qf0, .int v1, .int v2, .int v3, .ref qf4, .ref qf5, .ref qf6, .int v7, .int v8, .int v9, .int v10, .ref qf11, .int v12, .ref qf13])), (qf0, .inl (cf0, nb, .inl f0))] := hD
    obtain rfl : r_1 = (nI nS132) := hw
    refine lv_icmp_ge (tgt := 111) hx hb dX3_builtIn_15 (by decide) (fun c_2 => ?_) (fun c_2 => ?_)
    · rw [if_pos c_2] at hsp
      refine lv_iconst (v := (-1)) hx hb dX3_builtIn_111 (by decide) ?_
      have hr0 := Option.some.inj hsp
      clear hsp
      subst hr0
      have hP9 := hP.sub (ws' := [(h0, .inr (3, [.ref qf0, .int v1, .int v2, .int v3, .ref qf4, .ref qf5, .ref qf6, .int v7, .int v8, .int v9, .int v10, .ref qf11, .int v12, .ref qf13])), (qf0, .inl (cf0, nb, .inl f0))]) [0, 1] rfl
      have hD9 := hD.sub (ws' := [(h0, .inr (3, [.ref qf0, .int v1, .int v2, .int v3, .ref qf4, .ref qf5, .ref qf6, .int v7, .int v8, .int v9, .int v10, .ref qf11, .int v12, .ref qf13])), (qf0, .inl (cf0, nb, .inl f0))]) [0, 1] (by decide) rfl
      have hK9 := hK.sub (tys' := [(cf0, .byte)]) [0] rfl
      exact W.iret hx hb hr (fun t ht hW => ⟨⟨((-1)), (), rfl, rfl, by rw [ht]; exact hP9, va_K.moved hW.alike hK9, hD9⟩, hS.F ht⟩) hS.2.2 dX3_builtIn_112
    · rw [if_neg c_2] at hsp
      refine va_ldcS hx hb hown hZRS132 dX3_builtIn_18 ?_
      refine lv_iload hx hb dX3_builtIn_20 (lv_at hl 0 rfl) ?_
      obtain ⟨⟨hk_3j, hk_31, hk_32, hk_33, hk_34⟩, hsp⟩ := ox_ch hsp
      rw [hk_31]
      have hPc := hP.sub (ws' := []) [] rfl
      have hDc := hD.sub (ws' := []) [] (by decide) rfl
      have hKc := hK.sub (tys' := []) [] rfl
      have hFc := va_free (wc := []) hD hS hA [] rfl
      refine va_calli (va_runV (As := [.int (nI hk_3j)]) (rest := []) ⟨hx, hb, hml, hown, hts⟩ (ct_charAt l dC dI H.size nS132 fS132 hS132 qS132 hk_3j hk_33 hk_34) (cwV 1 hts gv_h7_33 rfl rfl rfl (by decide +kernel) ⟨Nat.le_of_ble_eq_true rfl, Nat.le_of_ble_eq_true rfl⟩) ⟨fun a U g mk q => by obtain ⟨q0, q1, qP, qK, qD, qhZW⟩ := q; exact ⟨q0, q1, qP, va_K.moved (u := U) (U := U.calling g mk a) (Vm.Alike.refl U.vm) qK, qD, pz_W.moved (u := U) (U := U.calling g mk a) (Vm.Alike.refl U.vm) qhZW⟩, pz_recv hZWS132 hS, fun U hU hW => ⟨rfl, by rw [hU], by rw [hU]; exact hPc, va_K.moved hW.alike hKc, hDc.weaken (fun _ _ _ _ => trivial), by rw [hU]; exact ((pz_W.moved hW.alike hZWS132).kept hS.2.1).narrow hFc⟩⟩ rfl rfl hl.1 rfl (lv_room (Nat.le_of_ble_eq_true rfl)) dX3_builtIn_22 ⟨Nat.le_of_ble_eq_true rfl, Nat.le_of_ble_eq_true rfl⟩) hS (fun q _ h => hFc q h) hFc ?_
      clear hS
      intro r_4 u t H1 locs ht hvm hw hB hz1 hk1 hS
      obtain ⟨⟩ := u
      obtain ⟨hP1, hK1, hD1⟩ := hB
      rw [ht] at hP1
      try dsimp only at hw
      have hPD := va_join (wr := [(h0, .inr (3, [.ref qf0, .int v1, .int v2, .int v3, .ref qf4, .ref qf5, .ref qf6, .int v7, .int v8, .int v9, .int v10, .ref qf11, .int v12, .ref qf13])), (qf0, .inl (cf0, nb, .inl f0))]) (w1 := []) hP hD [] [0, 1] rfl rfl (by decide) (by decide) hk1 hFc hP1 hD1
      clear hP hD
      obtain ⟨hP, hD⟩ := hPD
      clear hPc hDc hKc hFc hP1 hK1 hD1 hz1 hk1 ht hvm
      generalize H1 = H at hP hS ⊢
      replace hP : va_P (dC, dI) vwCl [(h0, .inr (3, [.ref qf0, .int v1, .int v2, .int v3, .ref qf4, .ref qf5, .ref qf6, .int v7, .int v8, .int v9, .int v10, .ref qf11, .int v12, .ref qf13])), (qf0, .inl (cf0, nb, .inl f0))] H := hP
      replace hD : va_D A [(h0, .inr (3, [.ref qf0, .int v1, .int v2, .int v3, .ref qf4, .ref qf5, .ref qf6, .int v7, .int v8, .int v9, .int v10, .ref qf11, .int v12, .ref qf13])), (qf0, .inl (cf0, nb, .inl f0))] := hD
      obtain rfl : r_4 = (((fS132 (l5_8 : Int32).toNatClampNeg) &&& 255).toUInt32 % 65536).toInt32 := by rw [hk_32]; exact hw
      refine lv_istore (lv' := [(6, .int (((fS132 (l5_8 : Int32).toNatClampNeg) &&& 255).toUInt32 % 65536).toInt32), (5, .int l5_8), (4, .int l4_8), (3, .int l3_8), (0, .ref h0), (1, .int l1_8), (2, .int l2_8)]) hx hb dX3_builtIn_25 hl (by decide) rfl (fun ls hl => ?_)
      refine lv_iload hx hb dX3_builtIn_27 (lv_at hl 0 rfl) ?_
      refine lv_bipush (v := 32) hx hb dX3_builtIn_29 (by decide) ?_
      refine lv_icmp_eq (tgt := 91) hx hb dX3_builtIn_31 (by decide) (fun c_5 => ?_) (fun c_5 => ?_)
      · rw [if_pos c_5] at hsp
        refine lv_iload hx hb dX3_builtIn_91 (lv_at hl 2 rfl) ?_
        refine lv_iload_n hx hb dX3_builtIn_93 rfl (lv_at hl 6 rfl) ?_
        refine lv_icmp_ne (tgt := 99) hx hb dX3_builtIn_94 (by decide) (fun c_6 => ?_) (fun c_6 => ?_)
        · rw [if_neg c_6] at hsp
          refine lv_iload_n hx hb dX3_builtIn_99 rfl (lv_at hl 5 rfl) ?_
          refine lv_istore (lv' := [(4, .int l1_8), (6, .int (((fS132 (l5_8 : Int32).toNatClampNeg) &&& 255).toUInt32 % 65536).toInt32), (5, .int l5_8), (3, .int l3_8), (0, .ref h0), (1, .int l1_8), (2, .int l2_8)]) hx hb dX3_builtIn_100 hl (by decide) rfl (fun ls hl => ?_)
          refine lv_iinc (v := (l3_8 + 1)) (lv' := [(3, .int (l3_8 + 1)), (4, .int l1_8), (6, .int (((fS132 (l5_8 : Int32).toNatClampNeg) &&& 255).toUInt32 % 65536).toInt32), (5, .int l5_8), (0, .ref h0), (1, .int l1_8), (2, .int l2_8)]) hx hb dX3_builtIn_102 hl (k := 3) rfl rfl (by decide) rfl (fun ls hl => ?_)
          refine lv_iinc (v := (l5_8 + 1)) (lv' := [(5, .int (l5_8 + 1)), (3, .int (l3_8 + 1)), (4, .int l1_8), (6, .int (((fS132 (l5_8 : Int32).toNatClampNeg) &&& 255).toUInt32 % 65536).toInt32), (0, .ref h0), (1, .int l1_8), (2, .int l2_8)]) hx hb dX3_builtIn_105 hl (k := 3) rfl rfl (by decide) rfl (fun ls hl => ?_)
          refine lv_goto (tgt := 8) hx hb dX3_builtIn_108 (by decide) ?_
          exact ih_8 H locs ls l1_8 l2_8 (l3_8 + 1) l1_8 (l5_8 + 1) (lv_sub hl [0, 2, 1, 4, 5, 6] rfl) hS (hD.sub (ws' := [(h0, .inr (3, [.ref qf0, .int v1, .int v2, .int v3, .ref qf4, .ref qf5, .ref qf6, .int v7, .int v8, .int v9, .int v10, .ref qf11, .int v12, .ref qf13])), (qf0, .inl (cf0, nb, .inl f0))]) [0, 1] (by decide) rfl) (hP.sub (ws' := [(h0, .inr (3, [.ref qf0, .int v1, .int v2, .int v3, .ref qf4, .ref qf5, .ref qf6, .int v7, .int v8, .int v9, .int v10, .ref qf11, .int v12, .ref qf13])), (qf0, .inl (cf0, nb, .inl f0))]) [0, 1] rfl) hsp
        · rw [if_pos c_6] at hsp
          refine lv_iload_n hx hb dX3_builtIn_97 rfl (lv_at hl 3 rfl) ?_
          have hr0 := Option.some.inj hsp
          clear hsp
          subst hr0
          have hP9 := hP.sub (ws' := [(h0, .inr (3, [.ref qf0, .int v1, .int v2, .int v3, .ref qf4, .ref qf5, .ref qf6, .int v7, .int v8, .int v9, .int v10, .ref qf11, .int v12, .ref qf13])), (qf0, .inl (cf0, nb, .inl f0))]) [0, 1] rfl
          have hD9 := hD.sub (ws' := [(h0, .inr (3, [.ref qf0, .int v1, .int v2, .int v3, .ref qf4, .ref qf5, .ref qf6, .int v7, .int v8, .int v9, .int v10, .ref qf11, .int v12, .ref qf13])), (qf0, .inl (cf0, nb, .inl f0))]) [0, 1] (by decide) rfl
          have hK9 := hK.sub (tys' := [(cf0, .byte)]) [0] rfl
          exact W.iret hx hb hr (fun t ht hW => ⟨⟨(l3_8), (), rfl, rfl, by rw [ht]; exact hP9, va_K.moved hW.alike hK9, hD9⟩, hS.F ht⟩) hS.2.2 dX3_builtIn_98
      · rw [if_neg c_5] at hsp
        refine lv_iload hx hb dX3_builtIn_34 (lv_at hl 2 rfl) ?_
        refine lv_if_lt (tgt := 70) hx hb dX3_builtIn_36 (by decide) (fun c_7 => ?_) (fun c_7 => ?_)
        · rw [if_pos c_7] at hsp
          exact hj_70 (H, locs, ls, l1_8, l2_8, l3_8, l4_8, l5_8) ⟨lv_sub hl [4, 5, 6, 3, 2, 1] rfl, hS, hD.sub (ws' := [(h0, .inr (3, [.ref qf0, .int v1, .int v2, .int v3, .ref qf4, .ref qf5, .ref qf6, .int v7, .int v8, .int v9, .int v10, .ref qf11, .int v12, .ref qf13])), (qf0, .inl (cf0, nb, .inl f0))]) [0, 1] (by decide) rfl, hP.sub (ws' := [(h0, .inr (3, [.ref qf0, .int v1, .int v2, .int v3, .ref qf4, .ref qf5, .ref qf6, .int v7, .int v8, .int v9, .int v10, .ref qf11, .int v12, .ref qf13])), (qf0, .inl (cf0, nb, .inl f0))]) [0, 1] rfl, hsp⟩
        · rw [if_neg c_7] at hsp
          refine lv_iload hx hb dX3_builtIn_39 (lv_at hl 2 rfl) ?_
          refine lv_iload_n hx hb dX3_builtIn_41 rfl (lv_at hl 6 rfl) ?_
          refine lv_icmp_ge (tgt := 70) hx hb dX3_builtIn_42 (by decide) (fun c_8 => ?_) (fun c_8 => ?_)
          · rw [if_pos c_8] at hsp
            exact hj_70 (H, locs, ls, l1_8, l2_8, l3_8, l4_8, l5_8) ⟨lv_sub hl [4, 5, 6, 3, 2, 1] rfl, hS, hD.sub (ws' := [(h0, .inr (3, [.ref qf0, .int v1, .int v2, .int v3, .ref qf4, .ref qf5, .ref qf6, .int v7, .int v8, .int v9, .int v10, .ref qf11, .int v12, .ref qf13])), (qf0, .inl (cf0, nb, .inl f0))]) [0, 1] (by decide) rfl, hP.sub (ws' := [(h0, .inr (3, [.ref qf0, .int v1, .int v2, .int v3, .ref qf4, .ref qf5, .ref qf6, .int v7, .int v8, .int v9, .int v10, .ref qf11, .int v12, .ref qf13])), (qf0, .inl (cf0, nb, .inl f0))]) [0, 1] rfl, hsp⟩
          · rw [if_neg c_8] at hsp
            refine lv_iload hx hb dX3_builtIn_45 (lv_at hl 2 rfl) ?_
            refine lv_aload_n hx hb dX3_builtIn_47 rfl (lv_at hl 4 rfl) ?_
            refine va_get (D := (dC, dI)) (ci := 3) (v := .int v1) (C := RX3) (T := TX3) (N := 14) hx hb hts uV_h7_X3 hown hK hP 0 rfl rfl 1 (by decide) (hts (.fieldLink RX3 39 "ClassMill$Image" "size" "I") mw_h7_173) (fun _ h9 => h9) rfl dX3_builtIn_48 ?_
            refine lv_icmp_ge (tgt := 70) hx hb dX3_builtIn_51 (by decide) (fun c_9 => ?_) (fun c_9 => ?_)
            · rw [if_pos c_9] at hsp
              exact hj_70 (H, locs, ls, l1_8, l2_8, l3_8, l4_8, l5_8) ⟨lv_sub hl [4, 5, 6, 3, 2, 1] rfl, hS, hD.sub (ws' := [(h0, .inr (3, [.ref qf0, .int v1, .int v2, .int v3, .ref qf4, .ref qf5, .ref qf6, .int v7, .int v8, .int v9, .int v10, .ref qf11, .int v12, .ref qf13])), (qf0, .inl (cf0, nb, .inl f0))]) [0, 1] (by decide) rfl, hP.sub (ws' := [(h0, .inr (3, [.ref qf0, .int v1, .int v2, .int v3, .ref qf4, .ref qf5, .ref qf6, .int v7, .int v8, .int v9, .int v10, .ref qf11, .int v12, .ref qf13])), (qf0, .inl (cf0, nb, .inl f0))]) [0, 1] rfl, hsp⟩
            · rw [if_neg c_9] at hsp
              refine lv_aload_n hx hb dX3_builtIn_54 rfl (lv_at hl 4 rfl) ?_
              refine va_get (D := (dC, dI)) (ci := 3) (v := .ref qf0) (C := RX3) (T := TX3) (N := 14) hx hb hts uV_h7_X3 hown hK hP 0 rfl rfl 0 (by decide) (hts (.fieldLink RX3 9 "ClassMill$Image" "bytes" "[B") mw_h7_174) (fun _ h9 => h9) rfl dX3_builtIn_55 ?_
              refine lv_iload hx hb dX3_builtIn_58 (lv_at hl 2 rfl) ?_
              obtain ⟨hi_10, hsp⟩ := ox_in hsp
              refine va_bald hx hb hK hP 1 0 rfl rfl (i := l4_8) hi_10 dX3_builtIn_60 ?_
              refine lv_iload hx hb dX3_builtIn_61 (lv_at hl 0 rfl) ?_
              refine lv_icmp_ne (tgt := 70) hx hb dX3_builtIn_63 (by decide) (fun c_11 => ?_) (fun c_11 => ?_)
              · rw [if_neg c_11] at hsp
                exact hj_70 (H, locs, ls, l1_8, l2_8, l3_8, l4_8, l5_8) ⟨lv_sub hl [4, 5, 6, 3, 2, 1] rfl, hS, hD.sub (ws' := [(h0, .inr (3, [.ref qf0, .int v1, .int v2, .int v3, .ref qf4, .ref qf5, .ref qf6, .int v7, .int v8, .int v9, .int v10, .ref qf11, .int v12, .ref qf13])), (qf0, .inl (cf0, nb, .inl f0))]) [0, 1] (by decide) rfl, hP.sub (ws' := [(h0, .inr (3, [.ref qf0, .int v1, .int v2, .int v3, .ref qf4, .ref qf5, .ref qf6, .int v7, .int v8, .int v9, .int v10, .ref qf11, .int v12, .ref qf13])), (qf0, .inl (cf0, nb, .inl f0))]) [0, 1] rfl, hsp⟩
              · rw [if_pos c_11] at hsp
                refine lv_iconst (v := 1) hx hb dX3_builtIn_66 (by decide) ?_
                refine lv_goto (tgt := 71) hx hb dX3_builtIn_67 (by decide) ?_
                exact hj_71 (H, locs, ls, l1_8, l2_8, l3_8, l4_8, l5_8, 1) ⟨lv_sub hl [4, 5, 6, 3, 2, 1] rfl, hS, hD.sub (ws' := [(h0, .inr (3, [.ref qf0, .int v1, .int v2, .int v3, .ref qf4, .ref qf5, .ref qf6, .int v7, .int v8, .int v9, .int v10, .ref qf11, .int v12, .ref qf13])), (qf0, .inl (cf0, nb, .inl f0))]) [0, 1] (by decide) rfl, hP.sub (ws' := [(h0, .inr (3, [.ref qf0, .int v1, .int v2, .int v3, .ref qf4, .ref qf5, .ref qf6, .int v7, .int v8, .int v9, .int v10, .ref qf11, .int v12, .ref qf13])), (qf0, .inl (cf0, nb, .inl f0))]) [0, 1] rfl, hsp⟩
def sp_v3_isNameText (nf : Nat) (a1 : Int32) (v7 : Int32) (f4 : Nat → Int32) (f5 : Nat → Int32) (f6 : Nat → Int32) (nb : Nat) (f0 : Nat → Int32) : Option (Int32) := ((sp_ti_tagOf nf a1 v7 f4).bind (fun p1 => (if p1 = 1 then (if a1 < 0 then none else if 256 ≤ (a1 : Int32).toNatClampNeg then none else (if a1 < 0 then none else if 256 ≤ (a1 : Int32).toNatClampNeg then none else ((sp_t9_isName nf (f5 (a1 : Int32).toNatClampNeg) (f6 (a1 : Int32).toNatClampNeg) nb f0).bind (fun p2 => (if p2 = 0 then (some 0) else (some 1)))))) else (some 0))))
set_option maxHeartbeats 4000000 in
set_option maxRecDepth 100000 in
/-- ClassMill$Image.isNameText -/
theorem v3_isNameText (l : Launch) (dC : Nat → ClassId) (dI : Nat → Nat → Nat) (sz : Nat) (h0 : Nat) (a1 : Int32) (qf0 : Nat) (v1 : Int32) (v2 : Int32) (v3 : Int32) (qf4 : Nat) (qf5 : Nat) (qf6 : Nat) (v7 : Int32) (v8 : Int32) (v9 : Int32) (v10 : Int32) (qf11 : Nat) (v12 : Int32) (qf13 : Nat) (cf4 : ClassId) (f4 : (Nat → Int32)) (cf5 : ClassId) (f5 : (Nat → Int32)) (cf6 : ClassId) (f6 : (Nat → Int32)) (cf0 : ClassId) (nb : Nat) (f0 : (Nat → Int32)) (nf : Nat) (r0 : Int32) (hsp : sp_v3_isNameText nf a1 v7 f4 f5 f6 nb f0 = some r0) : Met l yX3_isNameText (.code yX3_isNameText cX3_isNameText 2 (some .boolean) :: VS_h7) ({ frames := 1, cells := 0, slots := 0, locals := 26 }) (va_Pc [.ref h0, .int a1] (fun U => U.heap.size = sz ∧ va_P (dC, dI) vwCl [(h0, .inr (3, [.ref qf0, .int v1, .int v2, .int v3, .ref qf4, .ref qf5, .ref qf6, .int v7, .int v8, .int v9, .int v10, .ref qf11, .int v12, .ref qf13])), (qf4, .inl (cf4, 256, .inl f4)), (qf5, .inl (cf5, 256, .inl f5)), (qf6, .inl (cf6, 256, .inl f6)), (qf0, .inl (cf0, nb, .inl f0))] U.heap ∧ va_K (dC, dI) vwCl [(cf4, .int), (cf5, .int), (cf6, .int), (cf0, .byte)] U ∧ va_D (fun _ => True) [(h0, .inr (3, [.ref qf0, .int v1, .int v2, .int v3, .ref qf4, .ref qf5, .ref qf6, .int v7, .int v8, .int v9, .int v10, .ref qf11, .int v12, .ref qf13])), (qf4, .inl (cf4, 256, .inl f4)), (qf5, .inl (cf5, 256, .inl f5)), (qf6, .inl (cf6, 256, .inl f6)), (qf0, .inl (cf0, nb, .inl f0))])) (va_Qi (fun (r : Int32) (u : Unit) => match u with | () => r0 = r ∧ (r0 = 0 ∨ r0 = 1)) (fun (u : Unit) (t : State) => match u with | () => va_P (dC, dI) vwCl [(h0, .inr (3, [.ref qf0, .int v1, .int v2, .int v3, .ref qf4, .ref qf5, .ref qf6, .int v7, .int v8, .int v9, .int v10, .ref qf11, .int v12, .ref qf13])), (qf4, .inl (cf4, 256, .inl f4)), (qf5, .inl (cf5, 256, .inl f5)), (qf6, .inl (cf6, 256, .inl f6)), (qf0, .inl (cf0, nb, .inl f0))] t.heap ∧ va_K (dC, dI) vwCl [(cf4, .int), (cf5, .int), (cf6, .int), (cf0, .byte)] t ∧ va_D (va_A [(h0, .inr (3, [.ref qf0, .int v1, .int v2, .int v3, .ref qf4, .ref qf5, .ref qf6, .int v7, .int v8, .int v9, .int v10, .ref qf11, .int v12, .ref qf13])), (qf4, .inl (cf4, 256, .inl f4)), (qf5, .inl (cf5, 256, .inl f5)), (qf6, .inl (cf6, 256, .inl f6)), (qf0, .inl (cf0, nb, .inl f0))] sz) [(h0, .inr (3, [.ref qf0, .int v1, .int v2, .int v3, .ref qf4, .ref qf5, .ref qf6, .int v7, .int v8, .int v9, .int v10, .ref qf11, .int v12, .ref qf13])), (qf4, .inl (cf4, 256, .inl f4)), (qf5, .inl (cf5, 256, .inl f5)), (qf6, .inl (cf6, 256, .inl f6)), (qf0, .inl (cf0, nb, .inl f0))]) (va_A [(h0, .inr (3, [.ref qf0, .int v1, .int v2, .int v3, .ref qf4, .ref qf5, .ref qf6, .int v7, .int v8, .int v9, .int v10, .ref qf11, .int v12, .ref qf13])), (qf4, .inl (cf4, 256, .inl f4)), (qf5, .inl (cf5, 256, .inl f5)), (qf6, .inl (cf6, 256, .inl f6)), (qf0, .inl (cf0, nb, .inl f0))] sz)) 0 0 (va_A [(h0, .inr (3, [.ref qf0, .int v1, .int v2, .int v3, .ref qf4, .ref qf5, .ref qf6, .int v7, .int v8, .int v9, .int v10, .ref qf11, .int v12, .ref qf13])), (qf4, .inl (cf4, 256, .inl f4)), (qf5, .inl (cf5, 256, .inl f5)), (qf6, .inl (cf6, 256, .inl f6)), (qf0, .inl (cf0, nb, .inl f0))] sz) := by
  refine Met.ofW (cc := cX3_isNameText) (maxL := 2) (ret := (some .boolean)) (by decide) rfl ?_
  intro p e s m args below meth c s₁ B hml hv
  obtain ⟨rfl, hsz, hP, hK, hD0⟩ := hv
  have hx := B.exec
  have hb := B.bytes
  have hr := B.returns
  have hts := atoms_spec (ws := (.code yX3_isNameText cX3_isNameText 2 (some .boolean) :: VS_h7)) B.pre
  replace hts := fun w (h : w ∈ VS_h7) => hts w (List.mem_cons_of_mem _ h)
  have hown : s.vm.findClass RX3 = some m.cls := findClass_of_methodNamed B.named
  have hlocks := B.notSynchronized
  subst hsz
  have hD := hD0.self (sz := s.heap.size)
  generalize hAe : va_A [(h0, .inr (3, [.ref qf0, .int v1, .int v2, .int v3, .ref qf4, .ref qf5, .ref qf6, .int v7, .int v8, .int v9, .int v10, .ref qf11, .int v12, .ref qf13])), (qf4, .inl (cf4, 256, .inl f4)), (qf5, .inl (cf5, 256, .inl f5)), (qf6, .inl (cf6, 256, .inl f6)), (qf0, .inl (cf0, nb, .inl f0))] s.heap.size = A at hD  ⊢
  have hA : ∀ q : Nat, s.heap.size ≤ q → A q := fun q h => by rw [← hAe]; exact Or.inr h
  have hP : va_P (dC, dI) vwCl [(h0, .inr (3, [.ref qf0, .int v1, .int v2, .int v3, .ref qf4, .ref qf5, .ref qf6, .int v7, .int v8, .int v9, .int v10, .ref qf11, .int v12, .ref qf13])), (qf4, .inl (cf4, 256, .inl f4)), (qf5, .inl (cf5, 256, .inl f5)), (qf6, .inl (cf6, 256, .inl f6)), (qf0, .inl (cf0, nb, .inl f0))] s.heap := hP
  have hl := lv_entry ([.ref h0, .int a1]) (n := 2) (Nat.le_of_ble_eq_true rfl)
  rw [lg_entry_eq]
  generalize (lg_sl ([.ref h0, .int a1]) ++ List.replicate (2 - (lg_sl ([.ref h0, .int a1])).length) Slot.unset).toArray = ls at hl ⊢
  have hl : lv_has ls 2 [(0, .ref h0), (1, .int a1)] := hl
  obtain ⟨H, hH⟩ : ∃ H : Heap, s.heap = H := ⟨_, rfl⟩
  rw [hH] at hP ⊢
  have hS : va_S A s.heap H [] := by rw [← hH]; exact va_S.rf
  obtain ⟨locs, hlo⟩ : ∃ locs : List Loc, locs = [] := ⟨_, rfl⟩
  rw [← hlo] at hS ⊢
  unfold sp_v3_isNameText at hsp
  refine lv_aload_n hx hb dX3_isNameText_0 rfl (lv_at hl 0 rfl) ?_
  refine lv_iload_n hx hb dX3_isNameText_1 rfl (lv_at hl 1 rfl) ?_
  obtain ⟨u1_0, hu_1, hsp⟩ := ox_bind hsp
  try dsimp only at hsp
  have hPc := hP.sub (ws' := [(h0, .inr (3, [.ref qf0, .int v1, .int v2, .int v3, .ref qf4, .ref qf5, .ref qf6, .int v7, .int v8, .int v9, .int v10, .ref qf11, .int v12, .ref qf13])), (qf4, .inl (cf4, 256, .inl f4))]) [0, 1] rfl
  have hDc := hD.sub (ws' := [(h0, .inr (3, [.ref qf0, .int v1, .int v2, .int v3, .ref qf4, .ref qf5, .ref qf6, .int v7, .int v8, .int v9, .int v10, .ref qf11, .int v12, .ref qf13])), (qf4, .inl (cf4, 256, .inl f4))]) [0, 1] (by decide) rfl
  have hKc := hK.sub (tys' := [(cf4, .int)]) [0] rfl
  have hFc := va_free (wc := [(h0, .inr (3, [.ref qf0, .int v1, .int v2, .int v3, .ref qf4, .ref qf5, .ref qf6, .int v7, .int v8, .int v9, .int v10, .ref qf11, .int v12, .ref qf13])), (qf4, .inl (cf4, 256, .inl f4))]) hD hS hA [0, 1] rfl
  refine va_calli (va_runV (As := [.int a1]) (rest := []) ⟨hx, hb, hml, hown, hts⟩ (ti_tagOf l dC dI H.size h0 a1 qf0 v1 v2 v3 qf4 qf5 qf6 v7 v8 v9 v10 qf11 v12 qf13 cf4 f4 nf u1_0 hu_1) (cwV 1 hts gv_h7_34 rfl rfl rfl (by decide +kernel) ⟨Nat.le_of_ble_eq_true rfl, Nat.le_of_ble_eq_true rfl⟩) ⟨fun a U g mk q => by obtain ⟨q0, q1, qP, qK, qD⟩ := q; exact ⟨q0, q1, qP, va_K.moved (u := U) (U := U.calling g mk a) (Vm.Alike.refl U.vm) qK, qD⟩, va_recv hKc hPc (ci := 3) (q0 := 0) rfl rfl, fun U hU hW => ⟨rfl, by rw [hU], by rw [hU]; exact hPc, va_K.moved hW.alike hKc, hDc.weaken (fun _ _ _ _ => trivial)⟩⟩ rfl rfl hl.1 rfl (lv_room (Nat.le_of_ble_eq_true rfl)) dX3_isNameText_2 ⟨Nat.le_of_ble_eq_true rfl, Nat.le_of_ble_eq_true rfl⟩) hS (fun q _ h => hFc q h) hFc ?_
  clear hS
  intro r_1 u t H1 locs ht hvm hw hB hz1 hk1 hS
  obtain ⟨⟩ := u
  obtain ⟨hP1, hK1, hD1⟩ := hB
  rw [ht] at hP1
  have hK1 := va_K.moved hvm.symm hK1
  try dsimp only at hw
  have hPD := va_join (wr := [(qf5, .inl (cf5, 256, .inl f5)), (qf6, .inl (cf6, 256, .inl f6)), (qf0, .inl (cf0, nb, .inl f0))]) (w1 := [(h0, .inr (3, [.ref qf0, .int v1, .int v2, .int v3, .ref qf4, .ref qf5, .ref qf6, .int v7, .int v8, .int v9, .int v10, .ref qf11, .int v12, .ref qf13])), (qf4, .inl (cf4, 256, .inl f4))]) hP hD [0, 1] [2, 3, 4] rfl rfl (by decide) (by decide) hk1 hFc hP1 hD1
  clear hP hD
  obtain ⟨hP, hD⟩ := hPD
  replace hK := (hK.sub (tys' := [(cf5, .int), (cf6, .int), (cf0, .byte)]) [1, 2, 3] rfl).app hK1
  clear hPc hDc hKc hFc hP1 hK1 hD1 hz1 hk1 ht hvm
  generalize H1 = H at hP hS ⊢
  replace hP : va_P (dC, dI) vwCl [(qf5, .inl (cf5, 256, .inl f5)), (qf6, .inl (cf6, 256, .inl f6)), (qf0, .inl (cf0, nb, .inl f0)), (h0, .inr (3, [.ref qf0, .int v1, .int v2, .int v3, .ref qf4, .ref qf5, .ref qf6, .int v7, .int v8, .int v9, .int v10, .ref qf11, .int v12, .ref qf13])), (qf4, .inl (cf4, 256, .inl f4))] H := hP
  replace hD : va_D A [(qf5, .inl (cf5, 256, .inl f5)), (qf6, .inl (cf6, 256, .inl f6)), (qf0, .inl (cf0, nb, .inl f0)), (h0, .inr (3, [.ref qf0, .int v1, .int v2, .int v3, .ref qf4, .ref qf5, .ref qf6, .int v7, .int v8, .int v9, .int v10, .ref qf11, .int v12, .ref qf13])), (qf4, .inl (cf4, 256, .inl f4))] := hD
  replace hK : va_K (dC, dI) vwCl [(cf5, .int), (cf6, .int), (cf0, .byte), (cf4, .int)] s := hK
  obtain rfl := hw
  refine lv_iconst (v := 1) hx hb dX3_isNameText_5 (by decide) ?_
  refine lv_icmp_ne (tgt := 35) hx hb dX3_isNameText_6 (by decide) (fun c_2 => ?_) (fun c_2 => ?_)
  · rw [if_neg c_2] at hsp
    refine lv_iconst (v := 0) hx hb dX3_isNameText_35 (by decide) ?_
    have hr0 := Option.some.inj hsp
    clear hsp
    subst hr0
    have hP9 := hP.sub (ws' := [(h0, .inr (3, [.ref qf0, .int v1, .int v2, .int v3, .ref qf4, .ref qf5, .ref qf6, .int v7, .int v8, .int v9, .int v10, .ref qf11, .int v12, .ref qf13])), (qf4, .inl (cf4, 256, .inl f4)), (qf5, .inl (cf5, 256, .inl f5)), (qf6, .inl (cf6, 256, .inl f6)), (qf0, .inl (cf0, nb, .inl f0))]) [3, 4, 0, 1, 2] rfl
    have hD9 := hD.sub (ws' := [(h0, .inr (3, [.ref qf0, .int v1, .int v2, .int v3, .ref qf4, .ref qf5, .ref qf6, .int v7, .int v8, .int v9, .int v10, .ref qf11, .int v12, .ref qf13])), (qf4, .inl (cf4, 256, .inl f4)), (qf5, .inl (cf5, 256, .inl f5)), (qf6, .inl (cf6, 256, .inl f6)), (qf0, .inl (cf0, nb, .inl f0))]) [3, 4, 0, 1, 2] (by decide) rfl
    have hK9 := hK.sub (tys' := [(cf4, .int), (cf5, .int), (cf6, .int), (cf0, .byte)]) [3, 0, 1, 2] rfl
    exact W.zret hx hb hr (by decide) (fun t ht hW => ⟨⟨(0), (), rfl, ⟨rfl, Or.inl rfl⟩, by rw [ht]; exact hP9, va_K.moved hW.alike hK9, hD9⟩, hS.F ht⟩) hS.2.2 dX3_isNameText_36
  · rw [if_pos c_2] at hsp
    refine lv_aload_n hx hb dX3_isNameText_9 rfl (lv_at hl 0 rfl) ?_
    refine va_get (D := (dC, dI)) (ci := 3) (v := .ref qf0) (C := RX3) (T := TX3) (N := 14) hx hb hts uV_h7_X3 hown hK hP 3 rfl rfl 0 (by decide) (hts (.fieldLink RX3 9 "ClassMill$Image" "bytes" "[B") mw_h7_174) (fun _ h9 => h9) rfl dX3_isNameText_10 ?_
    refine lv_aload_n hx hb dX3_isNameText_13 rfl (lv_at hl 0 rfl) ?_
    refine va_get (D := (dC, dI)) (ci := 3) (v := .ref qf5) (C := RX3) (T := TX3) (N := 14) hx hb hts uV_h7_X3 hown hK hP 3 rfl rfl 5 (by decide) (hts (.fieldLink RX3 19 "ClassMill$Image" "at" "[I") mw_h7_159) (fun _ h9 => h9) rfl dX3_isNameText_14 ?_
    refine lv_iload_n hx hb dX3_isNameText_17 rfl (lv_at hl 1 rfl) ?_
    obtain ⟨hi_3, hsp⟩ := ox_in hsp
    refine va_iald hx hb hK hP 0 0 rfl rfl (i := a1) hi_3 dX3_isNameText_18 ?_
    refine lv_aload_n hx hb dX3_isNameText_19 rfl (lv_at hl 0 rfl) ?_
    refine va_get (D := (dC, dI)) (ci := 3) (v := .ref qf6) (C := RX3) (T := TX3) (N := 14) hx hb hts uV_h7_X3 hown hK hP 3 rfl rfl 6 (by decide) (hts (.fieldLink RX3 22 "ClassMill$Image" "textStop" "[I") mw_h7_161) (fun _ h9 => h9) rfl dX3_isNameText_20 ?_
    refine lv_iload_n hx hb dX3_isNameText_23 rfl (lv_at hl 1 rfl) ?_
    obtain ⟨hi_4, hsp⟩ := ox_in hsp
    refine va_iald hx hb hK hP 1 1 rfl rfl (i := a1) hi_4 dX3_isNameText_24 ?_
    obtain ⟨u2_0, hu_2, hsp⟩ := ox_bind hsp
    try dsimp only at hsp
    have hPc := hP.sub (ws' := [(qf0, .inl (cf0, nb, .inl f0))]) [2] rfl
    have hDc := hD.sub (ws' := [(qf0, .inl (cf0, nb, .inl f0))]) [2] (by decide) rfl
    have hKc := hK.sub (tys' := [(cf0, .byte)]) [2] rfl
    have hFc := va_free (wc := [(qf0, .inl (cf0, nb, .inl f0))]) hD hS hA [2] rfl
    refine va_calli (va_runS (As := [.ref qf0, .int (f5 (a1 : Int32).toNatClampNeg), .int (f6 (a1 : Int32).toNatClampNeg)]) (rest := []) ⟨hx, hb, hml, hown, hts⟩ (t9_isName l dC dI H.size qf0 ((f5 (a1 : Int32).toNatClampNeg)) ((f6 (a1 : Int32).toNatClampNeg)) cf0 nb f0 nf u2_0 hu_2) (va_cwS 3 hts gv_h7_35 rfl rfl rfl (by decide +kernel) ⟨Nat.le_of_ble_eq_true rfl, Nat.le_of_ble_eq_true rfl⟩) ⟨fun a U g mk q => by obtain ⟨q0, q1, qP, qK, qD⟩ := q; exact ⟨q0, q1, qP, va_K.moved (u := U) (U := U.calling g mk a) (Vm.Alike.refl U.vm) qK, qD⟩, fun U hU hW => ⟨rfl, by rw [hU], by rw [hU]; exact hPc, va_K.moved hW.alike hKc, hDc.weaken (fun _ _ _ _ => trivial)⟩⟩ rfl rfl hl.1 rfl (lv_room (Nat.le_of_ble_eq_true rfl)) dX3_isNameText_25 ⟨Nat.le_of_ble_eq_true rfl, Nat.le_of_ble_eq_true rfl⟩) hS (fun q _ h => hFc q h) hFc ?_
    clear hS
    intro r_5 u t H1 locs ht hvm hw hB hz1 hk1 hS
    obtain ⟨⟩ := u
    obtain ⟨hP1, hK1, hD1⟩ := hB
    rw [ht] at hP1
    have hK1 := va_K.moved hvm.symm hK1
    try dsimp only at hw
    have hPD := va_join (wr := [(qf5, .inl (cf5, 256, .inl f5)), (qf6, .inl (cf6, 256, .inl f6)), (h0, .inr (3, [.ref qf0, .int v1, .int v2, .int v3, .ref qf4, .ref qf5, .ref qf6, .int v7, .int v8, .int v9, .int v10, .ref qf11, .int v12, .ref qf13])), (qf4, .inl (cf4, 256, .inl f4))]) (w1 := [(qf0, .inl (cf0, nb, .inl f0))]) hP hD [2] [0, 1, 3, 4] rfl rfl (by decide) (by decide) hk1 hFc hP1 hD1
    clear hP hD
    obtain ⟨hP, hD⟩ := hPD
    replace hK := (hK.sub (tys' := [(cf5, .int), (cf6, .int), (cf4, .int)]) [0, 1, 3] rfl).app hK1
    clear hPc hDc hKc hFc hP1 hK1 hD1 hz1 hk1 ht hvm
    generalize H1 = H at hP hS ⊢
    replace hP : va_P (dC, dI) vwCl [(qf5, .inl (cf5, 256, .inl f5)), (qf6, .inl (cf6, 256, .inl f6)), (h0, .inr (3, [.ref qf0, .int v1, .int v2, .int v3, .ref qf4, .ref qf5, .ref qf6, .int v7, .int v8, .int v9, .int v10, .ref qf11, .int v12, .ref qf13])), (qf4, .inl (cf4, 256, .inl f4)), (qf0, .inl (cf0, nb, .inl f0))] H := hP
    replace hD : va_D A [(qf5, .inl (cf5, 256, .inl f5)), (qf6, .inl (cf6, 256, .inl f6)), (h0, .inr (3, [.ref qf0, .int v1, .int v2, .int v3, .ref qf4, .ref qf5, .ref qf6, .int v7, .int v8, .int v9, .int v10, .ref qf11, .int v12, .ref qf13])), (qf4, .inl (cf4, 256, .inl f4)), (qf0, .inl (cf0, nb, .inl f0))] := hD
    replace hK : va_K (dC, dI) vwCl [(cf5, .int), (cf6, .int), (cf4, .int), (cf0, .byte)] s := hK
    obtain ⟨rfl, hz_2⟩ := hw
    rcases hz_2 with rfl | rfl
    · rw [if_pos rfl] at hsp
      refine lv_if_eq (tgt := 35) hx hb dX3_isNameText_28 (by decide) (fun c_6 => ?_) (fun c_6 => (show False by revert c_6; decide).elim)
      refine lv_iconst (v := 0) hx hb dX3_isNameText_35 (by decide) ?_
      have hr0 := Option.some.inj hsp
      clear hsp
      subst hr0
      have hP9 := hP.sub (ws' := [(h0, .inr (3, [.ref qf0, .int v1, .int v2, .int v3, .ref qf4, .ref qf5, .ref qf6, .int v7, .int v8, .int v9, .int v10, .ref qf11, .int v12, .ref qf13])), (qf4, .inl (cf4, 256, .inl f4)), (qf5, .inl (cf5, 256, .inl f5)), (qf6, .inl (cf6, 256, .inl f6)), (qf0, .inl (cf0, nb, .inl f0))]) [2, 3, 0, 1, 4] rfl
      have hD9 := hD.sub (ws' := [(h0, .inr (3, [.ref qf0, .int v1, .int v2, .int v3, .ref qf4, .ref qf5, .ref qf6, .int v7, .int v8, .int v9, .int v10, .ref qf11, .int v12, .ref qf13])), (qf4, .inl (cf4, 256, .inl f4)), (qf5, .inl (cf5, 256, .inl f5)), (qf6, .inl (cf6, 256, .inl f6)), (qf0, .inl (cf0, nb, .inl f0))]) [2, 3, 0, 1, 4] (by decide) rfl
      have hK9 := hK.sub (tys' := [(cf4, .int), (cf5, .int), (cf6, .int), (cf0, .byte)]) [2, 0, 1, 3] rfl
      exact W.zret hx hb hr (by decide) (fun t ht hW => ⟨⟨(0), (), rfl, ⟨rfl, Or.inl rfl⟩, by rw [ht]; exact hP9, va_K.moved hW.alike hK9, hD9⟩, hS.F ht⟩) hS.2.2 dX3_isNameText_36
    · rw [if_neg (by decide)] at hsp
      refine lv_if_eq (tgt := 35) hx hb dX3_isNameText_28 (by decide) (fun c_7 => (show False by revert c_7; decide).elim) (fun c_7 => ?_)
      refine lv_iconst (v := 1) hx hb dX3_isNameText_31 (by decide) ?_
      refine lv_goto (tgt := 36) hx hb dX3_isNameText_32 (by decide) ?_
      have hr0 := Option.some.inj hsp
      clear hsp
      subst hr0
      have hP9 := hP.sub (ws' := [(h0, .inr (3, [.ref qf0, .int v1, .int v2, .int v3, .ref qf4, .ref qf5, .ref qf6, .int v7, .int v8, .int v9, .int v10, .ref qf11, .int v12, .ref qf13])), (qf4, .inl (cf4, 256, .inl f4)), (qf5, .inl (cf5, 256, .inl f5)), (qf6, .inl (cf6, 256, .inl f6)), (qf0, .inl (cf0, nb, .inl f0))]) [2, 3, 0, 1, 4] rfl
      have hD9 := hD.sub (ws' := [(h0, .inr (3, [.ref qf0, .int v1, .int v2, .int v3, .ref qf4, .ref qf5, .ref qf6, .int v7, .int v8, .int v9, .int v10, .ref qf11, .int v12, .ref qf13])), (qf4, .inl (cf4, 256, .inl f4)), (qf5, .inl (cf5, 256, .inl f5)), (qf6, .inl (cf6, 256, .inl f6)), (qf0, .inl (cf0, nb, .inl f0))]) [2, 3, 0, 1, 4] (by decide) rfl
      have hK9 := hK.sub (tys' := [(cf4, .int), (cf5, .int), (cf6, .int), (cf0, .byte)]) [2, 0, 1, 3] rfl
      exact W.zret hx hb hr (by decide) (fun t ht hW => ⟨⟨(1), (), rfl, ⟨rfl, Or.inr rfl⟩, by rw [ht]; exact hP9, va_K.moved hW.alike hK9, hD9⟩, hS.F ht⟩) hS.2.2 dX3_isNameText_36
def jn_v3_behindKind_111 (nf : Nat) (a1 : Int32) (a2 : Int32) (v1 : Int32) (nb : Nat) (f0 : Nat → Int32)  (l2_111 : Int32) (l4_111 : Int32) (l5_111 : Int32) : Option (Int32) := (if l2_111 ≤ l5_111 then (some (-1)) else ((sp_t9_isName nf (l4_111 + 1) l5_111 nb f0).bind (fun p1 => (if p1 = 0 then (some (-1)) else (some (l5_111 + 1))))))
def lp_v3_behindKind_88 (nf n : Nat) (a1 : Int32) (a2 : Int32) (v1 : Int32) (nb : Nat) (f0 : Nat → Int32)  (l2_88 : Int32) (l4_88 : Int32) (l5_88 : Int32) : Option (Int32) := match n with
  | 0 => none
  | n + 1 => (if l2_88 ≤ l5_88 then (jn_v3_behindKind_111 nf a1 a2 v1 nb f0  l2_88 l4_88 l5_88) else ((sp_ti_byteAt nf l5_88 v1 nb f0).bind (fun p1 => (if p1 = 59 then (jn_v3_behindKind_111 nf a1 a2 v1 nb f0  l2_88 l4_88 l5_88) else (lp_v3_behindKind_88 nf n a1 a2 v1 nb f0 l2_88 l4_88 (l5_88 + 1))))))
def jn_v3_behindKind_62 (nf : Nat) (a1 : Int32) (a2 : Int32) (v1 : Int32) (nb : Nat) (f0 : Nat → Int32)  (l2_62 : Int32) (l4_62 : Int32) (s0_62 : Int32) : Option (Int32) := (if s0_62 = 73 then (some (l4_62 + 1)) else (if s0_62 = 76 then (lp_v3_behindKind_88 nf nf a1 a2 v1 nb f0  l2_62 l4_62 (l4_62 + 1)) else (some (-1))))
def jn_v3_behindKind_44 (nf : Nat) (a1 : Int32) (a2 : Int32) (v1 : Int32) (nb : Nat) (f0 : Nat → Int32)  (l2_44 : Int32) (s0_44 : Int32) : Option (Int32) := (if l2_44 ≤ s0_44 then (jn_v3_behindKind_62 nf a1 a2 v1 nb f0  l2_44 s0_44 0) else ((sp_ti_byteAt nf s0_44 v1 nb f0).bind (fun p1 => (jn_v3_behindKind_62 nf a1 a2 v1 nb f0  l2_44 s0_44 p1))))
def jn_v3_behindKind_14 (nf : Nat) (a1 : Int32) (a2 : Int32) (v1 : Int32) (nb : Nat) (f0 : Nat → Int32)  (l1_14 : Int32) (l2_14 : Int32) (s0_14 : Int32) : Option (Int32) := (if s0_14 = 73 then (some (l1_14 + 1)) else (if s0_14 = 90 then (some (l1_14 + 1)) else (if s0_14 = 91 then (jn_v3_behindKind_44 nf a1 a2 v1 nb f0  l2_14 (l1_14 + 1)) else (jn_v3_behindKind_44 nf a1 a2 v1 nb f0  l2_14 l1_14))))
def sp_v3_behindKind (nf : Nat) (a1 : Int32) (a2 : Int32) (v1 : Int32) (nb : Nat) (f0 : Nat → Int32) : Option (Int32) := (if a2 ≤ a1 then (jn_v3_behindKind_14 nf a1 a2 v1 nb f0  a1 a2 0) else ((sp_ti_byteAt nf a1 v1 nb f0).bind (fun p1 => (jn_v3_behindKind_14 nf a1 a2 v1 nb f0  a1 a2 p1))))

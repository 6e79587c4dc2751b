set_option maxHeartbeats 4000000 in
set_option maxRecDepth 100000 in
/-- ClassMill$Image.readConstants -/
theorem v3_readConstants (l : Launch) (dC : Nat → ClassId) (dI : Nat → Nat → Nat) (sz : Nat) (h0 : Nat) (qf0 : Nat) (v1 : Int32) (v2 : Int32) (v3 : Int32) (qf4 : Nat) (qf5 : Nat) (qf6 : Nat) (v7 : Int32) (v8 : Int32) (v9 : Int32) (v10 : Int32) (qf11 : Nat) (v12 : Int32) (qf13 : Nat) (cf0 : ClassId) (nb : Nat) (f0 : (Nat → Int32)) (cf4 : ClassId) (f4 : (Nat → Int32)) (cf5 : ClassId) (f5 : (Nat → Int32)) (cf6 : ClassId) (f6 : (Nat → Int32)) (nf : Nat) (o4 : (Nat → Int32)) (o5 : (Nat → Int32)) (o6 : (Nat → Int32)) (w2 : Int32) (w3 : Int32) (w7 : Int32) (hsp : sp_v3_readConstants nf v1 v2 v3 nb f0 f4 f5 f6 = some (o4, o5, o6, w2, w3, w7)) : Met l yX3_readConstants (.code yX3_readConstants cX3_readConstants 2 none :: VS_h7) ({ frames := 4, cells := 0, slots := 0, locals := 99 }) (va_Pc [.ref h0] (fun U => U.heap.size = sz ∧ va_P (dC, dI) vwCl [(h0, .inr (3, [.ref qf0, .int v1, .int v2, .int v3, .ref qf4, .ref qf5, .ref qf6, .int v7, .int v8, .int v9, .int v10, .ref qf11, .int v12, .ref qf13])), (qf0, .inl (cf0, nb, .inl f0)), (qf4, .inl (cf4, 256, .inl f4)), (qf5, .inl (cf5, 256, .inl f5)), (qf6, .inl (cf6, 256, .inl f6))] U.heap ∧ va_K (dC, dI) vwCl [(cf0, .byte), (cf4, .int), (cf5, .int), (cf6, .int)] U ∧ va_D (fun _ => True) [(h0, .inr (3, [.ref qf0, .int v1, .int v2, .int v3, .ref qf4, .ref qf5, .ref qf6, .int v7, .int v8, .int v9, .int v10, .ref qf11, .int v12, .ref qf13])), (qf0, .inl (cf0, nb, .inl f0)), (qf4, .inl (cf4, 256, .inl f4)), (qf5, .inl (cf5, 256, .inl f5)), (qf6, .inl (cf6, 256, .inl f6))])) (va_Qv (fun (u : Unit) => match u with | () => True) (fun (u : Unit) (t : State) => match u with | () => va_P (dC, dI) vwCl [(h0, .inr (3, [.ref qf0, .int v1, .int w2, .int w3, .ref qf4, .ref qf5, .ref qf6, .int w7, .int v8, .int v9, .int v10, .ref qf11, .int v12, .ref qf13])), (qf0, .inl (cf0, nb, .inl f0)), (qf4, .inl (cf4, 256, .inl o4)), (qf5, .inl (cf5, 256, .inl o5)), (qf6, .inl (cf6, 256, .inl o6))] t.heap ∧ va_K (dC, dI) vwCl [(cf0, .byte), (cf4, .int), (cf5, .int), (cf6, .int)] t ∧ va_D (va_A [(h0, .inr (3, [.ref qf0, .int v1, .int v2, .int v3, .ref qf4, .ref qf5, .ref qf6, .int v7, .int v8, .int v9, .int v10, .ref qf11, .int v12, .ref qf13])), (qf0, .inl (cf0, nb, .inl f0)), (qf4, .inl (cf4, 256, .inl f4)), (qf5, .inl (cf5, 256, .inl f5)), (qf6, .inl (cf6, 256, .inl f6))] sz) [(h0, .inr (3, [.ref qf0, .int v1, .int w2, .int w3, .ref qf4, .ref qf5, .ref qf6, .int w7, .int v8, .int v9, .int v10, .ref qf11, .int v12, .ref qf13])), (qf0, .inl (cf0, nb, .inl f0)), (qf4, .inl (cf4, 256, .inl o4)), (qf5, .inl (cf5, 256, .inl o5)), (qf6, .inl (cf6, 256, .inl o6))]) (va_A [(h0, .inr (3, [.ref qf0, .int v1, .int v2, .int v3, .ref qf4, .ref qf5, .ref qf6, .int v7, .int v8, .int v9, .int v10, .ref qf11, .int v12, .ref qf13])), (qf0, .inl (cf0, nb, .inl f0)), (qf4, .inl (cf4, 256, .inl f4)), (qf5, .inl (cf5, 256, .inl f5)), (qf6, .inl (cf6, 256, .inl f6))] sz)) 0 0 (va_A [(h0, .inr (3, [.ref qf0, .int v1, .int v2, .int v3, .ref qf4, .ref qf5, .ref qf6, .int v7, .int v8, .int v9, .int v10, .ref qf11, .int v12, .ref qf13])), (qf0, .inl (cf0, nb, .inl f0)), (qf4, .inl (cf4, 256, .inl f4)), (qf5, .inl (cf5, 256, .inl f5)), (qf6, .inl (cf6, 256, .inl f6))] sz) := by
  refine Met.ofW (cc := cX3_readConstants) (maxL := 2) (ret := none) (by decide) rfl ?_
  intro p e s m args below meth c s₁ B hml hv
  obtain ⟨rfl, hsz, hP, hK, hD0⟩ := hv
  have hx := B.exec
  have hb := B.bytes
  have hr := B.returns
  have hts := atoms_spec (ws := (.code yX3_readConstants cX3_readConstants 2 none :: VS_h7)) B.pre
  replace hts := fun w (h : w ∈ VS_h7) => hts w (List.mem_cons_of_mem _ h)
  have hown : s.vm.findClass RX3 = some m.cls := findClass_of_methodNamed B.named
  have hlocks := B.notSynchronized
  subst hsz
  have hD := hD0.self (sz := s.heap.size)
  generalize hAe : va_A [(h0, .inr (3, [.ref qf0, .int v1, .int v2, .int v3, .ref qf4, .ref qf5, .ref qf6, .int v7, .int v8, .int v9, .int v10, .ref qf11, .int v12, .ref qf13])), (qf0, .inl (cf0, nb, .inl f0)), (qf4, .inl (cf4, 256, .inl f4)), (qf5, .inl (cf5, 256, .inl f5)), (qf6, .inl (cf6, 256, .inl f6))] s.heap.size = A at hD  ⊢
  have hA : ∀ q : Nat, s.heap.size ≤ q → A q := fun q h => by rw [← hAe]; exact Or.inr h
  have hP : va_P (dC, dI) vwCl [(h0, .inr (3, [.ref qf0, .int v1, .int v2, .int v3, .ref qf4, .ref qf5, .ref qf6, .int v7, .int v8, .int v9, .int v10, .ref qf11, .int v12, .ref qf13])), (qf0, .inl (cf0, nb, .inl f0)), (qf4, .inl (cf4, 256, .inl f4)), (qf5, .inl (cf5, 256, .inl f5)), (qf6, .inl (cf6, 256, .inl f6))] s.heap := hP
  have hl := lv_entry ([.ref h0]) (n := 2) (Nat.le_of_ble_eq_true rfl)
  rw [lg_entry_eq]
  generalize (lg_sl ([.ref h0]) ++ List.replicate (2 - (lg_sl ([.ref h0])).length) Slot.unset).toArray = ls at hl ⊢
  have hl : lv_has ls 2 [(0, .ref h0)] := hl
  obtain ⟨H, hH⟩ : ∃ H : Heap, s.heap = H := ⟨_, rfl⟩
  rw [hH] at hP ⊢
  have hS : va_S A s.heap H [] := by rw [← hH]; exact va_S.rf
  obtain ⟨locs, hlo⟩ : ∃ locs : List Loc, locs = [] := ⟨_, rfl⟩
  rw [← hlo] at hS ⊢
  unfold sp_v3_readConstants at hsp
  refine jn_use (α := Heap × List Loc × Array Slot × (Nat → Int32) × (Nat → Int32) × (Nat → Int32) × Int32 × Int32 × Int32) (fun x9 => x9.1) (fun x9 => x9.2.1) (fun x9 => F0 m 55 x9.2.2.1 []) (fun x9 => match x9 with | (H, locs, ls, g4_55, g5_55, g6_55, x2_55, x3_55, x7_55) => lv_has ls 2 [(0, .ref h0)] ∧ va_S A s.heap H locs ∧ va_D A [(h0, .inr (3, [.ref qf0, .int v1, .int x2_55, .int x3_55, .ref qf4, .ref qf5, .ref qf6, .int x7_55, .int v8, .int v9, .int v10, .ref qf11, .int v12, .ref qf13])), (qf0, .inl (cf0, nb, .inl f0)), (qf4, .inl (cf4, 256, .inl g4_55)), (qf5, .inl (cf5, 256, .inl g5_55)), (qf6, .inl (cf6, 256, .inl g6_55))] ∧ va_P (dC, dI) vwCl [(h0, .inr (3, [.ref qf0, .int v1, .int x2_55, .int x3_55, .ref qf4, .ref qf5, .ref qf6, .int x7_55, .int v8, .int v9, .int v10, .ref qf11, .int v12, .ref qf13])), (qf0, .inl (cf0, nb, .inl f0)), (qf4, .inl (cf4, 256, .inl g4_55)), (qf5, .inl (cf5, 256, .inl g5_55)), (qf6, .inl (cf6, 256, .inl g6_55))] H ∧ jn_v3_readConstants_55 nf v1 v2 v3 nb f0 f4 f5 f6 g4_55 g5_55 g6_55 x2_55 x3_55 x7_55 = some (o4, o5, o6, w2, w3, w7)) ?_ ?_
  · intro x9 hJ9
    obtain ⟨H, locs, ls, g4_55, g5_55, g6_55, x2_55, x3_55, x7_55⟩ := x9
    obtain ⟨hl, hS, hD, hP, hsp⟩ := hJ9
    replace hl : lv_has ls 2 [(0, .ref h0)] := hl
    replace hS : va_S A s.heap H locs := hS
    replace hD : va_D A [(h0, .inr (3, [.ref qf0, .int v1, .int x2_55, .int x3_55, .ref qf4, .ref qf5, .ref qf6, .int x7_55, .int v8, .int v9, .int v10, .ref qf11, .int v12, .ref qf13])), (qf0, .inl (cf0, nb, .inl f0)), (qf4, .inl (cf4, 256, .inl g4_55)), (qf5, .inl (cf5, 256, .inl g5_55)), (qf6, .inl (cf6, 256, .inl g6_55))] := hD
    replace hP : va_P (dC, dI) vwCl [(h0, .inr (3, [.ref qf0, .int v1, .int x2_55, .int x3_55, .ref qf4, .ref qf5, .ref qf6, .int x7_55, .int v8, .int v9, .int v10, .ref qf11, .int v12, .ref qf13])), (qf0, .inl (cf0, nb, .inl f0)), (qf4, .inl (cf4, 256, .inl g4_55)), (qf5, .inl (cf5, 256, .inl g5_55)), (qf6, .inl (cf6, 256, .inl g6_55))] H := hP
    replace hsp : jn_v3_readConstants_55 nf v1 v2 v3 nb f0 f4 f5 f6 g4_55 g5_55 g6_55 x2_55 x3_55 x7_55 = some (o4, o5, o6, w2, w3, w7) := hsp
    show W _ _ _ _ _ _ _ _ _ _ H locs _ _ _ (F0 m 55 ls [])
    unfold jn_v3_readConstants_55 at hsp
    try dsimp only at hsp
    refine lv_iconst (v := 1) hx hb dX3_readConstants_55 (by decide) ?_
    refine lv_istore_n (lv' := [(1, .int 1), (0, .ref h0)]) hx hb dX3_readConstants_56 rfl hl (by decide) rfl (fun ls hl => ?_)
    replace hl : lv_has ls 2 [(1, .int 1), (0, .ref h0)] := lv_sub hl [0, 1] rfl
    replace hP := hP.sub (ws' := [(h0, .inr (3, [.ref qf0, .int v1, .int x2_55, .int x3_55, .ref qf4, .ref qf5, .ref qf6, .int x7_55, .int v8, .int v9, .int v10, .ref qf11, .int v12, .ref qf13])), (qf0, .inl (cf0, nb, .inl f0)), (qf4, .inl (cf4, 256, .inl g4_55)), (qf5, .inl (cf5, 256, .inl g5_55)), (qf6, .inl (cf6, 256, .inl g6_55))]) [0, 1, 2, 3, 4] rfl
    replace hD := hD.sub (ws' := [(h0, .inr (3, [.ref qf0, .int v1, .int x2_55, .int x3_55, .ref qf4, .ref qf5, .ref qf6, .int x7_55, .int v8, .int v9, .int v10, .ref qf11, .int v12, .ref qf13])), (qf0, .inl (cf0, nb, .inl f0)), (qf4, .inl (cf4, 256, .inl g4_55)), (qf5, .inl (cf5, 256, .inl g5_55)), (qf6, .inl (cf6, 256, .inl g6_55))]) [0, 1, 2, 3, 4] (by decide) rfl
    replace hK := hK.sub (tys' := [(cf0, .byte), (cf4, .int), (cf5, .int), (cf6, .int)]) [0, 1, 2, 3] rfl
    obtain ⟨n_57, hn_57⟩ : ∃ z : Nat, z = nf := ⟨_, rfl⟩
    obtain ⟨l1_57, el1_57⟩ : ∃ z : Int32, z = 1 := ⟨_, rfl⟩
    obtain ⟨g4_57, eg4_57⟩ : ∃ z : Nat → Int32, z = g4_55 := ⟨_, rfl⟩
    obtain ⟨g5_57, eg5_57⟩ : ∃ z : Nat → Int32, z = g5_55 := ⟨_, rfl⟩
    obtain ⟨g6_57, eg6_57⟩ : ∃ z : Nat → Int32, z = g6_55 := ⟨_, rfl⟩
    obtain ⟨x2_57, ex2_57⟩ : ∃ z : Int32, z = x2_55 := ⟨_, rfl⟩
    obtain ⟨x3_57, ex3_57⟩ : ∃ z : Int32, z = x3_55 := ⟨_, rfl⟩
    obtain ⟨x7_57, ex7_57⟩ : ∃ z : Int32, z = x7_55 := ⟨_, rfl⟩
    replace hsp : lp_v3_readConstants_57 nf n_57 v1 v2 v3 nb f0 f4 f5 f6 l1_57 g4_57 g5_57 g6_57 x2_57 x3_57 x7_57 = some (o4, o5, o6, w2, w3, w7) := by rw [hn_57, el1_57, eg4_57, eg5_57, eg6_57, ex2_57, ex3_57, ex7_57]; exact hsp
    replace hl : lv_has ls 2 [(1, .int l1_57), (0, .ref h0)] := by rw [el1_57]; exact hl
    replace hP : va_P (dC, dI) vwCl [(h0, .inr (3, [.ref qf0, .int v1, .int x2_57, .int x3_57, .ref qf4, .ref qf5, .ref qf6, .int x7_57, .int v8, .int v9, .int v10, .ref qf11, .int v12, .ref qf13])), (qf0, .inl (cf0, nb, .inl f0)), (qf4, .inl (cf4, 256, .inl g4_57)), (qf5, .inl (cf5, 256, .inl g5_57)), (qf6, .inl (cf6, 256, .inl g6_57))] H := by rw [eg4_57, eg5_57, eg6_57, ex2_57, ex3_57, ex7_57]; exact hP
    replace hD : va_D A [(h0, .inr (3, [.ref qf0, .int v1, .int x2_57, .int x3_57, .ref qf4, .ref qf5, .ref qf6, .int x7_57, .int v8, .int v9, .int v10, .ref qf11, .int v12, .ref qf13])), (qf0, .inl (cf0, nb, .inl f0)), (qf4, .inl (cf4, 256, .inl g4_57)), (qf5, .inl (cf5, 256, .inl g5_57)), (qf6, .inl (cf6, 256, .inl g6_57))] := by rw [eg4_57, eg5_57, eg6_57, ex2_57, ex3_57, ex7_57]; exact hD
    clear hn_57 el1_57 eg4_57 eg5_57 eg6_57 ex2_57 ex3_57 ex7_57
    try clear hlo
    try clear hH
    revert hsp
    revert hP
    revert hD
    revert hS
    revert hl
    revert x7_57
    revert x3_57
    revert x2_57
    revert g6_57
    revert g5_57
    revert g4_57
    revert l1_57
    revert ls
    revert locs
    revert H
    induction n_57 with
    | zero => intro H locs ls l1_57 g4_57 g5_57 g6_57 x2_57 x3_57 x7_57  hl hS hD hP hsp; unfold lp_v3_readConstants_57 at hsp; cases hsp
    | succ n_57 ih_57 =>
      intro H locs ls l1_57 g4_57 g5_57 g6_57 x2_57 x3_57 x7_57  hl hS hD hP hsp
      unfold lp_v3_readConstants_57 at hsp
      try dsimp only at hsp
      refine lv_iload_n hx hb dX3_readConstants_57 rfl (lv_at hl 0 rfl) ?_
      refine lv_aload_n hx hb dX3_readConstants_58 rfl (lv_at hl 1 rfl) ?_
      refine va_get (D := (dC, dI)) (ci := 3) (v := .int x7_57) (C := RX3) (T := TX3) (N := 14) hx hb hts uV_h7_X3 hown hK hP 0 rfl rfl 7 (by decide) (hts (.fieldLink RX3 90 "ClassMill$Image" "constants" "I") mw_h7_603) (fun _ h9 => h9) rfl dX3_readConstants_59 ?_
      refine lv_icmp_gt (tgt := 84) hx hb dX3_readConstants_62 (by decide) (fun c_6 => ?_) (fun c_6 => ?_)
      · rw [if_pos c_6] at hsp
        have hr0 := Option.some.inj hsp
        clear hsp
        obtain ⟨hq0, hr1⟩ := Prod.mk.inj hr0
        clear hr0
        obtain ⟨hq1, hr2⟩ := Prod.mk.inj hr1
        clear hr1
        obtain ⟨hq2, hr3⟩ := Prod.mk.inj hr2
        clear hr2
        obtain ⟨hq3, hr4⟩ := Prod.mk.inj hr3
        clear hr3
        obtain ⟨hq4, hr5⟩ := Prod.mk.inj hr4
        clear hr4
        subst hq0
        subst hq1
        subst hq2
        subst hq3
        subst hq4
        subst hr5
        have hP9 := hP.sub (ws' := [(h0, .inr (3, [.ref qf0, .int v1, .int x2_57, .int x3_57, .ref qf4, .ref qf5, .ref qf6, .int x7_57, .int v8, .int v9, .int v10, .ref qf11, .int v12, .ref qf13])), (qf0, .inl (cf0, nb, .inl f0)), (qf4, .inl (cf4, 256, .inl g4_57)), (qf5, .inl (cf5, 256, .inl g5_57)), (qf6, .inl (cf6, 256, .inl g6_57))]) [0, 1, 2, 3, 4] rfl
        have hD9 := hD.sub (ws' := [(h0, .inr (3, [.ref qf0, .int v1, .int x2_57, .int x3_57, .ref qf4, .ref qf5, .ref qf6, .int x7_57, .int v8, .int v9, .int v10, .ref qf11, .int v12, .ref qf13])), (qf0, .inl (cf0, nb, .inl f0)), (qf4, .inl (cf4, 256, .inl g4_57)), (qf5, .inl (cf5, 256, .inl g5_57)), (qf6, .inl (cf6, 256, .inl g6_57))]) [0, 1, 2, 3, 4] (by decide) rfl
        have hK9 := hK.sub (tys' := [(cf0, .byte), (cf4, .int), (cf5, .int), (cf6, .int)]) [0, 1, 2, 3] rfl
        exact W.vret hx hb hr (fun t ht hW => ⟨⟨(), rfl, trivial, by rw [ht]; exact hP9, va_K.moved hW.alike hK9, hD9⟩, hS.F ht⟩) hS.2.2 dX3_readConstants_84
      · rw [if_neg c_6] at hsp
        refine lv_aload_n hx hb dX3_readConstants_65 rfl (lv_at hl 1 rfl) ?_
        refine va_get (D := (dC, dI)) (ci := 3) (v := .int x3_57) (C := RX3) (T := TX3) (N := 14) hx hb hts uV_h7_X3 hown hK hP 0 rfl rfl 3 (by decide) (hts (.fieldLink RX3 46 "ClassMill$Image" "form" "I") mw_h7_157) (fun _ h9 => h9) rfl dX3_readConstants_66 ?_
        refine lv_iconst (v := (-1)) hx hb dX3_readConstants_69 (by decide) ?_
        refine lv_icmp_ne (tgt := 84) hx hb dX3_readConstants_70 (by decide) (fun c_7 => ?_) (fun c_7 => ?_)
        · rw [if_neg c_7] at hsp
          have hr0 := Option.some.inj hsp
          clear hsp
          obtain ⟨hq0, hr1⟩ := Prod.mk.inj hr0
          clear hr0
          obtain ⟨hq1, hr2⟩ := Prod.mk.inj hr1
          clear hr1
          obtain ⟨hq2, hr3⟩ := Prod.mk.inj hr2
          clear hr2
          obtain ⟨hq3, hr4⟩ := Prod.mk.inj hr3
          clear hr3
          obtain ⟨hq4, hr5⟩ := Prod.mk.inj hr4
          clear hr4
          subst hq0
          subst hq1
          subst hq2
          subst hq3
          subst hq4
          subst hr5
          have hP9 := hP.sub (ws' := [(h0, .inr (3, [.ref qf0, .int v1, .int x2_57, .int x3_57, .ref qf4, .ref qf5, .ref qf6, .int x7_57, .int v8, .int v9, .int v10, .ref qf11, .int v12, .ref qf13])), (qf0, .inl (cf0, nb, .inl f0)), (qf4, .inl (cf4, 256, .inl g4_57)), (qf5, .inl (cf5, 256, .inl g5_57)), (qf6, .inl (cf6, 256, .inl g6_57))]) [0, 1, 2, 3, 4] rfl
          have hD9 := hD.sub (ws' := [(h0, .inr (3, [.ref qf0, .int v1, .int x2_57, .int x3_57, .ref qf4, .ref qf5, .ref qf6, .int x7_57, .int v8, .int v9, .int v10, .ref qf11, .int v12, .ref qf13])), (qf0, .inl (cf0, nb, .inl f0)), (qf4, .inl (cf4, 256, .inl g4_57)), (qf5, .inl (cf5, 256, .inl g5_57)), (qf6, .inl (cf6, 256, .inl g6_57))]) [0, 1, 2, 3, 4] (by decide) rfl
          have hK9 := hK.sub (tys' := [(cf0, .byte), (cf4, .int), (cf5, .int), (cf6, .int)]) [0, 1, 2, 3] rfl
          exact W.vret hx hb hr (fun t ht hW => ⟨⟨(), rfl, trivial, by rw [ht]; exact hP9, va_K.moved hW.alike hK9, hD9⟩, hS.F ht⟩) hS.2.2 dX3_readConstants_84
        · rw [if_pos c_7] at hsp
          refine lv_aload_n hx hb dX3_readConstants_73 rfl (lv_at hl 1 rfl) ?_
          refine lv_iload_n hx hb dX3_readConstants_74 rfl (lv_at hl 0 rfl) ?_
          obtain ⟨u5_0, hu_5, hsp⟩ := ox_bind hsp
          try dsimp only at hsp
          have hPc := hP.sub (ws' := [(h0, .inr (3, [.ref qf0, .int v1, .int x2_57, .int x3_57, .ref qf4, .ref qf5, .ref qf6, .int x7_57, .int v8, .int v9, .int v10, .ref qf11, .int v12, .ref qf13])), (qf5, .inl (cf5, 256, .inl g5_57)), (qf4, .inl (cf4, 256, .inl g4_57)), (qf0, .inl (cf0, nb, .inl f0)), (qf6, .inl (cf6, 256, .inl g6_57))]) [0, 3, 2, 1, 4] rfl
          have hDc := hD.sub (ws' := [(h0, .inr (3, [.ref qf0, .int v1, .int x2_57, .int x3_57, .ref qf4, .ref qf5, .ref qf6, .int x7_57, .int v8, .int v9, .int v10, .ref qf11, .int v12, .ref qf13])), (qf5, .inl (cf5, 256, .inl g5_57)), (qf4, .inl (cf4, 256, .inl g4_57)), (qf0, .inl (cf0, nb, .inl f0)), (qf6, .inl (cf6, 256, .inl g6_57))]) [0, 3, 2, 1, 4] (by decide) rfl
          have hKc := hK.sub (tys' := [(cf5, .int), (cf4, .int), (cf0, .byte), (cf6, .int)]) [2, 1, 0, 3] rfl
          have hFc := va_free (wc := [(h0, .inr (3, [.ref qf0, .int v1, .int x2_57, .int x3_57, .ref qf4, .ref qf5, .ref qf6, .int x7_57, .int v8, .int v9, .int v10, .ref qf11, .int v12, .ref qf13])), (qf5, .inl (cf5, 256, .inl g5_57)), (qf4, .inl (cf4, 256, .inl g4_57)), (qf0, .inl (cf0, nb, .inl f0)), (qf6, .inl (cf6, 256, .inl g6_57))]) hD hS hA [0, 3, 2, 1, 4] rfl
          refine va_callv (va_runV (As := [.int l1_57]) (rest := []) ⟨hx, hb, hml, hown, hts⟩ (v3_checkConstant l dC dI H.size h0 l1_57 qf0 v1 x2_57 x3_57 qf4 qf5 qf6 x7_57 v8 v9 v10 qf11 v12 qf13 cf5 g5_57 cf4 g4_57 cf0 nb f0 cf6 g6_57 nf u5_0 hu_5) (cwV 1 hts gv_h7_147 rfl rfl rfl (by decide +kernel) ⟨Nat.le_of_ble_eq_true rfl, Nat.le_of_ble_eq_true rfl⟩) ⟨fun a U g mk q => by obtain ⟨q0, q1, qP, qK, qD⟩ := q; exact ⟨q0, q1, qP, va_K.moved (u := U) (U := U.calling g mk a) (Vm.Alike.refl U.vm) qK, qD⟩, va_recv hKc hPc (ci := 3) (q0 := 0) rfl rfl, fun U hU hW => ⟨rfl, by rw [hU], by rw [hU]; exact hPc, va_K.moved hW.alike hKc, hDc.weaken (fun _ _ _ _ => trivial)⟩⟩ rfl rfl hl.1 rfl (lv_room (Nat.le_of_ble_eq_true rfl)) dX3_readConstants_75 ⟨Nat.le_of_ble_eq_true rfl, Nat.le_of_ble_eq_true rfl⟩) hS (fun q _ h => hFc q h) hFc ?_
          clear hS
          intro u t H1 locs ht hvm hw hB hz1 hk1 hS
          obtain ⟨⟩ := u
          obtain ⟨hP1, hK1, hD1⟩ := hB
          rw [ht] at hP1
          have hK1 := va_K.moved hvm.symm hK1
          try dsimp only at hw
          have hPD := va_join (wr := []) (w1 := [(h0, .inr (3, [.ref qf0, .int v1, .int x2_57, .int u5_0, .ref qf4, .ref qf5, .ref qf6, .int x7_57, .int v8, .int v9, .int v10, .ref qf11, .int v12, .ref qf13])), (qf5, .inl (cf5, 256, .inl g5_57)), (qf4, .inl (cf4, 256, .inl g4_57)), (qf0, .inl (cf0, nb, .inl f0)), (qf6, .inl (cf6, 256, .inl g6_57))]) hP hD [0, 3, 2, 1, 4] [] rfl rfl (by decide) (by decide) hk1 hFc hP1 hD1
          clear hP hD
          obtain ⟨hP, hD⟩ := hPD
          replace hK := (hK.sub (tys' := []) [] rfl).app hK1
          clear hPc hDc hKc hFc hP1 hK1 hD1 hz1 hk1 ht hvm
          generalize H1 = H at hP hS ⊢
          replace hP : va_P (dC, dI) vwCl [(h0, .inr (3, [.ref qf0, .int v1, .int x2_57, .int u5_0, .ref qf4, .ref qf5, .ref qf6, .int x7_57, .int v8, .int v9, .int v10, .ref qf11, .int v12, .ref qf13])), (qf5, .inl (cf5, 256, .inl g5_57)), (qf4, .inl (cf4, 256, .inl g4_57)), (qf0, .inl (cf0, nb, .inl f0)), (qf6, .inl (cf6, 256, .inl g6_57))] H := hP
          replace hD : va_D A [(h0, .inr (3, [.ref qf0, .int v1, .int x2_57, .int u5_0, .ref qf4, .ref qf5, .ref qf6, .int x7_57, .int v8, .int v9, .int v10, .ref qf11, .int v12, .ref qf13])), (qf5, .inl (cf5, 256, .inl g5_57)), (qf4, .inl (cf4, 256, .inl g4_57)), (qf0, .inl (cf0, nb, .inl f0)), (qf6, .inl (cf6, 256, .inl g6_57))] := hD
          replace hK : va_K (dC, dI) vwCl [(cf5, .int), (cf4, .int), (cf0, .byte), (cf6, .int)] s := hK
          refine lv_iinc (v := (l1_57 + 1)) (lv' := [(1, .int (l1_57 + 1)), (0, .ref h0)]) hx hb dX3_readConstants_78 hl (k := 0) rfl rfl (by decide) rfl (fun ls hl => ?_)
          refine lv_goto (tgt := 57) hx hb dX3_readConstants_81 (by decide) ?_
          exact ih_57 H locs ls (l1_57 + 1) g4_57 g5_57 g6_57 x2_57 u5_0 x7_57 (lv_sub hl [0, 1] rfl) hS (hD.sub (ws' := [(h0, .inr (3, [.ref qf0, .int v1, .int x2_57, .int u5_0, .ref qf4, .ref qf5, .ref qf6, .int x7_57, .int v8, .int v9, .int v10, .ref qf11, .int v12, .ref qf13])), (qf0, .inl (cf0, nb, .inl f0)), (qf4, .inl (cf4, 256, .inl g4_57)), (qf5, .inl (cf5, 256, .inl g5_57)), (qf6, .inl (cf6, 256, .inl g6_57))]) [0, 3, 2, 1, 4] (by decide) rfl) (hP.sub (ws' := [(h0, .inr (3, [.ref qf0, .int v1, .int x2_57, .int u5_0, .ref qf4, .ref qf5, .ref qf6, .int x7_57, .int v8, .int v9, .int v10, .ref qf11, .int v12, .ref qf13])), (qf0, .inl (cf0, nb, .inl f0)), (qf4, .inl (cf4, 256, .inl g4_57)), (qf5, .inl (cf5, 256, .inl g5_57)), (qf6, .inl (cf6, 256, .inl g6_57))]) [0, 3, 2, 1, 4] rfl) hsp
  intro hj_55
  refine lv_aload_n hx hb dX3_readConstants_0 rfl (lv_at hl 0 rfl) ?_
  refine lv_bipush (v := 74) hx hb dX3_readConstants_1 (by decide) ?_
  refine lv_bipush (v := 74) hx hb dX3_readConstants_3 (by decide) ?_
  obtain ⟨⟨u1_0, u1_1, u1_2⟩, hu_1, hsp⟩ := ox_bind hsp
  try dsimp only at hsp
  have hPc := hP.sub (ws' := [(h0, .inr (3, [.ref qf0, .int v1, .int v2, .int v3, .ref qf4, .ref qf5, .ref qf6, .int v7, .int v8, .int v9, .int v10, .ref qf11, .int v12, .ref qf13])), (qf0, .inl (cf0, nb, .inl f0))]) [0, 1] rfl
  have hDc := hD.sub (ws' := [(h0, .inr (3, [.ref qf0, .int v1, .int v2, .int v3, .ref qf4, .ref qf5, .ref qf6, .int v7, .int v8, .int v9, .int v10, .ref qf11, .int v12, .ref qf13])), (qf0, .inl (cf0, nb, .inl f0))]) [0, 1] (by decide) rfl
  have hKc := hK.sub (tys' := [(cf0, .byte)]) [0] rfl
  have hFc := va_free (wc := [(h0, .inr (3, [.ref qf0, .int v1, .int v2, .int v3, .ref qf4, .ref qf5, .ref qf6, .int v7, .int v8, .int v9, .int v10, .ref qf11, .int v12, .ref qf13])), (qf0, .inl (cf0, nb, .inl f0))]) hD hS hA [0, 1] rfl
  refine va_calli (va_runV (As := [.int 74, .int 74]) (rest := []) ⟨hx, hb, hml, hown, hts⟩ (ti_nextUpTo l dC dI H.size h0 74 74 qf0 v1 v2 v3 qf4 qf5 qf6 v7 v8 v9 v10 qf11 v12 qf13 cf0 nb f0 nf u1_0 u1_1 u1_2 hu_1) (cwV 2 hts gv_h7_29 rfl rfl rfl (by decide +kernel) ⟨Nat.le_of_ble_eq_true rfl, Nat.le_of_ble_eq_true rfl⟩) ⟨fun a U g mk q => by obtain ⟨q0, q1, qP, qK, qD⟩ := q; exact ⟨q0, q1, qP, va_K.moved (u := U) (U := U.calling g mk a) (Vm.Alike.refl U.vm) qK, qD⟩, va_recv hKc hPc (ci := 3) (q0 := 0) rfl rfl, fun U hU hW => ⟨rfl, by rw [hU], by rw [hU]; exact hPc, va_K.moved hW.alike hKc, hDc.weaken (fun _ _ _ _ => trivial)⟩⟩ rfl rfl hl.1 rfl (lv_room (Nat.le_of_ble_eq_true rfl)) dX3_readConstants_5 ⟨Nat.le_of_ble_eq_true rfl, Nat.le_of_ble_eq_true rfl⟩) hS (fun q _ h => hFc q h) hFc ?_
  clear hS
  intro r_1 u t H1 locs ht hvm hw hB hz1 hk1 hS
  obtain ⟨⟩ := u
  obtain ⟨hP1, hK1, hD1⟩ := hB
  rw [ht] at hP1
  have hK1 := va_K.moved hvm.symm hK1
  try dsimp only at hw
  have hPD := va_join (wr := [(qf4, .inl (cf4, 256, .inl f4)), (qf5, .inl (cf5, 256, .inl f5)), (qf6, .inl (cf6, 256, .inl f6))]) (w1 := [(h0, .inr (3, [.ref qf0, .int v1, .int u1_1, .int u1_2, .ref qf4, .ref qf5, .ref qf6, .int v7, .int v8, .int v9, .int v10, .ref qf11, .int v12, .ref qf13])), (qf0, .inl (cf0, nb, .inl f0))]) hP hD [0, 1] [2, 3, 4] rfl rfl (by decide) (by decide) hk1 hFc hP1 hD1
  clear hP hD
  obtain ⟨hP, hD⟩ := hPD
  replace hK := (hK.sub (tys' := [(cf4, .int), (cf5, .int), (cf6, .int)]) [1, 2, 3] rfl).app hK1
  clear hPc hDc hKc hFc hP1 hK1 hD1 hz1 hk1 ht hvm
  generalize H1 = H at hP hS ⊢
  replace hP : va_P (dC, dI) vwCl [(qf4, .inl (cf4, 256, .inl f4)), (qf5, .inl (cf5, 256, .inl f5)), (qf6, .inl (cf6, 256, .inl f6)), (h0, .inr (3, [.ref qf0, .int v1, .int u1_1, .int u1_2, .ref qf4, .ref qf5, .ref qf6, .int v7, .int v8, .int v9, .int v10, .ref qf11, .int v12, .ref qf13])), (qf0, .inl (cf0, nb, .inl f0))] H := hP
  replace hD : va_D A [(qf4, .inl (cf4, 256, .inl f4)), (qf5, .inl (cf5, 256, .inl f5)), (qf6, .inl (cf6, 256, .inl f6)), (h0, .inr (3, [.ref qf0, .int v1, .int u1_1, .int u1_2, .ref qf4, .ref qf5, .ref qf6, .int v7, .int v8, .int v9, .int v10, .ref qf11, .int v12, .ref qf13])), (qf0, .inl (cf0, nb, .inl f0))] := hD
  replace hK : va_K (dC, dI) vwCl [(cf4, .int), (cf5, .int), (cf6, .int), (cf0, .byte)] s := hK
  obtain rfl := hw
  refine lv_pop hx hb dX3_readConstants_8 rfl ?_
  refine lv_aload_n hx hb dX3_readConstants_9 rfl (lv_at hl 0 rfl) ?_
  refine lv_bipush (v := 77) hx hb dX3_readConstants_10 (by decide) ?_
  refine lv_bipush (v := 77) hx hb dX3_readConstants_12 (by decide) ?_
  obtain ⟨⟨u2_0, u2_1, u2_2⟩, hu_2, hsp⟩ := ox_bind hsp
  try dsimp only at hsp
  have hPc := hP.sub (ws' := [(h0, .inr (3, [.ref qf0, .int v1, .int u1_1, .int u1_2, .ref qf4, .ref qf5, .ref qf6, .int v7, .int v8, .int v9, .int v10, .ref qf11, .int v12, .ref qf13])), (qf0, .inl (cf0, nb, .inl f0))]) [3, 4] rfl
  have hDc := hD.sub (ws' := [(h0, .inr (3, [.ref qf0, .int v1, .int u1_1, .int u1_2, .ref qf4, .ref qf5, .ref qf6, .int v7, .int v8, .int v9, .int v10, .ref qf11, .int v12, .ref qf13])), (qf0, .inl (cf0, nb, .inl f0))]) [3, 4] (by decide) rfl
  have hKc := hK.sub (tys' := [(cf0, .byte)]) [3] rfl
  have hFc := va_free (wc := [(h0, .inr (3, [.ref qf0, .int v1, .int u1_1, .int u1_2, .ref qf4, .ref qf5, .ref qf6, .int v7, .int v8, .int v9, .int v10, .ref qf11, .int v12, .ref qf13])), (qf0, .inl (cf0, nb, .inl f0))]) hD hS hA [3, 4] rfl
  refine va_calli (va_runV (As := [.int 77, .int 77]) (rest := []) ⟨hx, hb, hml, hown, hts⟩ (ti_nextUpTo l dC dI H.size h0 77 77 qf0 v1 u1_1 u1_2 qf4 qf5 qf6 v7 v8 v9 v10 qf11 v12 qf13 cf0 nb f0 nf u2_0 u2_1 u2_2 hu_2) (cwV 2 hts gv_h7_29 rfl rfl rfl (by decide +kernel) ⟨Nat.le_of_ble_eq_true rfl, Nat.le_of_ble_eq_true rfl⟩) ⟨fun a U g mk q => by obtain ⟨q0, q1, qP, qK, qD⟩ := q; exact ⟨q0, q1, qP, va_K.moved (u := U) (U := U.calling g mk a) (Vm.Alike.refl U.vm) qK, qD⟩, va_recv hKc hPc (ci := 3) (q0 := 0) rfl rfl, fun U hU hW => ⟨rfl, by rw [hU], by rw [hU]; exact hPc, va_K.moved hW.alike hKc, hDc.weaken (fun _ _ _ _ => trivial)⟩⟩ rfl rfl hl.1 rfl (lv_room (Nat.le_of_ble_eq_true rfl)) dX3_readConstants_14 ⟨Nat.le_of_ble_eq_true rfl, Nat.le_of_ble_eq_true rfl⟩) hS (fun q _ h => hFc q h) hFc ?_
  clear hS
  intro r_2 u t H1 locs ht hvm hw hB hz1 hk1 hS
  obtain ⟨⟩ := u
  obtain ⟨hP1, hK1, hD1⟩ := hB
  rw [ht] at hP1
  have hK1 := va_K.moved hvm.symm hK1
  try dsimp only at hw
  have hPD := va_join (wr := [(qf4, .inl (cf4, 256, .inl f4)), (qf5, .inl (cf5, 256, .inl f5)), (qf6, .inl (cf6, 256, .inl f6))]) (w1 := [(h0, .inr (3, [.ref qf0, .int v1, .int u2_1, .int u2_2, .ref qf4, .ref qf5, .ref qf6, .int v7, .int v8, .int v9, .int v10, .ref qf11, .int v12, .ref qf13])), (qf0, .inl (cf0, nb, .inl f0))]) hP hD [3, 4] [0, 1, 2] rfl rfl (by decide) (by decide) hk1 hFc hP1 hD1
  clear hP hD
  obtain ⟨hP, hD⟩ := hPD
  replace hK := (hK.sub (tys' := [(cf4, .int), (cf5, .int), (cf6, .int)]) [0, 1, 2] rfl).app hK1
  clear hPc hDc hKc hFc hP1 hK1 hD1 hz1 hk1 ht hvm
  generalize H1 = H at hP hS ⊢
  replace hP : va_P (dC, dI) vwCl [(qf4, .inl (cf4, 256, .inl f4)), (qf5, .inl (cf5, 256, .inl f5)), (qf6, .inl (cf6, 256, .inl f6)), (h0, .inr (3, [.ref qf0, .int v1, .int u2_1, .int u2_2, .ref qf4, .ref qf5, .ref qf6, .int v7, .int v8, .int v9, .int v10, .ref qf11, .int v12, .ref qf13])), (qf0, .inl (cf0, nb, .inl f0))] H := hP
  replace hD : va_D A [(qf4, .inl (cf4, 256, .inl f4)), (qf5, .inl (cf5, 256, .inl f5)), (qf6, .inl (cf6, 256, .inl f6)), (h0, .inr (3, [.ref qf0, .int v1, .int u2_1, .int u2_2, .ref qf4, .ref qf5, .ref qf6, .int v7, .int v8, .int v9, .int v10, .ref qf11, .int v12, .ref qf13])), (qf0, .inl (cf0, nb, .inl f0))] := hD
  replace hK : va_K (dC, dI) vwCl [(cf4, .int), (cf5, .int), (cf6, .int), (cf0, .byte)] s := hK
  obtain rfl := hw
  refine lv_pop hx hb dX3_readConstants_17 rfl ?_
  refine lv_aload_n hx hb dX3_readConstants_18 rfl (lv_at hl 0 rfl) ?_
  refine lv_aload_n hx hb dX3_readConstants_19 rfl (lv_at hl 0 rfl) ?_
  obtain ⟨⟨u3_0, u3_1, u3_2⟩, hu_3, hsp⟩ := ox_bind hsp
  try dsimp only at hsp
  have hPc := hP.sub (ws' := [(h0, .inr (3, [.ref qf0, .int v1, .int u2_1, .int u2_2, .ref qf4, .ref qf5, .ref qf6, .int v7, .int v8, .int v9, .int v10, .ref qf11, .int v12, .ref qf13])), (qf0, .inl (cf0, nb, .inl f0))]) [3, 4] rfl
  have hDc := hD.sub (ws' := [(h0, .inr (3, [.ref qf0, .int v1, .int u2_1, .int u2_2, .ref qf4, .ref qf5, .ref qf6, .int v7, .int v8, .int v9, .int v10, .ref qf11, .int v12, .ref qf13])), (qf0, .inl (cf0, nb, .inl f0))]) [3, 4] (by decide) rfl
  have hKc := hK.sub (tys' := [(cf0, .byte)]) [3] rfl
  have hFc := va_free (wc := [(h0, .inr (3, [.ref qf0, .int v1, .int u2_1, .int u2_2, .ref qf4, .ref qf5, .ref qf6, .int v7, .int v8, .int v9, .int v10, .ref qf11, .int v12, .ref qf13])), (qf0, .inl (cf0, nb, .inl f0))]) hD hS hA [3, 4] rfl
  refine va_calli (va_runV (As := []) (rest := [.ref h0]) ⟨hx, hb, hml, hown, hts⟩ (ti_next l dC dI H.size h0 qf0 v1 u2_1 u2_2 qf4 qf5 qf6 v7 v8 v9 v10 qf11 v12 qf13 cf0 nb f0 nf u3_0 u3_1 u3_2 hu_3) (cwV 0 hts gv_h7_30 rfl rfl rfl (by decide +kernel) ⟨Nat.le_of_ble_eq_true rfl, Nat.le_of_ble_eq_true rfl⟩) ⟨fun a U g mk q => by obtain ⟨q0, q1, qP, qK, qD⟩ := q; exact ⟨q0, q1, qP, va_K.moved (u := U) (U := U.calling g mk a) (Vm.Alike.refl U.vm) qK, qD⟩, va_recv hKc hPc (ci := 3) (q0 := 0) rfl rfl, fun U hU hW => ⟨rfl, by rw [hU], by rw [hU]; exact hPc, va_K.moved hW.alike hKc, hDc.weaken (fun _ _ _ _ => trivial)⟩⟩ rfl rfl hl.1 rfl (lv_room (Nat.le_of_ble_eq_true rfl)) dX3_readConstants_20 ⟨Nat.le_of_ble_eq_true rfl, Nat.le_of_ble_eq_true rfl⟩) hS (fun q _ h => hFc q h) hFc ?_
  clear hS
  intro r_3 u t H1 locs ht hvm hw hB hz1 hk1 hS
  obtain ⟨⟩ := u
  obtain ⟨hP1, hK1, hD1⟩ := hB
  rw [ht] at hP1
  have hK1 := va_K.moved hvm.symm hK1
  try dsimp only at hw
  have hPD := va_join (wr := [(qf4, .inl (cf4, 256, .inl f4)), (qf5, .inl (cf5, 256, .inl f5)), (qf6, .inl (cf6, 256, .inl f6))]) (w1 := [(h0, .inr (3, [.ref qf0, .int v1, .int u3_1, .int u3_2, .ref qf4, .ref qf5, .ref qf6, .int v7, .int v8, .int v9, .int v10, .ref qf11, .int v12, .ref qf13])), (qf0, .inl (cf0, nb, .inl f0))]) hP hD [3, 4] [0, 1, 2] rfl rfl (by decide) (by decide) hk1 hFc hP1 hD1
  clear hP hD
  obtain ⟨hP, hD⟩ := hPD
  replace hK := (hK.sub (tys' := [(cf4, .int), (cf5, .int), (cf6, .int)]) [0, 1, 2] rfl).app hK1
  clear hPc hDc hKc hFc hP1 hK1 hD1 hz1 hk1 ht hvm
  generalize H1 = H at hP hS ⊢
  replace hP : va_P (dC, dI) vwCl [(qf4, .inl (cf4, 256, .inl f4)), (qf5, .inl (cf5, 256, .inl f5)), (qf6, .inl (cf6, 256, .inl f6)), (h0, .inr (3, [.ref qf0, .int v1, .int u3_1, .int u3_2, .ref qf4, .ref qf5, .ref qf6, .int v7, .int v8, .int v9, .int v10, .ref qf11, .int v12, .ref qf13])), (qf0, .inl (cf0, nb, .inl f0))] H := hP
  replace hD : va_D A [(qf4, .inl (cf4, 256, .inl f4)), (qf5, .inl (cf5, 256, .inl f5)), (qf6, .inl (cf6, 256, .inl f6)), (h0, .inr (3, [.ref qf0, .int v1, .int u3_1, .int u3_2, .ref qf4, .ref qf5, .ref qf6, .int v7, .int v8, .int v9, .int v10, .ref qf11, .int v12, .ref qf13])), (qf0, .inl (cf0, nb, .inl f0))] := hD
  replace hK : va_K (dC, dI) vwCl [(cf4, .int), (cf5, .int), (cf6, .int), (cf0, .byte)] s := hK
  obtain rfl := hw
  refine va_put (D := (dC, dI)) (ci := 3) (v := .int u3_0) (ty := .int) (C := RX3) (T := TX3) (N := 14) hx hb hts uV_h7_X3 tyX3 tyX3_ok nmX3 hown hK hP hD hS 3 rfl rfl 7 (by decide) (hts (.fieldLink RX3 90 "ClassMill$Image" "constants" "I") mw_h7_603) (fun _ h9 => h9) rfl (by decide +kernel) rfl rfl (Nat.le_of_ble_eq_true rfl) dX3_readConstants_23 ?_
  clear hP hD hS
  intro H locs hP hD hS
  replace hP : va_P (dC, dI) vwCl [(qf4, .inl (cf4, 256, .inl f4)), (qf5, .inl (cf5, 256, .inl f5)), (qf6, .inl (cf6, 256, .inl f6)), (h0, .inr (3, [.ref qf0, .int v1, .int u3_1, .int u3_2, .ref qf4, .ref qf5, .ref qf6, .int u3_0, .int v8, .int v9, .int v10, .ref qf11, .int v12, .ref qf13])), (qf0, .inl (cf0, nb, .inl f0))] H := hP
  replace hD : va_D A [(qf4, .inl (cf4, 256, .inl f4)), (qf5, .inl (cf5, 256, .inl f5)), (qf6, .inl (cf6, 256, .inl f6)), (h0, .inr (3, [.ref qf0, .int v1, .int u3_1, .int u3_2, .ref qf4, .ref qf5, .ref qf6, .int u3_0, .int v8, .int v9, .int v10, .ref qf11, .int v12, .ref qf13])), (qf0, .inl (cf0, nb, .inl f0))] := hD
  refine lv_iconst (v := 1) hx hb dX3_readConstants_26 (by decide) ?_
  refine lv_istore_n (lv' := [(1, .int 1), (0, .ref h0)]) hx hb dX3_readConstants_27 rfl hl (by decide) rfl (fun ls hl => ?_)
  replace hl : lv_has ls 2 [(1, .int 1), (0, .ref h0)] := lv_sub hl [0, 1] rfl
  replace hP := hP.sub (ws' := [(h0, .inr (3, [.ref qf0, .int v1, .int u3_1, .int u3_2, .ref qf4, .ref qf5, .ref qf6, .int u3_0, .int v8, .int v9, .int v10, .ref qf11, .int v12, .ref qf13])), (qf0, .inl (cf0, nb, .inl f0)), (qf4, .inl (cf4, 256, .inl f4)), (qf5, .inl (cf5, 256, .inl f5)), (qf6, .inl (cf6, 256, .inl f6))]) [3, 4, 0, 1, 2] rfl
  replace hD := hD.sub (ws' := [(h0, .inr (3, [.ref qf0, .int v1, .int u3_1, .int u3_2, .ref qf4, .ref qf5, .ref qf6, .int u3_0, .int v8, .int v9, .int v10, .ref qf11, .int v12, .ref qf13])), (qf0, .inl (cf0, nb, .inl f0)), (qf4, .inl (cf4, 256, .inl f4)), (qf5, .inl (cf5, 256, .inl f5)), (qf6, .inl (cf6, 256, .inl f6))]) [3, 4, 0, 1, 2] (by decide) rfl
  replace hK := hK.sub (tys' := [(cf0, .byte), (cf4, .int), (cf5, .int), (cf6, .int)]) [3, 0, 1, 2] rfl
  obtain ⟨n_28, hn_28⟩ : ∃ z : Nat, z = nf := ⟨_, rfl⟩
  obtain ⟨l1_28, el1_28⟩ : ∃ z : Int32, z = 1 := ⟨_, rfl⟩
  obtain ⟨g4_28, eg4_28⟩ : ∃ z : Nat → Int32, z = f4 := ⟨_, rfl⟩
  obtain ⟨g5_28, eg5_28⟩ : ∃ z : Nat → Int32, z = f5 := ⟨_, rfl⟩
  obtain ⟨g6_28, eg6_28⟩ : ∃ z : Nat → Int32, z = f6 := ⟨_, rfl⟩
  obtain ⟨x2_28, ex2_28⟩ : ∃ z : Int32, z = u3_1 := ⟨_, rfl⟩
  obtain ⟨x3_28, ex3_28⟩ : ∃ z : Int32, z = u3_2 := ⟨_, rfl⟩
  obtain ⟨x7_28, ex7_28⟩ : ∃ z : Int32, z = u3_0 := ⟨_, rfl⟩
  replace hsp : lp_v3_readConstants_28 nf n_28 v1 v2 v3 nb f0 f4 f5 f6 l1_28 g4_28 g5_28 g6_28 x2_28 x3_28 x7_28 = some (o4, o5, o6, w2, w3, w7) := by rw [hn_28, el1_28, eg4_28, eg5_28, eg6_28, ex2_28, ex3_28, ex7_28]; exact hsp
  replace hl : lv_has ls 2 [(1, .int l1_28), (0, .ref h0)] := by rw [el1_28]; exact hl
  replace hP : va_P (dC, dI) vwCl [(h0, .inr (3, [.ref qf0, .int v1, .int x2_28, .int x3_28, .ref qf4, .ref qf5, .ref qf6, .int x7_28, .int v8, .int v9, .int v10, .ref qf11, .int v12, .ref qf13])), (qf0, .inl (cf0, nb, .inl f0)), (qf4, .inl (cf4, 256, .inl g4_28)), (qf5, .inl (cf5, 256, .inl g5_28)), (qf6, .inl (cf6, 256, .inl g6_28))] H := by rw [eg4_28, eg5_28, eg6_28, ex2_28, ex3_28, ex7_28]; exact hP
  replace hD : va_D A [(h0, .inr (3, [.ref qf0, .int v1, .int x2_28, .int x3_28, .ref qf4, .ref qf5, .ref qf6, .int x7_28, .int v8, .int v9, .int v10, .ref qf11, .int v12, .ref qf13])), (qf0, .inl (cf0, nb, .inl f0)), (qf4, .inl (cf4, 256, .inl g4_28)), (qf5, .inl (cf5, 256, .inl g5_28)), (qf6, .inl (cf6, 256, .inl g6_28))] := by rw [eg4_28, eg5_28, eg6_28, ex2_28, ex3_28, ex7_28]; exact hD
  clear hn_28 el1_28 eg4_28 eg5_28 eg6_28 ex2_28 ex3_28 ex7_28
  try clear hlo
  try clear hH
  revert hsp
  revert hP
  revert hD
  revert hS
  revert hl
  revert x7_28
  revert x3_28
  revert x2_28
  revert g6_28
  revert g5_28
  revert g4_28
  revert l1_28
  revert ls
  revert locs
  revert H
  induction n_28 with
  | zero => intro H locs ls l1_28 g4_28 g5_28 g6_28 x2_28 x3_28 x7_28  hl hS hD hP hsp; unfold lp_v3_readConstants_28 at hsp; cases hsp
  | succ n_28 ih_28 =>
    intro H locs ls l1_28 g4_28 g5_28 g6_28 x2_28 x3_28 x7_28  hl hS hD hP hsp
    unfold lp_v3_readConstants_28 at hsp
    try dsimp only at hsp
    refine lv_iload_n hx hb dX3_readConstants_28 rfl (lv_at hl 0 rfl) ?_
    refine lv_aload_n hx hb dX3_readConstants_29 rfl (lv_at hl 1 rfl) ?_
    refine va_get (D := (dC, dI)) (ci := 3) (v := .int x7_28) (C := RX3) (T := TX3) (N := 14) hx hb hts uV_h7_X3 hown hK hP 0 rfl rfl 7 (by decide) (hts (.fieldLink RX3 90 "ClassMill$Image" "constants" "I") mw_h7_603) (fun _ h9 => h9) rfl dX3_readConstants_30 ?_
    refine lv_icmp_gt (tgt := 55) hx hb dX3_readConstants_33 (by decide) (fun c_4 => ?_) (fun c_4 => ?_)
    · rw [if_pos c_4] at hsp
      exact hj_55 (H, locs, ls, g4_28, g5_28, g6_28, x2_28, x3_28, x7_28) ⟨lv_sub hl [1] rfl, hS, hD.sub (ws' := [(h0, .inr (3, [.ref qf0, .int v1, .int x2_28, .int x3_28, .ref qf4, .ref qf5, .ref qf6, .int x7_28, .int v8, .int v9, .int v10, .ref qf11, .int v12, .ref qf13])), (qf0, .inl (cf0, nb, .inl f0)), (qf4, .inl (cf4, 256, .inl g4_28)), (qf5, .inl (cf5, 256, .inl g5_28)), (qf6, .inl (cf6, 256, .inl g6_28))]) [0, 1, 2, 3, 4] (by decide) rfl, hP.sub (ws' := [(h0, .inr (3, [.ref qf0, .int v1, .int x2_28, .int x3_28, .ref qf4, .ref qf5, .ref qf6, .int x7_28, .int v8, .int v9, .int v10, .ref qf11, .int v12, .ref qf13])), (qf0, .inl (cf0, nb, .inl f0)), (qf4, .inl (cf4, 256, .inl g4_28)), (qf5, .inl (cf5, 256, .inl g5_28)), (qf6, .inl (cf6, 256, .inl g6_28))]) [0, 1, 2, 3, 4] rfl, hsp⟩
    · rw [if_neg c_4] at hsp
      refine lv_aload_n hx hb dX3_readConstants_36 rfl (lv_at hl 1 rfl) ?_
      refine va_get (D := (dC, dI)) (ci := 3) (v := .int x3_28) (C := RX3) (T := TX3) (N := 14) hx hb hts uV_h7_X3 hown hK hP 0 rfl rfl 3 (by decide) (hts (.fieldLink RX3 46 "ClassMill$Image" "form" "I") mw_h7_157) (fun _ h9 => h9) rfl dX3_readConstants_37 ?_
      refine lv_iconst (v := (-1)) hx hb dX3_readConstants_40 (by decide) ?_
      refine lv_icmp_ne (tgt := 55) hx hb dX3_readConstants_41 (by decide) (fun c_5 => ?_) (fun c_5 => ?_)
      · rw [if_neg c_5] at hsp
        exact hj_55 (H, locs, ls, g4_28, g5_28, g6_28, x2_28, x3_28, x7_28) ⟨lv_sub hl [1] rfl, hS, hD.sub (ws' := [(h0, .inr (3, [.ref qf0, .int v1, .int x2_28, .int x3_28, .ref qf4, .ref qf5, .ref qf6, .int x7_28, .int v8, .int v9, .int v10, .ref qf11, .int v12, .ref qf13])), (qf0, .inl (cf0, nb, .inl f0)), (qf4, .inl (cf4, 256, .inl g4_28)), (qf5, .inl (cf5, 256, .inl g5_28)), (qf6, .inl (cf6, 256, .inl g6_28))]) [0, 1, 2, 3, 4] (by decide) rfl, hP.sub (ws' := [(h0, .inr (3, [.ref qf0, .int v1, .int x2_28, .int x3_28, .ref qf4, .ref qf5, .ref qf6, .int x7_28, .int v8, .int v9, .int v10, .ref qf11, .int v12, .ref qf13])), (qf0, .inl (cf0, nb, .inl f0)), (qf4, .inl (cf4, 256, .inl g4_28)), (qf5, .inl (cf5, 256, .inl g5_28)), (qf6, .inl (cf6, 256, .inl g6_28))]) [0, 1, 2, 3, 4] rfl, hsp⟩
      · rw [if_pos c_5] at hsp
        refine lv_aload_n hx hb dX3_readConstants_44 rfl (lv_at hl 1 rfl) ?_
        refine lv_iload_n hx hb dX3_readConstants_45 rfl (lv_at hl 0 rfl) ?_
        obtain ⟨⟨g904_0, g904_1, g904_2, u4_3, u4_4⟩, hu_4, hsp⟩ := ox_bind hsp
        try dsimp only at hsp
        have hPc := hP.sub (ws' := [(h0, .inr (3, [.ref qf0, .int v1, .int x2_28, .int x3_28, .ref qf4, .ref qf5, .ref qf6, .int x7_28, .int v8, .int v9, .int v10, .ref qf11, .int v12, .ref qf13])), (qf0, .inl (cf0, nb, .inl f0)), (qf4, .inl (cf4, 256, .inl g4_28)), (qf5, .inl (cf5, 256, .inl g5_28)), (qf6, .inl (cf6, 256, .inl g6_28))]) [0, 1, 2, 3, 4] rfl
        have hDc := hD.sub (ws' := [(h0, .inr (3, [.ref qf0, .int v1, .int x2_28, .int x3_28, .ref qf4, .ref qf5, .ref qf6, .int x7_28, .int v8, .int v9, .int v10, .ref qf11, .int v12, .ref qf13])), (qf0, .inl (cf0, nb, .inl f0)), (qf4, .inl (cf4, 256, .inl g4_28)), (qf5, .inl (cf5, 256, .inl g5_28)), (qf6, .inl (cf6, 256, .inl g6_28))]) [0, 1, 2, 3, 4] (by decide) rfl
        have hKc := hK.sub (tys' := [(cf0, .byte), (cf4, .int), (cf5, .int), (cf6, .int)]) [0, 1, 2, 3] rfl
        have hFc := va_free (wc := [(h0, .inr (3, [.ref qf0, .int v1, .int x2_28, .int x3_28, .ref qf4, .ref qf5, .ref qf6, .int x7_28, .int v8, .int v9, .int v10, .ref qf11, .int v12, .ref qf13])), (qf0, .inl (cf0, nb, .inl f0)), (qf4, .inl (cf4, 256, .inl g4_28)), (qf5, .inl (cf5, 256, .inl g5_28)), (qf6, .inl (cf6, 256, .inl g6_28))]) hD hS hA [0, 1, 2, 3, 4] rfl
        refine va_callv (va_runV (As := [.int l1_28]) (rest := []) ⟨hx, hb, hml, hown, hts⟩ (v3_readConstant l dC dI H.size h0 l1_28 qf0 v1 x2_28 x3_28 qf4 qf5 qf6 x7_28 v8 v9 v10 qf11 v12 qf13 cf0 nb f0 cf4 g4_28 cf5 g5_28 cf6 g6_28 nf g904_0 g904_1 g904_2 u4_3 u4_4 hu_4) (cwV 1 hts gv_h7_120 rfl rfl rfl (by decide +kernel) ⟨Nat.le_of_ble_eq_true rfl, Nat.le_of_ble_eq_true rfl⟩) ⟨fun a U g mk q => by obtain ⟨q0, q1, qP, qK, qD⟩ := q; exact ⟨q0, q1, qP, va_K.moved (u := U) (U := U.calling g mk a) (Vm.Alike.refl U.vm) qK, qD⟩, va_recv hKc hPc (ci := 3) (q0 := 0) rfl rfl, fun U hU hW => ⟨rfl, by rw [hU], by rw [hU]; exact hPc, va_K.moved hW.alike hKc, hDc.weaken (fun _ _ _ _ => trivial)⟩⟩ rfl rfl hl.1 rfl (lv_room (Nat.le_of_ble_eq_true rfl)) dX3_readConstants_46 ⟨Nat.le_of_ble_eq_true rfl, Nat.le_of_ble_eq_true rfl⟩) hS (fun q _ h => hFc q h) hFc ?_
        clear hS
        intro u t H1 locs ht hvm hw hB hz1 hk1 hS
        obtain ⟨⟩ := u
        obtain ⟨hP1, hK1, hD1⟩ := hB
        rw [ht] at hP1
        have hK1 := va_K.moved hvm.symm hK1
        try dsimp only at hw
        have hPD := va_join (wr := []) (w1 := [(h0, .inr (3, [.ref qf0, .int v1, .int u4_3, .int u4_4, .ref qf4, .ref qf5, .ref qf6, .int x7_28, .int v8, .int v9, .int v10, .ref qf11, .int v12, .ref qf13])), (qf0, .inl (cf0, nb, .inl f0)), (qf4, .inl (cf4, 256, .inl g904_0)), (qf5, .inl (cf5, 256, .inl g904_1)), (qf6, .inl (cf6, 256, .inl g904_2))]) hP hD [0, 1, 2, 3, 4] [] rfl rfl (by decide) (by decide) hk1 hFc hP1 hD1
        clear hP hD
        obtain ⟨hP, hD⟩ := hPD
        replace hK := (hK.sub (tys' := []) [] rfl).app hK1
        clear hPc hDc hKc hFc hP1 hK1 hD1 hz1 hk1 ht hvm
        generalize H1 = H at hP hS ⊢
        replace hP : va_P (dC, dI) vwCl [(h0, .inr (3, [.ref qf0, .int v1, .int u4_3, .int u4_4, .ref qf4, .ref qf5, .ref qf6, .int x7_28, .int v8, .int v9, .int v10, .ref qf11, .int v12, .ref qf13])), (qf0, .inl (cf0, nb, .inl f0)), (qf4, .inl (cf4, 256, .inl g904_0)), (qf5, .inl (cf5, 256, .inl g904_1)), (qf6, .inl (cf6, 256, .inl g904_2))] H := hP
        replace hD : va_D A [(h0, .inr (3, [.ref qf0, .int v1, .int u4_3, .int u4_4, .ref qf4, .ref qf5, .ref qf6, .int x7_28, .int v8, .int v9, .int v10, .ref qf11, .int v12, .ref qf13])), (qf0, .inl (cf0, nb, .inl f0)), (qf4, .inl (cf4, 256, .inl g904_0)), (qf5, .inl (cf5, 256, .inl g904_1)), (qf6, .inl (cf6, 256, .inl g904_2))] := hD
        replace hK : va_K (dC, dI) vwCl [(cf0, .byte), (cf4, .int), (cf5, .int), (cf6, .int)] s := hK
        refine lv_iinc (v := (l1_28 + 1)) (lv' := [(1, .int (l1_28 + 1)), (0, .ref h0)]) hx hb dX3_readConstants_49 hl (k := 0) rfl rfl (by decide) rfl (fun ls hl => ?_)
        refine lv_goto (tgt := 28) hx hb dX3_readConstants_52 (by decide) ?_
        exact ih_28 H locs ls (l1_28 + 1) g904_0 g904_1 g904_2 u4_3 u4_4 x7_28 (lv_sub hl [0, 1] rfl) hS (hD.sub (ws' := [(h0, .inr (3, [.ref qf0, .int v1, .int u4_3, .int u4_4, .ref qf4, .ref qf5, .ref qf6, .int x7_28, .int v8, .int v9, .int v10, .ref qf11, .int v12, .ref qf13])), (qf0, .inl (cf0, nb, .inl f0)), (qf4, .inl (cf4, 256, .inl g904_0)), (qf5, .inl (cf5, 256, .inl g904_1)), (qf6, .inl (cf6, 256, .inl g904_2))]) [0, 1, 2, 3, 4] (by decide) rfl) (hP.sub (ws' := [(h0, .inr (3, [.ref qf0, .int v1, .int u4_3, .int u4_4, .ref qf4, .ref qf5, .ref qf6, .int x7_28, .int v8, .int v9, .int v10, .ref qf11, .int v12, .ref qf13])), (qf0, .inl (cf0, nb, .inl f0)), (qf4, .inl (cf4, 256, .inl g904_0)), (qf5, .inl (cf5, 256, .inl g904_1)), (qf6, .inl (cf6, 256, .inl g904_2))]) [0, 1, 2, 3, 4] rfl) hsp
def lp_v9_scan_51 (nf n : Nat) (a2 : Int32) (f8 : Nat → Int32) (f7 : Nat → Int32) (na1 : Nat) (fa1 : Nat → Int32) (f0 : Nat → Int32) (f1 : Nat → Int32) (f2 : Nat → Int32) (f5 : Nat → Int32) (f4 : Nat → Int32) (f6 : Nat → Int32)  (l2_51 : Int32) (l3_51 : Int32) (l4_51 : Int32) (g0_51 : Nat → Int32) (g1_51 : Nat → Int32) (g2_51 : Nat → Int32) (g4_51 : Nat → Int32) (g5_51 : Nat → Int32) (g6_51 : Nat → Int32) (g7_51 : Nat → Int32) (x10_51 : Int32) (x11_51 : Int32) (x12_51 : Int32) (x3_51 : Int32) (x9_51 : Int32) : Option ((Nat → Int32) × (Nat → Int32) × (Nat → Int32) × (Nat → Int32) × (Nat → Int32) × (Nat → Int32) × (Nat → Int32) × Int32 × Int32 × Int32 × Int32 × Int32) := match n with
  | 0 => none
  | n + 1 => (if 3000 ≤ l4_51 then ((sp_t9_addToken nf 0 l2_51 0 x3_51 g0_51 g1_51 g2_51).bind (fun p1 => (some (p1.1, p1.2.1, p1.2.2.1, g4_51, g5_51, g6_51, g7_51, x10_51, x11_51, x12_51, p1.2.2.2, x9_51)))) else (if l2_51 ≤ l3_51 then ((sp_t9_addToken nf 0 l2_51 0 x3_51 g0_51 g1_51 g2_51).bind (fun p2 => (some (p2.1, p2.2.1, p2.2.2.1, g4_51, g5_51, g6_51, g7_51, x10_51, x11_51, x12_51, p2.2.2.2, x9_51)))) else ((sp_v9_scanToken nf l2_51 l3_51 x3_51 x9_51 na1 fa1 g0_51 g1_51 g2_51 g7_51 g5_51 g4_51 g6_51).bind (fun p3 => (if p3.1 = 0 then ((sp_t9_addToken nf 1 l3_51 0 p3.2.2.2.2.2.2.2.2.1 p3.2.1 p3.2.2.1 p3.2.2.2.1).bind (fun p4 => (some (p4.1, p4.2.1, p4.2.2.1, p3.2.2.2.2.1, p3.2.2.2.2.2.1, p3.2.2.2.2.2.2.1, p3.2.2.2.2.2.2.2.1, x10_51, x11_51, x12_51, p4.2.2.2, p3.2.2.2.2.2.2.2.2.2)))) else ((sp_t9_behindBlanks nf l2_51 (l3_51 + p3.1) na1 fa1).bind (fun p5 => (lp_v9_scan_51 nf n a2 f8 f7 na1 fa1 f0 f1 f2 f5 f4 f6 l2_51 p5 (l4_51 + 1) p3.2.1 p3.2.2.1 p3.2.2.2.1 p3.2.2.2.2.1 p3.2.2.2.2.2.1 p3.2.2.2.2.2.2.1 p3.2.2.2.2.2.2.2.1 x10_51 x11_51 x12_51 p3.2.2.2.2.2.2.2.2.1 p3.2.2.2.2.2.2.2.2.2))))))))
def sp_v9_scan (nf : Nat) (a2 : Int32) (f8 : Nat → Int32) (f7 : Nat → Int32) (na1 : Nat) (fa1 : Nat → Int32) (f0 : Nat → Int32) (f1 : Nat → Int32) (f2 : Nat → Int32) (f5 : Nat → Int32) (f4 : Nat → Int32) (f6 : Nat → Int32) : Option ((Nat → Int32) × (Nat → Int32) × (Nat → Int32) × (Nat → Int32) × (Nat → Int32) × (Nat → Int32) × (Nat → Int32) × Int32 × Int32 × Int32 × Int32 × Int32) := (if cp_ok 0 0 64 64 64 = true then ((sp_t9_behindBlanks nf a2 0 na1 fa1).bind (fun p1 => (lp_v9_scan_51 nf nf a2 f8 f7 na1 fa1 f0 f1 f2 f5 f4 f6  a2 p1 0 f0 f1 f2 f4 f5 f6 (va_cpy f8 f7 (0 : Int32).toNatClampNeg (0 : Int32).toNatClampNeg (64 : Int32).toNatClampNeg) 0 0 (-1) 0 32))) else none)
set_option maxHeartbeats 4000000 in
set_option maxRecDepth 100000 in
/-- ClassMill$Text.scan -/
theorem v9_scan (l : Launch) (dC : Nat → ClassId) (dI : Nat → Nat → Nat) (sz : Nat) (h0 : Nat) (qa1 : Nat) (a2 : Int32) (qf0 : Nat) (qf1 : Nat) (qf2 : Nat) (v3 : Int32) (qf4 : Nat) (qf5 : Nat) (qf6 : Nat) (qf7 : Nat) (qf8 : Nat) (v9 : Int32) (v10 : Int32) (v11 : Int32) (v12 : Int32) (cf8 : ClassId) (f8 : (Nat → Int32)) (cf7 : ClassId) (f7 : (Nat → Int32)) (ca1 : ClassId) (na1 : Nat) (fa1 : (Nat → Int32)) (cf0 : ClassId) (f0 : (Nat → Int32)) (cf1 : ClassId) (f1 : (Nat → Int32)) (cf2 : ClassId) (f2 : (Nat → Int32)) (cf5 : ClassId) (f5 : (Nat → Int32)) (cf4 : ClassId) (f4 : (Nat → Int32)) (cf6 : ClassId) (f6 : (Nat → Int32)) (nf : Nat) (o0 : (Nat → Int32)) (o1 : (Nat → Int32)) (o2 : (Nat → Int32)) (o4 : (Nat → Int32)) (o5 : (Nat → Int32)) (o6 : (Nat → Int32)) (o7 : (Nat → Int32)) (w10 : Int32) (w11 : Int32) (w12 : Int32) (w3 : Int32) (w9 : Int32) (hsp : sp_v9_scan nf a2 f8 f7 na1 fa1 f0 f1 f2 f5 f4 f6 = some (o0, o1, o2, o4, o5, o6, o7, w10, w11, w12, w3, w9)) : Met l yX9_scan (.code yX9_scan cX9_scan 6 none :: VS_h7) ({ frames := 5, cells := 0, slots := 0, locals := 124 }) (va_Pc [.ref h0, .ref qa1, .int a2] (fun U => U.heap.size = sz ∧ va_P (dC, dI) vwCl [(h0, .inr (9, [.ref qf0, .ref qf1, .ref qf2, .int v3, .ref qf4, .ref qf5, .ref qf6, .ref qf7, .ref qf8, .int v9, .int v10, .int v11, .int v12])), (qf8, .inl (cf8, 64, .inl f8)), (qf7, .inl (cf7, 64, .inl f7)), (qa1, .inl (ca1, na1, .inl fa1)), (qf0, .inl (cf0, 3001, .inl f0)), (qf1, .inl (cf1, 3001, .inl f1)), (qf2, .inl (cf2, 3001, .inl f2)), (qf5, .inl (cf5, 1741, .inl f5)), (qf4, .inl (cf4, 6400, .inl f4)), (qf6, .inl (cf6, 1740, .inl f6))] U.heap ∧ va_K (dC, dI) vwCl [(cf8, .int), (cf7, .int), (ca1, .byte), (cf0, .int), (cf1, .int), (cf2, .int), (cf5, .int), (cf4, .byte), (cf6, .int)] U ∧ va_D (fun _ => True) [(h0, .inr (9, [.ref qf0, .ref qf1, .ref qf2, .int v3, .ref qf4, .ref qf5, .ref qf6, .ref qf7, .ref qf8, .int v9, .int v10, .int v11, .int v12])), (qf8, .inl (cf8, 64, .inl f8)), (qf7, .inl (cf7, 64, .inl f7)), (qa1, .inl (ca1, na1, .inl fa1)), (qf0, .inl (cf0, 3001, .inl f0)), (qf1, .inl (cf1, 3001, .inl f1)), (qf2, .inl (cf2, 3001, .inl f2)), (qf5, .inl (cf5, 1741, .inl f5)), (qf4, .inl (cf4, 6400, .inl f4)), (qf6, .inl (cf6, 1740, .inl f6))])) (va_Qv (fun (u : Unit) => match u with | () => True) (fun (u : Unit) (t : State) => match u with | () => va_P (dC, dI) vwCl [(h0, .inr (9, [.ref qf0, .ref qf1, .ref qf2, .int w3, .ref qf4, .ref qf5, .ref qf6, .ref qf7, .ref qf8, .int w9, .int w10, .int w11, .int w12])), (qf8, .inl (cf8, 64, .inl f8)), (qf7, .inl (cf7, 64, .inl o7)), (qa1, .inl (ca1, na1, .inl fa1)), (qf0, .inl (cf0, 3001, .inl o0)), (qf1, .inl (cf1, 3001, .inl o1)), (qf2, .inl (cf2, 3001, .inl o2)), (qf5, .inl (cf5, 1741, .inl o5)), (qf4, .inl (cf4, 6400, .inl o4)), (qf6, .inl (cf6, 1740, .inl o6))] t.heap ∧ va_K (dC, dI) vwCl [(cf8, .int), (cf7, .int), (ca1, .byte), (cf0, .int), (cf1, .int), (cf2, .int), (cf5, .int), (cf4, .byte), (cf6, .int)] t ∧ va_D (va_A [(h0, .inr (9, [.ref qf0, .ref qf1, .ref qf2, .int v3, .ref qf4, .ref qf5, .ref qf6, .ref qf7, .ref qf8, .int v9, .int v10, .int v11, .int v12])), (qf8, .inl (cf8, 64, .inl f8)), (qf7, .inl (cf7, 64, .inl f7)), (qa1, .inl (ca1, na1, .inl fa1)), (qf0, .inl (cf0, 3001, .inl f0)), (qf1, .inl (cf1, 3001, .inl f1)), (qf2, .inl (cf2, 3001, .inl f2)), (qf5, .inl (cf5, 1741, .inl f5)), (qf4, .inl (cf4, 6400, .inl f4)), (qf6, .inl (cf6, 1740, .inl f6))] sz) [(h0, .inr (9, [.ref qf0, .ref qf1, .ref qf2, .int w3, .ref qf4, .ref qf5, .ref qf6, .ref qf7, .ref qf8, .int w9, .int w10, .int w11, .int w12])), (qf8, .inl (cf8, 64, .inl f8)), (qf7, .inl (cf7, 64, .inl o7)), (qa1, .inl (ca1, na1, .inl fa1)), (qf0, .inl (cf0, 3001, .inl o0)), (qf1, .inl (cf1, 3001, .inl o1)), (qf2, .inl (cf2, 3001, .inl o2)), (qf5, .inl (cf5, 1741, .inl o5)), (qf4, .inl (cf4, 6400, .inl o4)), (qf6, .inl (cf6, 1740, .inl o6))]) (va_A [(h0, .inr (9, [.ref qf0, .ref qf1, .ref qf2, .int v3, .ref qf4, .ref qf5, .ref qf6, .ref qf7, .ref qf8, .int v9, .int v10, .int v11, .int v12])), (qf8, .inl (cf8, 64, .inl f8)), (qf7, .inl (cf7, 64, .inl f7)), (qa1, .inl (ca1, na1, .inl fa1)), (qf0, .inl (cf0, 3001, .inl f0)), (qf1, .inl (cf1, 3001, .inl f1)), (qf2, .inl (cf2, 3001, .inl f2)), (qf5, .inl (cf5, 1741, .inl f5)), (qf4, .inl (cf4, 6400, .inl f4)), (qf6, .inl (cf6, 1740, .inl f6))] sz)) 0 0 (va_A [(h0, .inr (9, [.ref qf0, .ref qf1, .ref qf2, .int v3, .ref qf4, .ref qf5, .ref qf6, .ref qf7, .ref qf8, .int v9, .int v10, .int v11, .int v12])), (qf8, .inl (cf8, 64, .inl f8)), (qf7, .inl (cf7, 64, .inl f7)), (qa1, .inl (ca1, na1, .inl fa1)), (qf0, .inl (cf0, 3001, .inl f0)), (qf1, .inl (cf1, 3001, .inl f1)), (qf2, .inl (cf2, 3001, .inl f2)), (qf5, .inl (cf5, 1741, .inl f5)), (qf4, .inl (cf4, 6400, .inl f4)), (qf6, .inl (cf6, 1740, .inl f6))] sz) := by
  refine Met.ofW (cc := cX9_scan) (maxL := 6) (ret := none) (by decide) rfl ?_
  intro p e s m args below meth c s₁ B hml hv
  obtain ⟨rfl, hsz, hP, hK, hD0⟩ := hv
  have hx := B.exec
  have hb := B.bytes
  have hr := B.returns
  have hts := atoms_spec (ws := (.code yX9_scan cX9_scan 6 none :: VS_h7)) B.pre
  replace hts := fun w (h : w ∈ VS_h7) => hts w (List.mem_cons_of_mem _ h)
  have hown : s.vm.findClass RX9 = some m.cls := findClass_of_methodNamed B.named
  have hlocks := B.notSynchronized
  subst hsz
  have hD := hD0.self (sz := s.heap.size)
  generalize hAe : va_A [(h0, .inr (9, [.ref qf0, .ref qf1, .ref qf2, .int v3, .ref qf4, .ref qf5, .ref qf6, .ref qf7, .ref qf8, .int v9, .int v10, .int v11, .int v12])), (qf8, .inl (cf8, 64, .inl f8)), (qf7, .inl (cf7, 64, .inl f7)), (qa1, .inl (ca1, na1, .inl fa1)), (qf0, .inl (cf0, 3001, .inl f0)), (qf1, .inl (cf1, 3001, .inl f1)), (qf2, .inl (cf2, 3001, .inl f2)), (qf5, .inl (cf5, 1741, .inl f5)), (qf4, .inl (cf4, 6400, .inl f4)), (qf6, .inl (cf6, 1740, .inl f6))] s.heap.size = A at hD  ⊢
  have hA : ∀ q : Nat, s.heap.size ≤ q → A q := fun q h => by rw [← hAe]; exact Or.inr h
  have hP : va_P (dC, dI) vwCl [(h0, .inr (9, [.ref qf0, .ref qf1, .ref qf2, .int v3, .ref qf4, .ref qf5, .ref qf6, .ref qf7, .ref qf8, .int v9, .int v10, .int v11, .int v12])), (qf8, .inl (cf8, 64, .inl f8)), (qf7, .inl (cf7, 64, .inl f7)), (qa1, .inl (ca1, na1, .inl fa1)), (qf0, .inl (cf0, 3001, .inl f0)), (qf1, .inl (cf1, 3001, .inl f1)), (qf2, .inl (cf2, 3001, .inl f2)), (qf5, .inl (cf5, 1741, .inl f5)), (qf4, .inl (cf4, 6400, .inl f4)), (qf6, .inl (cf6, 1740, .inl f6))] s.heap := hP
  have hl := lv_entry ([.ref h0, .ref qa1, .int a2]) (n := 6) (Nat.le_of_ble_eq_true rfl)
  rw [lg_entry_eq]
  generalize (lg_sl ([.ref h0, .ref qa1, .int a2]) ++ List.replicate (6 - (lg_sl ([.ref h0, .ref qa1, .int a2])).length) Slot.unset).toArray = ls at hl ⊢
  have hl : lv_has ls 6 [(0, .ref h0), (1, .ref qa1), (2, .int a2)] := hl
  obtain ⟨H, hH⟩ : ∃ H : Heap, s.heap = H := ⟨_, rfl⟩
  rw [hH] at hP ⊢
  have hS : va_S A s.heap H [] := by rw [← hH]; exact va_S.rf
  obtain ⟨locs, hlo⟩ : ∃ locs : List Loc, locs = [] := ⟨_, rfl⟩
  rw [← hlo] at hS ⊢
  unfold sp_v9_scan at hsp
  refine lv_aload_n hx hb dX9_scan_0 rfl (lv_at hl 0 rfl) ?_
  refine lv_bipush (v := 32) hx hb dX9_scan_1 (by decide) ?_
  refine va_put (D := (dC, dI)) (ci := 9) (v := .int 32) (ty := .int) (C := RX9) (T := TX9) (N := 13) hx hb hts uV_h7_X9 tyX9 tyX9_ok nmX9 hown hK hP hD hS 0 rfl rfl 9 (by decide) (hts (.fieldLink RX9 73 "ClassMill$Text" "names" "I") mw_h7_319) (fun _ h9 => h9) rfl (by decide +kernel) rfl rfl (Nat.le_of_ble_eq_true rfl) dX9_scan_3 ?_
  clear hP hD hS
  intro H locs hP hD hS
  replace hP : va_P (dC, dI) vwCl [(h0, .inr (9, [.ref qf0, .ref qf1, .ref qf2, .int v3, .ref qf4, .ref qf5, .ref qf6, .ref qf7, .ref qf8, .int 32, .int v10, .int v11, .int v12])), (qf8, .inl (cf8, 64, .inl f8)), (qf7, .inl (cf7, 64, .inl f7)), (qa1, .inl (ca1, na1, .inl fa1)), (qf0, .inl (cf0, 3001, .inl f0)), (qf1, .inl (cf1, 3001, .inl f1)), (qf2, .inl (cf2, 3001, .inl f2)), (qf5, .inl (cf5, 1741, .inl f5)), (qf4, .inl (cf4, 6400, .inl f4)), (qf6, .inl (cf6, 1740, .inl f6))] H := hP
  replace hD : va_D A [(h0, .inr (9, [.ref qf0, .ref qf1, .ref qf2, .int v3, .ref qf4, .ref qf5, .ref qf6, .ref qf7, .ref qf8, .int 32, .int v10, .int v11, .int v12])), (qf8, .inl (cf8, 64, .inl f8)), (qf7, .inl (cf7, 64, .inl f7)), (qa1, .inl (ca1, na1, .inl fa1)), (qf0, .inl (cf0, 3001, .inl f0)), (qf1, .inl (cf1, 3001, .inl f1)), (qf2, .inl (cf2, 3001, .inl f2)), (qf5, .inl (cf5, 1741, .inl f5)), (qf4, .inl (cf4, 6400, .inl f4)), (qf6, .inl (cf6, 1740, .inl f6))] := hD
  refine lv_aload_n hx hb dX9_scan_6 rfl (lv_at hl 0 rfl) ?_
  refine va_get (D := (dC, dI)) (ci := 9) (v := .ref qf8) (C := RX9) (T := TX9) (N := 13) hx hb hts uV_h7_X9 hown hK hP 0 rfl rfl 8 (by decide) (hts (.fieldLink RX9 38 "ClassMill$Text" "knownBucket" "[I") mw_h7_608) (fun _ h9 => h9) rfl dX9_scan_7 ?_
  refine lv_iconst (v := 0) hx hb dX9_scan_10 (by decide) ?_
  refine lv_aload_n hx hb dX9_scan_11 rfl (lv_at hl 0 rfl) ?_
  refine va_get (D := (dC, dI)) (ci := 9) (v := .ref qf7) (C := RX9) (T := TX9) (N := 13) hx hb hts uV_h7_X9 hown hK hP 0 rfl rfl 7 (by decide) (hts (.fieldLink RX9 35 "ClassMill$Text" "bucket" "[I") mw_h7_320) (fun _ h9 => h9) rfl dX9_scan_12 ?_
  refine lv_iconst (v := 0) hx hb dX9_scan_15 (by decide) ?_
  refine lv_bipush (v := 64) hx hb dX9_scan_16 (by decide) ?_
  obtain ⟨⟨hc_11, hc_12, hc_13, hc_14, hc_15⟩, hsp⟩ := ox_cp hsp
  refine va_copyi hx hb (by rw [hml]; exact hl.1.symm) hown (hts (.methodLink RX9 67 arraycopyName) mw_h7_291) (hts (.native arraycopyName) mw_h7_29) (hts (.static arraycopyName) mw_h7_30) (hts (.initialized "java/lang/System") mw_h7_31) hK hP hD hS 1 2 0 1 rfl rfl rfl rfl rfl (sp := 0) (dp := 0) (n := 64) hc_11 hc_12 hc_13 hc_14 hc_15 (fun _ _ => rfl) (Nat.le_of_ble_eq_true rfl) (Nat.le_of_ble_eq_true rfl) dX9_scan_18 ?_
  clear hP hD hS
  intro H locs hP hD hS
  replace hP : va_P (dC, dI) vwCl [(h0, .inr (9, [.ref qf0, .ref qf1, .ref qf2, .int v3, .ref qf4, .ref qf5, .ref qf6, .ref qf7, .ref qf8, .int 32, .int v10, .int v11, .int v12])), (qf8, .inl (cf8, 64, .inl f8)), (qf7, .inl (cf7, 64, .inl (va_cpy f8 f7 (0 : Int32).toNatClampNeg (0 : Int32).toNatClampNeg (64 : Int32).toNatClampNeg))), (qa1, .inl (ca1, na1, .inl fa1)), (qf0, .inl (cf0, 3001, .inl f0)), (qf1, .inl (cf1, 3001, .inl f1)), (qf2, .inl (cf2, 3001, .inl f2)), (qf5, .inl (cf5, 1741, .inl f5)), (qf4, .inl (cf4, 6400, .inl f4)), (qf6, .inl (cf6, 1740, .inl f6))] H := hP
  replace hD : va_D A [(h0, .inr (9, [.ref qf0, .ref qf1, .ref qf2, .int v3, .ref qf4, .ref qf5, .ref qf6, .ref qf7, .ref qf8, .int 32, .int v10, .int v11, .int v12])), (qf8, .inl (cf8, 64, .inl f8)), (qf7, .inl (cf7, 64, .inl (va_cpy f8 f7 (0 : Int32).toNatClampNeg (0 : Int32).toNatClampNeg (64 : Int32).toNatClampNeg))), (qa1, .inl (ca1, na1, .inl fa1)), (qf0, .inl (cf0, 3001, .inl f0)), (qf1, .inl (cf1, 3001, .inl f1)), (qf2, .inl (cf2, 3001, .inl f2)), (qf5, .inl (cf5, 1741, .inl f5)), (qf4, .inl (cf4, 6400, .inl f4)), (qf6, .inl (cf6, 1740, .inl f6))] := hD
  refine lv_aload_n hx hb dX9_scan_21 rfl (lv_at hl 0 rfl) ?_
  refine lv_iconst (v := 0) hx hb dX9_scan_22 (by decide) ?_
  refine va_put (D := (dC, dI)) (ci := 9) (v := .int 0) (ty := .int) (C := RX9) (T := TX9) (N := 13) hx hb hts uV_h7_X9 tyX9 tyX9_ok nmX9 hown hK hP hD hS 0 rfl rfl 3 (by decide) (hts (.fieldLink RX9 83 "ClassMill$Text" "count" "I") mw_h7_609) (fun _ h9 => h9) rfl (by decide +kernel) rfl rfl (Nat.le_of_ble_eq_true rfl) dX9_scan_23 ?_
  clear hP hD hS
  intro H locs hP hD hS
  replace hP : va_P (dC, dI) vwCl [(h0, .inr (9, [.ref qf0, .ref qf1, .ref qf2, .int 0, .ref qf4, .ref qf5, .ref qf6, .ref qf7, .ref qf8, .int 32, .int v10, .int v11, .int v12])), (qf8, .inl (cf8, 64, .inl f8)), (qf7, .inl (cf7, 64, .inl (va_cpy f8 f7 (0 : Int32).toNatClampNeg (0 : Int32).toNatClampNeg (64 : Int32).toNatClampNeg))), (qa1, .inl (ca1, na1, .inl fa1)), (qf0, .inl (cf0, 3001, .inl f0)), (qf1, .inl (cf1, 3001, .inl f1)), (qf2, .inl (cf2, 3001, .inl f2)), (qf5, .inl (cf5, 1741, .inl f5)), (qf4, .inl (cf4, 6400, .inl f4)), (qf6, .inl (cf6, 1740, .inl f6))] H := hP
  replace hD : va_D A [(h0, .inr (9, [.ref qf0, .ref qf1, .ref qf2, .int 0, .ref qf4, .ref qf5, .ref qf6, .ref qf7, .ref qf8, .int 32, .int v10, .int v11, .int v12])), (qf8, .inl (cf8, 64, .inl f8)), (qf7, .inl (cf7, 64, .inl (va_cpy f8 f7 (0 : Int32).toNatClampNeg (0 : Int32).toNatClampNeg (64 : Int32).toNatClampNeg))), (qa1, .inl (ca1, na1, .inl fa1)), (qf0, .inl (cf0, 3001, .inl f0)), (qf1, .inl (cf1, 3001, .inl f1)), (qf2, .inl (cf2, 3001, .inl f2)), (qf5, .inl (cf5, 1741, .inl f5)), (qf4, .inl (cf4, 6400, .inl f4)), (qf6, .inl (cf6, 1740, .inl f6))] := hD
  refine lv_aload_n hx hb dX9_scan_26 rfl (lv_at hl 0 rfl) ?_
  refine lv_iconst (v := 0) hx hb dX9_scan_27 (by decide) ?_
  refine va_put (D := (dC, dI)) (ci := 9) (v := .int 0) (ty := .int) (C := RX9) (T := TX9) (N := 13) hx hb hts uV_h7_X9 tyX9 tyX9_ok nmX9 hown hK hP hD hS 0 rfl rfl 10 (by decide) (hts (.fieldLink RX9 86 "ClassMill$Text" "pos" "I") mw_h7_610) (fun _ h9 => h9) rfl (by decide +kernel) rfl rfl (Nat.le_of_ble_eq_true rfl) dX9_scan_28 ?_
  clear hP hD hS
  intro H locs hP hD hS
  replace hP : va_P (dC, dI) vwCl [(h0, .inr (9, [.ref qf0, .ref qf1, .ref qf2, .int 0, .ref qf4, .ref qf5, .ref qf6, .ref qf7, .ref qf8, .int 32, .int 0, .int v11, .int v12])), (qf8, .inl (cf8, 64, .inl f8)), (qf7, .inl (cf7, 64, .inl (va_cpy f8 f7 (0 : Int32).toNatClampNeg (0 : Int32).toNatClampNeg (64 : Int32).toNatClampNeg))), (qa1, .inl (ca1, na1, .inl fa1)), (qf0, .inl (cf0, 3001, .inl f0)), (qf1, .inl (cf1, 3001, .inl f1)), (qf2, .inl (cf2, 3001, .inl f2)), (qf5, .inl (cf5, 1741, .inl f5)), (qf4, .inl (cf4, 6400, .inl f4)), (qf6, .inl (cf6, 1740, .inl f6))] H := hP
  replace hD : va_D A [(h0, .inr (9, [.ref qf0, .ref qf1, .ref qf2, .int 0, .ref qf4, .ref qf5, .ref qf6, .ref qf7, .ref qf8, .int 32, .int 0, .int v11, .int v12])), (qf8, .inl (cf8, 64, .inl f8)), (qf7, .inl (cf7, 64, .inl (va_cpy f8 f7 (0 : Int32).toNatClampNeg (0 : Int32).toNatClampNeg (64 : Int32).toNatClampNeg))), (qa1, .inl (ca1, na1, .inl fa1)), (qf0, .inl (cf0, 3001, .inl f0)), (qf1, .inl (cf1, 3001, .inl f1)), (qf2, .inl (cf2, 3001, .inl f2)), (qf5, .inl (cf5, 1741, .inl f5)), (qf4, .inl (cf4, 6400, .inl f4)), (qf6, .inl (cf6, 1740, .inl f6))] := hD
  refine lv_aload_n hx hb dX9_scan_31 rfl (lv_at hl 0 rfl) ?_
  refine lv_iconst (v := 0) hx hb dX9_scan_32 (by decide) ?_
  refine va_put (D := (dC, dI)) (ci := 9) (v := .int 0) (ty := .int) (C := RX9) (T := TX9) (N := 13) hx hb hts uV_h7_X9 tyX9 tyX9_ok nmX9 hown hK hP hD hS 0 rfl rfl 11 (by decide) (hts (.fieldLink RX9 80 "ClassMill$Text" "fault" "I") mw_h7_611) (fun _ h9 => h9) rfl (by decide +kernel) rfl rfl (Nat.le_of_ble_eq_true rfl) dX9_scan_33 ?_
  clear hP hD hS
  intro H locs hP hD hS
  replace hP : va_P (dC, dI) vwCl [(h0, .inr (9, [.ref qf0, .ref qf1, .ref qf2, .int 0, .ref qf4, .ref qf5, .ref qf6, .ref qf7, .ref qf8, .int 32, .int 0, .int 0, .int v12])), (qf8, .inl (cf8, 64, .inl f8)), (qf7, .inl (cf7, 64, .inl (va_cpy f8 f7 (0 : Int32).toNatClampNeg (0 : Int32).toNatClampNeg (64 : Int32).toNatClampNeg))), (qa1, .inl (ca1, na1, .inl fa1)), (qf0, .inl (cf0, 3001, .inl f0)), (qf1, .inl (cf1, 3001, .inl f1)), (qf2, .inl (cf2, 3001, .inl f2)), (qf5, .inl (cf5, 1741, .inl f5)), (qf4, .inl (cf4, 6400, .inl f4)), (qf6, .inl (cf6, 1740, .inl f6))] H := hP
  replace hD : va_D A [(h0, .inr (9, [.ref qf0, .ref qf1, .ref qf2, .int 0, .ref qf4, .ref qf5, .ref qf6, .ref qf7, .ref qf8, .int 32, .int 0, .int 0, .int v12])), (qf8, .inl (cf8, 64, .inl f8)), (qf7, .inl (cf7, 64, .inl (va_cpy f8 f7 (0 : Int32).toNatClampNeg (0 : Int32).toNatClampNeg (64 : Int32).toNatClampNeg))), (qa1, .inl (ca1, na1, .inl fa1)), (qf0, .inl (cf0, 3001, .inl f0)), (qf1, .inl (cf1, 3001, .inl f1)), (qf2, .inl (cf2, 3001, .inl f2)), (qf5, .inl (cf5, 1741, .inl f5)), (qf4, .inl (cf4, 6400, .inl f4)), (qf6, .inl (cf6, 1740, .inl f6))] := hD
  refine lv_aload_n hx hb dX9_scan_36 rfl (lv_at hl 0 rfl) ?_
  refine lv_iconst (v := (-1)) hx hb dX9_scan_37 (by decide) ?_
  refine va_put (D := (dC, dI)) (ci := 9) (v := .int (-1)) (ty := .int) (C := RX9) (T := TX9) (N := 13) hx hb hts uV_h7_X9 tyX9 tyX9_ok nmX9 hown hK hP hD hS 0 rfl rfl 12 (by decide) (hts (.fieldLink RX9 41 "ClassMill$Text" "place" "I") mw_h7_612) (fun _ h9 => h9) rfl (by decide +kernel) rfl rfl (Nat.le_of_ble_eq_true rfl) dX9_scan_38 ?_
  clear hP hD hS
  intro H locs hP hD hS
  replace hP : va_P (dC, dI) vwCl [(h0, .inr (9, [.ref qf0, .ref qf1, .ref qf2, .int 0, .ref qf4, .ref qf5, .ref qf6, .ref qf7, .ref qf8, .int 32, .int 0, .int 0, .int (-1)])), (qf8, .inl (cf8, 64, .inl f8)), (qf7, .inl (cf7, 64, .inl (va_cpy f8 f7 (0 : Int32).toNatClampNeg (0 : Int32).toNatClampNeg (64 : Int32).toNatClampNeg))), (qa1, .inl (ca1, na1, .inl fa1)), (qf0, .inl (cf0, 3001, .inl f0)), (qf1, .inl (cf1, 3001, .inl f1)), (qf2, .inl (cf2, 3001, .inl f2)), (qf5, .inl (cf5, 1741, .inl f5)), (qf4, .inl (cf4, 6400, .inl f4)), (qf6, .inl (cf6, 1740, .inl f6))] H := hP
  replace hD : va_D A [(h0, .inr (9, [.ref qf0, .ref qf1, .ref qf2, .int 0, .ref qf4, .ref qf5, .ref qf6, .ref qf7, .ref qf8, .int 32, .int 0, .int 0, .int (-1)])), (qf8, .inl (cf8, 64, .inl f8)), (qf7, .inl (cf7, 64, .inl (va_cpy f8 f7 (0 : Int32).toNatClampNeg (0 : Int32).toNatClampNeg (64 : Int32).toNatClampNeg))), (qa1, .inl (ca1, na1, .inl fa1)), (qf0, .inl (cf0, 3001, .inl f0)), (qf1, .inl (cf1, 3001, .inl f1)), (qf2, .inl (cf2, 3001, .inl f2)), (qf5, .inl (cf5, 1741, .inl f5)), (qf4, .inl (cf4, 6400, .inl f4)), (qf6, .inl (cf6, 1740, .inl f6))] := hD
  refine lv_aload_n hx hb dX9_scan_41 rfl (lv_at hl 1 rfl) ?_
  refine lv_iload_n hx hb dX9_scan_42 rfl (lv_at hl 2 rfl) ?_
  refine lv_iconst (v := 0) hx hb dX9_scan_43 (by decide) ?_
  obtain ⟨u1_0, hu_1, hsp⟩ := ox_bind hsp
  try dsimp only at hsp
  have hPc := hP.sub (ws' := [(qa1, .inl (ca1, na1, .inl fa1))]) [3] rfl
  have hDc := hD.sub (ws' := [(qa1, .inl (ca1, na1, .inl fa1))]) [3] (by decide) rfl
  have hKc := hK.sub (tys' := [(ca1, .byte)]) [2] rfl
  have hFc := va_free (wc := [(qa1, .inl (ca1, na1, .inl fa1))]) hD hS hA [3] rfl
  refine va_calli (va_runS (As := [.ref qa1, .int a2, .int 0]) (rest := []) ⟨hx, hb, hml, hown, hts⟩ (t9_behindBlanks l dC dI H.size qa1 a2 0 ca1 na1 fa1 nf u1_0 hu_1) (va_cwS 3 hts gv_h7_62 rfl rfl rfl (by decide +kernel) ⟨Nat.le_of_ble_eq_true rfl, Nat.le_of_ble_eq_true rfl⟩) ⟨fun a U g mk q => by obtain ⟨q0, q1, qP, qK, qD⟩ := q; exact ⟨q0, q1, qP, va_K.moved (u := U) (U := U.calling g mk a) (Vm.Alike.refl U.vm) qK, qD⟩, fun U hU hW => ⟨rfl, by rw [hU], by rw [hU]; exact hPc, va_K.moved hW.alike hKc, hDc.weaken (fun _ _ _ _ => trivial)⟩⟩ rfl rfl hl.1 rfl (lv_room (Nat.le_of_ble_eq_true rfl)) dX9_scan_44 ⟨Nat.le_of_ble_eq_true rfl, Nat.le_of_ble_eq_true rfl⟩) hS (fun q _ h => hFc q h) hFc ?_
  clear hS
  intro r_2 u t H1 locs ht hvm hw hB hz1 hk1 hS
  obtain ⟨⟩ := u
  obtain ⟨hP1, hK1, hD1⟩ := hB
  rw [ht] at hP1
  have hK1 := va_K.moved hvm.symm hK1
  try dsimp only at hw
  have hPD := va_join (wr := [(h0, .inr (9, [.ref qf0, .ref qf1, .ref qf2, .int 0, .ref qf4, .ref qf5, .ref qf6, .ref qf7, .ref qf8, .int 32, .int 0, .int 0, .int (-1)])), (qf8, .inl (cf8, 64, .inl f8)), (qf7, .inl (cf7, 64, .inl (va_cpy f8 f7 (0 : Int32).toNatClampNeg (0 : Int32).toNatClampNeg (64 : Int32).toNatClampNeg))), (qf0, .inl (cf0, 3001, .inl f0)), (qf1, .inl (cf1, 3001, .inl f1)), (qf2, .inl (cf2, 3001, .inl f2)), (qf5, .inl (cf5, 1741, .inl f5)), (qf4, .inl (cf4, 6400, .inl f4)), (qf6, .inl (cf6, 1740, .inl f6))]) (w1 := [(qa1, .inl (ca1, na1, .inl fa1))]) hP hD [3] [0, 1, 2, 4, 5, 6, 7, 8, 9] rfl rfl (by decide) (by decide) hk1 hFc hP1 hD1
  clear hP hD
  obtain ⟨hP, hD⟩ := hPD
  replace hK := (hK.sub (tys' := [(cf8, .int), (cf7, .int), (cf0, .int), (cf1, .int), (cf2, .int), (cf5, .int), (cf4, .byte), (cf6, .int)]) [0, 1, 3, 4, 5, 6, 7, 8] rfl).app hK1
  clear hPc hDc hKc hFc hP1 hK1 hD1 hz1 hk1 ht hvm
  generalize H1 = H at hP hS ⊢
  replace hP : va_P (dC, dI) vwCl [(h0, .inr (9, [.ref qf0, .ref qf1, .ref qf2, .int 0, .ref qf4, .ref qf5, .ref qf6, .ref qf7, .ref qf8, .int 32, .int 0, .int 0, .int (-1)])), (qf8, .inl (cf8, 64, .inl f8)), (qf7, .inl (cf7, 64, .inl (va_cpy f8 f7 (0 : Int32).toNatClampNeg (0 : Int32).toNatClampNeg (64 : Int32).toNatClampNeg))), (qf0, .inl (cf0, 3001, .inl f0)), (qf1, .inl (cf1, 3001, .inl f1)), (qf2, .inl (cf2, 3001, .inl f2)), (qf5, .inl (cf5, 1741, .inl f5)), (qf4, .inl (cf4, 6400, .inl f4)), (qf6, .inl (cf6, 1740, .inl f6)), (qa1, .inl (ca1, na1, .inl fa1))] H := hP
  replace hD : va_D A [(h0, .inr (9, [.ref qf0, .ref qf1, .ref qf2, .int 0, .ref qf4, .ref qf5, .ref qf6, .ref qf7, .ref qf8, .int 32, .int 0, .int 0, .int (-1)])), (qf8, .inl (cf8, 64, .inl f8)), (qf7, .inl (cf7, 64, .inl (va_cpy f8 f7 (0 : Int32).toNatClampNeg (0 : Int32).toNatClampNeg (64 : Int32).toNatClampNeg))), (qf0, .inl (cf0, 3001, .inl f0)), (qf1, .inl (cf1, 3001, .inl f1)), (qf2, .inl (cf2, 3001, .inl f2)), (qf5, .inl (cf5, 1741, .inl f5)), (qf4, .inl (cf4, 6400, .inl f4)), (qf6, .inl (cf6, 1740, .inl f6)), (qa1, .inl (ca1, na1, .inl fa1))] := hD
  replace hK : va_K (dC, dI) vwCl [(cf8, .int), (cf7, .int), (cf0, .int), (cf1, .int), (cf2, .int), (cf5, .int), (cf4, .byte), (cf6, .int), (ca1, .byte)] s := hK
  obtain rfl := hw
  refine lv_istore_n (lv' := [(3, .int u1_0), (0, .ref h0), (1, .ref qa1), (2, .int a2)]) hx hb dX9_scan_47 rfl hl (by decide) rfl (fun ls hl => ?_)
  refine lv_iconst (v := 0) hx hb dX9_scan_48 (by decide) ?_
  refine lv_istore (lv' := [(4, .int 0), (3, .int u1_0), (0, .ref h0), (1, .ref qa1), (2, .int a2)]) hx hb dX9_scan_49 hl (by decide) rfl (fun ls hl => ?_)
  replace hl : lv_has ls 6 [(4, .int 0), (3, .int u1_0), (0, .ref h0), (1, .ref qa1), (2, .int a2)] := lv_sub hl [0, 1, 2, 3, 4] rfl
  replace hP := hP.sub (ws' := [(h0, .inr (9, [.ref qf0, .ref qf1, .ref qf2, .int 0, .ref qf4, .ref qf5, .ref qf6, .ref qf7, .ref qf8, .int 32, .int 0, .int 0, .int (-1)])), (qf8, .inl (cf8, 64, .inl f8)), (qf7, .inl (cf7, 64, .inl (va_cpy f8 f7 (0 : Int32).toNatClampNeg (0 : Int32).toNatClampNeg (64 : Int32).toNatClampNeg))), (qa1, .inl (ca1, na1, .inl fa1)), (qf0, .inl (cf0, 3001, .inl f0)), (qf1, .inl (cf1, 3001, .inl f1)), (qf2, .inl (cf2, 3001, .inl f2)), (qf5, .inl (cf5, 1741, .inl f5)), (qf4, .inl (cf4, 6400, .inl f4)), (qf6, .inl (cf6, 1740, .inl f6))]) [0, 1, 2, 9, 3, 4, 5, 6, 7, 8] rfl
  replace hD := hD.sub (ws' := [(h0, .inr (9, [.ref qf0, .ref qf1, .ref qf2, .int 0, .ref qf4, .ref qf5, .ref qf6, .ref qf7, .ref qf8, .int 32, .int 0, .int 0, .int (-1)])), (qf8, .inl (cf8, 64, .inl f8)), (qf7, .inl (cf7, 64, .inl (va_cpy f8 f7 (0 : Int32).toNatClampNeg (0 : Int32).toNatClampNeg (64 : Int32).toNatClampNeg))), (qa1, .inl (ca1, na1, .inl fa1)), (qf0, .inl (cf0, 3001, .inl f0)), (qf1, .inl (cf1, 3001, .inl f1)), (qf2, .inl (cf2, 3001, .inl f2)), (qf5, .inl (cf5, 1741, .inl f5)), (qf4, .inl (cf4, 6400, .inl f4)), (qf6, .inl (cf6, 1740, .inl f6))]) [0, 1, 2, 9, 3, 4, 5, 6, 7, 8] (by decide) rfl
  replace hK := hK.sub (tys' := [(cf8, .int), (cf7, .int), (ca1, .byte), (cf0, .int), (cf1, .int), (cf2, .int), (cf5, .int), (cf4, .byte), (cf6, .int)]) [0, 1, 8, 2, 3, 4, 5, 6, 7] rfl
  obtain ⟨n_51, hn_51⟩ : ∃ z : Nat, z = nf := ⟨_, rfl⟩
  obtain ⟨l2_51, el2_51⟩ : ∃ z : Int32, z = a2 := ⟨_, rfl⟩
  obtain ⟨l3_51, el3_51⟩ : ∃ z : Int32, z = u1_0 := ⟨_, rfl⟩
  obtain ⟨l4_51, el4_51⟩ : ∃ z : Int32, z = 0 := ⟨_, rfl⟩
  obtain ⟨g0_51, eg0_51⟩ : ∃ z : Nat → Int32, z = f0 := ⟨_, rfl⟩
  obtain ⟨g1_51, eg1_51⟩ : ∃ z : Nat → Int32, z = f1 := ⟨_, rfl⟩
  obtain ⟨g2_51, eg2_51⟩ : ∃ z : Nat → Int32, z = f2 := ⟨_, rfl⟩
  obtain ⟨g4_51, eg4_51⟩ : ∃ z : Nat → Int32, z = f4 := ⟨_, rfl⟩
  obtain ⟨g5_51, eg5_51⟩ : ∃ z : Nat → Int32, z = f5 := ⟨_, rfl⟩
  obtain ⟨g6_51, eg6_51⟩ : ∃ z : Nat → Int32, z = f6 := ⟨_, rfl⟩
  obtain ⟨g7_51, eg7_51⟩ : ∃ z : Nat → Int32, z = (va_cpy f8 f7 (0 : Int32).toNatClampNeg (0 : Int32).toNatClampNeg (64 : Int32).toNatClampNeg) := ⟨_, rfl⟩
  obtain ⟨x10_51, ex10_51⟩ : ∃ z : Int32, z = 0 := ⟨_, rfl⟩
  obtain ⟨x11_51, ex11_51⟩ : ∃ z : Int32, z = 0 := ⟨_, rfl⟩
  obtain ⟨x12_51, ex12_51⟩ : ∃ z : Int32, z = (-1) := ⟨_, rfl⟩
  obtain ⟨x3_51, ex3_51⟩ : ∃ z : Int32, z = 0 := ⟨_, rfl⟩
  obtain ⟨x9_51, ex9_51⟩ : ∃ z : Int32, z = 32 := ⟨_, rfl⟩
  replace hsp : lp_v9_scan_51 nf n_51 a2 f8 f7 na1 fa1 f0 f1 f2 f5 f4 f6 l2_51 l3_51 l4_51 g0_51 g1_51 g2_51 g4_51 g5_51 g6_51 g7_51 x10_51 x11_51 x12_51 x3_51 x9_51 = some (o0, o1, o2, o4, o5, o6, o7, w10, w11, w12, w3, w9) := by rw [hn_51, el2_51, el3_51, el4_51, eg0_51, eg1_51, eg2_51, eg4_51, eg5_51, eg6_51, eg7_51, ex10_51, ex11_51, ex12_51, ex3_51, ex9_51]; exact hsp
  replace hl : lv_has ls 6 [(4, .int l4_51), (3, .int l3_51), (0, .ref h0), (1, .ref qa1), (2, .int l2_51)] := by rw [el2_51, el3_51, el4_51]; exact hl
  replace hP : va_P (dC, dI) vwCl [(h0, .inr (9, [.ref qf0, .ref qf1, .ref qf2, .int x3_51, .ref qf4, .ref qf5, .ref qf6, .ref qf7, .ref qf8, .int x9_51, .int x10_51, .int x11_51, .int x12_51])), (qf8, .inl (cf8, 64, .inl f8)), (qf7, .inl (cf7, 64, .inl g7_51)), (qa1, .inl (ca1, na1, .inl fa1)), (qf0, .inl (cf0, 3001, .inl g0_51)), (qf1, .inl (cf1, 3001, .inl g1_51)), (qf2, .inl (cf2, 3001, .inl g2_51)), (qf5, .inl (cf5, 1741, .inl g5_51)), (qf4, .inl (cf4, 6400, .inl g4_51)), (qf6, .inl (cf6, 1740, .inl g6_51))] H := by rw [eg0_51, eg1_51, eg2_51, eg4_51, eg5_51, eg6_51, eg7_51, ex10_51, ex11_51, ex12_51, ex3_51, ex9_51]; exact hP
  replace hD : va_D A [(h0, .inr (9, [.ref qf0, .ref qf1, .ref qf2, .int x3_51, .ref qf4, .ref qf5, .ref qf6, .ref qf7, .ref qf8, .int x9_51, .int x10_51, .int x11_51, .int x12_51])), (qf8, .inl (cf8, 64, .inl f8)), (qf7, .inl (cf7, 64, .inl g7_51)), (qa1, .inl (ca1, na1, .inl fa1)), (qf0, .inl (cf0, 3001, .inl g0_51)), (qf1, .inl (cf1, 3001, .inl g1_51)), (qf2, .inl (cf2, 3001, .inl g2_51)), (qf5, .inl (cf5, 1741, .inl g5_51)), (qf4, .inl (cf4, 6400, .inl g4_51)), (qf6, .inl (cf6, 1740, .inl g6_51))] := by rw [eg0_51, eg1_51, eg2_51, eg4_51, eg5_51, eg6_51, eg7_51, ex10_51, ex11_51, ex12_51, ex3_51, ex9_51]; exact hD
  clear hn_51 el2_51 el3_51 el4_51 eg0_51 eg1_51 eg2_51 eg4_51 eg5_51 eg6_51 eg7_51 ex10_51 ex11_51 ex12_51 ex3_51 ex9_51
  try clear hlo
  try clear hH
  revert hsp
  revert hP
  revert hD
  revert hS
  revert hl
  revert x9_51
  revert x3_51
  revert x12_51
  revert x11_51
  revert x10_51
  revert g7_51
  revert g6_51
  revert g5_51
  revert g4_51
  revert g2_51
  revert g1_51
  revert g0_51
  revert l4_51
  revert l3_51
  revert l2_51
  revert ls
  revert locs
  revert H
  induction n_51 with
  | zero => intro H locs ls l2_51 l3_51 l4_51 g0_51 g1_51 g2_51 g4_51 g5_51 g6_51 g7_51 x10_51 x11_51 x12_51 x3_51 x9_51  hl hS hD hP hsp; unfold lp_v9_scan_51 at hsp; cases hsp
  | succ n_51 ih_51 =>
    intro H locs ls l2_51 l3_51 l4_51 g0_51 g1_51 g2_51 g4_51 g5_51 g6_51 g7_51 x10_51 x11_51 x12_51 x3_51 x9_51  hl hS hD hP hsp
    unfold lp_v9_scan_51 at hsp
    try dsimp only at hsp
    refine lv_iload hx hb dX9_scan_51 (lv_at hl 0 rfl) ?_
    refine lv_sipush (v := 3000) hx hb dX9_scan_53 (by decide) ?_
    refine lv_icmp_ge (tgt := 102) hx hb dX9_scan_56 (by decide) (fun c_3 => ?_) (fun c_3 => ?_)
    · rw [if_pos c_3] at hsp
      refine lv_aload_n hx hb dX9_scan_102 rfl (lv_at hl 2 rfl) ?_
      refine lv_iconst (v := 0) hx hb dX9_scan_103 (by decide) ?_
      refine lv_iload_n hx hb dX9_scan_104 rfl (lv_at hl 4 rfl) ?_
      refine lv_iconst (v := 0) hx hb dX9_scan_105 (by decide) ?_
      obtain ⟨⟨g902_0, g902_1, g902_2, u2_3⟩, hu_2, hsp⟩ := ox_bind hsp
      try dsimp only at hsp
      have hPc := hP.sub (ws' := [(h0, .inr (9, [.ref qf0, .ref qf1, .ref qf2, .int x3_51, .ref qf4, .ref qf5, .ref qf6, .ref qf7, .ref qf8, .int x9_51, .int x10_51, .int x11_51, .int x12_51])), (qf0, .inl (cf0, 3001, .inl g0_51)), (qf1, .inl (cf1, 3001, .inl g1_51)), (qf2, .inl (cf2, 3001, .inl g2_51))]) [0, 4, 5, 6] rfl
      have hDc := hD.sub (ws' := [(h0, .inr (9, [.ref qf0, .ref qf1, .ref qf2, .int x3_51, .ref qf4, .ref qf5, .ref qf6, .ref qf7, .ref qf8, .int x9_51, .int x10_51, .int x11_51, .int x12_51])), (qf0, .inl (cf0, 3001, .inl g0_51)), (qf1, .inl (cf1, 3001, .inl g1_51)), (qf2, .inl (cf2, 3001, .inl g2_51))]) [0, 4, 5, 6] (by decide) rfl
      have hKc := hK.sub (tys' := [(cf0, .int), (cf1, .int), (cf2, .int)]) [3, 4, 5] rfl
      have hFc := va_free (wc := [(h0, .inr (9, [.ref qf0, .ref qf1, .ref qf2, .int x3_51, .ref qf4, .ref qf5, .ref qf6, .ref qf7, .ref qf8, .int x9_51, .int x10_51, .int x11_51, .int x12_51])), (qf0, .inl (cf0, 3001, .inl g0_51)), (qf1, .inl (cf1, 3001, .inl g1_51)), (qf2, .inl (cf2, 3001, .inl g2_51))]) hD hS hA [0, 4, 5, 6] rfl
      refine va_callv (va_runV (As := [.int 0, .int l2_51, .int 0]) (rest := []) ⟨hx, hb, hml, hown, hts⟩ (t9_addToken l dC dI H.size h0 0 l2_51 0 qf0 qf1 qf2 x3_51 qf4 qf5 qf6 qf7 qf8 x9_51 x10_51 x11_51 x12_51 cf0 g0_51 cf1 g1_51 cf2 g2_51 nf g902_0 g902_1 g902_2 u2_3 hu_2) (cwV 3 hts gv_h7_63 rfl rfl rfl (by decide +kernel) ⟨Nat.le_of_ble_eq_true rfl, Nat.le_of_ble_eq_true rfl⟩) ⟨fun a U g mk q => by obtain ⟨q0, q1, qP, qK, qD⟩ := q; exact ⟨q0, q1, qP, va_K.moved (u := U) (U := U.calling g mk a) (Vm.Alike.refl U.vm) qK, qD⟩, va_recv hKc hPc (ci := 9) (q0 := 0) rfl rfl, fun U hU hW => ⟨rfl, by rw [hU], by rw [hU]; exact hPc, va_K.moved hW.alike hKc, hDc.weaken (fun _ _ _ _ => trivial)⟩⟩ rfl rfl hl.1 rfl (lv_room (Nat.le_of_ble_eq_true rfl)) dX9_scan_106 ⟨Nat.le_of_ble_eq_true rfl, Nat.le_of_ble_eq_true rfl⟩) hS (fun q _ h => hFc q h) hFc ?_
      clear hS
      intro u t H1 locs ht hvm hw hB hz1 hk1 hS
      obtain ⟨⟩ := u
      obtain ⟨hP1, hK1, hD1⟩ := hB
      rw [ht] at hP1
      have hK1 := va_K.moved hvm.symm hK1
      try dsimp only at hw
      have hPD := va_join (wr := [(qf8, .inl (cf8, 64, .inl f8)), (qf7, .inl (cf7, 64, .inl g7_51)), (qa1, .inl (ca1, na1, .inl fa1)), (qf5, .inl (cf5, 1741, .inl g5_51)), (qf4, .inl (cf4, 6400, .inl g4_51)), (qf6, .inl (cf6, 1740, .inl g6_51))]) (w1 := [(h0, .inr (9, [.ref qf0, .ref qf1, .ref qf2, .int u2_3, .ref qf4, .ref qf5, .ref qf6, .ref qf7, .ref qf8, .int x9_51, .int x10_51, .int x11_51, .int x12_51])), (qf0, .inl (cf0, 3001, .inl g902_0)), (qf1, .inl (cf1, 3001, .inl g902_1)), (qf2, .inl (cf2, 3001, .inl g902_2))]) hP hD [0, 4, 5, 6] [1, 2, 3, 7, 8, 9] rfl rfl (by decide) (by decide) hk1 hFc hP1 hD1
      clear hP hD
      obtain ⟨hP, hD⟩ := hPD
      replace hK := (hK.sub (tys' := [(cf8, .int), (cf7, .int), (ca1, .byte), (cf5, .int), (cf4, .byte), (cf6, .int)]) [0, 1, 2, 6, 7, 8] rfl).app hK1
      clear hPc hDc hKc hFc hP1 hK1 hD1 hz1 hk1 ht hvm
      generalize H1 = H at hP hS ⊢
      replace hP : va_P (dC, dI) vwCl [(qf8, .inl (cf8, 64, .inl f8)), (qf7, .inl (cf7, 64, .inl g7_51)), (qa1, .inl (ca1, na1, .inl fa1)), (qf5, .inl (cf5, 1741, .inl g5_51)), (qf4, .inl (cf4, 6400, .inl g4_51)), (qf6, .inl (cf6, 1740, .inl g6_51)), (h0, .inr (9, [.ref qf0, .ref qf1, .ref qf2, .int u2_3, .ref qf4, .ref qf5, .ref qf6, .ref qf7, .ref qf8, .int x9_51, .int x10_51, .int x11_51, .int x12_51])), (qf0, .inl (cf0, 3001, .inl g902_0)), (qf1, .inl (cf1, 3001, .inl g902_1)), (qf2, .inl (cf2, 3001, .inl g902_2))] H := hP
      replace hD : va_D A [(qf8, .inl (cf8, 64, .inl f8)), (qf7, .inl (cf7, 64, .inl g7_51)), (qa1, .inl (ca1, na1, .inl fa1)), (qf5, .inl (cf5, 1741, .inl g5_51)), (qf4, .inl (cf4, 6400, .inl g4_51)), (qf6, .inl (cf6, 1740, .inl g6_51)), (h0, .inr (9, [.ref qf0, .ref qf1, .ref qf2, .int u2_3, .ref qf4, .ref qf5, .ref qf6, .ref qf7, .ref qf8, .int x9_51, .int x10_51, .int x11_51, .int x12_51])), (qf0, .inl (cf0, 3001, .inl g902_0)), (qf1, .inl (cf1, 3001, .inl g902_1)), (qf2, .inl (cf2, 3001, .inl g902_2))] := hD
      replace hK : va_K (dC, dI) vwCl [(cf8, .int), (cf7, .int), (ca1, .byte), (cf5, .int), (cf4, .byte), (cf6, .int), (cf0, .int), (cf1, .int), (cf2, .int)] s := hK
      have hr0 := Option.some.inj hsp
      clear hsp
      obtain ⟨hq0, hr1⟩ := Prod.mk.inj hr0
      clear hr0
      obtain ⟨hq1, hr2⟩ := Prod.mk.inj hr1
      clear hr1
      obtain ⟨hq2, hr3⟩ := Prod.mk.inj hr2
      clear hr2
      obtain ⟨hq3, hr4⟩ := Prod.mk.inj hr3
      clear hr3
      obtain ⟨hq4, hr5⟩ := Prod.mk.inj hr4
      clear hr4
      obtain ⟨hq5, hr6⟩ := Prod.mk.inj hr5
      clear hr5
      obtain ⟨hq6, hr7⟩ := Prod.mk.inj hr6
      clear hr6
      obtain ⟨hq7, hr8⟩ := Prod.mk.inj hr7
      clear hr7
      obtain ⟨hq8, hr9⟩ := Prod.mk.inj hr8
      clear hr8
      obtain ⟨hq9, hr10⟩ := Prod.mk.inj hr9
      clear hr9
      obtain ⟨hq10, hr11⟩ := Prod.mk.inj hr10
      clear hr10
      subst hq0
      subst hq1
      subst hq2
      subst hq3
      subst hq4
      subst hq5
      subst hq6
      subst hq7
      subst hq8
      subst hq9
      subst hq10
      subst hr11
      have hP9 := hP.sub (ws' := [(h0, .inr (9, [.ref qf0, .ref qf1, .ref qf2, .int u2_3, .ref qf4, .ref qf5, .ref qf6, .ref qf7, .ref qf8, .int x9_51, .int x10_51, .int x11_51, .int x12_51])), (qf8, .inl (cf8, 64, .inl f8)), (qf7, .inl (cf7, 64, .inl g7_51)), (qa1, .inl (ca1, na1, .inl fa1)), (qf0, .inl (cf0, 3001, .inl g902_0)), (qf1, .inl (cf1, 3001, .inl g902_1)), (qf2, .inl (cf2, 3001, .inl g902_2)), (qf5, .inl (cf5, 1741, .inl g5_51)), (qf4, .inl (cf4, 6400, .inl g4_51)), (qf6, .inl (cf6, 1740, .inl g6_51))]) [6, 0, 1, 2, 7, 8, 9, 3, 4, 5] rfl
      have hD9 := hD.sub (ws' := [(h0, .inr (9, [.ref qf0, .ref qf1, .ref qf2, .int u2_3, .ref qf4, .ref qf5, .ref qf6, .ref qf7, .ref qf8, .int x9_51, .int x10_51, .int x11_51, .int x12_51])), (qf8, .inl (cf8, 64, .inl f8)), (qf7, .inl (cf7, 64, .inl g7_51)), (qa1, .inl (ca1, na1, .inl fa1)), (qf0, .inl (cf0, 3001, .inl g902_0)), (qf1, .inl (cf1, 3001, .inl g902_1)), (qf2, .inl (cf2, 3001, .inl g902_2)), (qf5, .inl (cf5, 1741, .inl g5_51)), (qf4, .inl (cf4, 6400, .inl g4_51)), (qf6, .inl (cf6, 1740, .inl g6_51))]) [6, 0, 1, 2, 7, 8, 9, 3, 4, 5] (by decide) rfl
      have hK9 := hK.sub (tys' := [(cf8, .int), (cf7, .int), (ca1, .byte), (cf0, .int), (cf1, .int), (cf2, .int), (cf5, .int), (cf4, .byte), (cf6, .int)]) [0, 1, 2, 6, 7, 8, 3, 4, 5] rfl
      exact W.vret hx hb hr (fun t ht hW => ⟨⟨(), rfl, trivial, by rw [ht]; exact hP9, va_K.moved hW.alike hK9, hD9⟩, hS.F ht⟩) hS.2.2 dX9_scan_109
    · rw [if_neg c_3] at hsp
      refine lv_iload_n hx hb dX9_scan_59 rfl (lv_at hl 1 rfl) ?_
      refine lv_iload_n hx hb dX9_scan_60 rfl (lv_at hl 4 rfl) ?_
      refine lv_icmp_ge (tgt := 102) hx hb dX9_scan_61 (by decide) (fun c_4 => ?_) (fun c_4 => ?_)
      · rw [if_pos c_4] at hsp
        refine lv_aload_n hx hb dX9_scan_102 rfl (lv_at hl 2 rfl) ?_
        refine lv_iconst (v := 0) hx hb dX9_scan_103 (by decide) ?_
        refine lv_iload_n hx hb dX9_scan_104 rfl (lv_at hl 4 rfl) ?_
        refine lv_iconst (v := 0) hx hb dX9_scan_105 (by decide) ?_
        obtain ⟨⟨g903_0, g903_1, g903_2, u3_3⟩, hu_3, hsp⟩ := ox_bind hsp
        try dsimp only at hsp
        have hPc := hP.sub (ws' := [(h0, .inr (9, [.ref qf0, .ref qf1, .ref qf2, .int x3_51, .ref qf4, .ref qf5, .ref qf6, .ref qf7, .ref qf8, .int x9_51, .int x10_51, .int x11_51, .int x12_51])), (qf0, .inl (cf0, 3001, .inl g0_51)), (qf1, .inl (cf1, 3001, .inl g1_51)), (qf2, .inl (cf2, 3001, .inl g2_51))]) [0, 4, 5, 6] rfl
        have hDc := hD.sub (ws' := [(h0, .inr (9, [.ref qf0, .ref qf1, .ref qf2, .int x3_51, .ref qf4, .ref qf5, .ref qf6, .ref qf7, .ref qf8, .int x9_51, .int x10_51, .int x11_51, .int x12_51])), (qf0, .inl (cf0, 3001, .inl g0_51)), (qf1, .inl (cf1, 3001, .inl g1_51)), (qf2, .inl (cf2, 3001, .inl g2_51))]) [0, 4, 5, 6] (by decide) rfl
        have hKc := hK.sub (tys' := [(cf0, .int), (cf1, .int), (cf2, .int)]) [3, 4, 5] rfl
        have hFc := va_free (wc := [(h0, .inr (9, [.ref qf0, .ref qf1, .ref qf2, .int x3_51, .ref qf4, .ref qf5, .ref qf6, .ref qf7, .ref qf8, .int x9_51, .int x10_51, .int x11_51, .int x12_51])), (qf0, .inl (cf0, 3001, .inl g0_51)), (qf1, .inl (cf1, 3001, .inl g1_51)), (qf2, .inl (cf2, 3001, .inl g2_51))]) hD hS hA [0, 4, 5, 6] rfl
        refine va_callv (va_runV (As := [.int 0, .int l2_51, .int 0]) (rest := []) ⟨hx, hb, hml, hown, hts⟩ (t9_addToken l dC dI H.size h0 0 l2_51 0 qf0 qf1 qf2 x3_51 qf4 qf5 qf6 qf7 qf8 x9_51 x10_51 x11_51 x12_51 cf0 g0_51 cf1 g1_51 cf2 g2_51 nf g903_0 g903_1 g903_2 u3_3 hu_3) (cwV 3 hts gv_h7_63 rfl rfl rfl (by decide +kernel) ⟨Nat.le_of_ble_eq_true rfl, Nat.le_of_ble_eq_true rfl⟩) ⟨fun a U g mk q => by obtain ⟨q0, q1, qP, qK, qD⟩ := q; exact ⟨q0, q1, qP, va_K.moved (u := U) (U := U.calling g mk a) (Vm.Alike.refl U.vm) qK, qD⟩, va_recv hKc hPc (ci := 9) (q0 := 0) rfl rfl, fun U hU hW => ⟨rfl, by rw [hU], by rw [hU]; exact hPc, va_K.moved hW.alike hKc, hDc.weaken (fun _ _ _ _ => trivial)⟩⟩ rfl rfl hl.1 rfl (lv_room (Nat.le_of_ble_eq_true rfl)) dX9_scan_106 ⟨Nat.le_of_ble_eq_true rfl, Nat.le_of_ble_eq_true rfl⟩) hS (fun q _ h => hFc q h) hFc ?_
        clear hS
        intro u t H1 locs ht hvm hw hB hz1 hk1 hS
        obtain ⟨⟩ := u
        obtain ⟨hP1, hK1, hD1⟩ := hB
        rw [ht] at hP1
        have hK1 := va_K.moved hvm.symm hK1
        try dsimp only at hw
        have hPD := va_join (wr := [(qf8, .inl (cf8, 64, .inl f8)), (qf7, .inl (cf7, 64, .inl g7_51)), (qa1, .inl (ca1, na1, .inl fa1)), (qf5, .inl (cf5, 1741, .inl g5_51)), (qf4, .inl (cf4, 6400, .inl g4_51)), (qf6, .inl (cf6, 1740, .inl g6_51))]) (w1 := [(h0, .inr (9, [.ref qf0, .ref qf1, .ref qf2, .int u3_3, .ref qf4, .ref qf5, .ref qf6, .ref qf7, .ref qf8, .int x9_51, .int x10_51, .int x11_51, .int x12_51])), (qf0, .inl (cf0, 3001, .inl g903_0)), (qf1, .inl (cf1, 3001, .inl g903_1)), (qf2, .inl (cf2, 3001, .inl g903_2))]) hP hD [0, 4, 5, 6] [1, 2, 3, 7, 8, 9] rfl rfl (by decide) (by decide) hk1 hFc hP1 hD1
        clear hP hD
        obtain ⟨hP, hD⟩ := hPD
        replace hK := (hK.sub (tys' := [(cf8, .int), (cf7, .int), (ca1, .byte), (cf5, .int), (cf4, .byte), (cf6, .int)]) [0, 1, 2, 6, 7, 8] rfl).app hK1
        clear hPc hDc hKc hFc hP1 hK1 hD1 hz1 hk1 ht hvm
        generalize H1 = H at hP hS ⊢
        replace hP : va_P (dC, dI) vwCl [(qf8, .inl (cf8, 64, .inl f8)), (qf7, .inl (cf7, 64, .inl g7_51)), (qa1, .inl (ca1, na1, .inl fa1)), (qf5, .inl (cf5, 1741, .inl g5_51)), (qf4, .inl (cf4, 6400, .inl g4_51)), (qf6, .inl (cf6, 1740, .inl g6_51)), (h0, .inr (9, [.ref qf0, .ref qf1, .ref qf2, .int u3_3, .ref qf4, .ref qf5, .ref qf6, .ref qf7, .ref qf8, .int x9_51, .int x10_51, .int x11_51, .int x12_51])), (qf0, .inl (cf0, 3001, .inl g903_0)), (qf1, .inl (cf1, 3001, .inl g903_1)), (qf2, .inl (cf2, 3001, .inl g903_2))] H := hP
        replace hD : va_D A [(qf8, .inl (cf8, 64, .inl f8)), (qf7, .inl (cf7, 64, .inl g7_51)), (qa1, .inl (ca1, na1, .inl fa1)), (qf5, .inl (cf5, 1741, .inl g5_51)), (qf4, .inl (cf4, 6400, .inl g4_51)), (qf6, .inl (cf6, 1740, .inl g6_51)), (h0, .inr (9, [.ref qf0, .ref qf1, .ref qf2, .int u3_3, .ref qf4, .ref qf5, .ref qf6, .ref qf7, .ref qf8, .int x9_51, .int x10_51, .int x11_51, .int x12_51])), (qf0, .inl (cf0, 3001, .inl g903_0)), (qf1, .inl (cf1, 3001, .inl g903_1)), (qf2, .inl (cf2, 3001, .inl g903_2))] := hD
        replace hK : va_K (dC, dI) vwCl [(cf8, .int), (cf7, .int), (ca1, .byte), (cf5, .int), (cf4, .byte), (cf6, .int), (cf0, .int), (cf1, .int), (cf2, .int)] s := hK
        have hr0 := Option.some.inj hsp
        clear hsp
        obtain ⟨hq0, hr1⟩ := Prod.mk.inj hr0
        clear hr0
        obtain ⟨hq1, hr2⟩ := Prod.mk.inj hr1
        clear hr1
        obtain ⟨hq2, hr3⟩ := Prod.mk.inj hr2
        clear hr2
        obtain ⟨hq3, hr4⟩ := Prod.mk.inj hr3
        clear hr3
        obtain ⟨hq4, hr5⟩ := Prod.mk.inj hr4
        clear hr4
        obtain ⟨hq5, hr6⟩ := Prod.mk.inj hr5
        clear hr5
        obtain ⟨hq6, hr7⟩ := Prod.mk.inj hr6
        clear hr6
        obtain ⟨hq7, hr8⟩ := Prod.mk.inj hr7
        clear hr7
        obtain ⟨hq8, hr9⟩ := Prod.mk.inj hr8
        clear hr8
        obtain ⟨hq9, hr10⟩ := Prod.mk.inj hr9
        clear hr9
        obtain ⟨hq10, hr11⟩ := Prod.mk.inj hr10
        clear hr10
        subst hq0
        subst hq1
        subst hq2
        subst hq3
        subst hq4
        subst hq5
        subst hq6
        subst hq7
        subst hq8
        subst hq9
        subst hq10
        subst hr11
        have hP9 := hP.sub (ws' := [(h0, .inr (9, [.ref qf0, .ref qf1, .ref qf2, .int u3_3, .ref qf4, .ref qf5, .ref qf6, .ref qf7, .ref qf8, .int x9_51, .int x10_51, .int x11_51, .int x12_51])), (qf8, .inl (cf8, 64, .inl f8)), (qf7, .inl (cf7, 64, .inl g7_51)), (qa1, .inl (ca1, na1, .inl fa1)), (qf0, .inl (cf0, 3001, .inl g903_0)), (qf1, .inl (cf1, 3001, .inl g903_1)), (qf2, .inl (cf2, 3001, .inl g903_2)), (qf5, .inl (cf5, 1741, .inl g5_51)), (qf4, .inl (cf4, 6400, .inl g4_51)), (qf6, .inl (cf6, 1740, .inl g6_51))]) [6, 0, 1, 2, 7, 8, 9, 3, 4, 5] rfl
        have hD9 := hD.sub (ws' := [(h0, .inr (9, [.ref qf0, .ref qf1, .ref qf2, .int u3_3, .ref qf4, .ref qf5, .ref qf6, .ref qf7, .ref qf8, .int x9_51, .int x10_51, .int x11_51, .int x12_51])), (qf8, .inl (cf8, 64, .inl f8)), (qf7, .inl (cf7, 64, .inl g7_51)), (qa1, .inl (ca1, na1, .inl fa1)), (qf0, .inl (cf0, 3001, .inl g903_0)), (qf1, .inl (cf1, 3001, .inl g903_1)), (qf2, .inl (cf2, 3001, .inl g903_2)), (qf5, .inl (cf5, 1741, .inl g5_51)), (qf4, .inl (cf4, 6400, .inl g4_51)), (qf6, .inl (cf6, 1740, .inl g6_51))]) [6, 0, 1, 2, 7, 8, 9, 3, 4, 5] (by decide) rfl
        have hK9 := hK.sub (tys' := [(cf8, .int), (cf7, .int), (ca1, .byte), (cf0, .int), (cf1, .int), (cf2, .int), (cf5, .int), (cf4, .byte), (cf6, .int)]) [0, 1, 2, 6, 7, 8, 3, 4, 5] rfl
        exact W.vret hx hb hr (fun t ht hW => ⟨⟨(), rfl, trivial, by rw [ht]; exact hP9, va_K.moved hW.alike hK9, hD9⟩, hS.F ht⟩) hS.2.2 dX9_scan_109
      · rw [if_neg c_4] at hsp
        refine lv_aload_n hx hb dX9_scan_64 rfl (lv_at hl 2 rfl) ?_
        refine lv_aload_n hx hb dX9_scan_65 rfl (lv_at hl 3 rfl) ?_
        refine lv_iload_n hx hb dX9_scan_66 rfl (lv_at hl 4 rfl) ?_
        refine lv_iload_n hx hb dX9_scan_67 rfl (lv_at hl 1 rfl) ?_
        obtain ⟨⟨u4_0, g904_1, g904_2, g904_3, g904_4, g904_5, g904_6, g904_7, u4_8, u4_9⟩, hu_4, hsp⟩ := ox_bind hsp
        try dsimp only at hsp
        have hPc := hP.sub (ws' := [(h0, .inr (9, [.ref qf0, .ref qf1, .ref qf2, .int x3_51, .ref qf4, .ref qf5, .ref qf6, .ref qf7, .ref qf8, .int x9_51, .int x10_51, .int x11_51, .int x12_51])), (qa1, .inl (ca1, na1, .inl fa1)), (qf0, .inl (cf0, 3001, .inl g0_51)), (qf1, .inl (cf1, 3001, .inl g1_51)), (qf2, .inl (cf2, 3001, .inl g2_51)), (qf7, .inl (cf7, 64, .inl g7_51)), (qf5, .inl (cf5, 1741, .inl g5_51)), (qf4, .inl (cf4, 6400, .inl g4_51)), (qf6, .inl (cf6, 1740, .inl g6_51))]) [0, 3, 4, 5, 6, 2, 7, 8, 9] rfl
        have hDc := hD.sub (ws' := [(h0, .inr (9, [.ref qf0, .ref qf1, .ref qf2, .int x3_51, .ref qf4, .ref qf5, .ref qf6, .ref qf7, .ref qf8, .int x9_51, .int x10_51, .int x11_51, .int x12_51])), (qa1, .inl (ca1, na1, .inl fa1)), (qf0, .inl (cf0, 3001, .inl g0_51)), (qf1, .inl (cf1, 3001, .inl g1_51)), (qf2, .inl (cf2, 3001, .inl g2_51)), (qf7, .inl (cf7, 64, .inl g7_51)), (qf5, .inl (cf5, 1741, .inl g5_51)), (qf4, .inl (cf4, 6400, .inl g4_51)), (qf6, .inl (cf6, 1740, .inl g6_51))]) [0, 3, 4, 5, 6, 2, 7, 8, 9] (by decide) rfl
        have hKc := hK.sub (tys' := [(ca1, .byte), (cf0, .int), (cf1, .int), (cf2, .int), (cf7, .int), (cf5, .int), (cf4, .byte), (cf6, .int)]) [2, 3, 4, 5, 1, 6, 7, 8] rfl
        have hFc := va_free (wc := [(h0, .inr (9, [.ref qf0, .ref qf1, .ref qf2, .int x3_51, .ref qf4, .ref qf5, .ref qf6, .ref qf7, .ref qf8, .int x9_51, .int x10_51, .int x11_51, .int x12_51])), (qa1, .inl (ca1, na1, .inl fa1)), (qf0, .inl (cf0, 3001, .inl g0_51)), (qf1, .inl (cf1, 3001, .inl g1_51)), (qf2, .inl (cf2, 3001, .inl g2_51)), (qf7, .inl (cf7, 64, .inl g7_51)), (qf5, .inl (cf5, 1741, .inl g5_51)), (qf4, .inl (cf4, 6400, .inl g4_51)), (qf6, .inl (cf6, 1740, .inl g6_51))]) hD hS hA [0, 3, 4, 5, 6, 2, 7, 8, 9] rfl
        refine va_calli (va_runV (As := [.ref qa1, .int l2_51, .int l3_51]) (rest := []) ⟨hx, hb, hml, hown, hts⟩ (v9_scanToken l dC dI H.size h0 qa1 l2_51 l3_51 qf0 qf1 qf2 x3_51 qf4 qf5 qf6 qf7 qf8 x9_51 x10_51 x11_51 x12_51 ca1 na1 fa1 cf0 g0_51 cf1 g1_51 cf2 g2_51 cf7 g7_51 cf5 g5_51 cf4 g4_51 cf6 g6_51 nf u4_0 g904_1 g904_2 g904_3 g904_4 g904_5 g904_6 g904_7 u4_8 u4_9 hu_4) (cwV 3 hts gv_h7_148 rfl rfl rfl (by decide +kernel) ⟨Nat.le_of_ble_eq_true rfl, Nat.le_of_ble_eq_true rfl⟩) ⟨fun a U g mk q => by obtain ⟨q0, q1, qP, qK, qD⟩ := q; exact ⟨q0, q1, qP, va_K.moved (u := U) (U := U.calling g mk a) (Vm.Alike.refl U.vm) qK, qD⟩, va_recv hKc hPc (ci := 9) (q0 := 0) rfl rfl, fun U hU hW => ⟨rfl, by rw [hU], by rw [hU]; exact hPc, va_K.moved hW.alike hKc, hDc.weaken (fun _ _ _ _ => trivial)⟩⟩ rfl rfl hl.1 rfl (lv_room (Nat.le_of_ble_eq_true rfl)) dX9_scan_68 ⟨Nat.le_of_ble_eq_true rfl, Nat.le_of_ble_eq_true rfl⟩) hS (fun q _ h => hFc q h) hFc ?_
        clear hS
        intro r_5 u t H1 locs ht hvm hw hB hz1 hk1 hS
        obtain ⟨⟩ := u
        obtain ⟨hP1, hK1, hD1⟩ := hB
        rw [ht] at hP1
        have hK1 := va_K.moved hvm.symm hK1
        try dsimp only at hw
        have hPD := va_join (wr := [(qf8, .inl (cf8, 64, .inl f8))]) (w1 := [(h0, .inr (9, [.ref qf0, .ref qf1, .ref qf2, .int u4_8, .ref qf4, .ref qf5, .ref qf6, .ref qf7, .ref qf8, .int u4_9, .int x10_51, .int x11_51, .int x12_51])), (qa1, .inl (ca1, na1, .inl fa1)), (qf0, .inl (cf0, 3001, .inl g904_1)), (qf1, .inl (cf1, 3001, .inl g904_2)), (qf2, .inl (cf2, 3001, .inl g904_3)), (qf7, .inl (cf7, 64, .inl g904_7)), (qf5, .inl (cf5, 1741, .inl g904_5)), (qf4, .inl (cf4, 6400, .inl g904_4)), (qf6, .inl (cf6, 1740, .inl g904_6))]) hP hD [0, 3, 4, 5, 6, 2, 7, 8, 9] [1] rfl rfl (by decide) (by decide) hk1 hFc hP1 hD1
        clear hP hD
        obtain ⟨hP, hD⟩ := hPD
        replace hK := (hK.sub (tys' := [(cf8, .int)]) [0] rfl).app hK1
        clear hPc hDc hKc hFc hP1 hK1 hD1 hz1 hk1 ht hvm
        generalize H1 = H at hP hS ⊢
        replace hP : va_P (dC, dI) vwCl [(qf8, .inl (cf8, 64, .inl f8)), (h0, .inr (9, [.ref qf0, .ref qf1, .ref qf2, .int u4_8, .ref qf4, .ref qf5, .ref qf6, .ref qf7, .ref qf8, .int u4_9, .int x10_51, .int x11_51, .int x12_51])), (qa1, .inl (ca1, na1, .inl fa1)), (qf0, .inl (cf0, 3001, .inl g904_1)), (qf1, .inl (cf1, 3001, .inl g904_2)), (qf2, .inl (cf2, 3001, .inl g904_3)), (qf7, .inl (cf7, 64, .inl g904_7)), (qf5, .inl (cf5, 1741, .inl g904_5)), (qf4, .inl (cf4, 6400, .inl g904_4)), (qf6, .inl (cf6, 1740, .inl g904_6))] H := hP
        replace hD : va_D A [(qf8, .inl (cf8, 64, .inl f8)), (h0, .inr (9, [.ref qf0, .ref qf1, .ref qf2, .int u4_8, .ref qf4, .ref qf5, .ref qf6, .ref qf7, .ref qf8, .int u4_9, .int x10_51, .int x11_51, .int x12_51])), (qa1, .inl (ca1, na1, .inl fa1)), (qf0, .inl (cf0, 3001, .inl g904_1)), (qf1, .inl (cf1, 3001, .inl g904_2)), (qf2, .inl (cf2, 3001, .inl g904_3)), (qf7, .inl (cf7, 64, .inl g904_7)), (qf5, .inl (cf5, 1741, .inl g904_5)), (qf4, .inl (cf4, 6400, .inl g904_4)), (qf6, .inl (cf6, 1740, .inl g904_6))] := hD
        replace hK : va_K (dC, dI) vwCl [(cf8, .int), (ca1, .byte), (cf0, .int), (cf1, .int), (cf2, .int), (cf7, .int), (cf5, .int), (cf4, .byte), (cf6, .int)] s := hK
        obtain rfl := hw
        refine lv_istore (lv' := [(5, .int u4_0), (4, .int l4_51), (3, .int l3_51), (0, .ref h0), (1, .ref qa1), (2, .int l2_51)]) hx hb dX9_scan_71 hl (by decide) rfl (fun ls hl => ?_)
        refine lv_iload hx hb dX9_scan_73 (lv_at hl 0 rfl) ?_
        refine lv_if_ne (tgt := 86) hx hb dX9_scan_75 (by decide) (fun c_6 => ?_) (fun c_6 => ?_)
        · rw [if_neg c_6] at hsp
          refine lv_aload_n hx hb dX9_scan_86 rfl (lv_at hl 4 rfl) ?_
          refine lv_iload_n hx hb dX9_scan_87 rfl (lv_at hl 5 rfl) ?_
          refine lv_iload_n hx hb dX9_scan_88 rfl (lv_at hl 2 rfl) ?_
          refine lv_iload hx hb dX9_scan_89 (lv_at hl 0 rfl) ?_
          refine lv_iadd hx hb dX9_scan_91 ?_
          obtain ⟨u5_0, hu_5, hsp⟩ := ox_bind hsp
          try dsimp only at hsp
          have hPc := hP.sub (ws' := [(qa1, .inl (ca1, na1, .inl fa1))]) [2] rfl
          have hDc := hD.sub (ws' := [(qa1, .inl (ca1, na1, .inl fa1))]) [2] (by decide) rfl
          have hKc := hK.sub (tys' := [(ca1, .byte)]) [1] rfl
          have hFc := va_free (wc := [(qa1, .inl (ca1, na1, .inl fa1))]) hD hS hA [2] rfl
          refine va_calli (va_runS (As := [.ref qa1, .int l2_51, .int (l3_51 + u4_0)]) (rest := []) ⟨hx, hb, hml, hown, hts⟩ (t9_behindBlanks l dC dI H.size qa1 l2_51 ((l3_51 + u4_0)) ca1 na1 fa1 nf u5_0 hu_5) (va_cwS 3 hts gv_h7_62 rfl rfl rfl (by decide +kernel) ⟨Nat.le_of_ble_eq_true rfl, Nat.le_of_ble_eq_true rfl⟩) ⟨fun a U g mk q => by obtain ⟨q0, q1, qP, qK, qD⟩ := q; exact ⟨q0, q1, qP, va_K.moved (u := U) (U := U.calling g mk a) (Vm.Alike.refl U.vm) qK, qD⟩, fun U hU hW => ⟨rfl, by rw [hU], by rw [hU]; exact hPc, va_K.moved hW.alike hKc, hDc.weaken (fun _ _ _ _ => trivial)⟩⟩ rfl rfl hl.1 rfl (lv_room (Nat.le_of_ble_eq_true rfl)) dX9_scan_92 ⟨Nat.le_of_ble_eq_true rfl, Nat.le_of_ble_eq_true rfl⟩) hS (fun q _ h => hFc q h) hFc ?_
          clear hS
          intro r_7 u t H1 locs ht hvm hw hB hz1 hk1 hS
          obtain ⟨⟩ := u
          obtain ⟨hP1, hK1, hD1⟩ := hB
          rw [ht] at hP1
          have hK1 := va_K.moved hvm.symm hK1
          try dsimp only at hw
          have hPD := va_join (wr := [(qf8, .inl (cf8, 64, .inl f8)), (h0, .inr (9, [.ref qf0, .ref qf1, .ref qf2, .int u4_8, .ref qf4, .ref qf5, .ref qf6, .ref qf7, .ref qf8, .int u4_9, .int x10_51, .int x11_51, .int x12_51])), (qf0, .inl (cf0, 3001, .inl g904_1)), (qf1, .inl (cf1, 3001, .inl g904_2)), (qf2, .inl (cf2, 3001, .inl g904_3)), (qf7, .inl (cf7, 64, .inl g904_7)), (qf5, .inl (cf5, 1741, .inl g904_5)), (qf4, .inl (cf4, 6400, .inl g904_4)), (qf6, .inl (cf6, 1740, .inl g904_6))]) (w1 := [(qa1, .inl (ca1, na1, .inl fa1))]) hP hD [2] [0, 1, 3, 4, 5, 6, 7, 8, 9] rfl rfl (by decide) (by decide) hk1 hFc hP1 hD1
          clear hP hD
          obtain ⟨hP, hD⟩ := hPD
          replace hK := (hK.sub (tys' := [(cf8, .int), (cf0, .int), (cf1, .int), (cf2, .int), (cf7, .int), (cf5, .int), (cf4, .byte), (cf6, .int)]) [0, 2, 3, 4, 5, 6, 7, 8] rfl).app hK1
          clear hPc hDc hKc hFc hP1 hK1 hD1 hz1 hk1 ht hvm
          generalize H1 = H at hP hS ⊢
          replace hP : va_P (dC, dI) vwCl [(qf8, .inl (cf8, 64, .inl f8)), (h0, .inr (9, [.ref qf0, .ref qf1, .ref qf2, .int u4_8, .ref qf4, .ref qf5, .ref qf6, .ref qf7, .ref qf8, .int u4_9, .int x10_51, .int x11_51, .int x12_51])), (qf0, .inl (cf0, 3001, .inl g904_1)), (qf1, .inl (cf1, 3001, .inl g904_2)), (qf2, .inl (cf2, 3001, .inl g904_3)), (qf7, .inl (cf7, 64, .inl g904_7)), (qf5, .inl (cf5, 1741, .inl g904_5)), (qf4, .inl (cf4, 6400, .inl g904_4)), (qf6, .inl (cf6, 1740, .inl g904_6)), (qa1, .inl (ca1, na1, .inl fa1))] H := hP
          replace hD : va_D A [(qf8, .inl (cf8, 64, .inl f8)), (h0, .inr (9, [.ref qf0, .ref qf1, .ref qf2, .int u4_8, .ref qf4, .ref qf5, .ref qf6, .ref qf7, .ref qf8, .int u4_9, .int x10_51, .int x11_51, .int x12_51])), (qf0, .inl (cf0, 3001, .inl g904_1)), (qf1, .inl (cf1, 3001, .inl g904_2)), (qf2, .inl (cf2, 3001, .inl g904_3)), (qf7, .inl (cf7, 64, .inl g904_7)), (qf5, .inl (cf5, 1741, .inl g904_5)), (qf4, .inl (cf4, 6400, .inl g904_4)), (qf6, .inl (cf6, 1740, .inl g904_6)), (qa1, .inl (ca1, na1, .inl fa1))] := hD
          replace hK : va_K (dC, dI) vwCl [(cf8, .int), (cf0, .int), (cf1, .int), (cf2, .int), (cf7, .int), (cf5, .int), (cf4, .byte), (cf6, .int), (ca1, .byte)] s := hK
          obtain rfl := hw
          refine lv_istore_n (lv' := [(3, .int u5_0), (5, .int u4_0), (4, .int l4_51), (0, .ref h0), (1, .ref qa1), (2, .int l2_51)]) hx hb dX9_scan_95 rfl hl (by decide) rfl (fun ls hl => ?_)
          refine lv_iinc (v := (l4_51 + 1)) (lv' := [(4, .int (l4_51 + 1)), (3, .int u5_0), (5, .int u4_0), (0, .ref h0), (1, .ref qa1), (2, .int l2_51)]) hx hb dX9_scan_96 hl (k := 2) rfl rfl (by decide) rfl (fun ls hl => ?_)
          refine lv_goto (tgt := 51) hx hb dX9_scan_99 (by decide) ?_
          exact ih_51 H locs ls l2_51 u5_0 (l4_51 + 1) g904_1 g904_2 g904_3 g904_4 g904_5 g904_6 g904_7 x10_51 x11_51 x12_51 u4_8 u4_9 (lv_sub hl [0, 1, 3, 4, 5] rfl) hS (hD.sub (ws' := [(h0, .inr (9, [.ref qf0, .ref qf1, .ref qf2, .int u4_8, .ref qf4, .ref qf5, .ref qf6, .ref qf7, .ref qf8, .int u4_9, .int x10_51, .int x11_51, .int x12_51])), (qf8, .inl (cf8, 64, .inl f8)), (qf7, .inl (cf7, 64, .inl g904_7)), (qa1, .inl (ca1, na1, .inl fa1)), (qf0, .inl (cf0, 3001, .inl g904_1)), (qf1, .inl (cf1, 3001, .inl g904_2)), (qf2, .inl (cf2, 3001, .inl g904_3)), (qf5, .inl (cf5, 1741, .inl g904_5)), (qf4, .inl (cf4, 6400, .inl g904_4)), (qf6, .inl (cf6, 1740, .inl g904_6))]) [1, 0, 5, 9, 2, 3, 4, 6, 7, 8] (by decide) rfl) (hP.sub (ws' := [(h0, .inr (9, [.ref qf0, .ref qf1, .ref qf2, .int u4_8, .ref qf4, .ref qf5, .ref qf6, .ref qf7, .ref qf8, .int u4_9, .int x10_51, .int x11_51, .int x12_51])), (qf8, .inl (cf8, 64, .inl f8)), (qf7, .inl (cf7, 64, .inl g904_7)), (qa1, .inl (ca1, na1, .inl fa1)), (qf0, .inl (cf0, 3001, .inl g904_1)), (qf1, .inl (cf1, 3001, .inl g904_2)), (qf2, .inl (cf2, 3001, .inl g904_3)), (qf5, .inl (cf5, 1741, .inl g904_5)), (qf4, .inl (cf4, 6400, .inl g904_4)), (qf6, .inl (cf6, 1740, .inl g904_6))]) [1, 0, 5, 9, 2, 3, 4, 6, 7, 8] rfl) hsp
        · rw [if_pos c_6] at hsp
          refine lv_aload_n hx hb dX9_scan_78 rfl (lv_at hl 3 rfl) ?_
          refine lv_iconst (v := 1) hx hb dX9_scan_79 (by decide) ?_
          refine lv_iload_n hx hb dX9_scan_80 rfl (lv_at hl 2 rfl) ?_
          refine lv_iconst (v := 0) hx hb dX9_scan_81 (by decide) ?_
          obtain ⟨⟨g906_0, g906_1, g906_2, u6_3⟩, hu_6, hsp⟩ := ox_bind hsp
          try dsimp only at hsp
          have hPc := hP.sub (ws' := [(h0, .inr (9, [.ref qf0, .ref qf1, .ref qf2, .int u4_8, .ref qf4, .ref qf5, .ref qf6, .ref qf7, .ref qf8, .int u4_9, .int x10_51, .int x11_51, .int x12_51])), (qf0, .inl (cf0, 3001, .inl g904_1)), (qf1, .inl (cf1, 3001, .inl g904_2)), (qf2, .inl (cf2, 3001, .inl g904_3))]) [1, 3, 4, 5] rfl
          have hDc := hD.sub (ws' := [(h0, .inr (9, [.ref qf0, .ref qf1, .ref qf2, .int u4_8, .ref qf4, .ref qf5, .ref qf6, .ref qf7, .ref qf8, .int u4_9, .int x10_51, .int x11_51, .int x12_51])), (qf0, .inl (cf0, 3001, .inl g904_1)), (qf1, .inl (cf1, 3001, .inl g904_2)), (qf2, .inl (cf2, 3001, .inl g904_3))]) [1, 3, 4, 5] (by decide) rfl
          have hKc := hK.sub (tys' := [(cf0, .int), (cf1, .int), (cf2, .int)]) [2, 3, 4] rfl
          have hFc := va_free (wc := [(h0, .inr (9, [.ref qf0, .ref qf1, .ref qf2, .int u4_8, .ref qf4, .ref qf5, .ref qf6, .ref qf7, .ref qf8, .int u4_9, .int x10_51, .int x11_51, .int x12_51])), (qf0, .inl (cf0, 3001, .inl g904_1)), (qf1, .inl (cf1, 3001, .inl g904_2)), (qf2, .inl (cf2, 3001, .inl g904_3))]) hD hS hA [1, 3, 4, 5] rfl
          refine va_callv (va_runV (As := [.int 1, .int l3_51, .int 0]) (rest := []) ⟨hx, hb, hml, hown, hts⟩ (t9_addToken l dC dI H.size h0 1 l3_51 0 qf0 qf1 qf2 u4_8 qf4 qf5 qf6 qf7 qf8 u4_9 x10_51 x11_51 x12_51 cf0 g904_1 cf1 g904_2 cf2 g904_3 nf g906_0 g906_1 g906_2 u6_3 hu_6) (cwV 3 hts gv_h7_63 rfl rfl rfl (by decide +kernel) ⟨Nat.le_of_ble_eq_true rfl, Nat.le_of_ble_eq_true rfl⟩) ⟨fun a U g mk q => by obtain ⟨q0, q1, qP, qK, qD⟩ := q; exact ⟨q0, q1, qP, va_K.moved (u := U) (U := U.calling g mk a) (Vm.Alike.refl U.vm) qK, qD⟩, va_recv hKc hPc (ci := 9) (q0 := 0) rfl rfl, fun U hU hW => ⟨rfl, by rw [hU], by rw [hU]; exact hPc, va_K.moved hW.alike hKc, hDc.weaken (fun _ _ _ _ => trivial)⟩⟩ rfl rfl hl.1 rfl (lv_room (Nat.le_of_ble_eq_true rfl)) dX9_scan_82 ⟨Nat.le_of_ble_eq_true rfl, Nat.le_of_ble_eq_true rfl⟩) hS (fun q _ h => hFc q h) hFc ?_
          clear hS
          intro u t H1 locs ht hvm hw hB hz1 hk1 hS
          obtain ⟨⟩ := u
          obtain ⟨hP1, hK1, hD1⟩ := hB
          rw [ht] at hP1
          have hK1 := va_K.moved hvm.symm hK1
          try dsimp only at hw
          have hPD := va_join (wr := [(qf8, .inl (cf8, 64, .inl f8)), (qa1, .inl (ca1, na1, .inl fa1)), (qf7, .inl (cf7, 64, .inl g904_7)), (qf5, .inl (cf5, 1741, .inl g904_5)), (qf4, .inl (cf4, 6400, .inl g904_4)), (qf6, .inl (cf6, 1740, .inl g904_6))]) (w1 := [(h0, .inr (9, [.ref qf0, .ref qf1, .ref qf2, .int u6_3, .ref qf4, .ref qf5, .ref qf6, .ref qf7, .ref qf8, .int u4_9, .int x10_51, .int x11_51, .int x12_51])), (qf0, .inl (cf0, 3001, .inl g906_0)), (qf1, .inl (cf1, 3001, .inl g906_1)), (qf2, .inl (cf2, 3001, .inl g906_2))]) hP hD [1, 3, 4, 5] [0, 2, 6, 7, 8, 9] rfl rfl (by decide) (by decide) hk1 hFc hP1 hD1
          clear hP hD
          obtain ⟨hP, hD⟩ := hPD
          replace hK := (hK.sub (tys' := [(cf8, .int), (ca1, .byte), (cf7, .int), (cf5, .int), (cf4, .byte), (cf6, .int)]) [0, 1, 5, 6, 7, 8] rfl).app hK1
          clear hPc hDc hKc hFc hP1 hK1 hD1 hz1 hk1 ht hvm
          generalize H1 = H at hP hS ⊢
          replace hP : va_P (dC, dI) vwCl [(qf8, .inl (cf8, 64, .inl f8)), (qa1, .inl (ca1, na1, .inl fa1)), (qf7, .inl (cf7, 64, .inl g904_7)), (qf5, .inl (cf5, 1741, .inl g904_5)), (qf4, .inl (cf4, 6400, .inl g904_4)), (qf6, .inl (cf6, 1740, .inl g904_6)), (h0, .inr (9, [.ref qf0, .ref qf1, .ref qf2, .int u6_3, .ref qf4, .ref qf5, .ref qf6, .ref qf7, .ref qf8, .int u4_9, .int x10_51, .int x11_51, .int x12_51])), (qf0, .inl (cf0, 3001, .inl g906_0)), (qf1, .inl (cf1, 3001, .inl g906_1)), (qf2, .inl (cf2, 3001, .inl g906_2))] H := hP
          replace hD : va_D A [(qf8, .inl (cf8, 64, .inl f8)), (qa1, .inl (ca1, na1, .inl fa1)), (qf7, .inl (cf7, 64, .inl g904_7)), (qf5, .inl (cf5, 1741, .inl g904_5)), (qf4, .inl (cf4, 6400, .inl g904_4)), (qf6, .inl (cf6, 1740, .inl g904_6)), (h0, .inr (9, [.ref qf0, .ref qf1, .ref qf2, .int u6_3, .ref qf4, .ref qf5, .ref qf6, .ref qf7, .ref qf8, .int u4_9, .int x10_51, .int x11_51, .int x12_51])), (qf0, .inl (cf0, 3001, .inl g906_0)), (qf1, .inl (cf1, 3001, .inl g906_1)), (qf2, .inl (cf2, 3001, .inl g906_2))] := hD
          replace hK : va_K (dC, dI) vwCl [(cf8, .int), (ca1, .byte), (cf7, .int), (cf5, .int), (cf4, .byte), (cf6, .int), (cf0, .int), (cf1, .int), (cf2, .int)] s := hK
          have hr0 := Option.some.inj hsp
          clear hsp
          obtain ⟨hq0, hr1⟩ := Prod.mk.inj hr0
          clear hr0
          obtain ⟨hq1, hr2⟩ := Prod.mk.inj hr1
          clear hr1
          obtain ⟨hq2, hr3⟩ := Prod.mk.inj hr2
          clear hr2
          obtain ⟨hq3, hr4⟩ := Prod.mk.inj hr3
          clear hr3
          obtain ⟨hq4, hr5⟩ := Prod.mk.inj hr4
          clear hr4
          obtain ⟨hq5, hr6⟩ := Prod.mk.inj hr5
          clear hr5
          obtain ⟨hq6, hr7⟩ := Prod.mk.inj hr6
          clear hr6
          obtain ⟨hq7, hr8⟩ := Prod.mk.inj hr7
          clear hr7
          obtain ⟨hq8, hr9⟩ := Prod.mk.inj hr8
          clear hr8
          obtain ⟨hq9, hr10⟩ := Prod.mk.inj hr9
          clear hr9
          obtain ⟨hq10, hr11⟩ := Prod.mk.inj hr10
          clear hr10
          subst hq0
          subst hq1
          subst hq2
          subst hq3
          subst hq4
          subst hq5
          subst hq6
          subst hq7
          subst hq8
          subst hq9
          subst hq10
          subst hr11
          have hP9 := hP.sub (ws' := [(h0, .inr (9, [.ref qf0, .ref qf1, .ref qf2, .int u6_3, .ref qf4, .ref qf5, .ref qf6, .ref qf7, .ref qf8, .int u4_9, .int x10_51, .int x11_51, .int x12_51])), (qf8, .inl (cf8, 64, .inl f8)), (qf7, .inl (cf7, 64, .inl g904_7)), (qa1, .inl (ca1, na1, .inl fa1)), (qf0, .inl (cf0, 3001, .inl g906_0)), (qf1, .inl (cf1, 3001, .inl g906_1)), (qf2, .inl (cf2, 3001, .inl g906_2)), (qf5, .inl (cf5, 1741, .inl g904_5)), (qf4, .inl (cf4, 6400, .inl g904_4)), (qf6, .inl (cf6, 1740, .inl g904_6))]) [6, 0, 2, 1, 7, 8, 9, 3, 4, 5] rfl
          have hD9 := hD.sub (ws' := [(h0, .inr (9, [.ref qf0, .ref qf1, .ref qf2, .int u6_3, .ref qf4, .ref qf5, .ref qf6, .ref qf7, .ref qf8, .int u4_9, .int x10_51, .int x11_51, .int x12_51])), (qf8, .inl (cf8, 64, .inl f8)), (qf7, .inl (cf7, 64, .inl g904_7)), (qa1, .inl (ca1, na1, .inl fa1)), (qf0, .inl (cf0, 3001, .inl g906_0)), (qf1, .inl (cf1, 3001, .inl g906_1)), (qf2, .inl (cf2, 3001, .inl g906_2)), (qf5, .inl (cf5, 1741, .inl g904_5)), (qf4, .inl (cf4, 6400, .inl g904_4)), (qf6, .inl (cf6, 1740, .inl g904_6))]) [6, 0, 2, 1, 7, 8, 9, 3, 4, 5] (by decide) rfl
          have hK9 := hK.sub (tys' := [(cf8, .int), (cf7, .int), (ca1, .byte), (cf0, .int), (cf1, .int), (cf2, .int), (cf5, .int), (cf4, .byte), (cf6, .int)]) [0, 2, 1, 6, 7, 8, 3, 4, 5] rfl
          exact W.vret hx hb hr (fun t ht hW => ⟨⟨(), rfl, trivial, by rw [ht]; exact hP9, va_K.moved hW.alike hK9, hD9⟩, hS.F ht⟩) hS.2.2 dX9_scan_85
def jn_v3_read_109 (nf : Nat) (a2 : Int32) (na1 : Nat) (fa1 : Nat → Int32) (f4 : Nat → Int32) (f5 : Nat → Int32) (f6 : Nat → Int32) (f11 : Nat → Int32) (f13 : Nat → Int32)  (g11_109 : Nat → Int32) (g13_109 : Nat → Int32) (g4_109 : Nat → Int32) (g5_109 : Nat → Int32) (g6_109 : Nat → Int32) (x1_109 : Int32) (x10_109 : Int32) (x12_109 : Int32) (x2_109 : Int32) (x3_109 : Int32) (x7_109 : Int32) (x8_109 : Int32) (x9_109 : Int32) : Option (Int32 × (Nat → Int32) × (Nat → Int32) × (Nat → Int32) × (Nat → Int32) × (Nat → Int32) × Int32 × Int32 × Int32 × Int32 × Int32 × Int32 × Int32 × Int32) := (if x1_109 ≤ x2_109 then (some (x3_109, g11_109, g13_109, g4_109, g5_109, g6_109, x1_109, x10_109, x12_109, x2_109, x3_109, x7_109, x8_109, x9_109)) else ((sp_ti_bad nf x2_109 x3_109).bind (fun p1 => (some (p1, g11_109, g13_109, g4_109, g5_109, g6_109, x1_109, x10_109, x12_109, x2_109, p1, x7_109, x8_109, x9_109)))))
def lp_v3_read_70 (nf n : Nat) (a2 : Int32) (na1 : Nat) (fa1 : Nat → Int32) (f4 : Nat → Int32) (f5 : Nat → Int32) (f6 : Nat → Int32) (f11 : Nat → Int32) (f13 : Nat → Int32)  (l3_70 : Int32) (l4_70 : Int32) (g11_70 : Nat → Int32) (g13_70 : Nat → Int32) (g4_70 : Nat → Int32) (g5_70 : Nat → Int32) (g6_70 : Nat → Int32) (x1_70 : Int32) (x10_70 : Int32) (x12_70 : Int32) (x2_70 : Int32) (x3_70 : Int32) (x7_70 : Int32) (x8_70 : Int32) (x9_70 : Int32) : Option (Int32 × (Nat → Int32) × (Nat → Int32) × (Nat → Int32) × (Nat → Int32) × (Nat → Int32) × Int32 × Int32 × Int32 × Int32 × Int32 × Int32 × Int32 × Int32) := match n with
  | 0 => none
  | n + 1 => (if l3_70 ≤ l4_70 then (jn_v3_read_109 nf a2 na1 fa1 f4 f5 f6 f11 f13  g11_70 g13_70 g4_70 g5_70 g6_70 x1_70 x10_70 x12_70 x2_70 x3_70 x7_70 x8_70 x9_70) else (if x3_70 = (-1) then ((sp_v3_readMethod nf (l4_70 * 12) x1_70 x2_70 x3_70 x7_70 na1 fa1 g13_70 g4_70 g5_70 g6_70).bind (fun p1 => (lp_v3_read_70 nf n a2 na1 fa1 f4 f5 f6 f11 f13 l3_70 (l4_70 + 1) g11_70 p1.1 g4_70 g5_70 g6_70 x1_70 x10_70 (x12_70 + 1) p1.2.1 p1.2.2 x7_70 x8_70 x9_70))) else (jn_v3_read_109 nf a2 na1 fa1 f4 f5 f6 f11 f13  g11_70 g13_70 g4_70 g5_70 g6_70 x1_70 x10_70 x12_70 x2_70 x3_70 x7_70 x8_70 x9_70)))
def sp_v3_read (nf : Nat) (a2 : Int32) (na1 : Nat) (fa1 : Nat → Int32) (f4 : Nat → Int32) (f5 : Nat → Int32) (f6 : Nat → Int32) (f11 : Nat → Int32) (f13 : Nat → Int32) : Option (Int32 × (Nat → Int32) × (Nat → Int32) × (Nat → Int32) × (Nat → Int32) × (Nat → Int32) × Int32 × Int32 × Int32 × Int32 × Int32 × Int32 × Int32 × Int32) := ((sp_v3_readConstants nf (if (nI na1) < a2 then (nI na1) else a2) 0 (-1) na1 fa1 f4 f5 f6).bind (fun p1 => ((sp_t3_nextPlainClass nf (if (nI na1) < a2 then (nI na1) else a2) p1.2.2.2.1 p1.2.2.2.2.1 p1.2.2.2.2.2 na1 fa1 p1.2.1 p1.1).bind (fun p2 => ((sp_t3_nextPlainClass nf (if (nI na1) < a2 then (nI na1) else a2) p2.2.1 p2.2.2 p1.2.2.2.2.2 na1 fa1 p1.2.1 p1.1).bind (fun p3 => ((sp_v3_readFields nf (if (nI na1) < a2 then (nI na1) else a2) p3.2.1 p3.2.2 p1.2.2.2.2.2 0 na1 fa1 p1.1 p1.2.1 p1.2.2.1 f11).bind (fun p4 => ((sp_ti_nextUpTo nf 0 12 (if (nI na1) < a2 then (nI na1) else a2) p4.2.2.1 p4.2.2.2 na1 fa1).bind (fun p5 => (lp_v3_read_70 nf nf a2 na1 fa1 f4 f5 f6 f11 f13  p5.1 0 p4.1 f13 p1.1 p1.2.1 p1.2.2.1 (if (nI na1) < a2 then (nI na1) else a2) p4.2.1 0 p5.2.1 p5.2.2 p1.2.2.2.2.2 p2.1 p3.1)))))))))))

set_option maxHeartbeats 4000000 in
set_option maxRecDepth 100000 in
/-- ClassMill$Image.read -/
theorem v3_read (l : Launch) (dC : Nat → ClassId) (dI : Nat → Nat → Nat) (sz : Nat) (h0 : Nat) (qa1 : Nat) (a2 : Int32) (qf0 : Nat) (v1 : Int32) (v2 : Int32) (v3 : Int32) (qf4 : Nat) (qf5 : Nat) (qf6 : Nat) (v7 : Int32) (v8 : Int32) (v9 : Int32) (v10 : Int32) (qf11 : Nat) (v12 : Int32) (qf13 : Nat) (ca1 : ClassId) (na1 : Nat) (fa1 : (Nat → Int32)) (cf4 : ClassId) (f4 : (Nat → Int32)) (cf5 : ClassId) (f5 : (Nat → Int32)) (cf6 : ClassId) (f6 : (Nat → Int32)) (cf11 : ClassId) (f11 : (Nat → Int32)) (cf13 : ClassId) (f13 : (Nat → Int32)) (nf : Nat) (r0 : Int32) (o11 : (Nat → Int32)) (o13 : (Nat → Int32)) (o4 : (Nat → Int32)) (o5 : (Nat → Int32)) (o6 : (Nat → Int32)) (w1 : Int32) (w10 : Int32) (w12 : Int32) (w2 : Int32) (w3 : Int32) (w7 : Int32) (w8 : Int32) (w9 : Int32) (hsp : sp_v3_read nf a2 na1 fa1 f4 f5 f6 f11 f13 = some (r0, o11, o13, o4, o5, o6, w1, w10, w12, w2, w3, w7, w8, w9)) : Met l yX3_read (.code yX3_read cX3_read 5 (some .int) :: VS_h7) ({ frames := 5, cells := 0, slots := 0, locals := 120 }) (va_Pc [.ref h0, .ref qa1, .int a2] (fun U => U.heap.size = sz ∧ va_P (dC, dI) vwCl [(h0, .inr (3, [.ref qf0, .int v1, .int v2, .int v3, .ref qf4, .ref qf5, .ref qf6, .int v7, .int v8, .int v9, .int v10, .ref qf11, .int v12, .ref qf13])), (qa1, .inl (ca1, na1, .inl fa1)), (qf4, .inl (cf4, 256, .inl f4)), (qf5, .inl (cf5, 256, .inl f5)), (qf6, .inl (cf6, 256, .inl f6)), (qf11, .inl (cf11, 24, .inl f11)), (qf13, .inl (cf13, 144, .inl f13))] U.heap ∧ va_K (dC, dI) vwCl [(ca1, .byte), (cf4, .int), (cf5, .int), (cf6, .int), (cf11, .int), (cf13, .int)] U ∧ va_D (fun _ => True) [(h0, .inr (3, [.ref qf0, .int v1, .int v2, .int v3, .ref qf4, .ref qf5, .ref qf6, .int v7, .int v8, .int v9, .int v10, .ref qf11, .int v12, .ref qf13])), (qa1, .inl (ca1, na1, .inl fa1)), (qf4, .inl (cf4, 256, .inl f4)), (qf5, .inl (cf5, 256, .inl f5)), (qf6, .inl (cf6, 256, .inl f6)), (qf11, .inl (cf11, 24, .inl f11)), (qf13, .inl (cf13, 144, .inl f13))])) (va_Qi (fun (r : Int32) (u : Unit) => match u with | () => r0 = r) (fun (u : Unit) (t : State) => match u with | () => va_P (dC, dI) vwCl [(h0, .inr (3, [.ref qa1, .int w1, .int w2, .int w3, .ref qf4, .ref qf5, .ref qf6, .int w7, .int w8, .int w9, .int w10, .ref qf11, .int w12, .ref qf13])), (qa1, .inl (ca1, na1, .inl fa1)), (qf4, .inl (cf4, 256, .inl o4)), (qf5, .inl (cf5, 256, .inl o5)), (qf6, .inl (cf6, 256, .inl o6)), (qf11, .inl (cf11, 24, .inl o11)), (qf13, .inl (cf13, 144, .inl o13))] t.heap ∧ va_K (dC, dI) vwCl [(ca1, .byte), (cf4, .int), (cf5, .int), (cf6, .int), (cf11, .int), (cf13, .int)] t ∧ va_D (va_A [(h0, .inr (3, [.ref qf0, .int v1, .int v2, .int v3, .ref qf4, .ref qf5, .ref qf6, .int v7, .int v8, .int v9, .int v10, .ref qf11, .int v12, .ref qf13])), (qa1, .inl (ca1, na1, .inl fa1)), (qf4, .inl (cf4, 256, .inl f4)), (qf5, .inl (cf5, 256, .inl f5)), (qf6, .inl (cf6, 256, .inl f6)), (qf11, .inl (cf11, 24, .inl f11)), (qf13, .inl (cf13, 144, .inl f13))] sz) [(h0, .inr (3, [.ref qa1, .int w1, .int w2, .int w3, .ref qf4, .ref qf5, .ref qf6, .int w7, .int w8, .int w9, .int w10, .ref qf11, .int w12, .ref qf13])), (qa1, .inl (ca1, na1, .inl fa1)), (qf4, .inl (cf4, 256, .inl o4)), (qf5, .inl (cf5, 256, .inl o5)), (qf6, .inl (cf6, 256, .inl o6)), (qf11, .inl (cf11, 24, .inl o11)), (qf13, .inl (cf13, 144, .inl o13))]) (va_A [(h0, .inr (3, [.ref qf0, .int v1, .int v2, .int v3, .ref qf4, .ref qf5, .ref qf6, .int v7, .int v8, .int v9, .int v10, .ref qf11, .int v12, .ref qf13])), (qa1, .inl (ca1, na1, .inl fa1)), (qf4, .inl (cf4, 256, .inl f4)), (qf5, .inl (cf5, 256, .inl f5)), (qf6, .inl (cf6, 256, .inl f6)), (qf11, .inl (cf11, 24, .inl f11)), (qf13, .inl (cf13, 144, .inl f13))] sz)) 0 0 (va_A [(h0, .inr (3, [.ref qf0, .int v1, .int v2, .int v3, .ref qf4, .ref qf5, .ref qf6, .int v7, .int v8, .int v9, .int v10, .ref qf11, .int v12, .ref qf13])), (qa1, .inl (ca1, na1, .inl fa1)), (qf4, .inl (cf4, 256, .inl f4)), (qf5, .inl (cf5, 256, .inl f5)), (qf6, .inl (cf6, 256, .inl f6)), (qf11, .inl (cf11, 24, .inl f11)), (qf13, .inl (cf13, 144, .inl f13))] sz) := by
  refine Met.ofW (cc := cX3_read) (maxL := 5) (ret := (some .int)) (by decide) rfl ?_
  intro p e s m args below meth c s₁ B hml hv
  obtain ⟨rfl, hsz, hP, hK, hD0⟩ := hv
  have hx := B.exec
  have hb := B.bytes
  have hr := B.returns
  have hts := atoms_spec (ws := (.code yX3_read cX3_read 5 (some .int) :: VS_h7)) B.pre
  replace hts := fun w (h : w ∈ VS_h7) => hts w (List.mem_cons_of_mem _ h)
  have hown : s.vm.findClass RX3 = some m.cls := findClass_of_methodNamed B.named
  have hlocks := B.notSynchronized
  subst hsz
  have hD := hD0.self (sz := s.heap.size)
  generalize hAe : va_A [(h0, .inr (3, [.ref qf0, .int v1, .int v2, .int v3, .ref qf4, .ref qf5, .ref qf6, .int v7, .int v8, .int v9, .int v10, .ref qf11, .int v12, .ref qf13])), (qa1, .inl (ca1, na1, .inl fa1)), (qf4, .inl (cf4, 256, .inl f4)), (qf5, .inl (cf5, 256, .inl f5)), (qf6, .inl (cf6, 256, .inl f6)), (qf11, .inl (cf11, 24, .inl f11)), (qf13, .inl (cf13, 144, .inl f13))] s.heap.size = A at hD  ⊢
  have hA : ∀ q : Nat, s.heap.size ≤ q → A q := fun q h => by rw [← hAe]; exact Or.inr h
  have hP : va_P (dC, dI) vwCl [(h0, .inr (3, [.ref qf0, .int v1, .int v2, .int v3, .ref qf4, .ref qf5, .ref qf6, .int v7, .int v8, .int v9, .int v10, .ref qf11, .int v12, .ref qf13])), (qa1, .inl (ca1, na1, .inl fa1)), (qf4, .inl (cf4, 256, .inl f4)), (qf5, .inl (cf5, 256, .inl f5)), (qf6, .inl (cf6, 256, .inl f6)), (qf11, .inl (cf11, 24, .inl f11)), (qf13, .inl (cf13, 144, .inl f13))] s.heap := hP
  have hl := lv_entry ([.ref h0, .ref qa1, .int a2]) (n := 5) (Nat.le_of_ble_eq_true rfl)
  rw [lg_entry_eq]
  generalize (lg_sl ([.ref h0, .ref qa1, .int a2]) ++ List.replicate (5 - (lg_sl ([.ref h0, .ref qa1, .int a2])).length) Slot.unset).toArray = ls at hl ⊢
  have hl : lv_has ls 5 [(0, .ref h0), (1, .ref qa1), (2, .int a2)] := hl
  obtain ⟨H, hH⟩ : ∃ H : Heap, s.heap = H := ⟨_, rfl⟩
  rw [hH] at hP ⊢
  have hS : va_S A s.heap H [] := by rw [← hH]; exact va_S.rf
  obtain ⟨locs, hlo⟩ : ∃ locs : List Loc, locs = [] := ⟨_, rfl⟩
  rw [← hlo] at hS ⊢
  unfold sp_v3_read at hsp
  refine jn_use (α := Heap × List Loc × Array Slot × (Nat → Int32) × (Nat → Int32) × (Nat → Int32) × (Nat → Int32) × (Nat → Int32) × Int32 × Int32 × Int32 × Int32 × Int32 × Int32 × Int32 × Int32) (fun x9 => x9.1) (fun x9 => x9.2.1) (fun x9 => F0 m 109 x9.2.2.1 []) (fun x9 => match x9 with | (H, locs, ls, g11_109, g13_109, g4_109, g5_109, g6_109, x1_109, x10_109, x12_109, x2_109, x3_109, x7_109, x8_109, x9_109) => lv_has ls 5 [(0, .ref h0)] ∧ va_S A s.heap H locs ∧ va_D A [(h0, .inr (3, [.ref qa1, .int x1_109, .int x2_109, .int x3_109, .ref qf4, .ref qf5, .ref qf6, .int x7_109, .int x8_109, .int x9_109, .int x10_109, .ref qf11, .int x12_109, .ref qf13])), (qa1, .inl (ca1, na1, .inl fa1)), (qf4, .inl (cf4, 256, .inl g4_109)), (qf5, .inl (cf5, 256, .inl g5_109)), (qf6, .inl (cf6, 256, .inl g6_109)), (qf11, .inl (cf11, 24, .inl g11_109)), (qf13, .inl (cf13, 144, .inl g13_109))] ∧ va_P (dC, dI) vwCl [(h0, .inr (3, [.ref qa1, .int x1_109, .int x2_109, .int x3_109, .ref qf4, .ref qf5, .ref qf6, .int x7_109, .int x8_109, .int x9_109, .int x10_109, .ref qf11, .int x12_109, .ref qf13])), (qa1, .inl (ca1, na1, .inl fa1)), (qf4, .inl (cf4, 256, .inl g4_109)), (qf5, .inl (cf5, 256, .inl g5_109)), (qf6, .inl (cf6, 256, .inl g6_109)), (qf11, .inl (cf11, 24, .inl g11_109)), (qf13, .inl (cf13, 144, .inl g13_109))] H ∧ jn_v3_read_109 nf a2 na1 fa1 f4 f5 f6 f11 f13 g11_109 g13_109 g4_109 g5_109 g6_109 x1_109 x10_109 x12_109 x2_109 x3_109 x7_109 x8_109 x9_109 = some (r0, o11, o13, o4, o5, o6, w1, w10, w12, w2, w3, w7, w8, w9)) ?_ ?_
  · intro x9 hJ9
    obtain ⟨H, locs, ls, g11_109, g13_109, g4_109, g5_109, g6_109, x1_109, x10_109, x12_109, x2_109, x3_109, x7_109, x8_109, x9_109⟩ := x9
    obtain ⟨hl, hS, hD, hP, hsp⟩ := hJ9
    replace hl : lv_has ls 5 [(0, .ref h0)] := hl
    replace hS : va_S A s.heap H locs := hS
    replace hD : va_D A [(h0, .inr (3, [.ref qa1, .int x1_109, .int x2_109, .int x3_109, .ref qf4, .ref qf5, .ref qf6, .int x7_109, .int x8_109, .int x9_109, .int x10_109, .ref qf11, .int x12_109, .ref qf13])), (qa1, .inl (ca1, na1, .inl fa1)), (qf4, .inl (cf4, 256, .inl g4_109)), (qf5, .inl (cf5, 256, .inl g5_109)), (qf6, .inl (cf6, 256, .inl g6_109)), (qf11, .inl (cf11, 24, .inl g11_109)), (qf13, .inl (cf13, 144, .inl g13_109))] := hD
    replace hP : va_P (dC, dI) vwCl [(h0, .inr (3, [.ref qa1, .int x1_109, .int x2_109, .int x3_109, .ref qf4, .ref qf5, .ref qf6, .int x7_109, .int x8_109, .int x9_109, .int x10_109, .ref qf11, .int x12_109, .ref qf13])), (qa1, .inl (ca1, na1, .inl fa1)), (qf4, .inl (cf4, 256, .inl g4_109)), (qf5, .inl (cf5, 256, .inl g5_109)), (qf6, .inl (cf6, 256, .inl g6_109)), (qf11, .inl (cf11, 24, .inl g11_109)), (qf13, .inl (cf13, 144, .inl g13_109))] H := hP
    replace hsp : jn_v3_read_109 nf a2 na1 fa1 f4 f5 f6 f11 f13 g11_109 g13_109 g4_109 g5_109 g6_109 x1_109 x10_109 x12_109 x2_109 x3_109 x7_109 x8_109 x9_109 = some (r0, o11, o13, o4, o5, o6, w1, w10, w12, w2, w3, w7, w8, w9) := hsp
    show W _ _ _ _ _ _ _ _ _ _ H locs _ _ _ (F0 m 109 ls [])
    unfold jn_v3_read_109 at hsp
    try dsimp only at hsp
    refine lv_aload_n hx hb dX3_read_109 rfl (lv_at hl 0 rfl) ?_
    refine va_get (D := (dC, dI)) (ci := 3) (v := .int x2_109) (C := RX3) (T := TX3) (N := 14) hx hb hts uV_h7_X3 hown hK hP 0 rfl rfl 2 (by decide) (hts (.fieldLink RX3 43 "ClassMill$Image" "pos" "I") mw_h7_160) (fun _ h9 => h9) rfl dX3_read_110 ?_
    refine lv_aload_n hx hb dX3_read_113 rfl (lv_at hl 0 rfl) ?_
    refine va_get (D := (dC, dI)) (ci := 3) (v := .int x1_109) (C := RX3) (T := TX3) (N := 14) hx hb hts uV_h7_X3 hown hK hP 0 rfl rfl 1 (by decide) (hts (.fieldLink RX3 39 "ClassMill$Image" "size" "I") mw_h7_173) (fun _ h9 => h9) rfl dX3_read_114 ?_
    refine lv_icmp_ge (tgt := 128) hx hb dX3_read_117 (by decide) (fun c_6 => ?_) (fun c_6 => ?_)
    · rw [if_pos c_6] at hsp
      refine lv_aload_n hx hb dX3_read_128 rfl (lv_at hl 0 rfl) ?_
      refine va_get (D := (dC, dI)) (ci := 3) (v := .int x3_109) (C := RX3) (T := TX3) (N := 14) hx hb hts uV_h7_X3 hown hK hP 0 rfl rfl 3 (by decide) (hts (.fieldLink RX3 46 "ClassMill$Image" "form" "I") mw_h7_157) (fun _ h9 => h9) rfl dX3_read_129 ?_
      have hr0 := Option.some.inj hsp
      clear hsp
      obtain ⟨hq0, hr1⟩ := Prod.mk.inj hr0
      clear hr0
      obtain ⟨hq1, hr2⟩ := Prod.mk.inj hr1
      clear hr1
      obtain ⟨hq2, hr3⟩ := Prod.mk.inj hr2
      clear hr2
      obtain ⟨hq3, hr4⟩ := Prod.mk.inj hr3
      clear hr3
      obtain ⟨hq4, hr5⟩ := Prod.mk.inj hr4
      clear hr4
      obtain ⟨hq5, hr6⟩ := Prod.mk.inj hr5
      clear hr5
      obtain ⟨hq6, hr7⟩ := Prod.mk.inj hr6
      clear hr6
      obtain ⟨hq7, hr8⟩ := Prod.mk.inj hr7
      clear hr7
      obtain ⟨hq8, hr9⟩ := Prod.mk.inj hr8
      clear hr8
      obtain ⟨hq9, hr10⟩ := Prod.mk.inj hr9
      clear hr9
      obtain ⟨hq10, hr11⟩ := Prod.mk.inj hr10
      clear hr10
      obtain ⟨hq11, hr12⟩ := Prod.mk.inj hr11
      clear hr11
      obtain ⟨hq12, hr13⟩ := Prod.mk.inj hr12
      clear hr12
      subst hq0
      subst hq1
      subst hq2
      subst hq3
      subst hq4
      subst hq5
      subst hq6
      subst hq7
      subst hq8
      subst hq9
      subst hq10
      subst hq11
      subst hq12
      subst hr13
      have hP9 := hP.sub (ws' := [(h0, .inr (3, [.ref qa1, .int x1_109, .int x2_109, .int x3_109, .ref qf4, .ref qf5, .ref qf6, .int x7_109, .int x8_109, .int x9_109, .int x10_109, .ref qf11, .int x12_109, .ref qf13])), (qa1, .inl (ca1, na1, .inl fa1)), (qf4, .inl (cf4, 256, .inl g4_109)), (qf5, .inl (cf5, 256, .inl g5_109)), (qf6, .inl (cf6, 256, .inl g6_109)), (qf11, .inl (cf11, 24, .inl g11_109)), (qf13, .inl (cf13, 144, .inl g13_109))]) [0, 1, 2, 3, 4, 5, 6] rfl
      have hD9 := hD.sub (ws' := [(h0, .inr (3, [.ref qa1, .int x1_109, .int x2_109, .int x3_109, .ref qf4, .ref qf5, .ref qf6, .int x7_109, .int x8_109, .int x9_109, .int x10_109, .ref qf11, .int x12_109, .ref qf13])), (qa1, .inl (ca1, na1, .inl fa1)), (qf4, .inl (cf4, 256, .inl g4_109)), (qf5, .inl (cf5, 256, .inl g5_109)), (qf6, .inl (cf6, 256, .inl g6_109)), (qf11, .inl (cf11, 24, .inl g11_109)), (qf13, .inl (cf13, 144, .inl g13_109))]) [0, 1, 2, 3, 4, 5, 6] (by decide) rfl
      have hK9 := hK.sub (tys' := [(ca1, .byte), (cf4, .int), (cf5, .int), (cf6, .int), (cf11, .int), (cf13, .int)]) [0, 1, 2, 3, 4, 5] rfl
      exact W.iret hx hb hr (fun t ht hW => ⟨⟨(x3_109), (), rfl, rfl, by rw [ht]; exact hP9, va_K.moved hW.alike hK9, hD9⟩, hS.F ht⟩) hS.2.2 dX3_read_132
    · rw [if_neg c_6] at hsp
      refine lv_aload_n hx hb dX3_read_120 rfl (lv_at hl 0 rfl) ?_
      refine lv_aload_n hx hb dX3_read_121 rfl (lv_at hl 0 rfl) ?_
      refine va_get (D := (dC, dI)) (ci := 3) (v := .int x2_109) (C := RX3) (T := TX3) (N := 14) hx hb hts uV_h7_X3 hown hK hP 0 rfl rfl 2 (by decide) (hts (.fieldLink RX3 43 "ClassMill$Image" "pos" "I") mw_h7_160) (fun _ h9 => h9) rfl dX3_read_122 ?_
      obtain ⟨u7_0, hu_7, hsp⟩ := ox_bind hsp
      try dsimp only at hsp
      have hPc := hP.sub (ws' := [(h0, .inr (3, [.ref qa1, .int x1_109, .int x2_109, .int x3_109, .ref qf4, .ref qf5, .ref qf6, .int x7_109, .int x8_109, .int x9_109, .int x10_109, .ref qf11, .int x12_109, .ref qf13]))]) [0] rfl
      have hDc := hD.sub (ws' := [(h0, .inr (3, [.ref qa1, .int x1_109, .int x2_109, .int x3_109, .ref qf4, .ref qf5, .ref qf6, .int x7_109, .int x8_109, .int x9_109, .int x10_109, .ref qf11, .int x12_109, .ref qf13]))]) [0] (by decide) rfl
      have hKc := hK.sub (tys' := []) [] rfl
      have hFc := va_free (wc := [(h0, .inr (3, [.ref qa1, .int x1_109, .int x2_109, .int x3_109, .ref qf4, .ref qf5, .ref qf6, .int x7_109, .int x8_109, .int x9_109, .int x10_109, .ref qf11, .int x12_109, .ref qf13]))]) hD hS hA [0] rfl
      refine va_callv (va_runV (As := [.int x2_109]) (rest := []) ⟨hx, hb, hml, hown, hts⟩ (ti_bad l dC dI H.size h0 x2_109 qa1 x1_109 x2_109 x3_109 qf4 qf5 qf6 x7_109 x8_109 x9_109 x10_109 qf11 x12_109 qf13 nf u7_0 hu_7) (cwV 1 hts gv_h7_39 rfl rfl rfl (by decide +kernel) ⟨Nat.le_of_ble_eq_true rfl, Nat.le_of_ble_eq_true rfl⟩) ⟨fun a U g mk q => by obtain ⟨q0, q1, qP, qK, qD⟩ := q; exact ⟨q0, q1, qP, va_K.moved (u := U) (U := U.calling g mk a) (Vm.Alike.refl U.vm) qK, qD⟩, va_recv hKc hPc (ci := 3) (q0 := 0) rfl rfl, fun U hU hW => ⟨rfl, by rw [hU], by rw [hU]; exact hPc, va_K.moved hW.alike hKc, hDc.weaken (fun _ _ _ _ => trivial)⟩⟩ rfl rfl hl.1 rfl (lv_room (Nat.le_of_ble_eq_true rfl)) dX3_read_125 ⟨Nat.le_of_ble_eq_true rfl, Nat.le_of_ble_eq_true rfl⟩) hS (fun q _ h => hFc q h) hFc ?_
      clear hS
      intro u t H1 locs ht hvm hw hB hz1 hk1 hS
      obtain ⟨⟩ := u
      obtain ⟨hP1, hK1, hD1⟩ := hB
      rw [ht] at hP1
      have hK1 := va_K.moved hvm.symm hK1
      try dsimp only at hw
      have hPD := va_join (wr := [(qa1, .inl (ca1, na1, .inl fa1)), (qf4, .inl (cf4, 256, .inl g4_109)), (qf5, .inl (cf5, 256, .inl g5_109)), (qf6, .inl (cf6, 256, .inl g6_109)), (qf11, .inl (cf11, 24, .inl g11_109)), (qf13, .inl (cf13, 144, .inl g13_109))]) (w1 := [(h0, .inr (3, [.ref qa1, .int x1_109, .int x2_109, .int u7_0, .ref qf4, .ref qf5, .ref qf6, .int x7_109, .int x8_109, .int x9_109, .int x10_109, .ref qf11, .int x12_109, .ref qf13]))]) hP hD [0] [1, 2, 3, 4, 5, 6] rfl rfl (by decide) (by decide) hk1 hFc hP1 hD1
      clear hP hD
      obtain ⟨hP, hD⟩ := hPD
      replace hK := (hK.sub (tys' := [(ca1, .byte), (cf4, .int), (cf5, .int), (cf6, .int), (cf11, .int), (cf13, .int)]) [0, 1, 2, 3, 4, 5] rfl).app hK1
      clear hPc hDc hKc hFc hP1 hK1 hD1 hz1 hk1 ht hvm
      generalize H1 = H at hP hS ⊢
      replace hP : va_P (dC, dI) vwCl [(qa1, .inl (ca1, na1, .inl fa1)), (qf4, .inl (cf4, 256, .inl g4_109)), (qf5, .inl (cf5, 256, .inl g5_109)), (qf6, .inl (cf6, 256, .inl g6_109)), (qf11, .inl (cf11, 24, .inl g11_109)), (qf13, .inl (cf13, 144, .inl g13_109)), (h0, .inr (3, [.ref qa1, .int x1_109, .int x2_109, .int u7_0, .ref qf4, .ref qf5, .ref qf6, .int x7_109, .int x8_109, .int x9_109, .int x10_109, .ref qf11, .int x12_109, .ref qf13]))] H := hP
      replace hD : va_D A [(qa1, .inl (ca1, na1, .inl fa1)), (qf4, .inl (cf4, 256, .inl g4_109)), (qf5, .inl (cf5, 256, .inl g5_109)), (qf6, .inl (cf6, 256, .inl g6_109)), (qf11, .inl (cf11, 24, .inl g11_109)), (qf13, .inl (cf13, 144, .inl g13_109)), (h0, .inr (3, [.ref qa1, .int x1_109, .int x2_109, .int u7_0, .ref qf4, .ref qf5, .ref qf6, .int x7_109, .int x8_109, .int x9_109, .int x10_109, .ref qf11, .int x12_109, .ref qf13]))] := hD
      replace hK : va_K (dC, dI) vwCl [(ca1, .byte), (cf4, .int), (cf5, .int), (cf6, .int), (cf11, .int), (cf13, .int)] s := hK
      refine lv_aload_n hx hb dX3_read_128 rfl (lv_at hl 0 rfl) ?_
      refine va_get (D := (dC, dI)) (ci := 3) (v := .int u7_0) (C := RX3) (T := TX3) (N := 14) hx hb hts uV_h7_X3 hown hK hP 6 rfl rfl 3 (by decide) (hts (.fieldLink RX3 46 "ClassMill$Image" "form" "I") mw_h7_157) (fun _ h9 => h9) rfl dX3_read_129 ?_
      have hr0 := Option.some.inj hsp
      clear hsp
      obtain ⟨hq0, hr1⟩ := Prod.mk.inj hr0
      clear hr0
      obtain ⟨hq1, hr2⟩ := Prod.mk.inj hr1
      clear hr1
      obtain ⟨hq2, hr3⟩ := Prod.mk.inj hr2
      clear hr2
      obtain ⟨hq3, hr4⟩ := Prod.mk.inj hr3
      clear hr3
      obtain ⟨hq4, hr5⟩ := Prod.mk.inj hr4
      clear hr4
      obtain ⟨hq5, hr6⟩ := Prod.mk.inj hr5
      clear hr5
      obtain ⟨hq6, hr7⟩ := Prod.mk.inj hr6
      clear hr6
      obtain ⟨hq7, hr8⟩ := Prod.mk.inj hr7
      clear hr7
      obtain ⟨hq8, hr9⟩ := Prod.mk.inj hr8
      clear hr8
      obtain ⟨hq9, hr10⟩ := Prod.mk.inj hr9
      clear hr9
      obtain ⟨hq10, hr11⟩ := Prod.mk.inj hr10
      clear hr10
      obtain ⟨hq11, hr12⟩ := Prod.mk.inj hr11
      clear hr11
      obtain ⟨hq12, hr13⟩ := Prod.mk.inj hr12
      clear hr12
      subst hq0
      subst hq1
      subst hq2
      subst hq3
      subst hq4
      subst hq5
      subst hq6
      subst hq7
      subst hq8
      subst hq9
      subst hq10
      subst hq11
      subst hq12
      subst hr13
      have hP9 := hP.sub (ws' := [(h0, .inr (3, [.ref qa1, .int x1_109, .int x2_109, .int u7_0, .ref qf4, .ref qf5, .ref qf6, .int x7_109, .int x8_109, .int x9_109, .int x10_109, .ref qf11, .int x12_109, .ref qf13])), (qa1, .inl (ca1, na1, .inl fa1)), (qf4, .inl (cf4, 256, .inl g4_109)), (qf5, .inl (cf5, 256, .inl g5_109)), (qf6, .inl (cf6, 256, .inl g6_109)), (qf11, .inl (cf11, 24, .inl g11_109)), (qf13, .inl (cf13, 144, .inl g13_109))]) [6, 0, 1, 2, 3, 4, 5] rfl
      have hD9 := hD.sub (ws' := [(h0, .inr (3, [.ref qa1, .int x1_109, .int x2_109, .int u7_0, .ref qf4, .ref qf5, .ref qf6, .int x7_109, .int x8_109, .int x9_109, .int x10_109, .ref qf11, .int x12_109, .ref qf13])), (qa1, .inl (ca1, na1, .inl fa1)), (qf4, .inl (cf4, 256, .inl g4_109)), (qf5, .inl (cf5, 256, .inl g5_109)), (qf6, .inl (cf6, 256, .inl g6_109)), (qf11, .inl (cf11, 24, .inl g11_109)), (qf13, .inl (cf13, 144, .inl g13_109))]) [6, 0, 1, 2, 3, 4, 5] (by decide) rfl
      have hK9 := hK.sub (tys' := [(ca1, .byte), (cf4, .int), (cf5, .int), (cf6, .int), (cf11, .int), (cf13, .int)]) [0, 1, 2, 3, 4, 5] rfl
      exact W.iret hx hb hr (fun t ht hW => ⟨⟨(u7_0), (), rfl, rfl, by rw [ht]; exact hP9, va_K.moved hW.alike hK9, hD9⟩, hS.F ht⟩) hS.2.2 dX3_read_132
  intro hj_109
  refine lv_aload_n hx hb dX3_read_0 rfl (lv_at hl 0 rfl) ?_
  refine lv_aload_n hx hb dX3_read_1 rfl (lv_at hl 1 rfl) ?_
  refine va_put (D := (dC, dI)) (ci := 3) (v := .ref qa1) (ty := .array .byte) (C := RX3) (T := TX3) (N := 14) hx hb hts uV_h7_X3 tyX3 tyX3_ok nmX3 hown hK hP hD hS 0 rfl rfl 0 (by decide) (hts (.fieldLink RX3 9 "ClassMill$Image" "bytes" "[B") mw_h7_174) (fun _ h9 => h9) rfl (by decide +kernel) rfl rfl (Nat.le_of_ble_eq_true rfl) dX3_read_2 ?_
  clear hP hD hS
  intro H locs hP hD hS
  replace hP : va_P (dC, dI) vwCl [(h0, .inr (3, [.ref qa1, .int v1, .int v2, .int v3, .ref qf4, .ref qf5, .ref qf6, .int v7, .int v8, .int v9, .int v10, .ref qf11, .int v12, .ref qf13])), (qa1, .inl (ca1, na1, .inl fa1)), (qf4, .inl (cf4, 256, .inl f4)), (qf5, .inl (cf5, 256, .inl f5)), (qf6, .inl (cf6, 256, .inl f6)), (qf11, .inl (cf11, 24, .inl f11)), (qf13, .inl (cf13, 144, .inl f13))] H := hP
  replace hD : va_D A [(h0, .inr (3, [.ref qa1, .int v1, .int v2, .int v3, .ref qf4, .ref qf5, .ref qf6, .int v7, .int v8, .int v9, .int v10, .ref qf11, .int v12, .ref qf13])), (qa1, .inl (ca1, na1, .inl fa1)), (qf4, .inl (cf4, 256, .inl f4)), (qf5, .inl (cf5, 256, .inl f5)), (qf6, .inl (cf6, 256, .inl f6)), (qf11, .inl (cf11, 24, .inl f11)), (qf13, .inl (cf13, 144, .inl f13))] := hD
  refine lv_aload_n hx hb dX3_read_5 rfl (lv_at hl 0 rfl) ?_
  refine lv_iload_n hx hb dX3_read_6 rfl (lv_at hl 2 rfl) ?_
  refine lv_aload_n hx hb dX3_read_7 rfl (lv_at hl 1 rfl) ?_
  refine va_alen (v := nI na1) hx hb hK hP 1 0 rfl rfl rfl dX3_read_8 ?_
  refine va_mmin hx hb (by rw [hml]; exact hl.1.symm) hown (hts (.methodLink RX3 33 yJ9_min_7cf53) mw_h7_629) (hts (.static yJ9_min_7cf53) mw_h7_412) (hts (.initialized "java/lang/Math") mw_h7_328) (hts (.code yJ9_min_7cf53 cJ9_min_7cf53 2 (some .int)) mw_h7_413) (Nat.le_of_ble_eq_true rfl) (Nat.le_of_ble_eq_true rfl) (Nat.le_of_ble_eq_true rfl) (Nat.le_of_ble_eq_true rfl) dX3_read_9 ?_
  refine va_put (D := (dC, dI)) (ci := 3) (v := .int (if (nI na1) < a2 then (nI na1) else a2)) (ty := .int) (C := RX3) (T := TX3) (N := 14) hx hb hts uV_h7_X3 tyX3 tyX3_ok nmX3 hown hK hP hD hS 0 rfl rfl 1 (by decide) (hts (.fieldLink RX3 39 "ClassMill$Image" "size" "I") mw_h7_173) (fun _ h9 => h9) rfl (by decide +kernel) rfl rfl (Nat.le_of_ble_eq_true rfl) dX3_read_12 ?_
  clear hP hD hS
  intro H locs hP hD hS
  replace hP : va_P (dC, dI) vwCl [(h0, .inr (3, [.ref qa1, .int (if (nI na1) < a2 then (nI na1) else a2), .int v2, .int v3, .ref qf4, .ref qf5, .ref qf6, .int v7, .int v8, .int v9, .int v10, .ref qf11, .int v12, .ref qf13])), (qa1, .inl (ca1, na1, .inl fa1)), (qf4, .inl (cf4, 256, .inl f4)), (qf5, .inl (cf5, 256, .inl f5)), (qf6, .inl (cf6, 256, .inl f6)), (qf11, .inl (cf11, 24, .inl f11)), (qf13, .inl (cf13, 144, .inl f13))] H := hP
  replace hD : va_D A [(h0, .inr (3, [.ref qa1, .int (if (nI na1) < a2 then (nI na1) else a2), .int v2, .int v3, .ref qf4, .ref qf5, .ref qf6, .int v7, .int v8, .int v9, .int v10, .ref qf11, .int v12, .ref qf13])), (qa1, .inl (ca1, na1, .inl fa1)), (qf4, .inl (cf4, 256, .inl f4)), (qf5, .inl (cf5, 256, .inl f5)), (qf6, .inl (cf6, 256, .inl f6)), (qf11, .inl (cf11, 24, .inl f11)), (qf13, .inl (cf13, 144, .inl f13))] := hD
  refine lv_aload_n hx hb dX3_read_15 rfl (lv_at hl 0 rfl) ?_
  refine lv_iconst (v := 0) hx hb dX3_read_16 (by decide) ?_
  refine va_put (D := (dC, dI)) (ci := 3) (v := .int 0) (ty := .int) (C := RX3) (T := TX3) (N := 14) hx hb hts uV_h7_X3 tyX3 tyX3_ok nmX3 hown hK hP hD hS 0 rfl rfl 2 (by decide) (hts (.fieldLink RX3 43 "ClassMill$Image" "pos" "I") mw_h7_160) (fun _ h9 => h9) rfl (by decide +kernel) rfl rfl (Nat.le_of_ble_eq_true rfl) dX3_read_17 ?_
  clear hP hD hS
  intro H locs hP hD hS
  replace hP : va_P (dC, dI) vwCl [(h0, .inr (3, [.ref qa1, .int (if (nI na1) < a2 then (nI na1) else a2), .int 0, .int v3, .ref qf4, .ref qf5, .ref qf6, .int v7, .int v8, .int v9, .int v10, .ref qf11, .int v12, .ref qf13])), (qa1, .inl (ca1, na1, .inl fa1)), (qf4, .inl (cf4, 256, .inl f4)), (qf5, .inl (cf5, 256, .inl f5)), (qf6, .inl (cf6, 256, .inl f6)), (qf11, .inl (cf11, 24, .inl f11)), (qf13, .inl (cf13, 144, .inl f13))] H := hP
  replace hD : va_D A [(h0, .inr (3, [.ref qa1, .int (if (nI na1) < a2 then (nI na1) else a2), .int 0, .int v3, .ref qf4, .ref qf5, .ref qf6, .int v7, .int v8, .int v9, .int v10, .ref qf11, .int v12, .ref qf13])), (qa1, .inl (ca1, na1, .inl fa1)), (qf4, .inl (cf4, 256, .inl f4)), (qf5, .inl (cf5, 256, .inl f5)), (qf6, .inl (cf6, 256, .inl f6)), (qf11, .inl (cf11, 24, .inl f11)), (qf13, .inl (cf13, 144, .inl f13))] := hD
  refine lv_aload_n hx hb dX3_read_20 rfl (lv_at hl 0 rfl) ?_
  refine lv_iconst (v := (-1)) hx hb dX3_read_21 (by decide) ?_
  refine va_put (D := (dC, dI)) (ci := 3) (v := .int (-1)) (ty := .int) (C := RX3) (T := TX3) (N := 14) hx hb hts uV_h7_X3 tyX3 tyX3_ok nmX3 hown hK hP hD hS 0 rfl rfl 3 (by decide) (hts (.fieldLink RX3 46 "ClassMill$Image" "form" "I") mw_h7_157) (fun _ h9 => h9) rfl (by decide +kernel) rfl rfl (Nat.le_of_ble_eq_true rfl) dX3_read_22 ?_
  clear hP hD hS
  intro H locs hP hD hS
  replace hP : va_P (dC, dI) vwCl [(h0, .inr (3, [.ref qa1, .int (if (nI na1) < a2 then (nI na1) else a2), .int 0, .int (-1), .ref qf4, .ref qf5, .ref qf6, .int v7, .int v8, .int v9, .int v10, .ref qf11, .int v12, .ref qf13])), (qa1, .inl (ca1, na1, .inl fa1)), (qf4, .inl (cf4, 256, .inl f4)), (qf5, .inl (cf5, 256, .inl f5)), (qf6, .inl (cf6, 256, .inl f6)), (qf11, .inl (cf11, 24, .inl f11)), (qf13, .inl (cf13, 144, .inl f13))] H := hP
  replace hD : va_D A [(h0, .inr (3, [.ref qa1, .int (if (nI na1) < a2 then (nI na1) else a2), .int 0, .int (-1), .ref qf4, .ref qf5, .ref qf6, .int v7, .int v8, .int v9, .int v10, .ref qf11, .int v12, .ref qf13])), (qa1, .inl (ca1, na1, .inl fa1)), (qf4, .inl (cf4, 256, .inl f4)), (qf5, .inl (cf5, 256, .inl f5)), (qf6, .inl (cf6, 256, .inl f6)), (qf11, .inl (cf11, 24, .inl f11)), (qf13, .inl (cf13, 144, .inl f13))] := hD
  refine lv_aload_n hx hb dX3_read_25 rfl (lv_at hl 0 rfl) ?_
  refine lv_iconst (v := 0) hx hb dX3_read_26 (by decide) ?_
  refine va_put (D := (dC, dI)) (ci := 3) (v := .int 0) (ty := .int) (C := RX3) (T := TX3) (N := 14) hx hb hts uV_h7_X3 tyX3 tyX3_ok nmX3 hown hK hP hD hS 0 rfl rfl 10 (by decide) (hts (.fieldLink RX3 49 "ClassMill$Image" "fields" "I") mw_h7_503) (fun _ h9 => h9) rfl (by decide +kernel) rfl rfl (Nat.le_of_ble_eq_true rfl) dX3_read_27 ?_
  clear hP hD hS
  intro H locs hP hD hS
  replace hP : va_P (dC, dI) vwCl [(h0, .inr (3, [.ref qa1, .int (if (nI na1) < a2 then (nI na1) else a2), .int 0, .int (-1), .ref qf4, .ref qf5, .ref qf6, .int v7, .int v8, .int v9, .int 0, .ref qf11, .int v12, .ref qf13])), (qa1, .inl (ca1, na1, .inl fa1)), (qf4, .inl (cf4, 256, .inl f4)), (qf5, .inl (cf5, 256, .inl f5)), (qf6, .inl (cf6, 256, .inl f6)), (qf11, .inl (cf11, 24, .inl f11)), (qf13, .inl (cf13, 144, .inl f13))] H := hP
  replace hD : va_D A [(h0, .inr (3, [.ref qa1, .int (if (nI na1) < a2 then (nI na1) else a2), .int 0, .int (-1), .ref qf4, .ref qf5, .ref qf6, .int v7, .int v8, .int v9, .int 0, .ref qf11, .int v12, .ref qf13])), (qa1, .inl (ca1, na1, .inl fa1)), (qf4, .inl (cf4, 256, .inl f4)), (qf5, .inl (cf5, 256, .inl f5)), (qf6, .inl (cf6, 256, .inl f6)), (qf11, .inl (cf11, 24, .inl f11)), (qf13, .inl (cf13, 144, .inl f13))] := hD
  refine lv_aload_n hx hb dX3_read_30 rfl (lv_at hl 0 rfl) ?_
  refine lv_iconst (v := 0) hx hb dX3_read_31 (by decide) ?_
  refine va_put (D := (dC, dI)) (ci := 3) (v := .int 0) (ty := .int) (C := RX3) (T := TX3) (N := 14) hx hb hts uV_h7_X3 tyX3 tyX3_ok nmX3 hown hK hP hD hS 0 rfl rfl 12 (by decide) (hts (.fieldLink RX3 52 "ClassMill$Image" "methods" "I") mw_h7_630) (fun _ h9 => h9) rfl (by decide +kernel) rfl rfl (Nat.le_of_ble_eq_true rfl) dX3_read_32 ?_
  clear hP hD hS
  intro H locs hP hD hS
  replace hP : va_P (dC, dI) vwCl [(h0, .inr (3, [.ref qa1, .int (if (nI na1) < a2 then (nI na1) else a2), .int 0, .int (-1), .ref qf4, .ref qf5, .ref qf6, .int v7, .int v8, .int v9, .int 0, .ref qf11, .int 0, .ref qf13])), (qa1, .inl (ca1, na1, .inl fa1)), (qf4, .inl (cf4, 256, .inl f4)), (qf5, .inl (cf5, 256, .inl f5)), (qf6, .inl (cf6, 256, .inl f6)), (qf11, .inl (cf11, 24, .inl f11)), (qf13, .inl (cf13, 144, .inl f13))] H := hP
  replace hD : va_D A [(h0, .inr (3, [.ref qa1, .int (if (nI na1) < a2 then (nI na1) else a2), .int 0, .int (-1), .ref qf4, .ref qf5, .ref qf6, .int v7, .int v8, .int v9, .int 0, .ref qf11, .int 0, .ref qf13])), (qa1, .inl (ca1, na1, .inl fa1)), (qf4, .inl (cf4, 256, .inl f4)), (qf5, .inl (cf5, 256, .inl f5)), (qf6, .inl (cf6, 256, .inl f6)), (qf11, .inl (cf11, 24, .inl f11)), (qf13, .inl (cf13, 144, .inl f13))] := hD
  refine lv_aload_n hx hb dX3_read_35 rfl (lv_at hl 0 rfl) ?_
  obtain ⟨⟨g901_0, g901_1, g901_2, u1_3, u1_4, u1_5⟩, hu_1, hsp⟩ := ox_bind hsp
  try dsimp only at hsp
  have hPc := hP.sub (ws' := [(h0, .inr (3, [.ref qa1, .int (if (nI na1) < a2 then (nI na1) else a2), .int 0, .int (-1), .ref qf4, .ref qf5, .ref qf6, .int v7, .int v8, .int v9, .int 0, .ref qf11, .int 0, .ref qf13])), (qa1, .inl (ca1, na1, .inl fa1)), (qf4, .inl (cf4, 256, .inl f4)), (qf5, .inl (cf5, 256, .inl f5)), (qf6, .inl (cf6, 256, .inl f6))]) [0, 1, 2, 3, 4] rfl
  have hDc := hD.sub (ws' := [(h0, .inr (3, [.ref qa1, .int (if (nI na1) < a2 then (nI na1) else a2), .int 0, .int (-1), .ref qf4, .ref qf5, .ref qf6, .int v7, .int v8, .int v9, .int 0, .ref qf11, .int 0, .ref qf13])), (qa1, .inl (ca1, na1, .inl fa1)), (qf4, .inl (cf4, 256, .inl f4)), (qf5, .inl (cf5, 256, .inl f5)), (qf6, .inl (cf6, 256, .inl f6))]) [0, 1, 2, 3, 4] (by decide) rfl
  have hKc := hK.sub (tys' := [(ca1, .byte), (cf4, .int), (cf5, .int), (cf6, .int)]) [0, 1, 2, 3] rfl
  have hFc := va_free (wc := [(h0, .inr (3, [.ref qa1, .int (if (nI na1) < a2 then (nI na1) else a2), .int 0, .int (-1), .ref qf4, .ref qf5, .ref qf6, .int v7, .int v8, .int v9, .int 0, .ref qf11, .int 0, .ref qf13])), (qa1, .inl (ca1, na1, .inl fa1)), (qf4, .inl (cf4, 256, .inl f4)), (qf5, .inl (cf5, 256, .inl f5)), (qf6, .inl (cf6, 256, .inl f6))]) hD hS hA [0, 1, 2, 3, 4] rfl
  refine va_callv (va_runV (As := []) (rest := []) ⟨hx, hb, hml, hown, hts⟩ (v3_readConstants l dC dI H.size h0 qa1 ((if (nI na1) < a2 then (nI na1) else a2)) 0 (-1) qf4 qf5 qf6 v7 v8 v9 0 qf11 0 qf13 ca1 na1 fa1 cf4 f4 cf5 f5 cf6 f6 nf g901_0 g901_1 g901_2 u1_3 u1_4 u1_5 hu_1) (cwV 0 hts gv_h7_149 rfl rfl rfl (by decide +kernel) ⟨Nat.le_of_ble_eq_true rfl, Nat.le_of_ble_eq_true rfl⟩) ⟨fun a U g mk q => by obtain ⟨q0, q1, qP, qK, qD⟩ := q; exact ⟨q0, q1, qP, va_K.moved (u := U) (U := U.calling g mk a) (Vm.Alike.refl U.vm) qK, qD⟩, va_recv hKc hPc (ci := 3) (q0 := 0) rfl rfl, fun U hU hW => ⟨rfl, by rw [hU], by rw [hU]; exact hPc, va_K.moved hW.alike hKc, hDc.weaken (fun _ _ _ _ => trivial)⟩⟩ rfl rfl hl.1 rfl (lv_room (Nat.le_of_ble_eq_true rfl)) dX3_read_36 ⟨Nat.le_of_ble_eq_true rfl, Nat.le_of_ble_eq_true rfl⟩) hS (fun q _ h => hFc q h) hFc ?_
  clear hS
  intro u t H1 locs ht hvm hw hB hz1 hk1 hS
  obtain ⟨⟩ := u
  obtain ⟨hP1, hK1, hD1⟩ := hB
  rw [ht] at hP1
  have hK1 := va_K.moved hvm.symm hK1
  try dsimp only at hw
  have hPD := va_join (wr := [(qf11, .inl (cf11, 24, .inl f11)), (qf13, .inl (cf13, 144, .inl f13))]) (w1 := [(h0, .inr (3, [.ref qa1, .int (if (nI na1) < a2 then (nI na1) else a2), .int u1_3, .int u1_4, .ref qf4, .ref qf5, .ref qf6, .int u1_5, .int v8, .int v9, .int 0, .ref qf11, .int 0, .ref qf13])), (qa1, .inl (ca1, na1, .inl fa1)), (qf4, .inl (cf4, 256, .inl g901_0)), (qf5, .inl (cf5, 256, .inl g901_1)), (qf6, .inl (cf6, 256, .inl g901_2))]) hP hD [0, 1, 2, 3, 4] [5, 6] rfl rfl (by decide) (by decide) hk1 hFc hP1 hD1
  clear hP hD
  obtain ⟨hP, hD⟩ := hPD
  replace hK := (hK.sub (tys' := [(cf11, .int), (cf13, .int)]) [4, 5] rfl).app hK1
  clear hPc hDc hKc hFc hP1 hK1 hD1 hz1 hk1 ht hvm
  generalize H1 = H at hP hS ⊢
  replace hP : va_P (dC, dI) vwCl [(qf11, .inl (cf11, 24, .inl f11)), (qf13, .inl (cf13, 144, .inl f13)), (h0, .inr (3, [.ref qa1, .int (if (nI na1) < a2 then (nI na1) else a2), .int u1_3, .int u1_4, .ref qf4, .ref qf5, .ref qf6, .int u1_5, .int v8, .int v9, .int 0, .ref qf11, .int 0, .ref qf13])), (qa1, .inl (ca1, na1, .inl fa1)), (qf4, .inl (cf4, 256, .inl g901_0)), (qf5, .inl (cf5, 256, .inl g901_1)), (qf6, .inl (cf6, 256, .inl g901_2))] H := hP
  replace hD : va_D A [(qf11, .inl (cf11, 24, .inl f11)), (qf13, .inl (cf13, 144, .inl f13)), (h0, .inr (3, [.ref qa1, .int (if (nI na1) < a2 then (nI na1) else a2), .int u1_3, .int u1_4, .ref qf4, .ref qf5, .ref qf6, .int u1_5, .int v8, .int v9, .int 0, .ref qf11, .int 0, .ref qf13])), (qa1, .inl (ca1, na1, .inl fa1)), (qf4, .inl (cf4, 256, .inl g901_0)), (qf5, .inl (cf5, 256, .inl g901_1)), (qf6, .inl (cf6, 256, .inl g901_2))] := hD
  replace hK : va_K (dC, dI) vwCl [(cf11, .int), (cf13, .int), (ca1, .byte), (cf4, .int), (cf5, .int), (cf6, .int)] s := hK
  refine lv_aload_n hx hb dX3_read_39 rfl (lv_at hl 0 rfl) ?_
  refine lv_aload_n hx hb dX3_read_40 rfl (lv_at hl 0 rfl) ?_
  obtain ⟨⟨u2_0, u2_1, u2_2⟩, hu_2, hsp⟩ := ox_bind hsp
  try dsimp only at hsp
  have hPc := hP.sub (ws' := [(h0, .inr (3, [.ref qa1, .int (if (nI na1) < a2 then (nI na1) else a2), .int u1_3, .int u1_4, .ref qf4, .ref qf5, .ref qf6, .int u1_5, .int v8, .int v9, .int 0, .ref qf11, .int 0, .ref qf13])), (qa1, .inl (ca1, na1, .inl fa1)), (qf5, .inl (cf5, 256, .inl g901_1)), (qf4, .inl (cf4, 256, .inl g901_0))]) [2, 3, 5, 4] rfl
  have hDc := hD.sub (ws' := [(h0, .inr (3, [.ref qa1, .int (if (nI na1) < a2 then (nI na1) else a2), .int u1_3, .int u1_4, .ref qf4, .ref qf5, .ref qf6, .int u1_5, .int v8, .int v9, .int 0, .ref qf11, .int 0, .ref qf13])), (qa1, .inl (ca1, na1, .inl fa1)), (qf5, .inl (cf5, 256, .inl g901_1)), (qf4, .inl (cf4, 256, .inl g901_0))]) [2, 3, 5, 4] (by decide) rfl
  have hKc := hK.sub (tys' := [(ca1, .byte), (cf5, .int), (cf4, .int)]) [2, 4, 3] rfl
  have hFc := va_free (wc := [(h0, .inr (3, [.ref qa1, .int (if (nI na1) < a2 then (nI na1) else a2), .int u1_3, .int u1_4, .ref qf4, .ref qf5, .ref qf6, .int u1_5, .int v8, .int v9, .int 0, .ref qf11, .int 0, .ref qf13])), (qa1, .inl (ca1, na1, .inl fa1)), (qf5, .inl (cf5, 256, .inl g901_1)), (qf4, .inl (cf4, 256, .inl g901_0))]) hD hS hA [2, 3, 5, 4] rfl
  refine va_calli (va_runV (As := []) (rest := [.ref h0]) ⟨hx, hb, hml, hown, hts⟩ (t3_nextPlainClass l dC dI H.size h0 qa1 ((if (nI na1) < a2 then (nI na1) else a2)) u1_3 u1_4 qf4 qf5 qf6 u1_5 v8 v9 0 qf11 0 qf13 ca1 na1 fa1 cf5 g901_1 cf4 g901_0 nf u2_0 u2_1 u2_2 hu_2) (cwV 0 hts gv_h7_150 rfl rfl rfl (by decide +kernel) ⟨Nat.le_of_ble_eq_true rfl, Nat.le_of_ble_eq_true rfl⟩) ⟨fun a U g mk q => by obtain ⟨q0, q1, qP, qK, qD⟩ := q; exact ⟨q0, q1, qP, va_K.moved (u := U) (U := U.calling g mk a) (Vm.Alike.refl U.vm) qK, qD⟩, va_recv hKc hPc (ci := 3) (q0 := 0) rfl rfl, fun U hU hW => ⟨rfl, by rw [hU], by rw [hU]; exact hPc, va_K.moved hW.alike hKc, hDc.weaken (fun _ _ _ _ => trivial)⟩⟩ rfl rfl hl.1 rfl (lv_room (Nat.le_of_ble_eq_true rfl)) dX3_read_41 ⟨Nat.le_of_ble_eq_true rfl, Nat.le_of_ble_eq_true rfl⟩) hS (fun q _ h => hFc q h) hFc ?_
  clear hS
  intro r_1 u t H1 locs ht hvm hw hB hz1 hk1 hS
  obtain ⟨⟩ := u
  obtain ⟨hP1, hK1, hD1⟩ := hB
  rw [ht] at hP1
  have hK1 := va_K.moved hvm.symm hK1
  try dsimp only at hw
  have hPD := va_join (wr := [(qf11, .inl (cf11, 24, .inl f11)), (qf13, .inl (cf13, 144, .inl f13)), (qf6, .inl (cf6, 256, .inl g901_2))]) (w1 := [(h0, .inr (3, [.ref qa1, .int (if (nI na1) < a2 then (nI na1) else a2), .int u2_1, .int u2_2, .ref qf4, .ref qf5, .ref qf6, .int u1_5, .int v8, .int v9, .int 0, .ref qf11, .int 0, .ref qf13])), (qa1, .inl (ca1, na1, .inl fa1)), (qf5, .inl (cf5, 256, .inl g901_1)), (qf4, .inl (cf4, 256, .inl g901_0))]) hP hD [2, 3, 5, 4] [0, 1, 6] rfl rfl (by decide) (by decide) hk1 hFc hP1 hD1
  clear hP hD
  obtain ⟨hP, hD⟩ := hPD
  replace hK := (hK.sub (tys' := [(cf11, .int), (cf13, .int), (cf6, .int)]) [0, 1, 5] rfl).app hK1
  clear hPc hDc hKc hFc hP1 hK1 hD1 hz1 hk1 ht hvm
  generalize H1 = H at hP hS ⊢
  replace hP : va_P (dC, dI) vwCl [(qf11, .inl (cf11, 24, .inl f11)), (qf13, .inl (cf13, 144, .inl f13)), (qf6, .inl (cf6, 256, .inl g901_2)), (h0, .inr (3, [.ref qa1, .int (if (nI na1) < a2 then (nI na1) else a2), .int u2_1, .int u2_2, .ref qf4, .ref qf5, .ref qf6, .int u1_5, .int v8, .int v9, .int 0, .ref qf11, .int 0, .ref qf13])), (qa1, .inl (ca1, na1, .inl fa1)), (qf5, .inl (cf5, 256, .inl g901_1)), (qf4, .inl (cf4, 256, .inl g901_0))] H := hP
  replace hD : va_D A [(qf11, .inl (cf11, 24, .inl f11)), (qf13, .inl (cf13, 144, .inl f13)), (qf6, .inl (cf6, 256, .inl g901_2)), (h0, .inr (3, [.ref qa1, .int (if (nI na1) < a2 then (nI na1) else a2), .int u2_1, .int u2_2, .ref qf4, .ref qf5, .ref qf6, .int u1_5, .int v8, .int v9, .int 0, .ref qf11, .int 0, .ref qf13])), (qa1, .inl (ca1, na1, .inl fa1)), (qf5, .inl (cf5, 256, .inl g901_1)), (qf4, .inl (cf4, 256, .inl g901_0))] := hD
  replace hK : va_K (dC, dI) vwCl [(cf11, .int), (cf13, .int), (cf6, .int), (ca1, .byte), (cf5, .int), (cf4, .int)] s := hK
  obtain rfl := hw
  refine va_put (D := (dC, dI)) (ci := 3) (v := .int u2_0) (ty := .int) (C := RX3) (T := TX3) (N := 14) hx hb hts uV_h7_X3 tyX3 tyX3_ok nmX3 hown hK hP hD hS 3 rfl rfl 8 (by decide) (hts (.fieldLink RX3 62 "ClassMill$Image" "selfText" "I") mw_h7_631) (fun _ h9 => h9) rfl (by decide +kernel) rfl rfl (Nat.le_of_ble_eq_true rfl) dX3_read_44 ?_
  clear hP hD hS
  intro H locs hP hD hS
  replace hP : va_P (dC, dI) vwCl [(qf11, .inl (cf11, 24, .inl f11)), (qf13, .inl (cf13, 144, .inl f13)), (qf6, .inl (cf6, 256, .inl g901_2)), (h0, .inr (3, [.ref qa1, .int (if (nI na1) < a2 then (nI na1) else a2), .int u2_1, .int u2_2, .ref qf4, .ref qf5, .ref qf6, .int u1_5, .int u2_0, .int v9, .int 0, .ref qf11, .int 0, .ref qf13])), (qa1, .inl (ca1, na1, .inl fa1)), (qf5, .inl (cf5, 256, .inl g901_1)), (qf4, .inl (cf4, 256, .inl g901_0))] H := hP
  replace hD : va_D A [(qf11, .inl (cf11, 24, .inl f11)), (qf13, .inl (cf13, 144, .inl f13)), (qf6, .inl (cf6, 256, .inl g901_2)), (h0, .inr (3, [.ref qa1, .int (if (nI na1) < a2 then (nI na1) else a2), .int u2_1, .int u2_2, .ref qf4, .ref qf5, .ref qf6, .int u1_5, .int u2_0, .int v9, .int 0, .ref qf11, .int 0, .ref qf13])), (qa1, .inl (ca1, na1, .inl fa1)), (qf5, .inl (cf5, 256, .inl g901_1)), (qf4, .inl (cf4, 256, .inl g901_0))] := hD
  refine lv_aload_n hx hb dX3_read_47 rfl (lv_at hl 0 rfl) ?_
  refine lv_aload_n hx hb dX3_read_48 rfl (lv_at hl 0 rfl) ?_
  obtain ⟨⟨u3_0, u3_1, u3_2⟩, hu_3, hsp⟩ := ox_bind hsp
  try dsimp only at hsp
  have hPc := hP.sub (ws' := [(h0, .inr (3, [.ref qa1, .int (if (nI na1) < a2 then (nI na1) else a2), .int u2_1, .int u2_2, .ref qf4, .ref qf5, .ref qf6, .int u1_5, .int u2_0, .int v9, .int 0, .ref qf11, .int 0, .ref qf13])), (qa1, .inl (ca1, na1, .inl fa1)), (qf5, .inl (cf5, 256, .inl g901_1)), (qf4, .inl (cf4, 256, .inl g901_0))]) [3, 4, 5, 6] rfl
  have hDc := hD.sub (ws' := [(h0, .inr (3, [.ref qa1, .int (if (nI na1) < a2 then (nI na1) else a2), .int u2_1, .int u2_2, .ref qf4, .ref qf5, .ref qf6, .int u1_5, .int u2_0, .int v9, .int 0, .ref qf11, .int 0, .ref qf13])), (qa1, .inl (ca1, na1, .inl fa1)), (qf5, .inl (cf5, 256, .inl g901_1)), (qf4, .inl (cf4, 256, .inl g901_0))]) [3, 4, 5, 6] (by decide) rfl
  have hKc := hK.sub (tys' := [(ca1, .byte), (cf5, .int), (cf4, .int)]) [3, 4, 5] rfl
  have hFc := va_free (wc := [(h0, .inr (3, [.ref qa1, .int (if (nI na1) < a2 then (nI na1) else a2), .int u2_1, .int u2_2, .ref qf4, .ref qf5, .ref qf6, .int u1_5, .int u2_0, .int v9, .int 0, .ref qf11, .int 0, .ref qf13])), (qa1, .inl (ca1, na1, .inl fa1)), (qf5, .inl (cf5, 256, .inl g901_1)), (qf4, .inl (cf4, 256, .inl g901_0))]) hD hS hA [3, 4, 5, 6] rfl
  refine va_calli (va_runV (As := []) (rest := [.ref h0]) ⟨hx, hb, hml, hown, hts⟩ (t3_nextPlainClass l dC dI H.size h0 qa1 ((if (nI na1) < a2 then (nI na1) else a2)) u2_1 u2_2 qf4 qf5 qf6 u1_5 u2_0 v9 0 qf11 0 qf13 ca1 na1 fa1 cf5 g901_1 cf4 g901_0 nf u3_0 u3_1 u3_2 hu_3) (cwV 0 hts gv_h7_150 rfl rfl rfl (by decide +kernel) ⟨Nat.le_of_ble_eq_true rfl, Nat.le_of_ble_eq_true rfl⟩) ⟨fun a U g mk q => by obtain ⟨q0, q1, qP, qK, qD⟩ := q; exact ⟨q0, q1, qP, va_K.moved (u := U) (U := U.calling g mk a) (Vm.Alike.refl U.vm) qK, qD⟩, va_recv hKc hPc (ci := 3) (q0 := 0) rfl rfl, fun U hU hW => ⟨rfl, by rw [hU], by rw [hU]; exact hPc, va_K.moved hW.alike hKc, hDc.weaken (fun _ _ _ _ => trivial)⟩⟩ rfl rfl hl.1 rfl (lv_room (Nat.le_of_ble_eq_true rfl)) dX3_read_49 ⟨Nat.le_of_ble_eq_true rfl, Nat.le_of_ble_eq_true rfl⟩) hS (fun q _ h => hFc q h) hFc ?_
  clear hS
  intro r_2 u t H1 locs ht hvm hw hB hz1 hk1 hS
  obtain ⟨⟩ := u
  obtain ⟨hP1, hK1, hD1⟩ := hB
  rw [ht] at hP1
  have hK1 := va_K.moved hvm.symm hK1
  try dsimp only at hw
  have hPD := va_join (wr := [(qf11, .inl (cf11, 24, .inl f11)), (qf13, .inl (cf13, 144, .inl f13)), (qf6, .inl (cf6, 256, .inl g901_2))]) (w1 := [(h0, .inr (3, [.ref qa1, .int (if (nI na1) < a2 then (nI na1) else a2), .int u3_1, .int u3_2, .ref qf4, .ref qf5, .ref qf6, .int u1_5, .int u2_0, .int v9, .int 0, .ref qf11, .int 0, .ref qf13])), (qa1, .inl (ca1, na1, .inl fa1)), (qf5, .inl (cf5, 256, .inl g901_1)), (qf4, .inl (cf4, 256, .inl g901_0))]) hP hD [3, 4, 5, 6] [0, 1, 2] rfl rfl (by decide) (by decide) hk1 hFc hP1 hD1
  clear hP hD
  obtain ⟨hP, hD⟩ := hPD
  replace hK := (hK.sub (tys' := [(cf11, .int), (cf13, .int), (cf6, .int)]) [0, 1, 2] rfl).app hK1
  clear hPc hDc hKc hFc hP1 hK1 hD1 hz1 hk1 ht hvm
  generalize H1 = H at hP hS ⊢
  replace hP : va_P (dC, dI) vwCl [(qf11, .inl (cf11, 24, .inl f11)), (qf13, .inl (cf13, 144, .inl f13)), (qf6, .inl (cf6, 256, .inl g901_2)), (h0, .inr (3, [.ref qa1, .int (if (nI na1) < a2 then (nI na1) else a2), .int u3_1, .int u3_2, .ref qf4, .ref qf5, .ref qf6, .int u1_5, .int u2_0, .int v9, .int 0, .ref qf11, .int 0, .ref qf13])), (qa1, .inl (ca1, na1, .inl fa1)), (qf5, .inl (cf5, 256, .inl g901_1)), (qf4, .inl (cf4, 256, .inl g901_0))] H := hP
  replace hD : va_D A [(qf11, .inl (cf11, 24, .inl f11)), (qf13, .inl (cf13, 144, .inl f13)), (qf6, .inl (cf6, 256, .inl g901_2)), (h0, .inr (3, [.ref qa1, .int (if (nI na1) < a2 then (nI na1) else a2), .int u3_1, .int u3_2, .ref qf4, .ref qf5, .ref qf6, .int u1_5, .int u2_0, .int v9, .int 0, .ref qf11, .int 0, .ref qf13])), (qa1, .inl (ca1, na1, .inl fa1)), (qf5, .inl (cf5, 256, .inl g901_1)), (qf4, .inl (cf4, 256, .inl g901_0))] := hD
  replace hK : va_K (dC, dI) vwCl [(cf11, .int), (cf13, .int), (cf6, .int), (ca1, .byte), (cf5, .int), (cf4, .int)] s := hK
  obtain rfl := hw
  refine va_put (D := (dC, dI)) (ci := 3) (v := .int u3_0) (ty := .int) (C := RX3) (T := TX3) (N := 14) hx hb hts uV_h7_X3 tyX3 tyX3_ok nmX3 hown hK hP hD hS 3 rfl rfl 9 (by decide) (hts (.fieldLink RX3 65 "ClassMill$Image" "aboveText" "I") mw_h7_632) (fun _ h9 => h9) rfl (by decide +kernel) rfl rfl (Nat.le_of_ble_eq_true rfl) dX3_read_52 ?_
  clear hP hD hS
  intro H locs hP hD hS
  replace hP : va_P (dC, dI) vwCl [(qf11, .inl (cf11, 24, .inl f11)), (qf13, .inl (cf13, 144, .inl f13)), (qf6, .inl (cf6, 256, .inl g901_2)), (h0, .inr (3, [.ref qa1, .int (if (nI na1) < a2 then (nI na1) else a2), .int u3_1, .int u3_2, .ref qf4, .ref qf5, .ref qf6, .int u1_5, .int u2_0, .int u3_0, .int 0, .ref qf11, .int 0, .ref qf13])), (qa1, .inl (ca1, na1, .inl fa1)), (qf5, .inl (cf5, 256, .inl g901_1)), (qf4, .inl (cf4, 256, .inl g901_0))] H := hP
  replace hD : va_D A [(qf11, .inl (cf11, 24, .inl f11)), (qf13, .inl (cf13, 144, .inl f13)), (qf6, .inl (cf6, 256, .inl g901_2)), (h0, .inr (3, [.ref qa1, .int (if (nI na1) < a2 then (nI na1) else a2), .int u3_1, .int u3_2, .ref qf4, .ref qf5, .ref qf6, .int u1_5, .int u2_0, .int u3_0, .int 0, .ref qf11, .int 0, .ref qf13])), (qa1, .inl (ca1, na1, .inl fa1)), (qf5, .inl (cf5, 256, .inl g901_1)), (qf4, .inl (cf4, 256, .inl g901_0))] := hD
  refine lv_aload_n hx hb dX3_read_55 rfl (lv_at hl 0 rfl) ?_
  obtain ⟨⟨g904_0, u4_1, u4_2, u4_3⟩, hu_4, hsp⟩ := ox_bind hsp
  try dsimp only at hsp
  have hPc := hP.sub (ws' := [(h0, .inr (3, [.ref qa1, .int (if (nI na1) < a2 then (nI na1) else a2), .int u3_1, .int u3_2, .ref qf4, .ref qf5, .ref qf6, .int u1_5, .int u2_0, .int u3_0, .int 0, .ref qf11, .int 0, .ref qf13])), (qa1, .inl (ca1, na1, .inl fa1)), (qf4, .inl (cf4, 256, .inl g901_0)), (qf5, .inl (cf5, 256, .inl g901_1)), (qf6, .inl (cf6, 256, .inl g901_2)), (qf11, .inl (cf11, 24, .inl f11))]) [3, 4, 6, 5, 2, 0] rfl
  have hDc := hD.sub (ws' := [(h0, .inr (3, [.ref qa1, .int (if (nI na1) < a2 then (nI na1) else a2), .int u3_1, .int u3_2, .ref qf4, .ref qf5, .ref qf6, .int u1_5, .int u2_0, .int u3_0, .int 0, .ref qf11, .int 0, .ref qf13])), (qa1, .inl (ca1, na1, .inl fa1)), (qf4, .inl (cf4, 256, .inl g901_0)), (qf5, .inl (cf5, 256, .inl g901_1)), (qf6, .inl (cf6, 256, .inl g901_2)), (qf11, .inl (cf11, 24, .inl f11))]) [3, 4, 6, 5, 2, 0] (by decide) rfl
  have hKc := hK.sub (tys' := [(ca1, .byte), (cf4, .int), (cf5, .int), (cf6, .int), (cf11, .int)]) [3, 5, 4, 2, 0] rfl
  have hFc := va_free (wc := [(h0, .inr (3, [.ref qa1, .int (if (nI na1) < a2 then (nI na1) else a2), .int u3_1, .int u3_2, .ref qf4, .ref qf5, .ref qf6, .int u1_5, .int u2_0, .int u3_0, .int 0, .ref qf11, .int 0, .ref qf13])), (qa1, .inl (ca1, na1, .inl fa1)), (qf4, .inl (cf4, 256, .inl g901_0)), (qf5, .inl (cf5, 256, .inl g901_1)), (qf6, .inl (cf6, 256, .inl g901_2)), (qf11, .inl (cf11, 24, .inl f11))]) hD hS hA [3, 4, 6, 5, 2, 0] rfl
  refine va_callv (va_runV (As := []) (rest := []) ⟨hx, hb, hml, hown, hts⟩ (v3_readFields l dC dI H.size h0 qa1 ((if (nI na1) < a2 then (nI na1) else a2)) u3_1 u3_2 qf4 qf5 qf6 u1_5 u2_0 u3_0 0 qf11 0 qf13 ca1 na1 fa1 cf4 g901_0 cf5 g901_1 cf6 g901_2 cf11 f11 nf g904_0 u4_1 u4_2 u4_3 hu_4) (cwV 0 hts gv_h7_151 rfl rfl rfl (by decide +kernel) ⟨Nat.le_of_ble_eq_true rfl, Nat.le_of_ble_eq_true rfl⟩) ⟨fun a U g mk q => by obtain ⟨q0, q1, qP, qK, qD⟩ := q; exact ⟨q0, q1, qP, va_K.moved (u := U) (U := U.calling g mk a) (Vm.Alike.refl U.vm) qK, qD⟩, va_recv hKc hPc (ci := 3) (q0 := 0) rfl rfl, fun U hU hW => ⟨rfl, by rw [hU], by rw [hU]; exact hPc, va_K.moved hW.alike hKc, hDc.weaken (fun _ _ _ _ => trivial)⟩⟩ rfl rfl hl.1 rfl (lv_room (Nat.le_of_ble_eq_true rfl)) dX3_read_56 ⟨Nat.le_of_ble_eq_true rfl, Nat.le_of_ble_eq_true rfl⟩) hS (fun q _ h => hFc q h) hFc ?_
  clear hS
  intro u t H1 locs ht hvm hw hB hz1 hk1 hS
  obtain ⟨⟩ := u
  obtain ⟨hP1, hK1, hD1⟩ := hB
  rw [ht] at hP1
  have hK1 := va_K.moved hvm.symm hK1
  try dsimp only at hw
  have hPD := va_join (wr := [(qf13, .inl (cf13, 144, .inl f13))]) (w1 := [(h0, .inr (3, [.ref qa1, .int (if (nI na1) < a2 then (nI na1) else a2), .int u4_2, .int u4_3, .ref qf4, .ref qf5, .ref qf6, .int u1_5, .int u2_0, .int u3_0, .int u4_1, .ref qf11, .int 0, .ref qf13])), (qa1, .inl (ca1, na1, .inl fa1)), (qf4, .inl (cf4, 256, .inl g901_0)), (qf5, .inl (cf5, 256, .inl g901_1)), (qf6, .inl (cf6, 256, .inl g901_2)), (qf11, .inl (cf11, 24, .inl g904_0))]) hP hD [3, 4, 6, 5, 2, 0] [1] rfl rfl (by decide) (by decide) hk1 hFc hP1 hD1
  clear hP hD
  obtain ⟨hP, hD⟩ := hPD
  replace hK := (hK.sub (tys' := [(cf13, .int)]) [1] rfl).app hK1
  clear hPc hDc hKc hFc hP1 hK1 hD1 hz1 hk1 ht hvm
  generalize H1 = H at hP hS ⊢
  replace hP : va_P (dC, dI) vwCl [(qf13, .inl (cf13, 144, .inl f13)), (h0, .inr (3, [.ref qa1, .int (if (nI na1) < a2 then (nI na1) else a2), .int u4_2, .int u4_3, .ref qf4, .ref qf5, .ref qf6, .int u1_5, .int u2_0, .int u3_0, .int u4_1, .ref qf11, .int 0, .ref qf13])), (qa1, .inl (ca1, na1, .inl fa1)), (qf4, .inl (cf4, 256, .inl g901_0)), (qf5, .inl (cf5, 256, .inl g901_1)), (qf6, .inl (cf6, 256, .inl g901_2)), (qf11, .inl (cf11, 24, .inl g904_0))] H := hP
  replace hD : va_D A [(qf13, .inl (cf13, 144, .inl f13)), (h0, .inr (3, [.ref qa1, .int (if (nI na1) < a2 then (nI na1) else a2), .int u4_2, .int u4_3, .ref qf4, .ref qf5, .ref qf6, .int u1_5, .int u2_0, .int u3_0, .int u4_1, .ref qf11, .int 0, .ref qf13])), (qa1, .inl (ca1, na1, .inl fa1)), (qf4, .inl (cf4, 256, .inl g901_0)), (qf5, .inl (cf5, 256, .inl g901_1)), (qf6, .inl (cf6, 256, .inl g901_2)), (qf11, .inl (cf11, 24, .inl g904_0))] := hD
  replace hK : va_K (dC, dI) vwCl [(cf13, .int), (ca1, .byte), (cf4, .int), (cf5, .int), (cf6, .int), (cf11, .int)] s := hK
  refine lv_aload_n hx hb dX3_read_59 rfl (lv_at hl 0 rfl) ?_
  refine lv_iconst (v := 0) hx hb dX3_read_60 (by decide) ?_
  refine lv_bipush (v := 12) hx hb dX3_read_61 (by decide) ?_
  obtain ⟨⟨u5_0, u5_1, u5_2⟩, hu_5, hsp⟩ := ox_bind hsp
  try dsimp only at hsp
  have hPc := hP.sub (ws' := [(h0, .inr (3, [.ref qa1, .int (if (nI na1) < a2 then (nI na1) else a2), .int u4_2, .int u4_3, .ref qf4, .ref qf5, .ref qf6, .int u1_5, .int u2_0, .int u3_0, .int u4_1, .ref qf11, .int 0, .ref qf13])), (qa1, .inl (ca1, na1, .inl fa1))]) [1, 2] rfl
  have hDc := hD.sub (ws' := [(h0, .inr (3, [.ref qa1, .int (if (nI na1) < a2 then (nI na1) else a2), .int u4_2, .int u4_3, .ref qf4, .ref qf5, .ref qf6, .int u1_5, .int u2_0, .int u3_0, .int u4_1, .ref qf11, .int 0, .ref qf13])), (qa1, .inl (ca1, na1, .inl fa1))]) [1, 2] (by decide) rfl
  have hKc := hK.sub (tys' := [(ca1, .byte)]) [1] rfl
  have hFc := va_free (wc := [(h0, .inr (3, [.ref qa1, .int (if (nI na1) < a2 then (nI na1) else a2), .int u4_2, .int u4_3, .ref qf4, .ref qf5, .ref qf6, .int u1_5, .int u2_0, .int u3_0, .int u4_1, .ref qf11, .int 0, .ref qf13])), (qa1, .inl (ca1, na1, .inl fa1))]) hD hS hA [1, 2] rfl
  refine va_calli (va_runV (As := [.int 0, .int 12]) (rest := []) ⟨hx, hb, hml, hown, hts⟩ (ti_nextUpTo l dC dI H.size h0 0 12 qa1 ((if (nI na1) < a2 then (nI na1) else a2)) u4_2 u4_3 qf4 qf5 qf6 u1_5 u2_0 u3_0 u4_1 qf11 0 qf13 ca1 na1 fa1 nf u5_0 u5_1 u5_2 hu_5) (cwV 2 hts gv_h7_29 rfl rfl rfl (by decide +kernel) ⟨Nat.le_of_ble_eq_true rfl, Nat.le_of_ble_eq_true rfl⟩) ⟨fun a U g mk q => by obtain ⟨q0, q1, qP, qK, qD⟩ := q; exact ⟨q0, q1, qP, va_K.moved (u := U) (U := U.calling g mk a) (Vm.Alike.refl U.vm) qK, qD⟩, va_recv hKc hPc (ci := 3) (q0 := 0) rfl rfl, fun U hU hW => ⟨rfl, by rw [hU], by rw [hU]; exact hPc, va_K.moved hW.alike hKc, hDc.weaken (fun _ _ _ _ => trivial)⟩⟩ rfl rfl hl.1 rfl (lv_room (Nat.le_of_ble_eq_true rfl)) dX3_read_63 ⟨Nat.le_of_ble_eq_true rfl, Nat.le_of_ble_eq_true rfl⟩) hS (fun q _ h => hFc q h) hFc ?_
  clear hS
  intro r_3 u t H1 locs ht hvm hw hB hz1 hk1 hS
  obtain ⟨⟩ := u
  obtain ⟨hP1, hK1, hD1⟩ := hB
  rw [ht] at hP1
  have hK1 := va_K.moved hvm.symm hK1
  try dsimp only at hw
  have hPD := va_join (wr := [(qf13, .inl (cf13, 144, .inl f13)), (qf4, .inl (cf4, 256, .inl g901_0)), (qf5, .inl (cf5, 256, .inl g901_1)), (qf6, .inl (cf6, 256, .inl g901_2)), (qf11, .inl (cf11, 24, .inl g904_0))]) (w1 := [(h0, .inr (3, [.ref qa1, .int (if (nI na1) < a2 then (nI na1) else a2), .int u5_1, .int u5_2, .ref qf4, .ref qf5, .ref qf6, .int u1_5, .int u2_0, .int u3_0, .int u4_1, .ref qf11, .int 0, .ref qf13])), (qa1, .inl (ca1, na1, .inl fa1))]) hP hD [1, 2] [0, 3, 4, 5, 6] rfl rfl (by decide) (by decide) hk1 hFc hP1 hD1
  clear hP hD
  obtain ⟨hP, hD⟩ := hPD
  replace hK := (hK.sub (tys' := [(cf13, .int), (cf4, .int), (cf5, .int), (cf6, .int), (cf11, .int)]) [0, 2, 3, 4, 5] rfl).app hK1
  clear hPc hDc hKc hFc hP1 hK1 hD1 hz1 hk1 ht hvm
  generalize H1 = H at hP hS ⊢
  replace hP : va_P (dC, dI) vwCl [(qf13, .inl (cf13, 144, .inl f13)), (qf4, .inl (cf4, 256, .inl g901_0)), (qf5, .inl (cf5, 256, .inl g901_1)), (qf6, .inl (cf6, 256, .inl g901_2)), (qf11, .inl (cf11, 24, .inl g904_0)), (h0, .inr (3, [.ref qa1, .int (if (nI na1) < a2 then (nI na1) else a2), .int u5_1, .int u5_2, .ref qf4, .ref qf5, .ref qf6, .int u1_5, .int u2_0, .int u3_0, .int u4_1, .ref qf11, .int 0, .ref qf13])), (qa1, .inl (ca1, na1, .inl fa1))] H := hP
  replace hD : va_D A [(qf13, .inl (cf13, 144, .inl f13)), (qf4, .inl (cf4, 256, .inl g901_0)), (qf5, .inl (cf5, 256, .inl g901_1)), (qf6, .inl (cf6, 256, .inl g901_2)), (qf11, .inl (cf11, 24, .inl g904_0)), (h0, .inr (3, [.ref qa1, .int (if (nI na1) < a2 then (nI na1) else a2), .int u5_1, .int u5_2, .ref qf4, .ref qf5, .ref qf6, .int u1_5, .int u2_0, .int u3_0, .int u4_1, .ref qf11, .int 0, .ref qf13])), (qa1, .inl (ca1, na1, .inl fa1))] := hD
  replace hK : va_K (dC, dI) vwCl [(cf13, .int), (cf4, .int), (cf5, .int), (cf6, .int), (cf11, .int), (ca1, .byte)] s := hK
  obtain rfl := hw
  refine lv_istore_n (lv' := [(3, .int u5_0), (0, .ref h0), (1, .ref qa1), (2, .int a2)]) hx hb dX3_read_66 rfl hl (by decide) rfl (fun ls hl => ?_)
  refine lv_iconst (v := 0) hx hb dX3_read_67 (by decide) ?_
  refine lv_istore (lv' := [(4, .int 0), (3, .int u5_0), (0, .ref h0), (1, .ref qa1), (2, .int a2)]) hx hb dX3_read_68 hl (by decide) rfl (fun ls hl => ?_)
  replace hl : lv_has ls 5 [(4, .int 0), (3, .int u5_0), (0, .ref h0)] := lv_sub hl [0, 1, 2] rfl
  replace hP := hP.sub (ws' := [(h0, .inr (3, [.ref qa1, .int (if (nI na1) < a2 then (nI na1) else a2), .int u5_1, .int u5_2, .ref qf4, .ref qf5, .ref qf6, .int u1_5, .int u2_0, .int u3_0, .int u4_1, .ref qf11, .int 0, .ref qf13])), (qa1, .inl (ca1, na1, .inl fa1)), (qf4, .inl (cf4, 256, .inl g901_0)), (qf5, .inl (cf5, 256, .inl g901_1)), (qf6, .inl (cf6, 256, .inl g901_2)), (qf11, .inl (cf11, 24, .inl g904_0)), (qf13, .inl (cf13, 144, .inl f13))]) [5, 6, 1, 2, 3, 4, 0] rfl
  replace hD := hD.sub (ws' := [(h0, .inr (3, [.ref qa1, .int (if (nI na1) < a2 then (nI na1) else a2), .int u5_1, .int u5_2, .ref qf4, .ref qf5, .ref qf6, .int u1_5, .int u2_0, .int u3_0, .int u4_1, .ref qf11, .int 0, .ref qf13])), (qa1, .inl (ca1, na1, .inl fa1)), (qf4, .inl (cf4, 256, .inl g901_0)), (qf5, .inl (cf5, 256, .inl g901_1)), (qf6, .inl (cf6, 256, .inl g901_2)), (qf11, .inl (cf11, 24, .inl g904_0)), (qf13, .inl (cf13, 144, .inl f13))]) [5, 6, 1, 2, 3, 4, 0] (by decide) rfl
  replace hK := hK.sub (tys' := [(ca1, .byte), (cf4, .int), (cf5, .int), (cf6, .int), (cf11, .int), (cf13, .int)]) [5, 1, 2, 3, 4, 0] rfl
  obtain ⟨n_70, hn_70⟩ : ∃ z : Nat, z = nf := ⟨_, rfl⟩
  obtain ⟨l3_70, el3_70⟩ : ∃ z : Int32, z = u5_0 := ⟨_, rfl⟩
  obtain ⟨l4_70, el4_70⟩ : ∃ z : Int32, z = 0 := ⟨_, rfl⟩
  obtain ⟨g11_70, eg11_70⟩ : ∃ z : Nat → Int32, z = g904_0 := ⟨_, rfl⟩
  obtain ⟨g13_70, eg13_70⟩ : ∃ z : Nat → Int32, z = f13 := ⟨_, rfl⟩
  obtain ⟨g4_70, eg4_70⟩ : ∃ z : Nat → Int32, z = g901_0 := ⟨_, rfl⟩
  obtain ⟨g5_70, eg5_70⟩ : ∃ z : Nat → Int32, z = g901_1 := ⟨_, rfl⟩
  obtain ⟨g6_70, eg6_70⟩ : ∃ z : Nat → Int32, z = g901_2 := ⟨_, rfl⟩
  obtain ⟨x1_70, ex1_70⟩ : ∃ z : Int32, z = (if (nI na1) < a2 then (nI na1) else a2) := ⟨_, rfl⟩
  obtain ⟨x10_70, ex10_70⟩ : ∃ z : Int32, z = u4_1 := ⟨_, rfl⟩
  obtain ⟨x12_70, ex12_70⟩ : ∃ z : Int32, z = 0 := ⟨_, rfl⟩
  obtain ⟨x2_70, ex2_70⟩ : ∃ z : Int32, z = u5_1 := ⟨_, rfl⟩
  obtain ⟨x3_70, ex3_70⟩ : ∃ z : Int32, z = u5_2 := ⟨_, rfl⟩
  obtain ⟨x7_70, ex7_70⟩ : ∃ z : Int32, z = u1_5 := ⟨_, rfl⟩
  obtain ⟨x8_70, ex8_70⟩ : ∃ z : Int32, z = u2_0 := ⟨_, rfl⟩
  obtain ⟨x9_70, ex9_70⟩ : ∃ z : Int32, z = u3_0 := ⟨_, rfl⟩
  replace hsp : lp_v3_read_70 nf n_70 a2 na1 fa1 f4 f5 f6 f11 f13 l3_70 l4_70 g11_70 g13_70 g4_70 g5_70 g6_70 x1_70 x10_70 x12_70 x2_70 x3_70 x7_70 x8_70 x9_70 = some (r0, o11, o13, o4, o5, o6, w1, w10, w12, w2, w3, w7, w8, w9) := by rw [hn_70, el3_70, el4_70, eg11_70, eg13_70, eg4_70, eg5_70, eg6_70, ex1_70, ex10_70, ex12_70, ex2_70, ex3_70, ex7_70, ex8_70, ex9_70]; exact hsp
  replace hl : lv_has ls 5 [(4, .int l4_70), (3, .int l3_70), (0, .ref h0)] := by rw [el3_70, el4_70]; exact hl
  replace hP : va_P (dC, dI) vwCl [(h0, .inr (3, [.ref qa1, .int x1_70, .int x2_70, .int x3_70, .ref qf4, .ref qf5, .ref qf6, .int x7_70, .int x8_70, .int x9_70, .int x10_70, .ref qf11, .int x12_70, .ref qf13])), (qa1, .inl (ca1, na1, .inl fa1)), (qf4, .inl (cf4, 256, .inl g4_70)), (qf5, .inl (cf5, 256, .inl g5_70)), (qf6, .inl (cf6, 256, .inl g6_70)), (qf11, .inl (cf11, 24, .inl g11_70)), (qf13, .inl (cf13, 144, .inl g13_70))] H := by rw [eg11_70, eg13_70, eg4_70, eg5_70, eg6_70, ex1_70, ex10_70, ex12_70, ex2_70, ex3_70, ex7_70, ex8_70, ex9_70]; exact hP
  replace hD : va_D A [(h0, .inr (3, [.ref qa1, .int x1_70, .int x2_70, .int x3_70, .ref qf4, .ref qf5, .ref qf6, .int x7_70, .int x8_70, .int x9_70, .int x10_70, .ref qf11, .int x12_70, .ref qf13])), (qa1, .inl (ca1, na1, .inl fa1)), (qf4, .inl (cf4, 256, .inl g4_70)), (qf5, .inl (cf5, 256, .inl g5_70)), (qf6, .inl (cf6, 256, .inl g6_70)), (qf11, .inl (cf11, 24, .inl g11_70)), (qf13, .inl (cf13, 144, .inl g13_70))] := by rw [eg11_70, eg13_70, eg4_70, eg5_70, eg6_70, ex1_70, ex10_70, ex12_70, ex2_70, ex3_70, ex7_70, ex8_70, ex9_70]; exact hD
  clear hn_70 el3_70 el4_70 eg11_70 eg13_70 eg4_70 eg5_70 eg6_70 ex1_70 ex10_70 ex12_70 ex2_70 ex3_70 ex7_70 ex8_70 ex9_70
  try clear hlo
  try clear hH
  revert hsp
  revert hP
  revert hD
  revert hS
  revert hl
  revert x9_70
  revert x8_70
  revert x7_70
  revert x3_70
  revert x2_70
  revert x12_70
  revert x10_70
  revert x1_70
  revert g6_70
  revert g5_70
  revert g4_70
  revert g13_70
  revert g11_70
  revert l4_70
  revert l3_70
  revert ls
  revert locs
  revert H
  induction n_70 with
  | zero => intro H locs ls l3_70 l4_70 g11_70 g13_70 g4_70 g5_70 g6_70 x1_70 x10_70 x12_70 x2_70 x3_70 x7_70 x8_70 x9_70  hl hS hD hP hsp; unfold lp_v3_read_70 at hsp; cases hsp
  | succ n_70 ih_70 =>
    intro H locs ls l3_70 l4_70 g11_70 g13_70 g4_70 g5_70 g6_70 x1_70 x10_70 x12_70 x2_70 x3_70 x7_70 x8_70 x9_70  hl hS hD hP hsp
    unfold lp_v3_read_70 at hsp
    try dsimp only at hsp
    refine lv_iload hx hb dX3_read_70 (lv_at hl 0 rfl) ?_
    refine lv_iload_n hx hb dX3_read_72 rfl (lv_at hl 1 rfl) ?_
    refine lv_icmp_ge (tgt := 109) hx hb dX3_read_73 (by decide) (fun c_4 => ?_) (fun c_4 => ?_)
    · rw [if_pos c_4] at hsp
      exact hj_109 (H, locs, ls, g11_70, g13_70, g4_70, g5_70, g6_70, x1_70, x10_70, x12_70, x2_70, x3_70, x7_70, x8_70, x9_70) ⟨lv_sub hl [2] rfl, hS, hD.sub (ws' := [(h0, .inr (3, [.ref qa1, .int x1_70, .int x2_70, .int x3_70, .ref qf4, .ref qf5, .ref qf6, .int x7_70, .int x8_70, .int x9_70, .int x10_70, .ref qf11, .int x12_70, .ref qf13])), (qa1, .inl (ca1, na1, .inl fa1)), (qf4, .inl (cf4, 256, .inl g4_70)), (qf5, .inl (cf5, 256, .inl g5_70)), (qf6, .inl (cf6, 256, .inl g6_70)), (qf11, .inl (cf11, 24, .inl g11_70)), (qf13, .inl (cf13, 144, .inl g13_70))]) [0, 1, 2, 3, 4, 5, 6] (by decide) rfl, hP.sub (ws' := [(h0, .inr (3, [.ref qa1, .int x1_70, .int x2_70, .int x3_70, .ref qf4, .ref qf5, .ref qf6, .int x7_70, .int x8_70, .int x9_70, .int x10_70, .ref qf11, .int x12_70, .ref qf13])), (qa1, .inl (ca1, na1, .inl fa1)), (qf4, .inl (cf4, 256, .inl g4_70)), (qf5, .inl (cf5, 256, .inl g5_70)), (qf6, .inl (cf6, 256, .inl g6_70)), (qf11, .inl (cf11, 24, .inl g11_70)), (qf13, .inl (cf13, 144, .inl g13_70))]) [0, 1, 2, 3, 4, 5, 6] rfl, hsp⟩
    · rw [if_neg c_4] at hsp
      refine lv_aload_n hx hb dX3_read_76 rfl (lv_at hl 2 rfl) ?_
      refine va_get (D := (dC, dI)) (ci := 3) (v := .int x3_70) (C := RX3) (T := TX3) (N := 14) hx hb hts uV_h7_X3 hown hK hP 0 rfl rfl 3 (by decide) (hts (.fieldLink RX3 46 "ClassMill$Image" "form" "I") mw_h7_157) (fun _ h9 => h9) rfl dX3_read_77 ?_
      refine lv_iconst (v := (-1)) hx hb dX3_read_80 (by decide) ?_
      refine lv_icmp_ne (tgt := 109) hx hb dX3_read_81 (by decide) (fun c_5 => ?_) (fun c_5 => ?_)
      · rw [if_neg c_5] at hsp
        exact hj_109 (H, locs, ls, g11_70, g13_70, g4_70, g5_70, g6_70, x1_70, x10_70, x12_70, x2_70, x3_70, x7_70, x8_70, x9_70) ⟨lv_sub hl [2] rfl, hS, hD.sub (ws' := [(h0, .inr (3, [.ref qa1, .int x1_70, .int x2_70, .int x3_70, .ref qf4, .ref qf5, .ref qf6, .int x7_70, .int x8_70, .int x9_70, .int x10_70, .ref qf11, .int x12_70, .ref qf13])), (qa1, .inl (ca1, na1, .inl fa1)), (qf4, .inl (cf4, 256, .inl g4_70)), (qf5, .inl (cf5, 256, .inl g5_70)), (qf6, .inl (cf6, 256, .inl g6_70)), (qf11, .inl (cf11, 24, .inl g11_70)), (qf13, .inl (cf13, 144, .inl g13_70))]) [0, 1, 2, 3, 4, 5, 6] (by decide) rfl, hP.sub (ws' := [(h0, .inr (3, [.ref qa1, .int x1_70, .int x2_70, .int x3_70, .ref qf4, .ref qf5, .ref qf6, .int x7_70, .int x8_70, .int x9_70, .int x10_70, .ref qf11, .int x12_70, .ref qf13])), (qa1, .inl (ca1, na1, .inl fa1)), (qf4, .inl (cf4, 256, .inl g4_70)), (qf5, .inl (cf5, 256, .inl g5_70)), (qf6, .inl (cf6, 256, .inl g6_70)), (qf11, .inl (cf11, 24, .inl g11_70)), (qf13, .inl (cf13, 144, .inl g13_70))]) [0, 1, 2, 3, 4, 5, 6] rfl, hsp⟩
      · rw [if_pos c_5] at hsp
        refine lv_aload_n hx hb dX3_read_84 rfl (lv_at hl 2 rfl) ?_
        refine lv_iload hx hb dX3_read_85 (lv_at hl 0 rfl) ?_
        refine lv_bipush (v := 12) hx hb dX3_read_87 (by decide) ?_
        refine lv_imul hx hb dX3_read_89 ?_
        obtain ⟨⟨g906_0, u6_1, u6_2⟩, hu_6, hsp⟩ := ox_bind hsp
        try dsimp only at hsp
        have hPc := hP.sub (ws' := [(h0, .inr (3, [.ref qa1, .int x1_70, .int x2_70, .int x3_70, .ref qf4, .ref qf5, .ref qf6, .int x7_70, .int x8_70, .int x9_70, .int x10_70, .ref qf11, .int x12_70, .ref qf13])), (qa1, .inl (ca1, na1, .inl fa1)), (qf13, .inl (cf13, 144, .inl g13_70)), (qf4, .inl (cf4, 256, .inl g4_70)), (qf5, .inl (cf5, 256, .inl g5_70)), (qf6, .inl (cf6, 256, .inl g6_70))]) [0, 1, 6, 2, 3, 4] rfl
        have hDc := hD.sub (ws' := [(h0, .inr (3, [.ref qa1, .int x1_70, .int x2_70, .int x3_70, .ref qf4, .ref qf5, .ref qf6, .int x7_70, .int x8_70, .int x9_70, .int x10_70, .ref qf11, .int x12_70, .ref qf13])), (qa1, .inl (ca1, na1, .inl fa1)), (qf13, .inl (cf13, 144, .inl g13_70)), (qf4, .inl (cf4, 256, .inl g4_70)), (qf5, .inl (cf5, 256, .inl g5_70)), (qf6, .inl (cf6, 256, .inl g6_70))]) [0, 1, 6, 2, 3, 4] (by decide) rfl
        have hKc := hK.sub (tys' := [(ca1, .byte), (cf13, .int), (cf4, .int), (cf5, .int), (cf6, .int)]) [0, 5, 1, 2, 3] rfl
        have hFc := va_free (wc := [(h0, .inr (3, [.ref qa1, .int x1_70, .int x2_70, .int x3_70, .ref qf4, .ref qf5, .ref qf6, .int x7_70, .int x8_70, .int x9_70, .int x10_70, .ref qf11, .int x12_70, .ref qf13])), (qa1, .inl (ca1, na1, .inl fa1)), (qf13, .inl (cf13, 144, .inl g13_70)), (qf4, .inl (cf4, 256, .inl g4_70)), (qf5, .inl (cf5, 256, .inl g5_70)), (qf6, .inl (cf6, 256, .inl g6_70))]) hD hS hA [0, 1, 6, 2, 3, 4] rfl
        refine va_callv (va_runV (As := [.int (l4_70 * 12)]) (rest := []) ⟨hx, hb, hml, hown, hts⟩ (v3_readMethod l dC dI H.size h0 ((l4_70 * 12)) qa1 x1_70 x2_70 x3_70 qf4 qf5 qf6 x7_70 x8_70 x9_70 x10_70 qf11 x12_70 qf13 ca1 na1 fa1 cf13 g13_70 cf4 g4_70 cf5 g5_70 cf6 g6_70 nf g906_0 u6_1 u6_2 hu_6) (cwV 1 hts gv_h7_152 rfl rfl rfl (by decide +kernel) ⟨Nat.le_of_ble_eq_true rfl, Nat.le_of_ble_eq_true rfl⟩) ⟨fun a U g mk q => by obtain ⟨q0, q1, qP, qK, qD⟩ := q; exact ⟨q0, q1, qP, va_K.moved (u := U) (U := U.calling g mk a) (Vm.Alike.refl U.vm) qK, qD⟩, va_recv hKc hPc (ci := 3) (q0 := 0) rfl rfl, fun U hU hW => ⟨rfl, by rw [hU], by rw [hU]; exact hPc, va_K.moved hW.alike hKc, hDc.weaken (fun _ _ _ _ => trivial)⟩⟩ rfl rfl hl.1 rfl (lv_room (Nat.le_of_ble_eq_true rfl)) dX3_read_90 ⟨Nat.le_of_ble_eq_true rfl, Nat.le_of_ble_eq_true rfl⟩) hS (fun q _ h => hFc q h) hFc ?_
        clear hS
        intro u t H1 locs ht hvm hw hB hz1 hk1 hS
        obtain ⟨⟩ := u
        obtain ⟨hP1, hK1, hD1⟩ := hB
        rw [ht] at hP1
        have hK1 := va_K.moved hvm.symm hK1
        try dsimp only at hw
        have hPD := va_join (wr := [(qf11, .inl (cf11, 24, .inl g11_70))]) (w1 := [(h0, .inr (3, [.ref qa1, .int x1_70, .int u6_1, .int u6_2, .ref qf4, .ref qf5, .ref qf6, .int x7_70, .int x8_70, .int x9_70, .int x10_70, .ref qf11, .int x12_70, .ref qf13])), (qa1, .inl (ca1, na1, .inl fa1)), (qf13, .inl (cf13, 144, .inl g906_0)), (qf4, .inl (cf4, 256, .inl g4_70)), (qf5, .inl (cf5, 256, .inl g5_70)), (qf6, .inl (cf6, 256, .inl g6_70))]) hP hD [0, 1, 6, 2, 3, 4] [5] rfl rfl (by decide) (by decide) hk1 hFc hP1 hD1
        clear hP hD
        obtain ⟨hP, hD⟩ := hPD
        replace hK := (hK.sub (tys' := [(cf11, .int)]) [4] rfl).app hK1
        clear hPc hDc hKc hFc hP1 hK1 hD1 hz1 hk1 ht hvm
        generalize H1 = H at hP hS ⊢
        replace hP : va_P (dC, dI) vwCl [(qf11, .inl (cf11, 24, .inl g11_70)), (h0, .inr (3, [.ref qa1, .int x1_70, .int u6_1, .int u6_2, .ref qf4, .ref qf5, .ref qf6, .int x7_70, .int x8_70, .int x9_70, .int x10_70, .ref qf11, .int x12_70, .ref qf13])), (qa1, .inl (ca1, na1, .inl fa1)), (qf13, .inl (cf13, 144, .inl g906_0)), (qf4, .inl (cf4, 256, .inl g4_70)), (qf5, .inl (cf5, 256, .inl g5_70)), (qf6, .inl (cf6, 256, .inl g6_70))] H := hP
        replace hD : va_D A [(qf11, .inl (cf11, 24, .inl g11_70)), (h0, .inr (3, [.ref qa1, .int x1_70, .int u6_1, .int u6_2, .ref qf4, .ref qf5, .ref qf6, .int x7_70, .int x8_70, .int x9_70, .int x10_70, .ref qf11, .int x12_70, .ref qf13])), (qa1, .inl (ca1, na1, .inl fa1)), (qf13, .inl (cf13, 144, .inl g906_0)), (qf4, .inl (cf4, 256, .inl g4_70)), (qf5, .inl (cf5, 256, .inl g5_70)), (qf6, .inl (cf6, 256, .inl g6_70))] := hD
        replace hK : va_K (dC, dI) vwCl [(cf11, .int), (ca1, .byte), (cf13, .int), (cf4, .int), (cf5, .int), (cf6, .int)] s := hK
        refine lv_aload_n hx hb dX3_read_93 rfl (lv_at hl 2 rfl) ?_
        refine lv_dup hx hb dX3_read_94 rfl ?_
        refine va_get (D := (dC, dI)) (ci := 3) (v := .int x12_70) (C := RX3) (T := TX3) (N := 14) hx hb hts uV_h7_X3 hown hK hP 1 rfl rfl 12 (by decide) (hts (.fieldLink RX3 52 "ClassMill$Image" "methods" "I") mw_h7_630) (fun _ h9 => h9) rfl dX3_read_95 ?_
        refine lv_iconst (v := 1) hx hb dX3_read_98 (by decide) ?_
        refine lv_iadd hx hb dX3_read_99 ?_
        refine va_put (D := (dC, dI)) (ci := 3) (v := .int (x12_70 + 1)) (ty := .int) (C := RX3) (T := TX3) (N := 14) hx hb hts uV_h7_X3 tyX3 tyX3_ok nmX3 hown hK hP hD hS 1 rfl rfl 12 (by decide) (hts (.fieldLink RX3 52 "ClassMill$Image" "methods" "I") mw_h7_630) (fun _ h9 => h9) rfl (by decide +kernel) rfl rfl (Nat.le_of_ble_eq_true rfl) dX3_read_100 ?_
        clear hP hD hS
        intro H locs hP hD hS
        replace hP : va_P (dC, dI) vwCl [(qf11, .inl (cf11, 24, .inl g11_70)), (h0, .inr (3, [.ref qa1, .int x1_70, .int u6_1, .int u6_2, .ref qf4, .ref qf5, .ref qf6, .int x7_70, .int x8_70, .int x9_70, .int x10_70, .ref qf11, .int (x12_70 + 1), .ref qf13])), (qa1, .inl (ca1, na1, .inl fa1)), (qf13, .inl (cf13, 144, .inl g906_0)), (qf4, .inl (cf4, 256, .inl g4_70)), (qf5, .inl (cf5, 256, .inl g5_70)), (qf6, .inl (cf6, 256, .inl g6_70))] H := hP
        replace hD : va_D A [(qf11, .inl (cf11, 24, .inl g11_70)), (h0, .inr (3, [.ref qa1, .int x1_70, .int u6_1, .int u6_2, .ref qf4, .ref qf5, .ref qf6, .int x7_70, .int x8_70, .int x9_70, .int x10_70, .ref qf11, .int (x12_70 + 1), .ref qf13])), (qa1, .inl (ca1, na1, .inl fa1)), (qf13, .inl (cf13, 144, .inl g906_0)), (qf4, .inl (cf4, 256, .inl g4_70)), (qf5, .inl (cf5, 256, .inl g5_70)), (qf6, .inl (cf6, 256, .inl g6_70))] := hD
        refine lv_iinc (v := (l4_70 + 1)) (lv' := [(4, .int (l4_70 + 1)), (3, .int l3_70), (0, .ref h0)]) hx hb dX3_read_103 hl (k := 0) rfl rfl (by decide) rfl (fun ls hl => ?_)
        refine lv_goto (tgt := 70) hx hb dX3_read_106 (by decide) ?_
        exact ih_70 H locs ls l3_70 (l4_70 + 1) g11_70 g906_0 g4_70 g5_70 g6_70 x1_70 x10_70 (x12_70 + 1) u6_1 u6_2 x7_70 x8_70 x9_70 (lv_sub hl [0, 1, 2] rfl) hS (hD.sub (ws' := [(h0, .inr (3, [.ref qa1, .int x1_70, .int u6_1, .int u6_2, .ref qf4, .ref qf5, .ref qf6, .int x7_70, .int x8_70, .int x9_70, .int x10_70, .ref qf11, .int (x12_70 + 1), .ref qf13])), (qa1, .inl (ca1, na1, .inl fa1)), (qf4, .inl (cf4, 256, .inl g4_70)), (qf5, .inl (cf5, 256, .inl g5_70)), (qf6, .inl (cf6, 256, .inl g6_70)), (qf11, .inl (cf11, 24, .inl g11_70)), (qf13, .inl (cf13, 144, .inl g906_0))]) [1, 2, 4, 5, 6, 0, 3] (by decide) rfl) (hP.sub (ws' := [(h0, .inr (3, [.ref qa1, .int x1_70, .int u6_1, .int u6_2, .ref qf4, .ref qf5, .ref qf6, .int x7_70, .int x8_70, .int x9_70, .int x10_70, .ref qf11, .int (x12_70 + 1), .ref qf13])), (qa1, .inl (ca1, na1, .inl fa1)), (qf4, .inl (cf4, 256, .inl g4_70)), (qf5, .inl (cf5, 256, .inl g5_70)), (qf6, .inl (cf6, 256, .inl g6_70)), (qf11, .inl (cf11, 24, .inl g11_70)), (qf13, .inl (cf13, 144, .inl g906_0))]) [1, 2, 4, 5, 6, 0, 3] rfl) hsp

set_option maxHeartbeats 4000000 in
set_option maxRecDepth 100000 in
/-- ClassMill$Image.behindKind -/
theorem v3_behindKind (l : Launch) (dC : Nat → ClassId) (dI : Nat → Nat → Nat) (sz : Nat) (h0 : Nat) (a1 : Int32) (a2 : Int32) (qf0 : Nat) (v1 : Int32) (v2 : Int32) (v3 : Int32) (qf4 : Nat) (qf5 : Nat) (qf6 : Nat) (v7 : Int32) (v8 : Int32) (v9 : Int32) (v10 : Int32) (qf11 : Nat) (v12 : Int32) (qf13 : Nat) (cf0 : ClassId) (nb : Nat) (f0 : (Nat → Int32)) (nf : Nat) (r0 : Int32) (hsp : sp_v3_behindKind nf a1 a2 v1 nb f0 = some r0) : Met l yX3_behindKind (.code yX3_behindKind cX3_behindKind 6 (some .int) :: VS_h7) ({ frames := 1, cells := 0, slots := 0, locals := 26 }) (va_Pc [.ref h0, .int a1, .int a2] (fun U => U.heap.size = sz ∧ va_P (dC, dI) vwCl [(h0, .inr (3, [.ref qf0, .int v1, .int v2, .int v3, .ref qf4, .ref qf5, .ref qf6, .int v7, .int v8, .int v9, .int v10, .ref qf11, .int v12, .ref qf13])), (qf0, .inl (cf0, nb, .inl f0))] U.heap ∧ va_K (dC, dI) vwCl [(cf0, .byte)] U ∧ va_D (fun _ => True) [(h0, .inr (3, [.ref qf0, .int v1, .int v2, .int v3, .ref qf4, .ref qf5, .ref qf6, .int v7, .int v8, .int v9, .int v10, .ref qf11, .int v12, .ref qf13])), (qf0, .inl (cf0, nb, .inl f0))])) (va_Qi (fun (r : Int32) (u : Unit) => match u with | () => r0 = r) (fun (u : Unit) (t : State) => match u with | () => va_P (dC, dI) vwCl [(h0, .inr (3, [.ref qf0, .int v1, .int v2, .int v3, .ref qf4, .ref qf5, .ref qf6, .int v7, .int v8, .int v9, .int v10, .ref qf11, .int v12, .ref qf13])), (qf0, .inl (cf0, nb, .inl f0))] t.heap ∧ va_K (dC, dI) vwCl [(cf0, .byte)] t ∧ va_D (va_A [(h0, .inr (3, [.ref qf0, .int v1, .int v2, .int v3, .ref qf4, .ref qf5, .ref qf6, .int v7, .int v8, .int v9, .int v10, .ref qf11, .int v12, .ref qf13])), (qf0, .inl (cf0, nb, .inl f0))] sz) [(h0, .inr (3, [.ref qf0, .int v1, .int v2, .int v3, .ref qf4, .ref qf5, .ref qf6, .int v7, .int v8, .int v9, .int v10, .ref qf11, .int v12, .ref qf13])), (qf0, .inl (cf0, nb, .inl f0))]) (va_A [(h0, .inr (3, [.ref qf0, .int v1, .int v2, .int v3, .ref qf4, .ref qf5, .ref qf6, .int v7, .int v8, .int v9, .int v10, .ref qf11, .int v12, .ref qf13])), (qf0, .inl (cf0, nb, .inl f0))] sz)) 0 0 (va_A [(h0, .inr (3, [.ref qf0, .int v1, .int v2, .int v3, .ref qf4, .ref qf5, .ref qf6, .int v7, .int v8, .int v9, .int v10, .ref qf11, .int v12, .ref qf13])), (qf0, .inl (cf0, nb, .inl f0))] sz) := by
  refine Met.ofW (cc := cX3_behindKind) (maxL := 6) (ret := (some .int)) (by decide) rfl ?_
  intro p e s m args below meth c s₁ B hml hv
  obtain ⟨rfl, hsz, hP, hK, hD0⟩ := hv
  have hx := B.exec
  have hb := B.bytes
  have hr := B.returns
  have hts := atoms_spec (ws := (.code yX3_behindKind cX3_behindKind 6 (some .int) :: VS_h7)) B.pre
  replace hts := fun w (h : w ∈ VS_h7) => hts w (List.mem_cons_of_mem _ h)
  have hown : s.vm.findClass RX3 = some m.cls := findClass_of_methodNamed B.named
  have hlocks := B.notSynchronized
  subst hsz
  have hD := hD0.self (sz := s.heap.size)
  generalize hAe : va_A [(h0, .inr (3, [.ref qf0, .int v1, .int v2, .int v3, .ref qf4, .ref qf5, .ref qf6, .int v7, .int v8, .int v9, .int v10, .ref qf11, .int v12, .ref qf13])), (qf0, .inl (cf0, nb, .inl f0))] s.heap.size = A at hD  ⊢
  have hA : ∀ q : Nat, s.heap.size ≤ q → A q := fun q h => by rw [← hAe]; exact Or.inr h
  have hP : va_P (dC, dI) vwCl [(h0, .inr (3, [.ref qf0, .int v1, .int v2, .int v3, .ref qf4, .ref qf5, .ref qf6, .int v7, .int v8, .int v9, .int v10, .ref qf11, .int v12, .ref qf13])), (qf0, .inl (cf0, nb, .inl f0))] s.heap := hP
  have hl := lv_entry ([.ref h0, .int a1, .int a2]) (n := 6) (Nat.le_of_ble_eq_true rfl)
  rw [lg_entry_eq]
  generalize (lg_sl ([.ref h0, .int a1, .int a2]) ++ List.replicate (6 - (lg_sl ([.ref h0, .int a1, .int a2])).length) Slot.unset).toArray = ls at hl ⊢
  have hl : lv_has ls 6 [(0, .ref h0), (1, .int a1), (2, .int a2)] := hl
  obtain ⟨H, hH⟩ : ∃ H : Heap, s.heap = H := ⟨_, rfl⟩
  rw [hH] at hP ⊢
  have hS : va_S A s.heap H [] := by rw [← hH]; exact va_S.rf
  obtain ⟨locs, hlo⟩ : ∃ locs : List Loc, locs = [] := ⟨_, rfl⟩
  rw [← hlo] at hS ⊢
  unfold sp_v3_behindKind at hsp
  refine jn_use (α := Heap × List Loc × Array Slot × Int32 × Int32 × Int32) (fun x9 => x9.1) (fun x9 => x9.2.1) (fun x9 => F0 m 111 x9.2.2.1 []) (fun x9 => match x9 with | (H, locs, ls, l2_111, l4_111, l5_111) => lv_has ls 6 [(0, .ref h0), (2, .int l2_111), (4, .int l4_111), (5, .int l5_111)] ∧ va_S A s.heap H locs ∧ va_D A [(h0, .inr (3, [.ref qf0, .int v1, .int v2, .int v3, .ref qf4, .ref qf5, .ref qf6, .int v7, .int v8, .int v9, .int v10, .ref qf11, .int v12, .ref qf13])), (qf0, .inl (cf0, nb, .inl f0))] ∧ va_P (dC, dI) vwCl [(h0, .inr (3, [.ref qf0, .int v1, .int v2, .int v3, .ref qf4, .ref qf5, .ref qf6, .int v7, .int v8, .int v9, .int v10, .ref qf11, .int v12, .ref qf13])), (qf0, .inl (cf0, nb, .inl f0))] H ∧ jn_v3_behindKind_111 nf a1 a2 v1 nb f0 l2_111 l4_111 l5_111 = some r0) ?_ ?_
  · intro x9 hJ9
    obtain ⟨H, locs, ls, l2_111, l4_111, l5_111⟩ := x9
    obtain ⟨hl, hS, hD, hP, hsp⟩ := hJ9
    replace hl : lv_has ls 6 [(0, .ref h0), (2, .int l2_111), (4, .int l4_111), (5, .int l5_111)] := hl
    replace hS : va_S A s.heap H locs := hS
    replace hD : va_D A [(h0, .inr (3, [.ref qf0, .int v1, .int v2, .int v3, .ref qf4, .ref qf5, .ref qf6, .int v7, .int v8, .int v9, .int v10, .ref qf11, .int v12, .ref qf13])), (qf0, .inl (cf0, nb, .inl f0))] := hD
    replace hP : va_P (dC, dI) vwCl [(h0, .inr (3, [.ref qf0, .int v1, .int v2, .int v3, .ref qf4, .ref qf5, .ref qf6, .int v7, .int v8, .int v9, .int v10, .ref qf11, .int v12, .ref qf13])), (qf0, .inl (cf0, nb, .inl f0))] H := hP
    replace hsp : jn_v3_behindKind_111 nf a1 a2 v1 nb f0 l2_111 l4_111 l5_111 = some r0 := hsp
    show W _ _ _ _ _ _ _ _ _ _ H locs _ _ _ (F0 m 111 ls [])
    unfold jn_v3_behindKind_111 at hsp
    try dsimp only at hsp
    refine lv_iload hx hb dX3_behindKind_111 (lv_at hl 3 rfl) ?_
    refine lv_iload_n hx hb dX3_behindKind_113 rfl (lv_at hl 1 rfl) ?_
    refine lv_icmp_ge (tgt := 140) hx hb dX3_behindKind_114 (by decide) (fun c_13 => ?_) (fun c_13 => ?_)
    · rw [if_pos c_13] at hsp
      refine lv_iconst (v := (-1)) hx hb dX3_behindKind_140 (by decide) ?_
      have hr0 := Option.some.inj hsp
      clear hsp
      subst hr0
      have hP9 := hP.sub (ws' := [(h0, .inr (3, [.ref qf0, .int v1, .int v2, .int v3, .ref qf4, .ref qf5, .ref qf6, .int v7, .int v8, .int v9, .int v10, .ref qf11, .int v12, .ref qf13])), (qf0, .inl (cf0, nb, .inl f0))]) [0, 1] rfl
      have hD9 := hD.sub (ws' := [(h0, .inr (3, [.ref qf0, .int v1, .int v2, .int v3, .ref qf4, .ref qf5, .ref qf6, .int v7, .int v8, .int v9, .int v10, .ref qf11, .int v12, .ref qf13])), (qf0, .inl (cf0, nb, .inl f0))]) [0, 1] (by decide) rfl
      have hK9 := hK.sub (tys' := [(cf0, .byte)]) [0] rfl
      exact W.iret hx hb hr (fun t ht hW => ⟨⟨((-1)), (), rfl, rfl, by rw [ht]; exact hP9, va_K.moved hW.alike hK9, hD9⟩, hS.F ht⟩) hS.2.2 dX3_behindKind_141
    · rw [if_neg c_13] at hsp
      refine lv_aload_n hx hb dX3_behindKind_117 rfl (lv_at hl 0 rfl) ?_
      refine va_get (D := (dC, dI)) (ci := 3) (v := .ref qf0) (C := RX3) (T := TX3) (N := 14) hx hb hts uV_h7_X3 hown hK hP 0 rfl rfl 0 (by decide) (hts (.fieldLink RX3 9 "ClassMill$Image" "bytes" "[B") mw_h7_174) (fun _ h9 => h9) rfl dX3_behindKind_118 ?_
      refine lv_iload hx hb dX3_behindKind_121 (lv_at hl 2 rfl) ?_
      refine lv_iconst (v := 1) hx hb dX3_behindKind_123 (by decide) ?_
      refine lv_iadd hx hb dX3_behindKind_124 ?_
      refine lv_iload hx hb dX3_behindKind_125 (lv_at hl 3 rfl) ?_
      obtain ⟨u4_0, hu_4, hsp⟩ := ox_bind hsp
      try dsimp only at hsp
      have hPc := hP.sub (ws' := [(qf0, .inl (cf0, nb, .inl f0))]) [1] rfl
      have hDc := hD.sub (ws' := [(qf0, .inl (cf0, nb, .inl f0))]) [1] (by decide) rfl
      have hKc := hK.sub (tys' := [(cf0, .byte)]) [0] rfl
      have hFc := va_free (wc := [(qf0, .inl (cf0, nb, .inl f0))]) hD hS hA [1] rfl
      refine va_calli (va_runS (As := [.ref qf0, .int (l4_111 + 1), .int l5_111]) (rest := []) ⟨hx, hb, hml, hown, hts⟩ (t9_isName l dC dI H.size qf0 ((l4_111 + 1)) l5_111 cf0 nb f0 nf u4_0 hu_4) (va_cwS 3 hts gv_h7_35 rfl rfl rfl (by decide +kernel) ⟨Nat.le_of_ble_eq_true rfl, Nat.le_of_ble_eq_true rfl⟩) ⟨fun a U g mk q => by obtain ⟨q0, q1, qP, qK, qD⟩ := q; exact ⟨q0, q1, qP, va_K.moved (u := U) (U := U.calling g mk a) (Vm.Alike.refl U.vm) qK, qD⟩, fun U hU hW => ⟨rfl, by rw [hU], by rw [hU]; exact hPc, va_K.moved hW.alike hKc, hDc.weaken (fun _ _ _ _ => trivial)⟩⟩ rfl rfl hl.1 rfl (lv_room (Nat.le_of_ble_eq_true rfl)) dX3_behindKind_127 ⟨Nat.le_of_ble_eq_true rfl, Nat.le_of_ble_eq_true rfl⟩) hS (fun q _ h => hFc q h) hFc ?_
      clear hS
      intro r_14 u t H1 locs ht hvm hw hB hz1 hk1 hS
      obtain ⟨⟩ := u
      obtain ⟨hP1, hK1, hD1⟩ := hB
      rw [ht] at hP1
      have hK1 := va_K.moved hvm.symm hK1
      try dsimp only at hw
      have hPD := va_join (wr := [(h0, .inr (3, [.ref qf0, .int v1, .int v2, .int v3, .ref qf4, .ref qf5, .ref qf6, .int v7, .int v8, .int v9, .int v10, .ref qf11, .int v12, .ref qf13]))]) (w1 := [(qf0, .inl (cf0, nb, .inl f0))]) hP hD [1] [0] rfl rfl (by decide) (by decide) hk1 hFc hP1 hD1
      clear hP hD
      obtain ⟨hP, hD⟩ := hPD
      replace hK := (hK.sub (tys' := []) [] rfl).app hK1
      clear hPc hDc hKc hFc hP1 hK1 hD1 hz1 hk1 ht hvm
      generalize H1 = H at hP hS ⊢
      replace hP : va_P (dC, dI) vwCl [(h0, .inr (3, [.ref qf0, .int v1, .int v2, .int v3, .ref qf4, .ref qf5, .ref qf6, .int v7, .int v8, .int v9, .int v10, .ref qf11, .int v12, .ref qf13])), (qf0, .inl (cf0, nb, .inl f0))] H := hP
      replace hD : va_D A [(h0, .inr (3, [.ref qf0, .int v1, .int v2, .int v3, .ref qf4, .ref qf5, .ref qf6, .int v7, .int v8, .int v9, .int v10, .ref qf11, .int v12, .ref qf13])), (qf0, .inl (cf0, nb, .inl f0))] := hD
      replace hK : va_K (dC, dI) vwCl [(cf0, .byte)] s := hK
      obtain ⟨rfl, hz_4⟩ := hw
      rcases hz_4 with rfl | rfl
      · rw [if_pos rfl] at hsp
        refine lv_if_eq (tgt := 140) hx hb dX3_behindKind_130 (by decide) (fun c_15 => ?_) (fun c_15 => (show False by revert c_15; decide).elim)
        refine lv_iconst (v := (-1)) hx hb dX3_behindKind_140 (by decide) ?_
        have hr0 := Option.some.inj hsp
        clear hsp
        subst hr0
        have hP9 := hP.sub (ws' := [(h0, .inr (3, [.ref qf0, .int v1, .int v2, .int v3, .ref qf4, .ref qf5, .ref qf6, .int v7, .int v8, .int v9, .int v10, .ref qf11, .int v12, .ref qf13])), (qf0, .inl (cf0, nb, .inl f0))]) [0, 1] rfl
        have hD9 := hD.sub (ws' := [(h0, .inr (3, [.ref qf0, .int v1, .int v2, .int v3, .ref qf4, .ref qf5, .ref qf6, .int v7, .int v8, .int v9, .int v10, .ref qf11, .int v12, .ref qf13])), (qf0, .inl (cf0, nb, .inl f0))]) [0, 1] (by decide) rfl
        have hK9 := hK.sub (tys' := [(cf0, .byte)]) [0] rfl
        exact W.iret hx hb hr (fun t ht hW => ⟨⟨((-1)), (), rfl, rfl, by rw [ht]; exact hP9, va_K.moved hW.alike hK9, hD9⟩, hS.F ht⟩) hS.2.2 dX3_behindKind_141
      · rw [if_neg (by decide)] at hsp
        refine lv_if_eq (tgt := 140) hx hb dX3_behindKind_130 (by decide) (fun c_16 => (show False by revert c_16; decide).elim) (fun c_16 => ?_)
        refine lv_iload hx hb dX3_behindKind_133 (lv_at hl 3 rfl) ?_
        refine lv_iconst (v := 1) hx hb dX3_behindKind_135 (by decide) ?_
        refine lv_iadd hx hb dX3_behindKind_136 ?_
        refine lv_goto (tgt := 141) hx hb dX3_behindKind_137 (by decide) ?_
        have hr0 := Option.some.inj hsp
        clear hsp
        subst hr0
        have hP9 := hP.sub (ws' := [(h0, .inr (3, [.ref qf0, .int v1, .int v2, .int v3, .ref qf4, .ref qf5, .ref qf6, .int v7, .int v8, .int v9, .int v10, .ref qf11, .int v12, .ref qf13])), (qf0, .inl (cf0, nb, .inl f0))]) [0, 1] rfl
        have hD9 := hD.sub (ws' := [(h0, .inr (3, [.ref qf0, .int v1, .int v2, .int v3, .ref qf4, .ref qf5, .ref qf6, .int v7, .int v8, .int v9, .int v10, .ref qf11, .int v12, .ref qf13])), (qf0, .inl (cf0, nb, .inl f0))]) [0, 1] (by decide) rfl
        have hK9 := hK.sub (tys' := [(cf0, .byte)]) [0] rfl
        exact W.iret hx hb hr (fun t ht hW => ⟨⟨((l5_111 + 1)), (), rfl, rfl, by rw [ht]; exact hP9, va_K.moved hW.alike hK9, hD9⟩, hS.F ht⟩) hS.2.2 dX3_behindKind_141
  intro hj_111
  refine jn_use (α := Heap × List Loc × Array Slot × Int32 × Int32 × Int32) (fun x9 => x9.1) (fun x9 => x9.2.1) (fun x9 => F0 m 62 x9.2.2.1 [.int (x9.2.2.2.2.2)]) (fun x9 => match x9 with | (H, locs, ls, l2_62, l4_62, s0_62) => lv_has ls 6 [(0, .ref h0), (2, .int l2_62), (4, .int l4_62)] ∧ va_S A s.heap H locs ∧ va_D A [(h0, .inr (3, [.ref qf0, .int v1, .int v2, .int v3, .ref qf4, .ref qf5, .ref qf6, .int v7, .int v8, .int v9, .int v10, .ref qf11, .int v12, .ref qf13])), (qf0, .inl (cf0, nb, .inl f0))] ∧ va_P (dC, dI) vwCl [(h0, .inr (3, [.ref qf0, .int v1, .int v2, .int v3, .ref qf4, .ref qf5, .ref qf6, .int v7, .int v8, .int v9, .int v10, .ref qf11, .int v12, .ref qf13])), (qf0, .inl (cf0, nb, .inl f0))] H ∧ jn_v3_behindKind_62 nf a1 a2 v1 nb f0 l2_62 l4_62 s0_62 = some r0) ?_ ?_
  · intro x9 hJ9
    obtain ⟨H, locs, ls, l2_62, l4_62, s0_62⟩ := x9
    obtain ⟨hl, hS, hD, hP, hsp⟩ := hJ9
    replace hl : lv_has ls 6 [(0, .ref h0), (2, .int l2_62), (4, .int l4_62)] := hl
    replace hS : va_S A s.heap H locs := hS
    replace hD : va_D A [(h0, .inr (3, [.ref qf0, .int v1, .int v2, .int v3, .ref qf4, .ref qf5, .ref qf6, .int v7, .int v8, .int v9, .int v10, .ref qf11, .int v12, .ref qf13])), (qf0, .inl (cf0, nb, .inl f0))] := hD
    replace hP : va_P (dC, dI) vwCl [(h0, .inr (3, [.ref qf0, .int v1, .int v2, .int v3, .ref qf4, .ref qf5, .ref qf6, .int v7, .int v8, .int v9, .int v10, .ref qf11, .int v12, .ref qf13])), (qf0, .inl (cf0, nb, .inl f0))] H := hP
    replace hsp : jn_v3_behindKind_62 nf a1 a2 v1 nb f0 l2_62 l4_62 s0_62 = some r0 := hsp
    show W _ _ _ _ _ _ _ _ _ _ H locs _ _ _ (F0 m 62 ls [.int s0_62])
    unfold jn_v3_behindKind_62 at hsp
    try dsimp only at hsp
    refine lv_istore_n (lv' := [(3, .int s0_62), (0, .ref h0), (2, .int l2_62), (4, .int l4_62)]) hx hb dX3_behindKind_62 rfl hl (by decide) rfl (fun ls hl => ?_)
    refine lv_iload_n hx hb dX3_behindKind_63 rfl (lv_at hl 0 rfl) ?_
    refine lv_bipush (v := 73) hx hb dX3_behindKind_64 (by decide) ?_
    refine lv_icmp_ne (tgt := 74) hx hb dX3_behindKind_66 (by decide) (fun c_8 => ?_) (fun c_8 => ?_)
    · rw [if_neg c_8] at hsp
      refine lv_iload_n hx hb dX3_behindKind_74 rfl (lv_at hl 0 rfl) ?_
      refine lv_bipush (v := 76) hx hb dX3_behindKind_75 (by decide) ?_
      refine lv_icmp_eq (tgt := 82) hx hb dX3_behindKind_77 (by decide) (fun c_9 => ?_) (fun c_9 => ?_)
      · rw [if_pos c_9] at hsp
        refine lv_iload hx hb dX3_behindKind_82 (lv_at hl 3 rfl) ?_
        refine lv_iconst (v := 1) hx hb dX3_behindKind_84 (by decide) ?_
        refine lv_iadd hx hb dX3_behindKind_85 ?_
        refine lv_istore (lv' := [(5, .int (l4_62 + 1)), (3, .int s0_62), (0, .ref h0), (2, .int l2_62), (4, .int l4_62)]) hx hb dX3_behindKind_86 hl (by decide) rfl (fun ls hl => ?_)
        replace hl : lv_has ls 6 [(5, .int (l4_62 + 1)), (0, .ref h0), (2, .int l2_62), (4, .int l4_62)] := lv_sub hl [0, 2, 3, 4] rfl
        replace hP := hP.sub (ws' := [(h0, .inr (3, [.ref qf0, .int v1, .int v2, .int v3, .ref qf4, .ref qf5, .ref qf6, .int v7, .int v8, .int v9, .int v10, .ref qf11, .int v12, .ref qf13])), (qf0, .inl (cf0, nb, .inl f0))]) [0, 1] rfl
        replace hD := hD.sub (ws' := [(h0, .inr (3, [.ref qf0, .int v1, .int v2, .int v3, .ref qf4, .ref qf5, .ref qf6, .int v7, .int v8, .int v9, .int v10, .ref qf11, .int v12, .ref qf13])), (qf0, .inl (cf0, nb, .inl f0))]) [0, 1] (by decide) rfl
        replace hK := hK.sub (tys' := [(cf0, .byte)]) [0] rfl
        obtain ⟨n_88, hn_88⟩ : ∃ z : Nat, z = nf := ⟨_, rfl⟩
        obtain ⟨l2_88, el2_88⟩ : ∃ z : Int32, z = l2_62 := ⟨_, rfl⟩
        obtain ⟨l4_88, el4_88⟩ : ∃ z : Int32, z = l4_62 := ⟨_, rfl⟩
        obtain ⟨l5_88, el5_88⟩ : ∃ z : Int32, z = (l4_62 + 1) := ⟨_, rfl⟩
        replace hsp : lp_v3_behindKind_88 nf n_88 a1 a2 v1 nb f0 l2_88 l4_88 l5_88 = some r0 := by rw [hn_88, el2_88, el4_88, el5_88]; exact hsp
        replace hl : lv_has ls 6 [(5, .int l5_88), (0, .ref h0), (2, .int l2_88), (4, .int l4_88)] := by rw [el2_88, el4_88, el5_88]; exact hl
        clear hn_88 el2_88 el4_88 el5_88
        try clear hlo
        try clear hH
        revert hsp
        revert hP
        revert hD
        revert hS
        revert hl
        revert l5_88
        revert l4_88
        revert l2_88
        revert ls
        revert locs
        revert H
        induction n_88 with
        | zero => intro H locs ls l2_88 l4_88 l5_88  hl hS hD hP hsp; unfold lp_v3_behindKind_88 at hsp; cases hsp
        | succ n_88 ih_88 =>
          intro H locs ls l2_88 l4_88 l5_88  hl hS hD hP hsp
          unfold lp_v3_behindKind_88 at hsp
          try dsimp only at hsp
          refine lv_iload hx hb dX3_behindKind_88 (lv_at hl 0 rfl) ?_
          refine lv_iload_n hx hb dX3_behindKind_90 rfl (lv_at hl 2 rfl) ?_
          refine lv_icmp_ge (tgt := 111) hx hb dX3_behindKind_91 (by decide) (fun c_10 => ?_) (fun c_10 => ?_)
          · rw [if_pos c_10] at hsp
            exact hj_111 (H, locs, ls, l2_88, l4_88, l5_88) ⟨lv_sub hl [1, 2, 3, 0] rfl, hS, hD.sub (ws' := [(h0, .inr (3, [.ref qf0, .int v1, .int v2, .int v3, .ref qf4, .ref qf5, .ref qf6, .int v7, .int v8, .int v9, .int v10, .ref qf11, .int v12, .ref qf13])), (qf0, .inl (cf0, nb, .inl f0))]) [0, 1] (by decide) rfl, hP.sub (ws' := [(h0, .inr (3, [.ref qf0, .int v1, .int v2, .int v3, .ref qf4, .ref qf5, .ref qf6, .int v7, .int v8, .int v9, .int v10, .ref qf11, .int v12, .ref qf13])), (qf0, .inl (cf0, nb, .inl f0))]) [0, 1] rfl, hsp⟩
          · rw [if_neg c_10] at hsp
            refine lv_aload_n hx hb dX3_behindKind_94 rfl (lv_at hl 1 rfl) ?_
            refine lv_iload hx hb dX3_behindKind_95 (lv_at hl 0 rfl) ?_
            obtain ⟨u3_0, hu_3, hsp⟩ := ox_bind hsp
            try dsimp only at hsp
            have hPc := hP.sub (ws' := [(h0, .inr (3, [.ref qf0, .int v1, .int v2, .int v3, .ref qf4, .ref qf5, .ref qf6, .int v7, .int v8, .int v9, .int v10, .ref qf11, .int v12, .ref qf13])), (qf0, .inl (cf0, nb, .inl f0))]) [0, 1] rfl
            have hDc := hD.sub (ws' := [(h0, .inr (3, [.ref qf0, .int v1, .int v2, .int v3, .ref qf4, .ref qf5, .ref qf6, .int v7, .int v8, .int v9, .int v10, .ref qf11, .int v12, .ref qf13])), (qf0, .inl (cf0, nb, .inl f0))]) [0, 1] (by decide) rfl
            have hKc := hK.sub (tys' := [(cf0, .byte)]) [0] rfl
            have hFc := va_free (wc := [(h0, .inr (3, [.ref qf0, .int v1, .int v2, .int v3, .ref qf4, .ref qf5, .ref qf6, .int v7, .int v8, .int v9, .int v10, .ref qf11, .int v12, .ref qf13])), (qf0, .inl (cf0, nb, .inl f0))]) hD hS hA [0, 1] rfl
            refine va_calli (va_runV (As := [.int l5_88]) (rest := []) ⟨hx, hb, hml, hown, hts⟩ (ti_byteAt l dC dI H.size h0 l5_88 qf0 v1 v2 v3 qf4 qf5 qf6 v7 v8 v9 v10 qf11 v12 qf13 cf0 nb f0 nf u3_0 hu_3) (cwV 1 hts gv_h7_36 rfl rfl rfl (by decide +kernel) ⟨Nat.le_of_ble_eq_true rfl, Nat.le_of_ble_eq_true rfl⟩) ⟨fun a U g mk q => by obtain ⟨q0, q1, qP, qK, qD⟩ := q; exact ⟨q0, q1, qP, va_K.moved (u := U) (U := U.calling g mk a) (Vm.Alike.refl U.vm) qK, qD⟩, va_recv hKc hPc (ci := 3) (q0 := 0) rfl rfl, fun U hU hW => ⟨rfl, by rw [hU], by rw [hU]; exact hPc, va_K.moved hW.alike hKc, hDc.weaken (fun _ _ _ _ => trivial)⟩⟩ rfl rfl hl.1 rfl (lv_room (Nat.le_of_ble_eq_true rfl)) dX3_behindKind_97 ⟨Nat.le_of_ble_eq_true rfl, Nat.le_of_ble_eq_true rfl⟩) hS (fun q _ h => hFc q h) hFc ?_
            clear hS
            intro r_11 u t H1 locs ht hvm hw hB hz1 hk1 hS
            obtain ⟨⟩ := u
            obtain ⟨hP1, hK1, hD1⟩ := hB
            rw [ht] at hP1
            have hK1 := va_K.moved hvm.symm hK1
            try dsimp only at hw
            have hPD := va_join (wr := []) (w1 := [(h0, .inr (3, [.ref qf0, .int v1, .int v2, .int v3, .ref qf4, .ref qf5, .ref qf6, .int v7, .int v8, .int v9, .int v10, .ref qf11, .int v12, .ref qf13])), (qf0, .inl (cf0, nb, .inl f0))]) hP hD [0, 1] [] rfl rfl (by decide) (by decide) hk1 hFc hP1 hD1
            clear hP hD
            obtain ⟨hP, hD⟩ := hPD
            replace hK := (hK.sub (tys' := []) [] rfl).app hK1
            clear hPc hDc hKc hFc hP1 hK1 hD1 hz1 hk1 ht hvm
            generalize H1 = H at hP hS ⊢
            replace hP : va_P (dC, dI) vwCl [(h0, .inr (3, [.ref qf0, .int v1, .int v2, .int v3, .ref qf4, .ref qf5, .ref qf6, .int v7, .int v8, .int v9, .int v10, .ref qf11, .int v12, .ref qf13])), (qf0, .inl (cf0, nb, .inl f0))] H := hP
            replace hD : va_D A [(h0, .inr (3, [.ref qf0, .int v1, .int v2, .int v3, .ref qf4, .ref qf5, .ref qf6, .int v7, .int v8, .int v9, .int v10, .ref qf11, .int v12, .ref qf13])), (qf0, .inl (cf0, nb, .inl f0))] := hD
            replace hK : va_K (dC, dI) vwCl [(cf0, .byte)] s := hK
            obtain rfl := hw
            refine lv_bipush (v := 59) hx hb dX3_behindKind_100 (by decide) ?_
            refine lv_icmp_eq (tgt := 111) hx hb dX3_behindKind_102 (by decide) (fun c_12 => ?_) (fun c_12 => ?_)
            · rw [if_pos c_12] at hsp
              exact hj_111 (H, locs, ls, l2_88, l4_88, l5_88) ⟨lv_sub hl [1, 2, 3, 0] rfl, hS, hD.sub (ws' := [(h0, .inr (3, [.ref qf0, .int v1, .int v2, .int v3, .ref qf4, .ref qf5, .ref qf6, .int v7, .int v8, .int v9, .int v10, .ref qf11, .int v12, .ref qf13])), (qf0, .inl (cf0, nb, .inl f0))]) [0, 1] (by decide) rfl, hP.sub (ws' := [(h0, .inr (3, [.ref qf0, .int v1, .int v2, .int v3, .ref qf4, .ref qf5, .ref qf6, .int v7, .int v8, .int v9, .int v10, .ref qf11, .int v12, .ref qf13])), (qf0, .inl (cf0, nb, .inl f0))]) [0, 1] rfl, hsp⟩
            · rw [if_neg c_12] at hsp
              refine lv_iinc (v := (l5_88 + 1)) (lv' := [(5, .int (l5_88 + 1)), (0, .ref h0), (2, .int l2_88), (4, .int l4_88)]) hx hb dX3_behindKind_105 hl (k := 0) rfl rfl (by decide) rfl (fun ls hl => ?_)
              refine lv_goto (tgt := 88) hx hb dX3_behindKind_108 (by decide) ?_
              exact ih_88 H locs ls l2_88 l4_88 (l5_88 + 1) (lv_sub hl [0, 1, 2, 3] rfl) hS (hD.sub (ws' := [(h0, .inr (3, [.ref qf0, .int v1, .int v2, .int v3, .ref qf4, .ref qf5, .ref qf6, .int v7, .int v8, .int v9, .int v10, .ref qf11, .int v12, .ref qf13])), (qf0, .inl (cf0, nb, .inl f0))]) [0, 1] (by decide) rfl) (hP.sub (ws' := [(h0, .inr (3, [.ref qf0, .int v1, .int v2, .int v3, .ref qf4, .ref qf5, .ref qf6, .int v7, .int v8, .int v9, .int v10, .ref qf11, .int v12, .ref qf13])), (qf0, .inl (cf0, nb, .inl f0))]) [0, 1] rfl) hsp
      · rw [if_neg c_9] at hsp
        refine lv_iconst (v := (-1)) hx hb dX3_behindKind_80 (by decide) ?_
        have hr0 := Option.some.inj hsp
        clear hsp
        subst hr0
        have hP9 := hP.sub (ws' := [(h0, .inr (3, [.ref qf0, .int v1, .int v2, .int v3, .ref qf4, .ref qf5, .ref qf6, .int v7, .int v8, .int v9, .int v10, .ref qf11, .int v12, .ref qf13])), (qf0, .inl (cf0, nb, .inl f0))]) [0, 1] rfl
        have hD9 := hD.sub (ws' := [(h0, .inr (3, [.ref qf0, .int v1, .int v2, .int v3, .ref qf4, .ref qf5, .ref qf6, .int v7, .int v8, .int v9, .int v10, .ref qf11, .int v12, .ref qf13])), (qf0, .inl (cf0, nb, .inl f0))]) [0, 1] (by decide) rfl
        have hK9 := hK.sub (tys' := [(cf0, .byte)]) [0] rfl
        exact W.iret hx hb hr (fun t ht hW => ⟨⟨((-1)), (), rfl, rfl, by rw [ht]; exact hP9, va_K.moved hW.alike hK9, hD9⟩, hS.F ht⟩) hS.2.2 dX3_behindKind_81
    · rw [if_pos c_8] at hsp
      refine lv_iload hx hb dX3_behindKind_69 (lv_at hl 3 rfl) ?_
      refine lv_iconst (v := 1) hx hb dX3_behindKind_71 (by decide) ?_
      refine lv_iadd hx hb dX3_behindKind_72 ?_
      have hr0 := Option.some.inj hsp
      clear hsp
      subst hr0
      have hP9 := hP.sub (ws' := [(h0, .inr (3, [.ref qf0, .int v1, .int v2, .int v3, .ref qf4, .ref qf5, .ref qf6, .int v7, .int v8, .int v9, .int v10, .ref qf11, .int v12, .ref qf13])), (qf0, .inl (cf0, nb, .inl f0))]) [0, 1] rfl
      have hD9 := hD.sub (ws' := [(h0, .inr (3, [.ref qf0, .int v1, .int v2, .int v3, .ref qf4, .ref qf5, .ref qf6, .int v7, .int v8, .int v9, .int v10, .ref qf11, .int v12, .ref qf13])), (qf0, .inl (cf0, nb, .inl f0))]) [0, 1] (by decide) rfl
      have hK9 := hK.sub (tys' := [(cf0, .byte)]) [0] rfl
      exact W.iret hx hb hr (fun t ht hW => ⟨⟨((l4_62 + 1)), (), rfl, rfl, by rw [ht]; exact hP9, va_K.moved hW.alike hK9, hD9⟩, hS.F ht⟩) hS.2.2 dX3_behindKind_73
  intro hj_62
  refine jn_use (α := Heap × List Loc × Array Slot × Int32 × Int32) (fun x9 => x9.1) (fun x9 => x9.2.1) (fun x9 => F0 m 44 x9.2.2.1 [.int (x9.2.2.2.2)]) (fun x9 => match x9 with | (H, locs, ls, l2_44, s0_44) => lv_has ls 6 [(0, .ref h0), (2, .int l2_44)] ∧ va_S A s.heap H locs ∧ va_D A [(h0, .inr (3, [.ref qf0, .int v1, .int v2, .int v3, .ref qf4, .ref qf5, .ref qf6, .int v7, .int v8, .int v9, .int v10, .ref qf11, .int v12, .ref qf13])), (qf0, .inl (cf0, nb, .inl f0))] ∧ va_P (dC, dI) vwCl [(h0, .inr (3, [.ref qf0, .int v1, .int v2, .int v3, .ref qf4, .ref qf5, .ref qf6, .int v7, .int v8, .int v9, .int v10, .ref qf11, .int v12, .ref qf13])), (qf0, .inl (cf0, nb, .inl f0))] H ∧ jn_v3_behindKind_44 nf a1 a2 v1 nb f0 l2_44 s0_44 = some r0) ?_ ?_
  · intro x9 hJ9
    obtain ⟨H, locs, ls, l2_44, s0_44⟩ := x9
    obtain ⟨hl, hS, hD, hP, hsp⟩ := hJ9
    replace hl : lv_has ls 6 [(0, .ref h0), (2, .int l2_44)] := hl
    replace hS : va_S A s.heap H locs := hS
    replace hD : va_D A [(h0, .inr (3, [.ref qf0, .int v1, .int v2, .int v3, .ref qf4, .ref qf5, .ref qf6, .int v7, .int v8, .int v9, .int v10, .ref qf11, .int v12, .ref qf13])), (qf0, .inl (cf0, nb, .inl f0))] := hD
    replace hP : va_P (dC, dI) vwCl [(h0, .inr (3, [.ref qf0, .int v1, .int v2, .int v3, .ref qf4, .ref qf5, .ref qf6, .int v7, .int v8, .int v9, .int v10, .ref qf11, .int v12, .ref qf13])), (qf0, .inl (cf0, nb, .inl f0))] H := hP
    replace hsp : jn_v3_behindKind_44 nf a1 a2 v1 nb f0 l2_44 s0_44 = some r0 := hsp
    show W _ _ _ _ _ _ _ _ _ _ H locs _ _ _ (F0 m 44 ls [.int s0_44])
    unfold jn_v3_behindKind_44 at hsp
    try dsimp only at hsp
    refine lv_istore (lv' := [(4, .int s0_44), (0, .ref h0), (2, .int l2_44)]) hx hb dX3_behindKind_44 hl (by decide) rfl (fun ls hl => ?_)
    refine lv_iload hx hb dX3_behindKind_46 (lv_at hl 0 rfl) ?_
    refine lv_iload_n hx hb dX3_behindKind_48 rfl (lv_at hl 2 rfl) ?_
    refine lv_icmp_ge (tgt := 61) hx hb dX3_behindKind_49 (by decide) (fun c_6 => ?_) (fun c_6 => ?_)
    · rw [if_pos c_6] at hsp
      refine lv_iconst (v := 0) hx hb dX3_behindKind_61 (by decide) ?_
      exact hj_62 (H, locs, ls, l2_44, s0_44, 0) ⟨lv_sub hl [1, 2, 0] rfl, hS, hD.sub (ws' := [(h0, .inr (3, [.ref qf0, .int v1, .int v2, .int v3, .ref qf4, .ref qf5, .ref qf6, .int v7, .int v8, .int v9, .int v10, .ref qf11, .int v12, .ref qf13])), (qf0, .inl (cf0, nb, .inl f0))]) [0, 1] (by decide) rfl, hP.sub (ws' := [(h0, .inr (3, [.ref qf0, .int v1, .int v2, .int v3, .ref qf4, .ref qf5, .ref qf6, .int v7, .int v8, .int v9, .int v10, .ref qf11, .int v12, .ref qf13])), (qf0, .inl (cf0, nb, .inl f0))]) [0, 1] rfl, hsp⟩
    · rw [if_neg c_6] at hsp
      refine lv_aload_n hx hb dX3_behindKind_52 rfl (lv_at hl 1 rfl) ?_
      refine lv_iload hx hb dX3_behindKind_53 (lv_at hl 0 rfl) ?_
      obtain ⟨u2_0, hu_2, hsp⟩ := ox_bind hsp
      try dsimp only at hsp
      have hPc := hP.sub (ws' := [(h0, .inr (3, [.ref qf0, .int v1, .int v2, .int v3, .ref qf4, .ref qf5, .ref qf6, .int v7, .int v8, .int v9, .int v10, .ref qf11, .int v12, .ref qf13])), (qf0, .inl (cf0, nb, .inl f0))]) [0, 1] rfl
      have hDc := hD.sub (ws' := [(h0, .inr (3, [.ref qf0, .int v1, .int v2, .int v3, .ref qf4, .ref qf5, .ref qf6, .int v7, .int v8, .int v9, .int v10, .ref qf11, .int v12, .ref qf13])), (qf0, .inl (cf0, nb, .inl f0))]) [0, 1] (by decide) rfl
      have hKc := hK.sub (tys' := [(cf0, .byte)]) [0] rfl
      have hFc := va_free (wc := [(h0, .inr (3, [.ref qf0, .int v1, .int v2, .int v3, .ref qf4, .ref qf5, .ref qf6, .int v7, .int v8, .int v9, .int v10, .ref qf11, .int v12, .ref qf13])), (qf0, .inl (cf0, nb, .inl f0))]) hD hS hA [0, 1] rfl
      refine va_calli (va_runV (As := [.int s0_44]) (rest := []) ⟨hx, hb, hml, hown, hts⟩ (ti_byteAt l dC dI H.size h0 s0_44 qf0 v1 v2 v3 qf4 qf5 qf6 v7 v8 v9 v10 qf11 v12 qf13 cf0 nb f0 nf u2_0 hu_2) (cwV 1 hts gv_h7_36 rfl rfl rfl (by decide +kernel) ⟨Nat.le_of_ble_eq_true rfl, Nat.le_of_ble_eq_true rfl⟩) ⟨fun a U g mk q => by obtain ⟨q0, q1, qP, qK, qD⟩ := q; exact ⟨q0, q1, qP, va_K.moved (u := U) (U := U.calling g mk a) (Vm.Alike.refl U.vm) qK, qD⟩, va_recv hKc hPc (ci := 3) (q0 := 0) rfl rfl, fun U hU hW => ⟨rfl, by rw [hU], by rw [hU]; exact hPc, va_K.moved hW.alike hKc, hDc.weaken (fun _ _ _ _ => trivial)⟩⟩ rfl rfl hl.1 rfl (lv_room (Nat.le_of_ble_eq_true rfl)) dX3_behindKind_55 ⟨Nat.le_of_ble_eq_true rfl, Nat.le_of_ble_eq_true rfl⟩) hS (fun q _ h => hFc q h) hFc ?_
      clear hS
      intro r_7 u t H1 locs ht hvm hw hB hz1 hk1 hS
      obtain ⟨⟩ := u
      obtain ⟨hP1, hK1, hD1⟩ := hB
      rw [ht] at hP1
      have hK1 := va_K.moved hvm.symm hK1
      try dsimp only at hw
      have hPD := va_join (wr := []) (w1 := [(h0, .inr (3, [.ref qf0, .int v1, .int v2, .int v3, .ref qf4, .ref qf5, .ref qf6, .int v7, .int v8, .int v9, .int v10, .ref qf11, .int v12, .ref qf13])), (qf0, .inl (cf0, nb, .inl f0))]) hP hD [0, 1] [] rfl rfl (by decide) (by decide) hk1 hFc hP1 hD1
      clear hP hD
      obtain ⟨hP, hD⟩ := hPD
      replace hK := (hK.sub (tys' := []) [] rfl).app hK1
      clear hPc hDc hKc hFc hP1 hK1 hD1 hz1 hk1 ht hvm
      generalize H1 = H at hP hS ⊢
      replace hP : va_P (dC, dI) vwCl [(h0, .inr (3, [.ref qf0, .int v1, .int v2, .int v3, .ref qf4, .ref qf5, .ref qf6, .int v7, .int v8, .int v9, .int v10, .ref qf11, .int v12, .ref qf13])), (qf0, .inl (cf0, nb, .inl f0))] H := hP
      replace hD : va_D A [(h0, .inr (3, [.ref qf0, .int v1, .int v2, .int v3, .ref qf4, .ref qf5, .ref qf6, .int v7, .int v8, .int v9, .int v10, .ref qf11, .int v12, .ref qf13])), (qf0, .inl (cf0, nb, .inl f0))] := hD
      replace hK : va_K (dC, dI) vwCl [(cf0, .byte)] s := hK
      obtain rfl := hw
      refine lv_goto (tgt := 62) hx hb dX3_behindKind_58 (by decide) ?_
      exact hj_62 (H, locs, ls, l2_44, s0_44, u2_0) ⟨lv_sub hl [1, 2, 0] rfl, hS, hD.sub (ws' := [(h0, .inr (3, [.ref qf0, .int v1, .int v2, .int v3, .ref qf4, .ref qf5, .ref qf6, .int v7, .int v8, .int v9, .int v10, .ref qf11, .int v12, .ref qf13])), (qf0, .inl (cf0, nb, .inl f0))]) [0, 1] (by decide) rfl, hP.sub (ws' := [(h0, .inr (3, [.ref qf0, .int v1, .int v2, .int v3, .ref qf4, .ref qf5, .ref qf6, .int v7, .int v8, .int v9, .int v10, .ref qf11, .int v12, .ref qf13])), (qf0, .inl (cf0, nb, .inl f0))]) [0, 1] rfl, hsp⟩
  intro hj_44
  refine jn_use (α := Heap × List Loc × Array Slot × Int32 × Int32 × Int32) (fun x9 => x9.1) (fun x9 => x9.2.1) (fun x9 => F0 m 14 x9.2.2.1 [.int (x9.2.2.2.2.2)]) (fun x9 => match x9 with | (H, locs, ls, l1_14, l2_14, s0_14) => lv_has ls 6 [(0, .ref h0), (1, .int l1_14), (2, .int l2_14)] ∧ va_S A s.heap H locs ∧ va_D A [(h0, .inr (3, [.ref qf0, .int v1, .int v2, .int v3, .ref qf4, .ref qf5, .ref qf6, .int v7, .int v8, .int v9, .int v10, .ref qf11, .int v12, .ref qf13])), (qf0, .inl (cf0, nb, .inl f0))] ∧ va_P (dC, dI) vwCl [(h0, .inr (3, [.ref qf0, .int v1, .int v2, .int v3, .ref qf4, .ref qf5, .ref qf6, .int v7, .int v8, .int v9, .int v10, .ref qf11, .int v12, .ref qf13])), (qf0, .inl (cf0, nb, .inl f0))] H ∧ jn_v3_behindKind_14 nf a1 a2 v1 nb f0 l1_14 l2_14 s0_14 = some r0) ?_ ?_
  · intro x9 hJ9
    obtain ⟨H, locs, ls, l1_14, l2_14, s0_14⟩ := x9
    obtain ⟨hl, hS, hD, hP, hsp⟩ := hJ9
    replace hl : lv_has ls 6 [(0, .ref h0), (1, .int l1_14), (2, .int l2_14)] := hl
    replace hS : va_S A s.heap H locs := hS
    replace hD : va_D A [(h0, .inr (3, [.ref qf0, .int v1, .int v2, .int v3, .ref qf4, .ref qf5, .ref qf6, .int v7, .int v8, .int v9, .int v10, .ref qf11, .int v12, .ref qf13])), (qf0, .inl (cf0, nb, .inl f0))] := hD
    replace hP : va_P (dC, dI) vwCl [(h0, .inr (3, [.ref qf0, .int v1, .int v2, .int v3, .ref qf4, .ref qf5, .ref qf6, .int v7, .int v8, .int v9, .int v10, .ref qf11, .int v12, .ref qf13])), (qf0, .inl (cf0, nb, .inl f0))] H := hP
    replace hsp : jn_v3_behindKind_14 nf a1 a2 v1 nb f0 l1_14 l2_14 s0_14 = some r0 := hsp
    show W _ _ _ _ _ _ _ _ _ _ H locs _ _ _ (F0 m 14 ls [.int s0_14])
    unfold jn_v3_behindKind_14 at hsp
    try dsimp only at hsp
    refine lv_istore_n (lv' := [(3, .int s0_14), (0, .ref h0), (1, .int l1_14), (2, .int l2_14)]) hx hb dX3_behindKind_14 rfl hl (by decide) rfl (fun ls hl => ?_)
    refine lv_iload_n hx hb dX3_behindKind_15 rfl (lv_at hl 0 rfl) ?_
    refine lv_bipush (v := 73) hx hb dX3_behindKind_16 (by decide) ?_
    refine lv_icmp_eq (tgt := 27) hx hb dX3_behindKind_18 (by decide) (fun c_3 => ?_) (fun c_3 => ?_)
    · rw [if_pos c_3] at hsp
      refine lv_iload_n hx hb dX3_behindKind_27 rfl (lv_at hl 2 rfl) ?_
      refine lv_iconst (v := 1) hx hb dX3_behindKind_28 (by decide) ?_
      refine lv_iadd hx hb dX3_behindKind_29 ?_
      have hr0 := Option.some.inj hsp
      clear hsp
      subst hr0
      have hP9 := hP.sub (ws' := [(h0, .inr (3, [.ref qf0, .int v1, .int v2, .int v3, .ref qf4, .ref qf5, .ref qf6, .int v7, .int v8, .int v9, .int v10, .ref qf11, .int v12, .ref qf13])), (qf0, .inl (cf0, nb, .inl f0))]) [0, 1] rfl
      have hD9 := hD.sub (ws' := [(h0, .inr (3, [.ref qf0, .int v1, .int v2, .int v3, .ref qf4, .ref qf5, .ref qf6, .int v7, .int v8, .int v9, .int v10, .ref qf11, .int v12, .ref qf13])), (qf0, .inl (cf0, nb, .inl f0))]) [0, 1] (by decide) rfl
      have hK9 := hK.sub (tys' := [(cf0, .byte)]) [0] rfl
      exact W.iret hx hb hr (fun t ht hW => ⟨⟨((l1_14 + 1)), (), rfl, rfl, by rw [ht]; exact hP9, va_K.moved hW.alike hK9, hD9⟩, hS.F ht⟩) hS.2.2 dX3_behindKind_30
    · rw [if_neg c_3] at hsp
      refine lv_iload_n hx hb dX3_behindKind_21 rfl (lv_at hl 0 rfl) ?_
      refine lv_bipush (v := 90) hx hb dX3_behindKind_22 (by decide) ?_
      refine lv_icmp_ne (tgt := 31) hx hb dX3_behindKind_24 (by decide) (fun c_4 => ?_) (fun c_4 => ?_)
      · rw [if_neg c_4] at hsp
        refine lv_iload_n hx hb dX3_behindKind_31 rfl (lv_at hl 0 rfl) ?_
        refine lv_bipush (v := 91) hx hb dX3_behindKind_32 (by decide) ?_
        refine lv_icmp_ne (tgt := 43) hx hb dX3_behindKind_34 (by decide) (fun c_5 => ?_) (fun c_5 => ?_)
        · rw [if_neg c_5] at hsp
          refine lv_iload_n hx hb dX3_behindKind_43 rfl (lv_at hl 2 rfl) ?_
          exact hj_44 (H, locs, ls, l2_14, l1_14) ⟨lv_sub hl [1, 3] rfl, hS, hD.sub (ws' := [(h0, .inr (3, [.ref qf0, .int v1, .int v2, .int v3, .ref qf4, .ref qf5, .ref qf6, .int v7, .int v8, .int v9, .int v10, .ref qf11, .int v12, .ref qf13])), (qf0, .inl (cf0, nb, .inl f0))]) [0, 1] (by decide) rfl, hP.sub (ws' := [(h0, .inr (3, [.ref qf0, .int v1, .int v2, .int v3, .ref qf4, .ref qf5, .ref qf6, .int v7, .int v8, .int v9, .int v10, .ref qf11, .int v12, .ref qf13])), (qf0, .inl (cf0, nb, .inl f0))]) [0, 1] rfl, hsp⟩
        · rw [if_pos c_5] at hsp
          refine lv_iload_n hx hb dX3_behindKind_37 rfl (lv_at hl 2 rfl) ?_
          refine lv_iconst (v := 1) hx hb dX3_behindKind_38 (by decide) ?_
          refine lv_iadd hx hb dX3_behindKind_39 ?_
          refine lv_goto (tgt := 44) hx hb dX3_behindKind_40 (by decide) ?_
          exact hj_44 (H, locs, ls, l2_14, (l1_14 + 1)) ⟨lv_sub hl [1, 3] rfl, hS, hD.sub (ws' := [(h0, .inr (3, [.ref qf0, .int v1, .int v2, .int v3, .ref qf4, .ref qf5, .ref qf6, .int v7, .int v8, .int v9, .int v10, .ref qf11, .int v12, .ref qf13])), (qf0, .inl (cf0, nb, .inl f0))]) [0, 1] (by decide) rfl, hP.sub (ws' := [(h0, .inr (3, [.ref qf0, .int v1, .int v2, .int v3, .ref qf4, .ref qf5, .ref qf6, .int v7, .int v8, .int v9, .int v10, .ref qf11, .int v12, .ref qf13])), (qf0, .inl (cf0, nb, .inl f0))]) [0, 1] rfl, hsp⟩
      · rw [if_pos c_4] at hsp
        refine lv_iload_n hx hb dX3_behindKind_27 rfl (lv_at hl 2 rfl) ?_
        refine lv_iconst (v := 1) hx hb dX3_behindKind_28 (by decide) ?_
        refine lv_iadd hx hb dX3_behindKind_29 ?_
        have hr0 := Option.some.inj hsp
        clear hsp
        subst hr0
        have hP9 := hP.sub (ws' := [(h0, .inr (3, [.ref qf0, .int v1, .int v2, .int v3, .ref qf4, .ref qf5, .ref qf6, .int v7, .int v8, .int v9, .int v10, .ref qf11, .int v12, .ref qf13])), (qf0, .inl (cf0, nb, .inl f0))]) [0, 1] rfl
        have hD9 := hD.sub (ws' := [(h0, .inr (3, [.ref qf0, .int v1, .int v2, .int v3, .ref qf4, .ref qf5, .ref qf6, .int v7, .int v8, .int v9, .int v10, .ref qf11, .int v12, .ref qf13])), (qf0, .inl (cf0, nb, .inl f0))]) [0, 1] (by decide) rfl
        have hK9 := hK.sub (tys' := [(cf0, .byte)]) [0] rfl
        exact W.iret hx hb hr (fun t ht hW => ⟨⟨((l1_14 + 1)), (), rfl, rfl, by rw [ht]; exact hP9, va_K.moved hW.alike hK9, hD9⟩, hS.F ht⟩) hS.2.2 dX3_behindKind_30
  intro hj_14
  refine lv_iload_n hx hb dX3_behindKind_0 rfl (lv_at hl 1 rfl) ?_
  refine lv_iload_n hx hb dX3_behindKind_1 rfl (lv_at hl 2 rfl) ?_
  refine lv_icmp_ge (tgt := 13) hx hb dX3_behindKind_2 (by decide) (fun c_1 => ?_) (fun c_1 => ?_)
  · rw [if_pos c_1] at hsp
    refine lv_iconst (v := 0) hx hb dX3_behindKind_13 (by decide) ?_
    exact hj_14 (H, locs, ls, a1, a2, 0) ⟨lv_sub hl [0, 1, 2] rfl, hS, hD.sub (ws' := [(h0, .inr (3, [.ref qf0, .int v1, .int v2, .int v3, .ref qf4, .ref qf5, .ref qf6, .int v7, .int v8, .int v9, .int v10, .ref qf11, .int v12, .ref qf13])), (qf0, .inl (cf0, nb, .inl f0))]) [0, 1] (by decide) rfl, hP.sub (ws' := [(h0, .inr (3, [.ref qf0, .int v1, .int v2, .int v3, .ref qf4, .ref qf5, .ref qf6, .int v7, .int v8, .int v9, .int v10, .ref qf11, .int v12, .ref qf13])), (qf0, .inl (cf0, nb, .inl f0))]) [0, 1] rfl, hsp⟩
  · rw [if_neg c_1] at hsp
    refine lv_aload_n hx hb dX3_behindKind_5 rfl (lv_at hl 0 rfl) ?_
    refine lv_iload_n hx hb dX3_behindKind_6 rfl (lv_at hl 1 rfl) ?_
    obtain ⟨u1_0, hu_1, hsp⟩ := ox_bind hsp
    try dsimp only at hsp
    have hPc := hP.sub (ws' := [(h0, .inr (3, [.ref qf0, .int v1, .int v2, .int v3, .ref qf4, .ref qf5, .ref qf6, .int v7, .int v8, .int v9, .int v10, .ref qf11, .int v12, .ref qf13])), (qf0, .inl (cf0, nb, .inl f0))]) [0, 1] rfl
    have hDc := hD.sub (ws' := [(h0, .inr (3, [.ref qf0, .int v1, .int v2, .int v3, .ref qf4, .ref qf5, .ref qf6, .int v7, .int v8, .int v9, .int v10, .ref qf11, .int v12, .ref qf13])), (qf0, .inl (cf0, nb, .inl f0))]) [0, 1] (by decide) rfl
    have hKc := hK.sub (tys' := [(cf0, .byte)]) [0] rfl
    have hFc := va_free (wc := [(h0, .inr (3, [.ref qf0, .int v1, .int v2, .int v3, .ref qf4, .ref qf5, .ref qf6, .int v7, .int v8, .int v9, .int v10, .ref qf11, .int v12, .ref qf13])), (qf0, .inl (cf0, nb, .inl f0))]) hD hS hA [0, 1] rfl
    refine va_calli (va_runV (As := [.int a1]) (rest := []) ⟨hx, hb, hml, hown, hts⟩ (ti_byteAt l dC dI H.size h0 a1 qf0 v1 v2 v3 qf4 qf5 qf6 v7 v8 v9 v10 qf11 v12 qf13 cf0 nb f0 nf u1_0 hu_1) (cwV 1 hts gv_h7_36 rfl rfl rfl (by decide +kernel) ⟨Nat.le_of_ble_eq_true rfl, Nat.le_of_ble_eq_true rfl⟩) ⟨fun a U g mk q => by obtain ⟨q0, q1, qP, qK, qD⟩ := q; exact ⟨q0, q1, qP, va_K.moved (u := U) (U := U.calling g mk a) (Vm.Alike.refl U.vm) qK, qD⟩, va_recv hKc hPc (ci := 3) (q0 := 0) rfl rfl, fun U hU hW => ⟨rfl, by rw [hU], by rw [hU]; exact hPc, va_K.moved hW.alike hKc, hDc.weaken (fun _ _ _ _ => trivial)⟩⟩ rfl rfl hl.1 rfl (lv_room (Nat.le_of_ble_eq_true rfl)) dX3_behindKind_7 ⟨Nat.le_of_ble_eq_true rfl, Nat.le_of_ble_eq_true rfl⟩) hS (fun q _ h => hFc q h) hFc ?_
    clear hS
    intro r_2 u t H1 locs ht hvm hw hB hz1 hk1 hS
    obtain ⟨⟩ := u
    obtain ⟨hP1, hK1, hD1⟩ := hB
    rw [ht] at hP1
    have hK1 := va_K.moved hvm.symm hK1
    try dsimp only at hw
    have hPD := va_join (wr := []) (w1 := [(h0, .inr (3, [.ref qf0, .int v1, .int v2, .int v3, .ref qf4, .ref qf5, .ref qf6, .int v7, .int v8, .int v9, .int v10, .ref qf11, .int v12, .ref qf13])), (qf0, .inl (cf0, nb, .inl f0))]) hP hD [0, 1] [] rfl rfl (by decide) (by decide) hk1 hFc hP1 hD1
    clear hP hD
    obtain ⟨hP, hD⟩ := hPD
    replace hK := (hK.sub (tys' := []) [] rfl).app hK1
    clear hPc hDc hKc hFc hP1 hK1 hD1 hz1 hk1 ht hvm
    generalize H1 = H at hP hS ⊢
    replace hP : va_P (dC, dI) vwCl [(h0, .inr (3, [.ref qf0, .int v1, .int v2, .int v3, .ref qf4, .ref qf5, .ref qf6, .int v7, .int v8, .int v9, .int v10, .ref qf11, .int v12, .ref qf13])), (qf0, .inl (cf0, nb, .inl f0))] H := hP
    replace hD : va_D A [(h0, .inr (3, [.ref qf0, .int v1, .int v2, .int v3, .ref qf4, .ref qf5, .ref qf6, .int v7, .int v8, .int v9, .int v10, .ref qf11, .int v12, .ref qf13])), (qf0, .inl (cf0, nb, .inl f0))] := hD
    replace hK : va_K (dC, dI) vwCl [(cf0, .byte)] s := hK
    obtain rfl := hw
    refine lv_goto (tgt := 14) hx hb dX3_behindKind_10 (by decide) ?_
    exact hj_14 (H, locs, ls, a1, a2, u1_0) ⟨lv_sub hl [0, 1, 2] rfl, hS, hD.sub (ws' := [(h0, .inr (3, [.ref qf0, .int v1, .int v2, .int v3, .ref qf4, .ref qf5, .ref qf6, .int v7, .int v8, .int v9, .int v10, .ref qf11, .int v12, .ref qf13])), (qf0, .inl (cf0, nb, .inl f0))]) [0, 1] (by decide) rfl, hP.sub (ws' := [(h0, .inr (3, [.ref qf0, .int v1, .int v2, .int v3, .ref qf4, .ref qf5, .ref qf6, .int v7, .int v8, .int v9, .int v10, .ref qf11, .int v12, .ref qf13])), (qf0, .inl (cf0, nb, .inl f0))]) [0, 1] rfl, hsp⟩
def jn_v3_parametersIn_128 (nf : Nat) (a1 : Int32) (v1 : Int32) (v7 : Int32) (f4 : Nat → Int32) (f5 : Nat → Int32) (nb : Nat) (f0 : Nat → Int32) (f6 : Nat → Int32)  (l2_128 : Int32) (l3_128 : Int32) (l4_128 : Int32) (s0_128 : Int32) : Option (Int32) := (if s0_128 = 0 then ((sp_v3_behindKind nf (l3_128 + 1) l2_128 v1 nb f0).bind (fun p1 => (if p1 = l2_128 then (some l4_128) else (some (-1))))) else (some l4_128))
def jn_v3_parametersIn_127 (nf : Nat) (a1 : Int32) (v1 : Int32) (v7 : Int32) (f4 : Nat → Int32) (f5 : Nat → Int32) (nb : Nat) (f0 : Nat → Int32) (f6 : Nat → Int32)  (l2_127 : Int32) (l3_127 : Int32) (l4_127 : Int32) : Option (Int32) := (jn_v3_parametersIn_128 nf a1 v1 v7 f4 f5 nb f0 f6  l2_127 l3_127 l4_127 0)
def jn_v3_parametersIn_85 (nf : Nat) (a1 : Int32) (v1 : Int32) (v7 : Int32) (f4 : Nat → Int32) (f5 : Nat → Int32) (nb : Nat) (f0 : Nat → Int32) (f6 : Nat → Int32)  (l2_85 : Int32) (l3_85 : Int32) (l4_85 : Int32) : Option (Int32) := (if l3_85 = (-1) then (some (-1)) else (if l2_85 ≤ l3_85 then (some (-1)) else (if l4_85 ≤ 6 then (if (l3_85 + 2) = l2_85 then ((sp_ti_byteAt nf (l3_85 + 1) v1 nb f0).bind (fun p1 => (if p1 = 86 then (jn_v3_parametersIn_128 nf a1 v1 v7 f4 f5 nb f0 f6  l2_85 l3_85 l4_85 1) else (jn_v3_parametersIn_127 nf a1 v1 v7 f4 f5 nb f0 f6  l2_85 l3_85 l4_85)))) else (jn_v3_parametersIn_127 nf a1 v1 v7 f4 f5 nb f0 f6  l2_85 l3_85 l4_85)) else (some (-1)))))
def lp_v3_parametersIn_45 (nf n : Nat) (a1 : Int32) (v1 : Int32) (v7 : Int32) (f4 : Nat → Int32) (f5 : Nat → Int32) (nb : Nat) (f0 : Nat → Int32) (f6 : Nat → Int32)  (l2_45 : Int32) (l3_45 : Int32) (l4_45 : Int32) : Option (Int32) := match n with
  | 0 => none
  | n + 1 => (if 6 < l4_45 then (jn_v3_parametersIn_85 nf a1 v1 v7 f4 f5 nb f0 f6  l2_45 l3_45 l4_45) else (if l3_45 = (-1) then (jn_v3_parametersIn_85 nf a1 v1 v7 f4 f5 nb f0 f6  l2_45 l3_45 l4_45) else (if l2_45 ≤ l3_45 then (jn_v3_parametersIn_85 nf a1 v1 v7 f4 f5 nb f0 f6  l2_45 l3_45 l4_45) else ((sp_ti_byteAt nf l3_45 v1 nb f0).bind (fun p1 => (if p1 = 41 then (jn_v3_parametersIn_85 nf a1 v1 v7 f4 f5 nb f0 f6  l2_45 l3_45 l4_45) else ((sp_v3_behindKind nf l3_45 l2_45 v1 nb f0).bind (fun p2 => (lp_v3_parametersIn_45 nf n a1 v1 v7 f4 f5 nb f0 f6 l2_45 p2 (l4_45 + 1))))))))))
def sp_v3_parametersIn (nf : Nat) (a1 : Int32) (v1 : Int32) (v7 : Int32) (f4 : Nat → Int32) (f5 : Nat → Int32) (nb : Nat) (f0 : Nat → Int32) (f6 : Nat → Int32) : Option (Int32) := ((sp_ti_tagOf nf a1 v7 f4).bind (fun p1 => (if p1 = 1 then (if a1 < 0 then none else if 256 ≤ (a1 : Int32).toNatClampNeg then none else ((sp_ti_byteAt nf (f5 (a1 : Int32).toNatClampNeg) v1 nb f0).bind (fun p2 => (if p2 = 40 then (if a1 < 0 then none else if 256 ≤ (a1 : Int32).toNatClampNeg then none else (if a1 < 0 then none else if 256 ≤ (a1 : Int32).toNatClampNeg then none else (lp_v3_parametersIn_45 nf nf a1 v1 v7 f4 f5 nb f0 f6  (f6 (a1 : Int32).toNatClampNeg) ((f5 (a1 : Int32).toNatClampNeg) + 1) 0))) else (some (-1)))))) else (some (-1)))))
set_option maxHeartbeats 4000000 in
set_option maxRecDepth 100000 in
/-- ClassMill$Image.parametersIn -/
theorem v3_parametersIn (l : Launch) (dC : Nat → ClassId) (dI : Nat → Nat → Nat) (sz : Nat) (h0 : Nat) (a1 : Int32) (qf0 : Nat) (v1 : Int32) (v2 : Int32) (v3 : Int32) (qf4 : Nat) (qf5 : Nat) (qf6 : Nat) (v7 : Int32) (v8 : Int32) (v9 : Int32) (v10 : Int32) (qf11 : Nat) (v12 : Int32) (qf13 : Nat) (cf4 : ClassId) (f4 : (Nat → Int32)) (cf5 : ClassId) (f5 : (Nat → Int32)) (cf0 : ClassId) (nb : Nat) (f0 : (Nat → Int32)) (cf6 : ClassId) (f6 : (Nat → Int32)) (nf : Nat) (r0 : Int32) (hsp : sp_v3_parametersIn nf a1 v1 v7 f4 f5 nb f0 f6 = some r0) : Met l yX3_parametersIn (.code yX3_parametersIn cX3_parametersIn 6 (some .int) :: VS_h7) ({ frames := 2, cells := 0, slots := 0, locals := 51 }) (va_Pc [.ref h0, .int a1] (fun U => U.heap.size = sz ∧ va_P (dC, dI) vwCl [(h0, .inr (3, [.ref qf0, .int v1, .int v2, .int v3, .ref qf4, .ref qf5, .ref qf6, .int v7, .int v8, .int v9, .int v10, .ref qf11, .int v12, .ref qf13])), (qf4, .inl (cf4, 256, .inl f4)), (qf5, .inl (cf5, 256, .inl f5)), (qf0, .inl (cf0, nb, .inl f0)), (qf6, .inl (cf6, 256, .inl f6))] U.heap ∧ va_K (dC, dI) vwCl [(cf4, .int), (cf5, .int), (cf0, .byte), (cf6, .int)] U ∧ va_D (fun _ => True) [(h0, .inr (3, [.ref qf0, .int v1, .int v2, .int v3, .ref qf4, .ref qf5, .ref qf6, .int v7, .int v8, .int v9, .int v10, .ref qf11, .int v12, .ref qf13])), (qf4, .inl (cf4, 256, .inl f4)), (qf5, .inl (cf5, 256, .inl f5)), (qf0, .inl (cf0, nb, .inl f0)), (qf6, .inl (cf6, 256, .inl f6))])) (va_Qi (fun (r : Int32) (u : Unit) => match u with | () => r0 = r) (fun (u : Unit) (t : State) => match u with | () => va_P (dC, dI) vwCl [(h0, .inr (3, [.ref qf0, .int v1, .int v2, .int v3, .ref qf4, .ref qf5, .ref qf6, .int v7, .int v8, .int v9, .int v10, .ref qf11, .int v12, .ref qf13])), (qf4, .inl (cf4, 256, .inl f4)), (qf5, .inl (cf5, 256, .inl f5)), (qf0, .inl (cf0, nb, .inl f0)), (qf6, .inl (cf6, 256, .inl f6))] t.heap ∧ va_K (dC, dI) vwCl [(cf4, .int), (cf5, .int), (cf0, .byte), (cf6, .int)] t ∧ va_D (va_A [(h0, .inr (3, [.ref qf0, .int v1, .int v2, .int v3, .ref qf4, .ref qf5, .ref qf6, .int v7, .int v8, .int v9, .int v10, .ref qf11, .int v12, .ref qf13])), (qf4, .inl (cf4, 256, .inl f4)), (qf5, .inl (cf5, 256, .inl f5)), (qf0, .inl (cf0, nb, .inl f0)), (qf6, .inl (cf6, 256, .inl f6))] sz) [(h0, .inr (3, [.ref qf0, .int v1, .int v2, .int v3, .ref qf4, .ref qf5, .ref qf6, .int v7, .int v8, .int v9, .int v10, .ref qf11, .int v12, .ref qf13])), (qf4, .inl (cf4, 256, .inl f4)), (qf5, .inl (cf5, 256, .inl f5)), (qf0, .inl (cf0, nb, .inl f0)), (qf6, .inl (cf6, 256, .inl f6))]) (va_A [(h0, .inr (3, [.ref qf0, .int v1, .int v2, .int v3, .ref qf4, .ref qf5, .ref qf6, .int v7, .int v8, .int v9, .int v10, .ref qf11, .int v12, .ref qf13])), (qf4, .inl (cf4, 256, .inl f4)), (qf5, .inl (cf5, 256, .inl f5)), (qf0, .inl (cf0, nb, .inl f0)), (qf6, .inl (cf6, 256, .inl f6))] sz)) 0 0 (va_A [(h0, .inr (3, [.ref qf0, .int v1, .int v2, .int v3, .ref qf4, .ref qf5, .ref qf6, .int v7, .int v8, .int v9, .int v10, .ref qf11, .int v12, .ref qf13])), (qf4, .inl (cf4, 256, .inl f4)), (qf5, .inl (cf5, 256, .inl f5)), (qf0, .inl (cf0, nb, .inl f0)), (qf6, .inl (cf6, 256, .inl f6))] sz) := by
  refine Met.ofW (cc := cX3_parametersIn) (maxL := 6) (ret := (some .int)) (by decide) rfl ?_
  intro p e s m args below meth c s₁ B hml hv
  obtain ⟨rfl, hsz, hP, hK, hD0⟩ := hv
  have hx := B.exec
  have hb := B.bytes
  have hr := B.returns
  have hts := atoms_spec (ws := (.code yX3_parametersIn cX3_parametersIn 6 (some .int) :: VS_h7)) B.pre
  replace hts := fun w (h : w ∈ VS_h7) => hts w (List.mem_cons_of_mem _ h)
  have hown : s.vm.findClass RX3 = some m.cls := findClass_of_methodNamed B.named
  have hlocks := B.notSynchronized
  subst hsz
  have hD := hD0.self (sz := s.heap.size)
  generalize hAe : va_A [(h0, .inr (3, [.ref qf0, .int v1, .int v2, .int v3, .ref qf4, .ref qf5, .ref qf6, .int v7, .int v8, .int v9, .int v10, .ref qf11, .int v12, .ref qf13])), (qf4, .inl (cf4, 256, .inl f4)), (qf5, .inl (cf5, 256, .inl f5)), (qf0, .inl (cf0, nb, .inl f0)), (qf6, .inl (cf6, 256, .inl f6))] s.heap.size = A at hD  ⊢
  have hA : ∀ q : Nat, s.heap.size ≤ q → A q := fun q h => by rw [← hAe]; exact Or.inr h
  have hP : va_P (dC, dI) vwCl [(h0, .inr (3, [.ref qf0, .int v1, .int v2, .int v3, .ref qf4, .ref qf5, .ref qf6, .int v7, .int v8, .int v9, .int v10, .ref qf11, .int v12, .ref qf13])), (qf4, .inl (cf4, 256, .inl f4)), (qf5, .inl (cf5, 256, .inl f5)), (qf0, .inl (cf0, nb, .inl f0)), (qf6, .inl (cf6, 256, .inl f6))] s.heap := hP
  have hl := lv_entry ([.ref h0, .int a1]) (n := 6) (Nat.le_of_ble_eq_true rfl)
  rw [lg_entry_eq]
  generalize (lg_sl ([.ref h0, .int a1]) ++ List.replicate (6 - (lg_sl ([.ref h0, .int a1])).length) Slot.unset).toArray = ls at hl ⊢
  have hl : lv_has ls 6 [(0, .ref h0), (1, .int a1)] := hl
  obtain ⟨H, hH⟩ : ∃ H : Heap, s.heap = H := ⟨_, rfl⟩
  rw [hH] at hP ⊢
  have hS : va_S A s.heap H [] := by rw [← hH]; exact va_S.rf
  obtain ⟨locs, hlo⟩ : ∃ locs : List Loc, locs = [] := ⟨_, rfl⟩
  rw [← hlo] at hS ⊢
  unfold sp_v3_parametersIn at hsp
  refine jn_use (α := Heap × List Loc × Array Slot × Int32 × Int32 × Int32 × Int32) (fun x9 => x9.1) (fun x9 => x9.2.1) (fun x9 => F0 m 128 x9.2.2.1 [.int (x9.2.2.2.2.2.2)]) (fun x9 => match x9 with | (H, locs, ls, l2_128, l3_128, l4_128, s0_128) => lv_has ls 6 [(0, .ref h0), (2, .int l2_128), (3, .int l3_128), (4, .int l4_128)] ∧ va_S A s.heap H locs ∧ va_D A [(h0, .inr (3, [.ref qf0, .int v1, .int v2, .int v3, .ref qf4, .ref qf5, .ref qf6, .int v7, .int v8, .int v9, .int v10, .ref qf11, .int v12, .ref qf13])), (qf4, .inl (cf4, 256, .inl f4)), (qf5, .inl (cf5, 256, .inl f5)), (qf0, .inl (cf0, nb, .inl f0)), (qf6, .inl (cf6, 256, .inl f6))] ∧ va_P (dC, dI) vwCl [(h0, .inr (3, [.ref qf0, .int v1, .int v2, .int v3, .ref qf4, .ref qf5, .ref qf6, .int v7, .int v8, .int v9, .int v10, .ref qf11, .int v12, .ref qf13])), (qf4, .inl (cf4, 256, .inl f4)), (qf5, .inl (cf5, 256, .inl f5)), (qf0, .inl (cf0, nb, .inl f0)), (qf6, .inl (cf6, 256, .inl f6))] H ∧ jn_v3_parametersIn_128 nf a1 v1 v7 f4 f5 nb f0 f6 l2_128 l3_128 l4_128 s0_128 = some r0) ?_ ?_
  · intro x9 hJ9
    obtain ⟨H, locs, ls, l2_128, l3_128, l4_128, s0_128⟩ := x9
    obtain ⟨hl, hS, hD, hP, hsp⟩ := hJ9
    replace hl : lv_has ls 6 [(0, .ref h0), (2, .int l2_128), (3, .int l3_128), (4, .int l4_128)] := hl
    replace hS : va_S A s.heap H locs := hS
    replace hD : va_D A [(h0, .inr (3, [.ref qf0, .int v1, .int v2, .int v3, .ref qf4, .ref qf5, .ref qf6, .int v7, .int v8, .int v9, .int v10, .ref qf11, .int v12, .ref qf13])), (qf4, .inl (cf4, 256, .inl f4)), (qf5, .inl (cf5, 256, .inl f5)), (qf0, .inl (cf0, nb, .inl f0)), (qf6, .inl (cf6, 256, .inl f6))] := hD
    replace hP : va_P (dC, dI) vwCl [(h0, .inr (3, [.ref qf0, .int v1, .int v2, .int v3, .ref qf4, .ref qf5, .ref qf6, .int v7, .int v8, .int v9, .int v10, .ref qf11, .int v12, .ref qf13])), (qf4, .inl (cf4, 256, .inl f4)), (qf5, .inl (cf5, 256, .inl f5)), (qf0, .inl (cf0, nb, .inl f0)), (qf6, .inl (cf6, 256, .inl f6))] H := hP
    replace hsp : jn_v3_parametersIn_128 nf a1 v1 v7 f4 f5 nb f0 f6 l2_128 l3_128 l4_128 s0_128 = some r0 := hsp
    show W _ _ _ _ _ _ _ _ _ _ H locs _ _ _ (F0 m 128 ls [.int s0_128])
    unfold jn_v3_parametersIn_128 at hsp
    try dsimp only at hsp
    refine lv_istore (lv' := [(5, .int s0_128), (0, .ref h0), (2, .int l2_128), (3, .int l3_128), (4, .int l4_128)]) hx hb dX3_parametersIn_128 hl (by decide) rfl (fun ls hl => ?_)
    refine lv_iload hx hb dX3_parametersIn_130 (lv_at hl 0 rfl) ?_
    refine lv_if_ne (tgt := 147) hx hb dX3_parametersIn_132 (by decide) (fun c_20 => ?_) (fun c_20 => ?_)
    · rw [if_neg c_20] at hsp
      refine lv_iload hx hb dX3_parametersIn_147 (lv_at hl 4 rfl) ?_
      refine lv_goto (tgt := 153) hx hb dX3_parametersIn_149 (by decide) ?_
      have hr0 := Option.some.inj hsp
      clear hsp
      subst hr0
      have hP9 := hP.sub (ws' := [(h0, .inr (3, [.ref qf0, .int v1, .int v2, .int v3, .ref qf4, .ref qf5, .ref qf6, .int v7, .int v8, .int v9, .int v10, .ref qf11, .int v12, .ref qf13])), (qf4, .inl (cf4, 256, .inl f4)), (qf5, .inl (cf5, 256, .inl f5)), (qf0, .inl (cf0, nb, .inl f0)), (qf6, .inl (cf6, 256, .inl f6))]) [0, 1, 2, 3, 4] rfl
      have hD9 := hD.sub (ws' := [(h0, .inr (3, [.ref qf0, .int v1, .int v2, .int v3, .ref qf4, .ref qf5, .ref qf6, .int v7, .int v8, .int v9, .int v10, .ref qf11, .int v12, .ref qf13])), (qf4, .inl (cf4, 256, .inl f4)), (qf5, .inl (cf5, 256, .inl f5)), (qf0, .inl (cf0, nb, .inl f0)), (qf6, .inl (cf6, 256, .inl f6))]) [0, 1, 2, 3, 4] (by decide) rfl
      have hK9 := hK.sub (tys' := [(cf4, .int), (cf5, .int), (cf0, .byte), (cf6, .int)]) [0, 1, 2, 3] rfl
      exact W.iret hx hb hr (fun t ht hW => ⟨⟨(l4_128), (), rfl, rfl, by rw [ht]; exact hP9, va_K.moved hW.alike hK9, hD9⟩, hS.F ht⟩) hS.2.2 dX3_parametersIn_153
    · rw [if_pos c_20] at hsp
      refine lv_aload_n hx hb dX3_parametersIn_135 rfl (lv_at hl 1 rfl) ?_
      refine lv_iload_n hx hb dX3_parametersIn_136 rfl (lv_at hl 3 rfl) ?_
      refine lv_iconst (v := 1) hx hb dX3_parametersIn_137 (by decide) ?_
      refine lv_iadd hx hb dX3_parametersIn_138 ?_
      refine lv_iload_n hx hb dX3_parametersIn_139 rfl (lv_at hl 2 rfl) ?_
      obtain ⟨u6_0, hu_6, hsp⟩ := ox_bind hsp
      try dsimp only at hsp
      have hPc := hP.sub (ws' := [(h0, .inr (3, [.ref qf0, .int v1, .int v2, .int v3, .ref qf4, .ref qf5, .ref qf6, .int v7, .int v8, .int v9, .int v10, .ref qf11, .int v12, .ref qf13])), (qf0, .inl (cf0, nb, .inl f0))]) [0, 3] rfl
      have hDc := hD.sub (ws' := [(h0, .inr (3, [.ref qf0, .int v1, .int v2, .int v3, .ref qf4, .ref qf5, .ref qf6, .int v7, .int v8, .int v9, .int v10, .ref qf11, .int v12, .ref qf13])), (qf0, .inl (cf0, nb, .inl f0))]) [0, 3] (by decide) rfl
      have hKc := hK.sub (tys' := [(cf0, .byte)]) [2] rfl
      have hFc := va_free (wc := [(h0, .inr (3, [.ref qf0, .int v1, .int v2, .int v3, .ref qf4, .ref qf5, .ref qf6, .int v7, .int v8, .int v9, .int v10, .ref qf11, .int v12, .ref qf13])), (qf0, .inl (cf0, nb, .inl f0))]) hD hS hA [0, 3] rfl
      refine va_calli (va_runV (As := [.int (l3_128 + 1), .int l2_128]) (rest := []) ⟨hx, hb, hml, hown, hts⟩ (v3_behindKind l dC dI H.size h0 ((l3_128 + 1)) l2_128 qf0 v1 v2 v3 qf4 qf5 qf6 v7 v8 v9 v10 qf11 v12 qf13 cf0 nb f0 nf u6_0 hu_6) (cwV 2 hts gv_h7_37 rfl rfl rfl (by decide +kernel) ⟨Nat.le_of_ble_eq_true rfl, Nat.le_of_ble_eq_true rfl⟩) ⟨fun a U g mk q => by obtain ⟨q0, q1, qP, qK, qD⟩ := q; exact ⟨q0, q1, qP, va_K.moved (u := U) (U := U.calling g mk a) (Vm.Alike.refl U.vm) qK, qD⟩, va_recv hKc hPc (ci := 3) (q0 := 0) rfl rfl, fun U hU hW => ⟨rfl, by rw [hU], by rw [hU]; exact hPc, va_K.moved hW.alike hKc, hDc.weaken (fun _ _ _ _ => trivial)⟩⟩ rfl rfl hl.1 rfl (lv_room (Nat.le_of_ble_eq_true rfl)) dX3_parametersIn_140 ⟨Nat.le_of_ble_eq_true rfl, Nat.le_of_ble_eq_true rfl⟩) hS (fun q _ h => hFc q h) hFc ?_
      clear hS
      intro r_21 u t H1 locs ht hvm hw hB hz1 hk1 hS
      obtain ⟨⟩ := u
      obtain ⟨hP1, hK1, hD1⟩ := hB
      rw [ht] at hP1
      have hK1 := va_K.moved hvm.symm hK1
      try dsimp only at hw
      have hPD := va_join (wr := [(qf4, .inl (cf4, 256, .inl f4)), (qf5, .inl (cf5, 256, .inl f5)), (qf6, .inl (cf6, 256, .inl f6))]) (w1 := [(h0, .inr (3, [.ref qf0, .int v1, .int v2, .int v3, .ref qf4, .ref qf5, .ref qf6, .int v7, .int v8, .int v9, .int v10, .ref qf11, .int v12, .ref qf13])), (qf0, .inl (cf0, nb, .inl f0))]) hP hD [0, 3] [1, 2, 4] rfl rfl (by decide) (by decide) hk1 hFc hP1 hD1
      clear hP hD
      obtain ⟨hP, hD⟩ := hPD
      replace hK := (hK.sub (tys' := [(cf4, .int), (cf5, .int), (cf6, .int)]) [0, 1, 3] rfl).app hK1
      clear hPc hDc hKc hFc hP1 hK1 hD1 hz1 hk1 ht hvm
      generalize H1 = H at hP hS ⊢
      replace hP : va_P (dC, dI) vwCl [(qf4, .inl (cf4, 256, .inl f4)), (qf5, .inl (cf5, 256, .inl f5)), (qf6, .inl (cf6, 256, .inl f6)), (h0, .inr (3, [.ref qf0, .int v1, .int v2, .int v3, .ref qf4, .ref qf5, .ref qf6, .int v7, .int v8, .int v9, .int v10, .ref qf11, .int v12, .ref qf13])), (qf0, .inl (cf0, nb, .inl f0))] H := hP
      replace hD : va_D A [(qf4, .inl (cf4, 256, .inl f4)), (qf5, .inl (cf5, 256, .inl f5)), (qf6, .inl (cf6, 256, .inl f6)), (h0, .inr (3, [.ref qf0, .int v1, .int v2, .int v3, .ref qf4, .ref qf5, .ref qf6, .int v7, .int v8, .int v9, .int v10, .ref qf11, .int v12, .ref qf13])), (qf0, .inl (cf0, nb, .inl f0))] := hD
      replace hK : va_K (dC, dI) vwCl [(cf4, .int), (cf5, .int), (cf6, .int), (cf0, .byte)] s := hK
      obtain rfl := hw
      refine lv_iload_n hx hb dX3_parametersIn_143 rfl (lv_at hl 2 rfl) ?_
      refine lv_icmp_ne (tgt := 152) hx hb dX3_parametersIn_144 (by decide) (fun c_22 => ?_) (fun c_22 => ?_)
      · rw [if_neg c_22] at hsp
        refine lv_iconst (v := (-1)) hx hb dX3_parametersIn_152 (by decide) ?_
        have hr0 := Option.some.inj hsp
        clear hsp
        subst hr0
        have hP9 := hP.sub (ws' := [(h0, .inr (3, [.ref qf0, .int v1, .int v2, .int v3, .ref qf4, .ref qf5, .ref qf6, .int v7, .int v8, .int v9, .int v10, .ref qf11, .int v12, .ref qf13])), (qf4, .inl (cf4, 256, .inl f4)), (qf5, .inl (cf5, 256, .inl f5)), (qf0, .inl (cf0, nb, .inl f0)), (qf6, .inl (cf6, 256, .inl f6))]) [3, 0, 1, 4, 2] rfl
        have hD9 := hD.sub (ws' := [(h0, .inr (3, [.ref qf0, .int v1, .int v2, .int v3, .ref qf4, .ref qf5, .ref qf6, .int v7, .int v8, .int v9, .int v10, .ref qf11, .int v12, .ref qf13])), (qf4, .inl (cf4, 256, .inl f4)), (qf5, .inl (cf5, 256, .inl f5)), (qf0, .inl (cf0, nb, .inl f0)), (qf6, .inl (cf6, 256, .inl f6))]) [3, 0, 1, 4, 2] (by decide) rfl
        have hK9 := hK.sub (tys' := [(cf4, .int), (cf5, .int), (cf0, .byte), (cf6, .int)]) [0, 1, 3, 2] rfl
        exact W.iret hx hb hr (fun t ht hW => ⟨⟨((-1)), (), rfl, rfl, by rw [ht]; exact hP9, va_K.moved hW.alike hK9, hD9⟩, hS.F ht⟩) hS.2.2 dX3_parametersIn_153
      · rw [if_pos c_22] at hsp
        refine lv_iload hx hb dX3_parametersIn_147 (lv_at hl 4 rfl) ?_
        refine lv_goto (tgt := 153) hx hb dX3_parametersIn_149 (by decide) ?_
        have hr0 := Option.some.inj hsp
        clear hsp
        subst hr0
        have hP9 := hP.sub (ws' := [(h0, .inr (3, [.ref qf0, .int v1, .int v2, .int v3, .ref qf4, .ref qf5, .ref qf6, .int v7, .int v8, .int v9, .int v10, .ref qf11, .int v12, .ref qf13])), (qf4, .inl (cf4, 256, .inl f4)), (qf5, .inl (cf5, 256, .inl f5)), (qf0, .inl (cf0, nb, .inl f0)), (qf6, .inl (cf6, 256, .inl f6))]) [3, 0, 1, 4, 2] rfl
        have hD9 := hD.sub (ws' := [(h0, .inr (3, [.ref qf0, .int v1, .int v2, .int v3, .ref qf4, .ref qf5, .ref qf6, .int v7, .int v8, .int v9, .int v10, .ref qf11, .int v12, .ref qf13])), (qf4, .inl (cf4, 256, .inl f4)), (qf5, .inl (cf5, 256, .inl f5)), (qf0, .inl (cf0, nb, .inl f0)), (qf6, .inl (cf6, 256, .inl f6))]) [3, 0, 1, 4, 2] (by decide) rfl
        have hK9 := hK.sub (tys' := [(cf4, .int), (cf5, .int), (cf0, .byte), (cf6, .int)]) [0, 1, 3, 2] rfl
        exact W.iret hx hb hr (fun t ht hW => ⟨⟨(l4_128), (), rfl, rfl, by rw [ht]; exact hP9, va_K.moved hW.alike hK9, hD9⟩, hS.F ht⟩) hS.2.2 dX3_parametersIn_153
  intro hj_128
  refine jn_use (α := Heap × List Loc × Array Slot × Int32 × Int32 × Int32) (fun x9 => x9.1) (fun x9 => x9.2.1) (fun x9 => F0 m 127 x9.2.2.1 []) (fun x9 => match x9 with | (H, locs, ls, l2_127, l3_127, l4_127) => lv_has ls 6 [(0, .ref h0), (2, .int l2_127), (3, .int l3_127), (4, .int l4_127)] ∧ va_S A s.heap H locs ∧ va_D A [(h0, .inr (3, [.ref qf0, .int v1, .int v2, .int v3, .ref qf4, .ref qf5, .ref qf6, .int v7, .int v8, .int v9, .int v10, .ref qf11, .int v12, .ref qf13])), (qf4, .inl (cf4, 256, .inl f4)), (qf5, .inl (cf5, 256, .inl f5)), (qf0, .inl (cf0, nb, .inl f0)), (qf6, .inl (cf6, 256, .inl f6))] ∧ va_P (dC, dI) vwCl [(h0, .inr (3, [.ref qf0, .int v1, .int v2, .int v3, .ref qf4, .ref qf5, .ref qf6, .int v7, .int v8, .int v9, .int v10, .ref qf11, .int v12, .ref qf13])), (qf4, .inl (cf4, 256, .inl f4)), (qf5, .inl (cf5, 256, .inl f5)), (qf0, .inl (cf0, nb, .inl f0)), (qf6, .inl (cf6, 256, .inl f6))] H ∧ jn_v3_parametersIn_127 nf a1 v1 v7 f4 f5 nb f0 f6 l2_127 l3_127 l4_127 = some r0) ?_ ?_
  · intro x9 hJ9
    obtain ⟨H, locs, ls, l2_127, l3_127, l4_127⟩ := x9
    obtain ⟨hl, hS, hD, hP, hsp⟩ := hJ9
    replace hl : lv_has ls 6 [(0, .ref h0), (2, .int l2_127), (3, .int l3_127), (4, .int l4_127)] := hl
    replace hS : va_S A s.heap H locs := hS
    replace hD : va_D A [(h0, .inr (3, [.ref qf0, .int v1, .int v2, .int v3, .ref qf4, .ref qf5, .ref qf6, .int v7, .int v8, .int v9, .int v10, .ref qf11, .int v12, .ref qf13])), (qf4, .inl (cf4, 256, .inl f4)), (qf5, .inl (cf5, 256, .inl f5)), (qf0, .inl (cf0, nb, .inl f0)), (qf6, .inl (cf6, 256, .inl f6))] := hD
    replace hP : va_P (dC, dI) vwCl [(h0, .inr (3, [.ref qf0, .int v1, .int v2, .int v3, .ref qf4, .ref qf5, .ref qf6, .int v7, .int v8, .int v9, .int v10, .ref qf11, .int v12, .ref qf13])), (qf4, .inl (cf4, 256, .inl f4)), (qf5, .inl (cf5, 256, .inl f5)), (qf0, .inl (cf0, nb, .inl f0)), (qf6, .inl (cf6, 256, .inl f6))] H := hP
    replace hsp : jn_v3_parametersIn_127 nf a1 v1 v7 f4 f5 nb f0 f6 l2_127 l3_127 l4_127 = some r0 := hsp
    show W _ _ _ _ _ _ _ _ _ _ H locs _ _ _ (F0 m 127 ls [])
    unfold jn_v3_parametersIn_127 at hsp
    try dsimp only at hsp
    refine lv_iconst (v := 0) hx hb dX3_parametersIn_127 (by decide) ?_
    exact hj_128 (H, locs, ls, l2_127, l3_127, l4_127, 0) ⟨lv_sub hl [0, 1, 2, 3] rfl, hS, hD.sub (ws' := [(h0, .inr (3, [.ref qf0, .int v1, .int v2, .int v3, .ref qf4, .ref qf5, .ref qf6, .int v7, .int v8, .int v9, .int v10, .ref qf11, .int v12, .ref qf13])), (qf4, .inl (cf4, 256, .inl f4)), (qf5, .inl (cf5, 256, .inl f5)), (qf0, .inl (cf0, nb, .inl f0)), (qf6, .inl (cf6, 256, .inl f6))]) [0, 1, 2, 3, 4] (by decide) rfl, hP.sub (ws' := [(h0, .inr (3, [.ref qf0, .int v1, .int v2, .int v3, .ref qf4, .ref qf5, .ref qf6, .int v7, .int v8, .int v9, .int v10, .ref qf11, .int v12, .ref qf13])), (qf4, .inl (cf4, 256, .inl f4)), (qf5, .inl (cf5, 256, .inl f5)), (qf0, .inl (cf0, nb, .inl f0)), (qf6, .inl (cf6, 256, .inl f6))]) [0, 1, 2, 3, 4] rfl, hsp⟩
  intro hj_127
  refine jn_use (α := Heap × List Loc × Array Slot × Int32 × Int32 × Int32) (fun x9 => x9.1) (fun x9 => x9.2.1) (fun x9 => F0 m 85 x9.2.2.1 []) (fun x9 => match x9 with | (H, locs, ls, l2_85, l3_85, l4_85) => lv_has ls 6 [(0, .ref h0), (2, .int l2_85), (3, .int l3_85), (4, .int l4_85)] ∧ va_S A s.heap H locs ∧ va_D A [(h0, .inr (3, [.ref qf0, .int v1, .int v2, .int v3, .ref qf4, .ref qf5, .ref qf6, .int v7, .int v8, .int v9, .int v10, .ref qf11, .int v12, .ref qf13])), (qf4, .inl (cf4, 256, .inl f4)), (qf5, .inl (cf5, 256, .inl f5)), (qf0, .inl (cf0, nb, .inl f0)), (qf6, .inl (cf6, 256, .inl f6))] ∧ va_P (dC, dI) vwCl [(h0, .inr (3, [.ref qf0, .int v1, .int v2, .int v3, .ref qf4, .ref qf5, .ref qf6, .int v7, .int v8, .int v9, .int v10, .ref qf11, .int v12, .ref qf13])), (qf4, .inl (cf4, 256, .inl f4)), (qf5, .inl (cf5, 256, .inl f5)), (qf0, .inl (cf0, nb, .inl f0)), (qf6, .inl (cf6, 256, .inl f6))] H ∧ jn_v3_parametersIn_85 nf a1 v1 v7 f4 f5 nb f0 f6 l2_85 l3_85 l4_85 = some r0) ?_ ?_
  · intro x9 hJ9
    obtain ⟨H, locs, ls, l2_85, l3_85, l4_85⟩ := x9
    obtain ⟨hl, hS, hD, hP, hsp⟩ := hJ9
    replace hl : lv_has ls 6 [(0, .ref h0), (2, .int l2_85), (3, .int l3_85), (4, .int l4_85)] := hl
    replace hS : va_S A s.heap H locs := hS
    replace hD : va_D A [(h0, .inr (3, [.ref qf0, .int v1, .int v2, .int v3, .ref qf4, .ref qf5, .ref qf6, .int v7, .int v8, .int v9, .int v10, .ref qf11, .int v12, .ref qf13])), (qf4, .inl (cf4, 256, .inl f4)), (qf5, .inl (cf5, 256, .inl f5)), (qf0, .inl (cf0, nb, .inl f0)), (qf6, .inl (cf6, 256, .inl f6))] := hD
    replace hP : va_P (dC, dI) vwCl [(h0, .inr (3, [.ref qf0, .int v1, .int v2, .int v3, .ref qf4, .ref qf5, .ref qf6, .int v7, .int v8, .int v9, .int v10, .ref qf11, .int v12, .ref qf13])), (qf4, .inl (cf4, 256, .inl f4)), (qf5, .inl (cf5, 256, .inl f5)), (qf0, .inl (cf0, nb, .inl f0)), (qf6, .inl (cf6, 256, .inl f6))] H := hP
    replace hsp : jn_v3_parametersIn_85 nf a1 v1 v7 f4 f5 nb f0 f6 l2_85 l3_85 l4_85 = some r0 := hsp
    show W _ _ _ _ _ _ _ _ _ _ H locs _ _ _ (F0 m 85 ls [])
    unfold jn_v3_parametersIn_85 at hsp
    try dsimp only at hsp
    refine lv_iload_n hx hb dX3_parametersIn_85 rfl (lv_at hl 2 rfl) ?_
    refine lv_iconst (v := (-1)) hx hb dX3_parametersIn_86 (by decide) ?_
    refine lv_icmp_eq (tgt := 102) hx hb dX3_parametersIn_87 (by decide) (fun c_14 => ?_) (fun c_14 => ?_)
    · rw [if_pos c_14] at hsp
      refine lv_iconst (v := (-1)) hx hb dX3_parametersIn_102 (by decide) ?_
      have hr0 := Option.some.inj hsp
      clear hsp
      subst hr0
      have hP9 := hP.sub (ws' := [(h0, .inr (3, [.ref qf0, .int v1, .int v2, .int v3, .ref qf4, .ref qf5, .ref qf6, .int v7, .int v8, .int v9, .int v10, .ref qf11, .int v12, .ref qf13])), (qf4, .inl (cf4, 256, .inl f4)), (qf5, .inl (cf5, 256, .inl f5)), (qf0, .inl (cf0, nb, .inl f0)), (qf6, .inl (cf6, 256, .inl f6))]) [0, 1, 2, 3, 4] rfl
      have hD9 := hD.sub (ws' := [(h0, .inr (3, [.ref qf0, .int v1, .int v2, .int v3, .ref qf4, .ref qf5, .ref qf6, .int v7, .int v8, .int v9, .int v10, .ref qf11, .int v12, .ref qf13])), (qf4, .inl (cf4, 256, .inl f4)), (qf5, .inl (cf5, 256, .inl f5)), (qf0, .inl (cf0, nb, .inl f0)), (qf6, .inl (cf6, 256, .inl f6))]) [0, 1, 2, 3, 4] (by decide) rfl
      have hK9 := hK.sub (tys' := [(cf4, .int), (cf5, .int), (cf0, .byte), (cf6, .int)]) [0, 1, 2, 3] rfl
      exact W.iret hx hb hr (fun t ht hW => ⟨⟨((-1)), (), rfl, rfl, by rw [ht]; exact hP9, va_K.moved hW.alike hK9, hD9⟩, hS.F ht⟩) hS.2.2 dX3_parametersIn_103
    · rw [if_neg c_14] at hsp
      refine lv_iload_n hx hb dX3_parametersIn_90 rfl (lv_at hl 2 rfl) ?_
      refine lv_iload_n hx hb dX3_parametersIn_91 rfl (lv_at hl 1 rfl) ?_
      refine lv_icmp_ge (tgt := 102) hx hb dX3_parametersIn_92 (by decide) (fun c_15 => ?_) (fun c_15 => ?_)
      · rw [if_pos c_15] at hsp
        refine lv_iconst (v := (-1)) hx hb dX3_parametersIn_102 (by decide) ?_
        have hr0 := Option.some.inj hsp
        clear hsp
        subst hr0
        have hP9 := hP.sub (ws' := [(h0, .inr (3, [.ref qf0, .int v1, .int v2, .int v3, .ref qf4, .ref qf5, .ref qf6, .int v7, .int v8, .int v9, .int v10, .ref qf11, .int v12, .ref qf13])), (qf4, .inl (cf4, 256, .inl f4)), (qf5, .inl (cf5, 256, .inl f5)), (qf0, .inl (cf0, nb, .inl f0)), (qf6, .inl (cf6, 256, .inl f6))]) [0, 1, 2, 3, 4] rfl
        have hD9 := hD.sub (ws' := [(h0, .inr (3, [.ref qf0, .int v1, .int v2, .int v3, .ref qf4, .ref qf5, .ref qf6, .int v7, .int v8, .int v9, .int v10, .ref qf11, .int v12, .ref qf13])), (qf4, .inl (cf4, 256, .inl f4)), (qf5, .inl (cf5, 256, .inl f5)), (qf0, .inl (cf0, nb, .inl f0)), (qf6, .inl (cf6, 256, .inl f6))]) [0, 1, 2, 3, 4] (by decide) rfl
        have hK9 := hK.sub (tys' := [(cf4, .int), (cf5, .int), (cf0, .byte), (cf6, .int)]) [0, 1, 2, 3] rfl
        exact W.iret hx hb hr (fun t ht hW => ⟨⟨((-1)), (), rfl, rfl, by rw [ht]; exact hP9, va_K.moved hW.alike hK9, hD9⟩, hS.F ht⟩) hS.2.2 dX3_parametersIn_103
      · rw [if_neg c_15] at hsp
        refine lv_iload hx hb dX3_parametersIn_95 (lv_at hl 3 rfl) ?_
        refine lv_bipush (v := 6) hx hb dX3_parametersIn_97 (by decide) ?_
        refine lv_icmp_le (tgt := 104) hx hb dX3_parametersIn_99 (by decide) (fun c_16 => ?_) (fun c_16 => ?_)
        · rw [if_pos c_16] at hsp
          refine lv_iload_n hx hb dX3_parametersIn_104 rfl (lv_at hl 2 rfl) ?_
          refine lv_iconst (v := 2) hx hb dX3_parametersIn_105 (by decide) ?_
          refine lv_iadd hx hb dX3_parametersIn_106 ?_
          refine lv_iload_n hx hb dX3_parametersIn_107 rfl (lv_at hl 1 rfl) ?_
          refine lv_icmp_ne (tgt := 127) hx hb dX3_parametersIn_108 (by decide) (fun c_17 => ?_) (fun c_17 => ?_)
          · rw [if_neg c_17] at hsp
            exact hj_127 (H, locs, ls, l2_85, l3_85, l4_85) ⟨lv_sub hl [0, 1, 2, 3] rfl, hS, hD.sub (ws' := [(h0, .inr (3, [.ref qf0, .int v1, .int v2, .int v3, .ref qf4, .ref qf5, .ref qf6, .int v7, .int v8, .int v9, .int v10, .ref qf11, .int v12, .ref qf13])), (qf4, .inl (cf4, 256, .inl f4)), (qf5, .inl (cf5, 256, .inl f5)), (qf0, .inl (cf0, nb, .inl f0)), (qf6, .inl (cf6, 256, .inl f6))]) [0, 1, 2, 3, 4] (by decide) rfl, hP.sub (ws' := [(h0, .inr (3, [.ref qf0, .int v1, .int v2, .int v3, .ref qf4, .ref qf5, .ref qf6, .int v7, .int v8, .int v9, .int v10, .ref qf11, .int v12, .ref qf13])), (qf4, .inl (cf4, 256, .inl f4)), (qf5, .inl (cf5, 256, .inl f5)), (qf0, .inl (cf0, nb, .inl f0)), (qf6, .inl (cf6, 256, .inl f6))]) [0, 1, 2, 3, 4] rfl, hsp⟩
          · rw [if_pos c_17] at hsp
            refine lv_aload_n hx hb dX3_parametersIn_111 rfl (lv_at hl 0 rfl) ?_
            refine lv_iload_n hx hb dX3_parametersIn_112 rfl (lv_at hl 2 rfl) ?_
            refine lv_iconst (v := 1) hx hb dX3_parametersIn_113 (by decide) ?_
            refine lv_iadd hx hb dX3_parametersIn_114 ?_
            obtain ⟨u5_0, hu_5, hsp⟩ := ox_bind hsp
            try dsimp only at hsp
            have hPc := hP.sub (ws' := [(h0, .inr (3, [.ref qf0, .int v1, .int v2, .int v3, .ref qf4, .ref qf5, .ref qf6, .int v7, .int v8, .int v9, .int v10, .ref qf11, .int v12, .ref qf13])), (qf0, .inl (cf0, nb, .inl f0))]) [0, 3] rfl
            have hDc := hD.sub (ws' := [(h0, .inr (3, [.ref qf0, .int v1, .int v2, .int v3, .ref qf4, .ref qf5, .ref qf6, .int v7, .int v8, .int v9, .int v10, .ref qf11, .int v12, .ref qf13])), (qf0, .inl (cf0, nb, .inl f0))]) [0, 3] (by decide) rfl
            have hKc := hK.sub (tys' := [(cf0, .byte)]) [2] rfl
            have hFc := va_free (wc := [(h0, .inr (3, [.ref qf0, .int v1, .int v2, .int v3, .ref qf4, .ref qf5, .ref qf6, .int v7, .int v8, .int v9, .int v10, .ref qf11, .int v12, .ref qf13])), (qf0, .inl (cf0, nb, .inl f0))]) hD hS hA [0, 3] rfl
            refine va_calli (va_runV (As := [.int (l3_85 + 1)]) (rest := []) ⟨hx, hb, hml, hown, hts⟩ (ti_byteAt l dC dI H.size h0 ((l3_85 + 1)) qf0 v1 v2 v3 qf4 qf5 qf6 v7 v8 v9 v10 qf11 v12 qf13 cf0 nb f0 nf u5_0 hu_5) (cwV 1 hts gv_h7_36 rfl rfl rfl (by decide +kernel) ⟨Nat.le_of_ble_eq_true rfl, Nat.le_of_ble_eq_true rfl⟩) ⟨fun a U g mk q => by obtain ⟨q0, q1, qP, qK, qD⟩ := q; exact ⟨q0, q1, qP, va_K.moved (u := U) (U := U.calling g mk a) (Vm.Alike.refl U.vm) qK, qD⟩, va_recv hKc hPc (ci := 3) (q0 := 0) rfl rfl, fun U hU hW => ⟨rfl, by rw [hU], by rw [hU]; exact hPc, va_K.moved hW.alike hKc, hDc.weaken (fun _ _ _ _ => trivial)⟩⟩ rfl rfl hl.1 rfl (lv_room (Nat.le_of_ble_eq_true rfl)) dX3_parametersIn_115 ⟨Nat.le_of_ble_eq_true rfl, Nat.le_of_ble_eq_true rfl⟩) hS (fun q _ h => hFc q h) hFc ?_
            clear hS
            intro r_18 u t H1 locs ht hvm hw hB hz1 hk1 hS
            obtain ⟨⟩ := u
            obtain ⟨hP1, hK1, hD1⟩ := hB
            rw [ht] at hP1
            have hK1 := va_K.moved hvm.symm hK1
            try dsimp only at hw
            have hPD := va_join (wr := [(qf4, .inl (cf4, 256, .inl f4)), (qf5, .inl (cf5, 256, .inl f5)), (qf6, .inl (cf6, 256, .inl f6))]) (w1 := [(h0, .inr (3, [.ref qf0, .int v1, .int v2, .int v3, .ref qf4, .ref qf5, .ref qf6, .int v7, .int v8, .int v9, .int v10, .ref qf11, .int v12, .ref qf13])), (qf0, .inl (cf0, nb, .inl f0))]) hP hD [0, 3] [1, 2, 4] rfl rfl (by decide) (by decide) hk1 hFc hP1 hD1
            clear hP hD
            obtain ⟨hP, hD⟩ := hPD
            replace hK := (hK.sub (tys' := [(cf4, .int), (cf5, .int), (cf6, .int)]) [0, 1, 3] rfl).app hK1
            clear hPc hDc hKc hFc hP1 hK1 hD1 hz1 hk1 ht hvm
            generalize H1 = H at hP hS ⊢
            replace hP : va_P (dC, dI) vwCl [(qf4, .inl (cf4, 256, .inl f4)), (qf5, .inl (cf5, 256, .inl f5)), (qf6, .inl (cf6, 256, .inl f6)), (h0, .inr (3, [.ref qf0, .int v1, .int v2, .int v3, .ref qf4, .ref qf5, .ref qf6, .int v7, .int v8, .int v9, .int v10, .ref qf11, .int v12, .ref qf13])), (qf0, .inl (cf0, nb, .inl f0))] H := hP
            replace hD : va_D A [(qf4, .inl (cf4, 256, .inl f4)), (qf5, .inl (cf5, 256, .inl f5)), (qf6, .inl (cf6, 256, .inl f6)), (h0, .inr (3, [.ref qf0, .int v1, .int v2, .int v3, .ref qf4, .ref qf5, .ref qf6, .int v7, .int v8, .int v9, .int v10, .ref qf11, .int v12, .ref qf13])), (qf0, .inl (cf0, nb, .inl f0))] := hD
            replace hK : va_K (dC, dI) vwCl [(cf4, .int), (cf5, .int), (cf6, .int), (cf0, .byte)] s := hK
            obtain rfl := hw
            refine lv_bipush (v := 86) hx hb dX3_parametersIn_118 (by decide) ?_
            refine lv_icmp_ne (tgt := 127) hx hb dX3_parametersIn_120 (by decide) (fun c_19 => ?_) (fun c_19 => ?_)
            · rw [if_neg c_19] at hsp
              exact hj_127 (H, locs, ls, l2_85, l3_85, l4_85) ⟨lv_sub hl [0, 1, 2, 3] rfl, hS, hD.sub (ws' := [(h0, .inr (3, [.ref qf0, .int v1, .int v2, .int v3, .ref qf4, .ref qf5, .ref qf6, .int v7, .int v8, .int v9, .int v10, .ref qf11, .int v12, .ref qf13])), (qf4, .inl (cf4, 256, .inl f4)), (qf5, .inl (cf5, 256, .inl f5)), (qf0, .inl (cf0, nb, .inl f0)), (qf6, .inl (cf6, 256, .inl f6))]) [3, 0, 1, 4, 2] (by decide) rfl, hP.sub (ws' := [(h0, .inr (3, [.ref qf0, .int v1, .int v2, .int v3, .ref qf4, .ref qf5, .ref qf6, .int v7, .int v8, .int v9, .int v10, .ref qf11, .int v12, .ref qf13])), (qf4, .inl (cf4, 256, .inl f4)), (qf5, .inl (cf5, 256, .inl f5)), (qf0, .inl (cf0, nb, .inl f0)), (qf6, .inl (cf6, 256, .inl f6))]) [3, 0, 1, 4, 2] rfl, hsp⟩
            · rw [if_pos c_19] at hsp
              refine lv_iconst (v := 1) hx hb dX3_parametersIn_123 (by decide) ?_
              refine lv_goto (tgt := 128) hx hb dX3_parametersIn_124 (by decide) ?_
              exact hj_128 (H, locs, ls, l2_85, l3_85, l4_85, 1) ⟨lv_sub hl [0, 1, 2, 3] rfl, hS, hD.sub (ws' := [(h0, .inr (3, [.ref qf0, .int v1, .int v2, .int v3, .ref qf4, .ref qf5, .ref qf6, .int v7, .int v8, .int v9, .int v10, .ref qf11, .int v12, .ref qf13])), (qf4, .inl (cf4, 256, .inl f4)), (qf5, .inl (cf5, 256, .inl f5)), (qf0, .inl (cf0, nb, .inl f0)), (qf6, .inl (cf6, 256, .inl f6))]) [3, 0, 1, 4, 2] (by decide) rfl, hP.sub (ws' := [(h0, .inr (3, [.ref qf0, .int v1, .int v2, .int v3, .ref qf4, .ref qf5, .ref qf6, .int v7, .int v8, .int v9, .int v10, .ref qf11, .int v12, .ref qf13])), (qf4, .inl (cf4, 256, .inl f4)), (qf5, .inl (cf5, 256, .inl f5)), (qf0, .inl (cf0, nb, .inl f0)), (qf6, .inl (cf6, 256, .inl f6))]) [3, 0, 1, 4, 2] rfl, hsp⟩
        · rw [if_neg c_16] at hsp
          refine lv_iconst (v := (-1)) hx hb dX3_parametersIn_102 (by decide) ?_
          have hr0 := Option.some.inj hsp
          clear hsp
          subst hr0
          have hP9 := hP.sub (ws' := [(h0, .inr (3, [.ref qf0, .int v1, .int v2, .int v3, .ref qf4, .ref qf5, .ref qf6, .int v7, .int v8, .int v9, .int v10, .ref qf11, .int v12, .ref qf13])), (qf4, .inl (cf4, 256, .inl f4)), (qf5, .inl (cf5, 256, .inl f5)), (qf0, .inl (cf0, nb, .inl f0)), (qf6, .inl (cf6, 256, .inl f6))]) [0, 1, 2, 3, 4] rfl
          have hD9 := hD.sub (ws' := [(h0, .inr (3, [.ref qf0, .int v1, .int v2, .int v3, .ref qf4, .ref qf5, .ref qf6, .int v7, .int v8, .int v9, .int v10, .ref qf11, .int v12, .ref qf13])), (qf4, .inl (cf4, 256, .inl f4)), (qf5, .inl (cf5, 256, .inl f5)), (qf0, .inl (cf0, nb, .inl f0)), (qf6, .inl (cf6, 256, .inl f6))]) [0, 1, 2, 3, 4] (by decide) rfl
          have hK9 := hK.sub (tys' := [(cf4, .int), (cf5, .int), (cf0, .byte), (cf6, .int)]) [0, 1, 2, 3] rfl
          exact W.iret hx hb hr (fun t ht hW => ⟨⟨((-1)), (), rfl, rfl, by rw [ht]; exact hP9, va_K.moved hW.alike hK9, hD9⟩, hS.F ht⟩) hS.2.2 dX3_parametersIn_103
  intro hj_85
  refine lv_aload_n hx hb dX3_parametersIn_0 rfl (lv_at hl 0 rfl) ?_
  refine lv_iload_n hx hb dX3_parametersIn_1 rfl (lv_at hl 1 rfl) ?_
  obtain ⟨u1_0, hu_1, hsp⟩ := ox_bind hsp
  try dsimp only at hsp
  have hPc := hP.sub (ws' := [(h0, .inr (3, [.ref qf0, .int v1, .int v2, .int v3, .ref qf4, .ref qf5, .ref qf6, .int v7, .int v8, .int v9, .int v10, .ref qf11, .int v12, .ref qf13])), (qf4, .inl (cf4, 256, .inl f4))]) [0, 1] rfl
  have hDc := hD.sub (ws' := [(h0, .inr (3, [.ref qf0, .int v1, .int v2, .int v3, .ref qf4, .ref qf5, .ref qf6, .int v7, .int v8, .int v9, .int v10, .ref qf11, .int v12, .ref qf13])), (qf4, .inl (cf4, 256, .inl f4))]) [0, 1] (by decide) rfl
  have hKc := hK.sub (tys' := [(cf4, .int)]) [0] rfl
  have hFc := va_free (wc := [(h0, .inr (3, [.ref qf0, .int v1, .int v2, .int v3, .ref qf4, .ref qf5, .ref qf6, .int v7, .int v8, .int v9, .int v10, .ref qf11, .int v12, .ref qf13])), (qf4, .inl (cf4, 256, .inl f4))]) hD hS hA [0, 1] rfl
  refine va_calli (va_runV (As := [.int a1]) (rest := []) ⟨hx, hb, hml, hown, hts⟩ (ti_tagOf l dC dI H.size h0 a1 qf0 v1 v2 v3 qf4 qf5 qf6 v7 v8 v9 v10 qf11 v12 qf13 cf4 f4 nf u1_0 hu_1) (cwV 1 hts gv_h7_34 rfl rfl rfl (by decide +kernel) ⟨Nat.le_of_ble_eq_true rfl, Nat.le_of_ble_eq_true rfl⟩) ⟨fun a U g mk q => by obtain ⟨q0, q1, qP, qK, qD⟩ := q; exact ⟨q0, q1, qP, va_K.moved (u := U) (U := U.calling g mk a) (Vm.Alike.refl U.vm) qK, qD⟩, va_recv hKc hPc (ci := 3) (q0 := 0) rfl rfl, fun U hU hW => ⟨rfl, by rw [hU], by rw [hU]; exact hPc, va_K.moved hW.alike hKc, hDc.weaken (fun _ _ _ _ => trivial)⟩⟩ rfl rfl hl.1 rfl (lv_room (Nat.le_of_ble_eq_true rfl)) dX3_parametersIn_2 ⟨Nat.le_of_ble_eq_true rfl, Nat.le_of_ble_eq_true rfl⟩) hS (fun q _ h => hFc q h) hFc ?_
  clear hS
  intro r_1 u t H1 locs ht hvm hw hB hz1 hk1 hS
  obtain ⟨⟩ := u
  obtain ⟨hP1, hK1, hD1⟩ := hB
  rw [ht] at hP1
  have hK1 := va_K.moved hvm.symm hK1
  try dsimp only at hw
  have hPD := va_join (wr := [(qf5, .inl (cf5, 256, .inl f5)), (qf0, .inl (cf0, nb, .inl f0)), (qf6, .inl (cf6, 256, .inl f6))]) (w1 := [(h0, .inr (3, [.ref qf0, .int v1, .int v2, .int v3, .ref qf4, .ref qf5, .ref qf6, .int v7, .int v8, .int v9, .int v10, .ref qf11, .int v12, .ref qf13])), (qf4, .inl (cf4, 256, .inl f4))]) hP hD [0, 1] [2, 3, 4] rfl rfl (by decide) (by decide) hk1 hFc hP1 hD1
  clear hP hD
  obtain ⟨hP, hD⟩ := hPD
  replace hK := (hK.sub (tys' := [(cf5, .int), (cf0, .byte), (cf6, .int)]) [1, 2, 3] rfl).app hK1
  clear hPc hDc hKc hFc hP1 hK1 hD1 hz1 hk1 ht hvm
  generalize H1 = H at hP hS ⊢
  replace hP : va_P (dC, dI) vwCl [(qf5, .inl (cf5, 256, .inl f5)), (qf0, .inl (cf0, nb, .inl f0)), (qf6, .inl (cf6, 256, .inl f6)), (h0, .inr (3, [.ref qf0, .int v1, .int v2, .int v3, .ref qf4, .ref qf5, .ref qf6, .int v7, .int v8, .int v9, .int v10, .ref qf11, .int v12, .ref qf13])), (qf4, .inl (cf4, 256, .inl f4))] H := hP
  replace hD : va_D A [(qf5, .inl (cf5, 256, .inl f5)), (qf0, .inl (cf0, nb, .inl f0)), (qf6, .inl (cf6, 256, .inl f6)), (h0, .inr (3, [.ref qf0, .int v1, .int v2, .int v3, .ref qf4, .ref qf5, .ref qf6, .int v7, .int v8, .int v9, .int v10, .ref qf11, .int v12, .ref qf13])), (qf4, .inl (cf4, 256, .inl f4))] := hD
  replace hK : va_K (dC, dI) vwCl [(cf5, .int), (cf0, .byte), (cf6, .int), (cf4, .int)] s := hK
  obtain rfl := hw
  refine lv_iconst (v := 1) hx hb dX3_parametersIn_5 (by decide) ?_
  refine lv_icmp_ne (tgt := 24) hx hb dX3_parametersIn_6 (by decide) (fun c_2 => ?_) (fun c_2 => ?_)
  · rw [if_neg c_2] at hsp
    refine lv_iconst (v := (-1)) hx hb dX3_parametersIn_24 (by decide) ?_
    have hr0 := Option.some.inj hsp
    clear hsp
    subst hr0
    have hP9 := hP.sub (ws' := [(h0, .inr (3, [.ref qf0, .int v1, .int v2, .int v3, .ref qf4, .ref qf5, .ref qf6, .int v7, .int v8, .int v9, .int v10, .ref qf11, .int v12, .ref qf13])), (qf4, .inl (cf4, 256, .inl f4)), (qf5, .inl (cf5, 256, .inl f5)), (qf0, .inl (cf0, nb, .inl f0)), (qf6, .inl (cf6, 256, .inl f6))]) [3, 4, 0, 1, 2] rfl
    have hD9 := hD.sub (ws' := [(h0, .inr (3, [.ref qf0, .int v1, .int v2, .int v3, .ref qf4, .ref qf5, .ref qf6, .int v7, .int v8, .int v9, .int v10, .ref qf11, .int v12, .ref qf13])), (qf4, .inl (cf4, 256, .inl f4)), (qf5, .inl (cf5, 256, .inl f5)), (qf0, .inl (cf0, nb, .inl f0)), (qf6, .inl (cf6, 256, .inl f6))]) [3, 4, 0, 1, 2] (by decide) rfl
    have hK9 := hK.sub (tys' := [(cf4, .int), (cf5, .int), (cf0, .byte), (cf6, .int)]) [3, 0, 1, 2] rfl
    exact W.iret hx hb hr (fun t ht hW => ⟨⟨((-1)), (), rfl, rfl, by rw [ht]; exact hP9, va_K.moved hW.alike hK9, hD9⟩, hS.F ht⟩) hS.2.2 dX3_parametersIn_25
  · rw [if_pos c_2] at hsp
    refine lv_aload_n hx hb dX3_parametersIn_9 rfl (lv_at hl 0 rfl) ?_
    refine lv_aload_n hx hb dX3_parametersIn_10 rfl (lv_at hl 0 rfl) ?_
    refine va_get (D := (dC, dI)) (ci := 3) (v := .ref qf5) (C := RX3) (T := TX3) (N := 14) hx hb hts uV_h7_X3 hown hK hP 3 rfl rfl 5 (by decide) (hts (.fieldLink RX3 19 "ClassMill$Image" "at" "[I") mw_h7_159) (fun _ h9 => h9) rfl dX3_parametersIn_11 ?_
    refine lv_iload_n hx hb dX3_parametersIn_14 rfl (lv_at hl 1 rfl) ?_
    obtain ⟨hi_3, hsp⟩ := ox_in hsp
    refine va_iald hx hb hK hP 0 0 rfl rfl (i := a1) hi_3 dX3_parametersIn_15 ?_
    obtain ⟨u2_0, hu_2, hsp⟩ := ox_bind hsp
    try dsimp only at hsp
    have hPc := hP.sub (ws' := [(h0, .inr (3, [.ref qf0, .int v1, .int v2, .int v3, .ref qf4, .ref qf5, .ref qf6, .int v7, .int v8, .int v9, .int v10, .ref qf11, .int v12, .ref qf13])), (qf0, .inl (cf0, nb, .inl f0))]) [3, 1] rfl
    have hDc := hD.sub (ws' := [(h0, .inr (3, [.ref qf0, .int v1, .int v2, .int v3, .ref qf4, .ref qf5, .ref qf6, .int v7, .int v8, .int v9, .int v10, .ref qf11, .int v12, .ref qf13])), (qf0, .inl (cf0, nb, .inl f0))]) [3, 1] (by decide) rfl
    have hKc := hK.sub (tys' := [(cf0, .byte)]) [1] rfl
    have hFc := va_free (wc := [(h0, .inr (3, [.ref qf0, .int v1, .int v2, .int v3, .ref qf4, .ref qf5, .ref qf6, .int v7, .int v8, .int v9, .int v10, .ref qf11, .int v12, .ref qf13])), (qf0, .inl (cf0, nb, .inl f0))]) hD hS hA [3, 1] rfl
    refine va_calli (va_runV (As := [.int (f5 (a1 : Int32).toNatClampNeg)]) (rest := []) ⟨hx, hb, hml, hown, hts⟩ (ti_byteAt l dC dI H.size h0 ((f5 (a1 : Int32).toNatClampNeg)) qf0 v1 v2 v3 qf4 qf5 qf6 v7 v8 v9 v10 qf11 v12 qf13 cf0 nb f0 nf u2_0 hu_2) (cwV 1 hts gv_h7_36 rfl rfl rfl (by decide +kernel) ⟨Nat.le_of_ble_eq_true rfl, Nat.le_of_ble_eq_true rfl⟩) ⟨fun a U g mk q => by obtain ⟨q0, q1, qP, qK, qD⟩ := q; exact ⟨q0, q1, qP, va_K.moved (u := U) (U := U.calling g mk a) (Vm.Alike.refl U.vm) qK, qD⟩, va_recv hKc hPc (ci := 3) (q0 := 0) rfl rfl, fun U hU hW => ⟨rfl, by rw [hU], by rw [hU]; exact hPc, va_K.moved hW.alike hKc, hDc.weaken (fun _ _ _ _ => trivial)⟩⟩ rfl rfl hl.1 rfl (lv_room (Nat.le_of_ble_eq_true rfl)) dX3_parametersIn_16 ⟨Nat.le_of_ble_eq_true rfl, Nat.le_of_ble_eq_true rfl⟩) hS (fun q _ h => hFc q h) hFc ?_
    clear hS
    intro r_4 u t H1 locs ht hvm hw hB hz1 hk1 hS
    obtain ⟨⟩ := u
    obtain ⟨hP1, hK1, hD1⟩ := hB
    rw [ht] at hP1
    have hK1 := va_K.moved hvm.symm hK1
    try dsimp only at hw
    have hPD := va_join (wr := [(qf5, .inl (cf5, 256, .inl f5)), (qf6, .inl (cf6, 256, .inl f6)), (qf4, .inl (cf4, 256, .inl f4))]) (w1 := [(h0, .inr (3, [.ref qf0, .int v1, .int v2, .int v3, .ref qf4, .ref qf5, .ref qf6, .int v7, .int v8, .int v9, .int v10, .ref qf11, .int v12, .ref qf13])), (qf0, .inl (cf0, nb, .inl f0))]) hP hD [3, 1] [0, 2, 4] rfl rfl (by decide) (by decide) hk1 hFc hP1 hD1
    clear hP hD
    obtain ⟨hP, hD⟩ := hPD
    replace hK := (hK.sub (tys' := [(cf5, .int), (cf6, .int), (cf4, .int)]) [0, 2, 3] rfl).app hK1
    clear hPc hDc hKc hFc hP1 hK1 hD1 hz1 hk1 ht hvm
    generalize H1 = H at hP hS ⊢
    replace hP : va_P (dC, dI) vwCl [(qf5, .inl (cf5, 256, .inl f5)), (qf6, .inl (cf6, 256, .inl f6)), (qf4, .inl (cf4, 256, .inl f4)), (h0, .inr (3, [.ref qf0, .int v1, .int v2, .int v3, .ref qf4, .ref qf5, .ref qf6, .int v7, .int v8, .int v9, .int v10, .ref qf11, .int v12, .ref qf13])), (qf0, .inl (cf0, nb, .inl f0))] H := hP
    replace hD : va_D A [(qf5, .inl (cf5, 256, .inl f5)), (qf6, .inl (cf6, 256, .inl f6)), (qf4, .inl (cf4, 256, .inl f4)), (h0, .inr (3, [.ref qf0, .int v1, .int v2, .int v3, .ref qf4, .ref qf5, .ref qf6, .int v7, .int v8, .int v9, .int v10, .ref qf11, .int v12, .ref qf13])), (qf0, .inl (cf0, nb, .inl f0))] := hD
    replace hK : va_K (dC, dI) vwCl [(cf5, .int), (cf6, .int), (cf4, .int), (cf0, .byte)] s := hK
    obtain rfl := hw
    refine lv_bipush (v := 40) hx hb dX3_parametersIn_19 (by decide) ?_
    refine lv_icmp_eq (tgt := 26) hx hb dX3_parametersIn_21 (by decide) (fun c_5 => ?_) (fun c_5 => ?_)
    · rw [if_pos c_5] at hsp
      refine lv_aload_n hx hb dX3_parametersIn_26 rfl (lv_at hl 0 rfl) ?_
      refine va_get (D := (dC, dI)) (ci := 3) (v := .ref qf6) (C := RX3) (T := TX3) (N := 14) hx hb hts uV_h7_X3 hown hK hP 3 rfl rfl 6 (by decide) (hts (.fieldLink RX3 22 "ClassMill$Image" "textStop" "[I") mw_h7_161) (fun _ h9 => h9) rfl dX3_parametersIn_27 ?_
      refine lv_iload_n hx hb dX3_parametersIn_30 rfl (lv_at hl 1 rfl) ?_
      obtain ⟨hi_6, hsp⟩ := ox_in hsp
      refine va_iald hx hb hK hP 1 1 rfl rfl (i := a1) hi_6 dX3_parametersIn_31 ?_
      refine lv_istore_n (lv' := [(2, .int (f6 (a1 : Int32).toNatClampNeg)), (0, .ref h0), (1, .int a1)]) hx hb dX3_parametersIn_32 rfl hl (by decide) rfl (fun ls hl => ?_)
      refine lv_aload_n hx hb dX3_parametersIn_33 rfl (lv_at hl 1 rfl) ?_
      refine va_get (D := (dC, dI)) (ci := 3) (v := .ref qf5) (C := RX3) (T := TX3) (N := 14) hx hb hts uV_h7_X3 hown hK hP 3 rfl rfl 5 (by decide) (hts (.fieldLink RX3 19 "ClassMill$Image" "at" "[I") mw_h7_159) (fun _ h9 => h9) rfl dX3_parametersIn_34 ?_
      refine lv_iload_n hx hb dX3_parametersIn_37 rfl (lv_at hl 2 rfl) ?_
      obtain ⟨hi_7, hsp⟩ := ox_in hsp
      refine va_iald hx hb hK hP 0 0 rfl rfl (i := a1) hi_7 dX3_parametersIn_38 ?_
      refine lv_iconst (v := 1) hx hb dX3_parametersIn_39 (by decide) ?_
      refine lv_iadd hx hb dX3_parametersIn_40 ?_
      refine lv_istore_n (lv' := [(3, .int ((f5 (a1 : Int32).toNatClampNeg) + 1)), (2, .int (f6 (a1 : Int32).toNatClampNeg)), (0, .ref h0), (1, .int a1)]) hx hb dX3_parametersIn_41 rfl hl (by decide) rfl (fun ls hl => ?_)
      refine lv_iconst (v := 0) hx hb dX3_parametersIn_42 (by decide) ?_
      refine lv_istore (lv' := [(4, .int 0), (3, .int ((f5 (a1 : Int32).toNatClampNeg) + 1)), (2, .int (f6 (a1 : Int32).toNatClampNeg)), (0, .ref h0), (1, .int a1)]) hx hb dX3_parametersIn_43 hl (by decide) rfl (fun ls hl => ?_)
      replace hl : lv_has ls 6 [(4, .int 0), (3, .int ((f5 (a1 : Int32).toNatClampNeg) + 1)), (2, .int (f6 (a1 : Int32).toNatClampNeg)), (0, .ref h0)] := lv_sub hl [0, 1, 2, 3] rfl
      replace hP := hP.sub (ws' := [(h0, .inr (3, [.ref qf0, .int v1, .int v2, .int v3, .ref qf4, .ref qf5, .ref qf6, .int v7, .int v8, .int v9, .int v10, .ref qf11, .int v12, .ref qf13])), (qf4, .inl (cf4, 256, .inl f4)), (qf5, .inl (cf5, 256, .inl f5)), (qf0, .inl (cf0, nb, .inl f0)), (qf6, .inl (cf6, 256, .inl f6))]) [3, 2, 0, 4, 1] rfl
      replace hD := hD.sub (ws' := [(h0, .inr (3, [.ref qf0, .int v1, .int v2, .int v3, .ref qf4, .ref qf5, .ref qf6, .int v7, .int v8, .int v9, .int v10, .ref qf11, .int v12, .ref qf13])), (qf4, .inl (cf4, 256, .inl f4)), (qf5, .inl (cf5, 256, .inl f5)), (qf0, .inl (cf0, nb, .inl f0)), (qf6, .inl (cf6, 256, .inl f6))]) [3, 2, 0, 4, 1] (by decide) rfl
      replace hK := hK.sub (tys' := [(cf4, .int), (cf5, .int), (cf0, .byte), (cf6, .int)]) [2, 0, 3, 1] rfl
      obtain ⟨n_45, hn_45⟩ : ∃ z : Nat, z = nf := ⟨_, rfl⟩
      obtain ⟨l2_45, el2_45⟩ : ∃ z : Int32, z = (f6 (a1 : Int32).toNatClampNeg) := ⟨_, rfl⟩
      obtain ⟨l3_45, el3_45⟩ : ∃ z : Int32, z = ((f5 (a1 : Int32).toNatClampNeg) + 1) := ⟨_, rfl⟩
      obtain ⟨l4_45, el4_45⟩ : ∃ z : Int32, z = 0 := ⟨_, rfl⟩
      replace hsp : lp_v3_parametersIn_45 nf n_45 a1 v1 v7 f4 f5 nb f0 f6 l2_45 l3_45 l4_45 = some r0 := by rw [hn_45, el2_45, el3_45, el4_45]; exact hsp
      replace hl : lv_has ls 6 [(4, .int l4_45), (3, .int l3_45), (2, .int l2_45), (0, .ref h0)] := by rw [el2_45, el3_45, el4_45]; exact hl
      clear hn_45 el2_45 el3_45 el4_45
      try clear hlo
      try clear hH
      revert hsp
      revert hP
      revert hD
      revert hS
      revert hl
      revert l4_45
      revert l3_45
      revert l2_45
      revert ls
      revert locs
      revert H
      induction n_45 with
      | zero => intro H locs ls l2_45 l3_45 l4_45  hl hS hD hP hsp; unfold lp_v3_parametersIn_45 at hsp; cases hsp
      | succ n_45 ih_45 =>
        intro H locs ls l2_45 l3_45 l4_45  hl hS hD hP hsp
        unfold lp_v3_parametersIn_45 at hsp
        try dsimp only at hsp
        refine lv_iload hx hb dX3_parametersIn_45 (lv_at hl 0 rfl) ?_
        refine lv_bipush (v := 6) hx hb dX3_parametersIn_47 (by decide) ?_
        refine lv_icmp_gt (tgt := 85) hx hb dX3_parametersIn_49 (by decide) (fun c_8 => ?_) (fun c_8 => ?_)
        · rw [if_pos c_8] at hsp
          exact hj_85 (H, locs, ls, l2_45, l3_45, l4_45) ⟨lv_sub hl [3, 2, 1, 0] rfl, hS, hD.sub (ws' := [(h0, .inr (3, [.ref qf0, .int v1, .int v2, .int v3, .ref qf4, .ref qf5, .ref qf6, .int v7, .int v8, .int v9, .int v10, .ref qf11, .int v12, .ref qf13])), (qf4, .inl (cf4, 256, .inl f4)), (qf5, .inl (cf5, 256, .inl f5)), (qf0, .inl (cf0, nb, .inl f0)), (qf6, .inl (cf6, 256, .inl f6))]) [0, 1, 2, 3, 4] (by decide) rfl, hP.sub (ws' := [(h0, .inr (3, [.ref qf0, .int v1, .int v2, .int v3, .ref qf4, .ref qf5, .ref qf6, .int v7, .int v8, .int v9, .int v10, .ref qf11, .int v12, .ref qf13])), (qf4, .inl (cf4, 256, .inl f4)), (qf5, .inl (cf5, 256, .inl f5)), (qf0, .inl (cf0, nb, .inl f0)), (qf6, .inl (cf6, 256, .inl f6))]) [0, 1, 2, 3, 4] rfl, hsp⟩
        · rw [if_neg c_8] at hsp
          refine lv_iload_n hx hb dX3_parametersIn_52 rfl (lv_at hl 1 rfl) ?_
          refine lv_iconst (v := (-1)) hx hb dX3_parametersIn_53 (by decide) ?_
          refine lv_icmp_eq (tgt := 85) hx hb dX3_parametersIn_54 (by decide) (fun c_9 => ?_) (fun c_9 => ?_)
          · rw [if_pos c_9] at hsp
            exact hj_85 (H, locs, ls, l2_45, l3_45, l4_45) ⟨lv_sub hl [3, 2, 1, 0] rfl, hS, hD.sub (ws' := [(h0, .inr (3, [.ref qf0, .int v1, .int v2, .int v3, .ref qf4, .ref qf5, .ref qf6, .int v7, .int v8, .int v9, .int v10, .ref qf11, .int v12, .ref qf13])), (qf4, .inl (cf4, 256, .inl f4)), (qf5, .inl (cf5, 256, .inl f5)), (qf0, .inl (cf0, nb, .inl f0)), (qf6, .inl (cf6, 256, .inl f6))]) [0, 1, 2, 3, 4] (by decide) rfl, hP.sub (ws' := [(h0, .inr (3, [.ref qf0, .int v1, .int v2, .int v3, .ref qf4, .ref qf5, .ref qf6, .int v7, .int v8, .int v9, .int v10, .ref qf11, .int v12, .ref qf13])), (qf4, .inl (cf4, 256, .inl f4)), (qf5, .inl (cf5, 256, .inl f5)), (qf0, .inl (cf0, nb, .inl f0)), (qf6, .inl (cf6, 256, .inl f6))]) [0, 1, 2, 3, 4] rfl, hsp⟩
          · rw [if_neg c_9] at hsp
            refine lv_iload_n hx hb dX3_parametersIn_57 rfl (lv_at hl 1 rfl) ?_
            refine lv_iload_n hx hb dX3_parametersIn_58 rfl (lv_at hl 2 rfl) ?_
            refine lv_icmp_ge (tgt := 85) hx hb dX3_parametersIn_59 (by decide) (fun c_10 => ?_) (fun c_10 => ?_)
            · rw [if_pos c_10] at hsp
              exact hj_85 (H, locs, ls, l2_45, l3_45, l4_45) ⟨lv_sub hl [3, 2, 1, 0] rfl, hS, hD.sub (ws' := [(h0, .inr (3, [.ref qf0, .int v1, .int v2, .int v3, .ref qf4, .ref qf5, .ref qf6, .int v7, .int v8, .int v9, .int v10, .ref qf11, .int v12, .ref qf13])), (qf4, .inl (cf4, 256, .inl f4)), (qf5, .inl (cf5, 256, .inl f5)), (qf0, .inl (cf0, nb, .inl f0)), (qf6, .inl (cf6, 256, .inl f6))]) [0, 1, 2, 3, 4] (by decide) rfl, hP.sub (ws' := [(h0, .inr (3, [.ref qf0, .int v1, .int v2, .int v3, .ref qf4, .ref qf5, .ref qf6, .int v7, .int v8, .int v9, .int v10, .ref qf11, .int v12, .ref qf13])), (qf4, .inl (cf4, 256, .inl f4)), (qf5, .inl (cf5, 256, .inl f5)), (qf0, .inl (cf0, nb, .inl f0)), (qf6, .inl (cf6, 256, .inl f6))]) [0, 1, 2, 3, 4] rfl, hsp⟩
            · rw [if_neg c_10] at hsp
              refine lv_aload_n hx hb dX3_parametersIn_62 rfl (lv_at hl 3 rfl) ?_
              refine lv_iload_n hx hb dX3_parametersIn_63 rfl (lv_at hl 1 rfl) ?_
              obtain ⟨u3_0, hu_3, hsp⟩ := ox_bind hsp
              try dsimp only at hsp
              have hPc := hP.sub (ws' := [(h0, .inr (3, [.ref qf0, .int v1, .int v2, .int v3, .ref qf4, .ref qf5, .ref qf6, .int v7, .int v8, .int v9, .int v10, .ref qf11, .int v12, .ref qf13])), (qf0, .inl (cf0, nb, .inl f0))]) [0, 3] rfl
              have hDc := hD.sub (ws' := [(h0, .inr (3, [.ref qf0, .int v1, .int v2, .int v3, .ref qf4, .ref qf5, .ref qf6, .int v7, .int v8, .int v9, .int v10, .ref qf11, .int v12, .ref qf13])), (qf0, .inl (cf0, nb, .inl f0))]) [0, 3] (by decide) rfl
              have hKc := hK.sub (tys' := [(cf0, .byte)]) [2] rfl
              have hFc := va_free (wc := [(h0, .inr (3, [.ref qf0, .int v1, .int v2, .int v3, .ref qf4, .ref qf5, .ref qf6, .int v7, .int v8, .int v9, .int v10, .ref qf11, .int v12, .ref qf13])), (qf0, .inl (cf0, nb, .inl f0))]) hD hS hA [0, 3] rfl
              refine va_calli (va_runV (As := [.int l3_45]) (rest := []) ⟨hx, hb, hml, hown, hts⟩ (ti_byteAt l dC dI H.size h0 l3_45 qf0 v1 v2 v3 qf4 qf5 qf6 v7 v8 v9 v10 qf11 v12 qf13 cf0 nb f0 nf u3_0 hu_3) (cwV 1 hts gv_h7_36 rfl rfl rfl (by decide +kernel) ⟨Nat.le_of_ble_eq_true rfl, Nat.le_of_ble_eq_true rfl⟩) ⟨fun a U g mk q => by obtain ⟨q0, q1, qP, qK, qD⟩ := q; exact ⟨q0, q1, qP, va_K.moved (u := U) (U := U.calling g mk a) (Vm.Alike.refl U.vm) qK, qD⟩, va_recv hKc hPc (ci := 3) (q0 := 0) rfl rfl, fun U hU hW => ⟨rfl, by rw [hU], by rw [hU]; exact hPc, va_K.moved hW.alike hKc, hDc.weaken (fun _ _ _ _ => trivial)⟩⟩ rfl rfl hl.1 rfl (lv_room (Nat.le_of_ble_eq_true rfl)) dX3_parametersIn_64 ⟨Nat.le_of_ble_eq_true rfl, Nat.le_of_ble_eq_true rfl⟩) hS (fun q _ h => hFc q h) hFc ?_
              clear hS
              intro r_11 u t H1 locs ht hvm hw hB hz1 hk1 hS
              obtain ⟨⟩ := u
              obtain ⟨hP1, hK1, hD1⟩ := hB
              rw [ht] at hP1
              have hK1 := va_K.moved hvm.symm hK1
              try dsimp only at hw
              have hPD := va_join (wr := [(qf4, .inl (cf4, 256, .inl f4)), (qf5, .inl (cf5, 256, .inl f5)), (qf6, .inl (cf6, 256, .inl f6))]) (w1 := [(h0, .inr (3, [.ref qf0, .int v1, .int v2, .int v3, .ref qf4, .ref qf5, .ref qf6, .int v7, .int v8, .int v9, .int v10, .ref qf11, .int v12, .ref qf13])), (qf0, .inl (cf0, nb, .inl f0))]) hP hD [0, 3] [1, 2, 4] rfl rfl (by decide) (by decide) hk1 hFc hP1 hD1
              clear hP hD
              obtain ⟨hP, hD⟩ := hPD
              replace hK := (hK.sub (tys' := [(cf4, .int), (cf5, .int), (cf6, .int)]) [0, 1, 3] rfl).app hK1
              clear hPc hDc hKc hFc hP1 hK1 hD1 hz1 hk1 ht hvm
              generalize H1 = H at hP hS ⊢
              replace hP : va_P (dC, dI) vwCl [(qf4, .inl (cf4, 256, .inl f4)), (qf5, .inl (cf5, 256, .inl f5)), (qf6, .inl (cf6, 256, .inl f6)), (h0, .inr (3, [.ref qf0, .int v1, .int v2, .int v3, .ref qf4, .ref qf5, .ref qf6, .int v7, .int v8, .int v9, .int v10, .ref qf11, .int v12, .ref qf13])), (qf0, .inl (cf0, nb, .inl f0))] H := hP
              replace hD : va_D A [(qf4, .inl (cf4, 256, .inl f4)), (qf5, .inl (cf5, 256, .inl f5)), (qf6, .inl (cf6, 256, .inl f6)), (h0, .inr (3, [.ref qf0, .int v1, .int v2, .int v3, .ref qf4, .ref qf5, .ref qf6, .int v7, .int v8, .int v9, .int v10, .ref qf11, .int v12, .ref qf13])), (qf0, .inl (cf0, nb, .inl f0))] := hD
              replace hK : va_K (dC, dI) vwCl [(cf4, .int), (cf5, .int), (cf6, .int), (cf0, .byte)] s := hK
              obtain rfl := hw
              refine lv_bipush (v := 41) hx hb dX3_parametersIn_67 (by decide) ?_
              refine lv_icmp_eq (tgt := 85) hx hb dX3_parametersIn_69 (by decide) (fun c_12 => ?_) (fun c_12 => ?_)
              · rw [if_pos c_12] at hsp
                exact hj_85 (H, locs, ls, l2_45, l3_45, l4_45) ⟨lv_sub hl [3, 2, 1, 0] rfl, hS, hD.sub (ws' := [(h0, .inr (3, [.ref qf0, .int v1, .int v2, .int v3, .ref qf4, .ref qf5, .ref qf6, .int v7, .int v8, .int v9, .int v10, .ref qf11, .int v12, .ref qf13])), (qf4, .inl (cf4, 256, .inl f4)), (qf5, .inl (cf5, 256, .inl f5)), (qf0, .inl (cf0, nb, .inl f0)), (qf6, .inl (cf6, 256, .inl f6))]) [3, 0, 1, 4, 2] (by decide) rfl, hP.sub (ws' := [(h0, .inr (3, [.ref qf0, .int v1, .int v2, .int v3, .ref qf4, .ref qf5, .ref qf6, .int v7, .int v8, .int v9, .int v10, .ref qf11, .int v12, .ref qf13])), (qf4, .inl (cf4, 256, .inl f4)), (qf5, .inl (cf5, 256, .inl f5)), (qf0, .inl (cf0, nb, .inl f0)), (qf6, .inl (cf6, 256, .inl f6))]) [3, 0, 1, 4, 2] rfl, hsp⟩
              · rw [if_neg c_12] at hsp
                refine lv_aload_n hx hb dX3_parametersIn_72 rfl (lv_at hl 3 rfl) ?_
                refine lv_iload_n hx hb dX3_parametersIn_73 rfl (lv_at hl 1 rfl) ?_
                refine lv_iload_n hx hb dX3_parametersIn_74 rfl (lv_at hl 2 rfl) ?_
                obtain ⟨u4_0, hu_4, hsp⟩ := ox_bind hsp
                try dsimp only at hsp
                have hPc := hP.sub (ws' := [(h0, .inr (3, [.ref qf0, .int v1, .int v2, .int v3, .ref qf4, .ref qf5, .ref qf6, .int v7, .int v8, .int v9, .int v10, .ref qf11, .int v12, .ref qf13])), (qf0, .inl (cf0, nb, .inl f0))]) [3, 4] rfl
                have hDc := hD.sub (ws' := [(h0, .inr (3, [.ref qf0, .int v1, .int v2, .int v3, .ref qf4, .ref qf5, .ref qf6, .int v7, .int v8, .int v9, .int v10, .ref qf11, .int v12, .ref qf13])), (qf0, .inl (cf0, nb, .inl f0))]) [3, 4] (by decide) rfl
                have hKc := hK.sub (tys' := [(cf0, .byte)]) [3] rfl
                have hFc := va_free (wc := [(h0, .inr (3, [.ref qf0, .int v1, .int v2, .int v3, .ref qf4, .ref qf5, .ref qf6, .int v7, .int v8, .int v9, .int v10, .ref qf11, .int v12, .ref qf13])), (qf0, .inl (cf0, nb, .inl f0))]) hD hS hA [3, 4] rfl
                refine va_calli (va_runV (As := [.int l3_45, .int l2_45]) (rest := []) ⟨hx, hb, hml, hown, hts⟩ (v3_behindKind l dC dI H.size h0 l3_45 l2_45 qf0 v1 v2 v3 qf4 qf5 qf6 v7 v8 v9 v10 qf11 v12 qf13 cf0 nb f0 nf u4_0 hu_4) (cwV 2 hts gv_h7_37 rfl rfl rfl (by decide +kernel) ⟨Nat.le_of_ble_eq_true rfl, Nat.le_of_ble_eq_true rfl⟩) ⟨fun a U g mk q => by obtain ⟨q0, q1, qP, qK, qD⟩ := q; exact ⟨q0, q1, qP, va_K.moved (u := U) (U := U.calling g mk a) (Vm.Alike.refl U.vm) qK, qD⟩, va_recv hKc hPc (ci := 3) (q0 := 0) rfl rfl, fun U hU hW => ⟨rfl, by rw [hU], by rw [hU]; exact hPc, va_K.moved hW.alike hKc, hDc.weaken (fun _ _ _ _ => trivial)⟩⟩ rfl rfl hl.1 rfl (lv_room (Nat.le_of_ble_eq_true rfl)) dX3_parametersIn_75 ⟨Nat.le_of_ble_eq_true rfl, Nat.le_of_ble_eq_true rfl⟩) hS (fun q _ h => hFc q h) hFc ?_
                clear hS
                intro r_13 u t H1 locs ht hvm hw hB hz1 hk1 hS
                obtain ⟨⟩ := u
                obtain ⟨hP1, hK1, hD1⟩ := hB
                rw [ht] at hP1
                have hK1 := va_K.moved hvm.symm hK1
                try dsimp only at hw
                have hPD := va_join (wr := [(qf4, .inl (cf4, 256, .inl f4)), (qf5, .inl (cf5, 256, .inl f5)), (qf6, .inl (cf6, 256, .inl f6))]) (w1 := [(h0, .inr (3, [.ref qf0, .int v1, .int v2, .int v3, .ref qf4, .ref qf5, .ref qf6, .int v7, .int v8, .int v9, .int v10, .ref qf11, .int v12, .ref qf13])), (qf0, .inl (cf0, nb, .inl f0))]) hP hD [3, 4] [0, 1, 2] rfl rfl (by decide) (by decide) hk1 hFc hP1 hD1
                clear hP hD
                obtain ⟨hP, hD⟩ := hPD
                replace hK := (hK.sub (tys' := [(cf4, .int), (cf5, .int), (cf6, .int)]) [0, 1, 2] rfl).app hK1
                clear hPc hDc hKc hFc hP1 hK1 hD1 hz1 hk1 ht hvm
                generalize H1 = H at hP hS ⊢
                replace hP : va_P (dC, dI) vwCl [(qf4, .inl (cf4, 256, .inl f4)), (qf5, .inl (cf5, 256, .inl f5)), (qf6, .inl (cf6, 256, .inl f6)), (h0, .inr (3, [.ref qf0, .int v1, .int v2, .int v3, .ref qf4, .ref qf5, .ref qf6, .int v7, .int v8, .int v9, .int v10, .ref qf11, .int v12, .ref qf13])), (qf0, .inl (cf0, nb, .inl f0))] H := hP
                replace hD : va_D A [(qf4, .inl (cf4, 256, .inl f4)), (qf5, .inl (cf5, 256, .inl f5)), (qf6, .inl (cf6, 256, .inl f6)), (h0, .inr (3, [.ref qf0, .int v1, .int v2, .int v3, .ref qf4, .ref qf5, .ref qf6, .int v7, .int v8, .int v9, .int v10, .ref qf11, .int v12, .ref qf13])), (qf0, .inl (cf0, nb, .inl f0))] := hD
                replace hK : va_K (dC, dI) vwCl [(cf4, .int), (cf5, .int), (cf6, .int), (cf0, .byte)] s := hK
                obtain rfl := hw
                refine lv_istore_n (lv' := [(3, .int u4_0), (4, .int l4_45), (2, .int l2_45), (0, .ref h0)]) hx hb dX3_parametersIn_78 rfl hl (by decide) rfl (fun ls hl => ?_)
                refine lv_iinc (v := (l4_45 + 1)) (lv' := [(4, .int (l4_45 + 1)), (3, .int u4_0), (2, .int l2_45), (0, .ref h0)]) hx hb dX3_parametersIn_79 hl (k := 1) rfl rfl (by decide) rfl (fun ls hl => ?_)
                refine lv_goto (tgt := 45) hx hb dX3_parametersIn_82 (by decide) ?_
                exact ih_45 H locs ls l2_45 u4_0 (l4_45 + 1) (lv_sub hl [0, 1, 2, 3] rfl) hS (hD.sub (ws' := [(h0, .inr (3, [.ref qf0, .int v1, .int v2, .int v3, .ref qf4, .ref qf5, .ref qf6, .int v7, .int v8, .int v9, .int v10, .ref qf11, .int v12, .ref qf13])), (qf4, .inl (cf4, 256, .inl f4)), (qf5, .inl (cf5, 256, .inl f5)), (qf0, .inl (cf0, nb, .inl f0)), (qf6, .inl (cf6, 256, .inl f6))]) [3, 0, 1, 4, 2] (by decide) rfl) (hP.sub (ws' := [(h0, .inr (3, [.ref qf0, .int v1, .int v2, .int v3, .ref qf4, .ref qf5, .ref qf6, .int v7, .int v8, .int v9, .int v10, .ref qf11, .int v12, .ref qf13])), (qf4, .inl (cf4, 256, .inl f4)), (qf5, .inl (cf5, 256, .inl f5)), (qf0, .inl (cf0, nb, .inl f0)), (qf6, .inl (cf6, 256, .inl f6))]) [3, 0, 1, 4, 2] rfl) hsp
    · rw [if_neg c_5] at hsp
      refine lv_iconst (v := (-1)) hx hb dX3_parametersIn_24 (by decide) ?_
      have hr0 := Option.some.inj hsp
      clear hsp
      subst hr0
      have hP9 := hP.sub (ws' := [(h0, .inr (3, [.ref qf0, .int v1, .int v2, .int v3, .ref qf4, .ref qf5, .ref qf6, .int v7, .int v8, .int v9, .int v10, .ref qf11, .int v12, .ref qf13])), (qf4, .inl (cf4, 256, .inl f4)), (qf5, .inl (cf5, 256, .inl f5)), (qf0, .inl (cf0, nb, .inl f0)), (qf6, .inl (cf6, 256, .inl f6))]) [3, 2, 0, 4, 1] rfl
      have hD9 := hD.sub (ws' := [(h0, .inr (3, [.ref qf0, .int v1, .int v2, .int v3, .ref qf4, .ref qf5, .ref qf6, .int v7, .int v8, .int v9, .int v10, .ref qf11, .int v12, .ref qf13])), (qf4, .inl (cf4, 256, .inl f4)), (qf5, .inl (cf5, 256, .inl f5)), (qf0, .inl (cf0, nb, .inl f0)), (qf6, .inl (cf6, 256, .inl f6))]) [3, 2, 0, 4, 1] (by decide) rfl
      have hK9 := hK.sub (tys' := [(cf4, .int), (cf5, .int), (cf0, .byte), (cf6, .int)]) [2, 0, 3, 1] rfl
      exact W.iret hx hb hr (fun t ht hW => ⟨⟨((-1)), (), rfl, rfl, by rw [ht]; exact hP9, va_K.moved hW.alike hK9, hD9⟩, hS.F ht⟩) hS.2.2 dX3_parametersIn_25
def sp_v3_nextName (nf : Nat) (v1 : Int32) (v2 : Int32) (v3 : Int32) (v7 : Int32) (nb : Nat) (f0 : Nat → Int32) (f4 : Nat → Int32) (f5 : Nat → Int32) (f6 : Nat → Int32) : Option (Int32 × Int32 × Int32) := ((sp_ti_next nf v1 v2 v3 nb f0).bind (fun p1 => ((sp_v3_isNameText nf p1.1 v7 f4 f5 f6 nb f0).bind (fun p2 => (if p2 = 0 then ((sp_ti_bad nf (p1.2.1 - 1) p1.2.2).bind (fun p3 => (some (p1.1, p1.2.1, p3)))) else (some (p1.1, p1.2.1, p1.2.2)))))))

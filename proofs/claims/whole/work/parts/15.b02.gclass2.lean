set_option maxHeartbeats 4000000 in
set_option maxRecDepth 100000 in
/-- ClassMill$Text.isNamed -/
theorem t9_isNamed (l : Launch) (dC : Nat → ClassId) (dI : Nat → Nat → Nat) (sz : Nat) (h0 : Nat) (a1 : Int32) (qa2 : Nat) (a3 : Int32) (a4 : Int32) (qf0 : Nat) (qf1 : Nat) (qf2 : Nat) (v3 : Int32) (qf4 : Nat) (qf5 : Nat) (qf6 : Nat) (qf7 : Nat) (qf8 : Nat) (v9 : Int32) (v10 : Int32) (v11 : Int32) (v12 : Int32) (cf5 : ClassId) (f5 : (Nat → Int32)) (cf4 : ClassId) (f4 : (Nat → Int32)) (ca2 : ClassId) (na2 : Nat) (fa2 : (Nat → Int32)) (nf : Nat) (r0 : Int32) (hsp : sp_t9_isNamed nf a1 a3 a4 f5 f4 na2 fa2 = some r0) : Met l yX9_isNamed (.code yX9_isNamed cX9_isNamed 7 (some .boolean) :: VS_h4) ({ frames := 0, cells := 0, slots := 0, locals := 0 }) (va_Pc [.ref h0, .int a1, .ref qa2, .int a3, .int a4] (fun U => U.heap.size = sz ∧ va_P (dC, dI) vwCl [(h0, .inr (9, [.ref qf0, .ref qf1, .ref qf2, .int v3, .ref qf4, .ref qf5, .ref qf6, .ref qf7, .ref qf8, .int v9, .int v10, .int v11, .int v12])), (qf5, .inl (cf5, 1741, .inl f5)), (qf4, .inl (cf4, 6400, .inl f4)), (qa2, .inl (ca2, na2, .inl fa2))] U.heap ∧ va_K (dC, dI) vwCl [(cf5, .int), (cf4, .byte), (ca2, .byte)] U ∧ va_D (fun _ => True) [(h0, .inr (9, [.ref qf0, .ref qf1, .ref qf2, .int v3, .ref qf4, .ref qf5, .ref qf6, .ref qf7, .ref qf8, .int v9, .int v10, .int v11, .int v12])), (qf5, .inl (cf5, 1741, .inl f5)), (qf4, .inl (cf4, 6400, .inl f4)), (qa2, .inl (ca2, na2, .inl fa2))])) (va_Qi (fun (r : Int32) (u : Unit) => match u with | () => r0 = r ∧ (r0 = 0 ∨ r0 = 1)) (fun (u : Unit) (t : State) => match u with | () => va_P (dC, dI) vwCl [(h0, .inr (9, [.ref qf0, .ref qf1, .ref qf2, .int v3, .ref qf4, .ref qf5, .ref qf6, .ref qf7, .ref qf8, .int v9, .int v10, .int v11, .int v12])), (qf5, .inl (cf5, 1741, .inl f5)), (qf4, .inl (cf4, 6400, .inl f4)), (qa2, .inl (ca2, na2, .inl fa2))] t.heap ∧ va_K (dC, dI) vwCl [(cf5, .int), (cf4, .byte), (ca2, .byte)] t ∧ va_D (va_A [(h0, .inr (9, [.ref qf0, .ref qf1, .ref qf2, .int v3, .ref qf4, .ref qf5, .ref qf6, .ref qf7, .ref qf8, .int v9, .int v10, .int v11, .int v12])), (qf5, .inl (cf5, 1741, .inl f5)), (qf4, .inl (cf4, 6400, .inl f4)), (qa2, .inl (ca2, na2, .inl fa2))] sz) [(h0, .inr (9, [.ref qf0, .ref qf1, .ref qf2, .int v3, .ref qf4, .ref qf5, .ref qf6, .ref qf7, .ref qf8, .int v9, .int v10, .int v11, .int v12])), (qf5, .inl (cf5, 1741, .inl f5)), (qf4, .inl (cf4, 6400, .inl f4)), (qa2, .inl (ca2, na2, .inl fa2))]) (va_A [(h0, .inr (9, [.ref qf0, .ref qf1, .ref qf2, .int v3, .ref qf4, .ref qf5, .ref qf6, .ref qf7, .ref qf8, .int v9, .int v10, .int v11, .int v12])), (qf5, .inl (cf5, 1741, .inl f5)), (qf4, .inl (cf4, 6400, .inl f4)), (qa2, .inl (ca2, na2, .inl fa2))] sz)) 0 0 (va_A [(h0, .inr (9, [.ref qf0, .ref qf1, .ref qf2, .int v3, .ref qf4, .ref qf5, .ref qf6, .ref qf7, .ref qf8, .int v9, .int v10, .int v11, .int v12])), (qf5, .inl (cf5, 1741, .inl f5)), (qf4, .inl (cf4, 6400, .inl f4)), (qa2, .inl (ca2, na2, .inl fa2))] sz) := by
  refine Met.ofW (cc := cX9_isNamed) (maxL := 7) (ret := (some .boolean)) (by decide) rfl ?_
  intro p e s m args below meth c s₁ B hml hv
  obtain ⟨rfl, hsz, hP, hK, hD0⟩ := hv
  have hx := B.exec
  have hb := B.bytes
  have hr := B.returns
  have hts := atoms_spec (ws := (.code yX9_isNamed cX9_isNamed 7 (some .boolean) :: VS_h4)) B.pre
  replace hts := fun w (h : w ∈ VS_h4) => hts w (List.mem_cons_of_mem _ h)
  have hown : s.vm.findClass RX9 = some m.cls := findClass_of_methodNamed B.named
  have hlocks := B.notSynchronized
  subst hsz
  have hD := hD0.self (sz := s.heap.size)
  generalize hAe : va_A [(h0, .inr (9, [.ref qf0, .ref qf1, .ref qf2, .int v3, .ref qf4, .ref qf5, .ref qf6, .ref qf7, .ref qf8, .int v9, .int v10, .int v11, .int v12])), (qf5, .inl (cf5, 1741, .inl f5)), (qf4, .inl (cf4, 6400, .inl f4)), (qa2, .inl (ca2, na2, .inl fa2))] s.heap.size = A at hD  ⊢
  have hA : ∀ q : Nat, s.heap.size ≤ q → A q := fun q h => by rw [← hAe]; exact Or.inr h
  have hP : va_P (dC, dI) vwCl [(h0, .inr (9, [.ref qf0, .ref qf1, .ref qf2, .int v3, .ref qf4, .ref qf5, .ref qf6, .ref qf7, .ref qf8, .int v9, .int v10, .int v11, .int v12])), (qf5, .inl (cf5, 1741, .inl f5)), (qf4, .inl (cf4, 6400, .inl f4)), (qa2, .inl (ca2, na2, .inl fa2))] s.heap := hP
  have hl := lv_entry ([.ref h0, .int a1, .ref qa2, .int a3, .int a4]) (n := 7) (Nat.le_of_ble_eq_true rfl)
  rw [lg_entry_eq]
  generalize (lg_sl ([.ref h0, .int a1, .ref qa2, .int a3, .int a4]) ++ List.replicate (7 - (lg_sl ([.ref h0, .int a1, .ref qa2, .int a3, .int a4])).length) Slot.unset).toArray = ls at hl ⊢
  have hl : lv_has ls 7 [(0, .ref h0), (1, .int a1), (2, .ref qa2), (3, .int a3), (4, .int a4)] := hl
  obtain ⟨H, hH⟩ : ∃ H : Heap, s.heap = H := ⟨_, rfl⟩
  rw [hH] at hP ⊢
  have hS : va_S A s.heap H [] := by rw [← hH]; exact va_S.rf
  obtain ⟨locs, hlo⟩ : ∃ locs : List Loc, locs = [] := ⟨_, rfl⟩
  rw [← hlo] at hS ⊢
  unfold sp_t9_isNamed at hsp
  refine lv_aload_n hx hb dX9_isNamed_0 rfl (lv_at hl 0 rfl) ?_
  refine va_get (D := (dC, dI)) (ci := 9) (v := .ref qf5) (C := RX9) (T := TX9) (N := 13) hx hb hts uV_h4_X9 hown hK hP 0 rfl rfl 5 (by decide) (hts (.fieldLink RX9 29 "ClassMill$Text" "nameAt" "[I") mw_h4_8) (fun _ h9 => h9) rfl dX9_isNamed_1 ?_
  refine lv_iload_n hx hb dX9_isNamed_4 rfl (lv_at hl 1 rfl) ?_
  obtain ⟨hi_1, hsp⟩ := ox_in hsp
  refine va_iald hx hb hK hP 1 0 rfl rfl (i := a1) hi_1 dX9_isNamed_5 ?_
  refine lv_istore (lv' := [(5, .int (f5 (a1 : Int32).toNatClampNeg)), (0, .ref h0), (1, .int a1), (2, .ref qa2), (3, .int a3), (4, .int a4)]) hx hb dX9_isNamed_6 hl (by decide) rfl (fun ls hl => ?_)
  refine lv_aload_n hx hb dX9_isNamed_8 rfl (lv_at hl 1 rfl) ?_
  refine va_get (D := (dC, dI)) (ci := 9) (v := .ref qf5) (C := RX9) (T := TX9) (N := 13) hx hb hts uV_h4_X9 hown hK hP 0 rfl rfl 5 (by decide) (hts (.fieldLink RX9 29 "ClassMill$Text" "nameAt" "[I") mw_h4_8) (fun _ h9 => h9) rfl dX9_isNamed_9 ?_
  refine lv_iload_n hx hb dX9_isNamed_12 rfl (lv_at hl 2 rfl) ?_
  refine lv_iconst (v := 1) hx hb dX9_isNamed_13 (by decide) ?_
  refine lv_iadd hx hb dX9_isNamed_14 ?_
  obtain ⟨hi_2, hsp⟩ := ox_in hsp
  refine va_iald hx hb hK hP 1 0 rfl rfl (i := (a1 + 1)) hi_2 dX9_isNamed_15 ?_
  refine lv_iload hx hb dX9_isNamed_16 (lv_at hl 0 rfl) ?_
  refine lv_isub hx hb dX9_isNamed_18 ?_
  refine lv_iload hx hb dX9_isNamed_19 (lv_at hl 5 rfl) ?_
  refine lv_icmp_eq (tgt := 26) hx hb dX9_isNamed_21 (by decide) (fun c_3 => ?_) (fun c_3 => ?_)
  · rw [if_pos c_3] at hsp
    refine lv_iconst (v := 0) hx hb dX9_isNamed_26 (by decide) ?_
    refine lv_istore (lv' := [(6, .int 0), (5, .int (f5 (a1 : Int32).toNatClampNeg)), (0, .ref h0), (1, .int a1), (2, .ref qa2), (3, .int a3), (4, .int a4)]) hx hb dX9_isNamed_27 hl (by decide) rfl (fun ls hl => ?_)
    replace hP := hP.sub (ws' := [(h0, .inr (9, [.ref qf0, .ref qf1, .ref qf2, .int v3, .ref qf4, .ref qf5, .ref qf6, .ref qf7, .ref qf8, .int v9, .int v10, .int v11, .int v12])), (qf5, .inl (cf5, 1741, .inl f5)), (qf4, .inl (cf4, 6400, .inl f4)), (qa2, .inl (ca2, na2, .inl fa2))]) [0, 1, 2, 3] rfl
    replace hD := hD.sub (ws' := [(h0, .inr (9, [.ref qf0, .ref qf1, .ref qf2, .int v3, .ref qf4, .ref qf5, .ref qf6, .ref qf7, .ref qf8, .int v9, .int v10, .int v11, .int v12])), (qf5, .inl (cf5, 1741, .inl f5)), (qf4, .inl (cf4, 6400, .inl f4)), (qa2, .inl (ca2, na2, .inl fa2))]) [0, 1, 2, 3] (by decide) rfl
    replace hK := hK.sub (tys' := [(cf5, .int), (cf4, .byte), (ca2, .byte)]) [0, 1, 2] rfl
    obtain ⟨n_29, hn_29⟩ : ∃ z : Nat, z = nf := ⟨_, rfl⟩
    obtain ⟨l1_29, el1_29⟩ : ∃ z : Int32, z = a1 := ⟨_, rfl⟩
    obtain ⟨l3_29, el3_29⟩ : ∃ z : Int32, z = a3 := ⟨_, rfl⟩
    obtain ⟨l4_29, el4_29⟩ : ∃ z : Int32, z = a4 := ⟨_, rfl⟩
    obtain ⟨l5_29, el5_29⟩ : ∃ z : Int32, z = (f5 (a1 : Int32).toNatClampNeg) := ⟨_, rfl⟩
    obtain ⟨l6_29, el6_29⟩ : ∃ z : Int32, z = 0 := ⟨_, rfl⟩
    replace hsp : lp_t9_isNamed_29 nf n_29 a1 a3 a4 f5 f4 na2 fa2 l1_29 l3_29 l4_29 l5_29 l6_29 = some r0 := by rw [hn_29, el1_29, el3_29, el4_29, el5_29, el6_29]; exact hsp
    replace hl : lv_has ls 7 [(6, .int l6_29), (5, .int l5_29), (0, .ref h0), (1, .int l1_29), (2, .ref qa2), (3, .int l3_29), (4, .int l4_29)] := by rw [el1_29, el3_29, el4_29, el5_29, el6_29]; exact hl
    clear hn_29 el1_29 el3_29 el4_29 el5_29 el6_29
    try clear hlo
    try clear hH
    revert hsp
    revert hP
    revert hD
    revert hS
    revert hl
    revert l6_29
    revert l5_29
    revert l4_29
    revert l3_29
    revert l1_29
    revert ls
    revert locs
    revert H
    induction n_29 with
    | zero => intro H locs ls l1_29 l3_29 l4_29 l5_29 l6_29 hl hS hD hP hsp; unfold lp_t9_isNamed_29 at hsp; cases hsp
    | succ n_29 ih_29 =>
      intro H locs ls l1_29 l3_29 l4_29 l5_29 l6_29 hl hS hD hP hsp
      unfold lp_t9_isNamed_29 at hsp
      try dsimp only at hsp
      refine lv_iload hx hb dX9_isNamed_29 (lv_at hl 0 rfl) ?_
      refine lv_iload hx hb dX9_isNamed_31 (lv_at hl 6 rfl) ?_
      refine lv_icmp_ge (tgt := 63) hx hb dX9_isNamed_33 (by decide) (fun c_4 => ?_) (fun c_4 => ?_)
      · rw [if_pos c_4] at hsp
        refine lv_iconst (v := 1) hx hb dX9_isNamed_63 (by decide) ?_
        have hr0 := Option.some.inj hsp
        clear hsp
        subst hr0
        have hP9 := hP.sub (ws' := [(h0, .inr (9, [.ref qf0, .ref qf1, .ref qf2, .int v3, .ref qf4, .ref qf5, .ref qf6, .ref qf7, .ref qf8, .int v9, .int v10, .int v11, .int v12])), (qf5, .inl (cf5, 1741, .inl f5)), (qf4, .inl (cf4, 6400, .inl f4)), (qa2, .inl (ca2, na2, .inl fa2))]) [0, 1, 2, 3] rfl
        have hD9 := hD.sub (ws' := [(h0, .inr (9, [.ref qf0, .ref qf1, .ref qf2, .int v3, .ref qf4, .ref qf5, .ref qf6, .ref qf7, .ref qf8, .int v9, .int v10, .int v11, .int v12])), (qf5, .inl (cf5, 1741, .inl f5)), (qf4, .inl (cf4, 6400, .inl f4)), (qa2, .inl (ca2, na2, .inl fa2))]) [0, 1, 2, 3] (by decide) rfl
        have hK9 := hK.sub (tys' := [(cf5, .int), (cf4, .byte), (ca2, .byte)]) [0, 1, 2] rfl
        exact W.zret hx hb hr (by decide) (fun t ht hW => ⟨⟨(1), (), rfl, ⟨rfl, Or.inr rfl⟩, by rw [ht]; exact hP9, va_K.moved hW.alike hK9, hD9⟩, hS.F ht⟩) hS.2.2 dX9_isNamed_64
      · rw [if_neg c_4] at hsp
        refine lv_aload_n hx hb dX9_isNamed_36 rfl (lv_at hl 2 rfl) ?_
        refine va_get (D := (dC, dI)) (ci := 9) (v := .ref qf4) (C := RX9) (T := TX9) (N := 13) hx hb hts uV_h4_X9 hown hK hP 0 rfl rfl 4 (by decide) (hts (.fieldLink RX9 25 "ClassMill$Text" "letters" "[B") mw_h4_23) (fun _ h9 => h9) rfl dX9_isNamed_37 ?_
        refine lv_iload hx hb dX9_isNamed_40 (lv_at hl 1 rfl) ?_
        refine lv_iload hx hb dX9_isNamed_42 (lv_at hl 0 rfl) ?_
        refine lv_iadd hx hb dX9_isNamed_44 ?_
        obtain ⟨hi_5, hsp⟩ := ox_in hsp
        refine va_bald hx hb hK hP 2 1 rfl rfl (i := (l5_29 + l6_29)) hi_5 dX9_isNamed_45 ?_
        refine lv_aload_n hx hb dX9_isNamed_46 rfl (lv_at hl 4 rfl) ?_
        refine lv_iload_n hx hb dX9_isNamed_47 rfl (lv_at hl 5 rfl) ?_
        refine lv_iload hx hb dX9_isNamed_48 (lv_at hl 0 rfl) ?_
        refine lv_iadd hx hb dX9_isNamed_50 ?_
        obtain ⟨hi_6, hsp⟩ := ox_in hsp
        refine va_bald hx hb hK hP 3 2 rfl rfl (i := (l3_29 + l6_29)) hi_6 dX9_isNamed_51 ?_
        refine lv_icmp_eq (tgt := 57) hx hb dX9_isNamed_52 (by decide) (fun c_7 => ?_) (fun c_7 => ?_)
        · rw [if_pos c_7] at hsp
          refine lv_iinc (v := (l6_29 + 1)) (lv' := [(6, .int (l6_29 + 1)), (5, .int l5_29), (0, .ref h0), (1, .int l1_29), (2, .ref qa2), (3, .int l3_29), (4, .int l4_29)]) hx hb dX9_isNamed_57 hl (k := 0) rfl rfl (by decide) rfl (fun ls hl => ?_)
          refine lv_goto (tgt := 29) hx hb dX9_isNamed_60 (by decide) ?_
          exact ih_29 H locs ls l1_29 l3_29 l4_29 l5_29 (l6_29 + 1) (lv_sub hl [0, 1, 2, 3, 4, 5, 6] rfl) hS (hD.sub (ws' := [(h0, .inr (9, [.ref qf0, .ref qf1, .ref qf2, .int v3, .ref qf4, .ref qf5, .ref qf6, .ref qf7, .ref qf8, .int v9, .int v10, .int v11, .int v12])), (qf5, .inl (cf5, 1741, .inl f5)), (qf4, .inl (cf4, 6400, .inl f4)), (qa2, .inl (ca2, na2, .inl fa2))]) [0, 1, 2, 3] (by decide) rfl) (hP.sub (ws' := [(h0, .inr (9, [.ref qf0, .ref qf1, .ref qf2, .int v3, .ref qf4, .ref qf5, .ref qf6, .ref qf7, .ref qf8, .int v9, .int v10, .int v11, .int v12])), (qf5, .inl (cf5, 1741, .inl f5)), (qf4, .inl (cf4, 6400, .inl f4)), (qa2, .inl (ca2, na2, .inl fa2))]) [0, 1, 2, 3] rfl) hsp
        · rw [if_neg c_7] at hsp
          refine lv_iconst (v := 0) hx hb dX9_isNamed_55 (by decide) ?_
          have hr0 := Option.some.inj hsp
          clear hsp
          subst hr0
          have hP9 := hP.sub (ws' := [(h0, .inr (9, [.ref qf0, .ref qf1, .ref qf2, .int v3, .ref qf4, .ref qf5, .ref qf6, .ref qf7, .ref qf8, .int v9, .int v10, .int v11, .int v12])), (qf5, .inl (cf5, 1741, .inl f5)), (qf4, .inl (cf4, 6400, .inl f4)), (qa2, .inl (ca2, na2, .inl fa2))]) [0, 1, 2, 3] rfl
          have hD9 := hD.sub (ws' := [(h0, .inr (9, [.ref qf0, .ref qf1, .ref qf2, .int v3, .ref qf4, .ref qf5, .ref qf6, .ref qf7, .ref qf8, .int v9, .int v10, .int v11, .int v12])), (qf5, .inl (cf5, 1741, .inl f5)), (qf4, .inl (cf4, 6400, .inl f4)), (qa2, .inl (ca2, na2, .inl fa2))]) [0, 1, 2, 3] (by decide) rfl
          have hK9 := hK.sub (tys' := [(cf5, .int), (cf4, .byte), (ca2, .byte)]) [0, 1, 2] rfl
          exact W.zret hx hb hr (by decide) (fun t ht hW => ⟨⟨(0), (), rfl, ⟨rfl, Or.inl rfl⟩, by rw [ht]; exact hP9, va_K.moved hW.alike hK9, hD9⟩, hS.F ht⟩) hS.2.2 dX9_isNamed_56
  · rw [if_neg c_3] at hsp
    refine lv_iconst (v := 0) hx hb dX9_isNamed_24 (by decide) ?_
    have hr0 := Option.some.inj hsp
    clear hsp
    subst hr0
    have hP9 := hP.sub (ws' := [(h0, .inr (9, [.ref qf0, .ref qf1, .ref qf2, .int v3, .ref qf4, .ref qf5, .ref qf6, .ref qf7, .ref qf8, .int v9, .int v10, .int v11, .int v12])), (qf5, .inl (cf5, 1741, .inl f5)), (qf4, .inl (cf4, 6400, .inl f4)), (qa2, .inl (ca2, na2, .inl fa2))]) [0, 1, 2, 3] rfl
    have hD9 := hD.sub (ws' := [(h0, .inr (9, [.ref qf0, .ref qf1, .ref qf2, .int v3, .ref qf4, .ref qf5, .ref qf6, .ref qf7, .ref qf8, .int v9, .int v10, .int v11, .int v12])), (qf5, .inl (cf5, 1741, .inl f5)), (qf4, .inl (cf4, 6400, .inl f4)), (qa2, .inl (ca2, na2, .inl fa2))]) [0, 1, 2, 3] (by decide) rfl
    have hK9 := hK.sub (tys' := [(cf5, .int), (cf4, .byte), (ca2, .byte)]) [0, 1, 2] rfl
    exact W.zret hx hb hr (by decide) (fun t ht hW => ⟨⟨(0), (), rfl, ⟨rfl, Or.inl rfl⟩, by rw [ht]; exact hP9, va_K.moved hW.alike hK9, hD9⟩, hS.F ht⟩) hS.2.2 dX9_isNamed_25
def sp_t9_plainSignOf (nf : Nat) (a1 : Int32) : Option (Int32) := (if a1 = 37 then (some 65) else (if a1 = 40 then (some 40) else (if a1 = 41 then (some 41) else (if a1 = 42 then (some 63) else (if a1 = 43 then (some 61) else (if a1 = 44 then (some 47) else (if a1 = 45 then (some 62) else (if a1 = 46 then (some 48) else (if a1 = 47 then (some 64) else (if a1 = 58 then (some 50) else (if a1 = 59 then (some 46) else (if a1 = 63 then (some 49) else (if a1 = 91 then (some 44) else (if a1 = 93 then (some 45) else (if a1 = 94 then (some 70) else (if a1 = 123 then (some 42) else (if a1 = 125 then (some 43) else (if a1 = 126 then (some 72) else (some 0)))))))))))))))))))
set_option maxHeartbeats 4000000 in
set_option maxRecDepth 100000 in
/-- ClassMill$Text.plainSignOf -/
theorem t9_plainSignOf (l : Launch) (dC : Nat → ClassId) (dI : Nat → Nat → Nat) (sz : Nat) (a1 : Int32) (nf : Nat) (r0 : Int32) (hsp : sp_t9_plainSignOf nf a1 = some r0) : Met l yX9_plainSignOf (.code yX9_plainSignOf cX9_plainSignOf 1 (some .int) :: VS_h4) ({ frames := 0, cells := 0, slots := 0, locals := 0 }) (va_Pc [.int a1] (fun U => U.heap.size = sz ∧ va_P (dC, dI) vwCl [] U.heap ∧ va_K (dC, dI) vwCl [] U ∧ va_D (fun _ => True) [])) (va_Qi (fun (r : Int32) (u : Unit) => match u with | () => r0 = r) (fun (u : Unit) (t : State) => match u with | () => va_P (dC, dI) vwCl [] t.heap ∧ va_K (dC, dI) vwCl [] t ∧ va_D (va_A [] sz) []) (va_A [] sz)) 0 0 (va_A [] sz) := by
  refine Met.ofW (cc := cX9_plainSignOf) (maxL := 1) (ret := (some .int)) (by decide) rfl ?_
  intro p e s m args below meth c s₁ B hml hv
  obtain ⟨rfl, hsz, hP, hK, hD0⟩ := hv
  have hx := B.exec
  have hb := B.bytes
  have hr := B.returns
  have hts := atoms_spec (ws := (.code yX9_plainSignOf cX9_plainSignOf 1 (some .int) :: VS_h4)) B.pre
  replace hts := fun w (h : w ∈ VS_h4) => hts w (List.mem_cons_of_mem _ h)
  have hown : s.vm.findClass RX9 = some m.cls := findClass_of_methodNamed B.named
  have hlocks := B.notSynchronized
  subst hsz
  have hD := hD0.self (sz := s.heap.size)
  generalize hAe : va_A [] s.heap.size = A at hD  ⊢
  have hA : ∀ q : Nat, s.heap.size ≤ q → A q := fun q h => by rw [← hAe]; exact Or.inr h
  have hP : va_P (dC, dI) vwCl [] s.heap := hP
  have hl := lv_entry ([.int a1]) (n := 1) (Nat.le_of_ble_eq_true rfl)
  rw [lg_entry_eq]
  generalize (lg_sl ([.int a1]) ++ List.replicate (1 - (lg_sl ([.int a1])).length) Slot.unset).toArray = ls at hl ⊢
  have hl : lv_has ls 1 [(0, .int a1)] := hl
  obtain ⟨H, hH⟩ : ∃ H : Heap, s.heap = H := ⟨_, rfl⟩
  rw [hH] at hP ⊢
  have hS : va_S A s.heap H [] := by rw [← hH]; exact va_S.rf
  obtain ⟨locs, hlo⟩ : ∃ locs : List Loc, locs = [] := ⟨_, rfl⟩
  rw [← hlo] at hS ⊢
  unfold sp_t9_plainSignOf at hsp
  refine lv_iload_n hx hb dX9_plainSignOf_0 rfl (lv_at hl 0 rfl) ?_
  by_cases hs_1 : a1 = 37
  · rw [if_pos hs_1] at hsp
    refine lv_lookup (tgt := 201) hx hb dX9_plainSignOf_1 (by decide) (off := 200) (by rw [hs_1]; rfl) (by decide) ?_
    refine lv_bipush (v := 65) hx hb dX9_plainSignOf_201 (by decide) ?_
    have hr0 := Option.some.inj hsp
    clear hsp
    subst hr0
    have hP9 := hP.sub (ws' := []) [] rfl
    have hD9 := hD.sub (ws' := []) [] (by decide) rfl
    have hK9 := hK.sub (tys' := []) [] rfl
    exact W.iret hx hb hr (fun t ht hW => ⟨⟨(65), (), rfl, rfl, by rw [ht]; exact hP9, va_K.moved hW.alike hK9, hD9⟩, hS.F ht⟩) hS.2.2 dX9_plainSignOf_203
  rw [if_neg hs_1] at hsp
  by_cases hs_2 : a1 = 40
  · rw [if_pos hs_2] at hsp
    refine lv_lookup (tgt := 156) hx hb dX9_plainSignOf_1 (by decide) (off := 155) (by rw [hs_2]; rfl) (by decide) ?_
    refine lv_bipush (v := 40) hx hb dX9_plainSignOf_156 (by decide) ?_
    have hr0 := Option.some.inj hsp
    clear hsp
    subst hr0
    have hP9 := hP.sub (ws' := []) [] rfl
    have hD9 := hD.sub (ws' := []) [] (by decide) rfl
    have hK9 := hK.sub (tys' := []) [] rfl
    exact W.iret hx hb hr (fun t ht hW => ⟨⟨(40), (), rfl, rfl, by rw [ht]; exact hP9, va_K.moved hW.alike hK9, hD9⟩, hS.F ht⟩) hS.2.2 dX9_plainSignOf_158
  rw [if_neg hs_2] at hsp
  by_cases hs_3 : a1 = 41
  · rw [if_pos hs_3] at hsp
    refine lv_lookup (tgt := 159) hx hb dX9_plainSignOf_1 (by decide) (off := 158) (by rw [hs_3]; rfl) (by decide) ?_
    refine lv_bipush (v := 41) hx hb dX9_plainSignOf_159 (by decide) ?_
    have hr0 := Option.some.inj hsp
    clear hsp
    subst hr0
    have hP9 := hP.sub (ws' := []) [] rfl
    have hD9 := hD.sub (ws' := []) [] (by decide) rfl
    have hK9 := hK.sub (tys' := []) [] rfl
    exact W.iret hx hb hr (fun t ht hW => ⟨⟨(41), (), rfl, rfl, by rw [ht]; exact hP9, va_K.moved hW.alike hK9, hD9⟩, hS.F ht⟩) hS.2.2 dX9_plainSignOf_161
  rw [if_neg hs_3] at hsp
  by_cases hs_4 : a1 = 42
  · rw [if_pos hs_4] at hsp
    refine lv_lookup (tgt := 195) hx hb dX9_plainSignOf_1 (by decide) (off := 194) (by rw [hs_4]; rfl) (by decide) ?_
    refine lv_bipush (v := 63) hx hb dX9_plainSignOf_195 (by decide) ?_
    have hr0 := Option.some.inj hsp
    clear hsp
    subst hr0
    have hP9 := hP.sub (ws' := []) [] rfl
    have hD9 := hD.sub (ws' := []) [] (by decide) rfl
    have hK9 := hK.sub (tys' := []) [] rfl
    exact W.iret hx hb hr (fun t ht hW => ⟨⟨(63), (), rfl, rfl, by rw [ht]; exact hP9, va_K.moved hW.alike hK9, hD9⟩, hS.F ht⟩) hS.2.2 dX9_plainSignOf_197
  rw [if_neg hs_4] at hsp
  by_cases hs_5 : a1 = 43
  · rw [if_pos hs_5] at hsp
    refine lv_lookup (tgt := 189) hx hb dX9_plainSignOf_1 (by decide) (off := 188) (by rw [hs_5]; rfl) (by decide) ?_
    refine lv_bipush (v := 61) hx hb dX9_plainSignOf_189 (by decide) ?_
    have hr0 := Option.some.inj hsp
    clear hsp
    subst hr0
    have hP9 := hP.sub (ws' := []) [] rfl
    have hD9 := hD.sub (ws' := []) [] (by decide) rfl
    have hK9 := hK.sub (tys' := []) [] rfl
    exact W.iret hx hb hr (fun t ht hW => ⟨⟨(61), (), rfl, rfl, by rw [ht]; exact hP9, va_K.moved hW.alike hK9, hD9⟩, hS.F ht⟩) hS.2.2 dX9_plainSignOf_191
  rw [if_neg hs_5] at hsp
  by_cases hs_6 : a1 = 44
  · rw [if_pos hs_6] at hsp
    refine lv_lookup (tgt := 177) hx hb dX9_plainSignOf_1 (by decide) (off := 176) (by rw [hs_6]; rfl) (by decide) ?_
    refine lv_bipush (v := 47) hx hb dX9_plainSignOf_177 (by decide) ?_
    have hr0 := Option.some.inj hsp
    clear hsp
    subst hr0
    have hP9 := hP.sub (ws' := []) [] rfl
    have hD9 := hD.sub (ws' := []) [] (by decide) rfl
    have hK9 := hK.sub (tys' := []) [] rfl
    exact W.iret hx hb hr (fun t ht hW => ⟨⟨(47), (), rfl, rfl, by rw [ht]; exact hP9, va_K.moved hW.alike hK9, hD9⟩, hS.F ht⟩) hS.2.2 dX9_plainSignOf_179
  rw [if_neg hs_6] at hsp
  by_cases hs_7 : a1 = 45
  · rw [if_pos hs_7] at hsp
    refine lv_lookup (tgt := 192) hx hb dX9_plainSignOf_1 (by decide) (off := 191) (by rw [hs_7]; rfl) (by decide) ?_
    refine lv_bipush (v := 62) hx hb dX9_plainSignOf_192 (by decide) ?_
    have hr0 := Option.some.inj hsp
    clear hsp
    subst hr0
    have hP9 := hP.sub (ws' := []) [] rfl
    have hD9 := hD.sub (ws' := []) [] (by decide) rfl
    have hK9 := hK.sub (tys' := []) [] rfl
    exact W.iret hx hb hr (fun t ht hW => ⟨⟨(62), (), rfl, rfl, by rw [ht]; exact hP9, va_K.moved hW.alike hK9, hD9⟩, hS.F ht⟩) hS.2.2 dX9_plainSignOf_194
  rw [if_neg hs_7] at hsp
  by_cases hs_8 : a1 = 46
  · rw [if_pos hs_8] at hsp
    refine lv_lookup (tgt := 180) hx hb dX9_plainSignOf_1 (by decide) (off := 179) (by rw [hs_8]; rfl) (by decide) ?_
    refine lv_bipush (v := 48) hx hb dX9_plainSignOf_180 (by decide) ?_
    have hr0 := Option.some.inj hsp
    clear hsp
    subst hr0
    have hP9 := hP.sub (ws' := []) [] rfl
    have hD9 := hD.sub (ws' := []) [] (by decide) rfl
    have hK9 := hK.sub (tys' := []) [] rfl
    exact W.iret hx hb hr (fun t ht hW => ⟨⟨(48), (), rfl, rfl, by rw [ht]; exact hP9, va_K.moved hW.alike hK9, hD9⟩, hS.F ht⟩) hS.2.2 dX9_plainSignOf_182
  rw [if_neg hs_8] at hsp
  by_cases hs_9 : a1 = 47
  · rw [if_pos hs_9] at hsp
    refine lv_lookup (tgt := 198) hx hb dX9_plainSignOf_1 (by decide) (off := 197) (by rw [hs_9]; rfl) (by decide) ?_
    refine lv_bipush (v := 64) hx hb dX9_plainSignOf_198 (by decide) ?_
    have hr0 := Option.some.inj hsp
    clear hsp
    subst hr0
    have hP9 := hP.sub (ws' := []) [] rfl
    have hD9 := hD.sub (ws' := []) [] (by decide) rfl
    have hK9 := hK.sub (tys' := []) [] rfl
    exact W.iret hx hb hr (fun t ht hW => ⟨⟨(64), (), rfl, rfl, by rw [ht]; exact hP9, va_K.moved hW.alike hK9, hD9⟩, hS.F ht⟩) hS.2.2 dX9_plainSignOf_200
  rw [if_neg hs_9] at hsp
  by_cases hs_10 : a1 = 58
  · rw [if_pos hs_10] at hsp
    refine lv_lookup (tgt := 186) hx hb dX9_plainSignOf_1 (by decide) (off := 185) (by rw [hs_10]; rfl) (by decide) ?_
    refine lv_bipush (v := 50) hx hb dX9_plainSignOf_186 (by decide) ?_
    have hr0 := Option.some.inj hsp
    clear hsp
    subst hr0
    have hP9 := hP.sub (ws' := []) [] rfl
    have hD9 := hD.sub (ws' := []) [] (by decide) rfl
    have hK9 := hK.sub (tys' := []) [] rfl
    exact W.iret hx hb hr (fun t ht hW => ⟨⟨(50), (), rfl, rfl, by rw [ht]; exact hP9, va_K.moved hW.alike hK9, hD9⟩, hS.F ht⟩) hS.2.2 dX9_plainSignOf_188
  rw [if_neg hs_10] at hsp
  by_cases hs_11 : a1 = 59
  · rw [if_pos hs_11] at hsp
    refine lv_lookup (tgt := 174) hx hb dX9_plainSignOf_1 (by decide) (off := 173) (by rw [hs_11]; rfl) (by decide) ?_
    refine lv_bipush (v := 46) hx hb dX9_plainSignOf_174 (by decide) ?_
    have hr0 := Option.some.inj hsp
    clear hsp
    subst hr0
    have hP9 := hP.sub (ws' := []) [] rfl
    have hD9 := hD.sub (ws' := []) [] (by decide) rfl
    have hK9 := hK.sub (tys' := []) [] rfl
    exact W.iret hx hb hr (fun t ht hW => ⟨⟨(46), (), rfl, rfl, by rw [ht]; exact hP9, va_K.moved hW.alike hK9, hD9⟩, hS.F ht⟩) hS.2.2 dX9_plainSignOf_176
  rw [if_neg hs_11] at hsp
  by_cases hs_12 : a1 = 63
  · rw [if_pos hs_12] at hsp
    refine lv_lookup (tgt := 183) hx hb dX9_plainSignOf_1 (by decide) (off := 182) (by rw [hs_12]; rfl) (by decide) ?_
    refine lv_bipush (v := 49) hx hb dX9_plainSignOf_183 (by decide) ?_
    have hr0 := Option.some.inj hsp
    clear hsp
    subst hr0
    have hP9 := hP.sub (ws' := []) [] rfl
    have hD9 := hD.sub (ws' := []) [] (by decide) rfl
    have hK9 := hK.sub (tys' := []) [] rfl
    exact W.iret hx hb hr (fun t ht hW => ⟨⟨(49), (), rfl, rfl, by rw [ht]; exact hP9, va_K.moved hW.alike hK9, hD9⟩, hS.F ht⟩) hS.2.2 dX9_plainSignOf_185
  rw [if_neg hs_12] at hsp
  by_cases hs_13 : a1 = 91
  · rw [if_pos hs_13] at hsp
    refine lv_lookup (tgt := 168) hx hb dX9_plainSignOf_1 (by decide) (off := 167) (by rw [hs_13]; rfl) (by decide) ?_
    refine lv_bipush (v := 44) hx hb dX9_plainSignOf_168 (by decide) ?_
    have hr0 := Option.some.inj hsp
    clear hsp
    subst hr0
    have hP9 := hP.sub (ws' := []) [] rfl
    have hD9 := hD.sub (ws' := []) [] (by decide) rfl
    have hK9 := hK.sub (tys' := []) [] rfl
    exact W.iret hx hb hr (fun t ht hW => ⟨⟨(44), (), rfl, rfl, by rw [ht]; exact hP9, va_K.moved hW.alike hK9, hD9⟩, hS.F ht⟩) hS.2.2 dX9_plainSignOf_170
  rw [if_neg hs_13] at hsp
  by_cases hs_14 : a1 = 93
  · rw [if_pos hs_14] at hsp
    refine lv_lookup (tgt := 171) hx hb dX9_plainSignOf_1 (by decide) (off := 170) (by rw [hs_14]; rfl) (by decide) ?_
    refine lv_bipush (v := 45) hx hb dX9_plainSignOf_171 (by decide) ?_
    have hr0 := Option.some.inj hsp
    clear hsp
    subst hr0
    have hP9 := hP.sub (ws' := []) [] rfl
    have hD9 := hD.sub (ws' := []) [] (by decide) rfl
    have hK9 := hK.sub (tys' := []) [] rfl
    exact W.iret hx hb hr (fun t ht hW => ⟨⟨(45), (), rfl, rfl, by rw [ht]; exact hP9, va_K.moved hW.alike hK9, hD9⟩, hS.F ht⟩) hS.2.2 dX9_plainSignOf_173
  rw [if_neg hs_14] at hsp
  by_cases hs_15 : a1 = 94
  · rw [if_pos hs_15] at hsp
    refine lv_lookup (tgt := 204) hx hb dX9_plainSignOf_1 (by decide) (off := 203) (by rw [hs_15]; rfl) (by decide) ?_
    refine lv_bipush (v := 70) hx hb dX9_plainSignOf_204 (by decide) ?_
    have hr0 := Option.some.inj hsp
    clear hsp
    subst hr0
    have hP9 := hP.sub (ws' := []) [] rfl
    have hD9 := hD.sub (ws' := []) [] (by decide) rfl
    have hK9 := hK.sub (tys' := []) [] rfl
    exact W.iret hx hb hr (fun t ht hW => ⟨⟨(70), (), rfl, rfl, by rw [ht]; exact hP9, va_K.moved hW.alike hK9, hD9⟩, hS.F ht⟩) hS.2.2 dX9_plainSignOf_206
  rw [if_neg hs_15] at hsp
  by_cases hs_16 : a1 = 123
  · rw [if_pos hs_16] at hsp
    refine lv_lookup (tgt := 162) hx hb dX9_plainSignOf_1 (by decide) (off := 161) (by rw [hs_16]; rfl) (by decide) ?_
    refine lv_bipush (v := 42) hx hb dX9_plainSignOf_162 (by decide) ?_
    have hr0 := Option.some.inj hsp
    clear hsp
    subst hr0
    have hP9 := hP.sub (ws' := []) [] rfl
    have hD9 := hD.sub (ws' := []) [] (by decide) rfl
    have hK9 := hK.sub (tys' := []) [] rfl
    exact W.iret hx hb hr (fun t ht hW => ⟨⟨(42), (), rfl, rfl, by rw [ht]; exact hP9, va_K.moved hW.alike hK9, hD9⟩, hS.F ht⟩) hS.2.2 dX9_plainSignOf_164
  rw [if_neg hs_16] at hsp
  by_cases hs_17 : a1 = 125
  · rw [if_pos hs_17] at hsp
    refine lv_lookup (tgt := 165) hx hb dX9_plainSignOf_1 (by decide) (off := 164) (by rw [hs_17]; rfl) (by decide) ?_
    refine lv_bipush (v := 43) hx hb dX9_plainSignOf_165 (by decide) ?_
    have hr0 := Option.some.inj hsp
    clear hsp
    subst hr0
    have hP9 := hP.sub (ws' := []) [] rfl
    have hD9 := hD.sub (ws' := []) [] (by decide) rfl
    have hK9 := hK.sub (tys' := []) [] rfl
    exact W.iret hx hb hr (fun t ht hW => ⟨⟨(43), (), rfl, rfl, by rw [ht]; exact hP9, va_K.moved hW.alike hK9, hD9⟩, hS.F ht⟩) hS.2.2 dX9_plainSignOf_167
  rw [if_neg hs_17] at hsp
  by_cases hs_18 : a1 = 126
  · rw [if_pos hs_18] at hsp
    refine lv_lookup (tgt := 207) hx hb dX9_plainSignOf_1 (by decide) (off := 206) (by rw [hs_18]; rfl) (by decide) ?_
    refine lv_bipush (v := 72) hx hb dX9_plainSignOf_207 (by decide) ?_
    have hr0 := Option.some.inj hsp
    clear hsp
    subst hr0
    have hP9 := hP.sub (ws' := []) [] rfl
    have hD9 := hD.sub (ws' := []) [] (by decide) rfl
    have hK9 := hK.sub (tys' := []) [] rfl
    exact W.iret hx hb hr (fun t ht hW => ⟨⟨(72), (), rfl, rfl, by rw [ht]; exact hP9, va_K.moved hW.alike hK9, hD9⟩, hS.F ht⟩) hS.2.2 dX9_plainSignOf_209
  rw [if_neg hs_18] at hsp
  refine lv_lookup (tgt := 210) hx hb dX9_plainSignOf_1 (by decide) (off := 209) (by show Op.lookupswitch.offset [(37, 200), (40, 155), (41, 158), (42, 194), (43, 188), (44, 176), (45, 191), (46, 179), (47, 197), (58, 185), (59, 173), (63, 182), (91, 167), (93, 170), (94, 203), (123, 161), (125, 164), (126, 206)] 209 (a1 : Int32).toInt = 209; rw [lv_osw hs_1 (a := 37) rfl, lv_osw hs_2 (a := 40) rfl, lv_osw hs_3 (a := 41) rfl, lv_osw hs_4 (a := 42) rfl, lv_osw hs_5 (a := 43) rfl, lv_osw hs_6 (a := 44) rfl, lv_osw hs_7 (a := 45) rfl, lv_osw hs_8 (a := 46) rfl, lv_osw hs_9 (a := 47) rfl, lv_osw hs_10 (a := 58) rfl, lv_osw hs_11 (a := 59) rfl, lv_osw hs_12 (a := 63) rfl, lv_osw hs_13 (a := 91) rfl, lv_osw hs_14 (a := 93) rfl, lv_osw hs_15 (a := 94) rfl, lv_osw hs_16 (a := 123) rfl, lv_osw hs_17 (a := 125) rfl, lv_osw hs_18 (a := 126) rfl]; rfl) (by decide) ?_
  refine lv_iconst (v := 0) hx hb dX9_plainSignOf_210 (by decide) ?_
  have hr0 := Option.some.inj hsp
  clear hsp
  subst hr0
  have hP9 := hP.sub (ws' := []) [] rfl
  have hD9 := hD.sub (ws' := []) [] (by decide) rfl
  have hK9 := hK.sub (tys' := []) [] rfl
  exact W.iret hx hb hr (fun t ht hW => ⟨⟨(0), (), rfl, rfl, by rw [ht]; exact hP9, va_K.moved hW.alike hK9, hD9⟩, hS.F ht⟩) hS.2.2 dX9_plainSignOf_211
def sp_t9_signLength (nf : Nat) (a1 : Int32) : Option (Int32) := (if a1 = 0 then (some 0) else (if a1 = 52 then (some 2) else (if a1 = 53 then (some 2) else (if a1 = 55 then (some 2) else (if a1 = 57 then (some 2) else (if a1 = 58 then (some 2) else (if a1 = 59 then (some 2) else (if a1 = 60 then (some 3) else (if a1 = 67 then (some 2) else (if a1 = 69 then (some 2) else (some 1)))))))))))
set_option maxHeartbeats 4000000 in
set_option maxRecDepth 100000 in
/-- ClassMill$Text.signLength -/
theorem t9_signLength (l : Launch) (dC : Nat → ClassId) (dI : Nat → Nat → Nat) (sz : Nat) (a1 : Int32) (nf : Nat) (r0 : Int32) (hsp : sp_t9_signLength nf a1 = some r0) : Met l yX9_signLength (.code yX9_signLength cX9_signLength 1 (some .int) :: VS_h4) ({ frames := 0, cells := 0, slots := 0, locals := 0 }) (va_Pc [.int a1] (fun U => U.heap.size = sz ∧ va_P (dC, dI) vwCl [] U.heap ∧ va_K (dC, dI) vwCl [] U ∧ va_D (fun _ => True) [])) (va_Qi (fun (r : Int32) (u : Unit) => match u with | () => r0 = r) (fun (u : Unit) (t : State) => match u with | () => va_P (dC, dI) vwCl [] t.heap ∧ va_K (dC, dI) vwCl [] t ∧ va_D (va_A [] sz) []) (va_A [] sz)) 0 0 (va_A [] sz) := by
  refine Met.ofW (cc := cX9_signLength) (maxL := 1) (ret := (some .int)) (by decide) rfl ?_
  intro p e s m args below meth c s₁ B hml hv
  obtain ⟨rfl, hsz, hP, hK, hD0⟩ := hv
  have hx := B.exec
  have hb := B.bytes
  have hr := B.returns
  have hts := atoms_spec (ws := (.code yX9_signLength cX9_signLength 1 (some .int) :: VS_h4)) B.pre
  replace hts := fun w (h : w ∈ VS_h4) => hts w (List.mem_cons_of_mem _ h)
  have hown : s.vm.findClass RX9 = some m.cls := findClass_of_methodNamed B.named
  have hlocks := B.notSynchronized
  subst hsz
  have hD := hD0.self (sz := s.heap.size)
  generalize hAe : va_A [] s.heap.size = A at hD  ⊢
  have hA : ∀ q : Nat, s.heap.size ≤ q → A q := fun q h => by rw [← hAe]; exact Or.inr h
  have hP : va_P (dC, dI) vwCl [] s.heap := hP
  have hl := lv_entry ([.int a1]) (n := 1) (Nat.le_of_ble_eq_true rfl)
  rw [lg_entry_eq]
  generalize (lg_sl ([.int a1]) ++ List.replicate (1 - (lg_sl ([.int a1])).length) Slot.unset).toArray = ls at hl ⊢
  have hl : lv_has ls 1 [(0, .int a1)] := hl
  obtain ⟨H, hH⟩ : ∃ H : Heap, s.heap = H := ⟨_, rfl⟩
  rw [hH] at hP ⊢
  have hS : va_S A s.heap H [] := by rw [← hH]; exact va_S.rf
  obtain ⟨locs, hlo⟩ : ∃ locs : List Loc, locs = [] := ⟨_, rfl⟩
  rw [← hlo] at hS ⊢
  unfold sp_t9_signLength at hsp
  refine lv_iload_n hx hb dX9_signLength_0 rfl (lv_at hl 0 rfl) ?_
  by_cases hs_1 : a1 = 0
  · rw [if_pos hs_1] at hsp
    refine lv_lookup (tgt := 92) hx hb dX9_signLength_1 (by decide) (off := 91) (by rw [hs_1]; rfl) (by decide) ?_
    refine lv_iconst (v := 0) hx hb dX9_signLength_92 (by decide) ?_
    have hr0 := Option.some.inj hsp
    clear hsp
    subst hr0
    have hP9 := hP.sub (ws' := []) [] rfl
    have hD9 := hD.sub (ws' := []) [] (by decide) rfl
    have hK9 := hK.sub (tys' := []) [] rfl
    exact W.iret hx hb hr (fun t ht hW => ⟨⟨(0), (), rfl, rfl, by rw [ht]; exact hP9, va_K.moved hW.alike hK9, hD9⟩, hS.F ht⟩) hS.2.2 dX9_signLength_93
  rw [if_neg hs_1] at hsp
  by_cases hs_2 : a1 = 52
  · rw [if_pos hs_2] at hsp
    refine lv_lookup (tgt := 96) hx hb dX9_signLength_1 (by decide) (off := 95) (by rw [hs_2]; rfl) (by decide) ?_
    refine lv_iconst (v := 2) hx hb dX9_signLength_96 (by decide) ?_
    have hr0 := Option.some.inj hsp
    clear hsp
    subst hr0
    have hP9 := hP.sub (ws' := []) [] rfl
    have hD9 := hD.sub (ws' := []) [] (by decide) rfl
    have hK9 := hK.sub (tys' := []) [] rfl
    exact W.iret hx hb hr (fun t ht hW => ⟨⟨(2), (), rfl, rfl, by rw [ht]; exact hP9, va_K.moved hW.alike hK9, hD9⟩, hS.F ht⟩) hS.2.2 dX9_signLength_97
  rw [if_neg hs_2] at hsp
  by_cases hs_3 : a1 = 53
  · rw [if_pos hs_3] at hsp
    refine lv_lookup (tgt := 96) hx hb dX9_signLength_1 (by decide) (off := 95) (by rw [hs_3]; rfl) (by decide) ?_
    refine lv_iconst (v := 2) hx hb dX9_signLength_96 (by decide) ?_
    have hr0 := Option.some.inj hsp
    clear hsp
    subst hr0
    have hP9 := hP.sub (ws' := []) [] rfl
    have hD9 := hD.sub (ws' := []) [] (by decide) rfl
    have hK9 := hK.sub (tys' := []) [] rfl
    exact W.iret hx hb hr (fun t ht hW => ⟨⟨(2), (), rfl, rfl, by rw [ht]; exact hP9, va_K.moved hW.alike hK9, hD9⟩, hS.F ht⟩) hS.2.2 dX9_signLength_97
  rw [if_neg hs_3] at hsp
  by_cases hs_4 : a1 = 55
  · rw [if_pos hs_4] at hsp
    refine lv_lookup (tgt := 96) hx hb dX9_signLength_1 (by decide) (off := 95) (by rw [hs_4]; rfl) (by decide) ?_
    refine lv_iconst (v := 2) hx hb dX9_signLength_96 (by decide) ?_
    have hr0 := Option.some.inj hsp
    clear hsp
    subst hr0
    have hP9 := hP.sub (ws' := []) [] rfl
    have hD9 := hD.sub (ws' := []) [] (by decide) rfl
    have hK9 := hK.sub (tys' := []) [] rfl
    exact W.iret hx hb hr (fun t ht hW => ⟨⟨(2), (), rfl, rfl, by rw [ht]; exact hP9, va_K.moved hW.alike hK9, hD9⟩, hS.F ht⟩) hS.2.2 dX9_signLength_97
  rw [if_neg hs_4] at hsp
  by_cases hs_5 : a1 = 57
  · rw [if_pos hs_5] at hsp
    refine lv_lookup (tgt := 96) hx hb dX9_signLength_1 (by decide) (off := 95) (by rw [hs_5]; rfl) (by decide) ?_
    refine lv_iconst (v := 2) hx hb dX9_signLength_96 (by decide) ?_
    have hr0 := Option.some.inj hsp
    clear hsp
    subst hr0
    have hP9 := hP.sub (ws' := []) [] rfl
    have hD9 := hD.sub (ws' := []) [] (by decide) rfl
    have hK9 := hK.sub (tys' := []) [] rfl
    exact W.iret hx hb hr (fun t ht hW => ⟨⟨(2), (), rfl, rfl, by rw [ht]; exact hP9, va_K.moved hW.alike hK9, hD9⟩, hS.F ht⟩) hS.2.2 dX9_signLength_97
  rw [if_neg hs_5] at hsp
  by_cases hs_6 : a1 = 58
  · rw [if_pos hs_6] at hsp
    refine lv_lookup (tgt := 96) hx hb dX9_signLength_1 (by decide) (off := 95) (by rw [hs_6]; rfl) (by decide) ?_
    refine lv_iconst (v := 2) hx hb dX9_signLength_96 (by decide) ?_
    have hr0 := Option.some.inj hsp
    clear hsp
    subst hr0
    have hP9 := hP.sub (ws' := []) [] rfl
    have hD9 := hD.sub (ws' := []) [] (by decide) rfl
    have hK9 := hK.sub (tys' := []) [] rfl
    exact W.iret hx hb hr (fun t ht hW => ⟨⟨(2), (), rfl, rfl, by rw [ht]; exact hP9, va_K.moved hW.alike hK9, hD9⟩, hS.F ht⟩) hS.2.2 dX9_signLength_97
  rw [if_neg hs_6] at hsp
  by_cases hs_7 : a1 = 59
  · rw [if_pos hs_7] at hsp
    refine lv_lookup (tgt := 96) hx hb dX9_signLength_1 (by decide) (off := 95) (by rw [hs_7]; rfl) (by decide) ?_
    refine lv_iconst (v := 2) hx hb dX9_signLength_96 (by decide) ?_
    have hr0 := Option.some.inj hsp
    clear hsp
    subst hr0
    have hP9 := hP.sub (ws' := []) [] rfl
    have hD9 := hD.sub (ws' := []) [] (by decide) rfl
    have hK9 := hK.sub (tys' := []) [] rfl
    exact W.iret hx hb hr (fun t ht hW => ⟨⟨(2), (), rfl, rfl, by rw [ht]; exact hP9, va_K.moved hW.alike hK9, hD9⟩, hS.F ht⟩) hS.2.2 dX9_signLength_97
  rw [if_neg hs_7] at hsp
  by_cases hs_8 : a1 = 60
  · rw [if_pos hs_8] at hsp
    refine lv_lookup (tgt := 94) hx hb dX9_signLength_1 (by decide) (off := 93) (by rw [hs_8]; rfl) (by decide) ?_
    refine lv_iconst (v := 3) hx hb dX9_signLength_94 (by decide) ?_
    have hr0 := Option.some.inj hsp
    clear hsp
    subst hr0
    have hP9 := hP.sub (ws' := []) [] rfl
    have hD9 := hD.sub (ws' := []) [] (by decide) rfl
    have hK9 := hK.sub (tys' := []) [] rfl
    exact W.iret hx hb hr (fun t ht hW => ⟨⟨(3), (), rfl, rfl, by rw [ht]; exact hP9, va_K.moved hW.alike hK9, hD9⟩, hS.F ht⟩) hS.2.2 dX9_signLength_95
  rw [if_neg hs_8] at hsp
  by_cases hs_9 : a1 = 67
  · rw [if_pos hs_9] at hsp
    refine lv_lookup (tgt := 96) hx hb dX9_signLength_1 (by decide) (off := 95) (by rw [hs_9]; rfl) (by decide) ?_
    refine lv_iconst (v := 2) hx hb dX9_signLength_96 (by decide) ?_
    have hr0 := Option.some.inj hsp
    clear hsp
    subst hr0
    have hP9 := hP.sub (ws' := []) [] rfl
    have hD9 := hD.sub (ws' := []) [] (by decide) rfl
    have hK9 := hK.sub (tys' := []) [] rfl
    exact W.iret hx hb hr (fun t ht hW => ⟨⟨(2), (), rfl, rfl, by rw [ht]; exact hP9, va_K.moved hW.alike hK9, hD9⟩, hS.F ht⟩) hS.2.2 dX9_signLength_97
  rw [if_neg hs_9] at hsp
  by_cases hs_10 : a1 = 69
  · rw [if_pos hs_10] at hsp
    refine lv_lookup (tgt := 96) hx hb dX9_signLength_1 (by decide) (off := 95) (by rw [hs_10]; rfl) (by decide) ?_
    refine lv_iconst (v := 2) hx hb dX9_signLength_96 (by decide) ?_
    have hr0 := Option.some.inj hsp
    clear hsp
    subst hr0
    have hP9 := hP.sub (ws' := []) [] rfl
    have hD9 := hD.sub (ws' := []) [] (by decide) rfl
    have hK9 := hK.sub (tys' := []) [] rfl
    exact W.iret hx hb hr (fun t ht hW => ⟨⟨(2), (), rfl, rfl, by rw [ht]; exact hP9, va_K.moved hW.alike hK9, hD9⟩, hS.F ht⟩) hS.2.2 dX9_signLength_97
  rw [if_neg hs_10] at hsp
  refine lv_lookup (tgt := 98) hx hb dX9_signLength_1 (by decide) (off := 97) (by show Op.lookupswitch.offset [(0, 91), (52, 95), (53, 95), (55, 95), (57, 95), (58, 95), (59, 95), (60, 93), (67, 95), (69, 95)] 97 (a1 : Int32).toInt = 97; rw [lv_osw hs_1 (a := 0) rfl, lv_osw hs_2 (a := 52) rfl, lv_osw hs_3 (a := 53) rfl, lv_osw hs_4 (a := 55) rfl, lv_osw hs_5 (a := 57) rfl, lv_osw hs_6 (a := 58) rfl, lv_osw hs_7 (a := 59) rfl, lv_osw hs_8 (a := 60) rfl, lv_osw hs_9 (a := 67) rfl, lv_osw hs_10 (a := 69) rfl]; rfl) (by decide) ?_
  refine lv_iconst (v := 1) hx hb dX9_signLength_98 (by decide) ?_
  have hr0 := Option.some.inj hsp
  clear hsp
  subst hr0
  have hP9 := hP.sub (ws' := []) [] rfl
  have hD9 := hD.sub (ws' := []) [] (by decide) rfl
  have hK9 := hK.sub (tys' := []) [] rfl
  exact W.iret hx hb hr (fun t ht hW => ⟨⟨(1), (), rfl, rfl, by rw [ht]; exact hP9, va_K.moved hW.alike hK9, hD9⟩, hS.F ht⟩) hS.2.2 dX9_signLength_99
def sp_t9_level (nf : Nat) (a1 : Int32) : Option (Int32) := (if a1 = 19 then (some 7) else (if a1 = 20 then (some 0) else (if a1 = 21 then (some 0) else (if a1 = 22 then (some 0) else (if a1 = 23 then (some 0) else (if a1 = 24 then (some 0) else (if a1 = 25 then (some 0) else (if a1 = 26 then (some 0) else (if a1 = 27 then (some 0) else (if a1 = 28 then (some 0) else (if a1 = 29 then (some 0) else (if a1 = 30 then (some 0) else (if a1 = 31 then (some 0) else (if a1 = 32 then (some 0) else (if a1 = 33 then (some 0) else (if a1 = 34 then (some 0) else (if a1 = 35 then (some 0) else (if a1 = 36 then (some 0) else (if a1 = 37 then (some 0) else (if a1 = 38 then (some 0) else (if a1 = 39 then (some 0) else (if a1 = 40 then (some 0) else (if a1 = 41 then (some 0) else (if a1 = 42 then (some 0) else (if a1 = 43 then (some 0) else (if a1 = 44 then (some 0) else (if a1 = 45 then (some 0) else (if a1 = 46 then (some 0) else (if a1 = 47 then (some 0) else (if a1 = 48 then (some 0) else (if a1 = 49 then (some 0) else (if a1 = 50 then (some 0) else (if a1 = 51 then (some 0) else (if a1 = 52 then (some 6) else (if a1 = 53 then (some 6) else (if a1 = 54 then (some 7) else (if a1 = 55 then (some 7) else (if a1 = 56 then (some 7) else (if a1 = 57 then (some 7) else (if a1 = 58 then (some 8) else (if a1 = 59 then (some 8) else (if a1 = 60 then (some 8) else (if a1 = 61 then (some 9) else (if a1 = 62 then (some 9) else (if a1 = 63 then (some 10) else (if a1 = 64 then (some 10) else (if a1 = 65 then (some 10) else (if a1 = 66 then (some 5) else (if a1 = 67 then (some 2) else (if a1 = 68 then (some 3) else (if a1 = 69 then (some 1) else (if a1 = 70 then (some 4) else (some 0)))))))))))))))))))))))))))))))))))))))))))))))))))))
set_option maxHeartbeats 4000000 in
set_option maxRecDepth 100000 in
/-- ClassMill$Text.level -/
theorem t9_level (l : Launch) (dC : Nat → ClassId) (dI : Nat → Nat → Nat) (sz : Nat) (a1 : Int32) (nf : Nat) (r0 : Int32) (hsp : sp_t9_level nf a1 = some r0) : Met l yX9_level (.code yX9_level cX9_level 1 (some .int) :: VS_h4) ({ frames := 0, cells := 0, slots := 0, locals := 0 }) (va_Pc [.int a1] (fun U => U.heap.size = sz ∧ va_P (dC, dI) vwCl [] U.heap ∧ va_K (dC, dI) vwCl [] U ∧ va_D (fun _ => True) [])) (va_Qi (fun (r : Int32) (u : Unit) => match u with | () => r0 = r) (fun (u : Unit) (t : State) => match u with | () => va_P (dC, dI) vwCl [] t.heap ∧ va_K (dC, dI) vwCl [] t ∧ va_D (va_A [] sz) []) (va_A [] sz)) 0 0 (va_A [] sz) := by
  refine Met.ofW (cc := cX9_level) (maxL := 1) (ret := (some .int)) (by decide) rfl ?_
  intro p e s m args below meth c s₁ B hml hv
  obtain ⟨rfl, hsz, hP, hK, hD0⟩ := hv
  have hx := B.exec
  have hb := B.bytes
  have hr := B.returns
  have hts := atoms_spec (ws := (.code yX9_level cX9_level 1 (some .int) :: VS_h4)) B.pre
  replace hts := fun w (h : w ∈ VS_h4) => hts w (List.mem_cons_of_mem _ h)
  have hown : s.vm.findClass RX9 = some m.cls := findClass_of_methodNamed B.named
  have hlocks := B.notSynchronized
  subst hsz
  have hD := hD0.self (sz := s.heap.size)
  generalize hAe : va_A [] s.heap.size = A at hD  ⊢
  have hA : ∀ q : Nat, s.heap.size ≤ q → A q := fun q h => by rw [← hAe]; exact Or.inr h
  have hP : va_P (dC, dI) vwCl [] s.heap := hP
  have hl := lv_entry ([.int a1]) (n := 1) (Nat.le_of_ble_eq_true rfl)
  rw [lg_entry_eq]
  generalize (lg_sl ([.int a1]) ++ List.replicate (1 - (lg_sl ([.int a1])).length) Slot.unset).toArray = ls at hl ⊢
  have hl : lv_has ls 1 [(0, .int a1)] := hl
  obtain ⟨H, hH⟩ : ∃ H : Heap, s.heap = H := ⟨_, rfl⟩
  rw [hH] at hP ⊢
  have hS : va_S A s.heap H [] := by rw [← hH]; exact va_S.rf
  obtain ⟨locs, hlo⟩ : ∃ locs : List Loc, locs = [] := ⟨_, rfl⟩
  rw [← hlo] at hS ⊢
  unfold sp_t9_level at hsp
  refine lv_iload_n hx hb dX9_level_0 rfl (lv_at hl 0 rfl) ?_
  by_cases hs_1 : a1 = 19
  · rw [if_pos hs_1] at hsp
    refine lv_tableIn (tgt := 237) hx hb dX9_level_1 (by rw [hs_1]; decide) (by rw [hs_1]; decide) (off := 236) (by rw [hs_1]; rfl) (by decide) ?_
    refine lv_bipush (v := 7) hx hb dX9_level_237 (by decide) ?_
    have hr0 := Option.some.inj hsp
    clear hsp
    subst hr0
    have hP9 := hP.sub (ws' := []) [] rfl
    have hD9 := hD.sub (ws' := []) [] (by decide) rfl
    have hK9 := hK.sub (tys' := []) [] rfl
    exact W.iret hx hb hr (fun t ht hW => ⟨⟨(7), (), rfl, rfl, by rw [ht]; exact hP9, va_K.moved hW.alike hK9, hD9⟩, hS.F ht⟩) hS.2.2 dX9_level_239
  rw [if_neg hs_1] at hsp
  by_cases hs_2 : a1 = 20
  · rw [if_pos hs_2] at hsp
    refine lv_tableIn (tgt := 249) hx hb dX9_level_1 (by rw [hs_2]; decide) (by rw [hs_2]; decide) (off := 248) (by rw [hs_2]; rfl) (by decide) ?_
    refine lv_iconst (v := 0) hx hb dX9_level_249 (by decide) ?_
    have hr0 := Option.some.inj hsp
    clear hsp
    subst hr0
    have hP9 := hP.sub (ws' := []) [] rfl
    have hD9 := hD.sub (ws' := []) [] (by decide) rfl
    have hK9 := hK.sub (tys' := []) [] rfl
    exact W.iret hx hb hr (fun t ht hW => ⟨⟨(0), (), rfl, rfl, by rw [ht]; exact hP9, va_K.moved hW.alike hK9, hD9⟩, hS.F ht⟩) hS.2.2 dX9_level_250
  rw [if_neg hs_2] at hsp
  by_cases hs_3 : a1 = 21
  · rw [if_pos hs_3] at hsp
    refine lv_tableIn (tgt := 249) hx hb dX9_level_1 (by rw [hs_3]; decide) (by rw [hs_3]; decide) (off := 248) (by rw [hs_3]; rfl) (by decide) ?_
    refine lv_iconst (v := 0) hx hb dX9_level_249 (by decide) ?_
    have hr0 := Option.some.inj hsp
    clear hsp
    subst hr0
    have hP9 := hP.sub (ws' := []) [] rfl
    have hD9 := hD.sub (ws' := []) [] (by decide) rfl
    have hK9 := hK.sub (tys' := []) [] rfl
    exact W.iret hx hb hr (fun t ht hW => ⟨⟨(0), (), rfl, rfl, by rw [ht]; exact hP9, va_K.moved hW.alike hK9, hD9⟩, hS.F ht⟩) hS.2.2 dX9_level_250
  rw [if_neg hs_3] at hsp
  by_cases hs_4 : a1 = 22
  · rw [if_pos hs_4] at hsp
    refine lv_tableIn (tgt := 249) hx hb dX9_level_1 (by rw [hs_4]; decide) (by rw [hs_4]; decide) (off := 248) (by rw [hs_4]; rfl) (by decide) ?_
    refine lv_iconst (v := 0) hx hb dX9_level_249 (by decide) ?_
    have hr0 := Option.some.inj hsp
    clear hsp
    subst hr0
    have hP9 := hP.sub (ws' := []) [] rfl
    have hD9 := hD.sub (ws' := []) [] (by decide) rfl
    have hK9 := hK.sub (tys' := []) [] rfl
    exact W.iret hx hb hr (fun t ht hW => ⟨⟨(0), (), rfl, rfl, by rw [ht]; exact hP9, va_K.moved hW.alike hK9, hD9⟩, hS.F ht⟩) hS.2.2 dX9_level_250
  rw [if_neg hs_4] at hsp
  by_cases hs_5 : a1 = 23
  · rw [if_pos hs_5] at hsp
    refine lv_tableIn (tgt := 249) hx hb dX9_level_1 (by rw [hs_5]; decide) (by rw [hs_5]; decide) (off := 248) (by rw [hs_5]; rfl) (by decide) ?_
    refine lv_iconst (v := 0) hx hb dX9_level_249 (by decide) ?_
    have hr0 := Option.some.inj hsp
    clear hsp
    subst hr0
    have hP9 := hP.sub (ws' := []) [] rfl
    have hD9 := hD.sub (ws' := []) [] (by decide) rfl
    have hK9 := hK.sub (tys' := []) [] rfl
    exact W.iret hx hb hr (fun t ht hW => ⟨⟨(0), (), rfl, rfl, by rw [ht]; exact hP9, va_K.moved hW.alike hK9, hD9⟩, hS.F ht⟩) hS.2.2 dX9_level_250
  rw [if_neg hs_5] at hsp
  by_cases hs_6 : a1 = 24
  · rw [if_pos hs_6] at hsp
    refine lv_tableIn (tgt := 249) hx hb dX9_level_1 (by rw [hs_6]; decide) (by rw [hs_6]; decide) (off := 248) (by rw [hs_6]; rfl) (by decide) ?_
    refine lv_iconst (v := 0) hx hb dX9_level_249 (by decide) ?_
    have hr0 := Option.some.inj hsp
    clear hsp
    subst hr0
    have hP9 := hP.sub (ws' := []) [] rfl
    have hD9 := hD.sub (ws' := []) [] (by decide) rfl
    have hK9 := hK.sub (tys' := []) [] rfl
    exact W.iret hx hb hr (fun t ht hW => ⟨⟨(0), (), rfl, rfl, by rw [ht]; exact hP9, va_K.moved hW.alike hK9, hD9⟩, hS.F ht⟩) hS.2.2 dX9_level_250
  rw [if_neg hs_6] at hsp
  by_cases hs_7 : a1 = 25
  · rw [if_pos hs_7] at hsp
    refine lv_tableIn (tgt := 249) hx hb dX9_level_1 (by rw [hs_7]; decide) (by rw [hs_7]; decide) (off := 248) (by rw [hs_7]; rfl) (by decide) ?_
    refine lv_iconst (v := 0) hx hb dX9_level_249 (by decide) ?_
    have hr0 := Option.some.inj hsp
    clear hsp
    subst hr0
    have hP9 := hP.sub (ws' := []) [] rfl
    have hD9 := hD.sub (ws' := []) [] (by decide) rfl
    have hK9 := hK.sub (tys' := []) [] rfl
    exact W.iret hx hb hr (fun t ht hW => ⟨⟨(0), (), rfl, rfl, by rw [ht]; exact hP9, va_K.moved hW.alike hK9, hD9⟩, hS.F ht⟩) hS.2.2 dX9_level_250
  rw [if_neg hs_7] at hsp
  by_cases hs_8 : a1 = 26
  · rw [if_pos hs_8] at hsp
    refine lv_tableIn (tgt := 249) hx hb dX9_level_1 (by rw [hs_8]; decide) (by rw [hs_8]; decide) (off := 248) (by rw [hs_8]; rfl) (by decide) ?_
    refine lv_iconst (v := 0) hx hb dX9_level_249 (by decide) ?_
    have hr0 := Option.some.inj hsp
    clear hsp
    subst hr0
    have hP9 := hP.sub (ws' := []) [] rfl
    have hD9 := hD.sub (ws' := []) [] (by decide) rfl
    have hK9 := hK.sub (tys' := []) [] rfl
    exact W.iret hx hb hr (fun t ht hW => ⟨⟨(0), (), rfl, rfl, by rw [ht]; exact hP9, va_K.moved hW.alike hK9, hD9⟩, hS.F ht⟩) hS.2.2 dX9_level_250
  rw [if_neg hs_8] at hsp
  by_cases hs_9 : a1 = 27
  · rw [if_pos hs_9] at hsp
    refine lv_tableIn (tgt := 249) hx hb dX9_level_1 (by rw [hs_9]; decide) (by rw [hs_9]; decide) (off := 248) (by rw [hs_9]; rfl) (by decide) ?_
    refine lv_iconst (v := 0) hx hb dX9_level_249 (by decide) ?_
    have hr0 := Option.some.inj hsp
    clear hsp
    subst hr0
    have hP9 := hP.sub (ws' := []) [] rfl
    have hD9 := hD.sub (ws' := []) [] (by decide) rfl
    have hK9 := hK.sub (tys' := []) [] rfl
    exact W.iret hx hb hr (fun t ht hW => ⟨⟨(0), (), rfl, rfl, by rw [ht]; exact hP9, va_K.moved hW.alike hK9, hD9⟩, hS.F ht⟩) hS.2.2 dX9_level_250
  rw [if_neg hs_9] at hsp
  by_cases hs_10 : a1 = 28
  · rw [if_pos hs_10] at hsp
    refine lv_tableIn (tgt := 249) hx hb dX9_level_1 (by rw [hs_10]; decide) (by rw [hs_10]; decide) (off := 248) (by rw [hs_10]; rfl) (by decide) ?_
    refine lv_iconst (v := 0) hx hb dX9_level_249 (by decide) ?_
    have hr0 := Option.some.inj hsp
    clear hsp
    subst hr0
    have hP9 := hP.sub (ws' := []) [] rfl
    have hD9 := hD.sub (ws' := []) [] (by decide) rfl
    have hK9 := hK.sub (tys' := []) [] rfl
    exact W.iret hx hb hr (fun t ht hW => ⟨⟨(0), (), rfl, rfl, by rw [ht]; exact hP9, va_K.moved hW.alike hK9, hD9⟩, hS.F ht⟩) hS.2.2 dX9_level_250
  rw [if_neg hs_10] at hsp
  by_cases hs_11 : a1 = 29
  · rw [if_pos hs_11] at hsp
    refine lv_tableIn (tgt := 249) hx hb dX9_level_1 (by rw [hs_11]; decide) (by rw [hs_11]; decide) (off := 248) (by rw [hs_11]; rfl) (by decide) ?_
    refine lv_iconst (v := 0) hx hb dX9_level_249 (by decide) ?_
    have hr0 := Option.some.inj hsp
    clear hsp
    subst hr0
    have hP9 := hP.sub (ws' := []) [] rfl
    have hD9 := hD.sub (ws' := []) [] (by decide) rfl
    have hK9 := hK.sub (tys' := []) [] rfl
    exact W.iret hx hb hr (fun t ht hW => ⟨⟨(0), (), rfl, rfl, by rw [ht]; exact hP9, va_K.moved hW.alike hK9, hD9⟩, hS.F ht⟩) hS.2.2 dX9_level_250
  rw [if_neg hs_11] at hsp
  by_cases hs_12 : a1 = 30
  · rw [if_pos hs_12] at hsp
    refine lv_tableIn (tgt := 249) hx hb dX9_level_1 (by rw [hs_12]; decide) (by rw [hs_12]; decide) (off := 248) (by rw [hs_12]; rfl) (by decide) ?_
    refine lv_iconst (v := 0) hx hb dX9_level_249 (by decide) ?_
    have hr0 := Option.some.inj hsp
    clear hsp
    subst hr0
    have hP9 := hP.sub (ws' := []) [] rfl
    have hD9 := hD.sub (ws' := []) [] (by decide) rfl
    have hK9 := hK.sub (tys' := []) [] rfl
    exact W.iret hx hb hr (fun t ht hW => ⟨⟨(0), (), rfl, rfl, by rw [ht]; exact hP9, va_K.moved hW.alike hK9, hD9⟩, hS.F ht⟩) hS.2.2 dX9_level_250
  rw [if_neg hs_12] at hsp
  by_cases hs_13 : a1 = 31
  · rw [if_pos hs_13] at hsp
    refine lv_tableIn (tgt := 249) hx hb dX9_level_1 (by rw [hs_13]; decide) (by rw [hs_13]; decide) (off := 248) (by rw [hs_13]; rfl) (by decide) ?_
    refine lv_iconst (v := 0) hx hb dX9_level_249 (by decide) ?_
    have hr0 := Option.some.inj hsp
    clear hsp
    subst hr0
    have hP9 := hP.sub (ws' := []) [] rfl
    have hD9 := hD.sub (ws' := []) [] (by decide) rfl
    have hK9 := hK.sub (tys' := []) [] rfl
    exact W.iret hx hb hr (fun t ht hW => ⟨⟨(0), (), rfl, rfl, by rw [ht]; exact hP9, va_K.moved hW.alike hK9, hD9⟩, hS.F ht⟩) hS.2.2 dX9_level_250
  rw [if_neg hs_13] at hsp
  by_cases hs_14 : a1 = 32
  · rw [if_pos hs_14] at hsp
    refine lv_tableIn (tgt := 249) hx hb dX9_level_1 (by rw [hs_14]; decide) (by rw [hs_14]; decide) (off := 248) (by rw [hs_14]; rfl) (by decide) ?_
    refine lv_iconst (v := 0) hx hb dX9_level_249 (by decide) ?_
    have hr0 := Option.some.inj hsp
    clear hsp
    subst hr0
    have hP9 := hP.sub (ws' := []) [] rfl
    have hD9 := hD.sub (ws' := []) [] (by decide) rfl
    have hK9 := hK.sub (tys' := []) [] rfl
    exact W.iret hx hb hr (fun t ht hW => ⟨⟨(0), (), rfl, rfl, by rw [ht]; exact hP9, va_K.moved hW.alike hK9, hD9⟩, hS.F ht⟩) hS.2.2 dX9_level_250
  rw [if_neg hs_14] at hsp
  by_cases hs_15 : a1 = 33
  · rw [if_pos hs_15] at hsp
    refine lv_tableIn (tgt := 249) hx hb dX9_level_1 (by rw [hs_15]; decide) (by rw [hs_15]; decide) (off := 248) (by rw [hs_15]; rfl) (by decide) ?_
    refine lv_iconst (v := 0) hx hb dX9_level_249 (by decide) ?_
    have hr0 := Option.some.inj hsp
    clear hsp
    subst hr0
    have hP9 := hP.sub (ws' := []) [] rfl
    have hD9 := hD.sub (ws' := []) [] (by decide) rfl
    have hK9 := hK.sub (tys' := []) [] rfl
    exact W.iret hx hb hr (fun t ht hW => ⟨⟨(0), (), rfl, rfl, by rw [ht]; exact hP9, va_K.moved hW.alike hK9, hD9⟩, hS.F ht⟩) hS.2.2 dX9_level_250
  rw [if_neg hs_15] at hsp
  by_cases hs_16 : a1 = 34
  · rw [if_pos hs_16] at hsp
    refine lv_tableIn (tgt := 249) hx hb dX9_level_1 (by rw [hs_16]; decide) (by rw [hs_16]; decide) (off := 248) (by rw [hs_16]; rfl) (by decide) ?_
    refine lv_iconst (v := 0) hx hb dX9_level_249 (by decide) ?_
    have hr0 := Option.some.inj hsp
    clear hsp
    subst hr0
    have hP9 := hP.sub (ws' := []) [] rfl
    have hD9 := hD.sub (ws' := []) [] (by decide) rfl
    have hK9 := hK.sub (tys' := []) [] rfl
    exact W.iret hx hb hr (fun t ht hW => ⟨⟨(0), (), rfl, rfl, by rw [ht]; exact hP9, va_K.moved hW.alike hK9, hD9⟩, hS.F ht⟩) hS.2.2 dX9_level_250
  rw [if_neg hs_16] at hsp
  by_cases hs_17 : a1 = 35
  · rw [if_pos hs_17] at hsp
    refine lv_tableIn (tgt := 249) hx hb dX9_level_1 (by rw [hs_17]; decide) (by rw [hs_17]; decide) (off := 248) (by rw [hs_17]; rfl) (by decide) ?_
    refine lv_iconst (v := 0) hx hb dX9_level_249 (by decide) ?_
    have hr0 := Option.some.inj hsp
    clear hsp
    subst hr0
    have hP9 := hP.sub (ws' := []) [] rfl
    have hD9 := hD.sub (ws' := []) [] (by decide) rfl
    have hK9 := hK.sub (tys' := []) [] rfl
    exact W.iret hx hb hr (fun t ht hW => ⟨⟨(0), (), rfl, rfl, by rw [ht]; exact hP9, va_K.moved hW.alike hK9, hD9⟩, hS.F ht⟩) hS.2.2 dX9_level_250
  rw [if_neg hs_17] at hsp
  by_cases hs_18 : a1 = 36
  · rw [if_pos hs_18] at hsp
    refine lv_tableIn (tgt := 249) hx hb dX9_level_1 (by rw [hs_18]; decide) (by rw [hs_18]; decide) (off := 248) (by rw [hs_18]; rfl) (by decide) ?_
    refine lv_iconst (v := 0) hx hb dX9_level_249 (by decide) ?_
    have hr0 := Option.some.inj hsp
    clear hsp
    subst hr0
    have hP9 := hP.sub (ws' := []) [] rfl
    have hD9 := hD.sub (ws' := []) [] (by decide) rfl
    have hK9 := hK.sub (tys' := []) [] rfl
    exact W.iret hx hb hr (fun t ht hW => ⟨⟨(0), (), rfl, rfl, by rw [ht]; exact hP9, va_K.moved hW.alike hK9, hD9⟩, hS.F ht⟩) hS.2.2 dX9_level_250
  rw [if_neg hs_18] at hsp
  by_cases hs_19 : a1 = 37
  · rw [if_pos hs_19] at hsp
    refine lv_tableIn (tgt := 249) hx hb dX9_level_1 (by rw [hs_19]; decide) (by rw [hs_19]; decide) (off := 248) (by rw [hs_19]; rfl) (by decide) ?_
    refine lv_iconst (v := 0) hx hb dX9_level_249 (by decide) ?_
    have hr0 := Option.some.inj hsp
    clear hsp
    subst hr0
    have hP9 := hP.sub (ws' := []) [] rfl
    have hD9 := hD.sub (ws' := []) [] (by decide) rfl
    have hK9 := hK.sub (tys' := []) [] rfl
    exact W.iret hx hb hr (fun t ht hW => ⟨⟨(0), (), rfl, rfl, by rw [ht]; exact hP9, va_K.moved hW.alike hK9, hD9⟩, hS.F ht⟩) hS.2.2 dX9_level_250
  rw [if_neg hs_19] at hsp
  by_cases hs_20 : a1 = 38
  · rw [if_pos hs_20] at hsp
    refine lv_tableIn (tgt := 249) hx hb dX9_level_1 (by rw [hs_20]; decide) (by rw [hs_20]; decide) (off := 248) (by rw [hs_20]; rfl) (by decide) ?_
    refine lv_iconst (v := 0) hx hb dX9_level_249 (by decide) ?_
    have hr0 := Option.some.inj hsp
    clear hsp
    subst hr0
    have hP9 := hP.sub (ws' := []) [] rfl
    have hD9 := hD.sub (ws' := []) [] (by decide) rfl
    have hK9 := hK.sub (tys' := []) [] rfl
    exact W.iret hx hb hr (fun t ht hW => ⟨⟨(0), (), rfl, rfl, by rw [ht]; exact hP9, va_K.moved hW.alike hK9, hD9⟩, hS.F ht⟩) hS.2.2 dX9_level_250
  rw [if_neg hs_20] at hsp
  by_cases hs_21 : a1 = 39
  · rw [if_pos hs_21] at hsp
    refine lv_tableIn (tgt := 249) hx hb dX9_level_1 (by rw [hs_21]; decide) (by rw [hs_21]; decide) (off := 248) (by rw [hs_21]; rfl) (by decide) ?_
    refine lv_iconst (v := 0) hx hb dX9_level_249 (by decide) ?_
    have hr0 := Option.some.inj hsp
    clear hsp
    subst hr0
    have hP9 := hP.sub (ws' := []) [] rfl
    have hD9 := hD.sub (ws' := []) [] (by decide) rfl
    have hK9 := hK.sub (tys' := []) [] rfl
    exact W.iret hx hb hr (fun t ht hW => ⟨⟨(0), (), rfl, rfl, by rw [ht]; exact hP9, va_K.moved hW.alike hK9, hD9⟩, hS.F ht⟩) hS.2.2 dX9_level_250
  rw [if_neg hs_21] at hsp
  by_cases hs_22 : a1 = 40
  · rw [if_pos hs_22] at hsp
    refine lv_tableIn (tgt := 249) hx hb dX9_level_1 (by rw [hs_22]; decide) (by rw [hs_22]; decide) (off := 248) (by rw [hs_22]; rfl) (by decide) ?_
    refine lv_iconst (v := 0) hx hb dX9_level_249 (by decide) ?_
    have hr0 := Option.some.inj hsp
    clear hsp
    subst hr0
    have hP9 := hP.sub (ws' := []) [] rfl
    have hD9 := hD.sub (ws' := []) [] (by decide) rfl
    have hK9 := hK.sub (tys' := []) [] rfl
    exact W.iret hx hb hr (fun t ht hW => ⟨⟨(0), (), rfl, rfl, by rw [ht]; exact hP9, va_K.moved hW.alike hK9, hD9⟩, hS.F ht⟩) hS.2.2 dX9_level_250
  rw [if_neg hs_22] at hsp
  by_cases hs_23 : a1 = 41
  · rw [if_pos hs_23] at hsp
    refine lv_tableIn (tgt := 249) hx hb dX9_level_1 (by rw [hs_23]; decide) (by rw [hs_23]; decide) (off := 248) (by rw [hs_23]; rfl) (by decide) ?_
    refine lv_iconst (v := 0) hx hb dX9_level_249 (by decide) ?_
    have hr0 := Option.some.inj hsp
    clear hsp
    subst hr0
    have hP9 := hP.sub (ws' := []) [] rfl
    have hD9 := hD.sub (ws' := []) [] (by decide) rfl
    have hK9 := hK.sub (tys' := []) [] rfl
    exact W.iret hx hb hr (fun t ht hW => ⟨⟨(0), (), rfl, rfl, by rw [ht]; exact hP9, va_K.moved hW.alike hK9, hD9⟩, hS.F ht⟩) hS.2.2 dX9_level_250
  rw [if_neg hs_23] at hsp
  by_cases hs_24 : a1 = 42
  · rw [if_pos hs_24] at hsp
    refine lv_tableIn (tgt := 249) hx hb dX9_level_1 (by rw [hs_24]; decide) (by rw [hs_24]; decide) (off := 248) (by rw [hs_24]; rfl) (by decide) ?_
    refine lv_iconst (v := 0) hx hb dX9_level_249 (by decide) ?_
    have hr0 := Option.some.inj hsp
    clear hsp
    subst hr0
    have hP9 := hP.sub (ws' := []) [] rfl
    have hD9 := hD.sub (ws' := []) [] (by decide) rfl
    have hK9 := hK.sub (tys' := []) [] rfl
    exact W.iret hx hb hr (fun t ht hW => ⟨⟨(0), (), rfl, rfl, by rw [ht]; exact hP9, va_K.moved hW.alike hK9, hD9⟩, hS.F ht⟩) hS.2.2 dX9_level_250
  rw [if_neg hs_24] at hsp
  by_cases hs_25 : a1 = 43
  · rw [if_pos hs_25] at hsp
    refine lv_tableIn (tgt := 249) hx hb dX9_level_1 (by rw [hs_25]; decide) (by rw [hs_25]; decide) (off := 248) (by rw [hs_25]; rfl) (by decide) ?_
    refine lv_iconst (v := 0) hx hb dX9_level_249 (by decide) ?_
    have hr0 := Option.some.inj hsp
    clear hsp
    subst hr0
    have hP9 := hP.sub (ws' := []) [] rfl
    have hD9 := hD.sub (ws' := []) [] (by decide) rfl
    have hK9 := hK.sub (tys' := []) [] rfl
    exact W.iret hx hb hr (fun t ht hW => ⟨⟨(0), (), rfl, rfl, by rw [ht]; exact hP9, va_K.moved hW.alike hK9, hD9⟩, hS.F ht⟩) hS.2.2 dX9_level_250
  rw [if_neg hs_25] at hsp
  by_cases hs_26 : a1 = 44
  · rw [if_pos hs_26] at hsp
    refine lv_tableIn (tgt := 249) hx hb dX9_level_1 (by rw [hs_26]; decide) (by rw [hs_26]; decide) (off := 248) (by rw [hs_26]; rfl) (by decide) ?_
    refine lv_iconst (v := 0) hx hb dX9_level_249 (by decide) ?_
    have hr0 := Option.some.inj hsp
    clear hsp
    subst hr0
    have hP9 := hP.sub (ws' := []) [] rfl
    have hD9 := hD.sub (ws' := []) [] (by decide) rfl
    have hK9 := hK.sub (tys' := []) [] rfl
    exact W.iret hx hb hr (fun t ht hW => ⟨⟨(0), (), rfl, rfl, by rw [ht]; exact hP9, va_K.moved hW.alike hK9, hD9⟩, hS.F ht⟩) hS.2.2 dX9_level_250
  rw [if_neg hs_26] at hsp
  by_cases hs_27 : a1 = 45
  · rw [if_pos hs_27] at hsp
    refine lv_tableIn (tgt := 249) hx hb dX9_level_1 (by rw [hs_27]; decide) (by rw [hs_27]; decide) (off := 248) (by rw [hs_27]; rfl) (by decide) ?_
    refine lv_iconst (v := 0) hx hb dX9_level_249 (by decide) ?_
    have hr0 := Option.some.inj hsp
    clear hsp
    subst hr0
    have hP9 := hP.sub (ws' := []) [] rfl
    have hD9 := hD.sub (ws' := []) [] (by decide) rfl
    have hK9 := hK.sub (tys' := []) [] rfl
    exact W.iret hx hb hr (fun t ht hW => ⟨⟨(0), (), rfl, rfl, by rw [ht]; exact hP9, va_K.moved hW.alike hK9, hD9⟩, hS.F ht⟩) hS.2.2 dX9_level_250
  rw [if_neg hs_27] at hsp
  by_cases hs_28 : a1 = 46
  · rw [if_pos hs_28] at hsp
    refine lv_tableIn (tgt := 249) hx hb dX9_level_1 (by rw [hs_28]; decide) (by rw [hs_28]; decide) (off := 248) (by rw [hs_28]; rfl) (by decide) ?_
    refine lv_iconst (v := 0) hx hb dX9_level_249 (by decide) ?_
    have hr0 := Option.some.inj hsp
    clear hsp
    subst hr0
    have hP9 := hP.sub (ws' := []) [] rfl
    have hD9 := hD.sub (ws' := []) [] (by decide) rfl
    have hK9 := hK.sub (tys' := []) [] rfl
    exact W.iret hx hb hr (fun t ht hW => ⟨⟨(0), (), rfl, rfl, by rw [ht]; exact hP9, va_K.moved hW.alike hK9, hD9⟩, hS.F ht⟩) hS.2.2 dX9_level_250
  rw [if_neg hs_28] at hsp
  by_cases hs_29 : a1 = 47
  · rw [if_pos hs_29] at hsp
    refine lv_tableIn (tgt := 249) hx hb dX9_level_1 (by rw [hs_29]; decide) (by rw [hs_29]; decide) (off := 248) (by rw [hs_29]; rfl) (by decide) ?_
    refine lv_iconst (v := 0) hx hb dX9_level_249 (by decide) ?_
    have hr0 := Option.some.inj hsp
    clear hsp
    subst hr0
    have hP9 := hP.sub (ws' := []) [] rfl
    have hD9 := hD.sub (ws' := []) [] (by decide) rfl
    have hK9 := hK.sub (tys' := []) [] rfl
    exact W.iret hx hb hr (fun t ht hW => ⟨⟨(0), (), rfl, rfl, by rw [ht]; exact hP9, va_K.moved hW.alike hK9, hD9⟩, hS.F ht⟩) hS.2.2 dX9_level_250
  rw [if_neg hs_29] at hsp
  by_cases hs_30 : a1 = 48
  · rw [if_pos hs_30] at hsp
    refine lv_tableIn (tgt := 249) hx hb dX9_level_1 (by rw [hs_30]; decide) (by rw [hs_30]; decide) (off := 248) (by rw [hs_30]; rfl) (by decide) ?_
    refine lv_iconst (v := 0) hx hb dX9_level_249 (by decide) ?_
    have hr0 := Option.some.inj hsp
    clear hsp
    subst hr0
    have hP9 := hP.sub (ws' := []) [] rfl
    have hD9 := hD.sub (ws' := []) [] (by decide) rfl
    have hK9 := hK.sub (tys' := []) [] rfl
    exact W.iret hx hb hr (fun t ht hW => ⟨⟨(0), (), rfl, rfl, by rw [ht]; exact hP9, va_K.moved hW.alike hK9, hD9⟩, hS.F ht⟩) hS.2.2 dX9_level_250
  rw [if_neg hs_30] at hsp
  by_cases hs_31 : a1 = 49
  · rw [if_pos hs_31] at hsp
    refine lv_tableIn (tgt := 249) hx hb dX9_level_1 (by rw [hs_31]; decide) (by rw [hs_31]; decide) (off := 248) (by rw [hs_31]; rfl) (by decide) ?_
    refine lv_iconst (v := 0) hx hb dX9_level_249 (by decide) ?_
    have hr0 := Option.some.inj hsp
    clear hsp
    subst hr0
    have hP9 := hP.sub (ws' := []) [] rfl
    have hD9 := hD.sub (ws' := []) [] (by decide) rfl
    have hK9 := hK.sub (tys' := []) [] rfl
    exact W.iret hx hb hr (fun t ht hW => ⟨⟨(0), (), rfl, rfl, by rw [ht]; exact hP9, va_K.moved hW.alike hK9, hD9⟩, hS.F ht⟩) hS.2.2 dX9_level_250
  rw [if_neg hs_31] at hsp
  by_cases hs_32 : a1 = 50
  · rw [if_pos hs_32] at hsp
    refine lv_tableIn (tgt := 249) hx hb dX9_level_1 (by rw [hs_32]; decide) (by rw [hs_32]; decide) (off := 248) (by rw [hs_32]; rfl) (by decide) ?_
    refine lv_iconst (v := 0) hx hb dX9_level_249 (by decide) ?_
    have hr0 := Option.some.inj hsp
    clear hsp
    subst hr0
    have hP9 := hP.sub (ws' := []) [] rfl
    have hD9 := hD.sub (ws' := []) [] (by decide) rfl
    have hK9 := hK.sub (tys' := []) [] rfl
    exact W.iret hx hb hr (fun t ht hW => ⟨⟨(0), (), rfl, rfl, by rw [ht]; exact hP9, va_K.moved hW.alike hK9, hD9⟩, hS.F ht⟩) hS.2.2 dX9_level_250
  rw [if_neg hs_32] at hsp
  by_cases hs_33 : a1 = 51
  · rw [if_pos hs_33] at hsp
    refine lv_tableIn (tgt := 249) hx hb dX9_level_1 (by rw [hs_33]; decide) (by rw [hs_33]; decide) (off := 248) (by rw [hs_33]; rfl) (by decide) ?_
    refine lv_iconst (v := 0) hx hb dX9_level_249 (by decide) ?_
    have hr0 := Option.some.inj hsp
    clear hsp
    subst hr0
    have hP9 := hP.sub (ws' := []) [] rfl
    have hD9 := hD.sub (ws' := []) [] (by decide) rfl
    have hK9 := hK.sub (tys' := []) [] rfl
    exact W.iret hx hb hr (fun t ht hW => ⟨⟨(0), (), rfl, rfl, by rw [ht]; exact hP9, va_K.moved hW.alike hK9, hD9⟩, hS.F ht⟩) hS.2.2 dX9_level_250
  rw [if_neg hs_33] at hsp
  by_cases hs_34 : a1 = 52
  · rw [if_pos hs_34] at hsp
    refine lv_tableIn (tgt := 234) hx hb dX9_level_1 (by rw [hs_34]; decide) (by rw [hs_34]; decide) (off := 233) (by rw [hs_34]; rfl) (by decide) ?_
    refine lv_bipush (v := 6) hx hb dX9_level_234 (by decide) ?_
    have hr0 := Option.some.inj hsp
    clear hsp
    subst hr0
    have hP9 := hP.sub (ws' := []) [] rfl
    have hD9 := hD.sub (ws' := []) [] (by decide) rfl
    have hK9 := hK.sub (tys' := []) [] rfl
    exact W.iret hx hb hr (fun t ht hW => ⟨⟨(6), (), rfl, rfl, by rw [ht]; exact hP9, va_K.moved hW.alike hK9, hD9⟩, hS.F ht⟩) hS.2.2 dX9_level_236
  rw [if_neg hs_34] at hsp
  by_cases hs_35 : a1 = 53
  · rw [if_pos hs_35] at hsp
    refine lv_tableIn (tgt := 234) hx hb dX9_level_1 (by rw [hs_35]; decide) (by rw [hs_35]; decide) (off := 233) (by rw [hs_35]; rfl) (by decide) ?_
    refine lv_bipush (v := 6) hx hb dX9_level_234 (by decide) ?_
    have hr0 := Option.some.inj hsp
    clear hsp
    subst hr0
    have hP9 := hP.sub (ws' := []) [] rfl
    have hD9 := hD.sub (ws' := []) [] (by decide) rfl
    have hK9 := hK.sub (tys' := []) [] rfl
    exact W.iret hx hb hr (fun t ht hW => ⟨⟨(6), (), rfl, rfl, by rw [ht]; exact hP9, va_K.moved hW.alike hK9, hD9⟩, hS.F ht⟩) hS.2.2 dX9_level_236
  rw [if_neg hs_35] at hsp
  by_cases hs_36 : a1 = 54
  · rw [if_pos hs_36] at hsp
    refine lv_tableIn (tgt := 237) hx hb dX9_level_1 (by rw [hs_36]; decide) (by rw [hs_36]; decide) (off := 236) (by rw [hs_36]; rfl) (by decide) ?_
    refine lv_bipush (v := 7) hx hb dX9_level_237 (by decide) ?_
    have hr0 := Option.some.inj hsp
    clear hsp
    subst hr0
    have hP9 := hP.sub (ws' := []) [] rfl
    have hD9 := hD.sub (ws' := []) [] (by decide) rfl
    have hK9 := hK.sub (tys' := []) [] rfl
    exact W.iret hx hb hr (fun t ht hW => ⟨⟨(7), (), rfl, rfl, by rw [ht]; exact hP9, va_K.moved hW.alike hK9, hD9⟩, hS.F ht⟩) hS.2.2 dX9_level_239
  rw [if_neg hs_36] at hsp
  by_cases hs_37 : a1 = 55
  · rw [if_pos hs_37] at hsp
    refine lv_tableIn (tgt := 237) hx hb dX9_level_1 (by rw [hs_37]; decide) (by rw [hs_37]; decide) (off := 236) (by rw [hs_37]; rfl) (by decide) ?_
    refine lv_bipush (v := 7) hx hb dX9_level_237 (by decide) ?_
    have hr0 := Option.some.inj hsp
    clear hsp
    subst hr0
    have hP9 := hP.sub (ws' := []) [] rfl
    have hD9 := hD.sub (ws' := []) [] (by decide) rfl
    have hK9 := hK.sub (tys' := []) [] rfl
    exact W.iret hx hb hr (fun t ht hW => ⟨⟨(7), (), rfl, rfl, by rw [ht]; exact hP9, va_K.moved hW.alike hK9, hD9⟩, hS.F ht⟩) hS.2.2 dX9_level_239
  rw [if_neg hs_37] at hsp
  by_cases hs_38 : a1 = 56
  · rw [if_pos hs_38] at hsp
    refine lv_tableIn (tgt := 237) hx hb dX9_level_1 (by rw [hs_38]; decide) (by rw [hs_38]; decide) (off := 236) (by rw [hs_38]; rfl) (by decide) ?_
    refine lv_bipush (v := 7) hx hb dX9_level_237 (by decide) ?_
    have hr0 := Option.some.inj hsp
    clear hsp
    subst hr0
    have hP9 := hP.sub (ws' := []) [] rfl
    have hD9 := hD.sub (ws' := []) [] (by decide) rfl
    have hK9 := hK.sub (tys' := []) [] rfl
    exact W.iret hx hb hr (fun t ht hW => ⟨⟨(7), (), rfl, rfl, by rw [ht]; exact hP9, va_K.moved hW.alike hK9, hD9⟩, hS.F ht⟩) hS.2.2 dX9_level_239
  rw [if_neg hs_38] at hsp
  by_cases hs_39 : a1 = 57
  · rw [if_pos hs_39] at hsp
    refine lv_tableIn (tgt := 237) hx hb dX9_level_1 (by rw [hs_39]; decide) (by rw [hs_39]; decide) (off := 236) (by rw [hs_39]; rfl) (by decide) ?_
    refine lv_bipush (v := 7) hx hb dX9_level_237 (by decide) ?_
    have hr0 := Option.some.inj hsp
    clear hsp
    subst hr0
    have hP9 := hP.sub (ws' := []) [] rfl
    have hD9 := hD.sub (ws' := []) [] (by decide) rfl
    have hK9 := hK.sub (tys' := []) [] rfl
    exact W.iret hx hb hr (fun t ht hW => ⟨⟨(7), (), rfl, rfl, by rw [ht]; exact hP9, va_K.moved hW.alike hK9, hD9⟩, hS.F ht⟩) hS.2.2 dX9_level_239
  rw [if_neg hs_39] at hsp
  by_cases hs_40 : a1 = 58
  · rw [if_pos hs_40] at hsp
    refine lv_tableIn (tgt := 240) hx hb dX9_level_1 (by rw [hs_40]; decide) (by rw [hs_40]; decide) (off := 239) (by rw [hs_40]; rfl) (by decide) ?_
    refine lv_bipush (v := 8) hx hb dX9_level_240 (by decide) ?_
    have hr0 := Option.some.inj hsp
    clear hsp
    subst hr0
    have hP9 := hP.sub (ws' := []) [] rfl
    have hD9 := hD.sub (ws' := []) [] (by decide) rfl
    have hK9 := hK.sub (tys' := []) [] rfl
    exact W.iret hx hb hr (fun t ht hW => ⟨⟨(8), (), rfl, rfl, by rw [ht]; exact hP9, va_K.moved hW.alike hK9, hD9⟩, hS.F ht⟩) hS.2.2 dX9_level_242
  rw [if_neg hs_40] at hsp
  by_cases hs_41 : a1 = 59
  · rw [if_pos hs_41] at hsp
    refine lv_tableIn (tgt := 240) hx hb dX9_level_1 (by rw [hs_41]; decide) (by rw [hs_41]; decide) (off := 239) (by rw [hs_41]; rfl) (by decide) ?_
    refine lv_bipush (v := 8) hx hb dX9_level_240 (by decide) ?_
    have hr0 := Option.some.inj hsp
    clear hsp
    subst hr0
    have hP9 := hP.sub (ws' := []) [] rfl
    have hD9 := hD.sub (ws' := []) [] (by decide) rfl
    have hK9 := hK.sub (tys' := []) [] rfl
    exact W.iret hx hb hr (fun t ht hW => ⟨⟨(8), (), rfl, rfl, by rw [ht]; exact hP9, va_K.moved hW.alike hK9, hD9⟩, hS.F ht⟩) hS.2.2 dX9_level_242
  rw [if_neg hs_41] at hsp
  by_cases hs_42 : a1 = 60
  · rw [if_pos hs_42] at hsp
    refine lv_tableIn (tgt := 240) hx hb dX9_level_1 (by rw [hs_42]; decide) (by rw [hs_42]; decide) (off := 239) (by rw [hs_42]; rfl) (by decide) ?_
    refine lv_bipush (v := 8) hx hb dX9_level_240 (by decide) ?_
    have hr0 := Option.some.inj hsp
    clear hsp
    subst hr0
    have hP9 := hP.sub (ws' := []) [] rfl
    have hD9 := hD.sub (ws' := []) [] (by decide) rfl
    have hK9 := hK.sub (tys' := []) [] rfl
    exact W.iret hx hb hr (fun t ht hW => ⟨⟨(8), (), rfl, rfl, by rw [ht]; exact hP9, va_K.moved hW.alike hK9, hD9⟩, hS.F ht⟩) hS.2.2 dX9_level_242
  rw [if_neg hs_42] at hsp
  by_cases hs_43 : a1 = 61
  · rw [if_pos hs_43] at hsp
    refine lv_tableIn (tgt := 243) hx hb dX9_level_1 (by rw [hs_43]; decide) (by rw [hs_43]; decide) (off := 242) (by rw [hs_43]; rfl) (by decide) ?_
    refine lv_bipush (v := 9) hx hb dX9_level_243 (by decide) ?_
    have hr0 := Option.some.inj hsp
    clear hsp
    subst hr0
    have hP9 := hP.sub (ws' := []) [] rfl
    have hD9 := hD.sub (ws' := []) [] (by decide) rfl
    have hK9 := hK.sub (tys' := []) [] rfl
    exact W.iret hx hb hr (fun t ht hW => ⟨⟨(9), (), rfl, rfl, by rw [ht]; exact hP9, va_K.moved hW.alike hK9, hD9⟩, hS.F ht⟩) hS.2.2 dX9_level_245
  rw [if_neg hs_43] at hsp
  by_cases hs_44 : a1 = 62
  · rw [if_pos hs_44] at hsp
    refine lv_tableIn (tgt := 243) hx hb dX9_level_1 (by rw [hs_44]; decide) (by rw [hs_44]; decide) (off := 242) (by rw [hs_44]; rfl) (by decide) ?_
    refine lv_bipush (v := 9) hx hb dX9_level_243 (by decide) ?_
    have hr0 := Option.some.inj hsp
    clear hsp
    subst hr0
    have hP9 := hP.sub (ws' := []) [] rfl
    have hD9 := hD.sub (ws' := []) [] (by decide) rfl
    have hK9 := hK.sub (tys' := []) [] rfl
    exact W.iret hx hb hr (fun t ht hW => ⟨⟨(9), (), rfl, rfl, by rw [ht]; exact hP9, va_K.moved hW.alike hK9, hD9⟩, hS.F ht⟩) hS.2.2 dX9_level_245
  rw [if_neg hs_44] at hsp
  by_cases hs_45 : a1 = 63
  · rw [if_pos hs_45] at hsp
    refine lv_tableIn (tgt := 246) hx hb dX9_level_1 (by rw [hs_45]; decide) (by rw [hs_45]; decide) (off := 245) (by rw [hs_45]; rfl) (by decide) ?_
    refine lv_bipush (v := 10) hx hb dX9_level_246 (by decide) ?_
    have hr0 := Option.some.inj hsp
    clear hsp
    subst hr0
    have hP9 := hP.sub (ws' := []) [] rfl
    have hD9 := hD.sub (ws' := []) [] (by decide) rfl
    have hK9 := hK.sub (tys' := []) [] rfl
    exact W.iret hx hb hr (fun t ht hW => ⟨⟨(10), (), rfl, rfl, by rw [ht]; exact hP9, va_K.moved hW.alike hK9, hD9⟩, hS.F ht⟩) hS.2.2 dX9_level_248
  rw [if_neg hs_45] at hsp
  by_cases hs_46 : a1 = 64
  · rw [if_pos hs_46] at hsp
    refine lv_tableIn (tgt := 246) hx hb dX9_level_1 (by rw [hs_46]; decide) (by rw [hs_46]; decide) (off := 245) (by rw [hs_46]; rfl) (by decide) ?_
    refine lv_bipush (v := 10) hx hb dX9_level_246 (by decide) ?_
    have hr0 := Option.some.inj hsp
    clear hsp
    subst hr0
    have hP9 := hP.sub (ws' := []) [] rfl
    have hD9 := hD.sub (ws' := []) [] (by decide) rfl
    have hK9 := hK.sub (tys' := []) [] rfl
    exact W.iret hx hb hr (fun t ht hW => ⟨⟨(10), (), rfl, rfl, by rw [ht]; exact hP9, va_K.moved hW.alike hK9, hD9⟩, hS.F ht⟩) hS.2.2 dX9_level_248
  rw [if_neg hs_46] at hsp
  by_cases hs_47 : a1 = 65
  · rw [if_pos hs_47] at hsp
    refine lv_tableIn (tgt := 246) hx hb dX9_level_1 (by rw [hs_47]; decide) (by rw [hs_47]; decide) (off := 245) (by rw [hs_47]; rfl) (by decide) ?_
    refine lv_bipush (v := 10) hx hb dX9_level_246 (by decide) ?_
    have hr0 := Option.some.inj hsp
    clear hsp
    subst hr0
    have hP9 := hP.sub (ws' := []) [] rfl
    have hD9 := hD.sub (ws' := []) [] (by decide) rfl
    have hK9 := hK.sub (tys' := []) [] rfl
    exact W.iret hx hb hr (fun t ht hW => ⟨⟨(10), (), rfl, rfl, by rw [ht]; exact hP9, va_K.moved hW.alike hK9, hD9⟩, hS.F ht⟩) hS.2.2 dX9_level_248
  rw [if_neg hs_47] at hsp
  by_cases hs_48 : a1 = 66
  · rw [if_pos hs_48] at hsp
    refine lv_tableIn (tgt := 232) hx hb dX9_level_1 (by rw [hs_48]; decide) (by rw [hs_48]; decide) (off := 231) (by rw [hs_48]; rfl) (by decide) ?_
    refine lv_iconst (v := 5) hx hb dX9_level_232 (by decide) ?_
    have hr0 := Option.some.inj hsp
    clear hsp
    subst hr0
    have hP9 := hP.sub (ws' := []) [] rfl
    have hD9 := hD.sub (ws' := []) [] (by decide) rfl
    have hK9 := hK.sub (tys' := []) [] rfl
    exact W.iret hx hb hr (fun t ht hW => ⟨⟨(5), (), rfl, rfl, by rw [ht]; exact hP9, va_K.moved hW.alike hK9, hD9⟩, hS.F ht⟩) hS.2.2 dX9_level_233
  rw [if_neg hs_48] at hsp
  by_cases hs_49 : a1 = 67
  · rw [if_pos hs_49] at hsp
    refine lv_tableIn (tgt := 226) hx hb dX9_level_1 (by rw [hs_49]; decide) (by rw [hs_49]; decide) (off := 225) (by rw [hs_49]; rfl) (by decide) ?_
    refine lv_iconst (v := 2) hx hb dX9_level_226 (by decide) ?_
    have hr0 := Option.some.inj hsp
    clear hsp
    subst hr0
    have hP9 := hP.sub (ws' := []) [] rfl
    have hD9 := hD.sub (ws' := []) [] (by decide) rfl
    have hK9 := hK.sub (tys' := []) [] rfl
    exact W.iret hx hb hr (fun t ht hW => ⟨⟨(2), (), rfl, rfl, by rw [ht]; exact hP9, va_K.moved hW.alike hK9, hD9⟩, hS.F ht⟩) hS.2.2 dX9_level_227
  rw [if_neg hs_49] at hsp
  by_cases hs_50 : a1 = 68
  · rw [if_pos hs_50] at hsp
    refine lv_tableIn (tgt := 228) hx hb dX9_level_1 (by rw [hs_50]; decide) (by rw [hs_50]; decide) (off := 227) (by rw [hs_50]; rfl) (by decide) ?_
    refine lv_iconst (v := 3) hx hb dX9_level_228 (by decide) ?_
    have hr0 := Option.some.inj hsp
    clear hsp
    subst hr0
    have hP9 := hP.sub (ws' := []) [] rfl
    have hD9 := hD.sub (ws' := []) [] (by decide) rfl
    have hK9 := hK.sub (tys' := []) [] rfl
    exact W.iret hx hb hr (fun t ht hW => ⟨⟨(3), (), rfl, rfl, by rw [ht]; exact hP9, va_K.moved hW.alike hK9, hD9⟩, hS.F ht⟩) hS.2.2 dX9_level_229
  rw [if_neg hs_50] at hsp
  by_cases hs_51 : a1 = 69
  · rw [if_pos hs_51] at hsp
    refine lv_tableIn (tgt := 224) hx hb dX9_level_1 (by rw [hs_51]; decide) (by rw [hs_51]; decide) (off := 223) (by rw [hs_51]; rfl) (by decide) ?_
    refine lv_iconst (v := 1) hx hb dX9_level_224 (by decide) ?_
    have hr0 := Option.some.inj hsp
    clear hsp
    subst hr0
    have hP9 := hP.sub (ws' := []) [] rfl
    have hD9 := hD.sub (ws' := []) [] (by decide) rfl
    have hK9 := hK.sub (tys' := []) [] rfl
    exact W.iret hx hb hr (fun t ht hW => ⟨⟨(1), (), rfl, rfl, by rw [ht]; exact hP9, va_K.moved hW.alike hK9, hD9⟩, hS.F ht⟩) hS.2.2 dX9_level_225
  rw [if_neg hs_51] at hsp
  by_cases hs_52 : a1 = 70
  · rw [if_pos hs_52] at hsp
    refine lv_tableIn (tgt := 230) hx hb dX9_level_1 (by rw [hs_52]; decide) (by rw [hs_52]; decide) (off := 229) (by rw [hs_52]; rfl) (by decide) ?_
    refine lv_iconst (v := 4) hx hb dX9_level_230 (by decide) ?_
    have hr0 := Option.some.inj hsp
    clear hsp
    subst hr0
    have hP9 := hP.sub (ws' := []) [] rfl
    have hD9 := hD.sub (ws' := []) [] (by decide) rfl
    have hK9 := hK.sub (tys' := []) [] rfl
    exact W.iret hx hb hr (fun t ht hW => ⟨⟨(4), (), rfl, rfl, by rw [ht]; exact hP9, va_K.moved hW.alike hK9, hD9⟩, hS.F ht⟩) hS.2.2 dX9_level_231
  rw [if_neg hs_52] at hsp
  refine lv_tableOut (tgt := 249) hx hb dX9_level_1 (by have a0 := lv_neT hs_1 (a := 19) rfl; have a1 := lv_neT hs_2 (a := 20) rfl; have a2 := lv_neT hs_3 (a := 21) rfl; have a3 := lv_neT hs_4 (a := 22) rfl; have a4 := lv_neT hs_5 (a := 23) rfl; have a5 := lv_neT hs_6 (a := 24) rfl; have a6 := lv_neT hs_7 (a := 25) rfl; have a7 := lv_neT hs_8 (a := 26) rfl; have a8 := lv_neT hs_9 (a := 27) rfl; have a9 := lv_neT hs_10 (a := 28) rfl; have a10 := lv_neT hs_11 (a := 29) rfl; have a11 := lv_neT hs_12 (a := 30) rfl; have a12 := lv_neT hs_13 (a := 31) rfl; have a13 := lv_neT hs_14 (a := 32) rfl; have a14 := lv_neT hs_15 (a := 33) rfl; have a15 := lv_neT hs_16 (a := 34) rfl; have a16 := lv_neT hs_17 (a := 35) rfl; have a17 := lv_neT hs_18 (a := 36) rfl; have a18 := lv_neT hs_19 (a := 37) rfl; have a19 := lv_neT hs_20 (a := 38) rfl; have a20 := lv_neT hs_21 (a := 39) rfl; have a21 := lv_neT hs_22 (a := 40) rfl; have a22 := lv_neT hs_23 (a := 41) rfl; have a23 := lv_neT hs_24 (a := 42) rfl; have a24 := lv_neT hs_25 (a := 43) rfl; have a25 := lv_neT hs_26 (a := 44) rfl; have a26 := lv_neT hs_27 (a := 45) rfl; have a27 := lv_neT hs_28 (a := 46) rfl; have a28 := lv_neT hs_29 (a := 47) rfl; have a29 := lv_neT hs_30 (a := 48) rfl; have a30 := lv_neT hs_31 (a := 49) rfl; have a31 := lv_neT hs_32 (a := 50) rfl; have a32 := lv_neT hs_33 (a := 51) rfl; have a33 := lv_neT hs_34 (a := 52) rfl; have a34 := lv_neT hs_35 (a := 53) rfl; have a35 := lv_neT hs_36 (a := 54) rfl; have a36 := lv_neT hs_37 (a := 55) rfl; have a37 := lv_neT hs_38 (a := 56) rfl; have a38 := lv_neT hs_39 (a := 57) rfl; have a39 := lv_neT hs_40 (a := 58) rfl; have a40 := lv_neT hs_41 (a := 59) rfl; have a41 := lv_neT hs_42 (a := 60) rfl; have a42 := lv_neT hs_43 (a := 61) rfl; have a43 := lv_neT hs_44 (a := 62) rfl; have a44 := lv_neT hs_45 (a := 63) rfl; have a45 := lv_neT hs_46 (a := 64) rfl; have a46 := lv_neT hs_47 (a := 65) rfl; have a47 := lv_neT hs_48 (a := 66) rfl; have a48 := lv_neT hs_49 (a := 67) rfl; have a49 := lv_neT hs_50 (a := 68) rfl; have a50 := lv_neT hs_51 (a := 69) rfl; have a51 := lv_neT hs_52 (a := 70) rfl; omega) (by decide) ?_
  refine lv_iconst (v := 0) hx hb dX9_level_249 (by decide) ?_
  have hr0 := Option.some.inj hsp
  clear hsp
  subst hr0
  have hP9 := hP.sub (ws' := []) [] rfl
  have hD9 := hD.sub (ws' := []) [] (by decide) rfl
  have hK9 := hK.sub (tys' := []) [] rfl
  exact W.iret hx hb hr (fun t ht hW => ⟨⟨(0), (), rfl, rfl, by rw [ht]; exact hP9, va_K.moved hW.alike hK9, hD9⟩, hS.F ht⟩) hS.2.2 dX9_level_250
def sp_t9_beginsVariable (nf : Nat) (v3 : Int32) (v10 : Int32) (v11 : Int32) (f0 : Nat → Int32) : Option (Int32) := ((sp_t9_kind nf v3 v10 v11 f0).bind (fun p1 => (if p1 = 2 then ((sp_t9_kindAt nf (v10 + 1) v3 f0).bind (fun p2 => (if p2 = 2 then (some 1) else (if p2 = 44 then ((sp_t9_kindAt nf (v10 + 2) v3 f0).bind (fun p3 => (if p3 = 45 then (some 1) else (some 0)))) else (some 0))))) else (if p1 = 20 then (some 1) else (if p1 = 10 then (some 1) else (some 0))))))
set_option maxHeartbeats 4000000 in
set_option maxRecDepth 100000 in
/-- ClassMill$Text.beginsVariable -/
theorem t9_beginsVariable (l : Launch) (dC : Nat → ClassId) (dI : Nat → Nat → Nat) (sz : Nat) (h0 : Nat) (qf0 : Nat) (qf1 : Nat) (qf2 : Nat) (v3 : Int32) (qf4 : Nat) (qf5 : Nat) (qf6 : Nat) (qf7 : Nat) (qf8 : Nat) (v9 : Int32) (v10 : Int32) (v11 : Int32) (v12 : Int32) (cf0 : ClassId) (f0 : (Nat → Int32)) (nf : Nat) (r0 : Int32) (hsp : sp_t9_beginsVariable nf v3 v10 v11 f0 = some r0) : Met l yX9_beginsVariable (.code yX9_beginsVariable cX9_beginsVariable 3 (some .boolean) :: VS_h4) ({ frames := 1, cells := 0, slots := 0, locals := 21 }) (va_Pc [.ref h0] (fun U => U.heap.size = sz ∧ va_P (dC, dI) vwCl [(h0, .inr (9, [.ref qf0, .ref qf1, .ref qf2, .int v3, .ref qf4, .ref qf5, .ref qf6, .ref qf7, .ref qf8, .int v9, .int v10, .int v11, .int v12])), (qf0, .inl (cf0, 3001, .inl f0))] U.heap ∧ va_K (dC, dI) vwCl [(cf0, .int)] U ∧ va_D (fun _ => True) [(h0, .inr (9, [.ref qf0, .ref qf1, .ref qf2, .int v3, .ref qf4, .ref qf5, .ref qf6, .ref qf7, .ref qf8, .int v9, .int v10, .int v11, .int v12])), (qf0, .inl (cf0, 3001, .inl f0))])) (va_Qi (fun (r : Int32) (u : Unit) => match u with | () => r0 = r ∧ (r0 = 0 ∨ r0 = 1)) (fun (u : Unit) (t : State) => match u with | () => va_P (dC, dI) vwCl [(h0, .inr (9, [.ref qf0, .ref qf1, .ref qf2, .int v3, .ref qf4, .ref qf5, .ref qf6, .ref qf7, .ref qf8, .int v9, .int v10, .int v11, .int v12])), (qf0, .inl (cf0, 3001, .inl f0))] t.heap ∧ va_K (dC, dI) vwCl [(cf0, .int)] t ∧ va_D (va_A [(h0, .inr (9, [.ref qf0, .ref qf1, .ref qf2, .int v3, .ref qf4, .ref qf5, .ref qf6, .ref qf7, .ref qf8, .int v9, .int v10, .int v11, .int v12])), (qf0, .inl (cf0, 3001, .inl f0))] sz) [(h0, .inr (9, [.ref qf0, .ref qf1, .ref qf2, .int v3, .ref qf4, .ref qf5, .ref qf6, .ref qf7, .ref qf8, .int v9, .int v10, .int v11, .int v12])), (qf0, .inl (cf0, 3001, .inl f0))]) (va_A [(h0, .inr (9, [.ref qf0, .ref qf1, .ref qf2, .int v3, .ref qf4, .ref qf5, .ref qf6, .ref qf7, .ref qf8, .int v9, .int v10, .int v11, .int v12])), (qf0, .inl (cf0, 3001, .inl f0))] sz)) 0 0 (va_A [(h0, .inr (9, [.ref qf0, .ref qf1, .ref qf2, .int v3, .ref qf4, .ref qf5, .ref qf6, .ref qf7, .ref qf8, .int v9, .int v10, .int v11, .int v12])), (qf0, .inl (cf0, 3001, .inl f0))] sz) := by
  refine Met.ofW (cc := cX9_beginsVariable) (maxL := 3) (ret := (some .boolean)) (by decide) rfl ?_
  intro p e s m args below meth c s₁ B hml hv
  obtain ⟨rfl, hsz, hP, hK, hD0⟩ := hv
  have hx := B.exec
  have hb := B.bytes
  have hr := B.returns
  have hts := atoms_spec (ws := (.code yX9_beginsVariable cX9_beginsVariable 3 (some .boolean) :: VS_h4)) B.pre
  replace hts := fun w (h : w ∈ VS_h4) => hts w (List.mem_cons_of_mem _ h)
  have hown : s.vm.findClass RX9 = some m.cls := findClass_of_methodNamed B.named
  have hlocks := B.notSynchronized
  subst hsz
  have hD := hD0.self (sz := s.heap.size)
  generalize hAe : va_A [(h0, .inr (9, [.ref qf0, .ref qf1, .ref qf2, .int v3, .ref qf4, .ref qf5, .ref qf6, .ref qf7, .ref qf8, .int v9, .int v10, .int v11, .int v12])), (qf0, .inl (cf0, 3001, .inl f0))] s.heap.size = A at hD  ⊢
  have hA : ∀ q : Nat, s.heap.size ≤ q → A q := fun q h => by rw [← hAe]; exact Or.inr h
  have hP : va_P (dC, dI) vwCl [(h0, .inr (9, [.ref qf0, .ref qf1, .ref qf2, .int v3, .ref qf4, .ref qf5, .ref qf6, .ref qf7, .ref qf8, .int v9, .int v10, .int v11, .int v12])), (qf0, .inl (cf0, 3001, .inl f0))] s.heap := hP
  have hl := lv_entry ([.ref h0]) (n := 3) (Nat.le_of_ble_eq_true rfl)
  rw [lg_entry_eq]
  generalize (lg_sl ([.ref h0]) ++ List.replicate (3 - (lg_sl ([.ref h0])).length) Slot.unset).toArray = ls at hl ⊢
  have hl : lv_has ls 3 [(0, .ref h0)] := hl
  obtain ⟨H, hH⟩ : ∃ H : Heap, s.heap = H := ⟨_, rfl⟩
  rw [hH] at hP ⊢
  have hS : va_S A s.heap H [] := by rw [← hH]; exact va_S.rf
  obtain ⟨locs, hlo⟩ : ∃ locs : List Loc, locs = [] := ⟨_, rfl⟩
  rw [← hlo] at hS ⊢
  unfold sp_t9_beginsVariable at hsp
  refine lv_aload_n hx hb dX9_beginsVariable_0 rfl (lv_at hl 0 rfl) ?_
  obtain ⟨u1_0, hu_1, hsp⟩ := ox_bind hsp
  try dsimp only at hsp
  have hPc := hP.sub (ws' := [(h0, .inr (9, [.ref qf0, .ref qf1, .ref qf2, .int v3, .ref qf4, .ref qf5, .ref qf6, .ref qf7, .ref qf8, .int v9, .int v10, .int v11, .int v12])), (qf0, .inl (cf0, 3001, .inl f0))]) [0, 1] rfl
  have hDc := hD.sub (ws' := [(h0, .inr (9, [.ref qf0, .ref qf1, .ref qf2, .int v3, .ref qf4, .ref qf5, .ref qf6, .ref qf7, .ref qf8, .int v9, .int v10, .int v11, .int v12])), (qf0, .inl (cf0, 3001, .inl f0))]) [0, 1] (by decide) rfl
  have hKc := hK.sub (tys' := [(cf0, .int)]) [0] rfl
  have hFc := va_free (wc := [(h0, .inr (9, [.ref qf0, .ref qf1, .ref qf2, .int v3, .ref qf4, .ref qf5, .ref qf6, .ref qf7, .ref qf8, .int v9, .int v10, .int v11, .int v12])), (qf0, .inl (cf0, 3001, .inl f0))]) hD hS hA [0, 1] rfl
  refine va_calli (va_runV (As := []) (rest := []) ⟨hx, hb, hml, hown, hts⟩ (t9_kind l dC dI H.size h0 qf0 qf1 qf2 v3 qf4 qf5 qf6 qf7 qf8 v9 v10 v11 v12 cf0 f0 nf u1_0 hu_1) (cwV 0 hts gv_h4_4 rfl rfl rfl (by decide +kernel) ⟨Nat.le_of_ble_eq_true rfl, Nat.le_of_ble_eq_true rfl⟩) ⟨fun a U g mk q => by obtain ⟨q0, q1, qP, qK, qD⟩ := q; exact ⟨q0, q1, qP, va_K.moved (u := U) (U := U.calling g mk a) (Vm.Alike.refl U.vm) qK, qD⟩, va_recv hKc hPc (ci := 9) (q0 := 0) rfl rfl, fun U hU hW => ⟨rfl, by rw [hU], by rw [hU]; exact hPc, va_K.moved hW.alike hKc, hDc.weaken (fun _ _ _ _ => trivial)⟩⟩ rfl rfl hl.1 rfl (lv_room (Nat.le_of_ble_eq_true rfl)) dX9_beginsVariable_1 ⟨Nat.le_of_ble_eq_true rfl, Nat.le_of_ble_eq_true rfl⟩) hS (fun q _ h => hFc q h) hFc ?_
  clear hS
  intro r_1 u t H1 locs ht hvm hw hB hz1 hk1 hS
  obtain ⟨⟩ := u
  obtain ⟨hP1, hK1, hD1⟩ := hB
  rw [ht] at hP1
  have hK1 := va_K.moved hvm.symm hK1
  try dsimp only at hw
  have hPD := va_join (wr := []) (w1 := [(h0, .inr (9, [.ref qf0, .ref qf1, .ref qf2, .int v3, .ref qf4, .ref qf5, .ref qf6, .ref qf7, .ref qf8, .int v9, .int v10, .int v11, .int v12])), (qf0, .inl (cf0, 3001, .inl f0))]) hP hD [0, 1] [] rfl rfl (by decide) (by decide) hk1 hFc hP1 hD1
  clear hP hD
  obtain ⟨hP, hD⟩ := hPD
  replace hK := (hK.sub (tys' := []) [] rfl).app hK1
  clear hPc hDc hKc hFc hP1 hK1 hD1 hz1 hk1 ht hvm
  generalize H1 = H at hP hS ⊢
  replace hP : va_P (dC, dI) vwCl [(h0, .inr (9, [.ref qf0, .ref qf1, .ref qf2, .int v3, .ref qf4, .ref qf5, .ref qf6, .ref qf7, .ref qf8, .int v9, .int v10, .int v11, .int v12])), (qf0, .inl (cf0, 3001, .inl f0))] H := hP
  replace hD : va_D A [(h0, .inr (9, [.ref qf0, .ref qf1, .ref qf2, .int v3, .ref qf4, .ref qf5, .ref qf6, .ref qf7, .ref qf8, .int v9, .int v10, .int v11, .int v12])), (qf0, .inl (cf0, 3001, .inl f0))] := hD
  replace hK : va_K (dC, dI) vwCl [(cf0, .int)] s := hK
  obtain rfl := hw
  refine lv_istore_n (lv' := [(1, .int u1_0), (0, .ref h0)]) hx hb dX9_beginsVariable_4 rfl hl (by decide) rfl (fun ls hl => ?_)
  refine lv_iload_n hx hb dX9_beginsVariable_5 rfl (lv_at hl 0 rfl) ?_
  refine lv_iconst (v := 2) hx hb dX9_beginsVariable_6 (by decide) ?_
  refine lv_icmp_eq (tgt := 28) hx hb dX9_beginsVariable_7 (by decide) (fun c_2 => ?_) (fun c_2 => ?_)
  · rw [if_pos c_2] at hsp
    refine lv_aload_n hx hb dX9_beginsVariable_28 rfl (lv_at hl 1 rfl) ?_
    refine lv_aload_n hx hb dX9_beginsVariable_29 rfl (lv_at hl 1 rfl) ?_
    refine va_get (D := (dC, dI)) (ci := 9) (v := .int v10) (C := RX9) (T := TX9) (N := 13) hx hb hts uV_h4_X9 hown hK hP 0 rfl rfl 10 (by decide) (hts (.fieldLink RX9 86 "ClassMill$Text" "pos" "I") mw_h4_4) (fun _ h9 => h9) rfl dX9_beginsVariable_30 ?_
    refine lv_iconst (v := 1) hx hb dX9_beginsVariable_33 (by decide) ?_
    refine lv_iadd hx hb dX9_beginsVariable_34 ?_
    obtain ⟨u2_0, hu_2, hsp⟩ := ox_bind hsp
    try dsimp only at hsp
    have hPc := hP.sub (ws' := [(h0, .inr (9, [.ref qf0, .ref qf1, .ref qf2, .int v3, .ref qf4, .ref qf5, .ref qf6, .ref qf7, .ref qf8, .int v9, .int v10, .int v11, .int v12])), (qf0, .inl (cf0, 3001, .inl f0))]) [0, 1] rfl
    have hDc := hD.sub (ws' := [(h0, .inr (9, [.ref qf0, .ref qf1, .ref qf2, .int v3, .ref qf4, .ref qf5, .ref qf6, .ref qf7, .ref qf8, .int v9, .int v10, .int v11, .int v12])), (qf0, .inl (cf0, 3001, .inl f0))]) [0, 1] (by decide) rfl
    have hKc := hK.sub (tys' := [(cf0, .int)]) [0] rfl
    have hFc := va_free (wc := [(h0, .inr (9, [.ref qf0, .ref qf1, .ref qf2, .int v3, .ref qf4, .ref qf5, .ref qf6, .ref qf7, .ref qf8, .int v9, .int v10, .int v11, .int v12])), (qf0, .inl (cf0, 3001, .inl f0))]) hD hS hA [0, 1] rfl
    refine va_calli (va_runV (As := [.int (v10 + 1)]) (rest := []) ⟨hx, hb, hml, hown, hts⟩ (t9_kindAt l dC dI H.size h0 ((v10 + 1)) qf0 qf1 qf2 v3 qf4 qf5 qf6 qf7 qf8 v9 v10 v11 v12 cf0 f0 nf u2_0 hu_2) (cwV 1 hts gv_h4_5 rfl rfl rfl (by decide +kernel) ⟨Nat.le_of_ble_eq_true rfl, Nat.le_of_ble_eq_true rfl⟩) ⟨fun a U g mk q => by obtain ⟨q0, q1, qP, qK, qD⟩ := q; exact ⟨q0, q1, qP, va_K.moved (u := U) (U := U.calling g mk a) (Vm.Alike.refl U.vm) qK, qD⟩, va_recv hKc hPc (ci := 9) (q0 := 0) rfl rfl, fun U hU hW => ⟨rfl, by rw [hU], by rw [hU]; exact hPc, va_K.moved hW.alike hKc, hDc.weaken (fun _ _ _ _ => trivial)⟩⟩ rfl rfl hl.1 rfl (lv_room (Nat.le_of_ble_eq_true rfl)) dX9_beginsVariable_35 ⟨Nat.le_of_ble_eq_true rfl, Nat.le_of_ble_eq_true rfl⟩) hS (fun q _ h => hFc q h) hFc ?_
    clear hS
    intro r_3 u t H1 locs ht hvm hw hB hz1 hk1 hS
    obtain ⟨⟩ := u
    obtain ⟨hP1, hK1, hD1⟩ := hB
    rw [ht] at hP1
    have hK1 := va_K.moved hvm.symm hK1
    try dsimp only at hw
    have hPD := va_join (wr := []) (w1 := [(h0, .inr (9, [.ref qf0, .ref qf1, .ref qf2, .int v3, .ref qf4, .ref qf5, .ref qf6, .ref qf7, .ref qf8, .int v9, .int v10, .int v11, .int v12])), (qf0, .inl (cf0, 3001, .inl f0))]) hP hD [0, 1] [] rfl rfl (by decide) (by decide) hk1 hFc hP1 hD1
    clear hP hD
    obtain ⟨hP, hD⟩ := hPD
    replace hK := (hK.sub (tys' := []) [] rfl).app hK1
    clear hPc hDc hKc hFc hP1 hK1 hD1 hz1 hk1 ht hvm
    generalize H1 = H at hP hS ⊢
    replace hP : va_P (dC, dI) vwCl [(h0, .inr (9, [.ref qf0, .ref qf1, .ref qf2, .int v3, .ref qf4, .ref qf5, .ref qf6, .ref qf7, .ref qf8, .int v9, .int v10, .int v11, .int v12])), (qf0, .inl (cf0, 3001, .inl f0))] H := hP
    replace hD : va_D A [(h0, .inr (9, [.ref qf0, .ref qf1, .ref qf2, .int v3, .ref qf4, .ref qf5, .ref qf6, .ref qf7, .ref qf8, .int v9, .int v10, .int v11, .int v12])), (qf0, .inl (cf0, 3001, .inl f0))] := hD
    replace hK : va_K (dC, dI) vwCl [(cf0, .int)] s := hK
    obtain rfl := hw
    refine lv_istore_n (lv' := [(2, .int u2_0), (1, .int u1_0), (0, .ref h0)]) hx hb dX9_beginsVariable_38 rfl hl (by decide) rfl (fun ls hl => ?_)
    refine lv_iload_n hx hb dX9_beginsVariable_39 rfl (lv_at hl 0 rfl) ?_
    refine lv_iconst (v := 2) hx hb dX9_beginsVariable_40 (by decide) ?_
    refine lv_icmp_eq (tgt := 65) hx hb dX9_beginsVariable_41 (by decide) (fun c_4 => ?_) (fun c_4 => ?_)
    · rw [if_pos c_4] at hsp
      refine lv_iconst (v := 1) hx hb dX9_beginsVariable_65 (by decide) ?_
      refine lv_goto (tgt := 70) hx hb dX9_beginsVariable_66 (by decide) ?_
      have hr0 := Option.some.inj hsp
      clear hsp
      subst hr0
      have hP9 := hP.sub (ws' := [(h0, .inr (9, [.ref qf0, .ref qf1, .ref qf2, .int v3, .ref qf4, .ref qf5, .ref qf6, .ref qf7, .ref qf8, .int v9, .int v10, .int v11, .int v12])), (qf0, .inl (cf0, 3001, .inl f0))]) [0, 1] rfl
      have hD9 := hD.sub (ws' := [(h0, .inr (9, [.ref qf0, .ref qf1, .ref qf2, .int v3, .ref qf4, .ref qf5, .ref qf6, .ref qf7, .ref qf8, .int v9, .int v10, .int v11, .int v12])), (qf0, .inl (cf0, 3001, .inl f0))]) [0, 1] (by decide) rfl
      have hK9 := hK.sub (tys' := [(cf0, .int)]) [0] rfl
      exact W.zret hx hb hr (by decide) (fun t ht hW => ⟨⟨(1), (), rfl, ⟨rfl, Or.inr rfl⟩, by rw [ht]; exact hP9, va_K.moved hW.alike hK9, hD9⟩, hS.F ht⟩) hS.2.2 dX9_beginsVariable_70
    · rw [if_neg c_4] at hsp
      refine lv_iload_n hx hb dX9_beginsVariable_44 rfl (lv_at hl 0 rfl) ?_
      refine lv_bipush (v := 44) hx hb dX9_beginsVariable_45 (by decide) ?_
      refine lv_icmp_ne (tgt := 69) hx hb dX9_beginsVariable_47 (by decide) (fun c_5 => ?_) (fun c_5 => ?_)
      · rw [if_neg c_5] at hsp
        refine lv_iconst (v := 0) hx hb dX9_beginsVariable_69 (by decide) ?_
        have hr0 := Option.some.inj hsp
        clear hsp
        subst hr0
        have hP9 := hP.sub (ws' := [(h0, .inr (9, [.ref qf0, .ref qf1, .ref qf2, .int v3, .ref qf4, .ref qf5, .ref qf6, .ref qf7, .ref qf8, .int v9, .int v10, .int v11, .int v12])), (qf0, .inl (cf0, 3001, .inl f0))]) [0, 1] rfl
        have hD9 := hD.sub (ws' := [(h0, .inr (9, [.ref qf0, .ref qf1, .ref qf2, .int v3, .ref qf4, .ref qf5, .ref qf6, .ref qf7, .ref qf8, .int v9, .int v10, .int v11, .int v12])), (qf0, .inl (cf0, 3001, .inl f0))]) [0, 1] (by decide) rfl
        have hK9 := hK.sub (tys' := [(cf0, .int)]) [0] rfl
        exact W.zret hx hb hr (by decide) (fun t ht hW => ⟨⟨(0), (), rfl, ⟨rfl, Or.inl rfl⟩, by rw [ht]; exact hP9, va_K.moved hW.alike hK9, hD9⟩, hS.F ht⟩) hS.2.2 dX9_beginsVariable_70
      · rw [if_pos c_5] at hsp
        refine lv_aload_n hx hb dX9_beginsVariable_50 rfl (lv_at hl 2 rfl) ?_
        refine lv_aload_n hx hb dX9_beginsVariable_51 rfl (lv_at hl 2 rfl) ?_
        refine va_get (D := (dC, dI)) (ci := 9) (v := .int v10) (C := RX9) (T := TX9) (N := 13) hx hb hts uV_h4_X9 hown hK hP 0 rfl rfl 10 (by decide) (hts (.fieldLink RX9 86 "ClassMill$Text" "pos" "I") mw_h4_4) (fun _ h9 => h9) rfl dX9_beginsVariable_52 ?_
        refine lv_iconst (v := 2) hx hb dX9_beginsVariable_55 (by decide) ?_
        refine lv_iadd hx hb dX9_beginsVariable_56 ?_
        obtain ⟨u3_0, hu_3, hsp⟩ := ox_bind hsp
        try dsimp only at hsp
        have hPc := hP.sub (ws' := [(h0, .inr (9, [.ref qf0, .ref qf1, .ref qf2, .int v3, .ref qf4, .ref qf5, .ref qf6, .ref qf7, .ref qf8, .int v9, .int v10, .int v11, .int v12])), (qf0, .inl (cf0, 3001, .inl f0))]) [0, 1] rfl
        have hDc := hD.sub (ws' := [(h0, .inr (9, [.ref qf0, .ref qf1, .ref qf2, .int v3, .ref qf4, .ref qf5, .ref qf6, .ref qf7, .ref qf8, .int v9, .int v10, .int v11, .int v12])), (qf0, .inl (cf0, 3001, .inl f0))]) [0, 1] (by decide) rfl
        have hKc := hK.sub (tys' := [(cf0, .int)]) [0] rfl
        have hFc := va_free (wc := [(h0, .inr (9, [.ref qf0, .ref qf1, .ref qf2, .int v3, .ref qf4, .ref qf5, .ref qf6, .ref qf7, .ref qf8, .int v9, .int v10, .int v11, .int v12])), (qf0, .inl (cf0, 3001, .inl f0))]) hD hS hA [0, 1] rfl
        refine va_calli (va_runV (As := [.int (v10 + 2)]) (rest := []) ⟨hx, hb, hml, hown, hts⟩ (t9_kindAt l dC dI H.size h0 ((v10 + 2)) qf0 qf1 qf2 v3 qf4 qf5 qf6 qf7 qf8 v9 v10 v11 v12 cf0 f0 nf u3_0 hu_3) (cwV 1 hts gv_h4_5 rfl rfl rfl (by decide +kernel) ⟨Nat.le_of_ble_eq_true rfl, Nat.le_of_ble_eq_true rfl⟩) ⟨fun a U g mk q => by obtain ⟨q0, q1, qP, qK, qD⟩ := q; exact ⟨q0, q1, qP, va_K.moved (u := U) (U := U.calling g mk a) (Vm.Alike.refl U.vm) qK, qD⟩, va_recv hKc hPc (ci := 9) (q0 := 0) rfl rfl, fun U hU hW => ⟨rfl, by rw [hU], by rw [hU]; exact hPc, va_K.moved hW.alike hKc, hDc.weaken (fun _ _ _ _ => trivial)⟩⟩ rfl rfl hl.1 rfl (lv_room (Nat.le_of_ble_eq_true rfl)) dX9_beginsVariable_57 ⟨Nat.le_of_ble_eq_true rfl, Nat.le_of_ble_eq_true rfl⟩) hS (fun q _ h => hFc q h) hFc ?_
        clear hS
        intro r_6 u t H1 locs ht hvm hw hB hz1 hk1 hS
        obtain ⟨⟩ := u
        obtain ⟨hP1, hK1, hD1⟩ := hB
        rw [ht] at hP1
        have hK1 := va_K.moved hvm.symm hK1
        try dsimp only at hw
        have hPD := va_join (wr := []) (w1 := [(h0, .inr (9, [.ref qf0, .ref qf1, .ref qf2, .int v3, .ref qf4, .ref qf5, .ref qf6, .ref qf7, .ref qf8, .int v9, .int v10, .int v11, .int v12])), (qf0, .inl (cf0, 3001, .inl f0))]) hP hD [0, 1] [] rfl rfl (by decide) (by decide) hk1 hFc hP1 hD1
        clear hP hD
        obtain ⟨hP, hD⟩ := hPD
        replace hK := (hK.sub (tys' := []) [] rfl).app hK1
        clear hPc hDc hKc hFc hP1 hK1 hD1 hz1 hk1 ht hvm
        generalize H1 = H at hP hS ⊢
        replace hP : va_P (dC, dI) vwCl [(h0, .inr (9, [.ref qf0, .ref qf1, .ref qf2, .int v3, .ref qf4, .ref qf5, .ref qf6, .ref qf7, .ref qf8, .int v9, .int v10, .int v11, .int v12])), (qf0, .inl (cf0, 3001, .inl f0))] H := hP
        replace hD : va_D A [(h0, .inr (9, [.ref qf0, .ref qf1, .ref qf2, .int v3, .ref qf4, .ref qf5, .ref qf6, .ref qf7, .ref qf8, .int v9, .int v10, .int v11, .int v12])), (qf0, .inl (cf0, 3001, .inl f0))] := hD
        replace hK : va_K (dC, dI) vwCl [(cf0, .int)] s := hK
        obtain rfl := hw
        refine lv_bipush (v := 45) hx hb dX9_beginsVariable_60 (by decide) ?_
        refine lv_icmp_ne (tgt := 69) hx hb dX9_beginsVariable_62 (by decide) (fun c_7 => ?_) (fun c_7 => ?_)
        · rw [if_neg c_7] at hsp
          refine lv_iconst (v := 0) hx hb dX9_beginsVariable_69 (by decide) ?_
          have hr0 := Option.some.inj hsp
          clear hsp
          subst hr0
          have hP9 := hP.sub (ws' := [(h0, .inr (9, [.ref qf0, .ref qf1, .ref qf2, .int v3, .ref qf4, .ref qf5, .ref qf6, .ref qf7, .ref qf8, .int v9, .int v10, .int v11, .int v12])), (qf0, .inl (cf0, 3001, .inl f0))]) [0, 1] rfl
          have hD9 := hD.sub (ws' := [(h0, .inr (9, [.ref qf0, .ref qf1, .ref qf2, .int v3, .ref qf4, .ref qf5, .ref qf6, .ref qf7, .ref qf8, .int v9, .int v10, .int v11, .int v12])), (qf0, .inl (cf0, 3001, .inl f0))]) [0, 1] (by decide) rfl
          have hK9 := hK.sub (tys' := [(cf0, .int)]) [0] rfl
          exact W.zret hx hb hr (by decide) (fun t ht hW => ⟨⟨(0), (), rfl, ⟨rfl, Or.inl rfl⟩, by rw [ht]; exact hP9, va_K.moved hW.alike hK9, hD9⟩, hS.F ht⟩) hS.2.2 dX9_beginsVariable_70
        · rw [if_pos c_7] at hsp
          refine lv_iconst (v := 1) hx hb dX9_beginsVariable_65 (by decide) ?_
          refine lv_goto (tgt := 70) hx hb dX9_beginsVariable_66 (by decide) ?_
          have hr0 := Option.some.inj hsp
          clear hsp
          subst hr0
          have hP9 := hP.sub (ws' := [(h0, .inr (9, [.ref qf0, .ref qf1, .ref qf2, .int v3, .ref qf4, .ref qf5, .ref qf6, .ref qf7, .ref qf8, .int v9, .int v10, .int v11, .int v12])), (qf0, .inl (cf0, 3001, .inl f0))]) [0, 1] rfl
          have hD9 := hD.sub (ws' := [(h0, .inr (9, [.ref qf0, .ref qf1, .ref qf2, .int v3, .ref qf4, .ref qf5, .ref qf6, .ref qf7, .ref qf8, .int v9, .int v10, .int v11, .int v12])), (qf0, .inl (cf0, 3001, .inl f0))]) [0, 1] (by decide) rfl
          have hK9 := hK.sub (tys' := [(cf0, .int)]) [0] rfl
          exact W.zret hx hb hr (by decide) (fun t ht hW => ⟨⟨(1), (), rfl, ⟨rfl, Or.inr rfl⟩, by rw [ht]; exact hP9, va_K.moved hW.alike hK9, hD9⟩, hS.F ht⟩) hS.2.2 dX9_beginsVariable_70
  · rw [if_neg c_2] at hsp
    refine lv_iload_n hx hb dX9_beginsVariable_10 rfl (lv_at hl 0 rfl) ?_
    refine lv_bipush (v := 20) hx hb dX9_beginsVariable_11 (by decide) ?_
    refine lv_icmp_eq (tgt := 22) hx hb dX9_beginsVariable_13 (by decide) (fun c_8 => ?_) (fun c_8 => ?_)
    · rw [if_pos c_8] at hsp
      refine lv_iconst (v := 1) hx hb dX9_beginsVariable_22 (by decide) ?_
      refine lv_goto (tgt := 27) hx hb dX9_beginsVariable_23 (by decide) ?_
      have hr0 := Option.some.inj hsp
      clear hsp
      subst hr0
      have hP9 := hP.sub (ws' := [(h0, .inr (9, [.ref qf0, .ref qf1, .ref qf2, .int v3, .ref qf4, .ref qf5, .ref qf6, .ref qf7, .ref qf8, .int v9, .int v10, .int v11, .int v12])), (qf0, .inl (cf0, 3001, .inl f0))]) [0, 1] rfl
      have hD9 := hD.sub (ws' := [(h0, .inr (9, [.ref qf0, .ref qf1, .ref qf2, .int v3, .ref qf4, .ref qf5, .ref qf6, .ref qf7, .ref qf8, .int v9, .int v10, .int v11, .int v12])), (qf0, .inl (cf0, 3001, .inl f0))]) [0, 1] (by decide) rfl
      have hK9 := hK.sub (tys' := [(cf0, .int)]) [0] rfl
      exact W.zret hx hb hr (by decide) (fun t ht hW => ⟨⟨(1), (), rfl, ⟨rfl, Or.inr rfl⟩, by rw [ht]; exact hP9, va_K.moved hW.alike hK9, hD9⟩, hS.F ht⟩) hS.2.2 dX9_beginsVariable_27
    · rw [if_neg c_8] at hsp
      refine lv_iload_n hx hb dX9_beginsVariable_16 rfl (lv_at hl 0 rfl) ?_
      refine lv_bipush (v := 10) hx hb dX9_beginsVariable_17 (by decide) ?_
      refine lv_icmp_ne (tgt := 26) hx hb dX9_beginsVariable_19 (by decide) (fun c_9 => ?_) (fun c_9 => ?_)
      · rw [if_neg c_9] at hsp
        refine lv_iconst (v := 0) hx hb dX9_beginsVariable_26 (by decide) ?_
        have hr0 := Option.some.inj hsp
        clear hsp
        subst hr0
        have hP9 := hP.sub (ws' := [(h0, .inr (9, [.ref qf0, .ref qf1, .ref qf2, .int v3, .ref qf4, .ref qf5, .ref qf6, .ref qf7, .ref qf8, .int v9, .int v10, .int v11, .int v12])), (qf0, .inl (cf0, 3001, .inl f0))]) [0, 1] rfl
        have hD9 := hD.sub (ws' := [(h0, .inr (9, [.ref qf0, .ref qf1, .ref qf2, .int v3, .ref qf4, .ref qf5, .ref qf6, .ref qf7, .ref qf8, .int v9, .int v10, .int v11, .int v12])), (qf0, .inl (cf0, 3001, .inl f0))]) [0, 1] (by decide) rfl
        have hK9 := hK.sub (tys' := [(cf0, .int)]) [0] rfl
        exact W.zret hx hb hr (by decide) (fun t ht hW => ⟨⟨(0), (), rfl, ⟨rfl, Or.inl rfl⟩, by rw [ht]; exact hP9, va_K.moved hW.alike hK9, hD9⟩, hS.F ht⟩) hS.2.2 dX9_beginsVariable_27
      · rw [if_pos c_9] at hsp
        refine lv_iconst (v := 1) hx hb dX9_beginsVariable_22 (by decide) ?_
        refine lv_goto (tgt := 27) hx hb dX9_beginsVariable_23 (by decide) ?_
        have hr0 := Option.some.inj hsp
        clear hsp
        subst hr0
        have hP9 := hP.sub (ws' := [(h0, .inr (9, [.ref qf0, .ref qf1, .ref qf2, .int v3, .ref qf4, .ref qf5, .ref qf6, .ref qf7, .ref qf8, .int v9, .int v10, .int v11, .int v12])), (qf0, .inl (cf0, 3001, .inl f0))]) [0, 1] rfl
        have hD9 := hD.sub (ws' := [(h0, .inr (9, [.ref qf0, .ref qf1, .ref qf2, .int v3, .ref qf4, .ref qf5, .ref qf6, .ref qf7, .ref qf8, .int v9, .int v10, .int v11, .int v12])), (qf0, .inl (cf0, 3001, .inl f0))]) [0, 1] (by decide) rfl
        have hK9 := hK.sub (tys' := [(cf0, .int)]) [0] rfl
        exact W.zret hx hb hr (by decide) (fun t ht hW => ⟨⟨(1), (), rfl, ⟨rfl, Or.inr rfl⟩, by rw [ht]; exact hP9, va_K.moved hW.alike hK9, hD9⟩, hS.F ht⟩) hS.2.2 dX9_beginsVariable_27
def sp_t9_beginsCast (nf : Nat) (v3 : Int32) (v10 : Int32) (v11 : Int32) (f0 : Nat → Int32) : Option (Int32) := ((sp_t9_kind nf v3 v10 v11 f0).bind (fun p1 => (if p1 = 40 then ((sp_t9_kindAt nf (v10 + 1) v3 f0).bind (fun p2 => (if p2 = 2 then ((sp_t9_kindAt nf (v10 + 2) v3 f0).bind (fun p3 => (if p3 = 41 then ((sp_t9_kindAt nf (v10 + 3) v3 f0).bind (fun p4 => (if p4 = 2 then (some 1) else (if p4 = 3 then (some 1) else (if p4 = 17 then (some 1) else (if p4 = 21 then (some 1) else (if p4 = 22 then (some 1) else (if p4 = 26 then (some 1) else (if p4 = 28 then (some 1) else (if p4 = 40 then (some 1) else (if p4 = 71 then (some 1) else (if p4 = 72 then (some 1) else (some 0))))))))))))) else (some 0)))) else (some 0)))) else (some 0))))

set_option maxHeartbeats 4000000 in
set_option maxRecDepth 100000 in
/-- ClassMill$Text.behindBlanks -/
theorem t9_behindBlanks (l : Launch) (dC : Nat → ClassId) (dI : Nat → Nat → Nat) (sz : Nat) (qa1 : Nat) (a2 : Int32) (a3 : Int32) (ca1 : ClassId) (na1 : Nat) (fa1 : (Nat → Int32)) (nf : Nat) (r0 : Int32) (hsp : sp_t9_behindBlanks nf a2 a3 na1 fa1 = some r0) : Met l yX9_behindBlanks (.code yX9_behindBlanks cX9_behindBlanks 6 (some .int) :: VS_h4) ({ frames := 0, cells := 0, slots := 0, locals := 0 }) (va_Pc [.ref qa1, .int a2, .int a3] (fun U => U.heap.size = sz ∧ va_P (dC, dI) vwCl [(qa1, .inl (ca1, na1, .inl fa1))] U.heap ∧ va_K (dC, dI) vwCl [(ca1, .byte)] U ∧ va_D (fun _ => True) [(qa1, .inl (ca1, na1, .inl fa1))])) (va_Qi (fun (r : Int32) (u : Unit) => match u with | () => r0 = r) (fun (u : Unit) (t : State) => match u with | () => va_P (dC, dI) vwCl [(qa1, .inl (ca1, na1, .inl fa1))] t.heap ∧ va_K (dC, dI) vwCl [(ca1, .byte)] t ∧ va_D (va_A [(qa1, .inl (ca1, na1, .inl fa1))] sz) [(qa1, .inl (ca1, na1, .inl fa1))]) (va_A [(qa1, .inl (ca1, na1, .inl fa1))] sz)) 0 0 (va_A [(qa1, .inl (ca1, na1, .inl fa1))] sz) := by
  refine Met.ofW (cc := cX9_behindBlanks) (maxL := 6) (ret := (some .int)) (by decide) rfl ?_
  intro p e s m args below meth c s₁ B hml hv
  obtain ⟨rfl, hsz, hP, hK, hD0⟩ := hv
  have hx := B.exec
  have hb := B.bytes
  have hr := B.returns
  have hts := atoms_spec (ws := (.code yX9_behindBlanks cX9_behindBlanks 6 (some .int) :: VS_h4)) B.pre
  replace hts := fun w (h : w ∈ VS_h4) => hts w (List.mem_cons_of_mem _ h)
  have hown : s.vm.findClass RX9 = some m.cls := findClass_of_methodNamed B.named
  have hlocks := B.notSynchronized
  subst hsz
  have hD := hD0.self (sz := s.heap.size)
  generalize hAe : va_A [(qa1, .inl (ca1, na1, .inl fa1))] s.heap.size = A at hD  ⊢
  have hA : ∀ q : Nat, s.heap.size ≤ q → A q := fun q h => by rw [← hAe]; exact Or.inr h
  have hP : va_P (dC, dI) vwCl [(qa1, .inl (ca1, na1, .inl fa1))] s.heap := hP
  have hl := lv_entry ([.ref qa1, .int a2, .int a3]) (n := 6) (Nat.le_of_ble_eq_true rfl)
  rw [lg_entry_eq]
  generalize (lg_sl ([.ref qa1, .int a2, .int a3]) ++ List.replicate (6 - (lg_sl ([.ref qa1, .int a2, .int a3])).length) Slot.unset).toArray = ls at hl ⊢
  have hl : lv_has ls 6 [(0, .ref qa1), (1, .int a2), (2, .int a3)] := hl
  obtain ⟨H, hH⟩ : ∃ H : Heap, s.heap = H := ⟨_, rfl⟩
  rw [hH] at hP ⊢
  have hS : va_S A s.heap H [] := by rw [← hH]; exact va_S.rf
  obtain ⟨locs, hlo⟩ : ∃ locs : List Loc, locs = [] := ⟨_, rfl⟩
  rw [← hlo] at hS ⊢
  unfold sp_t9_behindBlanks at hsp
  refine lv_iload_n hx hb dX9_behindBlanks_0 rfl (lv_at hl 2 rfl) ?_
  refine lv_istore_n (lv' := [(3, .int a3), (0, .ref qa1), (1, .int a2), (2, .int a3)]) hx hb dX9_behindBlanks_1 rfl hl (by decide) rfl (fun ls hl => ?_)
  refine lv_iconst (v := 0) hx hb dX9_behindBlanks_2 (by decide) ?_
  refine lv_istore (lv' := [(4, .int 0), (3, .int a3), (0, .ref qa1), (1, .int a2), (2, .int a3)]) hx hb dX9_behindBlanks_3 hl (by decide) rfl (fun ls hl => ?_)
  replace hP := hP.sub (ws' := [(qa1, .inl (ca1, na1, .inl fa1))]) [0] rfl
  replace hD := hD.sub (ws' := [(qa1, .inl (ca1, na1, .inl fa1))]) [0] (by decide) rfl
  replace hK := hK.sub (tys' := [(ca1, .byte)]) [0] rfl
  obtain ⟨n_5, hn_5⟩ : ∃ z : Nat, z = nf := ⟨_, rfl⟩
  obtain ⟨l1_5, el1_5⟩ : ∃ z : Int32, z = a2 := ⟨_, rfl⟩
  obtain ⟨l2_5, el2_5⟩ : ∃ z : Int32, z = a3 := ⟨_, rfl⟩
  obtain ⟨l3_5, el3_5⟩ : ∃ z : Int32, z = a3 := ⟨_, rfl⟩
  obtain ⟨l4_5, el4_5⟩ : ∃ z : Int32, z = 0 := ⟨_, rfl⟩
  replace hsp : lp_t9_behindBlanks_5 nf n_5 a2 a3 na1 fa1 l1_5 l2_5 l3_5 l4_5 = some r0 := by rw [hn_5, el1_5, el2_5, el3_5, el4_5]; exact hsp
  replace hl : lv_has ls 6 [(4, .int l4_5), (3, .int l3_5), (0, .ref qa1), (1, .int l1_5), (2, .int l2_5)] := by rw [el1_5, el2_5, el3_5, el4_5]; exact hl
  clear hn_5 el1_5 el2_5 el3_5 el4_5
  try clear hlo
  try clear hH
  revert hsp
  revert hP
  revert hD
  revert hS
  revert hl
  revert l4_5
  revert l3_5
  revert l2_5
  revert l1_5
  revert ls
  revert locs
  revert H
  induction n_5 with
  | zero => intro H locs ls l1_5 l2_5 l3_5 l4_5 hl hS hD hP hsp; unfold lp_t9_behindBlanks_5 at hsp; cases hsp
  | succ n_5 ih_5 =>
    intro H locs ls l1_5 l2_5 l3_5 l4_5 hl hS hD hP hsp
    unfold lp_t9_behindBlanks_5 at hsp
    try dsimp only at hsp
    refine lv_iload_n hx hb dX9_behindBlanks_5 rfl (lv_at hl 1 rfl) ?_
    refine lv_iload_n hx hb dX9_behindBlanks_6 rfl (lv_at hl 3 rfl) ?_
    refine lv_icmp_ge (tgt := 78) hx hb dX9_behindBlanks_7 (by decide) (fun c_1 => ?_) (fun c_1 => ?_)
    · rw [if_pos c_1] at hsp
      refine lv_iload_n hx hb dX9_behindBlanks_78 rfl (lv_at hl 1 rfl) ?_
      have hr0 := Option.some.inj hsp
      clear hsp
      subst hr0
      have hP9 := hP.sub (ws' := [(qa1, .inl (ca1, na1, .inl fa1))]) [0] rfl
      have hD9 := hD.sub (ws' := [(qa1, .inl (ca1, na1, .inl fa1))]) [0] (by decide) rfl
      have hK9 := hK.sub (tys' := [(ca1, .byte)]) [0] rfl
      exact W.iret hx hb hr (fun t ht hW => ⟨⟨(l3_5), (), rfl, rfl, by rw [ht]; exact hP9, va_K.moved hW.alike hK9, hD9⟩, hS.F ht⟩) hS.2.2 dX9_behindBlanks_79
    · rw [if_neg c_1] at hsp
      refine lv_aload_n hx hb dX9_behindBlanks_10 rfl (lv_at hl 2 rfl) ?_
      refine lv_iload_n hx hb dX9_behindBlanks_11 rfl (lv_at hl 1 rfl) ?_
      obtain ⟨hi_2, hsp⟩ := ox_in hsp
      refine va_bald hx hb hK hP 0 0 rfl rfl (i := l3_5) hi_2 dX9_behindBlanks_12 ?_
      refine lv_istore (lv' := [(5, .int (fa1 (l3_5 : Int32).toNatClampNeg)), (4, .int l4_5), (3, .int l3_5), (0, .ref qa1), (1, .int l1_5), (2, .int l2_5)]) hx hb dX9_behindBlanks_13 hl (by decide) rfl (fun ls hl => ?_)
      refine lv_iload hx hb dX9_behindBlanks_15 (lv_at hl 0 rfl) ?_
      refine lv_bipush (v := 47) hx hb dX9_behindBlanks_17 (by decide) ?_
      refine lv_icmp_ne (tgt := 45) hx hb dX9_behindBlanks_19 (by decide) (fun c_3 => ?_) (fun c_3 => ?_)
      · rw [if_neg c_3] at hsp
        refine lv_iload hx hb dX9_behindBlanks_45 (lv_at hl 0 rfl) ?_
        refine lv_bipush (v := 10) hx hb dX9_behindBlanks_47 (by decide) ?_
        refine lv_icmp_ne (tgt := 58) hx hb dX9_behindBlanks_49 (by decide) (fun c_4 => ?_) (fun c_4 => ?_)
        · rw [if_neg c_4] at hsp
          refine lv_iload hx hb dX9_behindBlanks_58 (lv_at hl 0 rfl) ?_
          refine lv_bipush (v := 32) hx hb dX9_behindBlanks_60 (by decide) ?_
          refine lv_icmp_eq (tgt := 72) hx hb dX9_behindBlanks_62 (by decide) (fun c_5 => ?_) (fun c_5 => ?_)
          · rw [if_pos c_5] at hsp
            refine lv_iinc (v := (l3_5 + 1)) (lv' := [(3, .int (l3_5 + 1)), (5, .int (fa1 (l3_5 : Int32).toNatClampNeg)), (4, .int l4_5), (0, .ref qa1), (1, .int l1_5), (2, .int l2_5)]) hx hb dX9_behindBlanks_72 hl (k := 2) rfl rfl (by decide) rfl (fun ls hl => ?_)
            refine lv_goto (tgt := 5) hx hb dX9_behindBlanks_75 (by decide) ?_
            exact ih_5 H locs ls l1_5 l2_5 (l3_5 + 1) l4_5 (lv_sub hl [2, 0, 3, 4, 5] rfl) hS (hD.sub (ws' := [(qa1, .inl (ca1, na1, .inl fa1))]) [0] (by decide) rfl) (hP.sub (ws' := [(qa1, .inl (ca1, na1, .inl fa1))]) [0] rfl) hsp
          · rw [if_neg c_5] at hsp
            refine lv_iload hx hb dX9_behindBlanks_65 (lv_at hl 1 rfl) ?_
            refine lv_if_ne (tgt := 72) hx hb dX9_behindBlanks_67 (by decide) (fun c_6 => ?_) (fun c_6 => ?_)
            · rw [if_neg c_6] at hsp
              refine lv_iinc (v := (l3_5 + 1)) (lv' := [(3, .int (l3_5 + 1)), (5, .int (fa1 (l3_5 : Int32).toNatClampNeg)), (4, .int l4_5), (0, .ref qa1), (1, .int l1_5), (2, .int l2_5)]) hx hb dX9_behindBlanks_72 hl (k := 2) rfl rfl (by decide) rfl (fun ls hl => ?_)
              refine lv_goto (tgt := 5) hx hb dX9_behindBlanks_75 (by decide) ?_
              exact ih_5 H locs ls l1_5 l2_5 (l3_5 + 1) l4_5 (lv_sub hl [2, 0, 3, 4, 5] rfl) hS (hD.sub (ws' := [(qa1, .inl (ca1, na1, .inl fa1))]) [0] (by decide) rfl) (hP.sub (ws' := [(qa1, .inl (ca1, na1, .inl fa1))]) [0] rfl) hsp
            · rw [if_pos c_6] at hsp
              refine lv_iload_n hx hb dX9_behindBlanks_70 rfl (lv_at hl 2 rfl) ?_
              have hr0 := Option.some.inj hsp
              clear hsp
              subst hr0
              have hP9 := hP.sub (ws' := [(qa1, .inl (ca1, na1, .inl fa1))]) [0] rfl
              have hD9 := hD.sub (ws' := [(qa1, .inl (ca1, na1, .inl fa1))]) [0] (by decide) rfl
              have hK9 := hK.sub (tys' := [(ca1, .byte)]) [0] rfl
              exact W.iret hx hb hr (fun t ht hW => ⟨⟨(l3_5), (), rfl, rfl, by rw [ht]; exact hP9, va_K.moved hW.alike hK9, hD9⟩, hS.F ht⟩) hS.2.2 dX9_behindBlanks_71
        · rw [if_pos c_4] at hsp
          refine lv_iconst (v := 0) hx hb dX9_behindBlanks_52 (by decide) ?_
          refine lv_istore (lv' := [(4, .int 0), (5, .int (fa1 (l3_5 : Int32).toNatClampNeg)), (3, .int l3_5), (0, .ref qa1), (1, .int l1_5), (2, .int l2_5)]) hx hb dX9_behindBlanks_53 hl (by decide) rfl (fun ls hl => ?_)
          refine lv_goto (tgt := 72) hx hb dX9_behindBlanks_55 (by decide) ?_
          refine lv_iinc (v := (l3_5 + 1)) (lv' := [(3, .int (l3_5 + 1)), (4, .int 0), (5, .int (fa1 (l3_5 : Int32).toNatClampNeg)), (0, .ref qa1), (1, .int l1_5), (2, .int l2_5)]) hx hb dX9_behindBlanks_72 hl (k := 2) rfl rfl (by decide) rfl (fun ls hl => ?_)
          refine lv_goto (tgt := 5) hx hb dX9_behindBlanks_75 (by decide) ?_
          exact ih_5 H locs ls l1_5 l2_5 (l3_5 + 1) 0 (lv_sub hl [1, 0, 3, 4, 5] rfl) hS (hD.sub (ws' := [(qa1, .inl (ca1, na1, .inl fa1))]) [0] (by decide) rfl) (hP.sub (ws' := [(qa1, .inl (ca1, na1, .inl fa1))]) [0] rfl) hsp
      · rw [if_pos c_3] at hsp
        refine lv_iload_n hx hb dX9_behindBlanks_22 rfl (lv_at hl 2 rfl) ?_
        refine lv_iconst (v := 1) hx hb dX9_behindBlanks_23 (by decide) ?_
        refine lv_iadd hx hb dX9_behindBlanks_24 ?_
        refine lv_iload_n hx hb dX9_behindBlanks_25 rfl (lv_at hl 4 rfl) ?_
        refine lv_icmp_ge (tgt := 45) hx hb dX9_behindBlanks_26 (by decide) (fun c_7 => ?_) (fun c_7 => ?_)
        · rw [if_pos c_7] at hsp
          refine lv_iload hx hb dX9_behindBlanks_45 (lv_at hl 0 rfl) ?_
          refine lv_bipush (v := 10) hx hb dX9_behindBlanks_47 (by decide) ?_
          refine lv_icmp_ne (tgt := 58) hx hb dX9_behindBlanks_49 (by decide) (fun c_8 => ?_) (fun c_8 => ?_)
          · rw [if_neg c_8] at hsp
            refine lv_iload hx hb dX9_behindBlanks_58 (lv_at hl 0 rfl) ?_
            refine lv_bipush (v := 32) hx hb dX9_behindBlanks_60 (by decide) ?_
            refine lv_icmp_eq (tgt := 72) hx hb dX9_behindBlanks_62 (by decide) (fun c_9 => ?_) (fun c_9 => ?_)
            · rw [if_pos c_9] at hsp
              refine lv_iinc (v := (l3_5 + 1)) (lv' := [(3, .int (l3_5 + 1)), (5, .int (fa1 (l3_5 : Int32).toNatClampNeg)), (4, .int l4_5), (0, .ref qa1), (1, .int l1_5), (2, .int l2_5)]) hx hb dX9_behindBlanks_72 hl (k := 2) rfl rfl (by decide) rfl (fun ls hl => ?_)
              refine lv_goto (tgt := 5) hx hb dX9_behindBlanks_75 (by decide) ?_
              exact ih_5 H locs ls l1_5 l2_5 (l3_5 + 1) l4_5 (lv_sub hl [2, 0, 3, 4, 5] rfl) hS (hD.sub (ws' := [(qa1, .inl (ca1, na1, .inl fa1))]) [0] (by decide) rfl) (hP.sub (ws' := [(qa1, .inl (ca1, na1, .inl fa1))]) [0] rfl) hsp
            · rw [if_neg c_9] at hsp
              refine lv_iload hx hb dX9_behindBlanks_65 (lv_at hl 1 rfl) ?_
              refine lv_if_ne (tgt := 72) hx hb dX9_behindBlanks_67 (by decide) (fun c_10 => ?_) (fun c_10 => ?_)
              · rw [if_neg c_10] at hsp
                refine lv_iinc (v := (l3_5 + 1)) (lv' := [(3, .int (l3_5 + 1)), (5, .int (fa1 (l3_5 : Int32).toNatClampNeg)), (4, .int l4_5), (0, .ref qa1), (1, .int l1_5), (2, .int l2_5)]) hx hb dX9_behindBlanks_72 hl (k := 2) rfl rfl (by decide) rfl (fun ls hl => ?_)
                refine lv_goto (tgt := 5) hx hb dX9_behindBlanks_75 (by decide) ?_
                exact ih_5 H locs ls l1_5 l2_5 (l3_5 + 1) l4_5 (lv_sub hl [2, 0, 3, 4, 5] rfl) hS (hD.sub (ws' := [(qa1, .inl (ca1, na1, .inl fa1))]) [0] (by decide) rfl) (hP.sub (ws' := [(qa1, .inl (ca1, na1, .inl fa1))]) [0] rfl) hsp
              · rw [if_pos c_10] at hsp
                refine lv_iload_n hx hb dX9_behindBlanks_70 rfl (lv_at hl 2 rfl) ?_
                have hr0 := Option.some.inj hsp
                clear hsp
                subst hr0
                have hP9 := hP.sub (ws' := [(qa1, .inl (ca1, na1, .inl fa1))]) [0] rfl
                have hD9 := hD.sub (ws' := [(qa1, .inl (ca1, na1, .inl fa1))]) [0] (by decide) rfl
                have hK9 := hK.sub (tys' := [(ca1, .byte)]) [0] rfl
                exact W.iret hx hb hr (fun t ht hW => ⟨⟨(l3_5), (), rfl, rfl, by rw [ht]; exact hP9, va_K.moved hW.alike hK9, hD9⟩, hS.F ht⟩) hS.2.2 dX9_behindBlanks_71
          · rw [if_pos c_8] at hsp
            refine lv_iconst (v := 0) hx hb dX9_behindBlanks_52 (by decide) ?_
            refine lv_istore (lv' := [(4, .int 0), (5, .int (fa1 (l3_5 : Int32).toNatClampNeg)), (3, .int l3_5), (0, .ref qa1), (1, .int l1_5), (2, .int l2_5)]) hx hb dX9_behindBlanks_53 hl (by decide) rfl (fun ls hl => ?_)
            refine lv_goto (tgt := 72) hx hb dX9_behindBlanks_55 (by decide) ?_
            refine lv_iinc (v := (l3_5 + 1)) (lv' := [(3, .int (l3_5 + 1)), (4, .int 0), (5, .int (fa1 (l3_5 : Int32).toNatClampNeg)), (0, .ref qa1), (1, .int l1_5), (2, .int l2_5)]) hx hb dX9_behindBlanks_72 hl (k := 2) rfl rfl (by decide) rfl (fun ls hl => ?_)
            refine lv_goto (tgt := 5) hx hb dX9_behindBlanks_75 (by decide) ?_
            exact ih_5 H locs ls l1_5 l2_5 (l3_5 + 1) 0 (lv_sub hl [1, 0, 3, 4, 5] rfl) hS (hD.sub (ws' := [(qa1, .inl (ca1, na1, .inl fa1))]) [0] (by decide) rfl) (hP.sub (ws' := [(qa1, .inl (ca1, na1, .inl fa1))]) [0] rfl) hsp
        · rw [if_neg c_7] at hsp
          refine lv_aload_n hx hb dX9_behindBlanks_29 rfl (lv_at hl 3 rfl) ?_
          refine lv_iload_n hx hb dX9_behindBlanks_30 rfl (lv_at hl 2 rfl) ?_
          refine lv_iconst (v := 1) hx hb dX9_behindBlanks_31 (by decide) ?_
          refine lv_iadd hx hb dX9_behindBlanks_32 ?_
          obtain ⟨hi_11, hsp⟩ := ox_in hsp
          refine va_bald hx hb hK hP 0 0 rfl rfl (i := (l3_5 + 1)) hi_11 dX9_behindBlanks_33 ?_
          refine lv_bipush (v := 47) hx hb dX9_behindBlanks_34 (by decide) ?_
          refine lv_icmp_ne (tgt := 45) hx hb dX9_behindBlanks_36 (by decide) (fun c_12 => ?_) (fun c_12 => ?_)
          · rw [if_neg c_12] at hsp
            refine lv_iload hx hb dX9_behindBlanks_45 (lv_at hl 0 rfl) ?_
            refine lv_bipush (v := 10) hx hb dX9_behindBlanks_47 (by decide) ?_
            refine lv_icmp_ne (tgt := 58) hx hb dX9_behindBlanks_49 (by decide) (fun c_13 => ?_) (fun c_13 => ?_)
            · rw [if_neg c_13] at hsp
              refine lv_iload hx hb dX9_behindBlanks_58 (lv_at hl 0 rfl) ?_
              refine lv_bipush (v := 32) hx hb dX9_behindBlanks_60 (by decide) ?_
              refine lv_icmp_eq (tgt := 72) hx hb dX9_behindBlanks_62 (by decide) (fun c_14 => ?_) (fun c_14 => ?_)
              · rw [if_pos c_14] at hsp
                refine lv_iinc (v := (l3_5 + 1)) (lv' := [(3, .int (l3_5 + 1)), (5, .int (fa1 (l3_5 : Int32).toNatClampNeg)), (4, .int l4_5), (0, .ref qa1), (1, .int l1_5), (2, .int l2_5)]) hx hb dX9_behindBlanks_72 hl (k := 2) rfl rfl (by decide) rfl (fun ls hl => ?_)
                refine lv_goto (tgt := 5) hx hb dX9_behindBlanks_75 (by decide) ?_
                exact ih_5 H locs ls l1_5 l2_5 (l3_5 + 1) l4_5 (lv_sub hl [2, 0, 3, 4, 5] rfl) hS (hD.sub (ws' := [(qa1, .inl (ca1, na1, .inl fa1))]) [0] (by decide) rfl) (hP.sub (ws' := [(qa1, .inl (ca1, na1, .inl fa1))]) [0] rfl) hsp
              · rw [if_neg c_14] at hsp
                refine lv_iload hx hb dX9_behindBlanks_65 (lv_at hl 1 rfl) ?_
                refine lv_if_ne (tgt := 72) hx hb dX9_behindBlanks_67 (by decide) (fun c_15 => ?_) (fun c_15 => ?_)
                · rw [if_neg c_15] at hsp
                  refine lv_iinc (v := (l3_5 + 1)) (lv' := [(3, .int (l3_5 + 1)), (5, .int (fa1 (l3_5 : Int32).toNatClampNeg)), (4, .int l4_5), (0, .ref qa1), (1, .int l1_5), (2, .int l2_5)]) hx hb dX9_behindBlanks_72 hl (k := 2) rfl rfl (by decide) rfl (fun ls hl => ?_)
                  refine lv_goto (tgt := 5) hx hb dX9_behindBlanks_75 (by decide) ?_
                  exact ih_5 H locs ls l1_5 l2_5 (l3_5 + 1) l4_5 (lv_sub hl [2, 0, 3, 4, 5] rfl) hS (hD.sub (ws' := [(qa1, .inl (ca1, na1, .inl fa1))]) [0] (by decide) rfl) (hP.sub (ws' := [(qa1, .inl (ca1, na1, .inl fa1))]) [0] rfl) hsp
                · rw [if_pos c_15] at hsp
                  refine lv_iload_n hx hb dX9_behindBlanks_70 rfl (lv_at hl 2 rfl) ?_
                  have hr0 := Option.some.inj hsp
                  clear hsp
                  subst hr0
                  have hP9 := hP.sub (ws' := [(qa1, .inl (ca1, na1, .inl fa1))]) [0] rfl
                  have hD9 := hD.sub (ws' := [(qa1, .inl (ca1, na1, .inl fa1))]) [0] (by decide) rfl
                  have hK9 := hK.sub (tys' := [(ca1, .byte)]) [0] rfl
                  exact W.iret hx hb hr (fun t ht hW => ⟨⟨(l3_5), (), rfl, rfl, by rw [ht]; exact hP9, va_K.moved hW.alike hK9, hD9⟩, hS.F ht⟩) hS.2.2 dX9_behindBlanks_71
            · rw [if_pos c_13] at hsp
              refine lv_iconst (v := 0) hx hb dX9_behindBlanks_52 (by decide) ?_
              refine lv_istore (lv' := [(4, .int 0), (5, .int (fa1 (l3_5 : Int32).toNatClampNeg)), (3, .int l3_5), (0, .ref qa1), (1, .int l1_5), (2, .int l2_5)]) hx hb dX9_behindBlanks_53 hl (by decide) rfl (fun ls hl => ?_)
              refine lv_goto (tgt := 72) hx hb dX9_behindBlanks_55 (by decide) ?_
              refine lv_iinc (v := (l3_5 + 1)) (lv' := [(3, .int (l3_5 + 1)), (4, .int 0), (5, .int (fa1 (l3_5 : Int32).toNatClampNeg)), (0, .ref qa1), (1, .int l1_5), (2, .int l2_5)]) hx hb dX9_behindBlanks_72 hl (k := 2) rfl rfl (by decide) rfl (fun ls hl => ?_)
              refine lv_goto (tgt := 5) hx hb dX9_behindBlanks_75 (by decide) ?_
              exact ih_5 H locs ls l1_5 l2_5 (l3_5 + 1) 0 (lv_sub hl [1, 0, 3, 4, 5] rfl) hS (hD.sub (ws' := [(qa1, .inl (ca1, na1, .inl fa1))]) [0] (by decide) rfl) (hP.sub (ws' := [(qa1, .inl (ca1, na1, .inl fa1))]) [0] rfl) hsp
          · rw [if_pos c_12] at hsp
            refine lv_iconst (v := 1) hx hb dX9_behindBlanks_39 (by decide) ?_
            refine lv_istore (lv' := [(4, .int 1), (5, .int (fa1 (l3_5 : Int32).toNatClampNeg)), (3, .int l3_5), (0, .ref qa1), (1, .int l1_5), (2, .int l2_5)]) hx hb dX9_behindBlanks_40 hl (by decide) rfl (fun ls hl => ?_)
            refine lv_goto (tgt := 72) hx hb dX9_behindBlanks_42 (by decide) ?_
            refine lv_iinc (v := (l3_5 + 1)) (lv' := [(3, .int (l3_5 + 1)), (4, .int 1), (5, .int (fa1 (l3_5 : Int32).toNatClampNeg)), (0, .ref qa1), (1, .int l1_5), (2, .int l2_5)]) hx hb dX9_behindBlanks_72 hl (k := 2) rfl rfl (by decide) rfl (fun ls hl => ?_)
            refine lv_goto (tgt := 5) hx hb dX9_behindBlanks_75 (by decide) ?_
            exact ih_5 H locs ls l1_5 l2_5 (l3_5 + 1) 1 (lv_sub hl [1, 0, 3, 4, 5] rfl) hS (hD.sub (ws' := [(qa1, .inl (ca1, na1, .inl fa1))]) [0] (by decide) rfl) (hP.sub (ws' := [(qa1, .inl (ca1, na1, .inl fa1))]) [0] rfl) hsp
def sp_t9_isLetter (nf : Nat) (a1 : Int32) : Option (Int32) := (if a1 < 97 then (if a1 < 65 then (some 0) else (if 90 < a1 then (some 0) else (some 1))) else (if a1 ≤ 122 then (some 1) else (if a1 < 65 then (some 0) else (if 90 < a1 then (some 0) else (some 1)))))
set_option maxHeartbeats 4000000 in
set_option maxRecDepth 100000 in
/-- ClassMill$Text.isLetter -/
theorem t9_isLetter (l : Launch) (dC : Nat → ClassId) (dI : Nat → Nat → Nat) (sz : Nat) (a1 : Int32) (nf : Nat) (r0 : Int32) (hsp : sp_t9_isLetter nf a1 = some r0) : Met l yX9_isLetter (.code yX9_isLetter cX9_isLetter 1 (some .boolean) :: VS_h4) ({ frames := 0, cells := 0, slots := 0, locals := 0 }) (va_Pc [.int a1] (fun U => U.heap.size = sz ∧ va_P (dC, dI) vwCl [] U.heap ∧ va_K (dC, dI) vwCl [] U ∧ va_D (fun _ => True) [])) (va_Qi (fun (r : Int32) (u : Unit) => match u with | () => r0 = r ∧ (r0 = 0 ∨ r0 = 1)) (fun (u : Unit) (t : State) => match u with | () => va_P (dC, dI) vwCl [] t.heap ∧ va_K (dC, dI) vwCl [] t ∧ va_D (va_A [] sz) []) (va_A [] sz)) 0 0 (va_A [] sz) := by
  refine Met.ofW (cc := cX9_isLetter) (maxL := 1) (ret := (some .boolean)) (by decide) rfl ?_
  intro p e s m args below meth c s₁ B hml hv
  obtain ⟨rfl, hsz, hP, hK, hD0⟩ := hv
  have hx := B.exec
  have hb := B.bytes
  have hr := B.returns
  have hts := atoms_spec (ws := (.code yX9_isLetter cX9_isLetter 1 (some .boolean) :: VS_h4)) B.pre
  replace hts := fun w (h : w ∈ VS_h4) => hts w (List.mem_cons_of_mem _ h)
  have hown : s.vm.findClass RX9 = some m.cls := findClass_of_methodNamed B.named
  have hlocks := B.notSynchronized
  subst hsz
  have hD := hD0.self (sz := s.heap.size)
  generalize hAe : va_A [] s.heap.size = A at hD  ⊢
  have hA : ∀ q : Nat, s.heap.size ≤ q → A q := fun q h => by rw [← hAe]; exact Or.inr h
  have hP : va_P (dC, dI) vwCl [] s.heap := hP
  have hl := lv_entry ([.int a1]) (n := 1) (Nat.le_of_ble_eq_true rfl)
  rw [lg_entry_eq]
  generalize (lg_sl ([.int a1]) ++ List.replicate (1 - (lg_sl ([.int a1])).length) Slot.unset).toArray = ls at hl ⊢
  have hl : lv_has ls 1 [(0, .int a1)] := hl
  obtain ⟨H, hH⟩ : ∃ H : Heap, s.heap = H := ⟨_, rfl⟩
  rw [hH] at hP ⊢
  have hS : va_S A s.heap H [] := by rw [← hH]; exact va_S.rf
  obtain ⟨locs, hlo⟩ : ∃ locs : List Loc, locs = [] := ⟨_, rfl⟩
  rw [← hlo] at hS ⊢
  unfold sp_t9_isLetter at hsp
  refine lv_iload_n hx hb dX9_isLetter_0 rfl (lv_at hl 0 rfl) ?_
  refine lv_bipush (v := 97) hx hb dX9_isLetter_1 (by decide) ?_
  refine lv_icmp_lt (tgt := 12) hx hb dX9_isLetter_3 (by decide) (fun c_1 => ?_) (fun c_1 => ?_)
  · rw [if_pos c_1] at hsp
    refine lv_iload_n hx hb dX9_isLetter_12 rfl (lv_at hl 0 rfl) ?_
    refine lv_bipush (v := 65) hx hb dX9_isLetter_13 (by decide) ?_
    refine lv_icmp_lt (tgt := 28) hx hb dX9_isLetter_15 (by decide) (fun c_2 => ?_) (fun c_2 => ?_)
    · rw [if_pos c_2] at hsp
      refine lv_iconst (v := 0) hx hb dX9_isLetter_28 (by decide) ?_
      have hr0 := Option.some.inj hsp
      clear hsp
      subst hr0
      have hP9 := hP.sub (ws' := []) [] rfl
      have hD9 := hD.sub (ws' := []) [] (by decide) rfl
      have hK9 := hK.sub (tys' := []) [] rfl
      exact W.zret hx hb hr (by decide) (fun t ht hW => ⟨⟨(0), (), rfl, ⟨rfl, Or.inl rfl⟩, by rw [ht]; exact hP9, va_K.moved hW.alike hK9, hD9⟩, hS.F ht⟩) hS.2.2 dX9_isLetter_29
    · rw [if_neg c_2] at hsp
      refine lv_iload_n hx hb dX9_isLetter_18 rfl (lv_at hl 0 rfl) ?_
      refine lv_bipush (v := 90) hx hb dX9_isLetter_19 (by decide) ?_
      refine lv_icmp_gt (tgt := 28) hx hb dX9_isLetter_21 (by decide) (fun c_3 => ?_) (fun c_3 => ?_)
      · rw [if_pos c_3] at hsp
        refine lv_iconst (v := 0) hx hb dX9_isLetter_28 (by decide) ?_
        have hr0 := Option.some.inj hsp
        clear hsp
        subst hr0
        have hP9 := hP.sub (ws' := []) [] rfl
        have hD9 := hD.sub (ws' := []) [] (by decide) rfl
        have hK9 := hK.sub (tys' := []) [] rfl
        exact W.zret hx hb hr (by decide) (fun t ht hW => ⟨⟨(0), (), rfl, ⟨rfl, Or.inl rfl⟩, by rw [ht]; exact hP9, va_K.moved hW.alike hK9, hD9⟩, hS.F ht⟩) hS.2.2 dX9_isLetter_29
      · rw [if_neg c_3] at hsp
        refine lv_iconst (v := 1) hx hb dX9_isLetter_24 (by decide) ?_
        refine lv_goto (tgt := 29) hx hb dX9_isLetter_25 (by decide) ?_
        have hr0 := Option.some.inj hsp
        clear hsp
        subst hr0
        have hP9 := hP.sub (ws' := []) [] rfl
        have hD9 := hD.sub (ws' := []) [] (by decide) rfl
        have hK9 := hK.sub (tys' := []) [] rfl
        exact W.zret hx hb hr (by decide) (fun t ht hW => ⟨⟨(1), (), rfl, ⟨rfl, Or.inr rfl⟩, by rw [ht]; exact hP9, va_K.moved hW.alike hK9, hD9⟩, hS.F ht⟩) hS.2.2 dX9_isLetter_29
  · rw [if_neg c_1] at hsp
    refine lv_iload_n hx hb dX9_isLetter_6 rfl (lv_at hl 0 rfl) ?_
    refine lv_bipush (v := 122) hx hb dX9_isLetter_7 (by decide) ?_
    refine lv_icmp_le (tgt := 24) hx hb dX9_isLetter_9 (by decide) (fun c_4 => ?_) (fun c_4 => ?_)
    · rw [if_pos c_4] at hsp
      refine lv_iconst (v := 1) hx hb dX9_isLetter_24 (by decide) ?_
      refine lv_goto (tgt := 29) hx hb dX9_isLetter_25 (by decide) ?_
      have hr0 := Option.some.inj hsp
      clear hsp
      subst hr0
      have hP9 := hP.sub (ws' := []) [] rfl
      have hD9 := hD.sub (ws' := []) [] (by decide) rfl
      have hK9 := hK.sub (tys' := []) [] rfl
      exact W.zret hx hb hr (by decide) (fun t ht hW => ⟨⟨(1), (), rfl, ⟨rfl, Or.inr rfl⟩, by rw [ht]; exact hP9, va_K.moved hW.alike hK9, hD9⟩, hS.F ht⟩) hS.2.2 dX9_isLetter_29
    · rw [if_neg c_4] at hsp
      refine lv_iload_n hx hb dX9_isLetter_12 rfl (lv_at hl 0 rfl) ?_
      refine lv_bipush (v := 65) hx hb dX9_isLetter_13 (by decide) ?_
      refine lv_icmp_lt (tgt := 28) hx hb dX9_isLetter_15 (by decide) (fun c_5 => ?_) (fun c_5 => ?_)
      · rw [if_pos c_5] at hsp
        refine lv_iconst (v := 0) hx hb dX9_isLetter_28 (by decide) ?_
        have hr0 := Option.some.inj hsp
        clear hsp
        subst hr0
        have hP9 := hP.sub (ws' := []) [] rfl
        have hD9 := hD.sub (ws' := []) [] (by decide) rfl
        have hK9 := hK.sub (tys' := []) [] rfl
        exact W.zret hx hb hr (by decide) (fun t ht hW => ⟨⟨(0), (), rfl, ⟨rfl, Or.inl rfl⟩, by rw [ht]; exact hP9, va_K.moved hW.alike hK9, hD9⟩, hS.F ht⟩) hS.2.2 dX9_isLetter_29
      · rw [if_neg c_5] at hsp
        refine lv_iload_n hx hb dX9_isLetter_18 rfl (lv_at hl 0 rfl) ?_
        refine lv_bipush (v := 90) hx hb dX9_isLetter_19 (by decide) ?_
        refine lv_icmp_gt (tgt := 28) hx hb dX9_isLetter_21 (by decide) (fun c_6 => ?_) (fun c_6 => ?_)
        · rw [if_pos c_6] at hsp
          refine lv_iconst (v := 0) hx hb dX9_isLetter_28 (by decide) ?_
          have hr0 := Option.some.inj hsp
          clear hsp
          subst hr0
          have hP9 := hP.sub (ws' := []) [] rfl
          have hD9 := hD.sub (ws' := []) [] (by decide) rfl
          have hK9 := hK.sub (tys' := []) [] rfl
          exact W.zret hx hb hr (by decide) (fun t ht hW => ⟨⟨(0), (), rfl, ⟨rfl, Or.inl rfl⟩, by rw [ht]; exact hP9, va_K.moved hW.alike hK9, hD9⟩, hS.F ht⟩) hS.2.2 dX9_isLetter_29
        · rw [if_neg c_6] at hsp
          refine lv_iconst (v := 1) hx hb dX9_isLetter_24 (by decide) ?_
          refine lv_goto (tgt := 29) hx hb dX9_isLetter_25 (by decide) ?_
          have hr0 := Option.some.inj hsp
          clear hsp
          subst hr0
          have hP9 := hP.sub (ws' := []) [] rfl
          have hD9 := hD.sub (ws' := []) [] (by decide) rfl
          have hK9 := hK.sub (tys' := []) [] rfl
          exact W.zret hx hb hr (by decide) (fun t ht hW => ⟨⟨(1), (), rfl, ⟨rfl, Or.inr rfl⟩, by rw [ht]; exact hP9, va_K.moved hW.alike hK9, hD9⟩, hS.F ht⟩) hS.2.2 dX9_isLetter_29
def sp_t9_isDigit (nf : Nat) (a1 : Int32) : Option (Int32) := (if a1 < 48 then (some 0) else (if 57 < a1 then (some 0) else (some 1)))
set_option maxHeartbeats 4000000 in
set_option maxRecDepth 100000 in
/-- ClassMill$Text.isDigit -/
theorem t9_isDigit (l : Launch) (dC : Nat → ClassId) (dI : Nat → Nat → Nat) (sz : Nat) (a1 : Int32) (nf : Nat) (r0 : Int32) (hsp : sp_t9_isDigit nf a1 = some r0) : Met l yX9_isDigit (.code yX9_isDigit cX9_isDigit 1 (some .boolean) :: VS_h4) ({ frames := 0, cells := 0, slots := 0, locals := 0 }) (va_Pc [.int a1] (fun U => U.heap.size = sz ∧ va_P (dC, dI) vwCl [] U.heap ∧ va_K (dC, dI) vwCl [] U ∧ va_D (fun _ => True) [])) (va_Qi (fun (r : Int32) (u : Unit) => match u with | () => r0 = r ∧ (r0 = 0 ∨ r0 = 1)) (fun (u : Unit) (t : State) => match u with | () => va_P (dC, dI) vwCl [] t.heap ∧ va_K (dC, dI) vwCl [] t ∧ va_D (va_A [] sz) []) (va_A [] sz)) 0 0 (va_A [] sz) := by
  refine Met.ofW (cc := cX9_isDigit) (maxL := 1) (ret := (some .boolean)) (by decide) rfl ?_
  intro p e s m args below meth c s₁ B hml hv
  obtain ⟨rfl, hsz, hP, hK, hD0⟩ := hv
  have hx := B.exec
  have hb := B.bytes
  have hr := B.returns
  have hts := atoms_spec (ws := (.code yX9_isDigit cX9_isDigit 1 (some .boolean) :: VS_h4)) B.pre
  replace hts := fun w (h : w ∈ VS_h4) => hts w (List.mem_cons_of_mem _ h)
  have hown : s.vm.findClass RX9 = some m.cls := findClass_of_methodNamed B.named
  have hlocks := B.notSynchronized
  subst hsz
  have hD := hD0.self (sz := s.heap.size)
  generalize hAe : va_A [] s.heap.size = A at hD  ⊢
  have hA : ∀ q : Nat, s.heap.size ≤ q → A q := fun q h => by rw [← hAe]; exact Or.inr h
  have hP : va_P (dC, dI) vwCl [] s.heap := hP
  have hl := lv_entry ([.int a1]) (n := 1) (Nat.le_of_ble_eq_true rfl)
  rw [lg_entry_eq]
  generalize (lg_sl ([.int a1]) ++ List.replicate (1 - (lg_sl ([.int a1])).length) Slot.unset).toArray = ls at hl ⊢
  have hl : lv_has ls 1 [(0, .int a1)] := hl
  obtain ⟨H, hH⟩ : ∃ H : Heap, s.heap = H := ⟨_, rfl⟩
  rw [hH] at hP ⊢
  have hS : va_S A s.heap H [] := by rw [← hH]; exact va_S.rf
  obtain ⟨locs, hlo⟩ : ∃ locs : List Loc, locs = [] := ⟨_, rfl⟩
  rw [← hlo] at hS ⊢
  unfold sp_t9_isDigit at hsp
  refine lv_iload_n hx hb dX9_isDigit_0 rfl (lv_at hl 0 rfl) ?_
  refine lv_bipush (v := 48) hx hb dX9_isDigit_1 (by decide) ?_
  refine lv_icmp_lt (tgt := 16) hx hb dX9_isDigit_3 (by decide) (fun c_1 => ?_) (fun c_1 => ?_)
  · rw [if_pos c_1] at hsp
    refine lv_iconst (v := 0) hx hb dX9_isDigit_16 (by decide) ?_
    have hr0 := Option.some.inj hsp
    clear hsp
    subst hr0
    have hP9 := hP.sub (ws' := []) [] rfl
    have hD9 := hD.sub (ws' := []) [] (by decide) rfl
    have hK9 := hK.sub (tys' := []) [] rfl
    exact W.zret hx hb hr (by decide) (fun t ht hW => ⟨⟨(0), (), rfl, ⟨rfl, Or.inl rfl⟩, by rw [ht]; exact hP9, va_K.moved hW.alike hK9, hD9⟩, hS.F ht⟩) hS.2.2 dX9_isDigit_17
  · rw [if_neg c_1] at hsp
    refine lv_iload_n hx hb dX9_isDigit_6 rfl (lv_at hl 0 rfl) ?_
    refine lv_bipush (v := 57) hx hb dX9_isDigit_7 (by decide) ?_
    refine lv_icmp_gt (tgt := 16) hx hb dX9_isDigit_9 (by decide) (fun c_2 => ?_) (fun c_2 => ?_)
    · rw [if_pos c_2] at hsp
      refine lv_iconst (v := 0) hx hb dX9_isDigit_16 (by decide) ?_
      have hr0 := Option.some.inj hsp
      clear hsp
      subst hr0
      have hP9 := hP.sub (ws' := []) [] rfl
      have hD9 := hD.sub (ws' := []) [] (by decide) rfl
      have hK9 := hK.sub (tys' := []) [] rfl
      exact W.zret hx hb hr (by decide) (fun t ht hW => ⟨⟨(0), (), rfl, ⟨rfl, Or.inl rfl⟩, by rw [ht]; exact hP9, va_K.moved hW.alike hK9, hD9⟩, hS.F ht⟩) hS.2.2 dX9_isDigit_17
    · rw [if_neg c_2] at hsp
      refine lv_iconst (v := 1) hx hb dX9_isDigit_12 (by decide) ?_
      refine lv_goto (tgt := 17) hx hb dX9_isDigit_13 (by decide) ?_
      have hr0 := Option.some.inj hsp
      clear hsp
      subst hr0
      have hP9 := hP.sub (ws' := []) [] rfl
      have hD9 := hD.sub (ws' := []) [] (by decide) rfl
      have hK9 := hK.sub (tys' := []) [] rfl
      exact W.zret hx hb hr (by decide) (fun t ht hW => ⟨⟨(1), (), rfl, ⟨rfl, Or.inr rfl⟩, by rw [ht]; exact hP9, va_K.moved hW.alike hK9, hD9⟩, hS.F ht⟩) hS.2.2 dX9_isDigit_17
def sp_t9_isNamePart (nf : Nat) (a1 : Int32) : Option (Int32) := ((sp_t9_isLetter nf a1).bind (fun p1 => (if p1 = 0 then ((sp_t9_isDigit nf a1).bind (fun p2 => (if p2 = 0 then (if a1 = 95 then (some 1) else (some 0)) else (some 1)))) else (some 1))))
set_option maxHeartbeats 4000000 in
set_option maxRecDepth 100000 in
/-- ClassMill$Text.isNamePart -/
theorem t9_isNamePart (l : Launch) (dC : Nat → ClassId) (dI : Nat → Nat → Nat) (sz : Nat) (a1 : Int32) (nf : Nat) (r0 : Int32) (hsp : sp_t9_isNamePart nf a1 = some r0) : Met l yX9_isNamePart (.code yX9_isNamePart cX9_isNamePart 1 (some .boolean) :: VS_h4) ({ frames := 1, cells := 0, slots := 0, locals := 20 }) (va_Pc [.int a1] (fun U => U.heap.size = sz ∧ va_P (dC, dI) vwCl [] U.heap ∧ va_K (dC, dI) vwCl [] U ∧ va_D (fun _ => True) [])) (va_Qi (fun (r : Int32) (u : Unit) => match u with | () => r0 = r ∧ (r0 = 0 ∨ r0 = 1)) (fun (u : Unit) (t : State) => match u with | () => va_P (dC, dI) vwCl [] t.heap ∧ va_K (dC, dI) vwCl [] t ∧ va_D (va_A [] sz) []) (va_A [] sz)) 0 0 (va_A [] sz) := by
  refine Met.ofW (cc := cX9_isNamePart) (maxL := 1) (ret := (some .boolean)) (by decide) rfl ?_
  intro p e s m args below meth c s₁ B hml hv
  obtain ⟨rfl, hsz, hP, hK, hD0⟩ := hv
  have hx := B.exec
  have hb := B.bytes
  have hr := B.returns
  have hts := atoms_spec (ws := (.code yX9_isNamePart cX9_isNamePart 1 (some .boolean) :: VS_h4)) B.pre
  replace hts := fun w (h : w ∈ VS_h4) => hts w (List.mem_cons_of_mem _ h)
  have hown : s.vm.findClass RX9 = some m.cls := findClass_of_methodNamed B.named
  have hlocks := B.notSynchronized
  subst hsz
  have hD := hD0.self (sz := s.heap.size)
  generalize hAe : va_A [] s.heap.size = A at hD  ⊢
  have hA : ∀ q : Nat, s.heap.size ≤ q → A q := fun q h => by rw [← hAe]; exact Or.inr h
  have hP : va_P (dC, dI) vwCl [] s.heap := hP
  have hl := lv_entry ([.int a1]) (n := 1) (Nat.le_of_ble_eq_true rfl)
  rw [lg_entry_eq]
  generalize (lg_sl ([.int a1]) ++ List.replicate (1 - (lg_sl ([.int a1])).length) Slot.unset).toArray = ls at hl ⊢
  have hl : lv_has ls 1 [(0, .int a1)] := hl
  obtain ⟨H, hH⟩ : ∃ H : Heap, s.heap = H := ⟨_, rfl⟩
  rw [hH] at hP ⊢
  have hS : va_S A s.heap H [] := by rw [← hH]; exact va_S.rf
  obtain ⟨locs, hlo⟩ : ∃ locs : List Loc, locs = [] := ⟨_, rfl⟩
  rw [← hlo] at hS ⊢
  unfold sp_t9_isNamePart at hsp
  refine lv_iload_n hx hb dX9_isNamePart_0 rfl (lv_at hl 0 rfl) ?_
  obtain ⟨u1_0, hu_1, hsp⟩ := ox_bind hsp
  try dsimp only at hsp
  have hPc := hP.sub (ws' := []) [] rfl
  have hDc := hD.sub (ws' := []) [] (by decide) rfl
  have hKc := hK.sub (tys' := []) [] rfl
  have hFc := va_free (wc := []) hD hS hA [] rfl
  refine va_calli (va_runS (As := [.int a1]) (rest := []) ⟨hx, hb, hml, hown, hts⟩ (t9_isLetter l dC dI H.size a1 nf u1_0 hu_1) (va_cwS 1 hts gv_h4_1 rfl rfl rfl (by decide +kernel) ⟨Nat.le_of_ble_eq_true rfl, Nat.le_of_ble_eq_true rfl⟩) ⟨fun a U g mk q => by obtain ⟨q0, q1, qP, qK, qD⟩ := q; exact ⟨q0, q1, qP, va_K.moved (u := U) (U := U.calling g mk a) (Vm.Alike.refl U.vm) qK, qD⟩, fun U hU hW => ⟨rfl, by rw [hU], by rw [hU]; exact hPc, va_K.moved hW.alike hKc, hDc.weaken (fun _ _ _ _ => trivial)⟩⟩ rfl rfl hl.1 rfl (lv_room (Nat.le_of_ble_eq_true rfl)) dX9_isNamePart_1 ⟨Nat.le_of_ble_eq_true rfl, Nat.le_of_ble_eq_true rfl⟩) hS (fun q _ h => hFc q h) hFc ?_
  clear hS
  intro r_1 u t H1 locs ht hvm hw hB hz1 hk1 hS
  obtain ⟨⟩ := u
  obtain ⟨hP1, hK1, hD1⟩ := hB
  rw [ht] at hP1
  have hK1 := va_K.moved hvm.symm hK1
  try dsimp only at hw
  have hPD := va_join (wr := []) (w1 := []) hP hD [] [] rfl rfl (by decide) (by decide) hk1 hFc hP1 hD1
  clear hP hD
  obtain ⟨hP, hD⟩ := hPD
  replace hK := (hK.sub (tys' := []) [] rfl).app hK1
  clear hPc hDc hKc hFc hP1 hK1 hD1 hz1 hk1 ht hvm
  generalize H1 = H at hP hS ⊢
  replace hP : va_P (dC, dI) vwCl [] H := hP
  replace hD : va_D A [] := hD
  replace hK : va_K (dC, dI) vwCl [] s := hK
  obtain ⟨rfl, hz_1⟩ := hw
  rcases hz_1 with rfl | rfl
  · rw [if_pos rfl] at hsp
    refine lv_if_ne (tgt := 20) hx hb dX9_isNamePart_4 (by decide) (fun c_2 => (show False by revert c_2; decide).elim) (fun c_2 => ?_)
    refine lv_iload_n hx hb dX9_isNamePart_7 rfl (lv_at hl 0 rfl) ?_
    obtain ⟨u2_0, hu_2, hsp⟩ := ox_bind hsp
    try dsimp only at hsp
    have hPc := hP.sub (ws' := []) [] rfl
    have hDc := hD.sub (ws' := []) [] (by decide) rfl
    have hKc := hK.sub (tys' := []) [] rfl
    have hFc := va_free (wc := []) hD hS hA [] rfl
    refine va_calli (va_runS (As := [.int a1]) (rest := []) ⟨hx, hb, hml, hown, hts⟩ (t9_isDigit l dC dI H.size a1 nf u2_0 hu_2) (va_cwS 1 hts gv_h4_2 rfl rfl rfl (by decide +kernel) ⟨Nat.le_of_ble_eq_true rfl, Nat.le_of_ble_eq_true rfl⟩) ⟨fun a U g mk q => by obtain ⟨q0, q1, qP, qK, qD⟩ := q; exact ⟨q0, q1, qP, va_K.moved (u := U) (U := U.calling g mk a) (Vm.Alike.refl U.vm) qK, qD⟩, fun U hU hW => ⟨rfl, by rw [hU], by rw [hU]; exact hPc, va_K.moved hW.alike hKc, hDc.weaken (fun _ _ _ _ => trivial)⟩⟩ rfl rfl hl.1 rfl (lv_room (Nat.le_of_ble_eq_true rfl)) dX9_isNamePart_8 ⟨Nat.le_of_ble_eq_true rfl, Nat.le_of_ble_eq_true rfl⟩) hS (fun q _ h => hFc q h) hFc ?_
    clear hS
    intro r_3 u t H1 locs ht hvm hw hB hz1 hk1 hS
    obtain ⟨⟩ := u
    obtain ⟨hP1, hK1, hD1⟩ := hB
    rw [ht] at hP1
    have hK1 := va_K.moved hvm.symm hK1
    try dsimp only at hw
    have hPD := va_join (wr := []) (w1 := []) hP hD [] [] rfl rfl (by decide) (by decide) hk1 hFc hP1 hD1
    clear hP hD
    obtain ⟨hP, hD⟩ := hPD
    replace hK := (hK.sub (tys' := []) [] rfl).app hK1
    clear hPc hDc hKc hFc hP1 hK1 hD1 hz1 hk1 ht hvm
    generalize H1 = H at hP hS ⊢
    replace hP : va_P (dC, dI) vwCl [] H := hP
    replace hD : va_D A [] := hD
    replace hK : va_K (dC, dI) vwCl [] s := hK
    obtain ⟨rfl, hz_2⟩ := hw
    rcases hz_2 with rfl | rfl
    · rw [if_pos rfl] at hsp
      refine lv_if_ne (tgt := 20) hx hb dX9_isNamePart_11 (by decide) (fun c_4 => (show False by revert c_4; decide).elim) (fun c_4 => ?_)
      refine lv_iload_n hx hb dX9_isNamePart_14 rfl (lv_at hl 0 rfl) ?_
      refine lv_bipush (v := 95) hx hb dX9_isNamePart_15 (by decide) ?_
      refine lv_icmp_ne (tgt := 24) hx hb dX9_isNamePart_17 (by decide) (fun c_5 => ?_) (fun c_5 => ?_)
      · rw [if_neg c_5] at hsp
        refine lv_iconst (v := 0) hx hb dX9_isNamePart_24 (by decide) ?_
        have hr0 := Option.some.inj hsp
        clear hsp
        subst hr0
        have hP9 := hP.sub (ws' := []) [] rfl
        have hD9 := hD.sub (ws' := []) [] (by decide) rfl
        have hK9 := hK.sub (tys' := []) [] rfl
        exact W.zret hx hb hr (by decide) (fun t ht hW => ⟨⟨(0), (), rfl, ⟨rfl, Or.inl rfl⟩, by rw [ht]; exact hP9, va_K.moved hW.alike hK9, hD9⟩, hS.F ht⟩) hS.2.2 dX9_isNamePart_25
      · rw [if_pos c_5] at hsp
        refine lv_iconst (v := 1) hx hb dX9_isNamePart_20 (by decide) ?_
        refine lv_goto (tgt := 25) hx hb dX9_isNamePart_21 (by decide) ?_
        have hr0 := Option.some.inj hsp
        clear hsp
        subst hr0
        have hP9 := hP.sub (ws' := []) [] rfl
        have hD9 := hD.sub (ws' := []) [] (by decide) rfl
        have hK9 := hK.sub (tys' := []) [] rfl
        exact W.zret hx hb hr (by decide) (fun t ht hW => ⟨⟨(1), (), rfl, ⟨rfl, Or.inr rfl⟩, by rw [ht]; exact hP9, va_K.moved hW.alike hK9, hD9⟩, hS.F ht⟩) hS.2.2 dX9_isNamePart_25
    · rw [if_neg (by decide)] at hsp
      refine lv_if_ne (tgt := 20) hx hb dX9_isNamePart_11 (by decide) (fun c_6 => ?_) (fun c_6 => (show False by revert c_6; decide).elim)
      refine lv_iconst (v := 1) hx hb dX9_isNamePart_20 (by decide) ?_
      refine lv_goto (tgt := 25) hx hb dX9_isNamePart_21 (by decide) ?_
      have hr0 := Option.some.inj hsp
      clear hsp
      subst hr0
      have hP9 := hP.sub (ws' := []) [] rfl
      have hD9 := hD.sub (ws' := []) [] (by decide) rfl
      have hK9 := hK.sub (tys' := []) [] rfl
      exact W.zret hx hb hr (by decide) (fun t ht hW => ⟨⟨(1), (), rfl, ⟨rfl, Or.inr rfl⟩, by rw [ht]; exact hP9, va_K.moved hW.alike hK9, hD9⟩, hS.F ht⟩) hS.2.2 dX9_isNamePart_25
  · rw [if_neg (by decide)] at hsp
    refine lv_if_ne (tgt := 20) hx hb dX9_isNamePart_4 (by decide) (fun c_7 => ?_) (fun c_7 => (show False by revert c_7; decide).elim)
    refine lv_iconst (v := 1) hx hb dX9_isNamePart_20 (by decide) ?_
    refine lv_goto (tgt := 25) hx hb dX9_isNamePart_21 (by decide) ?_
    have hr0 := Option.some.inj hsp
    clear hsp
    subst hr0
    have hP9 := hP.sub (ws' := []) [] rfl
    have hD9 := hD.sub (ws' := []) [] (by decide) rfl
    have hK9 := hK.sub (tys' := []) [] rfl
    exact W.zret hx hb hr (by decide) (fun t ht hW => ⟨⟨(1), (), rfl, ⟨rfl, Or.inr rfl⟩, by rw [ht]; exact hP9, va_K.moved hW.alike hK9, hD9⟩, hS.F ht⟩) hS.2.2 dX9_isNamePart_25
def lp_t9_isName_32 (nf n : Nat) (a2 : Int32) (a3 : Int32) (na1 : Nat) (fa1 : Nat → Int32)  (l1_32 : Int32) (l2_32 : Int32) (l3_32 : Int32) (l4_32 : Int32) : Option (Int32) := match n with
  | 0 => none
  | n + 1 => (if l2_32 ≤ l4_32 then (if l3_32 = 0 then (some 0) else if l3_32 = 1 then (some 1) else none) else (if l3_32 = 0 then (if l3_32 = 0 then (some 0) else if l3_32 = 1 then (some 1) else none) else (if l4_32 < 0 then none else if na1 ≤ (l4_32 : Int32).toNatClampNeg then none else (if (fa1 (l4_32 : Int32).toNatClampNeg) < 97 then (if (fa1 (l4_32 : Int32).toNatClampNeg) < 65 then (if l4_32 ≤ l1_32 then (lp_t9_isName_32 nf n a2 a3 na1 fa1 l1_32 l2_32 0 (l4_32 + 1)) else (if (fa1 (l4_32 : Int32).toNatClampNeg) < 48 then (if (fa1 (l4_32 : Int32).toNatClampNeg) = 95 then (lp_t9_isName_32 nf n a2 a3 na1 fa1 l1_32 l2_32 1 (l4_32 + 1)) else (lp_t9_isName_32 nf n a2 a3 na1 fa1 l1_32 l2_32 0 (l4_32 + 1))) else (if (fa1 (l4_32 : Int32).toNatClampNeg) ≤ 57 then (lp_t9_isName_32 nf n a2 a3 na1 fa1 l1_32 l2_32 1 (l4_32 + 1)) else (if (fa1 (l4_32 : Int32).toNatClampNeg) = 95 then (lp_t9_isName_32 nf n a2 a3 na1 fa1 l1_32 l2_32 1 (l4_32 + 1)) else (lp_t9_isName_32 nf n a2 a3 na1 fa1 l1_32 l2_32 0 (l4_32 + 1)))))) else (if 90 < (fa1 (l4_32 : Int32).toNatClampNeg) then (if l4_32 ≤ l1_32 then (lp_t9_isName_32 nf n a2 a3 na1 fa1 l1_32 l2_32 0 (l4_32 + 1)) else (if (fa1 (l4_32 : Int32).toNatClampNeg) < 48 then (if (fa1 (l4_32 : Int32).toNatClampNeg) = 95 then (lp_t9_isName_32 nf n a2 a3 na1 fa1 l1_32 l2_32 1 (l4_32 + 1)) else (lp_t9_isName_32 nf n a2 a3 na1 fa1 l1_32 l2_32 0 (l4_32 + 1))) else (if (fa1 (l4_32 : Int32).toNatClampNeg) ≤ 57 then (lp_t9_isName_32 nf n a2 a3 na1 fa1 l1_32 l2_32 1 (l4_32 + 1)) else (if (fa1 (l4_32 : Int32).toNatClampNeg) = 95 then (lp_t9_isName_32 nf n a2 a3 na1 fa1 l1_32 l2_32 1 (l4_32 + 1)) else (lp_t9_isName_32 nf n a2 a3 na1 fa1 l1_32 l2_32 0 (l4_32 + 1)))))) else (lp_t9_isName_32 nf n a2 a3 na1 fa1 l1_32 l2_32 1 (l4_32 + 1)))) else (if (fa1 (l4_32 : Int32).toNatClampNeg) ≤ 122 then (lp_t9_isName_32 nf n a2 a3 na1 fa1 l1_32 l2_32 1 (l4_32 + 1)) else (if (fa1 (l4_32 : Int32).toNatClampNeg) < 65 then (if l4_32 ≤ l1_32 then (lp_t9_isName_32 nf n a2 a3 na1 fa1 l1_32 l2_32 0 (l4_32 + 1)) else (if (fa1 (l4_32 : Int32).toNatClampNeg) < 48 then (if (fa1 (l4_32 : Int32).toNatClampNeg) = 95 then (lp_t9_isName_32 nf n a2 a3 na1 fa1 l1_32 l2_32 1 (l4_32 + 1)) else (lp_t9_isName_32 nf n a2 a3 na1 fa1 l1_32 l2_32 0 (l4_32 + 1))) else (if (fa1 (l4_32 : Int32).toNatClampNeg) ≤ 57 then (lp_t9_isName_32 nf n a2 a3 na1 fa1 l1_32 l2_32 1 (l4_32 + 1)) else (if (fa1 (l4_32 : Int32).toNatClampNeg) = 95 then (lp_t9_isName_32 nf n a2 a3 na1 fa1 l1_32 l2_32 1 (l4_32 + 1)) else (lp_t9_isName_32 nf n a2 a3 na1 fa1 l1_32 l2_32 0 (l4_32 + 1)))))) else (if 90 < (fa1 (l4_32 : Int32).toNatClampNeg) then (if l4_32 ≤ l1_32 then (lp_t9_isName_32 nf n a2 a3 na1 fa1 l1_32 l2_32 0 (l4_32 + 1)) else (if (fa1 (l4_32 : Int32).toNatClampNeg) < 48 then (if (fa1 (l4_32 : Int32).toNatClampNeg) = 95 then (lp_t9_isName_32 nf n a2 a3 na1 fa1 l1_32 l2_32 1 (l4_32 + 1)) else (lp_t9_isName_32 nf n a2 a3 na1 fa1 l1_32 l2_32 0 (l4_32 + 1))) else (if (fa1 (l4_32 : Int32).toNatClampNeg) ≤ 57 then (lp_t9_isName_32 nf n a2 a3 na1 fa1 l1_32 l2_32 1 (l4_32 + 1)) else (if (fa1 (l4_32 : Int32).toNatClampNeg) = 95 then (lp_t9_isName_32 nf n a2 a3 na1 fa1 l1_32 l2_32 1 (l4_32 + 1)) else (lp_t9_isName_32 nf n a2 a3 na1 fa1 l1_32 l2_32 0 (l4_32 + 1)))))) else (lp_t9_isName_32 nf n a2 a3 na1 fa1 l1_32 l2_32 1 (l4_32 + 1)))))))))
def sp_t9_isName (nf : Nat) (a2 : Int32) (a3 : Int32) (na1 : Nat) (fa1 : Nat → Int32) : Option (Int32) := (if a2 < 0 then (lp_t9_isName_32 nf nf a2 a3 na1 fa1 a2 a3 0 a2) else (if a3 ≤ a2 then (lp_t9_isName_32 nf nf a2 a3 na1 fa1 a2 a3 0 a2) else (if (nI na1) < a3 then (lp_t9_isName_32 nf nf a2 a3 na1 fa1 a2 a3 0 a2) else (if 12 < (a3 - a2) then (lp_t9_isName_32 nf nf a2 a3 na1 fa1 a2 a3 0 a2) else (lp_t9_isName_32 nf nf a2 a3 na1 fa1 a2 a3 1 a2)))))
set_option maxHeartbeats 4000000 in
set_option maxRecDepth 100000 in
/-- ClassMill$Text.isName -/
theorem t9_isName (l : Launch) (dC : Nat → ClassId) (dI : Nat → Nat → Nat) (sz : Nat) (qa1 : Nat) (a2 : Int32) (a3 : Int32) (ca1 : ClassId) (na1 : Nat) (fa1 : (Nat → Int32)) (nf : Nat) (r0 : Int32) (hsp : sp_t9_isName nf a2 a3 na1 fa1 = some r0) : Met l yX9_isName (.code yX9_isName cX9_isName 7 (some .boolean) :: VS_h4) ({ frames := 0, cells := 0, slots := 0, locals := 0 }) (va_Pc [.ref qa1, .int a2, .int a3] (fun U => U.heap.size = sz ∧ va_P (dC, dI) vwCl [(qa1, .inl (ca1, na1, .inl fa1))] U.heap ∧ va_K (dC, dI) vwCl [(ca1, .byte)] U ∧ va_D (fun _ => True) [(qa1, .inl (ca1, na1, .inl fa1))])) (va_Qi (fun (r : Int32) (u : Unit) => match u with | () => r0 = r ∧ (r0 = 0 ∨ r0 = 1)) (fun (u : Unit) (t : State) => match u with | () => va_P (dC, dI) vwCl [(qa1, .inl (ca1, na1, .inl fa1))] t.heap ∧ va_K (dC, dI) vwCl [(ca1, .byte)] t ∧ va_D (va_A [(qa1, .inl (ca1, na1, .inl fa1))] sz) [(qa1, .inl (ca1, na1, .inl fa1))]) (va_A [(qa1, .inl (ca1, na1, .inl fa1))] sz)) 0 0 (va_A [(qa1, .inl (ca1, na1, .inl fa1))] sz) := by
  refine Met.ofW (cc := cX9_isName) (maxL := 7) (ret := (some .boolean)) (by decide) rfl ?_
  intro p e s m args below meth c s₁ B hml hv
  obtain ⟨rfl, hsz, hP, hK, hD0⟩ := hv
  have hx := B.exec
  have hb := B.bytes
  have hr := B.returns
  have hts := atoms_spec (ws := (.code yX9_isName cX9_isName 7 (some .boolean) :: VS_h4)) B.pre
  replace hts := fun w (h : w ∈ VS_h4) => hts w (List.mem_cons_of_mem _ h)
  have hown : s.vm.findClass RX9 = some m.cls := findClass_of_methodNamed B.named
  have hlocks := B.notSynchronized
  subst hsz
  have hD := hD0.self (sz := s.heap.size)
  generalize hAe : va_A [(qa1, .inl (ca1, na1, .inl fa1))] s.heap.size = A at hD  ⊢
  have hA : ∀ q : Nat, s.heap.size ≤ q → A q := fun q h => by rw [← hAe]; exact Or.inr h
  have hP : va_P (dC, dI) vwCl [(qa1, .inl (ca1, na1, .inl fa1))] s.heap := hP
  have hl := lv_entry ([.ref qa1, .int a2, .int a3]) (n := 7) (Nat.le_of_ble_eq_true rfl)
  rw [lg_entry_eq]
  generalize (lg_sl ([.ref qa1, .int a2, .int a3]) ++ List.replicate (7 - (lg_sl ([.ref qa1, .int a2, .int a3])).length) Slot.unset).toArray = ls at hl ⊢
  have hl : lv_has ls 7 [(0, .ref qa1), (1, .int a2), (2, .int a3)] := hl
  obtain ⟨H, hH⟩ : ∃ H : Heap, s.heap = H := ⟨_, rfl⟩
  rw [hH] at hP ⊢
  have hS : va_S A s.heap H [] := by rw [← hH]; exact va_S.rf
  obtain ⟨locs, hlo⟩ : ∃ locs : List Loc, locs = [] := ⟨_, rfl⟩
  rw [← hlo] at hS ⊢
  unfold sp_t9_isName at hsp
  refine lv_iload_n hx hb dX9_isName_0 rfl (lv_at hl 1 rfl) ?_
  refine lv_if_lt (tgt := 27) hx hb dX9_isName_1 (by decide) (fun c_1 => ?_) (fun c_1 => ?_)
  · rw [if_pos c_1] at hsp
    refine lv_iconst (v := 0) hx hb dX9_isName_27 (by decide) ?_
    refine lv_istore_n (lv' := [(3, .int 0), (0, .ref qa1), (1, .int a2), (2, .int a3)]) hx hb dX9_isName_28 rfl hl (by decide) rfl (fun ls hl => ?_)
    refine lv_iload_n hx hb dX9_isName_29 rfl (lv_at hl 2 rfl) ?_
    refine lv_istore (lv' := [(4, .int a2), (3, .int 0), (0, .ref qa1), (1, .int a2), (2, .int a3)]) hx hb dX9_isName_30 hl (by decide) rfl (fun ls hl => ?_)
    replace hP := hP.sub (ws' := [(qa1, .inl (ca1, na1, .inl fa1))]) [0] rfl
    replace hD := hD.sub (ws' := [(qa1, .inl (ca1, na1, .inl fa1))]) [0] (by decide) rfl
    replace hK := hK.sub (tys' := [(ca1, .byte)]) [0] rfl
    obtain ⟨n_32, hn_32⟩ : ∃ z : Nat, z = nf := ⟨_, rfl⟩
    obtain ⟨l1_32, el1_32⟩ : ∃ z : Int32, z = a2 := ⟨_, rfl⟩
    obtain ⟨l2_32, el2_32⟩ : ∃ z : Int32, z = a3 := ⟨_, rfl⟩
    obtain ⟨l3_32, el3_32⟩ : ∃ z : Int32, z = 0 := ⟨_, rfl⟩
    obtain ⟨l4_32, el4_32⟩ : ∃ z : Int32, z = a2 := ⟨_, rfl⟩
    replace hsp : lp_t9_isName_32 nf n_32 a2 a3 na1 fa1 l1_32 l2_32 l3_32 l4_32 = some r0 := by rw [hn_32, el1_32, el2_32, el3_32, el4_32]; exact hsp
    replace hl : lv_has ls 7 [(4, .int l4_32), (3, .int l3_32), (0, .ref qa1), (1, .int l1_32), (2, .int l2_32)] := by rw [el1_32, el2_32, el3_32, el4_32]; exact hl
    clear hn_32 el1_32 el2_32 el3_32 el4_32
    try clear hlo
    try clear hH
    revert hsp
    revert hP
    revert hD
    revert hS
    revert hl
    revert l4_32
    revert l3_32
    revert l2_32
    revert l1_32
    revert ls
    revert locs
    revert H
    induction n_32 with
    | zero => intro H locs ls l1_32 l2_32 l3_32 l4_32 hl hS hD hP hsp; unfold lp_t9_isName_32 at hsp; cases hsp
    | succ n_32 ih_32 =>
      intro H locs ls l1_32 l2_32 l3_32 l4_32 hl hS hD hP hsp
      unfold lp_t9_isName_32 at hsp
      try dsimp only at hsp
      refine lv_iload hx hb dX9_isName_32 (lv_at hl 0 rfl) ?_
      refine lv_iload_n hx hb dX9_isName_34 rfl (lv_at hl 4 rfl) ?_
      refine lv_icmp_ge (tgt := 127) hx hb dX9_isName_35 (by decide) (fun c_2 => ?_) (fun c_2 => ?_)
      · rw [if_pos c_2] at hsp
        refine lv_iload_n hx hb dX9_isName_127 rfl (lv_at hl 1 rfl) ?_
        rcases ox_01 hsp with ⟨rfl, hsp⟩ | ⟨rfl, hsp⟩
        · skip
          have hr0 := Option.some.inj hsp
          clear hsp
          subst hr0
          have hP9 := hP.sub (ws' := [(qa1, .inl (ca1, na1, .inl fa1))]) [0] rfl
          have hD9 := hD.sub (ws' := [(qa1, .inl (ca1, na1, .inl fa1))]) [0] (by decide) rfl
          have hK9 := hK.sub (tys' := [(ca1, .byte)]) [0] rfl
          exact W.zret hx hb hr (by decide) (fun t ht hW => ⟨⟨(0), (), rfl, ⟨rfl, Or.inl rfl⟩, by rw [ht]; exact hP9, va_K.moved hW.alike hK9, hD9⟩, hS.F ht⟩) hS.2.2 dX9_isName_128
        · skip
          have hr0 := Option.some.inj hsp
          clear hsp
          subst hr0
          have hP9 := hP.sub (ws' := [(qa1, .inl (ca1, na1, .inl fa1))]) [0] rfl
          have hD9 := hD.sub (ws' := [(qa1, .inl (ca1, na1, .inl fa1))]) [0] (by decide) rfl
          have hK9 := hK.sub (tys' := [(ca1, .byte)]) [0] rfl
          exact W.zret hx hb hr (by decide) (fun t ht hW => ⟨⟨(1), (), rfl, ⟨rfl, Or.inr rfl⟩, by rw [ht]; exact hP9, va_K.moved hW.alike hK9, hD9⟩, hS.F ht⟩) hS.2.2 dX9_isName_128
      · rw [if_neg c_2] at hsp
        refine lv_iload_n hx hb dX9_isName_38 rfl (lv_at hl 1 rfl) ?_
        refine lv_if_eq (tgt := 127) hx hb dX9_isName_39 (by decide) (fun c_3 => ?_) (fun c_3 => ?_)
        · rw [if_pos c_3] at hsp
          refine lv_iload_n hx hb dX9_isName_127 rfl (lv_at hl 1 rfl) ?_
          rcases ox_01 hsp with ⟨rfl, hsp⟩ | ⟨rfl, hsp⟩
          · skip
            have hr0 := Option.some.inj hsp
            clear hsp
            subst hr0
            have hP9 := hP.sub (ws' := [(qa1, .inl (ca1, na1, .inl fa1))]) [0] rfl
            have hD9 := hD.sub (ws' := [(qa1, .inl (ca1, na1, .inl fa1))]) [0] (by decide) rfl
            have hK9 := hK.sub (tys' := [(ca1, .byte)]) [0] rfl
            exact W.zret hx hb hr (by decide) (fun t ht hW => ⟨⟨(0), (), rfl, ⟨rfl, Or.inl rfl⟩, by rw [ht]; exact hP9, va_K.moved hW.alike hK9, hD9⟩, hS.F ht⟩) hS.2.2 dX9_isName_128
          · skip
            have hr0 := Option.some.inj hsp
            clear hsp
            subst hr0
            have hP9 := hP.sub (ws' := [(qa1, .inl (ca1, na1, .inl fa1))]) [0] rfl
            have hD9 := hD.sub (ws' := [(qa1, .inl (ca1, na1, .inl fa1))]) [0] (by decide) rfl
            have hK9 := hK.sub (tys' := [(ca1, .byte)]) [0] rfl
            exact W.zret hx hb hr (by decide) (fun t ht hW => ⟨⟨(1), (), rfl, ⟨rfl, Or.inr rfl⟩, by rw [ht]; exact hP9, va_K.moved hW.alike hK9, hD9⟩, hS.F ht⟩) hS.2.2 dX9_isName_128
        · rw [if_neg c_3] at hsp
          refine lv_aload_n hx hb dX9_isName_42 rfl (lv_at hl 2 rfl) ?_
          refine lv_iload hx hb dX9_isName_43 (lv_at hl 0 rfl) ?_
          obtain ⟨hi_4, hsp⟩ := ox_in hsp
          refine va_bald hx hb hK hP 0 0 rfl rfl (i := l4_32) hi_4 dX9_isName_45 ?_
          refine lv_istore (lv' := [(5, .int (fa1 (l4_32 : Int32).toNatClampNeg)), (4, .int l4_32), (3, .int l3_32), (0, .ref qa1), (1, .int l1_32), (2, .int l2_32)]) hx hb dX9_isName_46 hl (by decide) rfl (fun ls hl => ?_)
          refine lv_iload hx hb dX9_isName_48 (lv_at hl 0 rfl) ?_
          refine lv_bipush (v := 97) hx hb dX9_isName_50 (by decide) ?_
          refine lv_icmp_lt (tgt := 62) hx hb dX9_isName_52 (by decide) (fun c_5 => ?_) (fun c_5 => ?_)
          · rw [if_pos c_5] at hsp
            refine lv_iload hx hb dX9_isName_62 (lv_at hl 0 rfl) ?_
            refine lv_bipush (v := 65) hx hb dX9_isName_64 (by decide) ?_
            refine lv_icmp_lt (tgt := 80) hx hb dX9_isName_66 (by decide) (fun c_6 => ?_) (fun c_6 => ?_)
            · rw [if_pos c_6] at hsp
              refine lv_iconst (v := 0) hx hb dX9_isName_80 (by decide) ?_
              refine lv_istore (lv' := [(6, .int 0), (5, .int (fa1 (l4_32 : Int32).toNatClampNeg)), (4, .int l4_32), (3, .int l3_32), (0, .ref qa1), (1, .int l1_32), (2, .int l2_32)]) hx hb dX9_isName_81 hl (by decide) rfl (fun ls hl => ?_)
              refine lv_iload hx hb dX9_isName_83 (lv_at hl 0 rfl) ?_
              refine lv_if_ne (tgt := 115) hx hb dX9_isName_85 (by decide) (fun c_7 => (show False by revert c_7; decide).elim) (fun c_7 => ?_)
              refine lv_iload hx hb dX9_isName_88 (lv_at hl 2 rfl) ?_
              refine lv_iload_n hx hb dX9_isName_90 rfl (lv_at hl 5 rfl) ?_
              refine lv_icmp_le (tgt := 119) hx hb dX9_isName_91 (by decide) (fun c_8 => ?_) (fun c_8 => ?_)
              · rw [if_pos c_8] at hsp
                refine lv_iconst (v := 0) hx hb dX9_isName_119 (by decide) ?_
                refine lv_istore_n (lv' := [(3, .int 0), (6, .int 0), (5, .int (fa1 (l4_32 : Int32).toNatClampNeg)), (4, .int l4_32), (0, .ref qa1), (1, .int l1_32), (2, .int l2_32)]) hx hb dX9_isName_120 rfl hl (by decide) rfl (fun ls hl => ?_)
                refine lv_iinc (v := (l4_32 + 1)) (lv' := [(4, .int (l4_32 + 1)), (3, .int 0), (6, .int 0), (5, .int (fa1 (l4_32 : Int32).toNatClampNeg)), (0, .ref qa1), (1, .int l1_32), (2, .int l2_32)]) hx hb dX9_isName_121 hl (k := 3) rfl rfl (by decide) rfl (fun ls hl => ?_)
                refine lv_goto (tgt := 32) hx hb dX9_isName_124 (by decide) ?_
                exact ih_32 H locs ls l1_32 l2_32 0 (l4_32 + 1) (lv_sub hl [0, 1, 4, 5, 6] rfl) hS (hD.sub (ws' := [(qa1, .inl (ca1, na1, .inl fa1))]) [0] (by decide) rfl) (hP.sub (ws' := [(qa1, .inl (ca1, na1, .inl fa1))]) [0] rfl) hsp
              · rw [if_neg c_8] at hsp
                refine lv_iload hx hb dX9_isName_94 (lv_at hl 1 rfl) ?_
                refine lv_bipush (v := 48) hx hb dX9_isName_96 (by decide) ?_
                refine lv_icmp_lt (tgt := 108) hx hb dX9_isName_98 (by decide) (fun c_9 => ?_) (fun c_9 => ?_)
                · rw [if_pos c_9] at hsp
                  refine lv_iload hx hb dX9_isName_108 (lv_at hl 1 rfl) ?_
                  refine lv_bipush (v := 95) hx hb dX9_isName_110 (by decide) ?_
                  refine lv_icmp_ne (tgt := 119) hx hb dX9_isName_112 (by decide) (fun c_10 => ?_) (fun c_10 => ?_)
                  · rw [if_neg c_10] at hsp
                    refine lv_iconst (v := 0) hx hb dX9_isName_119 (by decide) ?_
                    refine lv_istore_n (lv' := [(3, .int 0), (6, .int 0), (5, .int (fa1 (l4_32 : Int32).toNatClampNeg)), (4, .int l4_32), (0, .ref qa1), (1, .int l1_32), (2, .int l2_32)]) hx hb dX9_isName_120 rfl hl (by decide) rfl (fun ls hl => ?_)
                    refine lv_iinc (v := (l4_32 + 1)) (lv' := [(4, .int (l4_32 + 1)), (3, .int 0), (6, .int 0), (5, .int (fa1 (l4_32 : Int32).toNatClampNeg)), (0, .ref qa1), (1, .int l1_32), (2, .int l2_32)]) hx hb dX9_isName_121 hl (k := 3) rfl rfl (by decide) rfl (fun ls hl => ?_)
                    refine lv_goto (tgt := 32) hx hb dX9_isName_124 (by decide) ?_
                    exact ih_32 H locs ls l1_32 l2_32 0 (l4_32 + 1) (lv_sub hl [0, 1, 4, 5, 6] rfl) hS (hD.sub (ws' := [(qa1, .inl (ca1, na1, .inl fa1))]) [0] (by decide) rfl) (hP.sub (ws' := [(qa1, .inl (ca1, na1, .inl fa1))]) [0] rfl) hsp
                  · rw [if_pos c_10] at hsp
                    refine lv_iconst (v := 1) hx hb dX9_isName_115 (by decide) ?_
                    refine lv_goto (tgt := 120) hx hb dX9_isName_116 (by decide) ?_
                    refine lv_istore_n (lv' := [(3, .int 1), (6, .int 0), (5, .int (fa1 (l4_32 : Int32).toNatClampNeg)), (4, .int l4_32), (0, .ref qa1), (1, .int l1_32), (2, .int l2_32)]) hx hb dX9_isName_120 rfl hl (by decide) rfl (fun ls hl => ?_)
                    refine lv_iinc (v := (l4_32 + 1)) (lv' := [(4, .int (l4_32 + 1)), (3, .int 1), (6, .int 0), (5, .int (fa1 (l4_32 : Int32).toNatClampNeg)), (0, .ref qa1), (1, .int l1_32), (2, .int l2_32)]) hx hb dX9_isName_121 hl (k := 3) rfl rfl (by decide) rfl (fun ls hl => ?_)
                    refine lv_goto (tgt := 32) hx hb dX9_isName_124 (by decide) ?_
                    exact ih_32 H locs ls l1_32 l2_32 1 (l4_32 + 1) (lv_sub hl [0, 1, 4, 5, 6] rfl) hS (hD.sub (ws' := [(qa1, .inl (ca1, na1, .inl fa1))]) [0] (by decide) rfl) (hP.sub (ws' := [(qa1, .inl (ca1, na1, .inl fa1))]) [0] rfl) hsp
                · rw [if_neg c_9] at hsp
                  refine lv_iload hx hb dX9_isName_101 (lv_at hl 1 rfl) ?_
                  refine lv_bipush (v := 57) hx hb dX9_isName_103 (by decide) ?_
                  refine lv_icmp_le (tgt := 115) hx hb dX9_isName_105 (by decide) (fun c_11 => ?_) (fun c_11 => ?_)
                  · rw [if_pos c_11] at hsp
                    refine lv_iconst (v := 1) hx hb dX9_isName_115 (by decide) ?_
                    refine lv_goto (tgt := 120) hx hb dX9_isName_116 (by decide) ?_
                    refine lv_istore_n (lv' := [(3, .int 1), (6, .int 0), (5, .int (fa1 (l4_32 : Int32).toNatClampNeg)), (4, .int l4_32), (0, .ref qa1), (1, .int l1_32), (2, .int l2_32)]) hx hb dX9_isName_120 rfl hl (by decide) rfl (fun ls hl => ?_)
                    refine lv_iinc (v := (l4_32 + 1)) (lv' := [(4, .int (l4_32 + 1)), (3, .int 1), (6, .int 0), (5, .int (fa1 (l4_32 : Int32).toNatClampNeg)), (0, .ref qa1), (1, .int l1_32), (2, .int l2_32)]) hx hb dX9_isName_121 hl (k := 3) rfl rfl (by decide) rfl (fun ls hl => ?_)
                    refine lv_goto (tgt := 32) hx hb dX9_isName_124 (by decide) ?_
                    exact ih_32 H locs ls l1_32 l2_32 1 (l4_32 + 1) (lv_sub hl [0, 1, 4, 5, 6] rfl) hS (hD.sub (ws' := [(qa1, .inl (ca1, na1, .inl fa1))]) [0] (by decide) rfl) (hP.sub (ws' := [(qa1, .inl (ca1, na1, .inl fa1))]) [0] rfl) hsp
                  · rw [if_neg c_11] at hsp
                    refine lv_iload hx hb dX9_isName_108 (lv_at hl 1 rfl) ?_
                    refine lv_bipush (v := 95) hx hb dX9_isName_110 (by decide) ?_
                    refine lv_icmp_ne (tgt := 119) hx hb dX9_isName_112 (by decide) (fun c_12 => ?_) (fun c_12 => ?_)
                    · rw [if_neg c_12] at hsp
                      refine lv_iconst (v := 0) hx hb dX9_isName_119 (by decide) ?_
                      refine lv_istore_n (lv' := [(3, .int 0), (6, .int 0), (5, .int (fa1 (l4_32 : Int32).toNatClampNeg)), (4, .int l4_32), (0, .ref qa1), (1, .int l1_32), (2, .int l2_32)]) hx hb dX9_isName_120 rfl hl (by decide) rfl (fun ls hl => ?_)
                      refine lv_iinc (v := (l4_32 + 1)) (lv' := [(4, .int (l4_32 + 1)), (3, .int 0), (6, .int 0), (5, .int (fa1 (l4_32 : Int32).toNatClampNeg)), (0, .ref qa1), (1, .int l1_32), (2, .int l2_32)]) hx hb dX9_isName_121 hl (k := 3) rfl rfl (by decide) rfl (fun ls hl => ?_)
                      refine lv_goto (tgt := 32) hx hb dX9_isName_124 (by decide) ?_
                      exact ih_32 H locs ls l1_32 l2_32 0 (l4_32 + 1) (lv_sub hl [0, 1, 4, 5, 6] rfl) hS (hD.sub (ws' := [(qa1, .inl (ca1, na1, .inl fa1))]) [0] (by decide) rfl) (hP.sub (ws' := [(qa1, .inl (ca1, na1, .inl fa1))]) [0] rfl) hsp
                    · rw [if_pos c_12] at hsp
                      refine lv_iconst (v := 1) hx hb dX9_isName_115 (by decide) ?_
                      refine lv_goto (tgt := 120) hx hb dX9_isName_116 (by decide) ?_
                      refine lv_istore_n (lv' := [(3, .int 1), (6, .int 0), (5, .int (fa1 (l4_32 : Int32).toNatClampNeg)), (4, .int l4_32), (0, .ref qa1), (1, .int l1_32), (2, .int l2_32)]) hx hb dX9_isName_120 rfl hl (by decide) rfl (fun ls hl => ?_)
                      refine lv_iinc (v := (l4_32 + 1)) (lv' := [(4, .int (l4_32 + 1)), (3, .int 1), (6, .int 0), (5, .int (fa1 (l4_32 : Int32).toNatClampNeg)), (0, .ref qa1), (1, .int l1_32), (2, .int l2_32)]) hx hb dX9_isName_121 hl (k := 3) rfl rfl (by decide) rfl (fun ls hl => ?_)
                      refine lv_goto (tgt := 32) hx hb dX9_isName_124 (by decide) ?_
                      exact ih_32 H locs ls l1_32 l2_32 1 (l4_32 + 1) (lv_sub hl [0, 1, 4, 5, 6] rfl) hS (hD.sub (ws' := [(qa1, .inl (ca1, na1, .inl fa1))]) [0] (by decide) rfl) (hP.sub (ws' := [(qa1, .inl (ca1, na1, .inl fa1))]) [0] rfl) hsp
            · rw [if_neg c_6] at hsp
              refine lv_iload hx hb dX9_isName_69 (lv_at hl 0 rfl) ?_
              refine lv_bipush (v := 90) hx hb dX9_isName_71 (by decide) ?_
              refine lv_icmp_gt (tgt := 80) hx hb dX9_isName_73 (by decide) (fun c_13 => ?_) (fun c_13 => ?_)
              · rw [if_pos c_13] at hsp
                refine lv_iconst (v := 0) hx hb dX9_isName_80 (by decide) ?_
                refine lv_istore (lv' := [(6, .int 0), (5, .int (fa1 (l4_32 : Int32).toNatClampNeg)), (4, .int l4_32), (3, .int l3_32), (0, .ref qa1), (1, .int l1_32), (2, .int l2_32)]) hx hb dX9_isName_81 hl (by decide) rfl (fun ls hl => ?_)
                refine lv_iload hx hb dX9_isName_83 (lv_at hl 0 rfl) ?_
                refine lv_if_ne (tgt := 115) hx hb dX9_isName_85 (by decide) (fun c_14 => (show False by revert c_14; decide).elim) (fun c_14 => ?_)
                refine lv_iload hx hb dX9_isName_88 (lv_at hl 2 rfl) ?_
                refine lv_iload_n hx hb dX9_isName_90 rfl (lv_at hl 5 rfl) ?_
                refine lv_icmp_le (tgt := 119) hx hb dX9_isName_91 (by decide) (fun c_15 => ?_) (fun c_15 => ?_)
                · rw [if_pos c_15] at hsp
                  refine lv_iconst (v := 0) hx hb dX9_isName_119 (by decide) ?_
                  refine lv_istore_n (lv' := [(3, .int 0), (6, .int 0), (5, .int (fa1 (l4_32 : Int32).toNatClampNeg)), (4, .int l4_32), (0, .ref qa1), (1, .int l1_32), (2, .int l2_32)]) hx hb dX9_isName_120 rfl hl (by decide) rfl (fun ls hl => ?_)
                  refine lv_iinc (v := (l4_32 + 1)) (lv' := [(4, .int (l4_32 + 1)), (3, .int 0), (6, .int 0), (5, .int (fa1 (l4_32 : Int32).toNatClampNeg)), (0, .ref qa1), (1, .int l1_32), (2, .int l2_32)]) hx hb dX9_isName_121 hl (k := 3) rfl rfl (by decide) rfl (fun ls hl => ?_)
                  refine lv_goto (tgt := 32) hx hb dX9_isName_124 (by decide) ?_
                  exact ih_32 H locs ls l1_32 l2_32 0 (l4_32 + 1) (lv_sub hl [0, 1, 4, 5, 6] rfl) hS (hD.sub (ws' := [(qa1, .inl (ca1, na1, .inl fa1))]) [0] (by decide) rfl) (hP.sub (ws' := [(qa1, .inl (ca1, na1, .inl fa1))]) [0] rfl) hsp
                · rw [if_neg c_15] at hsp
                  refine lv_iload hx hb dX9_isName_94 (lv_at hl 1 rfl) ?_
                  refine lv_bipush (v := 48) hx hb dX9_isName_96 (by decide) ?_
                  refine lv_icmp_lt (tgt := 108) hx hb dX9_isName_98 (by decide) (fun c_16 => ?_) (fun c_16 => ?_)
                  · rw [if_pos c_16] at hsp
                    refine lv_iload hx hb dX9_isName_108 (lv_at hl 1 rfl) ?_
                    refine lv_bipush (v := 95) hx hb dX9_isName_110 (by decide) ?_
                    refine lv_icmp_ne (tgt := 119) hx hb dX9_isName_112 (by decide) (fun c_17 => ?_) (fun c_17 => ?_)
                    · rw [if_neg c_17] at hsp
                      refine lv_iconst (v := 0) hx hb dX9_isName_119 (by decide) ?_
                      refine lv_istore_n (lv' := [(3, .int 0), (6, .int 0), (5, .int (fa1 (l4_32 : Int32).toNatClampNeg)), (4, .int l4_32), (0, .ref qa1), (1, .int l1_32), (2, .int l2_32)]) hx hb dX9_isName_120 rfl hl (by decide) rfl (fun ls hl => ?_)
                      refine lv_iinc (v := (l4_32 + 1)) (lv' := [(4, .int (l4_32 + 1)), (3, .int 0), (6, .int 0), (5, .int (fa1 (l4_32 : Int32).toNatClampNeg)), (0, .ref qa1), (1, .int l1_32), (2, .int l2_32)]) hx hb dX9_isName_121 hl (k := 3) rfl rfl (by decide) rfl (fun ls hl => ?_)
                      refine lv_goto (tgt := 32) hx hb dX9_isName_124 (by decide) ?_
                      exact ih_32 H locs ls l1_32 l2_32 0 (l4_32 + 1) (lv_sub hl [0, 1, 4, 5, 6] rfl) hS (hD.sub (ws' := [(qa1, .inl (ca1, na1, .inl fa1))]) [0] (by decide) rfl) (hP.sub (ws' := [(qa1, .inl (ca1, na1, .inl fa1))]) [0] rfl) hsp
                    · rw [if_pos c_17] at hsp
                      refine lv_iconst (v := 1) hx hb dX9_isName_115 (by decide) ?_
                      refine lv_goto (tgt := 120) hx hb dX9_isName_116 (by decide) ?_
                      refine lv_istore_n (lv' := [(3, .int 1), (6, .int 0), (5, .int (fa1 (l4_32 : Int32).toNatClampNeg)), (4, .int l4_32), (0, .ref qa1), (1, .int l1_32), (2, .int l2_32)]) hx hb dX9_isName_120 rfl hl (by decide) rfl (fun ls hl => ?_)
                      refine lv_iinc (v := (l4_32 + 1)) (lv' := [(4, .int (l4_32 + 1)), (3, .int 1), (6, .int 0), (5, .int (fa1 (l4_32 : Int32).toNatClampNeg)), (0, .ref qa1), (1, .int l1_32), (2, .int l2_32)]) hx hb dX9_isName_121 hl (k := 3) rfl rfl (by decide) rfl (fun ls hl => ?_)
                      refine lv_goto (tgt := 32) hx hb dX9_isName_124 (by decide) ?_
                      exact ih_32 H locs ls l1_32 l2_32 1 (l4_32 + 1) (lv_sub hl [0, 1, 4, 5, 6] rfl) hS (hD.sub (ws' := [(qa1, .inl (ca1, na1, .inl fa1))]) [0] (by decide) rfl) (hP.sub (ws' := [(qa1, .inl (ca1, na1, .inl fa1))]) [0] rfl) hsp
                  · rw [if_neg c_16] at hsp
                    refine lv_iload hx hb dX9_isName_101 (lv_at hl 1 rfl) ?_
                    refine lv_bipush (v := 57) hx hb dX9_isName_103 (by decide) ?_
                    refine lv_icmp_le (tgt := 115) hx hb dX9_isName_105 (by decide) (fun c_18 => ?_) (fun c_18 => ?_)
                    · rw [if_pos c_18] at hsp
                      refine lv_iconst (v := 1) hx hb dX9_isName_115 (by decide) ?_
                      refine lv_goto (tgt := 120) hx hb dX9_isName_116 (by decide) ?_
                      refine lv_istore_n (lv' := [(3, .int 1), (6, .int 0), (5, .int (fa1 (l4_32 : Int32).toNatClampNeg)), (4, .int l4_32), (0, .ref qa1), (1, .int l1_32), (2, .int l2_32)]) hx hb dX9_isName_120 rfl hl (by decide) rfl (fun ls hl => ?_)
                      refine lv_iinc (v := (l4_32 + 1)) (lv' := [(4, .int (l4_32 + 1)), (3, .int 1), (6, .int 0), (5, .int (fa1 (l4_32 : Int32).toNatClampNeg)), (0, .ref qa1), (1, .int l1_32), (2, .int l2_32)]) hx hb dX9_isName_121 hl (k := 3) rfl rfl (by decide) rfl (fun ls hl => ?_)
                      refine lv_goto (tgt := 32) hx hb dX9_isName_124 (by decide) ?_
                      exact ih_32 H locs ls l1_32 l2_32 1 (l4_32 + 1) (lv_sub hl [0, 1, 4, 5, 6] rfl) hS (hD.sub (ws' := [(qa1, .inl (ca1, na1, .inl fa1))]) [0] (by decide) rfl) (hP.sub (ws' := [(qa1, .inl (ca1, na1, .inl fa1))]) [0] rfl) hsp
                    · rw [if_neg c_18] at hsp
                      refine lv_iload hx hb dX9_isName_108 (lv_at hl 1 rfl) ?_
                      refine lv_bipush (v := 95) hx hb dX9_isName_110 (by decide) ?_
                      refine lv_icmp_ne (tgt := 119) hx hb dX9_isName_112 (by decide) (fun c_19 => ?_) (fun c_19 => ?_)
                      · rw [if_neg c_19] at hsp
                        refine lv_iconst (v := 0) hx hb dX9_isName_119 (by decide) ?_
                        refine lv_istore_n (lv' := [(3, .int 0), (6, .int 0), (5, .int (fa1 (l4_32 : Int32).toNatClampNeg)), (4, .int l4_32), (0, .ref qa1), (1, .int l1_32), (2, .int l2_32)]) hx hb dX9_isName_120 rfl hl (by decide) rfl (fun ls hl => ?_)
                        refine lv_iinc (v := (l4_32 + 1)) (lv' := [(4, .int (l4_32 + 1)), (3, .int 0), (6, .int 0), (5, .int (fa1 (l4_32 : Int32).toNatClampNeg)), (0, .ref qa1), (1, .int l1_32), (2, .int l2_32)]) hx hb dX9_isName_121 hl (k := 3) rfl rfl (by decide) rfl (fun ls hl => ?_)
                        refine lv_goto (tgt := 32) hx hb dX9_isName_124 (by decide) ?_
                        exact ih_32 H locs ls l1_32 l2_32 0 (l4_32 + 1) (lv_sub hl [0, 1, 4, 5, 6] rfl) hS (hD.sub (ws' := [(qa1, .inl (ca1, na1, .inl fa1))]) [0] (by decide) rfl) (hP.sub (ws' := [(qa1, .inl (ca1, na1, .inl fa1))]) [0] rfl) hsp
                      · rw [if_pos c_19] at hsp
                        refine lv_iconst (v := 1) hx hb dX9_isName_115 (by decide) ?_
                        refine lv_goto (tgt := 120) hx hb dX9_isName_116 (by decide) ?_
                        refine lv_istore_n (lv' := [(3, .int 1), (6, .int 0), (5, .int (fa1 (l4_32 : Int32).toNatClampNeg)), (4, .int l4_32), (0, .ref qa1), (1, .int l1_32), (2, .int l2_32)]) hx hb dX9_isName_120 rfl hl (by decide) rfl (fun ls hl => ?_)
                        refine lv_iinc (v := (l4_32 + 1)) (lv' := [(4, .int (l4_32 + 1)), (3, .int 1), (6, .int 0), (5, .int (fa1 (l4_32 : Int32).toNatClampNeg)), (0, .ref qa1), (1, .int l1_32), (2, .int l2_32)]) hx hb dX9_isName_121 hl (k := 3) rfl rfl (by decide) rfl (fun ls hl => ?_)
                        refine lv_goto (tgt := 32) hx hb dX9_isName_124 (by decide) ?_
                        exact ih_32 H locs ls l1_32 l2_32 1 (l4_32 + 1) (lv_sub hl [0, 1, 4, 5, 6] rfl) hS (hD.sub (ws' := [(qa1, .inl (ca1, na1, .inl fa1))]) [0] (by decide) rfl) (hP.sub (ws' := [(qa1, .inl (ca1, na1, .inl fa1))]) [0] rfl) hsp
              · rw [if_neg c_13] at hsp
                refine lv_iconst (v := 1) hx hb dX9_isName_76 (by decide) ?_
                refine lv_goto (tgt := 81) hx hb dX9_isName_77 (by decide) ?_
                refine lv_istore (lv' := [(6, .int 1), (5, .int (fa1 (l4_32 : Int32).toNatClampNeg)), (4, .int l4_32), (3, .int l3_32), (0, .ref qa1), (1, .int l1_32), (2, .int l2_32)]) hx hb dX9_isName_81 hl (by decide) rfl (fun ls hl => ?_)
                refine lv_iload hx hb dX9_isName_83 (lv_at hl 0 rfl) ?_
                refine lv_if_ne (tgt := 115) hx hb dX9_isName_85 (by decide) (fun c_20 => ?_) (fun c_20 => (show False by revert c_20; decide).elim)
                refine lv_iconst (v := 1) hx hb dX9_isName_115 (by decide) ?_
                refine lv_goto (tgt := 120) hx hb dX9_isName_116 (by decide) ?_
                refine lv_istore_n (lv' := [(3, .int 1), (6, .int 1), (5, .int (fa1 (l4_32 : Int32).toNatClampNeg)), (4, .int l4_32), (0, .ref qa1), (1, .int l1_32), (2, .int l2_32)]) hx hb dX9_isName_120 rfl hl (by decide) rfl (fun ls hl => ?_)
                refine lv_iinc (v := (l4_32 + 1)) (lv' := [(4, .int (l4_32 + 1)), (3, .int 1), (6, .int 1), (5, .int (fa1 (l4_32 : Int32).toNatClampNeg)), (0, .ref qa1), (1, .int l1_32), (2, .int l2_32)]) hx hb dX9_isName_121 hl (k := 3) rfl rfl (by decide) rfl (fun ls hl => ?_)
                refine lv_goto (tgt := 32) hx hb dX9_isName_124 (by decide) ?_
                exact ih_32 H locs ls l1_32 l2_32 1 (l4_32 + 1) (lv_sub hl [0, 1, 4, 5, 6] rfl) hS (hD.sub (ws' := [(qa1, .inl (ca1, na1, .inl fa1))]) [0] (by decide) rfl) (hP.sub (ws' := [(qa1, .inl (ca1, na1, .inl fa1))]) [0] rfl) hsp
          · rw [if_neg c_5] at hsp
            refine lv_iload hx hb dX9_isName_55 (lv_at hl 0 rfl) ?_
            refine lv_bipush (v := 122) hx hb dX9_isName_57 (by decide) ?_
            refine lv_icmp_le (tgt := 76) hx hb dX9_isName_59 (by decide) (fun c_21 => ?_) (fun c_21 => ?_)
            · rw [if_pos c_21] at hsp
              refine lv_iconst (v := 1) hx hb dX9_isName_76 (by decide) ?_
              refine lv_goto (tgt := 81) hx hb dX9_isName_77 (by decide) ?_
              refine lv_istore (lv' := [(6, .int 1), (5, .int (fa1 (l4_32 : Int32).toNatClampNeg)), (4, .int l4_32), (3, .int l3_32), (0, .ref qa1), (1, .int l1_32), (2, .int l2_32)]) hx hb dX9_isName_81 hl (by decide) rfl (fun ls hl => ?_)
              refine lv_iload hx hb dX9_isName_83 (lv_at hl 0 rfl) ?_
              refine lv_if_ne (tgt := 115) hx hb dX9_isName_85 (by decide) (fun c_22 => ?_) (fun c_22 => (show False by revert c_22; decide).elim)
              refine lv_iconst (v := 1) hx hb dX9_isName_115 (by decide) ?_
              refine lv_goto (tgt := 120) hx hb dX9_isName_116 (by decide) ?_
              refine lv_istore_n (lv' := [(3, .int 1), (6, .int 1), (5, .int (fa1 (l4_32 : Int32).toNatClampNeg)), (4, .int l4_32), (0, .ref qa1), (1, .int l1_32), (2, .int l2_32)]) hx hb dX9_isName_120 rfl hl (by decide) rfl (fun ls hl => ?_)
              refine lv_iinc (v := (l4_32 + 1)) (lv' := [(4, .int (l4_32 + 1)), (3, .int 1), (6, .int 1), (5, .int (fa1 (l4_32 : Int32).toNatClampNeg)), (0, .ref qa1), (1, .int l1_32), (2, .int l2_32)]) hx hb dX9_isName_121 hl (k := 3) rfl rfl (by decide) rfl (fun ls hl => ?_)
              refine lv_goto (tgt := 32) hx hb dX9_isName_124 (by decide) ?_
              exact ih_32 H locs ls l1_32 l2_32 1 (l4_32 + 1) (lv_sub hl [0, 1, 4, 5, 6] rfl) hS (hD.sub (ws' := [(qa1, .inl (ca1, na1, .inl fa1))]) [0] (by decide) rfl) (hP.sub (ws' := [(qa1, .inl (ca1, na1, .inl fa1))]) [0] rfl) hsp
            · rw [if_neg c_21] at hsp
              refine lv_iload hx hb dX9_isName_62 (lv_at hl 0 rfl) ?_
              refine lv_bipush (v := 65) hx hb dX9_isName_64 (by decide) ?_
              refine lv_icmp_lt (tgt := 80) hx hb dX9_isName_66 (by decide) (fun c_23 => ?_) (fun c_23 => ?_)
              · rw [if_pos c_23] at hsp
                refine lv_iconst (v := 0) hx hb dX9_isName_80 (by decide) ?_
                refine lv_istore (lv' := [(6, .int 0), (5, .int (fa1 (l4_32 : Int32).toNatClampNeg)), (4, .int l4_32), (3, .int l3_32), (0, .ref qa1), (1, .int l1_32), (2, .int l2_32)]) hx hb dX9_isName_81 hl (by decide) rfl (fun ls hl => ?_)
                refine lv_iload hx hb dX9_isName_83 (lv_at hl 0 rfl) ?_
                refine lv_if_ne (tgt := 115) hx hb dX9_isName_85 (by decide) (fun c_24 => (show False by revert c_24; decide).elim) (fun c_24 => ?_)
                refine lv_iload hx hb dX9_isName_88 (lv_at hl 2 rfl) ?_
                refine lv_iload_n hx hb dX9_isName_90 rfl (lv_at hl 5 rfl) ?_
                refine lv_icmp_le (tgt := 119) hx hb dX9_isName_91 (by decide) (fun c_25 => ?_) (fun c_25 => ?_)
                · rw [if_pos c_25] at hsp
                  refine lv_iconst (v := 0) hx hb dX9_isName_119 (by decide) ?_
                  refine lv_istore_n (lv' := [(3, .int 0), (6, .int 0), (5, .int (fa1 (l4_32 : Int32).toNatClampNeg)), (4, .int l4_32), (0, .ref qa1), (1, .int l1_32), (2, .int l2_32)]) hx hb dX9_isName_120 rfl hl (by decide) rfl (fun ls hl => ?_)
                  refine lv_iinc (v := (l4_32 + 1)) (lv' := [(4, .int (l4_32 + 1)), (3, .int 0), (6, .int 0), (5, .int (fa1 (l4_32 : Int32).toNatClampNeg)), (0, .ref qa1), (1, .int l1_32), (2, .int l2_32)]) hx hb dX9_isName_121 hl (k := 3) rfl rfl (by decide) rfl (fun ls hl => ?_)
                  refine lv_goto (tgt := 32) hx hb dX9_isName_124 (by decide) ?_
                  exact ih_32 H locs ls l1_32 l2_32 0 (l4_32 + 1) (lv_sub hl [0, 1, 4, 5, 6] rfl) hS (hD.sub (ws' := [(qa1, .inl (ca1, na1, .inl fa1))]) [0] (by decide) rfl) (hP.sub (ws' := [(qa1, .inl (ca1, na1, .inl fa1))]) [0] rfl) hsp
                · rw [if_neg c_25] at hsp
                  refine lv_iload hx hb dX9_isName_94 (lv_at hl 1 rfl) ?_
                  refine lv_bipush (v := 48) hx hb dX9_isName_96 (by decide) ?_
                  refine lv_icmp_lt (tgt := 108) hx hb dX9_isName_98 (by decide) (fun c_26 => ?_) (fun c_26 => ?_)
                  · rw [if_pos c_26] at hsp
                    refine lv_iload hx hb dX9_isName_108 (lv_at hl 1 rfl) ?_
                    refine lv_bipush (v := 95) hx hb dX9_isName_110 (by decide) ?_
                    refine lv_icmp_ne (tgt := 119) hx hb dX9_isName_112 (by decide) (fun c_27 => ?_) (fun c_27 => ?_)
                    · rw [if_neg c_27] at hsp
                      refine lv_iconst (v := 0) hx hb dX9_isName_119 (by decide) ?_
                      refine lv_istore_n (lv' := [(3, .int 0), (6, .int 0), (5, .int (fa1 (l4_32 : Int32).toNatClampNeg)), (4, .int l4_32), (0, .ref qa1), (1, .int l1_32), (2, .int l2_32)]) hx hb dX9_isName_120 rfl hl (by decide) rfl (fun ls hl => ?_)
                      refine lv_iinc (v := (l4_32 + 1)) (lv' := [(4, .int (l4_32 + 1)), (3, .int 0), (6, .int 0), (5, .int (fa1 (l4_32 : Int32).toNatClampNeg)), (0, .ref qa1), (1, .int l1_32), (2, .int l2_32)]) hx hb dX9_isName_121 hl (k := 3) rfl rfl (by decide) rfl (fun ls hl => ?_)
                      refine lv_goto (tgt := 32) hx hb dX9_isName_124 (by decide) ?_
                      exact ih_32 H locs ls l1_32 l2_32 0 (l4_32 + 1) (lv_sub hl [0, 1, 4, 5, 6] rfl) hS (hD.sub (ws' := [(qa1, .inl (ca1, na1, .inl fa1))]) [0] (by decide) rfl) (hP.sub (ws' := [(qa1, .inl (ca1, na1, .inl fa1))]) [0] rfl) hsp
                    · rw [if_pos c_27] at hsp
                      refine lv_iconst (v := 1) hx hb dX9_isName_115 (by decide) ?_
                      refine lv_goto (tgt := 120) hx hb dX9_isName_116 (by decide) ?_
                      refine lv_istore_n (lv' := [(3, .int 1), (6, .int 0), (5, .int (fa1 (l4_32 : Int32).toNatClampNeg)), (4, .int l4_32), (0, .ref qa1), (1, .int l1_32), (2, .int l2_32)]) hx hb dX9_isName_120 rfl hl (by decide) rfl (fun ls hl => ?_)
                      refine lv_iinc (v := (l4_32 + 1)) (lv' := [(4, .int (l4_32 + 1)), (3, .int 1), (6, .int 0), (5, .int (fa1 (l4_32 : Int32).toNatClampNeg)), (0, .ref qa1), (1, .int l1_32), (2, .int l2_32)]) hx hb dX9_isName_121 hl (k := 3) rfl rfl (by decide) rfl (fun ls hl => ?_)
                      refine lv_goto (tgt := 32) hx hb dX9_isName_124 (by decide) ?_
                      exact ih_32 H locs ls l1_32 l2_32 1 (l4_32 + 1) (lv_sub hl [0, 1, 4, 5, 6] rfl) hS (hD.sub (ws' := [(qa1, .inl (ca1, na1, .inl fa1))]) [0] (by decide) rfl) (hP.sub (ws' := [(qa1, .inl (ca1, na1, .inl fa1))]) [0] rfl) hsp
                  · rw [if_neg c_26] at hsp
                    refine lv_iload hx hb dX9_isName_101 (lv_at hl 1 rfl) ?_
                    refine lv_bipush (v := 57) hx hb dX9_isName_103 (by decide) ?_
                    refine lv_icmp_le (tgt := 115) hx hb dX9_isName_105 (by decide) (fun c_28 => ?_) (fun c_28 => ?_)
                    · rw [if_pos c_28] at hsp
                      refine lv_iconst (v := 1) hx hb dX9_isName_115 (by decide) ?_
                      refine lv_goto (tgt := 120) hx hb dX9_isName_116 (by decide) ?_
                      refine lv_istore_n (lv' := [(3, .int 1), (6, .int 0), (5, .int (fa1 (l4_32 : Int32).toNatClampNeg)), (4, .int l4_32), (0, .ref qa1), (1, .int l1_32), (2, .int l2_32)]) hx hb dX9_isName_120 rfl hl (by decide) rfl (fun ls hl => ?_)
                      refine lv_iinc (v := (l4_32 + 1)) (lv' := [(4, .int (l4_32 + 1)), (3, .int 1), (6, .int 0), (5, .int (fa1 (l4_32 : Int32).toNatClampNeg)), (0, .ref qa1), (1, .int l1_32), (2, .int l2_32)]) hx hb dX9_isName_121 hl (k := 3) rfl rfl (by decide) rfl (fun ls hl => ?_)
                      refine lv_goto (tgt := 32) hx hb dX9_isName_124 (by decide) ?_
                      exact ih_32 H locs ls l1_32 l2_32 1 (l4_32 + 1) (lv_sub hl [0, 1, 4, 5, 6] rfl) hS (hD.sub (ws' := [(qa1, .inl (ca1, na1, .inl fa1))]) [0] (by decide) rfl) (hP.sub (ws' := [(qa1, .inl (ca1, na1, .inl fa1))]) [0] rfl) hsp
                    · rw [if_neg c_28] at hsp
                      refine lv_iload hx hb dX9_isName_108 (lv_at hl 1 rfl) ?_
                      refine lv_bipush (v := 95) hx hb dX9_isName_110 (by decide) ?_
                      refine lv_icmp_ne (tgt := 119) hx hb dX9_isName_112 (by decide) (fun c_29 => ?_) (fun c_29 => ?_)
                      · rw [if_neg c_29] at hsp
                        refine lv_iconst (v := 0) hx hb dX9_isName_119 (by decide) ?_
                        refine lv_istore_n (lv' := [(3, .int 0), (6, .int 0), (5, .int (fa1 (l4_32 : Int32).toNatClampNeg)), (4, .int l4_32), (0, .ref qa1), (1, .int l1_32), (2, .int l2_32)]) hx hb dX9_isName_120 rfl hl (by decide) rfl (fun ls hl => ?_)
                        refine lv_iinc (v := (l4_32 + 1)) (lv' := [(4, .int (l4_32 + 1)), (3, .int 0), (6, .int 0), (5, .int (fa1 (l4_32 : Int32).toNatClampNeg)), (0, .ref qa1), (1, .int l1_32), (2, .int l2_32)]) hx hb dX9_isName_121 hl (k := 3) rfl rfl (by decide) rfl (fun ls hl => ?_)
                        refine lv_goto (tgt := 32) hx hb dX9_isName_124 (by decide) ?_
                        exact ih_32 H locs ls l1_32 l2_32 0 (l4_32 + 1) (lv_sub hl [0, 1, 4, 5, 6] rfl) hS (hD.sub (ws' := [(qa1, .inl (ca1, na1, .inl fa1))]) [0] (by decide) rfl) (hP.sub (ws' := [(qa1, .inl (ca1, na1, .inl fa1))]) [0] rfl) hsp
                      · rw [if_pos c_29] at hsp
                        refine lv_iconst (v := 1) hx hb dX9_isName_115 (by decide) ?_
                        refine lv_goto (tgt := 120) hx hb dX9_isName_116 (by decide) ?_
                        refine lv_istore_n (lv' := [(3, .int 1), (6, .int 0), (5, .int (fa1 (l4_32 : Int32).toNatClampNeg)), (4, .int l4_32), (0, .ref qa1), (1, .int l1_32), (2, .int l2_32)]) hx hb dX9_isName_120 rfl hl (by decide) rfl (fun ls hl => ?_)
                        refine lv_iinc (v := (l4_32 + 1)) (lv' := [(4, .int (l4_32 + 1)), (3, .int 1), (6, .int 0), (5, .int (fa1 (l4_32 : Int32).toNatClampNeg)), (0, .ref qa1), (1, .int l1_32), (2, .int l2_32)]) hx hb dX9_isName_121 hl (k := 3) rfl rfl (by decide) rfl (fun ls hl => ?_)
                        refine lv_goto (tgt := 32) hx hb dX9_isName_124 (by decide) ?_
                        exact ih_32 H locs ls l1_32 l2_32 1 (l4_32 + 1) (lv_sub hl [0, 1, 4, 5, 6] rfl) hS (hD.sub (ws' := [(qa1, .inl (ca1, na1, .inl fa1))]) [0] (by decide) rfl) (hP.sub (ws' := [(qa1, .inl (ca1, na1, .inl fa1))]) [0] rfl) hsp
              · rw [if_neg c_23] at hsp
                refine lv_iload hx hb dX9_isName_69 (lv_at hl 0 rfl) ?_
                refine lv_bipush (v := 90) hx hb dX9_isName_71 (by decide) ?_
                refine lv_icmp_gt (tgt := 80) hx hb dX9_isName_73 (by decide) (fun c_30 => ?_) (fun c_30 => ?_)
                · rw [if_pos c_30] at hsp
                  refine lv_iconst (v := 0) hx hb dX9_isName_80 (by decide) ?_
                  refine lv_istore (lv' := [(6, .int 0), (5, .int (fa1 (l4_32 : Int32).toNatClampNeg)), (4, .int l4_32), (3, .int l3_32), (0, .ref qa1), (1, .int l1_32), (2, .int l2_32)]) hx hb dX9_isName_81 hl (by decide) rfl (fun ls hl => ?_)
                  refine lv_iload hx hb dX9_isName_83 (lv_at hl 0 rfl) ?_
                  refine lv_if_ne (tgt := 115) hx hb dX9_isName_85 (by decide) (fun c_31 => (show False by revert c_31; decide).elim) (fun c_31 => ?_)
                  refine lv_iload hx hb dX9_isName_88 (lv_at hl 2 rfl) ?_
                  refine lv_iload_n hx hb dX9_isName_90 rfl (lv_at hl 5 rfl) ?_
                  refine lv_icmp_le (tgt := 119) hx hb dX9_isName_91 (by decide) (fun c_32 => ?_) (fun c_32 => ?_)
                  · rw [if_pos c_32] at hsp
                    refine lv_iconst (v := 0) hx hb dX9_isName_119 (by decide) ?_
                    refine lv_istore_n (lv' := [(3, .int 0), (6, .int 0), (5, .int (fa1 (l4_32 : Int32).toNatClampNeg)), (4, .int l4_32), (0, .ref qa1), (1, .int l1_32), (2, .int l2_32)]) hx hb dX9_isName_120 rfl hl (by decide) rfl (fun ls hl => ?_)
                    refine lv_iinc (v := (l4_32 + 1)) (lv' := [(4, .int (l4_32 + 1)), (3, .int 0), (6, .int 0), (5, .int (fa1 (l4_32 : Int32).toNatClampNeg)), (0, .ref qa1), (1, .int l1_32), (2, .int l2_32)]) hx hb dX9_isName_121 hl (k := 3) rfl rfl (by decide) rfl (fun ls hl => ?_)
                    refine lv_goto (tgt := 32) hx hb dX9_isName_124 (by decide) ?_
                    exact ih_32 H locs ls l1_32 l2_32 0 (l4_32 + 1) (lv_sub hl [0, 1, 4, 5, 6] rfl) hS (hD.sub (ws' := [(qa1, .inl (ca1, na1, .inl fa1))]) [0] (by decide) rfl) (hP.sub (ws' := [(qa1, .inl (ca1, na1, .inl fa1))]) [0] rfl) hsp
                  · rw [if_neg c_32] at hsp
                    refine lv_iload hx hb dX9_isName_94 (lv_at hl 1 rfl) ?_
                    refine lv_bipush (v := 48) hx hb dX9_isName_96 (by decide) ?_
                    refine lv_icmp_lt (tgt := 108) hx hb dX9_isName_98 (by decide) (fun c_33 => ?_) (fun c_33 => ?_)
                    · rw [if_pos c_33] at hsp
                      refine lv_iload hx hb dX9_isName_108 (lv_at hl 1 rfl) ?_
                      refine lv_bipush (v := 95) hx hb dX9_isName_110 (by decide) ?_
                      refine lv_icmp_ne (tgt := 119) hx hb dX9_isName_112 (by decide) (fun c_34 => ?_) (fun c_34 => ?_)
                      · rw [if_neg c_34] at hsp
                        refine lv_iconst (v := 0) hx hb dX9_isName_119 (by decide) ?_
                        refine lv_istore_n (lv' := [(3, .int 0), (6, .int 0), (5, .int (fa1 (l4_32 : Int32).toNatClampNeg)), (4, .int l4_32), (0, .ref qa1), (1, .int l1_32), (2, .int l2_32)]) hx hb dX9_isName_120 rfl hl (by decide) rfl (fun ls hl => ?_)
                        refine lv_iinc (v := (l4_32 + 1)) (lv' := [(4, .int (l4_32 + 1)), (3, .int 0), (6, .int 0), (5, .int (fa1 (l4_32 : Int32).toNatClampNeg)), (0, .ref qa1), (1, .int l1_32), (2, .int l2_32)]) hx hb dX9_isName_121 hl (k := 3) rfl rfl (by decide) rfl (fun ls hl => ?_)
                        refine lv_goto (tgt := 32) hx hb dX9_isName_124 (by decide) ?_
                        exact ih_32 H locs ls l1_32 l2_32 0 (l4_32 + 1) (lv_sub hl [0, 1, 4, 5, 6] rfl) hS (hD.sub (ws' := [(qa1, .inl (ca1, na1, .inl fa1))]) [0] (by decide) rfl) (hP.sub (ws' := [(qa1, .inl (ca1, na1, .inl fa1))]) [0] rfl) hsp
                      · rw [if_pos c_34] at hsp
                        refine lv_iconst (v := 1) hx hb dX9_isName_115 (by decide) ?_
                        refine lv_goto (tgt := 120) hx hb dX9_isName_116 (by decide) ?_
                        refine lv_istore_n (lv' := [(3, .int 1), (6, .int 0), (5, .int (fa1 (l4_32 : Int32).toNatClampNeg)), (4, .int l4_32), (0, .ref qa1), (1, .int l1_32), (2, .int l2_32)]) hx hb dX9_isName_120 rfl hl (by decide) rfl (fun ls hl => ?_)
                        refine lv_iinc (v := (l4_32 + 1)) (lv' := [(4, .int (l4_32 + 1)), (3, .int 1), (6, .int 0), (5, .int (fa1 (l4_32 : Int32).toNatClampNeg)), (0, .ref qa1), (1, .int l1_32), (2, .int l2_32)]) hx hb dX9_isName_121 hl (k := 3) rfl rfl (by decide) rfl (fun ls hl => ?_)
                        refine lv_goto (tgt := 32) hx hb dX9_isName_124 (by decide) ?_
                        exact ih_32 H locs ls l1_32 l2_32 1 (l4_32 + 1) (lv_sub hl [0, 1, 4, 5, 6] rfl) hS (hD.sub (ws' := [(qa1, .inl (ca1, na1, .inl fa1))]) [0] (by decide) rfl) (hP.sub (ws' := [(qa1, .inl (ca1, na1, .inl fa1))]) [0] rfl) hsp
                    · rw [if_neg c_33] at hsp
                      refine lv_iload hx hb dX9_isName_101 (lv_at hl 1 rfl) ?_
                      refine lv_bipush (v := 57) hx hb dX9_isName_103 (by decide) ?_
                      refine lv_icmp_le (tgt := 115) hx hb dX9_isName_105 (by decide) (fun c_35 => ?_) (fun c_35 => ?_)
                      · rw [if_pos c_35] at hsp
                        refine lv_iconst (v := 1) hx hb dX9_isName_115 (by decide) ?_
                        refine lv_goto (tgt := 120) hx hb dX9_isName_116 (by decide) ?_
                        refine lv_istore_n (lv' := [(3, .int 1), (6, .int 0), (5, .int (fa1 (l4_32 : Int32).toNatClampNeg)), (4, .int l4_32), (0, .ref qa1), (1, .int l1_32), (2, .int l2_32)]) hx hb dX9_isName_120 rfl hl (by decide) rfl (fun ls hl => ?_)
                        refine lv_iinc (v := (l4_32 + 1)) (lv' := [(4, .int (l4_32 + 1)), (3, .int 1), (6, .int 0), (5, .int (fa1 (l4_32 : Int32).toNatClampNeg)), (0, .ref qa1), (1, .int l1_32), (2, .int l2_32)]) hx hb dX9_isName_121 hl (k := 3) rfl rfl (by decide) rfl (fun ls hl => ?_)
                        refine lv_goto (tgt := 32) hx hb dX9_isName_124 (by decide) ?_
                        exact ih_32 H locs ls l1_32 l2_32 1 (l4_32 + 1) (lv_sub hl [0, 1, 4, 5, 6] rfl) hS (hD.sub (ws' := [(qa1, .inl (ca1, na1, .inl fa1))]) [0] (by decide) rfl) (hP.sub (ws' := [(qa1, .inl (ca1, na1, .inl fa1))]) [0] rfl) hsp
                      · rw [if_neg c_35] at hsp
                        refine lv_iload hx hb dX9_isName_108 (lv_at hl 1 rfl) ?_
                        refine lv_bipush (v := 95) hx hb dX9_isName_110 (by decide) ?_
                        refine lv_icmp_ne (tgt := 119) hx hb dX9_isName_112 (by decide) (fun c_36 => ?_) (fun c_36 => ?_)
                        · rw [if_neg c_36] at hsp
                          refine lv_iconst (v := 0) hx hb dX9_isName_119 (by decide) ?_
                          refine lv_istore_n (lv' := [(3, .int 0), (6, .int 0), (5, .int (fa1 (l4_32 : Int32).toNatClampNeg)), (4, .int l4_32), (0, .ref qa1), (1, .int l1_32), (2, .int l2_32)]) hx hb dX9_isName_120 rfl hl (by decide) rfl (fun ls hl => ?_)
                          refine lv_iinc (v := (l4_32 + 1)) (lv' := [(4, .int (l4_32 + 1)), (3, .int 0), (6, .int 0), (5, .int (fa1 (l4_32 : Int32).toNatClampNeg)), (0, .ref qa1), (1, .int l1_32), (2, .int l2_32)]) hx hb dX9_isName_121 hl (k := 3) rfl rfl (by decide) rfl (fun ls hl => ?_)
                          refine lv_goto (tgt := 32) hx hb dX9_isName_124 (by decide) ?_
                          exact ih_32 H locs ls l1_32 l2_32 0 (l4_32 + 1) (lv_sub hl [0, 1, 4, 5, 6] rfl) hS (hD.sub (ws' := [(qa1, .inl (ca1, na1, .inl fa1))]) [0] (by decide) rfl) (hP.sub (ws' := [(qa1, .inl (ca1, na1, .inl fa1))]) [0] rfl) hsp
                        · rw [if_pos c_36] at hsp
                          refine lv_iconst (v := 1) hx hb dX9_isName_115 (by decide) ?_
                          refine lv_goto (tgt := 120) hx hb dX9_isName_116 (by decide) ?_
                          refine lv_istore_n (lv' := [(3, .int 1), (6, .int 0), (5, .int (fa1 (l4_32 : Int32).toNatClampNeg)), (4, .int l4_32), (0, .ref qa1), (1, .int l1_32), (2, .int l2_32)]) hx hb dX9_isName_120 rfl hl (by decide) rfl (fun ls hl => ?_)
                          refine lv_iinc (v := (l4_32 + 1)) (lv' := [(4, .int (l4_32 + 1)), (3, .int 1), (6, .int 0), (5, .int (fa1 (l4_32 : Int32).toNatClampNeg)), (0, .ref qa1), (1, .int l1_32), (2, .int l2_32)]) hx hb dX9_isName_121 hl (k := 3) rfl rfl (by decide) rfl (fun ls hl => ?_)
                          refine lv_goto (tgt := 32) hx hb dX9_isName_124 (by decide) ?_
                          exact ih_32 H locs ls l1_32 l2_32 1 (l4_32 + 1) (lv_sub hl [0, 1, 4, 5, 6] rfl) hS (hD.sub (ws' := [(qa1, .inl (ca1, na1, .inl fa1))]) [0] (by decide) rfl) (hP.sub (ws' := [(qa1, .inl (ca1, na1, .inl fa1))]) [0] rfl) hsp
                · rw [if_neg c_30] at hsp
                  refine lv_iconst (v := 1) hx hb dX9_isName_76 (by decide) ?_
                  refine lv_goto (tgt := 81) hx hb dX9_isName_77 (by decide) ?_
                  refine lv_istore (lv' := [(6, .int 1), (5, .int (fa1 (l4_32 : Int32).toNatClampNeg)), (4, .int l4_32), (3, .int l3_32), (0, .ref qa1), (1, .int l1_32), (2, .int l2_32)]) hx hb dX9_isName_81 hl (by decide) rfl (fun ls hl => ?_)
                  refine lv_iload hx hb dX9_isName_83 (lv_at hl 0 rfl) ?_
                  refine lv_if_ne (tgt := 115) hx hb dX9_isName_85 (by decide) (fun c_37 => ?_) (fun c_37 => (show False by revert c_37; decide).elim)
                  refine lv_iconst (v := 1) hx hb dX9_isName_115 (by decide) ?_
                  refine lv_goto (tgt := 120) hx hb dX9_isName_116 (by decide) ?_
                  refine lv_istore_n (lv' := [(3, .int 1), (6, .int 1), (5, .int (fa1 (l4_32 : Int32).toNatClampNeg)), (4, .int l4_32), (0, .ref qa1), (1, .int l1_32), (2, .int l2_32)]) hx hb dX9_isName_120 rfl hl (by decide) rfl (fun ls hl => ?_)
                  refine lv_iinc (v := (l4_32 + 1)) (lv' := [(4, .int (l4_32 + 1)), (3, .int 1), (6, .int 1), (5, .int (fa1 (l4_32 : Int32).toNatClampNeg)), (0, .ref qa1), (1, .int l1_32), (2, .int l2_32)]) hx hb dX9_isName_121 hl (k := 3) rfl rfl (by decide) rfl (fun ls hl => ?_)
                  refine lv_goto (tgt := 32) hx hb dX9_isName_124 (by decide) ?_
                  exact ih_32 H locs ls l1_32 l2_32 1 (l4_32 + 1) (lv_sub hl [0, 1, 4, 5, 6] rfl) hS (hD.sub (ws' := [(qa1, .inl (ca1, na1, .inl fa1))]) [0] (by decide) rfl) (hP.sub (ws' := [(qa1, .inl (ca1, na1, .inl fa1))]) [0] rfl) hsp
  · rw [if_neg c_1] at hsp
    refine lv_iload_n hx hb dX9_isName_4 rfl (lv_at hl 1 rfl) ?_
    refine lv_iload_n hx hb dX9_isName_5 rfl (lv_at hl 2 rfl) ?_
    refine lv_icmp_ge (tgt := 27) hx hb dX9_isName_6 (by decide) (fun c_38 => ?_) (fun c_38 => ?_)
    · rw [if_pos c_38] at hsp
      refine lv_iconst (v := 0) hx hb dX9_isName_27 (by decide) ?_
      refine lv_istore_n (lv' := [(3, .int 0), (0, .ref qa1), (1, .int a2), (2, .int a3)]) hx hb dX9_isName_28 rfl hl (by decide) rfl (fun ls hl => ?_)
      refine lv_iload_n hx hb dX9_isName_29 rfl (lv_at hl 2 rfl) ?_
      refine lv_istore (lv' := [(4, .int a2), (3, .int 0), (0, .ref qa1), (1, .int a2), (2, .int a3)]) hx hb dX9_isName_30 hl (by decide) rfl (fun ls hl => ?_)
      replace hP := hP.sub (ws' := [(qa1, .inl (ca1, na1, .inl fa1))]) [0] rfl
      replace hD := hD.sub (ws' := [(qa1, .inl (ca1, na1, .inl fa1))]) [0] (by decide) rfl
      replace hK := hK.sub (tys' := [(ca1, .byte)]) [0] rfl
      obtain ⟨n_32, hn_32⟩ : ∃ z : Nat, z = nf := ⟨_, rfl⟩
      obtain ⟨l1_32, el1_32⟩ : ∃ z : Int32, z = a2 := ⟨_, rfl⟩
      obtain ⟨l2_32, el2_32⟩ : ∃ z : Int32, z = a3 := ⟨_, rfl⟩
      obtain ⟨l3_32, el3_32⟩ : ∃ z : Int32, z = 0 := ⟨_, rfl⟩
      obtain ⟨l4_32, el4_32⟩ : ∃ z : Int32, z = a2 := ⟨_, rfl⟩
      replace hsp : lp_t9_isName_32 nf n_32 a2 a3 na1 fa1 l1_32 l2_32 l3_32 l4_32 = some r0 := by rw [hn_32, el1_32, el2_32, el3_32, el4_32]; exact hsp
      replace hl : lv_has ls 7 [(4, .int l4_32), (3, .int l3_32), (0, .ref qa1), (1, .int l1_32), (2, .int l2_32)] := by rw [el1_32, el2_32, el3_32, el4_32]; exact hl
      clear hn_32 el1_32 el2_32 el3_32 el4_32
      try clear hlo
      try clear hH
      revert hsp
      revert hP
      revert hD
      revert hS
      revert hl
      revert l4_32
      revert l3_32
      revert l2_32
      revert l1_32
      revert ls
      revert locs
      revert H
      induction n_32 with
      | zero => intro H locs ls l1_32 l2_32 l3_32 l4_32 hl hS hD hP hsp; unfold lp_t9_isName_32 at hsp; cases hsp
      | succ n_32 ih_32 =>
        intro H locs ls l1_32 l2_32 l3_32 l4_32 hl hS hD hP hsp
        unfold lp_t9_isName_32 at hsp
        try dsimp only at hsp
        refine lv_iload hx hb dX9_isName_32 (lv_at hl 0 rfl) ?_
        refine lv_iload_n hx hb dX9_isName_34 rfl (lv_at hl 4 rfl) ?_
        refine lv_icmp_ge (tgt := 127) hx hb dX9_isName_35 (by decide) (fun c_39 => ?_) (fun c_39 => ?_)
        · rw [if_pos c_39] at hsp
          refine lv_iload_n hx hb dX9_isName_127 rfl (lv_at hl 1 rfl) ?_
          rcases ox_01 hsp with ⟨rfl, hsp⟩ | ⟨rfl, hsp⟩
          · skip
            have hr0 := Option.some.inj hsp
            clear hsp
            subst hr0
            have hP9 := hP.sub (ws' := [(qa1, .inl (ca1, na1, .inl fa1))]) [0] rfl
            have hD9 := hD.sub (ws' := [(qa1, .inl (ca1, na1, .inl fa1))]) [0] (by decide) rfl
            have hK9 := hK.sub (tys' := [(ca1, .byte)]) [0] rfl
            exact W.zret hx hb hr (by decide) (fun t ht hW => ⟨⟨(0), (), rfl, ⟨rfl, Or.inl rfl⟩, by rw [ht]; exact hP9, va_K.moved hW.alike hK9, hD9⟩, hS.F ht⟩) hS.2.2 dX9_isName_128
          · skip
            have hr0 := Option.some.inj hsp
            clear hsp
            subst hr0
            have hP9 := hP.sub (ws' := [(qa1, .inl (ca1, na1, .inl fa1))]) [0] rfl
            have hD9 := hD.sub (ws' := [(qa1, .inl (ca1, na1, .inl fa1))]) [0] (by decide) rfl
            have hK9 := hK.sub (tys' := [(ca1, .byte)]) [0] rfl
            exact W.zret hx hb hr (by decide) (fun t ht hW => ⟨⟨(1), (), rfl, ⟨rfl, Or.inr rfl⟩, by rw [ht]; exact hP9, va_K.moved hW.alike hK9, hD9⟩, hS.F ht⟩) hS.2.2 dX9_isName_128
        · rw [if_neg c_39] at hsp
          refine lv_iload_n hx hb dX9_isName_38 rfl (lv_at hl 1 rfl) ?_
          refine lv_if_eq (tgt := 127) hx hb dX9_isName_39 (by decide) (fun c_40 => ?_) (fun c_40 => ?_)
          · rw [if_pos c_40] at hsp
            refine lv_iload_n hx hb dX9_isName_127 rfl (lv_at hl 1 rfl) ?_
            rcases ox_01 hsp with ⟨rfl, hsp⟩ | ⟨rfl, hsp⟩
            · skip
              have hr0 := Option.some.inj hsp
              clear hsp
              subst hr0
              have hP9 := hP.sub (ws' := [(qa1, .inl (ca1, na1, .inl fa1))]) [0] rfl
              have hD9 := hD.sub (ws' := [(qa1, .inl (ca1, na1, .inl fa1))]) [0] (by decide) rfl
              have hK9 := hK.sub (tys' := [(ca1, .byte)]) [0] rfl
              exact W.zret hx hb hr (by decide) (fun t ht hW => ⟨⟨(0), (), rfl, ⟨rfl, Or.inl rfl⟩, by rw [ht]; exact hP9, va_K.moved hW.alike hK9, hD9⟩, hS.F ht⟩) hS.2.2 dX9_isName_128
            · skip
              have hr0 := Option.some.inj hsp
              clear hsp
              subst hr0
              have hP9 := hP.sub (ws' := [(qa1, .inl (ca1, na1, .inl fa1))]) [0] rfl
              have hD9 := hD.sub (ws' := [(qa1, .inl (ca1, na1, .inl fa1))]) [0] (by decide) rfl
              have hK9 := hK.sub (tys' := [(ca1, .byte)]) [0] rfl
              exact W.zret hx hb hr (by decide) (fun t ht hW => ⟨⟨(1), (), rfl, ⟨rfl, Or.inr rfl⟩, by rw [ht]; exact hP9, va_K.moved hW.alike hK9, hD9⟩, hS.F ht⟩) hS.2.2 dX9_isName_128
          · rw [if_neg c_40] at hsp
            refine lv_aload_n hx hb dX9_isName_42 rfl (lv_at hl 2 rfl) ?_
            refine lv_iload hx hb dX9_isName_43 (lv_at hl 0 rfl) ?_
            obtain ⟨hi_41, hsp⟩ := ox_in hsp
            refine va_bald hx hb hK hP 0 0 rfl rfl (i := l4_32) hi_41 dX9_isName_45 ?_
            refine lv_istore (lv' := [(5, .int (fa1 (l4_32 : Int32).toNatClampNeg)), (4, .int l4_32), (3, .int l3_32), (0, .ref qa1), (1, .int l1_32), (2, .int l2_32)]) hx hb dX9_isName_46 hl (by decide) rfl (fun ls hl => ?_)
            refine lv_iload hx hb dX9_isName_48 (lv_at hl 0 rfl) ?_
            refine lv_bipush (v := 97) hx hb dX9_isName_50 (by decide) ?_
            refine lv_icmp_lt (tgt := 62) hx hb dX9_isName_52 (by decide) (fun c_42 => ?_) (fun c_42 => ?_)
            · rw [if_pos c_42] at hsp
              refine lv_iload hx hb dX9_isName_62 (lv_at hl 0 rfl) ?_
              refine lv_bipush (v := 65) hx hb dX9_isName_64 (by decide) ?_
              refine lv_icmp_lt (tgt := 80) hx hb dX9_isName_66 (by decide) (fun c_43 => ?_) (fun c_43 => ?_)
              · rw [if_pos c_43] at hsp
                refine lv_iconst (v := 0) hx hb dX9_isName_80 (by decide) ?_
                refine lv_istore (lv' := [(6, .int 0), (5, .int (fa1 (l4_32 : Int32).toNatClampNeg)), (4, .int l4_32), (3, .int l3_32), (0, .ref qa1), (1, .int l1_32), (2, .int l2_32)]) hx hb dX9_isName_81 hl (by decide) rfl (fun ls hl => ?_)
                refine lv_iload hx hb dX9_isName_83 (lv_at hl 0 rfl) ?_
                refine lv_if_ne (tgt := 115) hx hb dX9_isName_85 (by decide) (fun c_44 => (show False by revert c_44; decide).elim) (fun c_44 => ?_)
                refine lv_iload hx hb dX9_isName_88 (lv_at hl 2 rfl) ?_
                refine lv_iload_n hx hb dX9_isName_90 rfl (lv_at hl 5 rfl) ?_
                refine lv_icmp_le (tgt := 119) hx hb dX9_isName_91 (by decide) (fun c_45 => ?_) (fun c_45 => ?_)
                · rw [if_pos c_45] at hsp
                  refine lv_iconst (v := 0) hx hb dX9_isName_119 (by decide) ?_
                  refine lv_istore_n (lv' := [(3, .int 0), (6, .int 0), (5, .int (fa1 (l4_32 : Int32).toNatClampNeg)), (4, .int l4_32), (0, .ref qa1), (1, .int l1_32), (2, .int l2_32)]) hx hb dX9_isName_120 rfl hl (by decide) rfl (fun ls hl => ?_)
                  refine lv_iinc (v := (l4_32 + 1)) (lv' := [(4, .int (l4_32 + 1)), (3, .int 0), (6, .int 0), (5, .int (fa1 (l4_32 : Int32).toNatClampNeg)), (0, .ref qa1), (1, .int l1_32), (2, .int l2_32)]) hx hb dX9_isName_121 hl (k := 3) rfl rfl (by decide) rfl (fun ls hl => ?_)
                  refine lv_goto (tgt := 32) hx hb dX9_isName_124 (by decide) ?_
                  exact ih_32 H locs ls l1_32 l2_32 0 (l4_32 + 1) (lv_sub hl [0, 1, 4, 5, 6] rfl) hS (hD.sub (ws' := [(qa1, .inl (ca1, na1, .inl fa1))]) [0] (by decide) rfl) (hP.sub (ws' := [(qa1, .inl (ca1, na1, .inl fa1))]) [0] rfl) hsp
                · rw [if_neg c_45] at hsp
                  refine lv_iload hx hb dX9_isName_94 (lv_at hl 1 rfl) ?_
                  refine lv_bipush (v := 48) hx hb dX9_isName_96 (by decide) ?_
                  refine lv_icmp_lt (tgt := 108) hx hb dX9_isName_98 (by decide) (fun c_46 => ?_) (fun c_46 => ?_)
                  · rw [if_pos c_46] at hsp
                    refine lv_iload hx hb dX9_isName_108 (lv_at hl 1 rfl) ?_
                    refine lv_bipush (v := 95) hx hb dX9_isName_110 (by decide) ?_
                    refine lv_icmp_ne (tgt := 119) hx hb dX9_isName_112 (by decide) (fun c_47 => ?_) (fun c_47 => ?_)
                    · rw [if_neg c_47] at hsp
                      refine lv_iconst (v := 0) hx hb dX9_isName_119 (by decide) ?_
                      refine lv_istore_n (lv' := [(3, .int 0), (6, .int 0), (5, .int (fa1 (l4_32 : Int32).toNatClampNeg)), (4, .int l4_32), (0, .ref qa1), (1, .int l1_32), (2, .int l2_32)]) hx hb dX9_isName_120 rfl hl (by decide) rfl (fun ls hl => ?_)
                      refine lv_iinc (v := (l4_32 + 1)) (lv' := [(4, .int (l4_32 + 1)), (3, .int 0), (6, .int 0), (5, .int (fa1 (l4_32 : Int32).toNatClampNeg)), (0, .ref qa1), (1, .int l1_32), (2, .int l2_32)]) hx hb dX9_isName_121 hl (k := 3) rfl rfl (by decide) rfl (fun ls hl => ?_)
                      refine lv_goto (tgt := 32) hx hb dX9_isName_124 (by decide) ?_
                      exact ih_32 H locs ls l1_32 l2_32 0 (l4_32 + 1) (lv_sub hl [0, 1, 4, 5, 6] rfl) hS (hD.sub (ws' := [(qa1, .inl (ca1, na1, .inl fa1))]) [0] (by decide) rfl) (hP.sub (ws' := [(qa1, .inl (ca1, na1, .inl fa1))]) [0] rfl) hsp
                    · rw [if_pos c_47] at hsp
                      refine lv_iconst (v := 1) hx hb dX9_isName_115 (by decide) ?_
                      refine lv_goto (tgt := 120) hx hb dX9_isName_116 (by decide) ?_
                      refine lv_istore_n (lv' := [(3, .int 1), (6, .int 0), (5, .int (fa1 (l4_32 : Int32).toNatClampNeg)), (4, .int l4_32), (0, .ref qa1), (1, .int l1_32), (2, .int l2_32)]) hx hb dX9_isName_120 rfl hl (by decide) rfl (fun ls hl => ?_)
                      refine lv_iinc (v := (l4_32 + 1)) (lv' := [(4, .int (l4_32 + 1)), (3, .int 1), (6, .int 0), (5, .int (fa1 (l4_32 : Int32).toNatClampNeg)), (0, .ref qa1), (1, .int l1_32), (2, .int l2_32)]) hx hb dX9_isName_121 hl (k := 3) rfl rfl (by decide) rfl (fun ls hl => ?_)
                      refine lv_goto (tgt := 32) hx hb dX9_isName_124 (by decide) ?_
                      exact ih_32 H locs ls l1_32 l2_32 1 (l4_32 + 1) (lv_sub hl [0, 1, 4, 5, 6] rfl) hS (hD.sub (ws' := [(qa1, .inl (ca1, na1, .inl fa1))]) [0] (by decide) rfl) (hP.sub (ws' := [(qa1, .inl (ca1, na1, .inl fa1))]) [0] rfl) hsp
                  · rw [if_neg c_46] at hsp
                    refine lv_iload hx hb dX9_isName_101 (lv_at hl 1 rfl) ?_
                    refine lv_bipush (v := 57) hx hb dX9_isName_103 (by decide) ?_
                    refine lv_icmp_le (tgt := 115) hx hb dX9_isName_105 (by decide) (fun c_48 => ?_) (fun c_48 => ?_)
                    · rw [if_pos c_48] at hsp
                      refine lv_iconst (v := 1) hx hb dX9_isName_115 (by decide) ?_
                      refine lv_goto (tgt := 120) hx hb dX9_isName_116 (by decide) ?_
                      refine lv_istore_n (lv' := [(3, .int 1), (6, .int 0), (5, .int (fa1 (l4_32 : Int32).toNatClampNeg)), (4, .int l4_32), (0, .ref qa1), (1, .int l1_32), (2, .int l2_32)]) hx hb dX9_isName_120 rfl hl (by decide) rfl (fun ls hl => ?_)
                      refine lv_iinc (v := (l4_32 + 1)) (lv' := [(4, .int (l4_32 + 1)), (3, .int 1), (6, .int 0), (5, .int (fa1 (l4_32 : Int32).toNatClampNeg)), (0, .ref qa1), (1, .int l1_32), (2, .int l2_32)]) hx hb dX9_isName_121 hl (k := 3) rfl rfl (by decide) rfl (fun ls hl => ?_)
                      refine lv_goto (tgt := 32) hx hb dX9_isName_124 (by decide) ?_
                      exact ih_32 H locs ls l1_32 l2_32 1 (l4_32 + 1) (lv_sub hl [0, 1, 4, 5, 6] rfl) hS (hD.sub (ws' := [(qa1, .inl (ca1, na1, .inl fa1))]) [0] (by decide) rfl) (hP.sub (ws' := [(qa1, .inl (ca1, na1, .inl fa1))]) [0] rfl) hsp
                    · rw [if_neg c_48] at hsp
                      refine lv_iload hx hb dX9_isName_108 (lv_at hl 1 rfl) ?_
                      refine lv_bipush (v := 95) hx hb dX9_isName_110 (by decide) ?_
                      refine lv_icmp_ne (tgt := 119) hx hb dX9_isName_112 (by decide) (fun c_49 => ?_) (fun c_49 => ?_)
                      · rw [if_neg c_49] at hsp
                        refine lv_iconst (v := 0) hx hb dX9_isName_119 (by decide) ?_
                        refine lv_istore_n (lv' := [(3, .int 0), (6, .int 0), (5, .int (fa1 (l4_32 : Int32).toNatClampNeg)), (4, .int l4_32), (0, .ref qa1), (1, .int l1_32), (2, .int l2_32)]) hx hb dX9_isName_120 rfl hl (by decide) rfl (fun ls hl => ?_)
                        refine lv_iinc (v := (l4_32 + 1)) (lv' := [(4, .int (l4_32 + 1)), (3, .int 0), (6, .int 0), (5, .int (fa1 (l4_32 : Int32).toNatClampNeg)), (0, .ref qa1), (1, .int l1_32), (2, .int l2_32)]) hx hb dX9_isName_121 hl (k := 3) rfl rfl (by decide) rfl (fun ls hl => ?_)
                        refine lv_goto (tgt := 32) hx hb dX9_isName_124 (by decide) ?_
                        exact ih_32 H locs ls l1_32 l2_32 0 (l4_32 + 1) (lv_sub hl [0, 1, 4, 5, 6] rfl) hS (hD.sub (ws' := [(qa1, .inl (ca1, na1, .inl fa1))]) [0] (by decide) rfl) (hP.sub (ws' := [(qa1, .inl (ca1, na1, .inl fa1))]) [0] rfl) hsp
                      · rw [if_pos c_49] at hsp
                        refine lv_iconst (v := 1) hx hb dX9_isName_115 (by decide) ?_
                        refine lv_goto (tgt := 120) hx hb dX9_isName_116 (by decide) ?_
                        refine lv_istore_n (lv' := [(3, .int 1), (6, .int 0), (5, .int (fa1 (l4_32 : Int32).toNatClampNeg)), (4, .int l4_32), (0, .ref qa1), (1, .int l1_32), (2, .int l2_32)]) hx hb dX9_isName_120 rfl hl (by decide) rfl (fun ls hl => ?_)
                        refine lv_iinc (v := (l4_32 + 1)) (lv' := [(4, .int (l4_32 + 1)), (3, .int 1), (6, .int 0), (5, .int (fa1 (l4_32 : Int32).toNatClampNeg)), (0, .ref qa1), (1, .int l1_32), (2, .int l2_32)]) hx hb dX9_isName_121 hl (k := 3) rfl rfl (by decide) rfl (fun ls hl => ?_)
                        refine lv_goto (tgt := 32) hx hb dX9_isName_124 (by decide) ?_
                        exact ih_32 H locs ls l1_32 l2_32 1 (l4_32 + 1) (lv_sub hl [0, 1, 4, 5, 6] rfl) hS (hD.sub (ws' := [(qa1, .inl (ca1, na1, .inl fa1))]) [0] (by decide) rfl) (hP.sub (ws' := [(qa1, .inl (ca1, na1, .inl fa1))]) [0] rfl) hsp
              · rw [if_neg c_43] at hsp
                refine lv_iload hx hb dX9_isName_69 (lv_at hl 0 rfl) ?_
                refine lv_bipush (v := 90) hx hb dX9_isName_71 (by decide) ?_
                refine lv_icmp_gt (tgt := 80) hx hb dX9_isName_73 (by decide) (fun c_50 => ?_) (fun c_50 => ?_)
                · rw [if_pos c_50] at hsp
                  refine lv_iconst (v := 0) hx hb dX9_isName_80 (by decide) ?_
                  refine lv_istore (lv' := [(6, .int 0), (5, .int (fa1 (l4_32 : Int32).toNatClampNeg)), (4, .int l4_32), (3, .int l3_32), (0, .ref qa1), (1, .int l1_32), (2, .int l2_32)]) hx hb dX9_isName_81 hl (by decide) rfl (fun ls hl => ?_)
                  refine lv_iload hx hb dX9_isName_83 (lv_at hl 0 rfl) ?_
                  refine lv_if_ne (tgt := 115) hx hb dX9_isName_85 (by decide) (fun c_51 => (show False by revert c_51; decide).elim) (fun c_51 => ?_)
                  refine lv_iload hx hb dX9_isName_88 (lv_at hl 2 rfl) ?_
                  refine lv_iload_n hx hb dX9_isName_90 rfl (lv_at hl 5 rfl) ?_
                  refine lv_icmp_le (tgt := 119) hx hb dX9_isName_91 (by decide) (fun c_52 => ?_) (fun c_52 => ?_)
                  · rw [if_pos c_52] at hsp
                    refine lv_iconst (v := 0) hx hb dX9_isName_119 (by decide) ?_
                    refine lv_istore_n (lv' := [(3, .int 0), (6, .int 0), (5, .int (fa1 (l4_32 : Int32).toNatClampNeg)), (4, .int l4_32), (0, .ref qa1), (1, .int l1_32), (2, .int l2_32)]) hx hb dX9_isName_120 rfl hl (by decide) rfl (fun ls hl => ?_)
                    refine lv_iinc (v := (l4_32 + 1)) (lv' := [(4, .int (l4_32 + 1)), (3, .int 0), (6, .int 0), (5, .int (fa1 (l4_32 : Int32).toNatClampNeg)), (0, .ref qa1), (1, .int l1_32), (2, .int l2_32)]) hx hb dX9_isName_121 hl (k := 3) rfl rfl (by decide) rfl (fun ls hl => ?_)
                    refine lv_goto (tgt := 32) hx hb dX9_isName_124 (by decide) ?_
                    exact ih_32 H locs ls l1_32 l2_32 0 (l4_32 + 1) (lv_sub hl [0, 1, 4, 5, 6] rfl) hS (hD.sub (ws' := [(qa1, .inl (ca1, na1, .inl fa1))]) [0] (by decide) rfl) (hP.sub (ws' := [(qa1, .inl (ca1, na1, .inl fa1))]) [0] rfl) hsp
                  · rw [if_neg c_52] at hsp
                    refine lv_iload hx hb dX9_isName_94 (lv_at hl 1 rfl) ?_
                    refine lv_bipush (v := 48) hx hb dX9_isName_96 (by decide) ?_
                    refine lv_icmp_lt (tgt := 108) hx hb dX9_isName_98 (by decide) (fun c_53 => ?_) (fun c_53 => ?_)
                    · rw [if_pos c_53] at hsp
                      refine lv_iload hx hb dX9_isName_108 (lv_at hl 1 rfl) ?_
                      refine lv_bipush (v := 95) hx hb dX9_isName_110 (by decide) ?_
                      refine lv_icmp_ne (tgt := 119) hx hb dX9_isName_112 (by decide) (fun c_54 => ?_) (fun c_54 => ?_)
                      · rw [if_neg c_54] at hsp
                        refine lv_iconst (v := 0) hx hb dX9_isName_119 (by decide) ?_
                        refine lv_istore_n (lv' := [(3, .int 0), (6, .int 0), (5, .int (fa1 (l4_32 : Int32).toNatClampNeg)), (4, .int l4_32), (0, .ref qa1), (1, .int l1_32), (2, .int l2_32)]) hx hb dX9_isName_120 rfl hl (by decide) rfl (fun ls hl => ?_)
                        refine lv_iinc (v := (l4_32 + 1)) (lv' := [(4, .int (l4_32 + 1)), (3, .int 0), (6, .int 0), (5, .int (fa1 (l4_32 : Int32).toNatClampNeg)), (0, .ref qa1), (1, .int l1_32), (2, .int l2_32)]) hx hb dX9_isName_121 hl (k := 3) rfl rfl (by decide) rfl (fun ls hl => ?_)
                        refine lv_goto (tgt := 32) hx hb dX9_isName_124 (by decide) ?_
                        exact ih_32 H locs ls l1_32 l2_32 0 (l4_32 + 1) (lv_sub hl [0, 1, 4, 5, 6] rfl) hS (hD.sub (ws' := [(qa1, .inl (ca1, na1, .inl fa1))]) [0] (by decide) rfl) (hP.sub (ws' := [(qa1, .inl (ca1, na1, .inl fa1))]) [0] rfl) hsp
                      · rw [if_pos c_54] at hsp
                        refine lv_iconst (v := 1) hx hb dX9_isName_115 (by decide) ?_
                        refine lv_goto (tgt := 120) hx hb dX9_isName_116 (by decide) ?_
                        refine lv_istore_n (lv' := [(3, .int 1), (6, .int 0), (5, .int (fa1 (l4_32 : Int32).toNatClampNeg)), (4, .int l4_32), (0, .ref qa1), (1, .int l1_32), (2, .int l2_32)]) hx hb dX9_isName_120 rfl hl (by decide) rfl (fun ls hl => ?_)
                        refine lv_iinc (v := (l4_32 + 1)) (lv' := [(4, .int (l4_32 + 1)), (3, .int 1), (6, .int 0), (5, .int (fa1 (l4_32 : Int32).toNatClampNeg)), (0, .ref qa1), (1, .int l1_32), (2, .int l2_32)]) hx hb dX9_isName_121 hl (k := 3) rfl rfl (by decide) rfl (fun ls hl => ?_)
                        refine lv_goto (tgt := 32) hx hb dX9_isName_124 (by decide) ?_
                        exact ih_32 H locs ls l1_32 l2_32 1 (l4_32 + 1) (lv_sub hl [0, 1, 4, 5, 6] rfl) hS (hD.sub (ws' := [(qa1, .inl (ca1, na1, .inl fa1))]) [0] (by decide) rfl) (hP.sub (ws' := [(qa1, .inl (ca1, na1, .inl fa1))]) [0] rfl) hsp
                    · rw [if_neg c_53] at hsp
                      refine lv_iload hx hb dX9_isName_101 (lv_at hl 1 rfl) ?_
                      refine lv_bipush (v := 57) hx hb dX9_isName_103 (by decide) ?_
                      refine lv_icmp_le (tgt := 115) hx hb dX9_isName_105 (by decide) (fun c_55 => ?_) (fun c_55 => ?_)
                      · rw [if_pos c_55] at hsp
                        refine lv_iconst (v := 1) hx hb dX9_isName_115 (by decide) ?_
                        refine lv_goto (tgt := 120) hx hb dX9_isName_116 (by decide) ?_
                        refine lv_istore_n (lv' := [(3, .int 1), (6, .int 0), (5, .int (fa1 (l4_32 : Int32).toNatClampNeg)), (4, .int l4_32), (0, .ref qa1), (1, .int l1_32), (2, .int l2_32)]) hx hb dX9_isName_120 rfl hl (by decide) rfl (fun ls hl => ?_)
                        refine lv_iinc (v := (l4_32 + 1)) (lv' := [(4, .int (l4_32 + 1)), (3, .int 1), (6, .int 0), (5, .int (fa1 (l4_32 : Int32).toNatClampNeg)), (0, .ref qa1), (1, .int l1_32), (2, .int l2_32)]) hx hb dX9_isName_121 hl (k := 3) rfl rfl (by decide) rfl (fun ls hl => ?_)
                        refine lv_goto (tgt := 32) hx hb dX9_isName_124 (by decide) ?_
                        exact ih_32 H locs ls l1_32 l2_32 1 (l4_32 + 1) (lv_sub hl [0, 1, 4, 5, 6] rfl) hS (hD.sub (ws' := [(qa1, .inl (ca1, na1, .inl fa1))]) [0] (by decide) rfl) (hP.sub (ws' := [(qa1, .inl (ca1, na1, .inl fa1))]) [0] rfl) hsp
                      · rw [if_neg c_55] at hsp
                        refine lv_iload hx hb dX9_isName_108 (lv_at hl 1 rfl) ?_
                        refine lv_bipush (v := 95) hx hb dX9_isName_110 (by decide) ?_
                        refine lv_icmp_ne (tgt := 119) hx hb dX9_isName_112 (by decide) (fun c_56 => ?_) (fun c_56 => ?_)
                        · rw [if_neg c_56] at hsp
                          refine lv_iconst (v := 0) hx hb dX9_isName_119 (by decide) ?_
                          refine lv_istore_n (lv' := [(3, .int 0), (6, .int 0), (5, .int (fa1 (l4_32 : Int32).toNatClampNeg)), (4, .int l4_32), (0, .ref qa1), (1, .int l1_32), (2, .int l2_32)]) hx hb dX9_isName_120 rfl hl (by decide) rfl (fun ls hl => ?_)
                          refine lv_iinc (v := (l4_32 + 1)) (lv' := [(4, .int (l4_32 + 1)), (3, .int 0), (6, .int 0), (5, .int (fa1 (l4_32 : Int32).toNatClampNeg)), (0, .ref qa1), (1, .int l1_32), (2, .int l2_32)]) hx hb dX9_isName_121 hl (k := 3) rfl rfl (by decide) rfl (fun ls hl => ?_)
                          refine lv_goto (tgt := 32) hx hb dX9_isName_124 (by decide) ?_
                          exact ih_32 H locs ls l1_32 l2_32 0 (l4_32 + 1) (lv_sub hl [0, 1, 4, 5, 6] rfl) hS (hD.sub (ws' := [(qa1, .inl (ca1, na1, .inl fa1))]) [0] (by decide) rfl) (hP.sub (ws' := [(qa1, .inl (ca1, na1, .inl fa1))]) [0] rfl) hsp
                        · rw [if_pos c_56] at hsp
                          refine lv_iconst (v := 1) hx hb dX9_isName_115 (by decide) ?_
                          refine lv_goto (tgt := 120) hx hb dX9_isName_116 (by decide) ?_
                          refine lv_istore_n (lv' := [(3, .int 1), (6, .int 0), (5, .int (fa1 (l4_32 : Int32).toNatClampNeg)), (4, .int l4_32), (0, .ref qa1), (1, .int l1_32), (2, .int l2_32)]) hx hb dX9_isName_120 rfl hl (by decide) rfl (fun ls hl => ?_)
                          refine lv_iinc (v := (l4_32 + 1)) (lv' := [(4, .int (l4_32 + 1)), (3, .int 1), (6, .int 0), (5, .int (fa1 (l4_32 : Int32).toNatClampNeg)), (0, .ref qa1), (1, .int l1_32), (2, .int l2_32)]) hx hb dX9_isName_121 hl (k := 3) rfl rfl (by decide) rfl (fun ls hl => ?_)
                          refine lv_goto (tgt := 32) hx hb dX9_isName_124 (by decide) ?_
                          exact ih_32 H locs ls l1_32 l2_32 1 (l4_32 + 1) (lv_sub hl [0, 1, 4, 5, 6] rfl) hS (hD.sub (ws' := [(qa1, .inl (ca1, na1, .inl fa1))]) [0] (by decide) rfl) (hP.sub (ws' := [(qa1, .inl (ca1, na1, .inl fa1))]) [0] rfl) hsp
                · rw [if_neg c_50] at hsp
                  refine lv_iconst (v := 1) hx hb dX9_isName_76 (by decide) ?_
                  refine lv_goto (tgt := 81) hx hb dX9_isName_77 (by decide) ?_
                  refine lv_istore (lv' := [(6, .int 1), (5, .int (fa1 (l4_32 : Int32).toNatClampNeg)), (4, .int l4_32), (3, .int l3_32), (0, .ref qa1), (1, .int l1_32), (2, .int l2_32)]) hx hb dX9_isName_81 hl (by decide) rfl (fun ls hl => ?_)
                  refine lv_iload hx hb dX9_isName_83 (lv_at hl 0 rfl) ?_
                  refine lv_if_ne (tgt := 115) hx hb dX9_isName_85 (by decide) (fun c_57 => ?_) (fun c_57 => (show False by revert c_57; decide).elim)
                  refine lv_iconst (v := 1) hx hb dX9_isName_115 (by decide) ?_
                  refine lv_goto (tgt := 120) hx hb dX9_isName_116 (by decide) ?_
                  refine lv_istore_n (lv' := [(3, .int 1), (6, .int 1), (5, .int (fa1 (l4_32 : Int32).toNatClampNeg)), (4, .int l4_32), (0, .ref qa1), (1, .int l1_32), (2, .int l2_32)]) hx hb dX9_isName_120 rfl hl (by decide) rfl (fun ls hl => ?_)
                  refine lv_iinc (v := (l4_32 + 1)) (lv' := [(4, .int (l4_32 + 1)), (3, .int 1), (6, .int 1), (5, .int (fa1 (l4_32 : Int32).toNatClampNeg)), (0, .ref qa1), (1, .int l1_32), (2, .int l2_32)]) hx hb dX9_isName_121 hl (k := 3) rfl rfl (by decide) rfl (fun ls hl => ?_)
                  refine lv_goto (tgt := 32) hx hb dX9_isName_124 (by decide) ?_
                  exact ih_32 H locs ls l1_32 l2_32 1 (l4_32 + 1) (lv_sub hl [0, 1, 4, 5, 6] rfl) hS (hD.sub (ws' := [(qa1, .inl (ca1, na1, .inl fa1))]) [0] (by decide) rfl) (hP.sub (ws' := [(qa1, .inl (ca1, na1, .inl fa1))]) [0] rfl) hsp
            · rw [if_neg c_42] at hsp
              refine lv_iload hx hb dX9_isName_55 (lv_at hl 0 rfl) ?_
              refine lv_bipush (v := 122) hx hb dX9_isName_57 (by decide) ?_
              refine lv_icmp_le (tgt := 76) hx hb dX9_isName_59 (by decide) (fun c_58 => ?_) (fun c_58 => ?_)
              · rw [if_pos c_58] at hsp
                refine lv_iconst (v := 1) hx hb dX9_isName_76 (by decide) ?_
                refine lv_goto (tgt := 81) hx hb dX9_isName_77 (by decide) ?_
                refine lv_istore (lv' := [(6, .int 1), (5, .int (fa1 (l4_32 : Int32).toNatClampNeg)), (4, .int l4_32), (3, .int l3_32), (0, .ref qa1), (1, .int l1_32), (2, .int l2_32)]) hx hb dX9_isName_81 hl (by decide) rfl (fun ls hl => ?_)
                refine lv_iload hx hb dX9_isName_83 (lv_at hl 0 rfl) ?_
                refine lv_if_ne (tgt := 115) hx hb dX9_isName_85 (by decide) (fun c_59 => ?_) (fun c_59 => (show False by revert c_59; decide).elim)
                refine lv_iconst (v := 1) hx hb dX9_isName_115 (by decide) ?_
                refine lv_goto (tgt := 120) hx hb dX9_isName_116 (by decide) ?_
                refine lv_istore_n (lv' := [(3, .int 1), (6, .int 1), (5, .int (fa1 (l4_32 : Int32).toNatClampNeg)), (4, .int l4_32), (0, .ref qa1), (1, .int l1_32), (2, .int l2_32)]) hx hb dX9_isName_120 rfl hl (by decide) rfl (fun ls hl => ?_)
                refine lv_iinc (v := (l4_32 + 1)) (lv' := [(4, .int (l4_32 + 1)), (3, .int 1), (6, .int 1), (5, .int (fa1 (l4_32 : Int32).toNatClampNeg)), (0, .ref qa1), (1, .int l1_32), (2, .int l2_32)]) hx hb dX9_isName_121 hl (k := 3) rfl rfl (by decide) rfl (fun ls hl => ?_)
                refine lv_goto (tgt := 32) hx hb dX9_isName_124 (by decide) ?_
                exact ih_32 H locs ls l1_32 l2_32 1 (l4_32 + 1) (lv_sub hl [0, 1, 4, 5, 6] rfl) hS (hD.sub (ws' := [(qa1, .inl (ca1, na1, .inl fa1))]) [0] (by decide) rfl) (hP.sub (ws' := [(qa1, .inl (ca1, na1, .inl fa1))]) [0] rfl) hsp
              · rw [if_neg c_58] at hsp
                refine lv_iload hx hb dX9_isName_62 (lv_at hl 0 rfl) ?_
                refine lv_bipush (v := 65) hx hb dX9_isName_64 (by decide) ?_
                refine lv_icmp_lt (tgt := 80) hx hb dX9_isName_66 (by decide) (fun c_60 => ?_) (fun c_60 => ?_)
                · rw [if_pos c_60] at hsp
                  refine lv_iconst (v := 0) hx hb dX9_isName_80 (by decide) ?_
                  refine lv_istore (lv' := [(6, .int 0), (5, .int (fa1 (l4_32 : Int32).toNatClampNeg)), (4, .int l4_32), (3, .int l3_32), (0, .ref qa1), (1, .int l1_32), (2, .int l2_32)]) hx hb dX9_isName_81 hl (by decide) rfl (fun ls hl => ?_)
                  refine lv_iload hx hb dX9_isName_83 (lv_at hl 0 rfl) ?_
                  refine lv_if_ne (tgt := 115) hx hb dX9_isName_85 (by decide) (fun c_61 => (show False by revert c_61; decide).elim) (fun c_61 => ?_)
                  refine lv_iload hx hb dX9_isName_88 (lv_at hl 2 rfl) ?_
                  refine lv_iload_n hx hb dX9_isName_90 rfl (lv_at hl 5 rfl) ?_
                  refine lv_icmp_le (tgt := 119) hx hb dX9_isName_91 (by decide) (fun c_62 => ?_) (fun c_62 => ?_)
                  · rw [if_pos c_62] at hsp
                    refine lv_iconst (v := 0) hx hb dX9_isName_119 (by decide) ?_
                    refine lv_istore_n (lv' := [(3, .int 0), (6, .int 0), (5, .int (fa1 (l4_32 : Int32).toNatClampNeg)), (4, .int l4_32), (0, .ref qa1), (1, .int l1_32), (2, .int l2_32)]) hx hb dX9_isName_120 rfl hl (by decide) rfl (fun ls hl => ?_)
                    refine lv_iinc (v := (l4_32 + 1)) (lv' := [(4, .int (l4_32 + 1)), (3, .int 0), (6, .int 0), (5, .int (fa1 (l4_32 : Int32).toNatClampNeg)), (0, .ref qa1), (1, .int l1_32), (2, .int l2_32)]) hx hb dX9_isName_121 hl (k := 3) rfl rfl (by decide) rfl (fun ls hl => ?_)
                    refine lv_goto (tgt := 32) hx hb dX9_isName_124 (by decide) ?_
                    exact ih_32 H locs ls l1_32 l2_32 0 (l4_32 + 1) (lv_sub hl [0, 1, 4, 5, 6] rfl) hS (hD.sub (ws' := [(qa1, .inl (ca1, na1, .inl fa1))]) [0] (by decide) rfl) (hP.sub (ws' := [(qa1, .inl (ca1, na1, .inl fa1))]) [0] rfl) hsp
                  · rw [if_neg c_62] at hsp
                    refine lv_iload hx hb dX9_isName_94 (lv_at hl 1 rfl) ?_
                    refine lv_bipush (v := 48) hx hb dX9_isName_96 (by decide) ?_
                    refine lv_icmp_lt (tgt := 108) hx hb dX9_isName_98 (by decide) (fun c_63 => ?_) (fun c_63 => ?_)
                    · rw [if_pos c_63] at hsp
                      refine lv_iload hx hb dX9_isName_108 (lv_at hl 1 rfl) ?_
                      refine lv_bipush (v := 95) hx hb dX9_isName_110 (by decide) ?_
                      refine lv_icmp_ne (tgt := 119) hx hb dX9_isName_112 (by decide) (fun c_64 => ?_) (fun c_64 => ?_)
                      · rw [if_neg c_64] at hsp
                        refine lv_iconst (v := 0) hx hb dX9_isName_119 (by decide) ?_
                        refine lv_istore_n (lv' := [(3, .int 0), (6, .int 0), (5, .int (fa1 (l4_32 : Int32).toNatClampNeg)), (4, .int l4_32), (0, .ref qa1), (1, .int l1_32), (2, .int l2_32)]) hx hb dX9_isName_120 rfl hl (by decide) rfl (fun ls hl => ?_)
                        refine lv_iinc (v := (l4_32 + 1)) (lv' := [(4, .int (l4_32 + 1)), (3, .int 0), (6, .int 0), (5, .int (fa1 (l4_32 : Int32).toNatClampNeg)), (0, .ref qa1), (1, .int l1_32), (2, .int l2_32)]) hx hb dX9_isName_121 hl (k := 3) rfl rfl (by decide) rfl (fun ls hl => ?_)
                        refine lv_goto (tgt := 32) hx hb dX9_isName_124 (by decide) ?_
                        exact ih_32 H locs ls l1_32 l2_32 0 (l4_32 + 1) (lv_sub hl [0, 1, 4, 5, 6] rfl) hS (hD.sub (ws' := [(qa1, .inl (ca1, na1, .inl fa1))]) [0] (by decide) rfl) (hP.sub (ws' := [(qa1, .inl (ca1, na1, .inl fa1))]) [0] rfl) hsp
                      · rw [if_pos c_64] at hsp
                        refine lv_iconst (v := 1) hx hb dX9_isName_115 (by decide) ?_
                        refine lv_goto (tgt := 120) hx hb dX9_isName_116 (by decide) ?_
                        refine lv_istore_n (lv' := [(3, .int 1), (6, .int 0), (5, .int (fa1 (l4_32 : Int32).toNatClampNeg)), (4, .int l4_32), (0, .ref qa1), (1, .int l1_32), (2, .int l2_32)]) hx hb dX9_isName_120 rfl hl (by decide) rfl (fun ls hl => ?_)
                        refine lv_iinc (v := (l4_32 + 1)) (lv' := [(4, .int (l4_32 + 1)), (3, .int 1), (6, .int 0), (5, .int (fa1 (l4_32 : Int32).toNatClampNeg)), (0, .ref qa1), (1, .int l1_32), (2, .int l2_32)]) hx hb dX9_isName_121 hl (k := 3) rfl rfl (by decide) rfl (fun ls hl => ?_)
                        refine lv_goto (tgt := 32) hx hb dX9_isName_124 (by decide) ?_
                        exact ih_32 H locs ls l1_32 l2_32 1 (l4_32 + 1) (lv_sub hl [0, 1, 4, 5, 6] rfl) hS (hD.sub (ws' := [(qa1, .inl (ca1, na1, .inl fa1))]) [0] (by decide) rfl) (hP.sub (ws' := [(qa1, .inl (ca1, na1, .inl fa1))]) [0] rfl) hsp
                    · rw [if_neg c_63] at hsp
                      refine lv_iload hx hb dX9_isName_101 (lv_at hl 1 rfl) ?_
                      refine lv_bipush (v := 57) hx hb dX9_isName_103 (by decide) ?_
                      refine lv_icmp_le (tgt := 115) hx hb dX9_isName_105 (by decide) (fun c_65 => ?_) (fun c_65 => ?_)
                      · rw [if_pos c_65] at hsp
                        refine lv_iconst (v := 1) hx hb dX9_isName_115 (by decide) ?_
                        refine lv_goto (tgt := 120) hx hb dX9_isName_116 (by decide) ?_
                        refine lv_istore_n (lv' := [(3, .int 1), (6, .int 0), (5, .int (fa1 (l4_32 : Int32).toNatClampNeg)), (4, .int l4_32), (0, .ref qa1), (1, .int l1_32), (2, .int l2_32)]) hx hb dX9_isName_120 rfl hl (by decide) rfl (fun ls hl => ?_)
                        refine lv_iinc (v := (l4_32 + 1)) (lv' := [(4, .int (l4_32 + 1)), (3, .int 1), (6, .int 0), (5, .int (fa1 (l4_32 : Int32).toNatClampNeg)), (0, .ref qa1), (1, .int l1_32), (2, .int l2_32)]) hx hb dX9_isName_121 hl (k := 3) rfl rfl (by decide) rfl (fun ls hl => ?_)
                        refine lv_goto (tgt := 32) hx hb dX9_isName_124 (by decide) ?_
                        exact ih_32 H locs ls l1_32 l2_32 1 (l4_32 + 1) (lv_sub hl [0, 1, 4, 5, 6] rfl) hS (hD.sub (ws' := [(qa1, .inl (ca1, na1, .inl fa1))]) [0] (by decide) rfl) (hP.sub (ws' := [(qa1, .inl (ca1, na1, .inl fa1))]) [0] rfl) hsp
                      · rw [if_neg c_65] at hsp
                        refine lv_iload hx hb dX9_isName_108 (lv_at hl 1 rfl) ?_
                        refine lv_bipush (v := 95) hx hb dX9_isName_110 (by decide) ?_
                        refine lv_icmp_ne (tgt := 119) hx hb dX9_isName_112 (by decide) (fun c_66 => ?_) (fun c_66 => ?_)
                        · rw [if_neg c_66] at hsp
                          refine lv_iconst (v := 0) hx hb dX9_isName_119 (by decide) ?_
                          refine lv_istore_n (lv' := [(3, .int 0), (6, .int 0), (5, .int (fa1 (l4_32 : Int32).toNatClampNeg)), (4, .int l4_32), (0, .ref qa1), (1, .int l1_32), (2, .int l2_32)]) hx hb dX9_isName_120 rfl hl (by decide) rfl (fun ls hl => ?_)
                          refine lv_iinc (v := (l4_32 + 1)) (lv' := [(4, .int (l4_32 + 1)), (3, .int 0), (6, .int 0), (5, .int (fa1 (l4_32 : Int32).toNatClampNeg)), (0, .ref qa1), (1, .int l1_32), (2, .int l2_32)]) hx hb dX9_isName_121 hl (k := 3) rfl rfl (by decide) rfl (fun ls hl => ?_)
                          refine lv_goto (tgt := 32) hx hb dX9_isName_124 (by decide) ?_
                          exact ih_32 H locs ls l1_32 l2_32 0 (l4_32 + 1) (lv_sub hl [0, 1, 4, 5, 6] rfl) hS (hD.sub (ws' := [(qa1, .inl (ca1, na1, .inl fa1))]) [0] (by decide) rfl) (hP.sub (ws' := [(qa1, .inl (ca1, na1, .inl fa1))]) [0] rfl) hsp
                        · rw [if_pos c_66] at hsp
                          refine lv_iconst (v := 1) hx hb dX9_isName_115 (by decide) ?_
                          refine lv_goto (tgt := 120) hx hb dX9_isName_116 (by decide) ?_
                          refine lv_istore_n (lv' := [(3, .int 1), (6, .int 0), (5, .int (fa1 (l4_32 : Int32).toNatClampNeg)), (4, .int l4_32), (0, .ref qa1), (1, .int l1_32), (2, .int l2_32)]) hx hb dX9_isName_120 rfl hl (by decide) rfl (fun ls hl => ?_)
                          refine lv_iinc (v := (l4_32 + 1)) (lv' := [(4, .int (l4_32 + 1)), (3, .int 1), (6, .int 0), (5, .int (fa1 (l4_32 : Int32).toNatClampNeg)), (0, .ref qa1), (1, .int l1_32), (2, .int l2_32)]) hx hb dX9_isName_121 hl (k := 3) rfl rfl (by decide) rfl (fun ls hl => ?_)
                          refine lv_goto (tgt := 32) hx hb dX9_isName_124 (by decide) ?_
                          exact ih_32 H locs ls l1_32 l2_32 1 (l4_32 + 1) (lv_sub hl [0, 1, 4, 5, 6] rfl) hS (hD.sub (ws' := [(qa1, .inl (ca1, na1, .inl fa1))]) [0] (by decide) rfl) (hP.sub (ws' := [(qa1, .inl (ca1, na1, .inl fa1))]) [0] rfl) hsp
                · rw [if_neg c_60] at hsp
                  refine lv_iload hx hb dX9_isName_69 (lv_at hl 0 rfl) ?_
                  refine lv_bipush (v := 90) hx hb dX9_isName_71 (by decide) ?_
                  refine lv_icmp_gt (tgt := 80) hx hb dX9_isName_73 (by decide) (fun c_67 => ?_) (fun c_67 => ?_)
                  · rw [if_pos c_67] at hsp
                    refine lv_iconst (v := 0) hx hb dX9_isName_80 (by decide) ?_
                    refine lv_istore (lv' := [(6, .int 0), (5, .int (fa1 (l4_32 : Int32).toNatClampNeg)), (4, .int l4_32), (3, .int l3_32), (0, .ref qa1), (1, .int l1_32), (2, .int l2_32)]) hx hb dX9_isName_81 hl (by decide) rfl (fun ls hl => ?_)
                    refine lv_iload hx hb dX9_isName_83 (lv_at hl 0 rfl) ?_
                    refine lv_if_ne (tgt := 115) hx hb dX9_isName_85 (by decide) (fun c_68 => (show False by revert c_68; decide).elim) (fun c_68 => ?_)
                    refine lv_iload hx hb dX9_isName_88 (lv_at hl 2 rfl) ?_
                    refine lv_iload_n hx hb dX9_isName_90 rfl (lv_at hl 5 rfl) ?_
                    refine lv_icmp_le (tgt := 119) hx hb dX9_isName_91 (by decide) (fun c_69 => ?_) (fun c_69 => ?_)
                    · rw [if_pos c_69] at hsp
                      refine lv_iconst (v := 0) hx hb dX9_isName_119 (by decide) ?_
                      refine lv_istore_n (lv' := [(3, .int 0), (6, .int 0), (5, .int (fa1 (l4_32 : Int32).toNatClampNeg)), (4, .int l4_32), (0, .ref qa1), (1, .int l1_32), (2, .int l2_32)]) hx hb dX9_isName_120 rfl hl (by decide) rfl (fun ls hl => ?_)
                      refine lv_iinc (v := (l4_32 + 1)) (lv' := [(4, .int (l4_32 + 1)), (3, .int 0), (6, .int 0), (5, .int (fa1 (l4_32 : Int32).toNatClampNeg)), (0, .ref qa1), (1, .int l1_32), (2, .int l2_32)]) hx hb dX9_isName_121 hl (k := 3) rfl rfl (by decide) rfl (fun ls hl => ?_)
                      refine lv_goto (tgt := 32) hx hb dX9_isName_124 (by decide) ?_
                      exact ih_32 H locs ls l1_32 l2_32 0 (l4_32 + 1) (lv_sub hl [0, 1, 4, 5, 6] rfl) hS (hD.sub (ws' := [(qa1, .inl (ca1, na1, .inl fa1))]) [0] (by decide) rfl) (hP.sub (ws' := [(qa1, .inl (ca1, na1, .inl fa1))]) [0] rfl) hsp
                    · rw [if_neg c_69] at hsp
                      refine lv_iload hx hb dX9_isName_94 (lv_at hl 1 rfl) ?_
                      refine lv_bipush (v := 48) hx hb dX9_isName_96 (by decide) ?_
                      refine lv_icmp_lt (tgt := 108) hx hb dX9_isName_98 (by decide) (fun c_70 => ?_) (fun c_70 => ?_)
                      · rw [if_pos c_70] at hsp
                        refine lv_iload hx hb dX9_isName_108 (lv_at hl 1 rfl) ?_
                        refine lv_bipush (v := 95) hx hb dX9_isName_110 (by decide) ?_
                        refine lv_icmp_ne (tgt := 119) hx hb dX9_isName_112 (by decide) (fun c_71 => ?_) (fun c_71 => ?_)
                        · rw [if_neg c_71] at hsp
                          refine lv_iconst (v := 0) hx hb dX9_isName_119 (by decide) ?_
                          refine lv_istore_n (lv' := [(3, .int 0), (6, .int 0), (5, .int (fa1 (l4_32 : Int32).toNatClampNeg)), (4, .int l4_32), (0, .ref qa1), (1, .int l1_32), (2, .int l2_32)]) hx hb dX9_isName_120 rfl hl (by decide) rfl (fun ls hl => ?_)
                          refine lv_iinc (v := (l4_32 + 1)) (lv' := [(4, .int (l4_32 + 1)), (3, .int 0), (6, .int 0), (5, .int (fa1 (l4_32 : Int32).toNatClampNeg)), (0, .ref qa1), (1, .int l1_32), (2, .int l2_32)]) hx hb dX9_isName_121 hl (k := 3) rfl rfl (by decide) rfl (fun ls hl => ?_)
                          refine lv_goto (tgt := 32) hx hb dX9_isName_124 (by decide) ?_
                          exact ih_32 H locs ls l1_32 l2_32 0 (l4_32 + 1) (lv_sub hl [0, 1, 4, 5, 6] rfl) hS (hD.sub (ws' := [(qa1, .inl (ca1, na1, .inl fa1))]) [0] (by decide) rfl) (hP.sub (ws' := [(qa1, .inl (ca1, na1, .inl fa1))]) [0] rfl) hsp
                        · rw [if_pos c_71] at hsp
                          refine lv_iconst (v := 1) hx hb dX9_isName_115 (by decide) ?_
                          refine lv_goto (tgt := 120) hx hb dX9_isName_116 (by decide) ?_
                          refine lv_istore_n (lv' := [(3, .int 1), (6, .int 0), (5, .int (fa1 (l4_32 : Int32).toNatClampNeg)), (4, .int l4_32), (0, .ref qa1), (1, .int l1_32), (2, .int l2_32)]) hx hb dX9_isName_120 rfl hl (by decide) rfl (fun ls hl => ?_)
                          refine lv_iinc (v := (l4_32 + 1)) (lv' := [(4, .int (l4_32 + 1)), (3, .int 1), (6, .int 0), (5, .int (fa1 (l4_32 : Int32).toNatClampNeg)), (0, .ref qa1), (1, .int l1_32), (2, .int l2_32)]) hx hb dX9_isName_121 hl (k := 3) rfl rfl (by decide) rfl (fun ls hl => ?_)
                          refine lv_goto (tgt := 32) hx hb dX9_isName_124 (by decide) ?_
                          exact ih_32 H locs ls l1_32 l2_32 1 (l4_32 + 1) (lv_sub hl [0, 1, 4, 5, 6] rfl) hS (hD.sub (ws' := [(qa1, .inl (ca1, na1, .inl fa1))]) [0] (by decide) rfl) (hP.sub (ws' := [(qa1, .inl (ca1, na1, .inl fa1))]) [0] rfl) hsp
                      · rw [if_neg c_70] at hsp
                        refine lv_iload hx hb dX9_isName_101 (lv_at hl 1 rfl) ?_
                        refine lv_bipush (v := 57) hx hb dX9_isName_103 (by decide) ?_
                        refine lv_icmp_le (tgt := 115) hx hb dX9_isName_105 (by decide) (fun c_72 => ?_) (fun c_72 => ?_)
                        · rw [if_pos c_72] at hsp
                          refine lv_iconst (v := 1) hx hb dX9_isName_115 (by decide) ?_
                          refine lv_goto (tgt := 120) hx hb dX9_isName_116 (by decide) ?_
                          refine lv_istore_n (lv' := [(3, .int 1), (6, .int 0), (5, .int (fa1 (l4_32 : Int32).toNatClampNeg)), (4, .int l4_32), (0, .ref qa1), (1, .int l1_32), (2, .int l2_32)]) hx hb dX9_isName_120 rfl hl (by decide) rfl (fun ls hl => ?_)
                          refine lv_iinc (v := (l4_32 + 1)) (lv' := [(4, .int (l4_32 + 1)), (3, .int 1), (6, .int 0), (5, .int (fa1 (l4_32 : Int32).toNatClampNeg)), (0, .ref qa1), (1, .int l1_32), (2, .int l2_32)]) hx hb dX9_isName_121 hl (k := 3) rfl rfl (by decide) rfl (fun ls hl => ?_)
                          refine lv_goto (tgt := 32) hx hb dX9_isName_124 (by decide) ?_
                          exact ih_32 H locs ls l1_32 l2_32 1 (l4_32 + 1) (lv_sub hl [0, 1, 4, 5, 6] rfl) hS (hD.sub (ws' := [(qa1, .inl (ca1, na1, .inl fa1))]) [0] (by decide) rfl) (hP.sub (ws' := [(qa1, .inl (ca1, na1, .inl fa1))]) [0] rfl) hsp
                        · rw [if_neg c_72] at hsp
                          refine lv_iload hx hb dX9_isName_108 (lv_at hl 1 rfl) ?_
                          refine lv_bipush (v := 95) hx hb dX9_isName_110 (by decide) ?_
                          refine lv_icmp_ne (tgt := 119) hx hb dX9_isName_112 (by decide) (fun c_73 => ?_) (fun c_73 => ?_)
                          · rw [if_neg c_73] at hsp
                            refine lv_iconst (v := 0) hx hb dX9_isName_119 (by decide) ?_
                            refine lv_istore_n (lv' := [(3, .int 0), (6, .int 0), (5, .int (fa1 (l4_32 : Int32).toNatClampNeg)), (4, .int l4_32), (0, .ref qa1), (1, .int l1_32), (2, .int l2_32)]) hx hb dX9_isName_120 rfl hl (by decide) rfl (fun ls hl => ?_)
                            refine lv_iinc (v := (l4_32 + 1)) (lv' := [(4, .int (l4_32 + 1)), (3, .int 0), (6, .int 0), (5, .int (fa1 (l4_32 : Int32).toNatClampNeg)), (0, .ref qa1), (1, .int l1_32), (2, .int l2_32)]) hx hb dX9_isName_121 hl (k := 3) rfl rfl (by decide) rfl (fun ls hl => ?_)
                            refine lv_goto (tgt := 32) hx hb dX9_isName_124 (by decide) ?_
                            exact ih_32 H locs ls l1_32 l2_32 0 (l4_32 + 1) (lv_sub hl [0, 1, 4, 5, 6] rfl) hS (hD.sub (ws' := [(qa1, .inl (ca1, na1, .inl fa1))]) [0] (by decide) rfl) (hP.sub (ws' := [(qa1, .inl (ca1, na1, .inl fa1))]) [0] rfl) hsp
                          · rw [if_pos c_73] at hsp
                            refine lv_iconst (v := 1) hx hb dX9_isName_115 (by decide) ?_
                            refine lv_goto (tgt := 120) hx hb dX9_isName_116 (by decide) ?_
                            refine lv_istore_n (lv' := [(3, .int 1), (6, .int 0), (5, .int (fa1 (l4_32 : Int32).toNatClampNeg)), (4, .int l4_32), (0, .ref qa1), (1, .int l1_32), (2, .int l2_32)]) hx hb dX9_isName_120 rfl hl (by decide) rfl (fun ls hl => ?_)
                            refine lv_iinc (v := (l4_32 + 1)) (lv' := [(4, .int (l4_32 + 1)), (3, .int 1), (6, .int 0), (5, .int (fa1 (l4_32 : Int32).toNatClampNeg)), (0, .ref qa1), (1, .int l1_32), (2, .int l2_32)]) hx hb dX9_isName_121 hl (k := 3) rfl rfl (by decide) rfl (fun ls hl => ?_)
                            refine lv_goto (tgt := 32) hx hb dX9_isName_124 (by decide) ?_
                            exact ih_32 H locs ls l1_32 l2_32 1 (l4_32 + 1) (lv_sub hl [0, 1, 4, 5, 6] rfl) hS (hD.sub (ws' := [(qa1, .inl (ca1, na1, .inl fa1))]) [0] (by decide) rfl) (hP.sub (ws' := [(qa1, .inl (ca1, na1, .inl fa1))]) [0] rfl) hsp
                  · rw [if_neg c_67] at hsp
                    refine lv_iconst (v := 1) hx hb dX9_isName_76 (by decide) ?_
                    refine lv_goto (tgt := 81) hx hb dX9_isName_77 (by decide) ?_
                    refine lv_istore (lv' := [(6, .int 1), (5, .int (fa1 (l4_32 : Int32).toNatClampNeg)), (4, .int l4_32), (3, .int l3_32), (0, .ref qa1), (1, .int l1_32), (2, .int l2_32)]) hx hb dX9_isName_81 hl (by decide) rfl (fun ls hl => ?_)
                    refine lv_iload hx hb dX9_isName_83 (lv_at hl 0 rfl) ?_
                    refine lv_if_ne (tgt := 115) hx hb dX9_isName_85 (by decide) (fun c_74 => ?_) (fun c_74 => (show False by revert c_74; decide).elim)
                    refine lv_iconst (v := 1) hx hb dX9_isName_115 (by decide) ?_
                    refine lv_goto (tgt := 120) hx hb dX9_isName_116 (by decide) ?_
                    refine lv_istore_n (lv' := [(3, .int 1), (6, .int 1), (5, .int (fa1 (l4_32 : Int32).toNatClampNeg)), (4, .int l4_32), (0, .ref qa1), (1, .int l1_32), (2, .int l2_32)]) hx hb dX9_isName_120 rfl hl (by decide) rfl (fun ls hl => ?_)
                    refine lv_iinc (v := (l4_32 + 1)) (lv' := [(4, .int (l4_32 + 1)), (3, .int 1), (6, .int 1), (5, .int (fa1 (l4_32 : Int32).toNatClampNeg)), (0, .ref qa1), (1, .int l1_32), (2, .int l2_32)]) hx hb dX9_isName_121 hl (k := 3) rfl rfl (by decide) rfl (fun ls hl => ?_)
                    refine lv_goto (tgt := 32) hx hb dX9_isName_124 (by decide) ?_
                    exact ih_32 H locs ls l1_32 l2_32 1 (l4_32 + 1) (lv_sub hl [0, 1, 4, 5, 6] rfl) hS (hD.sub (ws' := [(qa1, .inl (ca1, na1, .inl fa1))]) [0] (by decide) rfl) (hP.sub (ws' := [(qa1, .inl (ca1, na1, .inl fa1))]) [0] rfl) hsp
    · rw [if_neg c_38] at hsp
      refine lv_iload_n hx hb dX9_isName_9 rfl (lv_at hl 2 rfl) ?_
      refine lv_aload_n hx hb dX9_isName_10 rfl (lv_at hl 0 rfl) ?_
      refine va_alen (v := nI na1) hx hb hK hP 0 0 rfl rfl rfl dX9_isName_11 ?_
      refine lv_icmp_gt (tgt := 27) hx hb dX9_isName_12 (by decide) (fun c_75 => ?_) (fun c_75 => ?_)
      · rw [if_pos c_75] at hsp
        refine lv_iconst (v := 0) hx hb dX9_isName_27 (by decide) ?_
        refine lv_istore_n (lv' := [(3, .int 0), (0, .ref qa1), (1, .int a2), (2, .int a3)]) hx hb dX9_isName_28 rfl hl (by decide) rfl (fun ls hl => ?_)
        refine lv_iload_n hx hb dX9_isName_29 rfl (lv_at hl 2 rfl) ?_
        refine lv_istore (lv' := [(4, .int a2), (3, .int 0), (0, .ref qa1), (1, .int a2), (2, .int a3)]) hx hb dX9_isName_30 hl (by decide) rfl (fun ls hl => ?_)
        replace hP := hP.sub (ws' := [(qa1, .inl (ca1, na1, .inl fa1))]) [0] rfl
        replace hD := hD.sub (ws' := [(qa1, .inl (ca1, na1, .inl fa1))]) [0] (by decide) rfl
        replace hK := hK.sub (tys' := [(ca1, .byte)]) [0] rfl
        obtain ⟨n_32, hn_32⟩ : ∃ z : Nat, z = nf := ⟨_, rfl⟩
        obtain ⟨l1_32, el1_32⟩ : ∃ z : Int32, z = a2 := ⟨_, rfl⟩
        obtain ⟨l2_32, el2_32⟩ : ∃ z : Int32, z = a3 := ⟨_, rfl⟩
        obtain ⟨l3_32, el3_32⟩ : ∃ z : Int32, z = 0 := ⟨_, rfl⟩
        obtain ⟨l4_32, el4_32⟩ : ∃ z : Int32, z = a2 := ⟨_, rfl⟩
        replace hsp : lp_t9_isName_32 nf n_32 a2 a3 na1 fa1 l1_32 l2_32 l3_32 l4_32 = some r0 := by rw [hn_32, el1_32, el2_32, el3_32, el4_32]; exact hsp
        replace hl : lv_has ls 7 [(4, .int l4_32), (3, .int l3_32), (0, .ref qa1), (1, .int l1_32), (2, .int l2_32)] := by rw [el1_32, el2_32, el3_32, el4_32]; exact hl
        clear hn_32 el1_32 el2_32 el3_32 el4_32
        try clear hlo
        try clear hH
        revert hsp
        revert hP
        revert hD
        revert hS
        revert hl
        revert l4_32
        revert l3_32
        revert l2_32
        revert l1_32
        revert ls
        revert locs
        revert H
        induction n_32 with
        | zero => intro H locs ls l1_32 l2_32 l3_32 l4_32 hl hS hD hP hsp; unfold lp_t9_isName_32 at hsp; cases hsp
        | succ n_32 ih_32 =>
          intro H locs ls l1_32 l2_32 l3_32 l4_32 hl hS hD hP hsp
          unfold lp_t9_isName_32 at hsp
          try dsimp only at hsp
          refine lv_iload hx hb dX9_isName_32 (lv_at hl 0 rfl) ?_
          refine lv_iload_n hx hb dX9_isName_34 rfl (lv_at hl 4 rfl) ?_
          refine lv_icmp_ge (tgt := 127) hx hb dX9_isName_35 (by decide) (fun c_76 => ?_) (fun c_76 => ?_)
          · rw [if_pos c_76] at hsp
            refine lv_iload_n hx hb dX9_isName_127 rfl (lv_at hl 1 rfl) ?_
            rcases ox_01 hsp with ⟨rfl, hsp⟩ | ⟨rfl, hsp⟩
            · skip
              have hr0 := Option.some.inj hsp
              clear hsp
              subst hr0
              have hP9 := hP.sub (ws' := [(qa1, .inl (ca1, na1, .inl fa1))]) [0] rfl
              have hD9 := hD.sub (ws' := [(qa1, .inl (ca1, na1, .inl fa1))]) [0] (by decide) rfl
              have hK9 := hK.sub (tys' := [(ca1, .byte)]) [0] rfl
              exact W.zret hx hb hr (by decide) (fun t ht hW => ⟨⟨(0), (), rfl, ⟨rfl, Or.inl rfl⟩, by rw [ht]; exact hP9, va_K.moved hW.alike hK9, hD9⟩, hS.F ht⟩) hS.2.2 dX9_isName_128
            · skip
              have hr0 := Option.some.inj hsp
              clear hsp
              subst hr0
              have hP9 := hP.sub (ws' := [(qa1, .inl (ca1, na1, .inl fa1))]) [0] rfl
              have hD9 := hD.sub (ws' := [(qa1, .inl (ca1, na1, .inl fa1))]) [0] (by decide) rfl
              have hK9 := hK.sub (tys' := [(ca1, .byte)]) [0] rfl
              exact W.zret hx hb hr (by decide) (fun t ht hW => ⟨⟨(1), (), rfl, ⟨rfl, Or.inr rfl⟩, by rw [ht]; exact hP9, va_K.moved hW.alike hK9, hD9⟩, hS.F ht⟩) hS.2.2 dX9_isName_128
          · rw [if_neg c_76] at hsp
            refine lv_iload_n hx hb dX9_isName_38 rfl (lv_at hl 1 rfl) ?_
            refine lv_if_eq (tgt := 127) hx hb dX9_isName_39 (by decide) (fun c_77 => ?_) (fun c_77 => ?_)
            · rw [if_pos c_77] at hsp
              refine lv_iload_n hx hb dX9_isName_127 rfl (lv_at hl 1 rfl) ?_
              rcases ox_01 hsp with ⟨rfl, hsp⟩ | ⟨rfl, hsp⟩
              · skip
                have hr0 := Option.some.inj hsp
                clear hsp
                subst hr0
                have hP9 := hP.sub (ws' := [(qa1, .inl (ca1, na1, .inl fa1))]) [0] rfl
                have hD9 := hD.sub (ws' := [(qa1, .inl (ca1, na1, .inl fa1))]) [0] (by decide) rfl
                have hK9 := hK.sub (tys' := [(ca1, .byte)]) [0] rfl
                exact W.zret hx hb hr (by decide) (fun t ht hW => ⟨⟨(0), (), rfl, ⟨rfl, Or.inl rfl⟩, by rw [ht]; exact hP9, va_K.moved hW.alike hK9, hD9⟩, hS.F ht⟩) hS.2.2 dX9_isName_128
              · skip
                have hr0 := Option.some.inj hsp
                clear hsp
                subst hr0
                have hP9 := hP.sub (ws' := [(qa1, .inl (ca1, na1, .inl fa1))]) [0] rfl
                have hD9 := hD.sub (ws' := [(qa1, .inl (ca1, na1, .inl fa1))]) [0] (by decide) rfl
                have hK9 := hK.sub (tys' := [(ca1, .byte)]) [0] rfl
                exact W.zret hx hb hr (by decide) (fun t ht hW => ⟨⟨(1), (), rfl, ⟨rfl, Or.inr rfl⟩, by rw [ht]; exact hP9, va_K.moved hW.alike hK9, hD9⟩, hS.F ht⟩) hS.2.2 dX9_isName_128
            · rw [if_neg c_77] at hsp
              refine lv_aload_n hx hb dX9_isName_42 rfl (lv_at hl 2 rfl) ?_
              refine lv_iload hx hb dX9_isName_43 (lv_at hl 0 rfl) ?_
              obtain ⟨hi_78, hsp⟩ := ox_in hsp
              refine va_bald hx hb hK hP 0 0 rfl rfl (i := l4_32) hi_78 dX9_isName_45 ?_
              refine lv_istore (lv' := [(5, .int (fa1 (l4_32 : Int32).toNatClampNeg)), (4, .int l4_32), (3, .int l3_32), (0, .ref qa1), (1, .int l1_32), (2, .int l2_32)]) hx hb dX9_isName_46 hl (by decide) rfl (fun ls hl => ?_)
              refine lv_iload hx hb dX9_isName_48 (lv_at hl 0 rfl) ?_
              refine lv_bipush (v := 97) hx hb dX9_isName_50 (by decide) ?_
              refine lv_icmp_lt (tgt := 62) hx hb dX9_isName_52 (by decide) (fun c_79 => ?_) (fun c_79 => ?_)
              · rw [if_pos c_79] at hsp
                refine lv_iload hx hb dX9_isName_62 (lv_at hl 0 rfl) ?_
                refine lv_bipush (v := 65) hx hb dX9_isName_64 (by decide) ?_
                refine lv_icmp_lt (tgt := 80) hx hb dX9_isName_66 (by decide) (fun c_80 => ?_) (fun c_80 => ?_)
                · rw [if_pos c_80] at hsp
                  refine lv_iconst (v := 0) hx hb dX9_isName_80 (by decide) ?_
                  refine lv_istore (lv' := [(6, .int 0), (5, .int (fa1 (l4_32 : Int32).toNatClampNeg)), (4, .int l4_32), (3, .int l3_32), (0, .ref qa1), (1, .int l1_32), (2, .int l2_32)]) hx hb dX9_isName_81 hl (by decide) rfl (fun ls hl => ?_)
                  refine lv_iload hx hb dX9_isName_83 (lv_at hl 0 rfl) ?_
                  refine lv_if_ne (tgt := 115) hx hb dX9_isName_85 (by decide) (fun c_81 => (show False by revert c_81; decide).elim) (fun c_81 => ?_)
                  refine lv_iload hx hb dX9_isName_88 (lv_at hl 2 rfl) ?_
                  refine lv_iload_n hx hb dX9_isName_90 rfl (lv_at hl 5 rfl) ?_
                  refine lv_icmp_le (tgt := 119) hx hb dX9_isName_91 (by decide) (fun c_82 => ?_) (fun c_82 => ?_)
                  · rw [if_pos c_82] at hsp
                    refine lv_iconst (v := 0) hx hb dX9_isName_119 (by decide) ?_
                    refine lv_istore_n (lv' := [(3, .int 0), (6, .int 0), (5, .int (fa1 (l4_32 : Int32).toNatClampNeg)), (4, .int l4_32), (0, .ref qa1), (1, .int l1_32), (2, .int l2_32)]) hx hb dX9_isName_120 rfl hl (by decide) rfl (fun ls hl => ?_)
                    refine lv_iinc (v := (l4_32 + 1)) (lv' := [(4, .int (l4_32 + 1)), (3, .int 0), (6, .int 0), (5, .int (fa1 (l4_32 : Int32).toNatClampNeg)), (0, .ref qa1), (1, .int l1_32), (2, .int l2_32)]) hx hb dX9_isName_121 hl (k := 3) rfl rfl (by decide) rfl (fun ls hl => ?_)
                    refine lv_goto (tgt := 32) hx hb dX9_isName_124 (by decide) ?_
                    exact ih_32 H locs ls l1_32 l2_32 0 (l4_32 + 1) (lv_sub hl [0, 1, 4, 5, 6] rfl) hS (hD.sub (ws' := [(qa1, .inl (ca1, na1, .inl fa1))]) [0] (by decide) rfl) (hP.sub (ws' := [(qa1, .inl (ca1, na1, .inl fa1))]) [0] rfl) hsp
                  · rw [if_neg c_82] at hsp
                    refine lv_iload hx hb dX9_isName_94 (lv_at hl 1 rfl) ?_
                    refine lv_bipush (v := 48) hx hb dX9_isName_96 (by decide) ?_
                    refine lv_icmp_lt (tgt := 108) hx hb dX9_isName_98 (by decide) (fun c_83 => ?_) (fun c_83 => ?_)
                    · rw [if_pos c_83] at hsp
                      refine lv_iload hx hb dX9_isName_108 (lv_at hl 1 rfl) ?_
                      refine lv_bipush (v := 95) hx hb dX9_isName_110 (by decide) ?_
                      refine lv_icmp_ne (tgt := 119) hx hb dX9_isName_112 (by decide) (fun c_84 => ?_) (fun c_84 => ?_)
                      · rw [if_neg c_84] at hsp
                        refine lv_iconst (v := 0) hx hb dX9_isName_119 (by decide) ?_
                        refine lv_istore_n (lv' := [(3, .int 0), (6, .int 0), (5, .int (fa1 (l4_32 : Int32).toNatClampNeg)), (4, .int l4_32), (0, .ref qa1), (1, .int l1_32), (2, .int l2_32)]) hx hb dX9_isName_120 rfl hl (by decide) rfl (fun ls hl => ?_)
                        refine lv_iinc (v := (l4_32 + 1)) (lv' := [(4, .int (l4_32 + 1)), (3, .int 0), (6, .int 0), (5, .int (fa1 (l4_32 : Int32).toNatClampNeg)), (0, .ref qa1), (1, .int l1_32), (2, .int l2_32)]) hx hb dX9_isName_121 hl (k := 3) rfl rfl (by decide) rfl (fun ls hl => ?_)
                        refine lv_goto (tgt := 32) hx hb dX9_isName_124 (by decide) ?_
                        exact ih_32 H locs ls l1_32 l2_32 0 (l4_32 + 1) (lv_sub hl [0, 1, 4, 5, 6] rfl) hS (hD.sub (ws' := [(qa1, .inl (ca1, na1, .inl fa1))]) [0] (by decide) rfl) (hP.sub (ws' := [(qa1, .inl (ca1, na1, .inl fa1))]) [0] rfl) hsp
                      · rw [if_pos c_84] at hsp
                        refine lv_iconst (v := 1) hx hb dX9_isName_115 (by decide) ?_
                        refine lv_goto (tgt := 120) hx hb dX9_isName_116 (by decide) ?_
                        refine lv_istore_n (lv' := [(3, .int 1), (6, .int 0), (5, .int (fa1 (l4_32 : Int32).toNatClampNeg)), (4, .int l4_32), (0, .ref qa1), (1, .int l1_32), (2, .int l2_32)]) hx hb dX9_isName_120 rfl hl (by decide) rfl (fun ls hl => ?_)
                        refine lv_iinc (v := (l4_32 + 1)) (lv' := [(4, .int (l4_32 + 1)), (3, .int 1), (6, .int 0), (5, .int (fa1 (l4_32 : Int32).toNatClampNeg)), (0, .ref qa1), (1, .int l1_32), (2, .int l2_32)]) hx hb dX9_isName_121 hl (k := 3) rfl rfl (by decide) rfl (fun ls hl => ?_)
                        refine lv_goto (tgt := 32) hx hb dX9_isName_124 (by decide) ?_
                        exact ih_32 H locs ls l1_32 l2_32 1 (l4_32 + 1) (lv_sub hl [0, 1, 4, 5, 6] rfl) hS (hD.sub (ws' := [(qa1, .inl (ca1, na1, .inl fa1))]) [0] (by decide) rfl) (hP.sub (ws' := [(qa1, .inl (ca1, na1, .inl fa1))]) [0] rfl) hsp
                    · rw [if_neg c_83] at hsp
                      refine lv_iload hx hb dX9_isName_101 (lv_at hl 1 rfl) ?_
                      refine lv_bipush (v := 57) hx hb dX9_isName_103 (by decide) ?_
                      refine lv_icmp_le (tgt := 115) hx hb dX9_isName_105 (by decide) (fun c_85 => ?_) (fun c_85 => ?_)
                      · rw [if_pos c_85] at hsp
                        refine lv_iconst (v := 1) hx hb dX9_isName_115 (by decide) ?_
                        refine lv_goto (tgt := 120) hx hb dX9_isName_116 (by decide) ?_
                        refine lv_istore_n (lv' := [(3, .int 1), (6, .int 0), (5, .int (fa1 (l4_32 : Int32).toNatClampNeg)), (4, .int l4_32), (0, .ref qa1), (1, .int l1_32), (2, .int l2_32)]) hx hb dX9_isName_120 rfl hl (by decide) rfl (fun ls hl => ?_)
                        refine lv_iinc (v := (l4_32 + 1)) (lv' := [(4, .int (l4_32 + 1)), (3, .int 1), (6, .int 0), (5, .int (fa1 (l4_32 : Int32).toNatClampNeg)), (0, .ref qa1), (1, .int l1_32), (2, .int l2_32)]) hx hb dX9_isName_121 hl (k := 3) rfl rfl (by decide) rfl (fun ls hl => ?_)
                        refine lv_goto (tgt := 32) hx hb dX9_isName_124 (by decide) ?_
                        exact ih_32 H locs ls l1_32 l2_32 1 (l4_32 + 1) (lv_sub hl [0, 1, 4, 5, 6] rfl) hS (hD.sub (ws' := [(qa1, .inl (ca1, na1, .inl fa1))]) [0] (by decide) rfl) (hP.sub (ws' := [(qa1, .inl (ca1, na1, .inl fa1))]) [0] rfl) hsp
                      · rw [if_neg c_85] at hsp
                        refine lv_iload hx hb dX9_isName_108 (lv_at hl 1 rfl) ?_
                        refine lv_bipush (v := 95) hx hb dX9_isName_110 (by decide) ?_
                        refine lv_icmp_ne (tgt := 119) hx hb dX9_isName_112 (by decide) (fun c_86 => ?_) (fun c_86 => ?_)
                        · rw [if_neg c_86] at hsp
                          refine lv_iconst (v := 0) hx hb dX9_isName_119 (by decide) ?_
                          refine lv_istore_n (lv' := [(3, .int 0), (6, .int 0), (5, .int (fa1 (l4_32 : Int32).toNatClampNeg)), (4, .int l4_32), (0, .ref qa1), (1, .int l1_32), (2, .int l2_32)]) hx hb dX9_isName_120 rfl hl (by decide) rfl (fun ls hl => ?_)
                          refine lv_iinc (v := (l4_32 + 1)) (lv' := [(4, .int (l4_32 + 1)), (3, .int 0), (6, .int 0), (5, .int (fa1 (l4_32 : Int32).toNatClampNeg)), (0, .ref qa1), (1, .int l1_32), (2, .int l2_32)]) hx hb dX9_isName_121 hl (k := 3) rfl rfl (by decide) rfl (fun ls hl => ?_)
                          refine lv_goto (tgt := 32) hx hb dX9_isName_124 (by decide) ?_
                          exact ih_32 H locs ls l1_32 l2_32 0 (l4_32 + 1) (lv_sub hl [0, 1, 4, 5, 6] rfl) hS (hD.sub (ws' := [(qa1, .inl (ca1, na1, .inl fa1))]) [0] (by decide) rfl) (hP.sub (ws' := [(qa1, .inl (ca1, na1, .inl fa1))]) [0] rfl) hsp
                        · rw [if_pos c_86] at hsp
                          refine lv_iconst (v := 1) hx hb dX9_isName_115 (by decide) ?_
                          refine lv_goto (tgt := 120) hx hb dX9_isName_116 (by decide) ?_
                          refine lv_istore_n (lv' := [(3, .int 1), (6, .int 0), (5, .int (fa1 (l4_32 : Int32).toNatClampNeg)), (4, .int l4_32), (0, .ref qa1), (1, .int l1_32), (2, .int l2_32)]) hx hb dX9_isName_120 rfl hl (by decide) rfl (fun ls hl => ?_)
                          refine lv_iinc (v := (l4_32 + 1)) (lv' := [(4, .int (l4_32 + 1)), (3, .int 1), (6, .int 0), (5, .int (fa1 (l4_32 : Int32).toNatClampNeg)), (0, .ref qa1), (1, .int l1_32), (2, .int l2_32)]) hx hb dX9_isName_121 hl (k := 3) rfl rfl (by decide) rfl (fun ls hl => ?_)
                          refine lv_goto (tgt := 32) hx hb dX9_isName_124 (by decide) ?_
                          exact ih_32 H locs ls l1_32 l2_32 1 (l4_32 + 1) (lv_sub hl [0, 1, 4, 5, 6] rfl) hS (hD.sub (ws' := [(qa1, .inl (ca1, na1, .inl fa1))]) [0] (by decide) rfl) (hP.sub (ws' := [(qa1, .inl (ca1, na1, .inl fa1))]) [0] rfl) hsp
                · rw [if_neg c_80] at hsp
                  refine lv_iload hx hb dX9_isName_69 (lv_at hl 0 rfl) ?_
                  refine lv_bipush (v := 90) hx hb dX9_isName_71 (by decide) ?_
                  refine lv_icmp_gt (tgt := 80) hx hb dX9_isName_73 (by decide) (fun c_87 => ?_) (fun c_87 => ?_)
                  · rw [if_pos c_87] at hsp
                    refine lv_iconst (v := 0) hx hb dX9_isName_80 (by decide) ?_
                    refine lv_istore (lv' := [(6, .int 0), (5, .int (fa1 (l4_32 : Int32).toNatClampNeg)), (4, .int l4_32), (3, .int l3_32), (0, .ref qa1), (1, .int l1_32), (2, .int l2_32)]) hx hb dX9_isName_81 hl (by decide) rfl (fun ls hl => ?_)
                    refine lv_iload hx hb dX9_isName_83 (lv_at hl 0 rfl) ?_
                    refine lv_if_ne (tgt := 115) hx hb dX9_isName_85 (by decide) (fun c_88 => (show False by revert c_88; decide).elim) (fun c_88 => ?_)
                    refine lv_iload hx hb dX9_isName_88 (lv_at hl 2 rfl) ?_
                    refine lv_iload_n hx hb dX9_isName_90 rfl (lv_at hl 5 rfl) ?_
                    refine lv_icmp_le (tgt := 119) hx hb dX9_isName_91 (by decide) (fun c_89 => ?_) (fun c_89 => ?_)
                    · rw [if_pos c_89] at hsp
                      refine lv_iconst (v := 0) hx hb dX9_isName_119 (by decide) ?_
                      refine lv_istore_n (lv' := [(3, .int 0), (6, .int 0), (5, .int (fa1 (l4_32 : Int32).toNatClampNeg)), (4, .int l4_32), (0, .ref qa1), (1, .int l1_32), (2, .int l2_32)]) hx hb dX9_isName_120 rfl hl (by decide) rfl (fun ls hl => ?_)
                      refine lv_iinc (v := (l4_32 + 1)) (lv' := [(4, .int (l4_32 + 1)), (3, .int 0), (6, .int 0), (5, .int (fa1 (l4_32 : Int32).toNatClampNeg)), (0, .ref qa1), (1, .int l1_32), (2, .int l2_32)]) hx hb dX9_isName_121 hl (k := 3) rfl rfl (by decide) rfl (fun ls hl => ?_)
                      refine lv_goto (tgt := 32) hx hb dX9_isName_124 (by decide) ?_
                      exact ih_32 H locs ls l1_32 l2_32 0 (l4_32 + 1) (lv_sub hl [0, 1, 4, 5, 6] rfl) hS (hD.sub (ws' := [(qa1, .inl (ca1, na1, .inl fa1))]) [0] (by decide) rfl) (hP.sub (ws' := [(qa1, .inl (ca1, na1, .inl fa1))]) [0] rfl) hsp
                    · rw [if_neg c_89] at hsp
                      refine lv_iload hx hb dX9_isName_94 (lv_at hl 1 rfl) ?_
                      refine lv_bipush (v := 48) hx hb dX9_isName_96 (by decide) ?_
                      refine lv_icmp_lt (tgt := 108) hx hb dX9_isName_98 (by decide) (fun c_90 => ?_) (fun c_90 => ?_)
                      · rw [if_pos c_90] at hsp
                        refine lv_iload hx hb dX9_isName_108 (lv_at hl 1 rfl) ?_
                        refine lv_bipush (v := 95) hx hb dX9_isName_110 (by decide) ?_
                        refine lv_icmp_ne (tgt := 119) hx hb dX9_isName_112 (by decide) (fun c_91 => ?_) (fun c_91 => ?_)
                        · rw [if_neg c_91] at hsp
                          refine lv_iconst (v := 0) hx hb dX9_isName_119 (by decide) ?_
                          refine lv_istore_n (lv' := [(3, .int 0), (6, .int 0), (5, .int (fa1 (l4_32 : Int32).toNatClampNeg)), (4, .int l4_32), (0, .ref qa1), (1, .int l1_32), (2, .int l2_32)]) hx hb dX9_isName_120 rfl hl (by decide) rfl (fun ls hl => ?_)
                          refine lv_iinc (v := (l4_32 + 1)) (lv' := [(4, .int (l4_32 + 1)), (3, .int 0), (6, .int 0), (5, .int (fa1 (l4_32 : Int32).toNatClampNeg)), (0, .ref qa1), (1, .int l1_32), (2, .int l2_32)]) hx hb dX9_isName_121 hl (k := 3) rfl rfl (by decide) rfl (fun ls hl => ?_)
                          refine lv_goto (tgt := 32) hx hb dX9_isName_124 (by decide) ?_
                          exact ih_32 H locs ls l1_32 l2_32 0 (l4_32 + 1) (lv_sub hl [0, 1, 4, 5, 6] rfl) hS (hD.sub (ws' := [(qa1, .inl (ca1, na1, .inl fa1))]) [0] (by decide) rfl) (hP.sub (ws' := [(qa1, .inl (ca1, na1, .inl fa1))]) [0] rfl) hsp
                        · rw [if_pos c_91] at hsp
                          refine lv_iconst (v := 1) hx hb dX9_isName_115 (by decide) ?_
                          refine lv_goto (tgt := 120) hx hb dX9_isName_116 (by decide) ?_
                          refine lv_istore_n (lv' := [(3, .int 1), (6, .int 0), (5, .int (fa1 (l4_32 : Int32).toNatClampNeg)), (4, .int l4_32), (0, .ref qa1), (1, .int l1_32), (2, .int l2_32)]) hx hb dX9_isName_120 rfl hl (by decide) rfl (fun ls hl => ?_)
                          refine lv_iinc (v := (l4_32 + 1)) (lv' := [(4, .int (l4_32 + 1)), (3, .int 1), (6, .int 0), (5, .int (fa1 (l4_32 : Int32).toNatClampNeg)), (0, .ref qa1), (1, .int l1_32), (2, .int l2_32)]) hx hb dX9_isName_121 hl (k := 3) rfl rfl (by decide) rfl (fun ls hl => ?_)
                          refine lv_goto (tgt := 32) hx hb dX9_isName_124 (by decide) ?_
                          exact ih_32 H locs ls l1_32 l2_32 1 (l4_32 + 1) (lv_sub hl [0, 1, 4, 5, 6] rfl) hS (hD.sub (ws' := [(qa1, .inl (ca1, na1, .inl fa1))]) [0] (by decide) rfl) (hP.sub (ws' := [(qa1, .inl (ca1, na1, .inl fa1))]) [0] rfl) hsp
                      · rw [if_neg c_90] at hsp
                        refine lv_iload hx hb dX9_isName_101 (lv_at hl 1 rfl) ?_
                        refine lv_bipush (v := 57) hx hb dX9_isName_103 (by decide) ?_
                        refine lv_icmp_le (tgt := 115) hx hb dX9_isName_105 (by decide) (fun c_92 => ?_) (fun c_92 => ?_)
                        · rw [if_pos c_92] at hsp
                          refine lv_iconst (v := 1) hx hb dX9_isName_115 (by decide) ?_
                          refine lv_goto (tgt := 120) hx hb dX9_isName_116 (by decide) ?_
                          refine lv_istore_n (lv' := [(3, .int 1), (6, .int 0), (5, .int (fa1 (l4_32 : Int32).toNatClampNeg)), (4, .int l4_32), (0, .ref qa1), (1, .int l1_32), (2, .int l2_32)]) hx hb dX9_isName_120 rfl hl (by decide) rfl (fun ls hl => ?_)
                          refine lv_iinc (v := (l4_32 + 1)) (lv' := [(4, .int (l4_32 + 1)), (3, .int 1), (6, .int 0), (5, .int (fa1 (l4_32 : Int32).toNatClampNeg)), (0, .ref qa1), (1, .int l1_32), (2, .int l2_32)]) hx hb dX9_isName_121 hl (k := 3) rfl rfl (by decide) rfl (fun ls hl => ?_)
                          refine lv_goto (tgt := 32) hx hb dX9_isName_124 (by decide) ?_
                          exact ih_32 H locs ls l1_32 l2_32 1 (l4_32 + 1) (lv_sub hl [0, 1, 4, 5, 6] rfl) hS (hD.sub (ws' := [(qa1, .inl (ca1, na1, .inl fa1))]) [0] (by decide) rfl) (hP.sub (ws' := [(qa1, .inl (ca1, na1, .inl fa1))]) [0] rfl) hsp
                        · rw [if_neg c_92] at hsp
                          refine lv_iload hx hb dX9_isName_108 (lv_at hl 1 rfl) ?_
                          refine lv_bipush (v := 95) hx hb dX9_isName_110 (by decide) ?_
                          refine lv_icmp_ne (tgt := 119) hx hb dX9_isName_112 (by decide) (fun c_93 => ?_) (fun c_93 => ?_)
                          · rw [if_neg c_93] at hsp
                            refine lv_iconst (v := 0) hx hb dX9_isName_119 (by decide) ?_
                            refine lv_istore_n (lv' := [(3, .int 0), (6, .int 0), (5, .int (fa1 (l4_32 : Int32).toNatClampNeg)), (4, .int l4_32), (0, .ref qa1), (1, .int l1_32), (2, .int l2_32)]) hx hb dX9_isName_120 rfl hl (by decide) rfl (fun ls hl => ?_)
                            refine lv_iinc (v := (l4_32 + 1)) (lv' := [(4, .int (l4_32 + 1)), (3, .int 0), (6, .int 0), (5, .int (fa1 (l4_32 : Int32).toNatClampNeg)), (0, .ref qa1), (1, .int l1_32), (2, .int l2_32)]) hx hb dX9_isName_121 hl (k := 3) rfl rfl (by decide) rfl (fun ls hl => ?_)
                            refine lv_goto (tgt := 32) hx hb dX9_isName_124 (by decide) ?_
                            exact ih_32 H locs ls l1_32 l2_32 0 (l4_32 + 1) (lv_sub hl [0, 1, 4, 5, 6] rfl) hS (hD.sub (ws' := [(qa1, .inl (ca1, na1, .inl fa1))]) [0] (by decide) rfl) (hP.sub (ws' := [(qa1, .inl (ca1, na1, .inl fa1))]) [0] rfl) hsp
                          · rw [if_pos c_93] at hsp
                            refine lv_iconst (v := 1) hx hb dX9_isName_115 (by decide) ?_
                            refine lv_goto (tgt := 120) hx hb dX9_isName_116 (by decide) ?_
                            refine lv_istore_n (lv' := [(3, .int 1), (6, .int 0), (5, .int (fa1 (l4_32 : Int32).toNatClampNeg)), (4, .int l4_32), (0, .ref qa1), (1, .int l1_32), (2, .int l2_32)]) hx hb dX9_isName_120 rfl hl (by decide) rfl (fun ls hl => ?_)
                            refine lv_iinc (v := (l4_32 + 1)) (lv' := [(4, .int (l4_32 + 1)), (3, .int 1), (6, .int 0), (5, .int (fa1 (l4_32 : Int32).toNatClampNeg)), (0, .ref qa1), (1, .int l1_32), (2, .int l2_32)]) hx hb dX9_isName_121 hl (k := 3) rfl rfl (by decide) rfl (fun ls hl => ?_)
                            refine lv_goto (tgt := 32) hx hb dX9_isName_124 (by decide) ?_
                            exact ih_32 H locs ls l1_32 l2_32 1 (l4_32 + 1) (lv_sub hl [0, 1, 4, 5, 6] rfl) hS (hD.sub (ws' := [(qa1, .inl (ca1, na1, .inl fa1))]) [0] (by decide) rfl) (hP.sub (ws' := [(qa1, .inl (ca1, na1, .inl fa1))]) [0] rfl) hsp
                  · rw [if_neg c_87] at hsp
                    refine lv_iconst (v := 1) hx hb dX9_isName_76 (by decide) ?_
                    refine lv_goto (tgt := 81) hx hb dX9_isName_77 (by decide) ?_
                    refine lv_istore (lv' := [(6, .int 1), (5, .int (fa1 (l4_32 : Int32).toNatClampNeg)), (4, .int l4_32), (3, .int l3_32), (0, .ref qa1), (1, .int l1_32), (2, .int l2_32)]) hx hb dX9_isName_81 hl (by decide) rfl (fun ls hl => ?_)
                    refine lv_iload hx hb dX9_isName_83 (lv_at hl 0 rfl) ?_
                    refine lv_if_ne (tgt := 115) hx hb dX9_isName_85 (by decide) (fun c_94 => ?_) (fun c_94 => (show False by revert c_94; decide).elim)
                    refine lv_iconst (v := 1) hx hb dX9_isName_115 (by decide) ?_
                    refine lv_goto (tgt := 120) hx hb dX9_isName_116 (by decide) ?_
                    refine lv_istore_n (lv' := [(3, .int 1), (6, .int 1), (5, .int (fa1 (l4_32 : Int32).toNatClampNeg)), (4, .int l4_32), (0, .ref qa1), (1, .int l1_32), (2, .int l2_32)]) hx hb dX9_isName_120 rfl hl (by decide) rfl (fun ls hl => ?_)
                    refine lv_iinc (v := (l4_32 + 1)) (lv' := [(4, .int (l4_32 + 1)), (3, .int 1), (6, .int 1), (5, .int (fa1 (l4_32 : Int32).toNatClampNeg)), (0, .ref qa1), (1, .int l1_32), (2, .int l2_32)]) hx hb dX9_isName_121 hl (k := 3) rfl rfl (by decide) rfl (fun ls hl => ?_)
                    refine lv_goto (tgt := 32) hx hb dX9_isName_124 (by decide) ?_
                    exact ih_32 H locs ls l1_32 l2_32 1 (l4_32 + 1) (lv_sub hl [0, 1, 4, 5, 6] rfl) hS (hD.sub (ws' := [(qa1, .inl (ca1, na1, .inl fa1))]) [0] (by decide) rfl) (hP.sub (ws' := [(qa1, .inl (ca1, na1, .inl fa1))]) [0] rfl) hsp
              · rw [if_neg c_79] at hsp
                refine lv_iload hx hb dX9_isName_55 (lv_at hl 0 rfl) ?_
                refine lv_bipush (v := 122) hx hb dX9_isName_57 (by decide) ?_
                refine lv_icmp_le (tgt := 76) hx hb dX9_isName_59 (by decide) (fun c_95 => ?_) (fun c_95 => ?_)
                · rw [if_pos c_95] at hsp
                  refine lv_iconst (v := 1) hx hb dX9_isName_76 (by decide) ?_
                  refine lv_goto (tgt := 81) hx hb dX9_isName_77 (by decide) ?_
                  refine lv_istore (lv' := [(6, .int 1), (5, .int (fa1 (l4_32 : Int32).toNatClampNeg)), (4, .int l4_32), (3, .int l3_32), (0, .ref qa1), (1, .int l1_32), (2, .int l2_32)]) hx hb dX9_isName_81 hl (by decide) rfl (fun ls hl => ?_)
                  refine lv_iload hx hb dX9_isName_83 (lv_at hl 0 rfl) ?_
                  refine lv_if_ne (tgt := 115) hx hb dX9_isName_85 (by decide) (fun c_96 => ?_) (fun c_96 => (show False by revert c_96; decide).elim)
                  refine lv_iconst (v := 1) hx hb dX9_isName_115 (by decide) ?_
                  refine lv_goto (tgt := 120) hx hb dX9_isName_116 (by decide) ?_
                  refine lv_istore_n (lv' := [(3, .int 1), (6, .int 1), (5, .int (fa1 (l4_32 : Int32).toNatClampNeg)), (4, .int l4_32), (0, .ref qa1), (1, .int l1_32), (2, .int l2_32)]) hx hb dX9_isName_120 rfl hl (by decide) rfl (fun ls hl => ?_)
                  refine lv_iinc (v := (l4_32 + 1)) (lv' := [(4, .int (l4_32 + 1)), (3, .int 1), (6, .int 1), (5, .int (fa1 (l4_32 : Int32).toNatClampNeg)), (0, .ref qa1), (1, .int l1_32), (2, .int l2_32)]) hx hb dX9_isName_121 hl (k := 3) rfl rfl (by decide) rfl (fun ls hl => ?_)
                  refine lv_goto (tgt := 32) hx hb dX9_isName_124 (by decide) ?_
                  exact ih_32 H locs ls l1_32 l2_32 1 (l4_32 + 1) (lv_sub hl [0, 1, 4, 5, 6] rfl) hS (hD.sub (ws' := [(qa1, .inl (ca1, na1, .inl fa1))]) [0] (by decide) rfl) (hP.sub (ws' := [(qa1, .inl (ca1, na1, .inl fa1))]) [0] rfl) hsp
                · rw [if_neg c_95] at hsp
                  refine lv_iload hx hb dX9_isName_62 (lv_at hl 0 rfl) ?_
                  refine lv_bipush (v := 65) hx hb dX9_isName_64 (by decide) ?_
                  refine lv_icmp_lt (tgt := 80) hx hb dX9_isName_66 (by decide) (fun c_97 => ?_) (fun c_97 => ?_)
                  · rw [if_pos c_97] at hsp
                    refine lv_iconst (v := 0) hx hb dX9_isName_80 (by decide) ?_
                    refine lv_istore (lv' := [(6, .int 0), (5, .int (fa1 (l4_32 : Int32).toNatClampNeg)), (4, .int l4_32), (3, .int l3_32), (0, .ref qa1), (1, .int l1_32), (2, .int l2_32)]) hx hb dX9_isName_81 hl (by decide) rfl (fun ls hl => ?_)
                    refine lv_iload hx hb dX9_isName_83 (lv_at hl 0 rfl) ?_
                    refine lv_if_ne (tgt := 115) hx hb dX9_isName_85 (by decide) (fun c_98 => (show False by revert c_98; decide).elim) (fun c_98 => ?_)
                    refine lv_iload hx hb dX9_isName_88 (lv_at hl 2 rfl) ?_
                    refine lv_iload_n hx hb dX9_isName_90 rfl (lv_at hl 5 rfl) ?_
                    refine lv_icmp_le (tgt := 119) hx hb dX9_isName_91 (by decide) (fun c_99 => ?_) (fun c_99 => ?_)
                    · rw [if_pos c_99] at hsp
                      refine lv_iconst (v := 0) hx hb dX9_isName_119 (by decide) ?_
                      refine lv_istore_n (lv' := [(3, .int 0), (6, .int 0), (5, .int (fa1 (l4_32 : Int32).toNatClampNeg)), (4, .int l4_32), (0, .ref qa1), (1, .int l1_32), (2, .int l2_32)]) hx hb dX9_isName_120 rfl hl (by decide) rfl (fun ls hl => ?_)
                      refine lv_iinc (v := (l4_32 + 1)) (lv' := [(4, .int (l4_32 + 1)), (3, .int 0), (6, .int 0), (5, .int (fa1 (l4_32 : Int32).toNatClampNeg)), (0, .ref qa1), (1, .int l1_32), (2, .int l2_32)]) hx hb dX9_isName_121 hl (k := 3) rfl rfl (by decide) rfl (fun ls hl => ?_)
                      refine lv_goto (tgt := 32) hx hb dX9_isName_124 (by decide) ?_
                      exact ih_32 H locs ls l1_32 l2_32 0 (l4_32 + 1) (lv_sub hl [0, 1, 4, 5, 6] rfl) hS (hD.sub (ws' := [(qa1, .inl (ca1, na1, .inl fa1))]) [0] (by decide) rfl) (hP.sub (ws' := [(qa1, .inl (ca1, na1, .inl fa1))]) [0] rfl) hsp
                    · rw [if_neg c_99] at hsp
                      refine lv_iload hx hb dX9_isName_94 (lv_at hl 1 rfl) ?_
                      refine lv_bipush (v := 48) hx hb dX9_isName_96 (by decide) ?_
                      refine lv_icmp_lt (tgt := 108) hx hb dX9_isName_98 (by decide) (fun c_100 => ?_) (fun c_100 => ?_)
                      · rw [if_pos c_100] at hsp
                        refine lv_iload hx hb dX9_isName_108 (lv_at hl 1 rfl) ?_
                        refine lv_bipush (v := 95) hx hb dX9_isName_110 (by decide) ?_
                        refine lv_icmp_ne (tgt := 119) hx hb dX9_isName_112 (by decide) (fun c_101 => ?_) (fun c_101 => ?_)
                        · rw [if_neg c_101] at hsp
                          refine lv_iconst (v := 0) hx hb dX9_isName_119 (by decide) ?_
                          refine lv_istore_n (lv' := [(3, .int 0), (6, .int 0), (5, .int (fa1 (l4_32 : Int32).toNatClampNeg)), (4, .int l4_32), (0, .ref qa1), (1, .int l1_32), (2, .int l2_32)]) hx hb dX9_isName_120 rfl hl (by decide) rfl (fun ls hl => ?_)
                          refine lv_iinc (v := (l4_32 + 1)) (lv' := [(4, .int (l4_32 + 1)), (3, .int 0), (6, .int 0), (5, .int (fa1 (l4_32 : Int32).toNatClampNeg)), (0, .ref qa1), (1, .int l1_32), (2, .int l2_32)]) hx hb dX9_isName_121 hl (k := 3) rfl rfl (by decide) rfl (fun ls hl => ?_)
                          refine lv_goto (tgt := 32) hx hb dX9_isName_124 (by decide) ?_
                          exact ih_32 H locs ls l1_32 l2_32 0 (l4_32 + 1) (lv_sub hl [0, 1, 4, 5, 6] rfl) hS (hD.sub (ws' := [(qa1, .inl (ca1, na1, .inl fa1))]) [0] (by decide) rfl) (hP.sub (ws' := [(qa1, .inl (ca1, na1, .inl fa1))]) [0] rfl) hsp
                        · rw [if_pos c_101] at hsp
                          refine lv_iconst (v := 1) hx hb dX9_isName_115 (by decide) ?_
                          refine lv_goto (tgt := 120) hx hb dX9_isName_116 (by decide) ?_
                          refine lv_istore_n (lv' := [(3, .int 1), (6, .int 0), (5, .int (fa1 (l4_32 : Int32).toNatClampNeg)), (4, .int l4_32), (0, .ref qa1), (1, .int l1_32), (2, .int l2_32)]) hx hb dX9_isName_120 rfl hl (by decide) rfl (fun ls hl => ?_)
                          refine lv_iinc (v := (l4_32 + 1)) (lv' := [(4, .int (l4_32 + 1)), (3, .int 1), (6, .int 0), (5, .int (fa1 (l4_32 : Int32).toNatClampNeg)), (0, .ref qa1), (1, .int l1_32), (2, .int l2_32)]) hx hb dX9_isName_121 hl (k := 3) rfl rfl (by decide) rfl (fun ls hl => ?_)
                          refine lv_goto (tgt := 32) hx hb dX9_isName_124 (by decide) ?_
                          exact ih_32 H locs ls l1_32 l2_32 1 (l4_32 + 1) (lv_sub hl [0, 1, 4, 5, 6] rfl) hS (hD.sub (ws' := [(qa1, .inl (ca1, na1, .inl fa1))]) [0] (by decide) rfl) (hP.sub (ws' := [(qa1, .inl (ca1, na1, .inl fa1))]) [0] rfl) hsp
                      · rw [if_neg c_100] at hsp
                        refine lv_iload hx hb dX9_isName_101 (lv_at hl 1 rfl) ?_
                        refine lv_bipush (v := 57) hx hb dX9_isName_103 (by decide) ?_
                        refine lv_icmp_le (tgt := 115) hx hb dX9_isName_105 (by decide) (fun c_102 => ?_) (fun c_102 => ?_)
                        · rw [if_pos c_102] at hsp
                          refine lv_iconst (v := 1) hx hb dX9_isName_115 (by decide) ?_
                          refine lv_goto (tgt := 120) hx hb dX9_isName_116 (by decide) ?_
                          refine lv_istore_n (lv' := [(3, .int 1), (6, .int 0), (5, .int (fa1 (l4_32 : Int32).toNatClampNeg)), (4, .int l4_32), (0, .ref qa1), (1, .int l1_32), (2, .int l2_32)]) hx hb dX9_isName_120 rfl hl (by decide) rfl (fun ls hl => ?_)
                          refine lv_iinc (v := (l4_32 + 1)) (lv' := [(4, .int (l4_32 + 1)), (3, .int 1), (6, .int 0), (5, .int (fa1 (l4_32 : Int32).toNatClampNeg)), (0, .ref qa1), (1, .int l1_32), (2, .int l2_32)]) hx hb dX9_isName_121 hl (k := 3) rfl rfl (by decide) rfl (fun ls hl => ?_)
                          refine lv_goto (tgt := 32) hx hb dX9_isName_124 (by decide) ?_
                          exact ih_32 H locs ls l1_32 l2_32 1 (l4_32 + 1) (lv_sub hl [0, 1, 4, 5, 6] rfl) hS (hD.sub (ws' := [(qa1, .inl (ca1, na1, .inl fa1))]) [0] (by decide) rfl) (hP.sub (ws' := [(qa1, .inl (ca1, na1, .inl fa1))]) [0] rfl) hsp
                        · rw [if_neg c_102] at hsp
                          refine lv_iload hx hb dX9_isName_108 (lv_at hl 1 rfl) ?_
                          refine lv_bipush (v := 95) hx hb dX9_isName_110 (by decide) ?_
                          refine lv_icmp_ne (tgt := 119) hx hb dX9_isName_112 (by decide) (fun c_103 => ?_) (fun c_103 => ?_)
                          · rw [if_neg c_103] at hsp
                            refine lv_iconst (v := 0) hx hb dX9_isName_119 (by decide) ?_
                            refine lv_istore_n (lv' := [(3, .int 0), (6, .int 0), (5, .int (fa1 (l4_32 : Int32).toNatClampNeg)), (4, .int l4_32), (0, .ref qa1), (1, .int l1_32), (2, .int l2_32)]) hx hb dX9_isName_120 rfl hl (by decide) rfl (fun ls hl => ?_)
                            refine lv_iinc (v := (l4_32 + 1)) (lv' := [(4, .int (l4_32 + 1)), (3, .int 0), (6, .int 0), (5, .int (fa1 (l4_32 : Int32).toNatClampNeg)), (0, .ref qa1), (1, .int l1_32), (2, .int l2_32)]) hx hb dX9_isName_121 hl (k := 3) rfl rfl (by decide) rfl (fun ls hl => ?_)
                            refine lv_goto (tgt := 32) hx hb dX9_isName_124 (by decide) ?_
                            exact ih_32 H locs ls l1_32 l2_32 0 (l4_32 + 1) (lv_sub hl [0, 1, 4, 5, 6] rfl) hS (hD.sub (ws' := [(qa1, .inl (ca1, na1, .inl fa1))]) [0] (by decide) rfl) (hP.sub (ws' := [(qa1, .inl (ca1, na1, .inl fa1))]) [0] rfl) hsp
                          · rw [if_pos c_103] at hsp
                            refine lv_iconst (v := 1) hx hb dX9_isName_115 (by decide) ?_
                            refine lv_goto (tgt := 120) hx hb dX9_isName_116 (by decide) ?_
                            refine lv_istore_n (lv' := [(3, .int 1), (6, .int 0), (5, .int (fa1 (l4_32 : Int32).toNatClampNeg)), (4, .int l4_32), (0, .ref qa1), (1, .int l1_32), (2, .int l2_32)]) hx hb dX9_isName_120 rfl hl (by decide) rfl (fun ls hl => ?_)
                            refine lv_iinc (v := (l4_32 + 1)) (lv' := [(4, .int (l4_32 + 1)), (3, .int 1), (6, .int 0), (5, .int (fa1 (l4_32 : Int32).toNatClampNeg)), (0, .ref qa1), (1, .int l1_32), (2, .int l2_32)]) hx hb dX9_isName_121 hl (k := 3) rfl rfl (by decide) rfl (fun ls hl => ?_)
                            refine lv_goto (tgt := 32) hx hb dX9_isName_124 (by decide) ?_
                            exact ih_32 H locs ls l1_32 l2_32 1 (l4_32 + 1) (lv_sub hl [0, 1, 4, 5, 6] rfl) hS (hD.sub (ws' := [(qa1, .inl (ca1, na1, .inl fa1))]) [0] (by decide) rfl) (hP.sub (ws' := [(qa1, .inl (ca1, na1, .inl fa1))]) [0] rfl) hsp
                  · rw [if_neg c_97] at hsp
                    refine lv_iload hx hb dX9_isName_69 (lv_at hl 0 rfl) ?_
                    refine lv_bipush (v := 90) hx hb dX9_isName_71 (by decide) ?_
                    refine lv_icmp_gt (tgt := 80) hx hb dX9_isName_73 (by decide) (fun c_104 => ?_) (fun c_104 => ?_)
                    · rw [if_pos c_104] at hsp
                      refine lv_iconst (v := 0) hx hb dX9_isName_80 (by decide) ?_
                      refine lv_istore (lv' := [(6, .int 0), (5, .int (fa1 (l4_32 : Int32).toNatClampNeg)), (4, .int l4_32), (3, .int l3_32), (0, .ref qa1), (1, .int l1_32), (2, .int l2_32)]) hx hb dX9_isName_81 hl (by decide) rfl (fun ls hl => ?_)
                      refine lv_iload hx hb dX9_isName_83 (lv_at hl 0 rfl) ?_
                      refine lv_if_ne (tgt := 115) hx hb dX9_isName_85 (by decide) (fun c_105 => (show False by revert c_105; decide).elim) (fun c_105 => ?_)
                      refine lv_iload hx hb dX9_isName_88 (lv_at hl 2 rfl) ?_
                      refine lv_iload_n hx hb dX9_isName_90 rfl (lv_at hl 5 rfl) ?_
                      refine lv_icmp_le (tgt := 119) hx hb dX9_isName_91 (by decide) (fun c_106 => ?_) (fun c_106 => ?_)
                      · rw [if_pos c_106] at hsp
                        refine lv_iconst (v := 0) hx hb dX9_isName_119 (by decide) ?_
                        refine lv_istore_n (lv' := [(3, .int 0), (6, .int 0), (5, .int (fa1 (l4_32 : Int32).toNatClampNeg)), (4, .int l4_32), (0, .ref qa1), (1, .int l1_32), (2, .int l2_32)]) hx hb dX9_isName_120 rfl hl (by decide) rfl (fun ls hl => ?_)
                        refine lv_iinc (v := (l4_32 + 1)) (lv' := [(4, .int (l4_32 + 1)), (3, .int 0), (6, .int 0), (5, .int (fa1 (l4_32 : Int32).toNatClampNeg)), (0, .ref qa1), (1, .int l1_32), (2, .int l2_32)]) hx hb dX9_isName_121 hl (k := 3) rfl rfl (by decide) rfl (fun ls hl => ?_)
                        refine lv_goto (tgt := 32) hx hb dX9_isName_124 (by decide) ?_
                        exact ih_32 H locs ls l1_32 l2_32 0 (l4_32 + 1) (lv_sub hl [0, 1, 4, 5, 6] rfl) hS (hD.sub (ws' := [(qa1, .inl (ca1, na1, .inl fa1))]) [0] (by decide) rfl) (hP.sub (ws' := [(qa1, .inl (ca1, na1, .inl fa1))]) [0] rfl) hsp
                      · rw [if_neg c_106] at hsp
                        refine lv_iload hx hb dX9_isName_94 (lv_at hl 1 rfl) ?_
                        refine lv_bipush (v := 48) hx hb dX9_isName_96 (by decide) ?_
                        refine lv_icmp_lt (tgt := 108) hx hb dX9_isName_98 (by decide) (fun c_107 => ?_) (fun c_107 => ?_)
                        · rw [if_pos c_107] at hsp
                          refine lv_iload hx hb dX9_isName_108 (lv_at hl 1 rfl) ?_
                          refine lv_bipush (v := 95) hx hb dX9_isName_110 (by decide) ?_
                          refine lv_icmp_ne (tgt := 119) hx hb dX9_isName_112 (by decide) (fun c_108 => ?_) (fun c_108 => ?_)
                          · rw [if_neg c_108] at hsp
                            refine lv_iconst (v := 0) hx hb dX9_isName_119 (by decide) ?_
                            refine lv_istore_n (lv' := [(3, .int 0), (6, .int 0), (5, .int (fa1 (l4_32 : Int32).toNatClampNeg)), (4, .int l4_32), (0, .ref qa1), (1, .int l1_32), (2, .int l2_32)]) hx hb dX9_isName_120 rfl hl (by decide) rfl (fun ls hl => ?_)
                            refine lv_iinc (v := (l4_32 + 1)) (lv' := [(4, .int (l4_32 + 1)), (3, .int 0), (6, .int 0), (5, .int (fa1 (l4_32 : Int32).toNatClampNeg)), (0, .ref qa1), (1, .int l1_32), (2, .int l2_32)]) hx hb dX9_isName_121 hl (k := 3) rfl rfl (by decide) rfl (fun ls hl => ?_)
                            refine lv_goto (tgt := 32) hx hb dX9_isName_124 (by decide) ?_
                            exact ih_32 H locs ls l1_32 l2_32 0 (l4_32 + 1) (lv_sub hl [0, 1, 4, 5, 6] rfl) hS (hD.sub (ws' := [(qa1, .inl (ca1, na1, .inl fa1))]) [0] (by decide) rfl) (hP.sub (ws' := [(qa1, .inl (ca1, na1, .inl fa1))]) [0] rfl) hsp
                          · rw [if_pos c_108] at hsp
                            refine lv_iconst (v := 1) hx hb dX9_isName_115 (by decide) ?_
                            refine lv_goto (tgt := 120) hx hb dX9_isName_116 (by decide) ?_
                            refine lv_istore_n (lv' := [(3, .int 1), (6, .int 0), (5, .int (fa1 (l4_32 : Int32).toNatClampNeg)), (4, .int l4_32), (0, .ref qa1), (1, .int l1_32), (2, .int l2_32)]) hx hb dX9_isName_120 rfl hl (by decide) rfl (fun ls hl => ?_)
                            refine lv_iinc (v := (l4_32 + 1)) (lv' := [(4, .int (l4_32 + 1)), (3, .int 1), (6, .int 0), (5, .int (fa1 (l4_32 : Int32).toNatClampNeg)), (0, .ref qa1), (1, .int l1_32), (2, .int l2_32)]) hx hb dX9_isName_121 hl (k := 3) rfl rfl (by decide) rfl (fun ls hl => ?_)
                            refine lv_goto (tgt := 32) hx hb dX9_isName_124 (by decide) ?_
                            exact ih_32 H locs ls l1_32 l2_32 1 (l4_32 + 1) (lv_sub hl [0, 1, 4, 5, 6] rfl) hS (hD.sub (ws' := [(qa1, .inl (ca1, na1, .inl fa1))]) [0] (by decide) rfl) (hP.sub (ws' := [(qa1, .inl (ca1, na1, .inl fa1))]) [0] rfl) hsp
                        · rw [if_neg c_107] at hsp
                          refine lv_iload hx hb dX9_isName_101 (lv_at hl 1 rfl) ?_
                          refine lv_bipush (v := 57) hx hb dX9_isName_103 (by decide) ?_
                          refine lv_icmp_le (tgt := 115) hx hb dX9_isName_105 (by decide) (fun c_109 => ?_) (fun c_109 => ?_)
                          · rw [if_pos c_109] at hsp
                            refine lv_iconst (v := 1) hx hb dX9_isName_115 (by decide) ?_
                            refine lv_goto (tgt := 120) hx hb dX9_isName_116 (by decide) ?_
                            refine lv_istore_n (lv' := [(3, .int 1), (6, .int 0), (5, .int (fa1 (l4_32 : Int32).toNatClampNeg)), (4, .int l4_32), (0, .ref qa1), (1, .int l1_32), (2, .int l2_32)]) hx hb dX9_isName_120 rfl hl (by decide) rfl (fun ls hl => ?_)
                            refine lv_iinc (v := (l4_32 + 1)) (lv' := [(4, .int (l4_32 + 1)), (3, .int 1), (6, .int 0), (5, .int (fa1 (l4_32 : Int32).toNatClampNeg)), (0, .ref qa1), (1, .int l1_32), (2, .int l2_32)]) hx hb dX9_isName_121 hl (k := 3) rfl rfl (by decide) rfl (fun ls hl => ?_)
                            refine lv_goto (tgt := 32) hx hb dX9_isName_124 (by decide) ?_
                            exact ih_32 H locs ls l1_32 l2_32 1 (l4_32 + 1) (lv_sub hl [0, 1, 4, 5, 6] rfl) hS (hD.sub (ws' := [(qa1, .inl (ca1, na1, .inl fa1))]) [0] (by decide) rfl) (hP.sub (ws' := [(qa1, .inl (ca1, na1, .inl fa1))]) [0] rfl) hsp
                          · rw [if_neg c_109] at hsp
                            refine lv_iload hx hb dX9_isName_108 (lv_at hl 1 rfl) ?_
                            refine lv_bipush (v := 95) hx hb dX9_isName_110 (by decide) ?_
                            refine lv_icmp_ne (tgt := 119) hx hb dX9_isName_112 (by decide) (fun c_110 => ?_) (fun c_110 => ?_)
                            · rw [if_neg c_110] at hsp
                              refine lv_iconst (v := 0) hx hb dX9_isName_119 (by decide) ?_
                              refine lv_istore_n (lv' := [(3, .int 0), (6, .int 0), (5, .int (fa1 (l4_32 : Int32).toNatClampNeg)), (4, .int l4_32), (0, .ref qa1), (1, .int l1_32), (2, .int l2_32)]) hx hb dX9_isName_120 rfl hl (by decide) rfl (fun ls hl => ?_)
                              refine lv_iinc (v := (l4_32 + 1)) (lv' := [(4, .int (l4_32 + 1)), (3, .int 0), (6, .int 0), (5, .int (fa1 (l4_32 : Int32).toNatClampNeg)), (0, .ref qa1), (1, .int l1_32), (2, .int l2_32)]) hx hb dX9_isName_121 hl (k := 3) rfl rfl (by decide) rfl (fun ls hl => ?_)
                              refine lv_goto (tgt := 32) hx hb dX9_isName_124 (by decide) ?_
                              exact ih_32 H locs ls l1_32 l2_32 0 (l4_32 + 1) (lv_sub hl [0, 1, 4, 5, 6] rfl) hS (hD.sub (ws' := [(qa1, .inl (ca1, na1, .inl fa1))]) [0] (by decide) rfl) (hP.sub (ws' := [(qa1, .inl (ca1, na1, .inl fa1))]) [0] rfl) hsp
                            · rw [if_pos c_110] at hsp
                              refine lv_iconst (v := 1) hx hb dX9_isName_115 (by decide) ?_
                              refine lv_goto (tgt := 120) hx hb dX9_isName_116 (by decide) ?_
                              refine lv_istore_n (lv' := [(3, .int 1), (6, .int 0), (5, .int (fa1 (l4_32 : Int32).toNatClampNeg)), (4, .int l4_32), (0, .ref qa1), (1, .int l1_32), (2, .int l2_32)]) hx hb dX9_isName_120 rfl hl (by decide) rfl (fun ls hl => ?_)
                              refine lv_iinc (v := (l4_32 + 1)) (lv' := [(4, .int (l4_32 + 1)), (3, .int 1), (6, .int 0), (5, .int (fa1 (l4_32 : Int32).toNatClampNeg)), (0, .ref qa1), (1, .int l1_32), (2, .int l2_32)]) hx hb dX9_isName_121 hl (k := 3) rfl rfl (by decide) rfl (fun ls hl => ?_)
                              refine lv_goto (tgt := 32) hx hb dX9_isName_124 (by decide) ?_
                              exact ih_32 H locs ls l1_32 l2_32 1 (l4_32 + 1) (lv_sub hl [0, 1, 4, 5, 6] rfl) hS (hD.sub (ws' := [(qa1, .inl (ca1, na1, .inl fa1))]) [0] (by decide) rfl) (hP.sub (ws' := [(qa1, .inl (ca1, na1, .inl fa1))]) [0] rfl) hsp
                    · rw [if_neg c_104] at hsp
                      refine lv_iconst (v := 1) hx hb dX9_isName_76 (by decide) ?_
                      refine lv_goto (tgt := 81) hx hb dX9_isName_77 (by decide) ?_
                      refine lv_istore (lv' := [(6, .int 1), (5, .int (fa1 (l4_32 : Int32).toNatClampNeg)), (4, .int l4_32), (3, .int l3_32), (0, .ref qa1), (1, .int l1_32), (2, .int l2_32)]) hx hb dX9_isName_81 hl (by decide) rfl (fun ls hl => ?_)
                      refine lv_iload hx hb dX9_isName_83 (lv_at hl 0 rfl) ?_
                      refine lv_if_ne (tgt := 115) hx hb dX9_isName_85 (by decide) (fun c_111 => ?_) (fun c_111 => (show False by revert c_111; decide).elim)
                      refine lv_iconst (v := 1) hx hb dX9_isName_115 (by decide) ?_
                      refine lv_goto (tgt := 120) hx hb dX9_isName_116 (by decide) ?_
                      refine lv_istore_n (lv' := [(3, .int 1), (6, .int 1), (5, .int (fa1 (l4_32 : Int32).toNatClampNeg)), (4, .int l4_32), (0, .ref qa1), (1, .int l1_32), (2, .int l2_32)]) hx hb dX9_isName_120 rfl hl (by decide) rfl (fun ls hl => ?_)
                      refine lv_iinc (v := (l4_32 + 1)) (lv' := [(4, .int (l4_32 + 1)), (3, .int 1), (6, .int 1), (5, .int (fa1 (l4_32 : Int32).toNatClampNeg)), (0, .ref qa1), (1, .int l1_32), (2, .int l2_32)]) hx hb dX9_isName_121 hl (k := 3) rfl rfl (by decide) rfl (fun ls hl => ?_)
                      refine lv_goto (tgt := 32) hx hb dX9_isName_124 (by decide) ?_
                      exact ih_32 H locs ls l1_32 l2_32 1 (l4_32 + 1) (lv_sub hl [0, 1, 4, 5, 6] rfl) hS (hD.sub (ws' := [(qa1, .inl (ca1, na1, .inl fa1))]) [0] (by decide) rfl) (hP.sub (ws' := [(qa1, .inl (ca1, na1, .inl fa1))]) [0] rfl) hsp
      · rw [if_neg c_75] at hsp
        refine lv_iload_n hx hb dX9_isName_15 rfl (lv_at hl 2 rfl) ?_
        refine lv_iload_n hx hb dX9_isName_16 rfl (lv_at hl 1 rfl) ?_
        refine lv_isub hx hb dX9_isName_17 ?_
        refine lv_bipush (v := 12) hx hb dX9_isName_18 (by decide) ?_
        refine lv_icmp_gt (tgt := 27) hx hb dX9_isName_20 (by decide) (fun c_112 => ?_) (fun c_112 => ?_)
        · rw [if_pos c_112] at hsp
          refine lv_iconst (v := 0) hx hb dX9_isName_27 (by decide) ?_
          refine lv_istore_n (lv' := [(3, .int 0), (0, .ref qa1), (1, .int a2), (2, .int a3)]) hx hb dX9_isName_28 rfl hl (by decide) rfl (fun ls hl => ?_)
          refine lv_iload_n hx hb dX9_isName_29 rfl (lv_at hl 2 rfl) ?_
          refine lv_istore (lv' := [(4, .int a2), (3, .int 0), (0, .ref qa1), (1, .int a2), (2, .int a3)]) hx hb dX9_isName_30 hl (by decide) rfl (fun ls hl => ?_)
          replace hP := hP.sub (ws' := [(qa1, .inl (ca1, na1, .inl fa1))]) [0] rfl
          replace hD := hD.sub (ws' := [(qa1, .inl (ca1, na1, .inl fa1))]) [0] (by decide) rfl
          replace hK := hK.sub (tys' := [(ca1, .byte)]) [0] rfl
          obtain ⟨n_32, hn_32⟩ : ∃ z : Nat, z = nf := ⟨_, rfl⟩
          obtain ⟨l1_32, el1_32⟩ : ∃ z : Int32, z = a2 := ⟨_, rfl⟩
          obtain ⟨l2_32, el2_32⟩ : ∃ z : Int32, z = a3 := ⟨_, rfl⟩
          obtain ⟨l3_32, el3_32⟩ : ∃ z : Int32, z = 0 := ⟨_, rfl⟩
          obtain ⟨l4_32, el4_32⟩ : ∃ z : Int32, z = a2 := ⟨_, rfl⟩
          replace hsp : lp_t9_isName_32 nf n_32 a2 a3 na1 fa1 l1_32 l2_32 l3_32 l4_32 = some r0 := by rw [hn_32, el1_32, el2_32, el3_32, el4_32]; exact hsp
          replace hl : lv_has ls 7 [(4, .int l4_32), (3, .int l3_32), (0, .ref qa1), (1, .int l1_32), (2, .int l2_32)] := by rw [el1_32, el2_32, el3_32, el4_32]; exact hl
          clear hn_32 el1_32 el2_32 el3_32 el4_32
          try clear hlo
          try clear hH
          revert hsp
          revert hP
          revert hD
          revert hS
          revert hl
          revert l4_32
          revert l3_32
          revert l2_32
          revert l1_32
          revert ls
          revert locs
          revert H
          induction n_32 with
          | zero => intro H locs ls l1_32 l2_32 l3_32 l4_32 hl hS hD hP hsp; unfold lp_t9_isName_32 at hsp; cases hsp
          | succ n_32 ih_32 =>
            intro H locs ls l1_32 l2_32 l3_32 l4_32 hl hS hD hP hsp
            unfold lp_t9_isName_32 at hsp
            try dsimp only at hsp
            refine lv_iload hx hb dX9_isName_32 (lv_at hl 0 rfl) ?_
            refine lv_iload_n hx hb dX9_isName_34 rfl (lv_at hl 4 rfl) ?_
            refine lv_icmp_ge (tgt := 127) hx hb dX9_isName_35 (by decide) (fun c_113 => ?_) (fun c_113 => ?_)
            · rw [if_pos c_113] at hsp
              refine lv_iload_n hx hb dX9_isName_127 rfl (lv_at hl 1 rfl) ?_
              rcases ox_01 hsp with ⟨rfl, hsp⟩ | ⟨rfl, hsp⟩
              · skip
                have hr0 := Option.some.inj hsp
                clear hsp
                subst hr0
                have hP9 := hP.sub (ws' := [(qa1, .inl (ca1, na1, .inl fa1))]) [0] rfl
                have hD9 := hD.sub (ws' := [(qa1, .inl (ca1, na1, .inl fa1))]) [0] (by decide) rfl
                have hK9 := hK.sub (tys' := [(ca1, .byte)]) [0] rfl
                exact W.zret hx hb hr (by decide) (fun t ht hW => ⟨⟨(0), (), rfl, ⟨rfl, Or.inl rfl⟩, by rw [ht]; exact hP9, va_K.moved hW.alike hK9, hD9⟩, hS.F ht⟩) hS.2.2 dX9_isName_128
              · skip
                have hr0 := Option.some.inj hsp
                clear hsp
                subst hr0
                have hP9 := hP.sub (ws' := [(qa1, .inl (ca1, na1, .inl fa1))]) [0] rfl
                have hD9 := hD.sub (ws' := [(qa1, .inl (ca1, na1, .inl fa1))]) [0] (by decide) rfl
                have hK9 := hK.sub (tys' := [(ca1, .byte)]) [0] rfl
                exact W.zret hx hb hr (by decide) (fun t ht hW => ⟨⟨(1), (), rfl, ⟨rfl, Or.inr rfl⟩, by rw [ht]; exact hP9, va_K.moved hW.alike hK9, hD9⟩, hS.F ht⟩) hS.2.2 dX9_isName_128
            · rw [if_neg c_113] at hsp
              refine lv_iload_n hx hb dX9_isName_38 rfl (lv_at hl 1 rfl) ?_
              refine lv_if_eq (tgt := 127) hx hb dX9_isName_39 (by decide) (fun c_114 => ?_) (fun c_114 => ?_)
              · rw [if_pos c_114] at hsp
                refine lv_iload_n hx hb dX9_isName_127 rfl (lv_at hl 1 rfl) ?_
                rcases ox_01 hsp with ⟨rfl, hsp⟩ | ⟨rfl, hsp⟩
                · skip
                  have hr0 := Option.some.inj hsp
                  clear hsp
                  subst hr0
                  have hP9 := hP.sub (ws' := [(qa1, .inl (ca1, na1, .inl fa1))]) [0] rfl
                  have hD9 := hD.sub (ws' := [(qa1, .inl (ca1, na1, .inl fa1))]) [0] (by decide) rfl
                  have hK9 := hK.sub (tys' := [(ca1, .byte)]) [0] rfl
                  exact W.zret hx hb hr (by decide) (fun t ht hW => ⟨⟨(0), (), rfl, ⟨rfl, Or.inl rfl⟩, by rw [ht]; exact hP9, va_K.moved hW.alike hK9, hD9⟩, hS.F ht⟩) hS.2.2 dX9_isName_128
                · skip
                  have hr0 := Option.some.inj hsp
                  clear hsp
                  subst hr0
                  have hP9 := hP.sub (ws' := [(qa1, .inl (ca1, na1, .inl fa1))]) [0] rfl
                  have hD9 := hD.sub (ws' := [(qa1, .inl (ca1, na1, .inl fa1))]) [0] (by decide) rfl
                  have hK9 := hK.sub (tys' := [(ca1, .byte)]) [0] rfl
                  exact W.zret hx hb hr (by decide) (fun t ht hW => ⟨⟨(1), (), rfl, ⟨rfl, Or.inr rfl⟩, by rw [ht]; exact hP9, va_K.moved hW.alike hK9, hD9⟩, hS.F ht⟩) hS.2.2 dX9_isName_128
              · rw [if_neg c_114] at hsp
                refine lv_aload_n hx hb dX9_isName_42 rfl (lv_at hl 2 rfl) ?_
                refine lv_iload hx hb dX9_isName_43 (lv_at hl 0 rfl) ?_
                obtain ⟨hi_115, hsp⟩ := ox_in hsp
                refine va_bald hx hb hK hP 0 0 rfl rfl (i := l4_32) hi_115 dX9_isName_45 ?_
                refine lv_istore (lv' := [(5, .int (fa1 (l4_32 : Int32).toNatClampNeg)), (4, .int l4_32), (3, .int l3_32), (0, .ref qa1), (1, .int l1_32), (2, .int l2_32)]) hx hb dX9_isName_46 hl (by decide) rfl (fun ls hl => ?_)
                refine lv_iload hx hb dX9_isName_48 (lv_at hl 0 rfl) ?_
                refine lv_bipush (v := 97) hx hb dX9_isName_50 (by decide) ?_
                refine lv_icmp_lt (tgt := 62) hx hb dX9_isName_52 (by decide) (fun c_116 => ?_) (fun c_116 => ?_)
                · rw [if_pos c_116] at hsp
                  refine lv_iload hx hb dX9_isName_62 (lv_at hl 0 rfl) ?_
                  refine lv_bipush (v := 65) hx hb dX9_isName_64 (by decide) ?_
                  refine lv_icmp_lt (tgt := 80) hx hb dX9_isName_66 (by decide) (fun c_117 => ?_) (fun c_117 => ?_)
                  · rw [if_pos c_117] at hsp
                    refine lv_iconst (v := 0) hx hb dX9_isName_80 (by decide) ?_
                    refine lv_istore (lv' := [(6, .int 0), (5, .int (fa1 (l4_32 : Int32).toNatClampNeg)), (4, .int l4_32), (3, .int l3_32), (0, .ref qa1), (1, .int l1_32), (2, .int l2_32)]) hx hb dX9_isName_81 hl (by decide) rfl (fun ls hl => ?_)
                    refine lv_iload hx hb dX9_isName_83 (lv_at hl 0 rfl) ?_
                    refine lv_if_ne (tgt := 115) hx hb dX9_isName_85 (by decide) (fun c_118 => (show False by revert c_118; decide).elim) (fun c_118 => ?_)
                    refine lv_iload hx hb dX9_isName_88 (lv_at hl 2 rfl) ?_
                    refine lv_iload_n hx hb dX9_isName_90 rfl (lv_at hl 5 rfl) ?_
                    refine lv_icmp_le (tgt := 119) hx hb dX9_isName_91 (by decide) (fun c_119 => ?_) (fun c_119 => ?_)
                    · rw [if_pos c_119] at hsp
                      refine lv_iconst (v := 0) hx hb dX9_isName_119 (by decide) ?_
                      refine lv_istore_n (lv' := [(3, .int 0), (6, .int 0), (5, .int (fa1 (l4_32 : Int32).toNatClampNeg)), (4, .int l4_32), (0, .ref qa1), (1, .int l1_32), (2, .int l2_32)]) hx hb dX9_isName_120 rfl hl (by decide) rfl (fun ls hl => ?_)
                      refine lv_iinc (v := (l4_32 + 1)) (lv' := [(4, .int (l4_32 + 1)), (3, .int 0), (6, .int 0), (5, .int (fa1 (l4_32 : Int32).toNatClampNeg)), (0, .ref qa1), (1, .int l1_32), (2, .int l2_32)]) hx hb dX9_isName_121 hl (k := 3) rfl rfl (by decide) rfl (fun ls hl => ?_)
                      refine lv_goto (tgt := 32) hx hb dX9_isName_124 (by decide) ?_
                      exact ih_32 H locs ls l1_32 l2_32 0 (l4_32 + 1) (lv_sub hl [0, 1, 4, 5, 6] rfl) hS (hD.sub (ws' := [(qa1, .inl (ca1, na1, .inl fa1))]) [0] (by decide) rfl) (hP.sub (ws' := [(qa1, .inl (ca1, na1, .inl fa1))]) [0] rfl) hsp
                    · rw [if_neg c_119] at hsp
                      refine lv_iload hx hb dX9_isName_94 (lv_at hl 1 rfl) ?_
                      refine lv_bipush (v := 48) hx hb dX9_isName_96 (by decide) ?_
                      refine lv_icmp_lt (tgt := 108) hx hb dX9_isName_98 (by decide) (fun c_120 => ?_) (fun c_120 => ?_)
                      · rw [if_pos c_120] at hsp
                        refine lv_iload hx hb dX9_isName_108 (lv_at hl 1 rfl) ?_
                        refine lv_bipush (v := 95) hx hb dX9_isName_110 (by decide) ?_
                        refine lv_icmp_ne (tgt := 119) hx hb dX9_isName_112 (by decide) (fun c_121 => ?_) (fun c_121 => ?_)
                        · rw [if_neg c_121] at hsp
                          refine lv_iconst (v := 0) hx hb dX9_isName_119 (by decide) ?_
                          refine lv_istore_n (lv' := [(3, .int 0), (6, .int 0), (5, .int (fa1 (l4_32 : Int32).toNatClampNeg)), (4, .int l4_32), (0, .ref qa1), (1, .int l1_32), (2, .int l2_32)]) hx hb dX9_isName_120 rfl hl (by decide) rfl (fun ls hl => ?_)
                          refine lv_iinc (v := (l4_32 + 1)) (lv' := [(4, .int (l4_32 + 1)), (3, .int 0), (6, .int 0), (5, .int (fa1 (l4_32 : Int32).toNatClampNeg)), (0, .ref qa1), (1, .int l1_32), (2, .int l2_32)]) hx hb dX9_isName_121 hl (k := 3) rfl rfl (by decide) rfl (fun ls hl => ?_)
                          refine lv_goto (tgt := 32) hx hb dX9_isName_124 (by decide) ?_
                          exact ih_32 H locs ls l1_32 l2_32 0 (l4_32 + 1) (lv_sub hl [0, 1, 4, 5, 6] rfl) hS (hD.sub (ws' := [(qa1, .inl (ca1, na1, .inl fa1))]) [0] (by decide) rfl) (hP.sub (ws' := [(qa1, .inl (ca1, na1, .inl fa1))]) [0] rfl) hsp
                        · rw [if_pos c_121] at hsp
                          refine lv_iconst (v := 1) hx hb dX9_isName_115 (by decide) ?_
                          refine lv_goto (tgt := 120) hx hb dX9_isName_116 (by decide) ?_
                          refine lv_istore_n (lv' := [(3, .int 1), (6, .int 0), (5, .int (fa1 (l4_32 : Int32).toNatClampNeg)), (4, .int l4_32), (0, .ref qa1), (1, .int l1_32), (2, .int l2_32)]) hx hb dX9_isName_120 rfl hl (by decide) rfl (fun ls hl => ?_)
                          refine lv_iinc (v := (l4_32 + 1)) (lv' := [(4, .int (l4_32 + 1)), (3, .int 1), (6, .int 0), (5, .int (fa1 (l4_32 : Int32).toNatClampNeg)), (0, .ref qa1), (1, .int l1_32), (2, .int l2_32)]) hx hb dX9_isName_121 hl (k := 3) rfl rfl (by decide) rfl (fun ls hl => ?_)
                          refine lv_goto (tgt := 32) hx hb dX9_isName_124 (by decide) ?_
                          exact ih_32 H locs ls l1_32 l2_32 1 (l4_32 + 1) (lv_sub hl [0, 1, 4, 5, 6] rfl) hS (hD.sub (ws' := [(qa1, .inl (ca1, na1, .inl fa1))]) [0] (by decide) rfl) (hP.sub (ws' := [(qa1, .inl (ca1, na1, .inl fa1))]) [0] rfl) hsp
                      · rw [if_neg c_120] at hsp
                        refine lv_iload hx hb dX9_isName_101 (lv_at hl 1 rfl) ?_
                        refine lv_bipush (v := 57) hx hb dX9_isName_103 (by decide) ?_
                        refine lv_icmp_le (tgt := 115) hx hb dX9_isName_105 (by decide) (fun c_122 => ?_) (fun c_122 => ?_)
                        · rw [if_pos c_122] at hsp
                          refine lv_iconst (v := 1) hx hb dX9_isName_115 (by decide) ?_
                          refine lv_goto (tgt := 120) hx hb dX9_isName_116 (by decide) ?_
                          refine lv_istore_n (lv' := [(3, .int 1), (6, .int 0), (5, .int (fa1 (l4_32 : Int32).toNatClampNeg)), (4, .int l4_32), (0, .ref qa1), (1, .int l1_32), (2, .int l2_32)]) hx hb dX9_isName_120 rfl hl (by decide) rfl (fun ls hl => ?_)
                          refine lv_iinc (v := (l4_32 + 1)) (lv' := [(4, .int (l4_32 + 1)), (3, .int 1), (6, .int 0), (5, .int (fa1 (l4_32 : Int32).toNatClampNeg)), (0, .ref qa1), (1, .int l1_32), (2, .int l2_32)]) hx hb dX9_isName_121 hl (k := 3) rfl rfl (by decide) rfl (fun ls hl => ?_)
                          refine lv_goto (tgt := 32) hx hb dX9_isName_124 (by decide) ?_
                          exact ih_32 H locs ls l1_32 l2_32 1 (l4_32 + 1) (lv_sub hl [0, 1, 4, 5, 6] rfl) hS (hD.sub (ws' := [(qa1, .inl (ca1, na1, .inl fa1))]) [0] (by decide) rfl) (hP.sub (ws' := [(qa1, .inl (ca1, na1, .inl fa1))]) [0] rfl) hsp
                        · rw [if_neg c_122] at hsp
                          refine lv_iload hx hb dX9_isName_108 (lv_at hl 1 rfl) ?_
                          refine lv_bipush (v := 95) hx hb dX9_isName_110 (by decide) ?_
                          refine lv_icmp_ne (tgt := 119) hx hb dX9_isName_112 (by decide) (fun c_123 => ?_) (fun c_123 => ?_)
                          · rw [if_neg c_123] at hsp
                            refine lv_iconst (v := 0) hx hb dX9_isName_119 (by decide) ?_
                            refine lv_istore_n (lv' := [(3, .int 0), (6, .int 0), (5, .int (fa1 (l4_32 : Int32).toNatClampNeg)), (4, .int l4_32), (0, .ref qa1), (1, .int l1_32), (2, .int l2_32)]) hx hb dX9_isName_120 rfl hl (by decide) rfl (fun ls hl => ?_)
                            refine lv_iinc (v := (l4_32 + 1)) (lv' := [(4, .int (l4_32 + 1)), (3, .int 0), (6, .int 0), (5, .int (fa1 (l4_32 : Int32).toNatClampNeg)), (0, .ref qa1), (1, .int l1_32), (2, .int l2_32)]) hx hb dX9_isName_121 hl (k := 3) rfl rfl (by decide) rfl (fun ls hl => ?_)
                            refine lv_goto (tgt := 32) hx hb dX9_isName_124 (by decide) ?_
                            exact ih_32 H locs ls l1_32 l2_32 0 (l4_32 + 1) (lv_sub hl [0, 1, 4, 5, 6] rfl) hS (hD.sub (ws' := [(qa1, .inl (ca1, na1, .inl fa1))]) [0] (by decide) rfl) (hP.sub (ws' := [(qa1, .inl (ca1, na1, .inl fa1))]) [0] rfl) hsp
                          · rw [if_pos c_123] at hsp
                            refine lv_iconst (v := 1) hx hb dX9_isName_115 (by decide) ?_
                            refine lv_goto (tgt := 120) hx hb dX9_isName_116 (by decide) ?_
                            refine lv_istore_n (lv' := [(3, .int 1), (6, .int 0), (5, .int (fa1 (l4_32 : Int32).toNatClampNeg)), (4, .int l4_32), (0, .ref qa1), (1, .int l1_32), (2, .int l2_32)]) hx hb dX9_isName_120 rfl hl (by decide) rfl (fun ls hl => ?_)
                            refine lv_iinc (v := (l4_32 + 1)) (lv' := [(4, .int (l4_32 + 1)), (3, .int 1), (6, .int 0), (5, .int (fa1 (l4_32 : Int32).toNatClampNeg)), (0, .ref qa1), (1, .int l1_32), (2, .int l2_32)]) hx hb dX9_isName_121 hl (k := 3) rfl rfl (by decide) rfl (fun ls hl => ?_)
                            refine lv_goto (tgt := 32) hx hb dX9_isName_124 (by decide) ?_
                            exact ih_32 H locs ls l1_32 l2_32 1 (l4_32 + 1) (lv_sub hl [0, 1, 4, 5, 6] rfl) hS (hD.sub (ws' := [(qa1, .inl (ca1, na1, .inl fa1))]) [0] (by decide) rfl) (hP.sub (ws' := [(qa1, .inl (ca1, na1, .inl fa1))]) [0] rfl) hsp
                  · rw [if_neg c_117] at hsp
                    refine lv_iload hx hb dX9_isName_69 (lv_at hl 0 rfl) ?_
                    refine lv_bipush (v := 90) hx hb dX9_isName_71 (by decide) ?_
                    refine lv_icmp_gt (tgt := 80) hx hb dX9_isName_73 (by decide) (fun c_124 => ?_) (fun c_124 => ?_)
                    · rw [if_pos c_124] at hsp
                      refine lv_iconst (v := 0) hx hb dX9_isName_80 (by decide) ?_
                      refine lv_istore (lv' := [(6, .int 0), (5, .int (fa1 (l4_32 : Int32).toNatClampNeg)), (4, .int l4_32), (3, .int l3_32), (0, .ref qa1), (1, .int l1_32), (2, .int l2_32)]) hx hb dX9_isName_81 hl (by decide) rfl (fun ls hl => ?_)
                      refine lv_iload hx hb dX9_isName_83 (lv_at hl 0 rfl) ?_
                      refine lv_if_ne (tgt := 115) hx hb dX9_isName_85 (by decide) (fun c_125 => (show False by revert c_125; decide).elim) (fun c_125 => ?_)
                      refine lv_iload hx hb dX9_isName_88 (lv_at hl 2 rfl) ?_
                      refine lv_iload_n hx hb dX9_isName_90 rfl (lv_at hl 5 rfl) ?_
                      refine lv_icmp_le (tgt := 119) hx hb dX9_isName_91 (by decide) (fun c_126 => ?_) (fun c_126 => ?_)
                      · rw [if_pos c_126] at hsp
                        refine lv_iconst (v := 0) hx hb dX9_isName_119 (by decide) ?_
                        refine lv_istore_n (lv' := [(3, .int 0), (6, .int 0), (5, .int (fa1 (l4_32 : Int32).toNatClampNeg)), (4, .int l4_32), (0, .ref qa1), (1, .int l1_32), (2, .int l2_32)]) hx hb dX9_isName_120 rfl hl (by decide) rfl (fun ls hl => ?_)
                        refine lv_iinc (v := (l4_32 + 1)) (lv' := [(4, .int (l4_32 + 1)), (3, .int 0), (6, .int 0), (5, .int (fa1 (l4_32 : Int32).toNatClampNeg)), (0, .ref qa1), (1, .int l1_32), (2, .int l2_32)]) hx hb dX9_isName_121 hl (k := 3) rfl rfl (by decide) rfl (fun ls hl => ?_)
                        refine lv_goto (tgt := 32) hx hb dX9_isName_124 (by decide) ?_
                        exact ih_32 H locs ls l1_32 l2_32 0 (l4_32 + 1) (lv_sub hl [0, 1, 4, 5, 6] rfl) hS (hD.sub (ws' := [(qa1, .inl (ca1, na1, .inl fa1))]) [0] (by decide) rfl) (hP.sub (ws' := [(qa1, .inl (ca1, na1, .inl fa1))]) [0] rfl) hsp
                      · rw [if_neg c_126] at hsp
                        refine lv_iload hx hb dX9_isName_94 (lv_at hl 1 rfl) ?_
                        refine lv_bipush (v := 48) hx hb dX9_isName_96 (by decide) ?_
                        refine lv_icmp_lt (tgt := 108) hx hb dX9_isName_98 (by decide) (fun c_127 => ?_) (fun c_127 => ?_)
                        · rw [if_pos c_127] at hsp
                          refine lv_iload hx hb dX9_isName_108 (lv_at hl 1 rfl) ?_
                          refine lv_bipush (v := 95) hx hb dX9_isName_110 (by decide) ?_
                          refine lv_icmp_ne (tgt := 119) hx hb dX9_isName_112 (by decide) (fun c_128 => ?_) (fun c_128 => ?_)
                          · rw [if_neg c_128] at hsp
                            refine lv_iconst (v := 0) hx hb dX9_isName_119 (by decide) ?_
                            refine lv_istore_n (lv' := [(3, .int 0), (6, .int 0), (5, .int (fa1 (l4_32 : Int32).toNatClampNeg)), (4, .int l4_32), (0, .ref qa1), (1, .int l1_32), (2, .int l2_32)]) hx hb dX9_isName_120 rfl hl (by decide) rfl (fun ls hl => ?_)
                            refine lv_iinc (v := (l4_32 + 1)) (lv' := [(4, .int (l4_32 + 1)), (3, .int 0), (6, .int 0), (5, .int (fa1 (l4_32 : Int32).toNatClampNeg)), (0, .ref qa1), (1, .int l1_32), (2, .int l2_32)]) hx hb dX9_isName_121 hl (k := 3) rfl rfl (by decide) rfl (fun ls hl => ?_)
                            refine lv_goto (tgt := 32) hx hb dX9_isName_124 (by decide) ?_
                            exact ih_32 H locs ls l1_32 l2_32 0 (l4_32 + 1) (lv_sub hl [0, 1, 4, 5, 6] rfl) hS (hD.sub (ws' := [(qa1, .inl (ca1, na1, .inl fa1))]) [0] (by decide) rfl) (hP.sub (ws' := [(qa1, .inl (ca1, na1, .inl fa1))]) [0] rfl) hsp
                          · rw [if_pos c_128] at hsp
                            refine lv_iconst (v := 1) hx hb dX9_isName_115 (by decide) ?_
                            refine lv_goto (tgt := 120) hx hb dX9_isName_116 (by decide) ?_
                            refine lv_istore_n (lv' := [(3, .int 1), (6, .int 0), (5, .int (fa1 (l4_32 : Int32).toNatClampNeg)), (4, .int l4_32), (0, .ref qa1), (1, .int l1_32), (2, .int l2_32)]) hx hb dX9_isName_120 rfl hl (by decide) rfl (fun ls hl => ?_)
                            refine lv_iinc (v := (l4_32 + 1)) (lv' := [(4, .int (l4_32 + 1)), (3, .int 1), (6, .int 0), (5, .int (fa1 (l4_32 : Int32).toNatClampNeg)), (0, .ref qa1), (1, .int l1_32), (2, .int l2_32)]) hx hb dX9_isName_121 hl (k := 3) rfl rfl (by decide) rfl (fun ls hl => ?_)
                            refine lv_goto (tgt := 32) hx hb dX9_isName_124 (by decide) ?_
                            exact ih_32 H locs ls l1_32 l2_32 1 (l4_32 + 1) (lv_sub hl [0, 1, 4, 5, 6] rfl) hS (hD.sub (ws' := [(qa1, .inl (ca1, na1, .inl fa1))]) [0] (by decide) rfl) (hP.sub (ws' := [(qa1, .inl (ca1, na1, .inl fa1))]) [0] rfl) hsp
                        · rw [if_neg c_127] at hsp
                          refine lv_iload hx hb dX9_isName_101 (lv_at hl 1 rfl) ?_
                          refine lv_bipush (v := 57) hx hb dX9_isName_103 (by decide) ?_
                          refine lv_icmp_le (tgt := 115) hx hb dX9_isName_105 (by decide) (fun c_129 => ?_) (fun c_129 => ?_)
                          · rw [if_pos c_129] at hsp
                            refine lv_iconst (v := 1) hx hb dX9_isName_115 (by decide) ?_
                            refine lv_goto (tgt := 120) hx hb dX9_isName_116 (by decide) ?_
                            refine lv_istore_n (lv' := [(3, .int 1), (6, .int 0), (5, .int (fa1 (l4_32 : Int32).toNatClampNeg)), (4, .int l4_32), (0, .ref qa1), (1, .int l1_32), (2, .int l2_32)]) hx hb dX9_isName_120 rfl hl (by decide) rfl (fun ls hl => ?_)
                            refine lv_iinc (v := (l4_32 + 1)) (lv' := [(4, .int (l4_32 + 1)), (3, .int 1), (6, .int 0), (5, .int (fa1 (l4_32 : Int32).toNatClampNeg)), (0, .ref qa1), (1, .int l1_32), (2, .int l2_32)]) hx hb dX9_isName_121 hl (k := 3) rfl rfl (by decide) rfl (fun ls hl => ?_)
                            refine lv_goto (tgt := 32) hx hb dX9_isName_124 (by decide) ?_
                            exact ih_32 H locs ls l1_32 l2_32 1 (l4_32 + 1) (lv_sub hl [0, 1, 4, 5, 6] rfl) hS (hD.sub (ws' := [(qa1, .inl (ca1, na1, .inl fa1))]) [0] (by decide) rfl) (hP.sub (ws' := [(qa1, .inl (ca1, na1, .inl fa1))]) [0] rfl) hsp
                          · rw [if_neg c_129] at hsp
                            refine lv_iload hx hb dX9_isName_108 (lv_at hl 1 rfl) ?_
                            refine lv_bipush (v := 95) hx hb dX9_isName_110 (by decide) ?_
                            refine lv_icmp_ne (tgt := 119) hx hb dX9_isName_112 (by decide) (fun c_130 => ?_) (fun c_130 => ?_)
                            · rw [if_neg c_130] at hsp
                              refine lv_iconst (v := 0) hx hb dX9_isName_119 (by decide) ?_
                              refine lv_istore_n (lv' := [(3, .int 0), (6, .int 0), (5, .int (fa1 (l4_32 : Int32).toNatClampNeg)), (4, .int l4_32), (0, .ref qa1), (1, .int l1_32), (2, .int l2_32)]) hx hb dX9_isName_120 rfl hl (by decide) rfl (fun ls hl => ?_)
                              refine lv_iinc (v := (l4_32 + 1)) (lv' := [(4, .int (l4_32 + 1)), (3, .int 0), (6, .int 0), (5, .int (fa1 (l4_32 : Int32).toNatClampNeg)), (0, .ref qa1), (1, .int l1_32), (2, .int l2_32)]) hx hb dX9_isName_121 hl (k := 3) rfl rfl (by decide) rfl (fun ls hl => ?_)
                              refine lv_goto (tgt := 32) hx hb dX9_isName_124 (by decide) ?_
                              exact ih_32 H locs ls l1_32 l2_32 0 (l4_32 + 1) (lv_sub hl [0, 1, 4, 5, 6] rfl) hS (hD.sub (ws' := [(qa1, .inl (ca1, na1, .inl fa1))]) [0] (by decide) rfl) (hP.sub (ws' := [(qa1, .inl (ca1, na1, .inl fa1))]) [0] rfl) hsp
                            · rw [if_pos c_130] at hsp
                              refine lv_iconst (v := 1) hx hb dX9_isName_115 (by decide) ?_
                              refine lv_goto (tgt := 120) hx hb dX9_isName_116 (by decide) ?_
                              refine lv_istore_n (lv' := [(3, .int 1), (6, .int 0), (5, .int (fa1 (l4_32 : Int32).toNatClampNeg)), (4, .int l4_32), (0, .ref qa1), (1, .int l1_32), (2, .int l2_32)]) hx hb dX9_isName_120 rfl hl (by decide) rfl (fun ls hl => ?_)
                              refine lv_iinc (v := (l4_32 + 1)) (lv' := [(4, .int (l4_32 + 1)), (3, .int 1), (6, .int 0), (5, .int (fa1 (l4_32 : Int32).toNatClampNeg)), (0, .ref qa1), (1, .int l1_32), (2, .int l2_32)]) hx hb dX9_isName_121 hl (k := 3) rfl rfl (by decide) rfl (fun ls hl => ?_)
                              refine lv_goto (tgt := 32) hx hb dX9_isName_124 (by decide) ?_
                              exact ih_32 H locs ls l1_32 l2_32 1 (l4_32 + 1) (lv_sub hl [0, 1, 4, 5, 6] rfl) hS (hD.sub (ws' := [(qa1, .inl (ca1, na1, .inl fa1))]) [0] (by decide) rfl) (hP.sub (ws' := [(qa1, .inl (ca1, na1, .inl fa1))]) [0] rfl) hsp
                    · rw [if_neg c_124] at hsp
                      refine lv_iconst (v := 1) hx hb dX9_isName_76 (by decide) ?_
                      refine lv_goto (tgt := 81) hx hb dX9_isName_77 (by decide) ?_
                      refine lv_istore (lv' := [(6, .int 1), (5, .int (fa1 (l4_32 : Int32).toNatClampNeg)), (4, .int l4_32), (3, .int l3_32), (0, .ref qa1), (1, .int l1_32), (2, .int l2_32)]) hx hb dX9_isName_81 hl (by decide) rfl (fun ls hl => ?_)
                      refine lv_iload hx hb dX9_isName_83 (lv_at hl 0 rfl) ?_
                      refine lv_if_ne (tgt := 115) hx hb dX9_isName_85 (by decide) (fun c_131 => ?_) (fun c_131 => (show False by revert c_131; decide).elim)
                      refine lv_iconst (v := 1) hx hb dX9_isName_115 (by decide) ?_
                      refine lv_goto (tgt := 120) hx hb dX9_isName_116 (by decide) ?_
                      refine lv_istore_n (lv' := [(3, .int 1), (6, .int 1), (5, .int (fa1 (l4_32 : Int32).toNatClampNeg)), (4, .int l4_32), (0, .ref qa1), (1, .int l1_32), (2, .int l2_32)]) hx hb dX9_isName_120 rfl hl (by decide) rfl (fun ls hl => ?_)
                      refine lv_iinc (v := (l4_32 + 1)) (lv' := [(4, .int (l4_32 + 1)), (3, .int 1), (6, .int 1), (5, .int (fa1 (l4_32 : Int32).toNatClampNeg)), (0, .ref qa1), (1, .int l1_32), (2, .int l2_32)]) hx hb dX9_isName_121 hl (k := 3) rfl rfl (by decide) rfl (fun ls hl => ?_)
                      refine lv_goto (tgt := 32) hx hb dX9_isName_124 (by decide) ?_
                      exact ih_32 H locs ls l1_32 l2_32 1 (l4_32 + 1) (lv_sub hl [0, 1, 4, 5, 6] rfl) hS (hD.sub (ws' := [(qa1, .inl (ca1, na1, .inl fa1))]) [0] (by decide) rfl) (hP.sub (ws' := [(qa1, .inl (ca1, na1, .inl fa1))]) [0] rfl) hsp
                · rw [if_neg c_116] at hsp
                  refine lv_iload hx hb dX9_isName_55 (lv_at hl 0 rfl) ?_
                  refine lv_bipush (v := 122) hx hb dX9_isName_57 (by decide) ?_
                  refine lv_icmp_le (tgt := 76) hx hb dX9_isName_59 (by decide) (fun c_132 => ?_) (fun c_132 => ?_)
                  · rw [if_pos c_132] at hsp
                    refine lv_iconst (v := 1) hx hb dX9_isName_76 (by decide) ?_
                    refine lv_goto (tgt := 81) hx hb dX9_isName_77 (by decide) ?_
                    refine lv_istore (lv' := [(6, .int 1), (5, .int (fa1 (l4_32 : Int32).toNatClampNeg)), (4, .int l4_32), (3, .int l3_32), (0, .ref qa1), (1, .int l1_32), (2, .int l2_32)]) hx hb dX9_isName_81 hl (by decide) rfl (fun ls hl => ?_)
                    refine lv_iload hx hb dX9_isName_83 (lv_at hl 0 rfl) ?_
                    refine lv_if_ne (tgt := 115) hx hb dX9_isName_85 (by decide) (fun c_133 => ?_) (fun c_133 => (show False by revert c_133; decide).elim)
                    refine lv_iconst (v := 1) hx hb dX9_isName_115 (by decide) ?_
                    refine lv_goto (tgt := 120) hx hb dX9_isName_116 (by decide) ?_
                    refine lv_istore_n (lv' := [(3, .int 1), (6, .int 1), (5, .int (fa1 (l4_32 : Int32).toNatClampNeg)), (4, .int l4_32), (0, .ref qa1), (1, .int l1_32), (2, .int l2_32)]) hx hb dX9_isName_120 rfl hl (by decide) rfl (fun ls hl => ?_)
                    refine lv_iinc (v := (l4_32 + 1)) (lv' := [(4, .int (l4_32 + 1)), (3, .int 1), (6, .int 1), (5, .int (fa1 (l4_32 : Int32).toNatClampNeg)), (0, .ref qa1), (1, .int l1_32), (2, .int l2_32)]) hx hb dX9_isName_121 hl (k := 3) rfl rfl (by decide) rfl (fun ls hl => ?_)
                    refine lv_goto (tgt := 32) hx hb dX9_isName_124 (by decide) ?_
                    exact ih_32 H locs ls l1_32 l2_32 1 (l4_32 + 1) (lv_sub hl [0, 1, 4, 5, 6] rfl) hS (hD.sub (ws' := [(qa1, .inl (ca1, na1, .inl fa1))]) [0] (by decide) rfl) (hP.sub (ws' := [(qa1, .inl (ca1, na1, .inl fa1))]) [0] rfl) hsp
                  · rw [if_neg c_132] at hsp
                    refine lv_iload hx hb dX9_isName_62 (lv_at hl 0 rfl) ?_
                    refine lv_bipush (v := 65) hx hb dX9_isName_64 (by decide) ?_
                    refine lv_icmp_lt (tgt := 80) hx hb dX9_isName_66 (by decide) (fun c_134 => ?_) (fun c_134 => ?_)
                    · rw [if_pos c_134] at hsp
                      refine lv_iconst (v := 0) hx hb dX9_isName_80 (by decide) ?_
                      refine lv_istore (lv' := [(6, .int 0), (5, .int (fa1 (l4_32 : Int32).toNatClampNeg)), (4, .int l4_32), (3, .int l3_32), (0, .ref qa1), (1, .int l1_32), (2, .int l2_32)]) hx hb dX9_isName_81 hl (by decide) rfl (fun ls hl => ?_)
                      refine lv_iload hx hb dX9_isName_83 (lv_at hl 0 rfl) ?_
                      refine lv_if_ne (tgt := 115) hx hb dX9_isName_85 (by decide) (fun c_135 => (show False by revert c_135; decide).elim) (fun c_135 => ?_)
                      refine lv_iload hx hb dX9_isName_88 (lv_at hl 2 rfl) ?_
                      refine lv_iload_n hx hb dX9_isName_90 rfl (lv_at hl 5 rfl) ?_
                      refine lv_icmp_le (tgt := 119) hx hb dX9_isName_91 (by decide) (fun c_136 => ?_) (fun c_136 => ?_)
                      · rw [if_pos c_136] at hsp
                        refine lv_iconst (v := 0) hx hb dX9_isName_119 (by decide) ?_
                        refine lv_istore_n (lv' := [(3, .int 0), (6, .int 0), (5, .int (fa1 (l4_32 : Int32).toNatClampNeg)), (4, .int l4_32), (0, .ref qa1), (1, .int l1_32), (2, .int l2_32)]) hx hb dX9_isName_120 rfl hl (by decide) rfl (fun ls hl => ?_)
                        refine lv_iinc (v := (l4_32 + 1)) (lv' := [(4, .int (l4_32 + 1)), (3, .int 0), (6, .int 0), (5, .int (fa1 (l4_32 : Int32).toNatClampNeg)), (0, .ref qa1), (1, .int l1_32), (2, .int l2_32)]) hx hb dX9_isName_121 hl (k := 3) rfl rfl (by decide) rfl (fun ls hl => ?_)
                        refine lv_goto (tgt := 32) hx hb dX9_isName_124 (by decide) ?_
                        exact ih_32 H locs ls l1_32 l2_32 0 (l4_32 + 1) (lv_sub hl [0, 1, 4, 5, 6] rfl) hS (hD.sub (ws' := [(qa1, .inl (ca1, na1, .inl fa1))]) [0] (by decide) rfl) (hP.sub (ws' := [(qa1, .inl (ca1, na1, .inl fa1))]) [0] rfl) hsp
                      · rw [if_neg c_136] at hsp
                        refine lv_iload hx hb dX9_isName_94 (lv_at hl 1 rfl) ?_
                        refine lv_bipush (v := 48) hx hb dX9_isName_96 (by decide) ?_
                        refine lv_icmp_lt (tgt := 108) hx hb dX9_isName_98 (by decide) (fun c_137 => ?_) (fun c_137 => ?_)
                        · rw [if_pos c_137] at hsp
                          refine lv_iload hx hb dX9_isName_108 (lv_at hl 1 rfl) ?_
                          refine lv_bipush (v := 95) hx hb dX9_isName_110 (by decide) ?_
                          refine lv_icmp_ne (tgt := 119) hx hb dX9_isName_112 (by decide) (fun c_138 => ?_) (fun c_138 => ?_)
                          · rw [if_neg c_138] at hsp
                            refine lv_iconst (v := 0) hx hb dX9_isName_119 (by decide) ?_
                            refine lv_istore_n (lv' := [(3, .int 0), (6, .int 0), (5, .int (fa1 (l4_32 : Int32).toNatClampNeg)), (4, .int l4_32), (0, .ref qa1), (1, .int l1_32), (2, .int l2_32)]) hx hb dX9_isName_120 rfl hl (by decide) rfl (fun ls hl => ?_)
                            refine lv_iinc (v := (l4_32 + 1)) (lv' := [(4, .int (l4_32 + 1)), (3, .int 0), (6, .int 0), (5, .int (fa1 (l4_32 : Int32).toNatClampNeg)), (0, .ref qa1), (1, .int l1_32), (2, .int l2_32)]) hx hb dX9_isName_121 hl (k := 3) rfl rfl (by decide) rfl (fun ls hl => ?_)
                            refine lv_goto (tgt := 32) hx hb dX9_isName_124 (by decide) ?_
                            exact ih_32 H locs ls l1_32 l2_32 0 (l4_32 + 1) (lv_sub hl [0, 1, 4, 5, 6] rfl) hS (hD.sub (ws' := [(qa1, .inl (ca1, na1, .inl fa1))]) [0] (by decide) rfl) (hP.sub (ws' := [(qa1, .inl (ca1, na1, .inl fa1))]) [0] rfl) hsp
                          · rw [if_pos c_138] at hsp
                            refine lv_iconst (v := 1) hx hb dX9_isName_115 (by decide) ?_
                            refine lv_goto (tgt := 120) hx hb dX9_isName_116 (by decide) ?_
                            refine lv_istore_n (lv' := [(3, .int 1), (6, .int 0), (5, .int (fa1 (l4_32 : Int32).toNatClampNeg)), (4, .int l4_32), (0, .ref qa1), (1, .int l1_32), (2, .int l2_32)]) hx hb dX9_isName_120 rfl hl (by decide) rfl (fun ls hl => ?_)
                            refine lv_iinc (v := (l4_32 + 1)) (lv' := [(4, .int (l4_32 + 1)), (3, .int 1), (6, .int 0), (5, .int (fa1 (l4_32 : Int32).toNatClampNeg)), (0, .ref qa1), (1, .int l1_32), (2, .int l2_32)]) hx hb dX9_isName_121 hl (k := 3) rfl rfl (by decide) rfl (fun ls hl => ?_)
                            refine lv_goto (tgt := 32) hx hb dX9_isName_124 (by decide) ?_
                            exact ih_32 H locs ls l1_32 l2_32 1 (l4_32 + 1) (lv_sub hl [0, 1, 4, 5, 6] rfl) hS (hD.sub (ws' := [(qa1, .inl (ca1, na1, .inl fa1))]) [0] (by decide) rfl) (hP.sub (ws' := [(qa1, .inl (ca1, na1, .inl fa1))]) [0] rfl) hsp
                        · rw [if_neg c_137] at hsp
                          refine lv_iload hx hb dX9_isName_101 (lv_at hl 1 rfl) ?_
                          refine lv_bipush (v := 57) hx hb dX9_isName_103 (by decide) ?_
                          refine lv_icmp_le (tgt := 115) hx hb dX9_isName_105 (by decide) (fun c_139 => ?_) (fun c_139 => ?_)
                          · rw [if_pos c_139] at hsp
                            refine lv_iconst (v := 1) hx hb dX9_isName_115 (by decide) ?_
                            refine lv_goto (tgt := 120) hx hb dX9_isName_116 (by decide) ?_
                            refine lv_istore_n (lv' := [(3, .int 1), (6, .int 0), (5, .int (fa1 (l4_32 : Int32).toNatClampNeg)), (4, .int l4_32), (0, .ref qa1), (1, .int l1_32), (2, .int l2_32)]) hx hb dX9_isName_120 rfl hl (by decide) rfl (fun ls hl => ?_)
                            refine lv_iinc (v := (l4_32 + 1)) (lv' := [(4, .int (l4_32 + 1)), (3, .int 1), (6, .int 0), (5, .int (fa1 (l4_32 : Int32).toNatClampNeg)), (0, .ref qa1), (1, .int l1_32), (2, .int l2_32)]) hx hb dX9_isName_121 hl (k := 3) rfl rfl (by decide) rfl (fun ls hl => ?_)
                            refine lv_goto (tgt := 32) hx hb dX9_isName_124 (by decide) ?_
                            exact ih_32 H locs ls l1_32 l2_32 1 (l4_32 + 1) (lv_sub hl [0, 1, 4, 5, 6] rfl) hS (hD.sub (ws' := [(qa1, .inl (ca1, na1, .inl fa1))]) [0] (by decide) rfl) (hP.sub (ws' := [(qa1, .inl (ca1, na1, .inl fa1))]) [0] rfl) hsp
                          · rw [if_neg c_139] at hsp
                            refine lv_iload hx hb dX9_isName_108 (lv_at hl 1 rfl) ?_
                            refine lv_bipush (v := 95) hx hb dX9_isName_110 (by decide) ?_
                            refine lv_icmp_ne (tgt := 119) hx hb dX9_isName_112 (by decide) (fun c_140 => ?_) (fun c_140 => ?_)
                            · rw [if_neg c_140] at hsp
                              refine lv_iconst (v := 0) hx hb dX9_isName_119 (by decide) ?_
                              refine lv_istore_n (lv' := [(3, .int 0), (6, .int 0), (5, .int (fa1 (l4_32 : Int32).toNatClampNeg)), (4, .int l4_32), (0, .ref qa1), (1, .int l1_32), (2, .int l2_32)]) hx hb dX9_isName_120 rfl hl (by decide) rfl (fun ls hl => ?_)
                              refine lv_iinc (v := (l4_32 + 1)) (lv' := [(4, .int (l4_32 + 1)), (3, .int 0), (6, .int 0), (5, .int (fa1 (l4_32 : Int32).toNatClampNeg)), (0, .ref qa1), (1, .int l1_32), (2, .int l2_32)]) hx hb dX9_isName_121 hl (k := 3) rfl rfl (by decide) rfl (fun ls hl => ?_)
                              refine lv_goto (tgt := 32) hx hb dX9_isName_124 (by decide) ?_
                              exact ih_32 H locs ls l1_32 l2_32 0 (l4_32 + 1) (lv_sub hl [0, 1, 4, 5, 6] rfl) hS (hD.sub (ws' := [(qa1, .inl (ca1, na1, .inl fa1))]) [0] (by decide) rfl) (hP.sub (ws' := [(qa1, .inl (ca1, na1, .inl fa1))]) [0] rfl) hsp
                            · rw [if_pos c_140] at hsp
                              refine lv_iconst (v := 1) hx hb dX9_isName_115 (by decide) ?_
                              refine lv_goto (tgt := 120) hx hb dX9_isName_116 (by decide) ?_
                              refine lv_istore_n (lv' := [(3, .int 1), (6, .int 0), (5, .int (fa1 (l4_32 : Int32).toNatClampNeg)), (4, .int l4_32), (0, .ref qa1), (1, .int l1_32), (2, .int l2_32)]) hx hb dX9_isName_120 rfl hl (by decide) rfl (fun ls hl => ?_)
                              refine lv_iinc (v := (l4_32 + 1)) (lv' := [(4, .int (l4_32 + 1)), (3, .int 1), (6, .int 0), (5, .int (fa1 (l4_32 : Int32).toNatClampNeg)), (0, .ref qa1), (1, .int l1_32), (2, .int l2_32)]) hx hb dX9_isName_121 hl (k := 3) rfl rfl (by decide) rfl (fun ls hl => ?_)
                              refine lv_goto (tgt := 32) hx hb dX9_isName_124 (by decide) ?_
                              exact ih_32 H locs ls l1_32 l2_32 1 (l4_32 + 1) (lv_sub hl [0, 1, 4, 5, 6] rfl) hS (hD.sub (ws' := [(qa1, .inl (ca1, na1, .inl fa1))]) [0] (by decide) rfl) (hP.sub (ws' := [(qa1, .inl (ca1, na1, .inl fa1))]) [0] rfl) hsp
                    · rw [if_neg c_134] at hsp
                      refine lv_iload hx hb dX9_isName_69 (lv_at hl 0 rfl) ?_
                      refine lv_bipush (v := 90) hx hb dX9_isName_71 (by decide) ?_
                      refine lv_icmp_gt (tgt := 80) hx hb dX9_isName_73 (by decide) (fun c_141 => ?_) (fun c_141 => ?_)
                      · rw [if_pos c_141] at hsp
                        refine lv_iconst (v := 0) hx hb dX9_isName_80 (by decide) ?_
                        refine lv_istore (lv' := [(6, .int 0), (5, .int (fa1 (l4_32 : Int32).toNatClampNeg)), (4, .int l4_32), (3, .int l3_32), (0, .ref qa1), (1, .int l1_32), (2, .int l2_32)]) hx hb dX9_isName_81 hl (by decide) rfl (fun ls hl => ?_)
                        refine lv_iload hx hb dX9_isName_83 (lv_at hl 0 rfl) ?_
                        refine lv_if_ne (tgt := 115) hx hb dX9_isName_85 (by decide) (fun c_142 => (show False by revert c_142; decide).elim) (fun c_142 => ?_)
                        refine lv_iload hx hb dX9_isName_88 (lv_at hl 2 rfl) ?_
                        refine lv_iload_n hx hb dX9_isName_90 rfl (lv_at hl 5 rfl) ?_
                        refine lv_icmp_le (tgt := 119) hx hb dX9_isName_91 (by decide) (fun c_143 => ?_) (fun c_143 => ?_)
                        · rw [if_pos c_143] at hsp
                          refine lv_iconst (v := 0) hx hb dX9_isName_119 (by decide) ?_
                          refine lv_istore_n (lv' := [(3, .int 0), (6, .int 0), (5, .int (fa1 (l4_32 : Int32).toNatClampNeg)), (4, .int l4_32), (0, .ref qa1), (1, .int l1_32), (2, .int l2_32)]) hx hb dX9_isName_120 rfl hl (by decide) rfl (fun ls hl => ?_)
                          refine lv_iinc (v := (l4_32 + 1)) (lv' := [(4, .int (l4_32 + 1)), (3, .int 0), (6, .int 0), (5, .int (fa1 (l4_32 : Int32).toNatClampNeg)), (0, .ref qa1), (1, .int l1_32), (2, .int l2_32)]) hx hb dX9_isName_121 hl (k := 3) rfl rfl (by decide) rfl (fun ls hl => ?_)
                          refine lv_goto (tgt := 32) hx hb dX9_isName_124 (by decide) ?_
                          exact ih_32 H locs ls l1_32 l2_32 0 (l4_32 + 1) (lv_sub hl [0, 1, 4, 5, 6] rfl) hS (hD.sub (ws' := [(qa1, .inl (ca1, na1, .inl fa1))]) [0] (by decide) rfl) (hP.sub (ws' := [(qa1, .inl (ca1, na1, .inl fa1))]) [0] rfl) hsp
                        · rw [if_neg c_143] at hsp
                          refine lv_iload hx hb dX9_isName_94 (lv_at hl 1 rfl) ?_
                          refine lv_bipush (v := 48) hx hb dX9_isName_96 (by decide) ?_
                          refine lv_icmp_lt (tgt := 108) hx hb dX9_isName_98 (by decide) (fun c_144 => ?_) (fun c_144 => ?_)
                          · rw [if_pos c_144] at hsp
                            refine lv_iload hx hb dX9_isName_108 (lv_at hl 1 rfl) ?_
                            refine lv_bipush (v := 95) hx hb dX9_isName_110 (by decide) ?_
                            refine lv_icmp_ne (tgt := 119) hx hb dX9_isName_112 (by decide) (fun c_145 => ?_) (fun c_145 => ?_)
                            · rw [if_neg c_145] at hsp
                              refine lv_iconst (v := 0) hx hb dX9_isName_119 (by decide) ?_
                              refine lv_istore_n (lv' := [(3, .int 0), (6, .int 0), (5, .int (fa1 (l4_32 : Int32).toNatClampNeg)), (4, .int l4_32), (0, .ref qa1), (1, .int l1_32), (2, .int l2_32)]) hx hb dX9_isName_120 rfl hl (by decide) rfl (fun ls hl => ?_)
                              refine lv_iinc (v := (l4_32 + 1)) (lv' := [(4, .int (l4_32 + 1)), (3, .int 0), (6, .int 0), (5, .int (fa1 (l4_32 : Int32).toNatClampNeg)), (0, .ref qa1), (1, .int l1_32), (2, .int l2_32)]) hx hb dX9_isName_121 hl (k := 3) rfl rfl (by decide) rfl (fun ls hl => ?_)
                              refine lv_goto (tgt := 32) hx hb dX9_isName_124 (by decide) ?_
                              exact ih_32 H locs ls l1_32 l2_32 0 (l4_32 + 1) (lv_sub hl [0, 1, 4, 5, 6] rfl) hS (hD.sub (ws' := [(qa1, .inl (ca1, na1, .inl fa1))]) [0] (by decide) rfl) (hP.sub (ws' := [(qa1, .inl (ca1, na1, .inl fa1))]) [0] rfl) hsp
                            · rw [if_pos c_145] at hsp
                              refine lv_iconst (v := 1) hx hb dX9_isName_115 (by decide) ?_
                              refine lv_goto (tgt := 120) hx hb dX9_isName_116 (by decide) ?_
                              refine lv_istore_n (lv' := [(3, .int 1), (6, .int 0), (5, .int (fa1 (l4_32 : Int32).toNatClampNeg)), (4, .int l4_32), (0, .ref qa1), (1, .int l1_32), (2, .int l2_32)]) hx hb dX9_isName_120 rfl hl (by decide) rfl (fun ls hl => ?_)
                              refine lv_iinc (v := (l4_32 + 1)) (lv' := [(4, .int (l4_32 + 1)), (3, .int 1), (6, .int 0), (5, .int (fa1 (l4_32 : Int32).toNatClampNeg)), (0, .ref qa1), (1, .int l1_32), (2, .int l2_32)]) hx hb dX9_isName_121 hl (k := 3) rfl rfl (by decide) rfl (fun ls hl => ?_)
                              refine lv_goto (tgt := 32) hx hb dX9_isName_124 (by decide) ?_
                              exact ih_32 H locs ls l1_32 l2_32 1 (l4_32 + 1) (lv_sub hl [0, 1, 4, 5, 6] rfl) hS (hD.sub (ws' := [(qa1, .inl (ca1, na1, .inl fa1))]) [0] (by decide) rfl) (hP.sub (ws' := [(qa1, .inl (ca1, na1, .inl fa1))]) [0] rfl) hsp
                          · rw [if_neg c_144] at hsp
                            refine lv_iload hx hb dX9_isName_101 (lv_at hl 1 rfl) ?_
                            refine lv_bipush (v := 57) hx hb dX9_isName_103 (by decide) ?_
                            refine lv_icmp_le (tgt := 115) hx hb dX9_isName_105 (by decide) (fun c_146 => ?_) (fun c_146 => ?_)
                            · rw [if_pos c_146] at hsp
                              refine lv_iconst (v := 1) hx hb dX9_isName_115 (by decide) ?_
                              refine lv_goto (tgt := 120) hx hb dX9_isName_116 (by decide) ?_
                              refine lv_istore_n (lv' := [(3, .int 1), (6, .int 0), (5, .int (fa1 (l4_32 : Int32).toNatClampNeg)), (4, .int l4_32), (0, .ref qa1), (1, .int l1_32), (2, .int l2_32)]) hx hb dX9_isName_120 rfl hl (by decide) rfl (fun ls hl => ?_)
                              refine lv_iinc (v := (l4_32 + 1)) (lv' := [(4, .int (l4_32 + 1)), (3, .int 1), (6, .int 0), (5, .int (fa1 (l4_32 : Int32).toNatClampNeg)), (0, .ref qa1), (1, .int l1_32), (2, .int l2_32)]) hx hb dX9_isName_121 hl (k := 3) rfl rfl (by decide) rfl (fun ls hl => ?_)
                              refine lv_goto (tgt := 32) hx hb dX9_isName_124 (by decide) ?_
                              exact ih_32 H locs ls l1_32 l2_32 1 (l4_32 + 1) (lv_sub hl [0, 1, 4, 5, 6] rfl) hS (hD.sub (ws' := [(qa1, .inl (ca1, na1, .inl fa1))]) [0] (by decide) rfl) (hP.sub (ws' := [(qa1, .inl (ca1, na1, .inl fa1))]) [0] rfl) hsp
                            · rw [if_neg c_146] at hsp
                              refine lv_iload hx hb dX9_isName_108 (lv_at hl 1 rfl) ?_
                              refine lv_bipush (v := 95) hx hb dX9_isName_110 (by decide) ?_
                              refine lv_icmp_ne (tgt := 119) hx hb dX9_isName_112 (by decide) (fun c_147 => ?_) (fun c_147 => ?_)
                              · rw [if_neg c_147] at hsp
                                refine lv_iconst (v := 0) hx hb dX9_isName_119 (by decide) ?_
                                refine lv_istore_n (lv' := [(3, .int 0), (6, .int 0), (5, .int (fa1 (l4_32 : Int32).toNatClampNeg)), (4, .int l4_32), (0, .ref qa1), (1, .int l1_32), (2, .int l2_32)]) hx hb dX9_isName_120 rfl hl (by decide) rfl (fun ls hl => ?_)
                                refine lv_iinc (v := (l4_32 + 1)) (lv' := [(4, .int (l4_32 + 1)), (3, .int 0), (6, .int 0), (5, .int (fa1 (l4_32 : Int32).toNatClampNeg)), (0, .ref qa1), (1, .int l1_32), (2, .int l2_32)]) hx hb dX9_isName_121 hl (k := 3) rfl rfl (by decide) rfl (fun ls hl => ?_)
                                refine lv_goto (tgt := 32) hx hb dX9_isName_124 (by decide) ?_
                                exact ih_32 H locs ls l1_32 l2_32 0 (l4_32 + 1) (lv_sub hl [0, 1, 4, 5, 6] rfl) hS (hD.sub (ws' := [(qa1, .inl (ca1, na1, .inl fa1))]) [0] (by decide) rfl) (hP.sub (ws' := [(qa1, .inl (ca1, na1, .inl fa1))]) [0] rfl) hsp
                              · rw [if_pos c_147] at hsp
                                refine lv_iconst (v := 1) hx hb dX9_isName_115 (by decide) ?_
                                refine lv_goto (tgt := 120) hx hb dX9_isName_116 (by decide) ?_
                                refine lv_istore_n (lv' := [(3, .int 1), (6, .int 0), (5, .int (fa1 (l4_32 : Int32).toNatClampNeg)), (4, .int l4_32), (0, .ref qa1), (1, .int l1_32), (2, .int l2_32)]) hx hb dX9_isName_120 rfl hl (by decide) rfl (fun ls hl => ?_)
                                refine lv_iinc (v := (l4_32 + 1)) (lv' := [(4, .int (l4_32 + 1)), (3, .int 1), (6, .int 0), (5, .int (fa1 (l4_32 : Int32).toNatClampNeg)), (0, .ref qa1), (1, .int l1_32), (2, .int l2_32)]) hx hb dX9_isName_121 hl (k := 3) rfl rfl (by decide) rfl (fun ls hl => ?_)
                                refine lv_goto (tgt := 32) hx hb dX9_isName_124 (by decide) ?_
                                exact ih_32 H locs ls l1_32 l2_32 1 (l4_32 + 1) (lv_sub hl [0, 1, 4, 5, 6] rfl) hS (hD.sub (ws' := [(qa1, .inl (ca1, na1, .inl fa1))]) [0] (by decide) rfl) (hP.sub (ws' := [(qa1, .inl (ca1, na1, .inl fa1))]) [0] rfl) hsp
                      · rw [if_neg c_141] at hsp
                        refine lv_iconst (v := 1) hx hb dX9_isName_76 (by decide) ?_
                        refine lv_goto (tgt := 81) hx hb dX9_isName_77 (by decide) ?_
                        refine lv_istore (lv' := [(6, .int 1), (5, .int (fa1 (l4_32 : Int32).toNatClampNeg)), (4, .int l4_32), (3, .int l3_32), (0, .ref qa1), (1, .int l1_32), (2, .int l2_32)]) hx hb dX9_isName_81 hl (by decide) rfl (fun ls hl => ?_)
                        refine lv_iload hx hb dX9_isName_83 (lv_at hl 0 rfl) ?_
                        refine lv_if_ne (tgt := 115) hx hb dX9_isName_85 (by decide) (fun c_148 => ?_) (fun c_148 => (show False by revert c_148; decide).elim)
                        refine lv_iconst (v := 1) hx hb dX9_isName_115 (by decide) ?_
                        refine lv_goto (tgt := 120) hx hb dX9_isName_116 (by decide) ?_
                        refine lv_istore_n (lv' := [(3, .int 1), (6, .int 1), (5, .int (fa1 (l4_32 : Int32).toNatClampNeg)), (4, .int l4_32), (0, .ref qa1), (1, .int l1_32), (2, .int l2_32)]) hx hb dX9_isName_120 rfl hl (by decide) rfl (fun ls hl => ?_)
                        refine lv_iinc (v := (l4_32 + 1)) (lv' := [(4, .int (l4_32 + 1)), (3, .int 1), (6, .int 1), (5, .int (fa1 (l4_32 : Int32).toNatClampNeg)), (0, .ref qa1), (1, .int l1_32), (2, .int l2_32)]) hx hb dX9_isName_121 hl (k := 3) rfl rfl (by decide) rfl (fun ls hl => ?_)
                        refine lv_goto (tgt := 32) hx hb dX9_isName_124 (by decide) ?_
                        exact ih_32 H locs ls l1_32 l2_32 1 (l4_32 + 1) (lv_sub hl [0, 1, 4, 5, 6] rfl) hS (hD.sub (ws' := [(qa1, .inl (ca1, na1, .inl fa1))]) [0] (by decide) rfl) (hP.sub (ws' := [(qa1, .inl (ca1, na1, .inl fa1))]) [0] rfl) hsp
        · rw [if_neg c_112] at hsp
          refine lv_iconst (v := 1) hx hb dX9_isName_23 (by decide) ?_
          refine lv_goto (tgt := 28) hx hb dX9_isName_24 (by decide) ?_
          refine lv_istore_n (lv' := [(3, .int 1), (0, .ref qa1), (1, .int a2), (2, .int a3)]) hx hb dX9_isName_28 rfl hl (by decide) rfl (fun ls hl => ?_)
          refine lv_iload_n hx hb dX9_isName_29 rfl (lv_at hl 2 rfl) ?_
          refine lv_istore (lv' := [(4, .int a2), (3, .int 1), (0, .ref qa1), (1, .int a2), (2, .int a3)]) hx hb dX9_isName_30 hl (by decide) rfl (fun ls hl => ?_)
          replace hP := hP.sub (ws' := [(qa1, .inl (ca1, na1, .inl fa1))]) [0] rfl
          replace hD := hD.sub (ws' := [(qa1, .inl (ca1, na1, .inl fa1))]) [0] (by decide) rfl
          replace hK := hK.sub (tys' := [(ca1, .byte)]) [0] rfl
          obtain ⟨n_32, hn_32⟩ : ∃ z : Nat, z = nf := ⟨_, rfl⟩
          obtain ⟨l1_32, el1_32⟩ : ∃ z : Int32, z = a2 := ⟨_, rfl⟩
          obtain ⟨l2_32, el2_32⟩ : ∃ z : Int32, z = a3 := ⟨_, rfl⟩
          obtain ⟨l3_32, el3_32⟩ : ∃ z : Int32, z = 1 := ⟨_, rfl⟩
          obtain ⟨l4_32, el4_32⟩ : ∃ z : Int32, z = a2 := ⟨_, rfl⟩
          replace hsp : lp_t9_isName_32 nf n_32 a2 a3 na1 fa1 l1_32 l2_32 l3_32 l4_32 = some r0 := by rw [hn_32, el1_32, el2_32, el3_32, el4_32]; exact hsp
          replace hl : lv_has ls 7 [(4, .int l4_32), (3, .int l3_32), (0, .ref qa1), (1, .int l1_32), (2, .int l2_32)] := by rw [el1_32, el2_32, el3_32, el4_32]; exact hl
          clear hn_32 el1_32 el2_32 el3_32 el4_32
          try clear hlo
          try clear hH
          revert hsp
          revert hP
          revert hD
          revert hS
          revert hl
          revert l4_32
          revert l3_32
          revert l2_32
          revert l1_32
          revert ls
          revert locs
          revert H
          induction n_32 with
          | zero => intro H locs ls l1_32 l2_32 l3_32 l4_32 hl hS hD hP hsp; unfold lp_t9_isName_32 at hsp; cases hsp
          | succ n_32 ih_32 =>
            intro H locs ls l1_32 l2_32 l3_32 l4_32 hl hS hD hP hsp
            unfold lp_t9_isName_32 at hsp
            try dsimp only at hsp
            refine lv_iload hx hb dX9_isName_32 (lv_at hl 0 rfl) ?_
            refine lv_iload_n hx hb dX9_isName_34 rfl (lv_at hl 4 rfl) ?_
            refine lv_icmp_ge (tgt := 127) hx hb dX9_isName_35 (by decide) (fun c_149 => ?_) (fun c_149 => ?_)
            · rw [if_pos c_149] at hsp
              refine lv_iload_n hx hb dX9_isName_127 rfl (lv_at hl 1 rfl) ?_
              rcases ox_01 hsp with ⟨rfl, hsp⟩ | ⟨rfl, hsp⟩
              · skip
                have hr0 := Option.some.inj hsp
                clear hsp
                subst hr0
                have hP9 := hP.sub (ws' := [(qa1, .inl (ca1, na1, .inl fa1))]) [0] rfl
                have hD9 := hD.sub (ws' := [(qa1, .inl (ca1, na1, .inl fa1))]) [0] (by decide) rfl
                have hK9 := hK.sub (tys' := [(ca1, .byte)]) [0] rfl
                exact W.zret hx hb hr (by decide) (fun t ht hW => ⟨⟨(0), (), rfl, ⟨rfl, Or.inl rfl⟩, by rw [ht]; exact hP9, va_K.moved hW.alike hK9, hD9⟩, hS.F ht⟩) hS.2.2 dX9_isName_128
              · skip
                have hr0 := Option.some.inj hsp
                clear hsp
                subst hr0
                have hP9 := hP.sub (ws' := [(qa1, .inl (ca1, na1, .inl fa1))]) [0] rfl
                have hD9 := hD.sub (ws' := [(qa1, .inl (ca1, na1, .inl fa1))]) [0] (by decide) rfl
                have hK9 := hK.sub (tys' := [(ca1, .byte)]) [0] rfl
                exact W.zret hx hb hr (by decide) (fun t ht hW => ⟨⟨(1), (), rfl, ⟨rfl, Or.inr rfl⟩, by rw [ht]; exact hP9, va_K.moved hW.alike hK9, hD9⟩, hS.F ht⟩) hS.2.2 dX9_isName_128
            · rw [if_neg c_149] at hsp
              refine lv_iload_n hx hb dX9_isName_38 rfl (lv_at hl 1 rfl) ?_
              refine lv_if_eq (tgt := 127) hx hb dX9_isName_39 (by decide) (fun c_150 => ?_) (fun c_150 => ?_)
              · rw [if_pos c_150] at hsp
                refine lv_iload_n hx hb dX9_isName_127 rfl (lv_at hl 1 rfl) ?_
                rcases ox_01 hsp with ⟨rfl, hsp⟩ | ⟨rfl, hsp⟩
                · skip
                  have hr0 := Option.some.inj hsp
                  clear hsp
                  subst hr0
                  have hP9 := hP.sub (ws' := [(qa1, .inl (ca1, na1, .inl fa1))]) [0] rfl
                  have hD9 := hD.sub (ws' := [(qa1, .inl (ca1, na1, .inl fa1))]) [0] (by decide) rfl
                  have hK9 := hK.sub (tys' := [(ca1, .byte)]) [0] rfl
                  exact W.zret hx hb hr (by decide) (fun t ht hW => ⟨⟨(0), (), rfl, ⟨rfl, Or.inl rfl⟩, by rw [ht]; exact hP9, va_K.moved hW.alike hK9, hD9⟩, hS.F ht⟩) hS.2.2 dX9_isName_128
                · skip
                  have hr0 := Option.some.inj hsp
                  clear hsp
                  subst hr0
                  have hP9 := hP.sub (ws' := [(qa1, .inl (ca1, na1, .inl fa1))]) [0] rfl
                  have hD9 := hD.sub (ws' := [(qa1, .inl (ca1, na1, .inl fa1))]) [0] (by decide) rfl
                  have hK9 := hK.sub (tys' := [(ca1, .byte)]) [0] rfl
                  exact W.zret hx hb hr (by decide) (fun t ht hW => ⟨⟨(1), (), rfl, ⟨rfl, Or.inr rfl⟩, by rw [ht]; exact hP9, va_K.moved hW.alike hK9, hD9⟩, hS.F ht⟩) hS.2.2 dX9_isName_128
              · rw [if_neg c_150] at hsp
                refine lv_aload_n hx hb dX9_isName_42 rfl (lv_at hl 2 rfl) ?_
                refine lv_iload hx hb dX9_isName_43 (lv_at hl 0 rfl) ?_
                obtain ⟨hi_151, hsp⟩ := ox_in hsp
                refine va_bald hx hb hK hP 0 0 rfl rfl (i := l4_32) hi_151 dX9_isName_45 ?_
                refine lv_istore (lv' := [(5, .int (fa1 (l4_32 : Int32).toNatClampNeg)), (4, .int l4_32), (3, .int l3_32), (0, .ref qa1), (1, .int l1_32), (2, .int l2_32)]) hx hb dX9_isName_46 hl (by decide) rfl (fun ls hl => ?_)
                refine lv_iload hx hb dX9_isName_48 (lv_at hl 0 rfl) ?_
                refine lv_bipush (v := 97) hx hb dX9_isName_50 (by decide) ?_
                refine lv_icmp_lt (tgt := 62) hx hb dX9_isName_52 (by decide) (fun c_152 => ?_) (fun c_152 => ?_)
                · rw [if_pos c_152] at hsp
                  refine lv_iload hx hb dX9_isName_62 (lv_at hl 0 rfl) ?_
                  refine lv_bipush (v := 65) hx hb dX9_isName_64 (by decide) ?_
                  refine lv_icmp_lt (tgt := 80) hx hb dX9_isName_66 (by decide) (fun c_153 => ?_) (fun c_153 => ?_)
                  · rw [if_pos c_153] at hsp
                    refine lv_iconst (v := 0) hx hb dX9_isName_80 (by decide) ?_
                    refine lv_istore (lv' := [(6, .int 0), (5, .int (fa1 (l4_32 : Int32).toNatClampNeg)), (4, .int l4_32), (3, .int l3_32), (0, .ref qa1), (1, .int l1_32), (2, .int l2_32)]) hx hb dX9_isName_81 hl (by decide) rfl (fun ls hl => ?_)
                    refine lv_iload hx hb dX9_isName_83 (lv_at hl 0 rfl) ?_
                    refine lv_if_ne (tgt := 115) hx hb dX9_isName_85 (by decide) (fun c_154 => (show False by revert c_154; decide).elim) (fun c_154 => ?_)
                    refine lv_iload hx hb dX9_isName_88 (lv_at hl 2 rfl) ?_
                    refine lv_iload_n hx hb dX9_isName_90 rfl (lv_at hl 5 rfl) ?_
                    refine lv_icmp_le (tgt := 119) hx hb dX9_isName_91 (by decide) (fun c_155 => ?_) (fun c_155 => ?_)
                    · rw [if_pos c_155] at hsp
                      refine lv_iconst (v := 0) hx hb dX9_isName_119 (by decide) ?_
                      refine lv_istore_n (lv' := [(3, .int 0), (6, .int 0), (5, .int (fa1 (l4_32 : Int32).toNatClampNeg)), (4, .int l4_32), (0, .ref qa1), (1, .int l1_32), (2, .int l2_32)]) hx hb dX9_isName_120 rfl hl (by decide) rfl (fun ls hl => ?_)
                      refine lv_iinc (v := (l4_32 + 1)) (lv' := [(4, .int (l4_32 + 1)), (3, .int 0), (6, .int 0), (5, .int (fa1 (l4_32 : Int32).toNatClampNeg)), (0, .ref qa1), (1, .int l1_32), (2, .int l2_32)]) hx hb dX9_isName_121 hl (k := 3) rfl rfl (by decide) rfl (fun ls hl => ?_)
                      refine lv_goto (tgt := 32) hx hb dX9_isName_124 (by decide) ?_
                      exact ih_32 H locs ls l1_32 l2_32 0 (l4_32 + 1) (lv_sub hl [0, 1, 4, 5, 6] rfl) hS (hD.sub (ws' := [(qa1, .inl (ca1, na1, .inl fa1))]) [0] (by decide) rfl) (hP.sub (ws' := [(qa1, .inl (ca1, na1, .inl fa1))]) [0] rfl) hsp
                    · rw [if_neg c_155] at hsp
                      refine lv_iload hx hb dX9_isName_94 (lv_at hl 1 rfl) ?_
                      refine lv_bipush (v := 48) hx hb dX9_isName_96 (by decide) ?_
                      refine lv_icmp_lt (tgt := 108) hx hb dX9_isName_98 (by decide) (fun c_156 => ?_) (fun c_156 => ?_)
                      · rw [if_pos c_156] at hsp
                        refine lv_iload hx hb dX9_isName_108 (lv_at hl 1 rfl) ?_
                        refine lv_bipush (v := 95) hx hb dX9_isName_110 (by decide) ?_
                        refine lv_icmp_ne (tgt := 119) hx hb dX9_isName_112 (by decide) (fun c_157 => ?_) (fun c_157 => ?_)
                        · rw [if_neg c_157] at hsp
                          refine lv_iconst (v := 0) hx hb dX9_isName_119 (by decide) ?_
                          refine lv_istore_n (lv' := [(3, .int 0), (6, .int 0), (5, .int (fa1 (l4_32 : Int32).toNatClampNeg)), (4, .int l4_32), (0, .ref qa1), (1, .int l1_32), (2, .int l2_32)]) hx hb dX9_isName_120 rfl hl (by decide) rfl (fun ls hl => ?_)
                          refine lv_iinc (v := (l4_32 + 1)) (lv' := [(4, .int (l4_32 + 1)), (3, .int 0), (6, .int 0), (5, .int (fa1 (l4_32 : Int32).toNatClampNeg)), (0, .ref qa1), (1, .int l1_32), (2, .int l2_32)]) hx hb dX9_isName_121 hl (k := 3) rfl rfl (by decide) rfl (fun ls hl => ?_)
                          refine lv_goto (tgt := 32) hx hb dX9_isName_124 (by decide) ?_
                          exact ih_32 H locs ls l1_32 l2_32 0 (l4_32 + 1) (lv_sub hl [0, 1, 4, 5, 6] rfl) hS (hD.sub (ws' := [(qa1, .inl (ca1, na1, .inl fa1))]) [0] (by decide) rfl) (hP.sub (ws' := [(qa1, .inl (ca1, na1, .inl fa1))]) [0] rfl) hsp
                        · rw [if_pos c_157] at hsp
                          refine lv_iconst (v := 1) hx hb dX9_isName_115 (by decide) ?_
                          refine lv_goto (tgt := 120) hx hb dX9_isName_116 (by decide) ?_
                          refine lv_istore_n (lv' := [(3, .int 1), (6, .int 0), (5, .int (fa1 (l4_32 : Int32).toNatClampNeg)), (4, .int l4_32), (0, .ref qa1), (1, .int l1_32), (2, .int l2_32)]) hx hb dX9_isName_120 rfl hl (by decide) rfl (fun ls hl => ?_)
                          refine lv_iinc (v := (l4_32 + 1)) (lv' := [(4, .int (l4_32 + 1)), (3, .int 1), (6, .int 0), (5, .int (fa1 (l4_32 : Int32).toNatClampNeg)), (0, .ref qa1), (1, .int l1_32), (2, .int l2_32)]) hx hb dX9_isName_121 hl (k := 3) rfl rfl (by decide) rfl (fun ls hl => ?_)
                          refine lv_goto (tgt := 32) hx hb dX9_isName_124 (by decide) ?_
                          exact ih_32 H locs ls l1_32 l2_32 1 (l4_32 + 1) (lv_sub hl [0, 1, 4, 5, 6] rfl) hS (hD.sub (ws' := [(qa1, .inl (ca1, na1, .inl fa1))]) [0] (by decide) rfl) (hP.sub (ws' := [(qa1, .inl (ca1, na1, .inl fa1))]) [0] rfl) hsp
                      · rw [if_neg c_156] at hsp
                        refine lv_iload hx hb dX9_isName_101 (lv_at hl 1 rfl) ?_
                        refine lv_bipush (v := 57) hx hb dX9_isName_103 (by decide) ?_
                        refine lv_icmp_le (tgt := 115) hx hb dX9_isName_105 (by decide) (fun c_158 => ?_) (fun c_158 => ?_)
                        · rw [if_pos c_158] at hsp
                          refine lv_iconst (v := 1) hx hb dX9_isName_115 (by decide) ?_
                          refine lv_goto (tgt := 120) hx hb dX9_isName_116 (by decide) ?_
                          refine lv_istore_n (lv' := [(3, .int 1), (6, .int 0), (5, .int (fa1 (l4_32 : Int32).toNatClampNeg)), (4, .int l4_32), (0, .ref qa1), (1, .int l1_32), (2, .int l2_32)]) hx hb dX9_isName_120 rfl hl (by decide) rfl (fun ls hl => ?_)
                          refine lv_iinc (v := (l4_32 + 1)) (lv' := [(4, .int (l4_32 + 1)), (3, .int 1), (6, .int 0), (5, .int (fa1 (l4_32 : Int32).toNatClampNeg)), (0, .ref qa1), (1, .int l1_32), (2, .int l2_32)]) hx hb dX9_isName_121 hl (k := 3) rfl rfl (by decide) rfl (fun ls hl => ?_)
                          refine lv_goto (tgt := 32) hx hb dX9_isName_124 (by decide) ?_
                          exact ih_32 H locs ls l1_32 l2_32 1 (l4_32 + 1) (lv_sub hl [0, 1, 4, 5, 6] rfl) hS (hD.sub (ws' := [(qa1, .inl (ca1, na1, .inl fa1))]) [0] (by decide) rfl) (hP.sub (ws' := [(qa1, .inl (ca1, na1, .inl fa1))]) [0] rfl) hsp
                        · rw [if_neg c_158] at hsp
                          refine lv_iload hx hb dX9_isName_108 (lv_at hl 1 rfl) ?_
                          refine lv_bipush (v := 95) hx hb dX9_isName_110 (by decide) ?_
                          refine lv_icmp_ne (tgt := 119) hx hb dX9_isName_112 (by decide) (fun c_159 => ?_) (fun c_159 => ?_)
                          · rw [if_neg c_159] at hsp
                            refine lv_iconst (v := 0) hx hb dX9_isName_119 (by decide) ?_
                            refine lv_istore_n (lv' := [(3, .int 0), (6, .int 0), (5, .int (fa1 (l4_32 : Int32).toNatClampNeg)), (4, .int l4_32), (0, .ref qa1), (1, .int l1_32), (2, .int l2_32)]) hx hb dX9_isName_120 rfl hl (by decide) rfl (fun ls hl => ?_)
                            refine lv_iinc (v := (l4_32 + 1)) (lv' := [(4, .int (l4_32 + 1)), (3, .int 0), (6, .int 0), (5, .int (fa1 (l4_32 : Int32).toNatClampNeg)), (0, .ref qa1), (1, .int l1_32), (2, .int l2_32)]) hx hb dX9_isName_121 hl (k := 3) rfl rfl (by decide) rfl (fun ls hl => ?_)
                            refine lv_goto (tgt := 32) hx hb dX9_isName_124 (by decide) ?_
                            exact ih_32 H locs ls l1_32 l2_32 0 (l4_32 + 1) (lv_sub hl [0, 1, 4, 5, 6] rfl) hS (hD.sub (ws' := [(qa1, .inl (ca1, na1, .inl fa1))]) [0] (by decide) rfl) (hP.sub (ws' := [(qa1, .inl (ca1, na1, .inl fa1))]) [0] rfl) hsp
                          · rw [if_pos c_159] at hsp
                            refine lv_iconst (v := 1) hx hb dX9_isName_115 (by decide) ?_
                            refine lv_goto (tgt := 120) hx hb dX9_isName_116 (by decide) ?_
                            refine lv_istore_n (lv' := [(3, .int 1), (6, .int 0), (5, .int (fa1 (l4_32 : Int32).toNatClampNeg)), (4, .int l4_32), (0, .ref qa1), (1, .int l1_32), (2, .int l2_32)]) hx hb dX9_isName_120 rfl hl (by decide) rfl (fun ls hl => ?_)
                            refine lv_iinc (v := (l4_32 + 1)) (lv' := [(4, .int (l4_32 + 1)), (3, .int 1), (6, .int 0), (5, .int (fa1 (l4_32 : Int32).toNatClampNeg)), (0, .ref qa1), (1, .int l1_32), (2, .int l2_32)]) hx hb dX9_isName_121 hl (k := 3) rfl rfl (by decide) rfl (fun ls hl => ?_)
                            refine lv_goto (tgt := 32) hx hb dX9_isName_124 (by decide) ?_
                            exact ih_32 H locs ls l1_32 l2_32 1 (l4_32 + 1) (lv_sub hl [0, 1, 4, 5, 6] rfl) hS (hD.sub (ws' := [(qa1, .inl (ca1, na1, .inl fa1))]) [0] (by decide) rfl) (hP.sub (ws' := [(qa1, .inl (ca1, na1, .inl fa1))]) [0] rfl) hsp
                  · rw [if_neg c_153] at hsp
                    refine lv_iload hx hb dX9_isName_69 (lv_at hl 0 rfl) ?_
                    refine lv_bipush (v := 90) hx hb dX9_isName_71 (by decide) ?_
                    refine lv_icmp_gt (tgt := 80) hx hb dX9_isName_73 (by decide) (fun c_160 => ?_) (fun c_160 => ?_)
                    · rw [if_pos c_160] at hsp
                      refine lv_iconst (v := 0) hx hb dX9_isName_80 (by decide) ?_
                      refine lv_istore (lv' := [(6, .int 0), (5, .int (fa1 (l4_32 : Int32).toNatClampNeg)), (4, .int l4_32), (3, .int l3_32), (0, .ref qa1), (1, .int l1_32), (2, .int l2_32)]) hx hb dX9_isName_81 hl (by decide) rfl (fun ls hl => ?_)
                      refine lv_iload hx hb dX9_isName_83 (lv_at hl 0 rfl) ?_
                      refine lv_if_ne (tgt := 115) hx hb dX9_isName_85 (by decide) (fun c_161 => (show False by revert c_161; decide).elim) (fun c_161 => ?_)
                      refine lv_iload hx hb dX9_isName_88 (lv_at hl 2 rfl) ?_
                      refine lv_iload_n hx hb dX9_isName_90 rfl (lv_at hl 5 rfl) ?_
                      refine lv_icmp_le (tgt := 119) hx hb dX9_isName_91 (by decide) (fun c_162 => ?_) (fun c_162 => ?_)
                      · rw [if_pos c_162] at hsp
                        refine lv_iconst (v := 0) hx hb dX9_isName_119 (by decide) ?_
                        refine lv_istore_n (lv' := [(3, .int 0), (6, .int 0), (5, .int (fa1 (l4_32 : Int32).toNatClampNeg)), (4, .int l4_32), (0, .ref qa1), (1, .int l1_32), (2, .int l2_32)]) hx hb dX9_isName_120 rfl hl (by decide) rfl (fun ls hl => ?_)
                        refine lv_iinc (v := (l4_32 + 1)) (lv' := [(4, .int (l4_32 + 1)), (3, .int 0), (6, .int 0), (5, .int (fa1 (l4_32 : Int32).toNatClampNeg)), (0, .ref qa1), (1, .int l1_32), (2, .int l2_32)]) hx hb dX9_isName_121 hl (k := 3) rfl rfl (by decide) rfl (fun ls hl => ?_)
                        refine lv_goto (tgt := 32) hx hb dX9_isName_124 (by decide) ?_
                        exact ih_32 H locs ls l1_32 l2_32 0 (l4_32 + 1) (lv_sub hl [0, 1, 4, 5, 6] rfl) hS (hD.sub (ws' := [(qa1, .inl (ca1, na1, .inl fa1))]) [0] (by decide) rfl) (hP.sub (ws' := [(qa1, .inl (ca1, na1, .inl fa1))]) [0] rfl) hsp
                      · rw [if_neg c_162] at hsp
                        refine lv_iload hx hb dX9_isName_94 (lv_at hl 1 rfl) ?_
                        refine lv_bipush (v := 48) hx hb dX9_isName_96 (by decide) ?_
                        refine lv_icmp_lt (tgt := 108) hx hb dX9_isName_98 (by decide) (fun c_163 => ?_) (fun c_163 => ?_)
                        · rw [if_pos c_163] at hsp
                          refine lv_iload hx hb dX9_isName_108 (lv_at hl 1 rfl) ?_
                          refine lv_bipush (v := 95) hx hb dX9_isName_110 (by decide) ?_
                          refine lv_icmp_ne (tgt := 119) hx hb dX9_isName_112 (by decide) (fun c_164 => ?_) (fun c_164 => ?_)
                          · rw [if_neg c_164] at hsp
                            refine lv_iconst (v := 0) hx hb dX9_isName_119 (by decide) ?_
                            refine lv_istore_n (lv' := [(3, .int 0), (6, .int 0), (5, .int (fa1 (l4_32 : Int32).toNatClampNeg)), (4, .int l4_32), (0, .ref qa1), (1, .int l1_32), (2, .int l2_32)]) hx hb dX9_isName_120 rfl hl (by decide) rfl (fun ls hl => ?_)
                            refine lv_iinc (v := (l4_32 + 1)) (lv' := [(4, .int (l4_32 + 1)), (3, .int 0), (6, .int 0), (5, .int (fa1 (l4_32 : Int32).toNatClampNeg)), (0, .ref qa1), (1, .int l1_32), (2, .int l2_32)]) hx hb dX9_isName_121 hl (k := 3) rfl rfl (by decide) rfl (fun ls hl => ?_)
                            refine lv_goto (tgt := 32) hx hb dX9_isName_124 (by decide) ?_
                            exact ih_32 H locs ls l1_32 l2_32 0 (l4_32 + 1) (lv_sub hl [0, 1, 4, 5, 6] rfl) hS (hD.sub (ws' := [(qa1, .inl (ca1, na1, .inl fa1))]) [0] (by decide) rfl) (hP.sub (ws' := [(qa1, .inl (ca1, na1, .inl fa1))]) [0] rfl) hsp
                          · rw [if_pos c_164] at hsp
                            refine lv_iconst (v := 1) hx hb dX9_isName_115 (by decide) ?_
                            refine lv_goto (tgt := 120) hx hb dX9_isName_116 (by decide) ?_
                            refine lv_istore_n (lv' := [(3, .int 1), (6, .int 0), (5, .int (fa1 (l4_32 : Int32).toNatClampNeg)), (4, .int l4_32), (0, .ref qa1), (1, .int l1_32), (2, .int l2_32)]) hx hb dX9_isName_120 rfl hl (by decide) rfl (fun ls hl => ?_)
                            refine lv_iinc (v := (l4_32 + 1)) (lv' := [(4, .int (l4_32 + 1)), (3, .int 1), (6, .int 0), (5, .int (fa1 (l4_32 : Int32).toNatClampNeg)), (0, .ref qa1), (1, .int l1_32), (2, .int l2_32)]) hx hb dX9_isName_121 hl (k := 3) rfl rfl (by decide) rfl (fun ls hl => ?_)
                            refine lv_goto (tgt := 32) hx hb dX9_isName_124 (by decide) ?_
                            exact ih_32 H locs ls l1_32 l2_32 1 (l4_32 + 1) (lv_sub hl [0, 1, 4, 5, 6] rfl) hS (hD.sub (ws' := [(qa1, .inl (ca1, na1, .inl fa1))]) [0] (by decide) rfl) (hP.sub (ws' := [(qa1, .inl (ca1, na1, .inl fa1))]) [0] rfl) hsp
                        · rw [if_neg c_163] at hsp
                          refine lv_iload hx hb dX9_isName_101 (lv_at hl 1 rfl) ?_
                          refine lv_bipush (v := 57) hx hb dX9_isName_103 (by decide) ?_
                          refine lv_icmp_le (tgt := 115) hx hb dX9_isName_105 (by decide) (fun c_165 => ?_) (fun c_165 => ?_)
                          · rw [if_pos c_165] at hsp
                            refine lv_iconst (v := 1) hx hb dX9_isName_115 (by decide) ?_
                            refine lv_goto (tgt := 120) hx hb dX9_isName_116 (by decide) ?_
                            refine lv_istore_n (lv' := [(3, .int 1), (6, .int 0), (5, .int (fa1 (l4_32 : Int32).toNatClampNeg)), (4, .int l4_32), (0, .ref qa1), (1, .int l1_32), (2, .int l2_32)]) hx hb dX9_isName_120 rfl hl (by decide) rfl (fun ls hl => ?_)
                            refine lv_iinc (v := (l4_32 + 1)) (lv' := [(4, .int (l4_32 + 1)), (3, .int 1), (6, .int 0), (5, .int (fa1 (l4_32 : Int32).toNatClampNeg)), (0, .ref qa1), (1, .int l1_32), (2, .int l2_32)]) hx hb dX9_isName_121 hl (k := 3) rfl rfl (by decide) rfl (fun ls hl => ?_)
                            refine lv_goto (tgt := 32) hx hb dX9_isName_124 (by decide) ?_
                            exact ih_32 H locs ls l1_32 l2_32 1 (l4_32 + 1) (lv_sub hl [0, 1, 4, 5, 6] rfl) hS (hD.sub (ws' := [(qa1, .inl (ca1, na1, .inl fa1))]) [0] (by decide) rfl) (hP.sub (ws' := [(qa1, .inl (ca1, na1, .inl fa1))]) [0] rfl) hsp
                          · rw [if_neg c_165] at hsp
                            refine lv_iload hx hb dX9_isName_108 (lv_at hl 1 rfl) ?_
                            refine lv_bipush (v := 95) hx hb dX9_isName_110 (by decide) ?_
                            refine lv_icmp_ne (tgt := 119) hx hb dX9_isName_112 (by decide) (fun c_166 => ?_) (fun c_166 => ?_)
                            · rw [if_neg c_166] at hsp
                              refine lv_iconst (v := 0) hx hb dX9_isName_119 (by decide) ?_
                              refine lv_istore_n (lv' := [(3, .int 0), (6, .int 0), (5, .int (fa1 (l4_32 : Int32).toNatClampNeg)), (4, .int l4_32), (0, .ref qa1), (1, .int l1_32), (2, .int l2_32)]) hx hb dX9_isName_120 rfl hl (by decide) rfl (fun ls hl => ?_)
                              refine lv_iinc (v := (l4_32 + 1)) (lv' := [(4, .int (l4_32 + 1)), (3, .int 0), (6, .int 0), (5, .int (fa1 (l4_32 : Int32).toNatClampNeg)), (0, .ref qa1), (1, .int l1_32), (2, .int l2_32)]) hx hb dX9_isName_121 hl (k := 3) rfl rfl (by decide) rfl (fun ls hl => ?_)
                              refine lv_goto (tgt := 32) hx hb dX9_isName_124 (by decide) ?_
                              exact ih_32 H locs ls l1_32 l2_32 0 (l4_32 + 1) (lv_sub hl [0, 1, 4, 5, 6] rfl) hS (hD.sub (ws' := [(qa1, .inl (ca1, na1, .inl fa1))]) [0] (by decide) rfl) (hP.sub (ws' := [(qa1, .inl (ca1, na1, .inl fa1))]) [0] rfl) hsp
                            · rw [if_pos c_166] at hsp
                              refine lv_iconst (v := 1) hx hb dX9_isName_115 (by decide) ?_
                              refine lv_goto (tgt := 120) hx hb dX9_isName_116 (by decide) ?_
                              refine lv_istore_n (lv' := [(3, .int 1), (6, .int 0), (5, .int (fa1 (l4_32 : Int32).toNatClampNeg)), (4, .int l4_32), (0, .ref qa1), (1, .int l1_32), (2, .int l2_32)]) hx hb dX9_isName_120 rfl hl (by decide) rfl (fun ls hl => ?_)
                              refine lv_iinc (v := (l4_32 + 1)) (lv' := [(4, .int (l4_32 + 1)), (3, .int 1), (6, .int 0), (5, .int (fa1 (l4_32 : Int32).toNatClampNeg)), (0, .ref qa1), (1, .int l1_32), (2, .int l2_32)]) hx hb dX9_isName_121 hl (k := 3) rfl rfl (by decide) rfl (fun ls hl => ?_)
                              refine lv_goto (tgt := 32) hx hb dX9_isName_124 (by decide) ?_
                              exact ih_32 H locs ls l1_32 l2_32 1 (l4_32 + 1) (lv_sub hl [0, 1, 4, 5, 6] rfl) hS (hD.sub (ws' := [(qa1, .inl (ca1, na1, .inl fa1))]) [0] (by decide) rfl) (hP.sub (ws' := [(qa1, .inl (ca1, na1, .inl fa1))]) [0] rfl) hsp
                    · rw [if_neg c_160] at hsp
                      refine lv_iconst (v := 1) hx hb dX9_isName_76 (by decide) ?_
                      refine lv_goto (tgt := 81) hx hb dX9_isName_77 (by decide) ?_
                      refine lv_istore (lv' := [(6, .int 1), (5, .int (fa1 (l4_32 : Int32).toNatClampNeg)), (4, .int l4_32), (3, .int l3_32), (0, .ref qa1), (1, .int l1_32), (2, .int l2_32)]) hx hb dX9_isName_81 hl (by decide) rfl (fun ls hl => ?_)
                      refine lv_iload hx hb dX9_isName_83 (lv_at hl 0 rfl) ?_
                      refine lv_if_ne (tgt := 115) hx hb dX9_isName_85 (by decide) (fun c_167 => ?_) (fun c_167 => (show False by revert c_167; decide).elim)
                      refine lv_iconst (v := 1) hx hb dX9_isName_115 (by decide) ?_
                      refine lv_goto (tgt := 120) hx hb dX9_isName_116 (by decide) ?_
                      refine lv_istore_n (lv' := [(3, .int 1), (6, .int 1), (5, .int (fa1 (l4_32 : Int32).toNatClampNeg)), (4, .int l4_32), (0, .ref qa1), (1, .int l1_32), (2, .int l2_32)]) hx hb dX9_isName_120 rfl hl (by decide) rfl (fun ls hl => ?_)
                      refine lv_iinc (v := (l4_32 + 1)) (lv' := [(4, .int (l4_32 + 1)), (3, .int 1), (6, .int 1), (5, .int (fa1 (l4_32 : Int32).toNatClampNeg)), (0, .ref qa1), (1, .int l1_32), (2, .int l2_32)]) hx hb dX9_isName_121 hl (k := 3) rfl rfl (by decide) rfl (fun ls hl => ?_)
                      refine lv_goto (tgt := 32) hx hb dX9_isName_124 (by decide) ?_
                      exact ih_32 H locs ls l1_32 l2_32 1 (l4_32 + 1) (lv_sub hl [0, 1, 4, 5, 6] rfl) hS (hD.sub (ws' := [(qa1, .inl (ca1, na1, .inl fa1))]) [0] (by decide) rfl) (hP.sub (ws' := [(qa1, .inl (ca1, na1, .inl fa1))]) [0] rfl) hsp
                · rw [if_neg c_152] at hsp
                  refine lv_iload hx hb dX9_isName_55 (lv_at hl 0 rfl) ?_
                  refine lv_bipush (v := 122) hx hb dX9_isName_57 (by decide) ?_
                  refine lv_icmp_le (tgt := 76) hx hb dX9_isName_59 (by decide) (fun c_168 => ?_) (fun c_168 => ?_)
                  · rw [if_pos c_168] at hsp
                    refine lv_iconst (v := 1) hx hb dX9_isName_76 (by decide) ?_
                    refine lv_goto (tgt := 81) hx hb dX9_isName_77 (by decide) ?_
                    refine lv_istore (lv' := [(6, .int 1), (5, .int (fa1 (l4_32 : Int32).toNatClampNeg)), (4, .int l4_32), (3, .int l3_32), (0, .ref qa1), (1, .int l1_32), (2, .int l2_32)]) hx hb dX9_isName_81 hl (by decide) rfl (fun ls hl => ?_)
                    refine lv_iload hx hb dX9_isName_83 (lv_at hl 0 rfl) ?_
                    refine lv_if_ne (tgt := 115) hx hb dX9_isName_85 (by decide) (fun c_169 => ?_) (fun c_169 => (show False by revert c_169; decide).elim)
                    refine lv_iconst (v := 1) hx hb dX9_isName_115 (by decide) ?_
                    refine lv_goto (tgt := 120) hx hb dX9_isName_116 (by decide) ?_
                    refine lv_istore_n (lv' := [(3, .int 1), (6, .int 1), (5, .int (fa1 (l4_32 : Int32).toNatClampNeg)), (4, .int l4_32), (0, .ref qa1), (1, .int l1_32), (2, .int l2_32)]) hx hb dX9_isName_120 rfl hl (by decide) rfl (fun ls hl => ?_)
                    refine lv_iinc (v := (l4_32 + 1)) (lv' := [(4, .int (l4_32 + 1)), (3, .int 1), (6, .int 1), (5, .int (fa1 (l4_32 : Int32).toNatClampNeg)), (0, .ref qa1), (1, .int l1_32), (2, .int l2_32)]) hx hb dX9_isName_121 hl (k := 3) rfl rfl (by decide) rfl (fun ls hl => ?_)
                    refine lv_goto (tgt := 32) hx hb dX9_isName_124 (by decide) ?_
                    exact ih_32 H locs ls l1_32 l2_32 1 (l4_32 + 1) (lv_sub hl [0, 1, 4, 5, 6] rfl) hS (hD.sub (ws' := [(qa1, .inl (ca1, na1, .inl fa1))]) [0] (by decide) rfl) (hP.sub (ws' := [(qa1, .inl (ca1, na1, .inl fa1))]) [0] rfl) hsp
                  · rw [if_neg c_168] at hsp
                    refine lv_iload hx hb dX9_isName_62 (lv_at hl 0 rfl) ?_
                    refine lv_bipush (v := 65) hx hb dX9_isName_64 (by decide) ?_
                    refine lv_icmp_lt (tgt := 80) hx hb dX9_isName_66 (by decide) (fun c_170 => ?_) (fun c_170 => ?_)
                    · rw [if_pos c_170] at hsp
                      refine lv_iconst (v := 0) hx hb dX9_isName_80 (by decide) ?_
                      refine lv_istore (lv' := [(6, .int 0), (5, .int (fa1 (l4_32 : Int32).toNatClampNeg)), (4, .int l4_32), (3, .int l3_32), (0, .ref qa1), (1, .int l1_32), (2, .int l2_32)]) hx hb dX9_isName_81 hl (by decide) rfl (fun ls hl => ?_)
                      refine lv_iload hx hb dX9_isName_83 (lv_at hl 0 rfl) ?_
                      refine lv_if_ne (tgt := 115) hx hb dX9_isName_85 (by decide) (fun c_171 => (show False by revert c_171; decide).elim) (fun c_171 => ?_)
                      refine lv_iload hx hb dX9_isName_88 (lv_at hl 2 rfl) ?_
                      refine lv_iload_n hx hb dX9_isName_90 rfl (lv_at hl 5 rfl) ?_
                      refine lv_icmp_le (tgt := 119) hx hb dX9_isName_91 (by decide) (fun c_172 => ?_) (fun c_172 => ?_)
                      · rw [if_pos c_172] at hsp
                        refine lv_iconst (v := 0) hx hb dX9_isName_119 (by decide) ?_
                        refine lv_istore_n (lv' := [(3, .int 0), (6, .int 0), (5, .int (fa1 (l4_32 : Int32).toNatClampNeg)), (4, .int l4_32), (0, .ref qa1), (1, .int l1_32), (2, .int l2_32)]) hx hb dX9_isName_120 rfl hl (by decide) rfl (fun ls hl => ?_)
                        refine lv_iinc (v := (l4_32 + 1)) (lv' := [(4, .int (l4_32 + 1)), (3, .int 0), (6, .int 0), (5, .int (fa1 (l4_32 : Int32).toNatClampNeg)), (0, .ref qa1), (1, .int l1_32), (2, .int l2_32)]) hx hb dX9_isName_121 hl (k := 3) rfl rfl (by decide) rfl (fun ls hl => ?_)
                        refine lv_goto (tgt := 32) hx hb dX9_isName_124 (by decide) ?_
                        exact ih_32 H locs ls l1_32 l2_32 0 (l4_32 + 1) (lv_sub hl [0, 1, 4, 5, 6] rfl) hS (hD.sub (ws' := [(qa1, .inl (ca1, na1, .inl fa1))]) [0] (by decide) rfl) (hP.sub (ws' := [(qa1, .inl (ca1, na1, .inl fa1))]) [0] rfl) hsp
                      · rw [if_neg c_172] at hsp
                        refine lv_iload hx hb dX9_isName_94 (lv_at hl 1 rfl) ?_
                        refine lv_bipush (v := 48) hx hb dX9_isName_96 (by decide) ?_
                        refine lv_icmp_lt (tgt := 108) hx hb dX9_isName_98 (by decide) (fun c_173 => ?_) (fun c_173 => ?_)
                        · rw [if_pos c_173] at hsp
                          refine lv_iload hx hb dX9_isName_108 (lv_at hl 1 rfl) ?_
                          refine lv_bipush (v := 95) hx hb dX9_isName_110 (by decide) ?_
                          refine lv_icmp_ne (tgt := 119) hx hb dX9_isName_112 (by decide) (fun c_174 => ?_) (fun c_174 => ?_)
                          · rw [if_neg c_174] at hsp
                            refine lv_iconst (v := 0) hx hb dX9_isName_119 (by decide) ?_
                            refine lv_istore_n (lv' := [(3, .int 0), (6, .int 0), (5, .int (fa1 (l4_32 : Int32).toNatClampNeg)), (4, .int l4_32), (0, .ref qa1), (1, .int l1_32), (2, .int l2_32)]) hx hb dX9_isName_120 rfl hl (by decide) rfl (fun ls hl => ?_)
                            refine lv_iinc (v := (l4_32 + 1)) (lv' := [(4, .int (l4_32 + 1)), (3, .int 0), (6, .int 0), (5, .int (fa1 (l4_32 : Int32).toNatClampNeg)), (0, .ref qa1), (1, .int l1_32), (2, .int l2_32)]) hx hb dX9_isName_121 hl (k := 3) rfl rfl (by decide) rfl (fun ls hl => ?_)
                            refine lv_goto (tgt := 32) hx hb dX9_isName_124 (by decide) ?_
                            exact ih_32 H locs ls l1_32 l2_32 0 (l4_32 + 1) (lv_sub hl [0, 1, 4, 5, 6] rfl) hS (hD.sub (ws' := [(qa1, .inl (ca1, na1, .inl fa1))]) [0] (by decide) rfl) (hP.sub (ws' := [(qa1, .inl (ca1, na1, .inl fa1))]) [0] rfl) hsp
                          · rw [if_pos c_174] at hsp
                            refine lv_iconst (v := 1) hx hb dX9_isName_115 (by decide) ?_
                            refine lv_goto (tgt := 120) hx hb dX9_isName_116 (by decide) ?_
                            refine lv_istore_n (lv' := [(3, .int 1), (6, .int 0), (5, .int (fa1 (l4_32 : Int32).toNatClampNeg)), (4, .int l4_32), (0, .ref qa1), (1, .int l1_32), (2, .int l2_32)]) hx hb dX9_isName_120 rfl hl (by decide) rfl (fun ls hl => ?_)
                            refine lv_iinc (v := (l4_32 + 1)) (lv' := [(4, .int (l4_32 + 1)), (3, .int 1), (6, .int 0), (5, .int (fa1 (l4_32 : Int32).toNatClampNeg)), (0, .ref qa1), (1, .int l1_32), (2, .int l2_32)]) hx hb dX9_isName_121 hl (k := 3) rfl rfl (by decide) rfl (fun ls hl => ?_)
                            refine lv_goto (tgt := 32) hx hb dX9_isName_124 (by decide) ?_
                            exact ih_32 H locs ls l1_32 l2_32 1 (l4_32 + 1) (lv_sub hl [0, 1, 4, 5, 6] rfl) hS (hD.sub (ws' := [(qa1, .inl (ca1, na1, .inl fa1))]) [0] (by decide) rfl) (hP.sub (ws' := [(qa1, .inl (ca1, na1, .inl fa1))]) [0] rfl) hsp
                        · rw [if_neg c_173] at hsp
                          refine lv_iload hx hb dX9_isName_101 (lv_at hl 1 rfl) ?_
                          refine lv_bipush (v := 57) hx hb dX9_isName_103 (by decide) ?_
                          refine lv_icmp_le (tgt := 115) hx hb dX9_isName_105 (by decide) (fun c_175 => ?_) (fun c_175 => ?_)
                          · rw [if_pos c_175] at hsp
                            refine lv_iconst (v := 1) hx hb dX9_isName_115 (by decide) ?_
                            refine lv_goto (tgt := 120) hx hb dX9_isName_116 (by decide) ?_
                            refine lv_istore_n (lv' := [(3, .int 1), (6, .int 0), (5, .int (fa1 (l4_32 : Int32).toNatClampNeg)), (4, .int l4_32), (0, .ref qa1), (1, .int l1_32), (2, .int l2_32)]) hx hb dX9_isName_120 rfl hl (by decide) rfl (fun ls hl => ?_)
                            refine lv_iinc (v := (l4_32 + 1)) (lv' := [(4, .int (l4_32 + 1)), (3, .int 1), (6, .int 0), (5, .int (fa1 (l4_32 : Int32).toNatClampNeg)), (0, .ref qa1), (1, .int l1_32), (2, .int l2_32)]) hx hb dX9_isName_121 hl (k := 3) rfl rfl (by decide) rfl (fun ls hl => ?_)
                            refine lv_goto (tgt := 32) hx hb dX9_isName_124 (by decide) ?_
                            exact ih_32 H locs ls l1_32 l2_32 1 (l4_32 + 1) (lv_sub hl [0, 1, 4, 5, 6] rfl) hS (hD.sub (ws' := [(qa1, .inl (ca1, na1, .inl fa1))]) [0] (by decide) rfl) (hP.sub (ws' := [(qa1, .inl (ca1, na1, .inl fa1))]) [0] rfl) hsp
                          · rw [if_neg c_175] at hsp
                            refine lv_iload hx hb dX9_isName_108 (lv_at hl 1 rfl) ?_
                            refine lv_bipush (v := 95) hx hb dX9_isName_110 (by decide) ?_
                            refine lv_icmp_ne (tgt := 119) hx hb dX9_isName_112 (by decide) (fun c_176 => ?_) (fun c_176 => ?_)
                            · rw [if_neg c_176] at hsp
                              refine lv_iconst (v := 0) hx hb dX9_isName_119 (by decide) ?_
                              refine lv_istore_n (lv' := [(3, .int 0), (6, .int 0), (5, .int (fa1 (l4_32 : Int32).toNatClampNeg)), (4, .int l4_32), (0, .ref qa1), (1, .int l1_32), (2, .int l2_32)]) hx hb dX9_isName_120 rfl hl (by decide) rfl (fun ls hl => ?_)
                              refine lv_iinc (v := (l4_32 + 1)) (lv' := [(4, .int (l4_32 + 1)), (3, .int 0), (6, .int 0), (5, .int (fa1 (l4_32 : Int32).toNatClampNeg)), (0, .ref qa1), (1, .int l1_32), (2, .int l2_32)]) hx hb dX9_isName_121 hl (k := 3) rfl rfl (by decide) rfl (fun ls hl => ?_)
                              refine lv_goto (tgt := 32) hx hb dX9_isName_124 (by decide) ?_
                              exact ih_32 H locs ls l1_32 l2_32 0 (l4_32 + 1) (lv_sub hl [0, 1, 4, 5, 6] rfl) hS (hD.sub (ws' := [(qa1, .inl (ca1, na1, .inl fa1))]) [0] (by decide) rfl) (hP.sub (ws' := [(qa1, .inl (ca1, na1, .inl fa1))]) [0] rfl) hsp
                            · rw [if_pos c_176] at hsp
                              refine lv_iconst (v := 1) hx hb dX9_isName_115 (by decide) ?_
                              refine lv_goto (tgt := 120) hx hb dX9_isName_116 (by decide) ?_
                              refine lv_istore_n (lv' := [(3, .int 1), (6, .int 0), (5, .int (fa1 (l4_32 : Int32).toNatClampNeg)), (4, .int l4_32), (0, .ref qa1), (1, .int l1_32), (2, .int l2_32)]) hx hb dX9_isName_120 rfl hl (by decide) rfl (fun ls hl => ?_)
                              refine lv_iinc (v := (l4_32 + 1)) (lv' := [(4, .int (l4_32 + 1)), (3, .int 1), (6, .int 0), (5, .int (fa1 (l4_32 : Int32).toNatClampNeg)), (0, .ref qa1), (1, .int l1_32), (2, .int l2_32)]) hx hb dX9_isName_121 hl (k := 3) rfl rfl (by decide) rfl (fun ls hl => ?_)
                              refine lv_goto (tgt := 32) hx hb dX9_isName_124 (by decide) ?_
                              exact ih_32 H locs ls l1_32 l2_32 1 (l4_32 + 1) (lv_sub hl [0, 1, 4, 5, 6] rfl) hS (hD.sub (ws' := [(qa1, .inl (ca1, na1, .inl fa1))]) [0] (by decide) rfl) (hP.sub (ws' := [(qa1, .inl (ca1, na1, .inl fa1))]) [0] rfl) hsp
                    · rw [if_neg c_170] at hsp
                      refine lv_iload hx hb dX9_isName_69 (lv_at hl 0 rfl) ?_
                      refine lv_bipush (v := 90) hx hb dX9_isName_71 (by decide) ?_
                      refine lv_icmp_gt (tgt := 80) hx hb dX9_isName_73 (by decide) (fun c_177 => ?_) (fun c_177 => ?_)
                      · rw [if_pos c_177] at hsp
                        refine lv_iconst (v := 0) hx hb dX9_isName_80 (by decide) ?_
                        refine lv_istore (lv' := [(6, .int 0), (5, .int (fa1 (l4_32 : Int32).toNatClampNeg)), (4, .int l4_32), (3, .int l3_32), (0, .ref qa1), (1, .int l1_32), (2, .int l2_32)]) hx hb dX9_isName_81 hl (by decide) rfl (fun ls hl => ?_)
                        refine lv_iload hx hb dX9_isName_83 (lv_at hl 0 rfl) ?_
                        refine lv_if_ne (tgt := 115) hx hb dX9_isName_85 (by decide) (fun c_178 => (show False by revert c_178; decide).elim) (fun c_178 => ?_)
                        refine lv_iload hx hb dX9_isName_88 (lv_at hl 2 rfl) ?_
                        refine lv_iload_n hx hb dX9_isName_90 rfl (lv_at hl 5 rfl) ?_
                        refine lv_icmp_le (tgt := 119) hx hb dX9_isName_91 (by decide) (fun c_179 => ?_) (fun c_179 => ?_)
                        · rw [if_pos c_179] at hsp
                          refine lv_iconst (v := 0) hx hb dX9_isName_119 (by decide) ?_
                          refine lv_istore_n (lv' := [(3, .int 0), (6, .int 0), (5, .int (fa1 (l4_32 : Int32).toNatClampNeg)), (4, .int l4_32), (0, .ref qa1), (1, .int l1_32), (2, .int l2_32)]) hx hb dX9_isName_120 rfl hl (by decide) rfl (fun ls hl => ?_)
                          refine lv_iinc (v := (l4_32 + 1)) (lv' := [(4, .int (l4_32 + 1)), (3, .int 0), (6, .int 0), (5, .int (fa1 (l4_32 : Int32).toNatClampNeg)), (0, .ref qa1), (1, .int l1_32), (2, .int l2_32)]) hx hb dX9_isName_121 hl (k := 3) rfl rfl (by decide) rfl (fun ls hl => ?_)
                          refine lv_goto (tgt := 32) hx hb dX9_isName_124 (by decide) ?_
                          exact ih_32 H locs ls l1_32 l2_32 0 (l4_32 + 1) (lv_sub hl [0, 1, 4, 5, 6] rfl) hS (hD.sub (ws' := [(qa1, .inl (ca1, na1, .inl fa1))]) [0] (by decide) rfl) (hP.sub (ws' := [(qa1, .inl (ca1, na1, .inl fa1))]) [0] rfl) hsp
                        · rw [if_neg c_179] at hsp
                          refine lv_iload hx hb dX9_isName_94 (lv_at hl 1 rfl) ?_
                          refine lv_bipush (v := 48) hx hb dX9_isName_96 (by decide) ?_
                          refine lv_icmp_lt (tgt := 108) hx hb dX9_isName_98 (by decide) (fun c_180 => ?_) (fun c_180 => ?_)
                          · rw [if_pos c_180] at hsp
                            refine lv_iload hx hb dX9_isName_108 (lv_at hl 1 rfl) ?_
                            refine lv_bipush (v := 95) hx hb dX9_isName_110 (by decide) ?_
                            refine lv_icmp_ne (tgt := 119) hx hb dX9_isName_112 (by decide) (fun c_181 => ?_) (fun c_181 => ?_)
                            · rw [if_neg c_181] at hsp
                              refine lv_iconst (v := 0) hx hb dX9_isName_119 (by decide) ?_
                              refine lv_istore_n (lv' := [(3, .int 0), (6, .int 0), (5, .int (fa1 (l4_32 : Int32).toNatClampNeg)), (4, .int l4_32), (0, .ref qa1), (1, .int l1_32), (2, .int l2_32)]) hx hb dX9_isName_120 rfl hl (by decide) rfl (fun ls hl => ?_)
                              refine lv_iinc (v := (l4_32 + 1)) (lv' := [(4, .int (l4_32 + 1)), (3, .int 0), (6, .int 0), (5, .int (fa1 (l4_32 : Int32).toNatClampNeg)), (0, .ref qa1), (1, .int l1_32), (2, .int l2_32)]) hx hb dX9_isName_121 hl (k := 3) rfl rfl (by decide) rfl (fun ls hl => ?_)
                              refine lv_goto (tgt := 32) hx hb dX9_isName_124 (by decide) ?_
                              exact ih_32 H locs ls l1_32 l2_32 0 (l4_32 + 1) (lv_sub hl [0, 1, 4, 5, 6] rfl) hS (hD.sub (ws' := [(qa1, .inl (ca1, na1, .inl fa1))]) [0] (by decide) rfl) (hP.sub (ws' := [(qa1, .inl (ca1, na1, .inl fa1))]) [0] rfl) hsp
                            · rw [if_pos c_181] at hsp
                              refine lv_iconst (v := 1) hx hb dX9_isName_115 (by decide) ?_
                              refine lv_goto (tgt := 120) hx hb dX9_isName_116 (by decide) ?_
                              refine lv_istore_n (lv' := [(3, .int 1), (6, .int 0), (5, .int (fa1 (l4_32 : Int32).toNatClampNeg)), (4, .int l4_32), (0, .ref qa1), (1, .int l1_32), (2, .int l2_32)]) hx hb dX9_isName_120 rfl hl (by decide) rfl (fun ls hl => ?_)
                              refine lv_iinc (v := (l4_32 + 1)) (lv' := [(4, .int (l4_32 + 1)), (3, .int 1), (6, .int 0), (5, .int (fa1 (l4_32 : Int32).toNatClampNeg)), (0, .ref qa1), (1, .int l1_32), (2, .int l2_32)]) hx hb dX9_isName_121 hl (k := 3) rfl rfl (by decide) rfl (fun ls hl => ?_)
                              refine lv_goto (tgt := 32) hx hb dX9_isName_124 (by decide) ?_
                              exact ih_32 H locs ls l1_32 l2_32 1 (l4_32 + 1) (lv_sub hl [0, 1, 4, 5, 6] rfl) hS (hD.sub (ws' := [(qa1, .inl (ca1, na1, .inl fa1))]) [0] (by decide) rfl) (hP.sub (ws' := [(qa1, .inl (ca1, na1, .inl fa1))]) [0] rfl) hsp
                          · rw [if_neg c_180] at hsp
                            refine lv_iload hx hb dX9_isName_101 (lv_at hl 1 rfl) ?_
                            refine lv_bipush (v := 57) hx hb dX9_isName_103 (by decide) ?_
                            refine lv_icmp_le (tgt := 115) hx hb dX9_isName_105 (by decide) (fun c_182 => ?_) (fun c_182 => ?_)
                            · rw [if_pos c_182] at hsp
                              refine lv_iconst (v := 1) hx hb dX9_isName_115 (by decide) ?_
                              refine lv_goto (tgt := 120) hx hb dX9_isName_116 (by decide) ?_
                              refine lv_istore_n (lv' := [(3, .int 1), (6, .int 0), (5, .int (fa1 (l4_32 : Int32).toNatClampNeg)), (4, .int l4_32), (0, .ref qa1), (1, .int l1_32), (2, .int l2_32)]) hx hb dX9_isName_120 rfl hl (by decide) rfl (fun ls hl => ?_)
                              refine lv_iinc (v := (l4_32 + 1)) (lv' := [(4, .int (l4_32 + 1)), (3, .int 1), (6, .int 0), (5, .int (fa1 (l4_32 : Int32).toNatClampNeg)), (0, .ref qa1), (1, .int l1_32), (2, .int l2_32)]) hx hb dX9_isName_121 hl (k := 3) rfl rfl (by decide) rfl (fun ls hl => ?_)
                              refine lv_goto (tgt := 32) hx hb dX9_isName_124 (by decide) ?_
                              exact ih_32 H locs ls l1_32 l2_32 1 (l4_32 + 1) (lv_sub hl [0, 1, 4, 5, 6] rfl) hS (hD.sub (ws' := [(qa1, .inl (ca1, na1, .inl fa1))]) [0] (by decide) rfl) (hP.sub (ws' := [(qa1, .inl (ca1, na1, .inl fa1))]) [0] rfl) hsp
                            · rw [if_neg c_182] at hsp
                              refine lv_iload hx hb dX9_isName_108 (lv_at hl 1 rfl) ?_
                              refine lv_bipush (v := 95) hx hb dX9_isName_110 (by decide) ?_
                              refine lv_icmp_ne (tgt := 119) hx hb dX9_isName_112 (by decide) (fun c_183 => ?_) (fun c_183 => ?_)
                              · rw [if_neg c_183] at hsp
                                refine lv_iconst (v := 0) hx hb dX9_isName_119 (by decide) ?_
                                refine lv_istore_n (lv' := [(3, .int 0), (6, .int 0), (5, .int (fa1 (l4_32 : Int32).toNatClampNeg)), (4, .int l4_32), (0, .ref qa1), (1, .int l1_32), (2, .int l2_32)]) hx hb dX9_isName_120 rfl hl (by decide) rfl (fun ls hl => ?_)
                                refine lv_iinc (v := (l4_32 + 1)) (lv' := [(4, .int (l4_32 + 1)), (3, .int 0), (6, .int 0), (5, .int (fa1 (l4_32 : Int32).toNatClampNeg)), (0, .ref qa1), (1, .int l1_32), (2, .int l2_32)]) hx hb dX9_isName_121 hl (k := 3) rfl rfl (by decide) rfl (fun ls hl => ?_)
                                refine lv_goto (tgt := 32) hx hb dX9_isName_124 (by decide) ?_
                                exact ih_32 H locs ls l1_32 l2_32 0 (l4_32 + 1) (lv_sub hl [0, 1, 4, 5, 6] rfl) hS (hD.sub (ws' := [(qa1, .inl (ca1, na1, .inl fa1))]) [0] (by decide) rfl) (hP.sub (ws' := [(qa1, .inl (ca1, na1, .inl fa1))]) [0] rfl) hsp
                              · rw [if_pos c_183] at hsp
                                refine lv_iconst (v := 1) hx hb dX9_isName_115 (by decide) ?_
                                refine lv_goto (tgt := 120) hx hb dX9_isName_116 (by decide) ?_
                                refine lv_istore_n (lv' := [(3, .int 1), (6, .int 0), (5, .int (fa1 (l4_32 : Int32).toNatClampNeg)), (4, .int l4_32), (0, .ref qa1), (1, .int l1_32), (2, .int l2_32)]) hx hb dX9_isName_120 rfl hl (by decide) rfl (fun ls hl => ?_)
                                refine lv_iinc (v := (l4_32 + 1)) (lv' := [(4, .int (l4_32 + 1)), (3, .int 1), (6, .int 0), (5, .int (fa1 (l4_32 : Int32).toNatClampNeg)), (0, .ref qa1), (1, .int l1_32), (2, .int l2_32)]) hx hb dX9_isName_121 hl (k := 3) rfl rfl (by decide) rfl (fun ls hl => ?_)
                                refine lv_goto (tgt := 32) hx hb dX9_isName_124 (by decide) ?_
                                exact ih_32 H locs ls l1_32 l2_32 1 (l4_32 + 1) (lv_sub hl [0, 1, 4, 5, 6] rfl) hS (hD.sub (ws' := [(qa1, .inl (ca1, na1, .inl fa1))]) [0] (by decide) rfl) (hP.sub (ws' := [(qa1, .inl (ca1, na1, .inl fa1))]) [0] rfl) hsp
                      · rw [if_neg c_177] at hsp
                        refine lv_iconst (v := 1) hx hb dX9_isName_76 (by decide) ?_
                        refine lv_goto (tgt := 81) hx hb dX9_isName_77 (by decide) ?_
                        refine lv_istore (lv' := [(6, .int 1), (5, .int (fa1 (l4_32 : Int32).toNatClampNeg)), (4, .int l4_32), (3, .int l3_32), (0, .ref qa1), (1, .int l1_32), (2, .int l2_32)]) hx hb dX9_isName_81 hl (by decide) rfl (fun ls hl => ?_)
                        refine lv_iload hx hb dX9_isName_83 (lv_at hl 0 rfl) ?_
                        refine lv_if_ne (tgt := 115) hx hb dX9_isName_85 (by decide) (fun c_184 => ?_) (fun c_184 => (show False by revert c_184; decide).elim)
                        refine lv_iconst (v := 1) hx hb dX9_isName_115 (by decide) ?_
                        refine lv_goto (tgt := 120) hx hb dX9_isName_116 (by decide) ?_
                        refine lv_istore_n (lv' := [(3, .int 1), (6, .int 1), (5, .int (fa1 (l4_32 : Int32).toNatClampNeg)), (4, .int l4_32), (0, .ref qa1), (1, .int l1_32), (2, .int l2_32)]) hx hb dX9_isName_120 rfl hl (by decide) rfl (fun ls hl => ?_)
                        refine lv_iinc (v := (l4_32 + 1)) (lv' := [(4, .int (l4_32 + 1)), (3, .int 1), (6, .int 1), (5, .int (fa1 (l4_32 : Int32).toNatClampNeg)), (0, .ref qa1), (1, .int l1_32), (2, .int l2_32)]) hx hb dX9_isName_121 hl (k := 3) rfl rfl (by decide) rfl (fun ls hl => ?_)
                        refine lv_goto (tgt := 32) hx hb dX9_isName_124 (by decide) ?_
                        exact ih_32 H locs ls l1_32 l2_32 1 (l4_32 + 1) (lv_sub hl [0, 1, 4, 5, 6] rfl) hS (hD.sub (ws' := [(qa1, .inl (ca1, na1, .inl fa1))]) [0] (by decide) rfl) (hP.sub (ws' := [(qa1, .inl (ca1, na1, .inl fa1))]) [0] rfl) hsp
def lp_t9_isNamed_29 (nf n : Nat) (a1 : Int32) (a3 : Int32) (a4 : Int32) (f5 : Nat → Int32) (f4 : Nat → Int32) (na2 : Nat) (fa2 : Nat → Int32)  (l1_29 : Int32) (l3_29 : Int32) (l4_29 : Int32) (l5_29 : Int32) (l6_29 : Int32) : Option (Int32) := match n with
  | 0 => none
  | n + 1 => (if l4_29 ≤ l6_29 then (some 1) else (if (l5_29 + l6_29) < 0 then none else if 6400 ≤ ((l5_29 + l6_29) : Int32).toNatClampNeg then none else (if (l3_29 + l6_29) < 0 then none else if na2 ≤ ((l3_29 + l6_29) : Int32).toNatClampNeg then none else (if (f4 ((l5_29 + l6_29) : Int32).toNatClampNeg) = (fa2 ((l3_29 + l6_29) : Int32).toNatClampNeg) then (lp_t9_isNamed_29 nf n a1 a3 a4 f5 f4 na2 fa2 l1_29 l3_29 l4_29 l5_29 (l6_29 + 1)) else (some 0)))))
def sp_t9_isNamed (nf : Nat) (a1 : Int32) (a3 : Int32) (a4 : Int32) (f5 : Nat → Int32) (f4 : Nat → Int32) (na2 : Nat) (fa2 : Nat → Int32) : Option (Int32) := (if a1 < 0 then none else if 1741 ≤ (a1 : Int32).toNatClampNeg then none else (if (a1 + 1) < 0 then none else if 1741 ≤ ((a1 + 1) : Int32).toNatClampNeg then none else (if ((f5 ((a1 + 1) : Int32).toNatClampNeg) - (f5 (a1 : Int32).toNatClampNeg)) = a4 then (lp_t9_isNamed_29 nf nf a1 a3 a4 f5 f4 na2 fa2 a1 a3 a4 (f5 (a1 : Int32).toNatClampNeg) 0) else (some 0))))

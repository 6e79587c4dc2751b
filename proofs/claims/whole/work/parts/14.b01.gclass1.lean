set_option maxHeartbeats 4000000 in
set_option maxRecDepth 100000 in
/-- ClassMill$Image.sameBytes -/
theorem t3_sameBytes (l : Launch) (dC : Nat → ClassId) (dI : Nat → Nat → Nat) (sz : Nat) (h0 : Nat) (a1 : Int32) (a2 : Int32) (qa3 : Nat) (a4 : Int32) (a5 : Int32) (qf0 : Nat) (v1 : Int32) (v2 : Int32) (v3 : Int32) (qf4 : Nat) (qf5 : Nat) (qf6 : Nat) (v7 : Int32) (v8 : Int32) (v9 : Int32) (v10 : Int32) (qf11 : Nat) (v12 : Int32) (qf13 : Nat) (cf0 : ClassId) (nb : Nat) (f0 : (Nat → Int32)) (qfa3_0 : Nat) (va3_1 : Int32) (va3_2 : Int32) (va3_3 : Int32) (qfa3_4 : Nat) (qfa3_5 : Nat) (qfa3_6 : Nat) (va3_7 : Int32) (va3_8 : Int32) (va3_9 : Int32) (va3_10 : Int32) (qfa3_11 : Nat) (va3_12 : Int32) (qfa3_13 : Nat) (cfa3_0 : ClassId) (fa3_0 : (Nat → Int32)) (nf : Nat) (r0 : Int32) (hsp : sp_t3_sameBytes nf a1 a2 a4 a5 v1 nb f0 va3_1 fa3_0 = some r0) : Met l yX3_sameBytes (.code yX3_sameBytes cX3_sameBytes 8 (some .boolean) :: VS_h3) ({ frames := 0, cells := 0, slots := 0, locals := 0 }) (va_Pc [.ref h0, .int a1, .int a2, .ref qa3, .int a4, .int a5] (fun U => U.heap.size = sz ∧ va_P (dC, dI) vwCl [(h0, .inr (3, [.ref qf0, .int v1, .int v2, .int v3, .ref qf4, .ref qf5, .ref qf6, .int v7, .int v8, .int v9, .int v10, .ref qf11, .int v12, .ref qf13])), (qf0, .inl (cf0, nb, .inl f0)), (qa3, .inr (3, [.ref qfa3_0, .int va3_1, .int va3_2, .int va3_3, .ref qfa3_4, .ref qfa3_5, .ref qfa3_6, .int va3_7, .int va3_8, .int va3_9, .int va3_10, .ref qfa3_11, .int va3_12, .ref qfa3_13])), (qfa3_0, .inl (cfa3_0, nb, .inl fa3_0))] U.heap ∧ va_K (dC, dI) vwCl [(cf0, .byte), (cfa3_0, .byte)] U ∧ va_D (fun _ => True) [(h0, .inr (3, [.ref qf0, .int v1, .int v2, .int v3, .ref qf4, .ref qf5, .ref qf6, .int v7, .int v8, .int v9, .int v10, .ref qf11, .int v12, .ref qf13])), (qf0, .inl (cf0, nb, .inl f0)), (qa3, .inr (3, [.ref qfa3_0, .int va3_1, .int va3_2, .int va3_3, .ref qfa3_4, .ref qfa3_5, .ref qfa3_6, .int va3_7, .int va3_8, .int va3_9, .int va3_10, .ref qfa3_11, .int va3_12, .ref qfa3_13])), (qfa3_0, .inl (cfa3_0, nb, .inl fa3_0))])) (va_Qi (fun (r : Int32) (u : Unit) => match u with | () => r0 = r ∧ (r0 = 0 ∨ r0 = 1)) (fun (u : Unit) (t : State) => match u with | () => va_P (dC, dI) vwCl [(h0, .inr (3, [.ref qf0, .int v1, .int v2, .int v3, .ref qf4, .ref qf5, .ref qf6, .int v7, .int v8, .int v9, .int v10, .ref qf11, .int v12, .ref qf13])), (qf0, .inl (cf0, nb, .inl f0)), (qa3, .inr (3, [.ref qfa3_0, .int va3_1, .int va3_2, .int va3_3, .ref qfa3_4, .ref qfa3_5, .ref qfa3_6, .int va3_7, .int va3_8, .int va3_9, .int va3_10, .ref qfa3_11, .int va3_12, .ref qfa3_13])), (qfa3_0, .inl (cfa3_0, nb, .inl fa3_0))] t.heap ∧ va_K (dC, dI) vwCl [(cf0, .byte), (cfa3_0, .byte)] t ∧ va_D (va_A [(h0, .inr (3, [.ref qf0, .int v1, .int v2, .int v3, .ref qf4, .ref qf5, .ref qf6, .int v7, .int v8, .int v9, .int v10, .ref qf11, .int v12, .ref qf13])), (qf0, .inl (cf0, nb, .inl f0)), (qa3, .inr (3, [.ref qfa3_0, .int va3_1, .int va3_2, .int va3_3, .ref qfa3_4, .ref qfa3_5, .ref qfa3_6, .int va3_7, .int va3_8, .int va3_9, .int va3_10, .ref qfa3_11, .int va3_12, .ref qfa3_13])), (qfa3_0, .inl (cfa3_0, nb, .inl fa3_0))] sz) [(h0, .inr (3, [.ref qf0, .int v1, .int v2, .int v3, .ref qf4, .ref qf5, .ref qf6, .int v7, .int v8, .int v9, .int v10, .ref qf11, .int v12, .ref qf13])), (qf0, .inl (cf0, nb, .inl f0)), (qa3, .inr (3, [.ref qfa3_0, .int va3_1, .int va3_2, .int va3_3, .ref qfa3_4, .ref qfa3_5, .ref qfa3_6, .int va3_7, .int va3_8, .int va3_9, .int va3_10, .ref qfa3_11, .int va3_12, .ref qfa3_13])), (qfa3_0, .inl (cfa3_0, nb, .inl fa3_0))]) (va_A [(h0, .inr (3, [.ref qf0, .int v1, .int v2, .int v3, .ref qf4, .ref qf5, .ref qf6, .int v7, .int v8, .int v9, .int v10, .ref qf11, .int v12, .ref qf13])), (qf0, .inl (cf0, nb, .inl f0)), (qa3, .inr (3, [.ref qfa3_0, .int va3_1, .int va3_2, .int va3_3, .ref qfa3_4, .ref qfa3_5, .ref qfa3_6, .int va3_7, .int va3_8, .int va3_9, .int va3_10, .ref qfa3_11, .int va3_12, .ref qfa3_13])), (qfa3_0, .inl (cfa3_0, nb, .inl fa3_0))] sz)) 0 0 (va_A [(h0, .inr (3, [.ref qf0, .int v1, .int v2, .int v3, .ref qf4, .ref qf5, .ref qf6, .int v7, .int v8, .int v9, .int v10, .ref qf11, .int v12, .ref qf13])), (qf0, .inl (cf0, nb, .inl f0)), (qa3, .inr (3, [.ref qfa3_0, .int va3_1, .int va3_2, .int va3_3, .ref qfa3_4, .ref qfa3_5, .ref qfa3_6, .int va3_7, .int va3_8, .int va3_9, .int va3_10, .ref qfa3_11, .int va3_12, .ref qfa3_13])), (qfa3_0, .inl (cfa3_0, nb, .inl fa3_0))] sz) := by
  refine Met.ofW (cc := cX3_sameBytes) (maxL := 8) (ret := (some .boolean)) (by decide) rfl ?_
  intro p e s m args below meth c s₁ B hml hv
  obtain ⟨rfl, hsz, hP, hK, hD0⟩ := hv
  have hx := B.exec
  have hb := B.bytes
  have hr := B.returns
  have hts := atoms_spec (ws := (.code yX3_sameBytes cX3_sameBytes 8 (some .boolean) :: VS_h3)) B.pre
  replace hts := fun w (h : w ∈ VS_h3) => hts w (List.mem_cons_of_mem _ h)
  have hown : s.vm.findClass RX3 = some m.cls := findClass_of_methodNamed B.named
  have hlocks := B.notSynchronized
  subst hsz
  have hD := hD0.self (sz := s.heap.size)
  generalize hAe : va_A [(h0, .inr (3, [.ref qf0, .int v1, .int v2, .int v3, .ref qf4, .ref qf5, .ref qf6, .int v7, .int v8, .int v9, .int v10, .ref qf11, .int v12, .ref qf13])), (qf0, .inl (cf0, nb, .inl f0)), (qa3, .inr (3, [.ref qfa3_0, .int va3_1, .int va3_2, .int va3_3, .ref qfa3_4, .ref qfa3_5, .ref qfa3_6, .int va3_7, .int va3_8, .int va3_9, .int va3_10, .ref qfa3_11, .int va3_12, .ref qfa3_13])), (qfa3_0, .inl (cfa3_0, nb, .inl fa3_0))] s.heap.size = A at hD  ⊢
  have hA : ∀ q : Nat, s.heap.size ≤ q → A q := fun q h => by rw [← hAe]; exact Or.inr h
  have hP : va_P (dC, dI) vwCl [(h0, .inr (3, [.ref qf0, .int v1, .int v2, .int v3, .ref qf4, .ref qf5, .ref qf6, .int v7, .int v8, .int v9, .int v10, .ref qf11, .int v12, .ref qf13])), (qf0, .inl (cf0, nb, .inl f0)), (qa3, .inr (3, [.ref qfa3_0, .int va3_1, .int va3_2, .int va3_3, .ref qfa3_4, .ref qfa3_5, .ref qfa3_6, .int va3_7, .int va3_8, .int va3_9, .int va3_10, .ref qfa3_11, .int va3_12, .ref qfa3_13])), (qfa3_0, .inl (cfa3_0, nb, .inl fa3_0))] s.heap := hP
  have hl := lv_entry ([.ref h0, .int a1, .int a2, .ref qa3, .int a4, .int a5]) (n := 8) (Nat.le_of_ble_eq_true rfl)
  rw [lg_entry_eq]
  generalize (lg_sl ([.ref h0, .int a1, .int a2, .ref qa3, .int a4, .int a5]) ++ List.replicate (8 - (lg_sl ([.ref h0, .int a1, .int a2, .ref qa3, .int a4, .int a5])).length) Slot.unset).toArray = ls at hl ⊢
  have hl : lv_has ls 8 [(0, .ref h0), (1, .int a1), (2, .int a2), (3, .ref qa3), (4, .int a4), (5, .int a5)] := hl
  obtain ⟨H, hH⟩ : ∃ H : Heap, s.heap = H := ⟨_, rfl⟩
  rw [hH] at hP ⊢
  have hS : va_S A s.heap H [] := by rw [← hH]; exact va_S.rf
  obtain ⟨locs, hlo⟩ : ∃ locs : List Loc, locs = [] := ⟨_, rfl⟩
  rw [← hlo] at hS ⊢
  unfold sp_t3_sameBytes at hsp
  refine lv_iload_n hx hb dX3_sameBytes_0 rfl (lv_at hl 2 rfl) ?_
  refine lv_iload_n hx hb dX3_sameBytes_1 rfl (lv_at hl 1 rfl) ?_
  refine lv_isub hx hb dX3_sameBytes_2 ?_
  refine lv_iload hx hb dX3_sameBytes_3 (lv_at hl 5 rfl) ?_
  refine lv_iload hx hb dX3_sameBytes_5 (lv_at hl 4 rfl) ?_
  refine lv_isub hx hb dX3_sameBytes_7 ?_
  refine lv_icmp_ne (tgt := 41) hx hb dX3_sameBytes_8 (by decide) (fun c_1 => ?_) (fun c_1 => ?_)
  · rw [if_neg c_1] at hsp
    refine lv_iconst (v := 0) hx hb dX3_sameBytes_41 (by decide) ?_
    refine lv_istore (lv' := [(6, .int 0), (0, .ref h0), (1, .int a1), (2, .int a2), (3, .ref qa3), (4, .int a4), (5, .int a5)]) hx hb dX3_sameBytes_42 hl (by decide) rfl (fun ls hl => ?_)
    refine lv_iconst (v := 0) hx hb dX3_sameBytes_44 (by decide) ?_
    refine lv_istore (lv' := [(7, .int 0), (6, .int 0), (0, .ref h0), (1, .int a1), (2, .int a2), (3, .ref qa3), (4, .int a4), (5, .int a5)]) hx hb dX3_sameBytes_45 hl (by decide) rfl (fun ls hl => ?_)
    replace hP := hP.sub (ws' := [(h0, .inr (3, [.ref qf0, .int v1, .int v2, .int v3, .ref qf4, .ref qf5, .ref qf6, .int v7, .int v8, .int v9, .int v10, .ref qf11, .int v12, .ref qf13])), (qf0, .inl (cf0, nb, .inl f0)), (qa3, .inr (3, [.ref qfa3_0, .int va3_1, .int va3_2, .int va3_3, .ref qfa3_4, .ref qfa3_5, .ref qfa3_6, .int va3_7, .int va3_8, .int va3_9, .int va3_10, .ref qfa3_11, .int va3_12, .ref qfa3_13])), (qfa3_0, .inl (cfa3_0, nb, .inl fa3_0))]) [0, 1, 2, 3] rfl
    replace hD := hD.sub (ws' := [(h0, .inr (3, [.ref qf0, .int v1, .int v2, .int v3, .ref qf4, .ref qf5, .ref qf6, .int v7, .int v8, .int v9, .int v10, .ref qf11, .int v12, .ref qf13])), (qf0, .inl (cf0, nb, .inl f0)), (qa3, .inr (3, [.ref qfa3_0, .int va3_1, .int va3_2, .int va3_3, .ref qfa3_4, .ref qfa3_5, .ref qfa3_6, .int va3_7, .int va3_8, .int va3_9, .int va3_10, .ref qfa3_11, .int va3_12, .ref qfa3_13])), (qfa3_0, .inl (cfa3_0, nb, .inl fa3_0))]) [0, 1, 2, 3] (by decide) rfl
    replace hK := hK.sub (tys' := [(cf0, .byte), (cfa3_0, .byte)]) [0, 1] rfl
    obtain ⟨n_47, hn_47⟩ : ∃ z : Nat, z = nf := ⟨_, rfl⟩
    obtain ⟨l1_47, el1_47⟩ : ∃ z : Int32, z = a1 := ⟨_, rfl⟩
    obtain ⟨l2_47, el2_47⟩ : ∃ z : Int32, z = a2 := ⟨_, rfl⟩
    obtain ⟨l4_47, el4_47⟩ : ∃ z : Int32, z = a4 := ⟨_, rfl⟩
    obtain ⟨l5_47, el5_47⟩ : ∃ z : Int32, z = a5 := ⟨_, rfl⟩
    obtain ⟨l6_47, el6_47⟩ : ∃ z : Int32, z = 0 := ⟨_, rfl⟩
    obtain ⟨l7_47, el7_47⟩ : ∃ z : Int32, z = 0 := ⟨_, rfl⟩
    replace hsp : lp_t3_sameBytes_47 nf n_47 a1 a2 a4 a5 v1 nb f0 va3_1 fa3_0 l1_47 l2_47 l4_47 l5_47 l6_47 l7_47 = some r0 := by rw [hn_47, el1_47, el2_47, el4_47, el5_47, el6_47, el7_47]; exact hsp
    replace hl : lv_has ls 8 [(7, .int l7_47), (6, .int l6_47), (0, .ref h0), (1, .int l1_47), (2, .int l2_47), (3, .ref qa3), (4, .int l4_47), (5, .int l5_47)] := by rw [el1_47, el2_47, el4_47, el5_47, el6_47, el7_47]; exact hl
    clear hn_47 el1_47 el2_47 el4_47 el5_47 el6_47 el7_47
    try clear hlo
    try clear hH
    revert hsp
    revert hP
    revert hD
    revert hS
    revert hl
    revert l7_47
    revert l6_47
    revert l5_47
    revert l4_47
    revert l2_47
    revert l1_47
    revert ls
    revert locs
    revert H
    induction n_47 with
    | zero => intro H locs ls l1_47 l2_47 l4_47 l5_47 l6_47 l7_47 hl hS hD hP hsp; unfold lp_t3_sameBytes_47 at hsp; cases hsp
    | succ n_47 ih_47 =>
      intro H locs ls l1_47 l2_47 l4_47 l5_47 l6_47 l7_47 hl hS hD hP hsp
      unfold lp_t3_sameBytes_47 at hsp
      try dsimp only at hsp
      refine lv_iload hx hb dX3_sameBytes_47 (lv_at hl 0 rfl) ?_
      refine lv_iload_n hx hb dX3_sameBytes_49 rfl (lv_at hl 4 rfl) ?_
      refine lv_iload_n hx hb dX3_sameBytes_50 rfl (lv_at hl 3 rfl) ?_
      refine lv_isub hx hb dX3_sameBytes_51 ?_
      refine lv_icmp_ge (tgt := 95) hx hb dX3_sameBytes_52 (by decide) (fun c_2 => ?_) (fun c_2 => ?_)
      · rw [if_pos c_2] at hsp
        refine lv_iload hx hb dX3_sameBytes_95 (lv_at hl 1 rfl) ?_
        rcases ox_01 hsp with ⟨rfl, hsp⟩ | ⟨rfl, hsp⟩
        · skip
          have hr0 := Option.some.inj hsp
          clear hsp
          subst hr0
          have hP9 := hP.sub (ws' := [(h0, .inr (3, [.ref qf0, .int v1, .int v2, .int v3, .ref qf4, .ref qf5, .ref qf6, .int v7, .int v8, .int v9, .int v10, .ref qf11, .int v12, .ref qf13])), (qf0, .inl (cf0, nb, .inl f0)), (qa3, .inr (3, [.ref qfa3_0, .int va3_1, .int va3_2, .int va3_3, .ref qfa3_4, .ref qfa3_5, .ref qfa3_6, .int va3_7, .int va3_8, .int va3_9, .int va3_10, .ref qfa3_11, .int va3_12, .ref qfa3_13])), (qfa3_0, .inl (cfa3_0, nb, .inl fa3_0))]) [0, 1, 2, 3] rfl
          have hD9 := hD.sub (ws' := [(h0, .inr (3, [.ref qf0, .int v1, .int v2, .int v3, .ref qf4, .ref qf5, .ref qf6, .int v7, .int v8, .int v9, .int v10, .ref qf11, .int v12, .ref qf13])), (qf0, .inl (cf0, nb, .inl f0)), (qa3, .inr (3, [.ref qfa3_0, .int va3_1, .int va3_2, .int va3_3, .ref qfa3_4, .ref qfa3_5, .ref qfa3_6, .int va3_7, .int va3_8, .int va3_9, .int va3_10, .ref qfa3_11, .int va3_12, .ref qfa3_13])), (qfa3_0, .inl (cfa3_0, nb, .inl fa3_0))]) [0, 1, 2, 3] (by decide) rfl
          have hK9 := hK.sub (tys' := [(cf0, .byte), (cfa3_0, .byte)]) [0, 1] rfl
          exact W.zret hx hb hr (by decide) (fun t ht hW => ⟨⟨(0), (), rfl, ⟨rfl, Or.inl rfl⟩, by rw [ht]; exact hP9, va_K.moved hW.alike hK9, hD9⟩, hS.F ht⟩) hS.2.2 dX3_sameBytes_97
        · skip
          have hr0 := Option.some.inj hsp
          clear hsp
          subst hr0
          have hP9 := hP.sub (ws' := [(h0, .inr (3, [.ref qf0, .int v1, .int v2, .int v3, .ref qf4, .ref qf5, .ref qf6, .int v7, .int v8, .int v9, .int v10, .ref qf11, .int v12, .ref qf13])), (qf0, .inl (cf0, nb, .inl f0)), (qa3, .inr (3, [.ref qfa3_0, .int va3_1, .int va3_2, .int va3_3, .ref qfa3_4, .ref qfa3_5, .ref qfa3_6, .int va3_7, .int va3_8, .int va3_9, .int va3_10, .ref qfa3_11, .int va3_12, .ref qfa3_13])), (qfa3_0, .inl (cfa3_0, nb, .inl fa3_0))]) [0, 1, 2, 3] rfl
          have hD9 := hD.sub (ws' := [(h0, .inr (3, [.ref qf0, .int v1, .int v2, .int v3, .ref qf4, .ref qf5, .ref qf6, .int v7, .int v8, .int v9, .int v10, .ref qf11, .int v12, .ref qf13])), (qf0, .inl (cf0, nb, .inl f0)), (qa3, .inr (3, [.ref qfa3_0, .int va3_1, .int va3_2, .int va3_3, .ref qfa3_4, .ref qfa3_5, .ref qfa3_6, .int va3_7, .int va3_8, .int va3_9, .int va3_10, .ref qfa3_11, .int va3_12, .ref qfa3_13])), (qfa3_0, .inl (cfa3_0, nb, .inl fa3_0))]) [0, 1, 2, 3] (by decide) rfl
          have hK9 := hK.sub (tys' := [(cf0, .byte), (cfa3_0, .byte)]) [0, 1] rfl
          exact W.zret hx hb hr (by decide) (fun t ht hW => ⟨⟨(1), (), rfl, ⟨rfl, Or.inr rfl⟩, by rw [ht]; exact hP9, va_K.moved hW.alike hK9, hD9⟩, hS.F ht⟩) hS.2.2 dX3_sameBytes_97
      · rw [if_neg c_2] at hsp
        refine lv_iload hx hb dX3_sameBytes_55 (lv_at hl 1 rfl) ?_
        refine lv_if_eq (tgt := 95) hx hb dX3_sameBytes_57 (by decide) (fun c_3 => ?_) (fun c_3 => ?_)
        · rw [if_pos c_3] at hsp
          refine lv_iload hx hb dX3_sameBytes_95 (lv_at hl 1 rfl) ?_
          rcases ox_01 hsp with ⟨rfl, hsp⟩ | ⟨rfl, hsp⟩
          · skip
            have hr0 := Option.some.inj hsp
            clear hsp
            subst hr0
            have hP9 := hP.sub (ws' := [(h0, .inr (3, [.ref qf0, .int v1, .int v2, .int v3, .ref qf4, .ref qf5, .ref qf6, .int v7, .int v8, .int v9, .int v10, .ref qf11, .int v12, .ref qf13])), (qf0, .inl (cf0, nb, .inl f0)), (qa3, .inr (3, [.ref qfa3_0, .int va3_1, .int va3_2, .int va3_3, .ref qfa3_4, .ref qfa3_5, .ref qfa3_6, .int va3_7, .int va3_8, .int va3_9, .int va3_10, .ref qfa3_11, .int va3_12, .ref qfa3_13])), (qfa3_0, .inl (cfa3_0, nb, .inl fa3_0))]) [0, 1, 2, 3] rfl
            have hD9 := hD.sub (ws' := [(h0, .inr (3, [.ref qf0, .int v1, .int v2, .int v3, .ref qf4, .ref qf5, .ref qf6, .int v7, .int v8, .int v9, .int v10, .ref qf11, .int v12, .ref qf13])), (qf0, .inl (cf0, nb, .inl f0)), (qa3, .inr (3, [.ref qfa3_0, .int va3_1, .int va3_2, .int va3_3, .ref qfa3_4, .ref qfa3_5, .ref qfa3_6, .int va3_7, .int va3_8, .int va3_9, .int va3_10, .ref qfa3_11, .int va3_12, .ref qfa3_13])), (qfa3_0, .inl (cfa3_0, nb, .inl fa3_0))]) [0, 1, 2, 3] (by decide) rfl
            have hK9 := hK.sub (tys' := [(cf0, .byte), (cfa3_0, .byte)]) [0, 1] rfl
            exact W.zret hx hb hr (by decide) (fun t ht hW => ⟨⟨(0), (), rfl, ⟨rfl, Or.inl rfl⟩, by rw [ht]; exact hP9, va_K.moved hW.alike hK9, hD9⟩, hS.F ht⟩) hS.2.2 dX3_sameBytes_97
          · skip
            have hr0 := Option.some.inj hsp
            clear hsp
            subst hr0
            have hP9 := hP.sub (ws' := [(h0, .inr (3, [.ref qf0, .int v1, .int v2, .int v3, .ref qf4, .ref qf5, .ref qf6, .int v7, .int v8, .int v9, .int v10, .ref qf11, .int v12, .ref qf13])), (qf0, .inl (cf0, nb, .inl f0)), (qa3, .inr (3, [.ref qfa3_0, .int va3_1, .int va3_2, .int va3_3, .ref qfa3_4, .ref qfa3_5, .ref qfa3_6, .int va3_7, .int va3_8, .int va3_9, .int va3_10, .ref qfa3_11, .int va3_12, .ref qfa3_13])), (qfa3_0, .inl (cfa3_0, nb, .inl fa3_0))]) [0, 1, 2, 3] rfl
            have hD9 := hD.sub (ws' := [(h0, .inr (3, [.ref qf0, .int v1, .int v2, .int v3, .ref qf4, .ref qf5, .ref qf6, .int v7, .int v8, .int v9, .int v10, .ref qf11, .int v12, .ref qf13])), (qf0, .inl (cf0, nb, .inl f0)), (qa3, .inr (3, [.ref qfa3_0, .int va3_1, .int va3_2, .int va3_3, .ref qfa3_4, .ref qfa3_5, .ref qfa3_6, .int va3_7, .int va3_8, .int va3_9, .int va3_10, .ref qfa3_11, .int va3_12, .ref qfa3_13])), (qfa3_0, .inl (cfa3_0, nb, .inl fa3_0))]) [0, 1, 2, 3] (by decide) rfl
            have hK9 := hK.sub (tys' := [(cf0, .byte), (cfa3_0, .byte)]) [0, 1] rfl
            exact W.zret hx hb hr (by decide) (fun t ht hW => ⟨⟨(1), (), rfl, ⟨rfl, Or.inr rfl⟩, by rw [ht]; exact hP9, va_K.moved hW.alike hK9, hD9⟩, hS.F ht⟩) hS.2.2 dX3_sameBytes_97
        · rw [if_neg c_3] at hsp
          refine lv_aload_n hx hb dX3_sameBytes_60 rfl (lv_at hl 2 rfl) ?_
          refine va_get (D := (dC, dI)) (ci := 3) (v := .ref qf0) (C := RX3) (T := TX3) (N := 14) hx hb hts uV_h3_X3 hown hK hP 0 rfl rfl 0 (by decide) (hts (.fieldLink RX3 9 "ClassMill$Image" "bytes" "[B") mw_h3_24) (fun _ h9 => h9) rfl dX3_sameBytes_61 ?_
          refine lv_iload_n hx hb dX3_sameBytes_64 rfl (lv_at hl 3 rfl) ?_
          refine lv_iload hx hb dX3_sameBytes_65 (lv_at hl 0 rfl) ?_
          refine lv_iadd hx hb dX3_sameBytes_67 ?_
          obtain ⟨hi_4, hsp⟩ := ox_in hsp
          refine va_bald hx hb hK hP 1 0 rfl rfl (i := (l1_47 + l7_47)) hi_4 dX3_sameBytes_68 ?_
          refine lv_aload_n hx hb dX3_sameBytes_69 rfl (lv_at hl 5 rfl) ?_
          refine va_get (D := (dC, dI)) (ci := 3) (v := .ref qfa3_0) (C := RX3) (T := TX3) (N := 14) hx hb hts uV_h3_X3 hown hK hP 2 rfl rfl 0 (by decide) (hts (.fieldLink RX3 9 "ClassMill$Image" "bytes" "[B") mw_h3_24) (fun _ h9 => h9) rfl dX3_sameBytes_70 ?_
          refine lv_iload hx hb dX3_sameBytes_73 (lv_at hl 6 rfl) ?_
          refine lv_iload hx hb dX3_sameBytes_75 (lv_at hl 0 rfl) ?_
          refine lv_iadd hx hb dX3_sameBytes_77 ?_
          obtain ⟨hi_5, hsp⟩ := ox_in hsp
          refine va_bald hx hb hK hP 3 1 rfl rfl (i := (l4_47 + l7_47)) hi_5 dX3_sameBytes_78 ?_
          refine lv_icmp_ne (tgt := 86) hx hb dX3_sameBytes_79 (by decide) (fun c_6 => ?_) (fun c_6 => ?_)
          · rw [if_neg c_6] at hsp
            refine lv_iconst (v := 0) hx hb dX3_sameBytes_86 (by decide) ?_
            refine lv_istore (lv' := [(6, .int 0), (7, .int l7_47), (0, .ref h0), (1, .int l1_47), (2, .int l2_47), (3, .ref qa3), (4, .int l4_47), (5, .int l5_47)]) hx hb dX3_sameBytes_87 hl (by decide) rfl (fun ls hl => ?_)
            refine lv_iinc (v := (l7_47 + 1)) (lv' := [(7, .int (l7_47 + 1)), (6, .int 0), (0, .ref h0), (1, .int l1_47), (2, .int l2_47), (3, .ref qa3), (4, .int l4_47), (5, .int l5_47)]) hx hb dX3_sameBytes_89 hl (k := 1) rfl rfl (by decide) rfl (fun ls hl => ?_)
            refine lv_goto (tgt := 47) hx hb dX3_sameBytes_92 (by decide) ?_
            exact ih_47 H locs ls l1_47 l2_47 l4_47 l5_47 0 (l7_47 + 1) (lv_sub hl [0, 1, 2, 3, 4, 5, 6, 7] rfl) hS (hD.sub (ws' := [(h0, .inr (3, [.ref qf0, .int v1, .int v2, .int v3, .ref qf4, .ref qf5, .ref qf6, .int v7, .int v8, .int v9, .int v10, .ref qf11, .int v12, .ref qf13])), (qf0, .inl (cf0, nb, .inl f0)), (qa3, .inr (3, [.ref qfa3_0, .int va3_1, .int va3_2, .int va3_3, .ref qfa3_4, .ref qfa3_5, .ref qfa3_6, .int va3_7, .int va3_8, .int va3_9, .int va3_10, .ref qfa3_11, .int va3_12, .ref qfa3_13])), (qfa3_0, .inl (cfa3_0, nb, .inl fa3_0))]) [0, 1, 2, 3] (by decide) rfl) (hP.sub (ws' := [(h0, .inr (3, [.ref qf0, .int v1, .int v2, .int v3, .ref qf4, .ref qf5, .ref qf6, .int v7, .int v8, .int v9, .int v10, .ref qf11, .int v12, .ref qf13])), (qf0, .inl (cf0, nb, .inl f0)), (qa3, .inr (3, [.ref qfa3_0, .int va3_1, .int va3_2, .int va3_3, .ref qfa3_4, .ref qfa3_5, .ref qfa3_6, .int va3_7, .int va3_8, .int va3_9, .int va3_10, .ref qfa3_11, .int va3_12, .ref qfa3_13])), (qfa3_0, .inl (cfa3_0, nb, .inl fa3_0))]) [0, 1, 2, 3] rfl) hsp
          · rw [if_pos c_6] at hsp
            refine lv_iconst (v := 1) hx hb dX3_sameBytes_82 (by decide) ?_
            refine lv_goto (tgt := 87) hx hb dX3_sameBytes_83 (by decide) ?_
            refine lv_istore (lv' := [(6, .int 1), (7, .int l7_47), (0, .ref h0), (1, .int l1_47), (2, .int l2_47), (3, .ref qa3), (4, .int l4_47), (5, .int l5_47)]) hx hb dX3_sameBytes_87 hl (by decide) rfl (fun ls hl => ?_)
            refine lv_iinc (v := (l7_47 + 1)) (lv' := [(7, .int (l7_47 + 1)), (6, .int 1), (0, .ref h0), (1, .int l1_47), (2, .int l2_47), (3, .ref qa3), (4, .int l4_47), (5, .int l5_47)]) hx hb dX3_sameBytes_89 hl (k := 1) rfl rfl (by decide) rfl (fun ls hl => ?_)
            refine lv_goto (tgt := 47) hx hb dX3_sameBytes_92 (by decide) ?_
            exact ih_47 H locs ls l1_47 l2_47 l4_47 l5_47 1 (l7_47 + 1) (lv_sub hl [0, 1, 2, 3, 4, 5, 6, 7] rfl) hS (hD.sub (ws' := [(h0, .inr (3, [.ref qf0, .int v1, .int v2, .int v3, .ref qf4, .ref qf5, .ref qf6, .int v7, .int v8, .int v9, .int v10, .ref qf11, .int v12, .ref qf13])), (qf0, .inl (cf0, nb, .inl f0)), (qa3, .inr (3, [.ref qfa3_0, .int va3_1, .int va3_2, .int va3_3, .ref qfa3_4, .ref qfa3_5, .ref qfa3_6, .int va3_7, .int va3_8, .int va3_9, .int va3_10, .ref qfa3_11, .int va3_12, .ref qfa3_13])), (qfa3_0, .inl (cfa3_0, nb, .inl fa3_0))]) [0, 1, 2, 3] (by decide) rfl) (hP.sub (ws' := [(h0, .inr (3, [.ref qf0, .int v1, .int v2, .int v3, .ref qf4, .ref qf5, .ref qf6, .int v7, .int v8, .int v9, .int v10, .ref qf11, .int v12, .ref qf13])), (qf0, .inl (cf0, nb, .inl f0)), (qa3, .inr (3, [.ref qfa3_0, .int va3_1, .int va3_2, .int va3_3, .ref qfa3_4, .ref qfa3_5, .ref qfa3_6, .int va3_7, .int va3_8, .int va3_9, .int va3_10, .ref qfa3_11, .int va3_12, .ref qfa3_13])), (qfa3_0, .inl (cfa3_0, nb, .inl fa3_0))]) [0, 1, 2, 3] rfl) hsp
  · rw [if_pos c_1] at hsp
    refine lv_iload_n hx hb dX3_sameBytes_11 rfl (lv_at hl 1 rfl) ?_
    refine lv_if_lt (tgt := 41) hx hb dX3_sameBytes_12 (by decide) (fun c_7 => ?_) (fun c_7 => ?_)
    · rw [if_pos c_7] at hsp
      refine lv_iconst (v := 0) hx hb dX3_sameBytes_41 (by decide) ?_
      refine lv_istore (lv' := [(6, .int 0), (0, .ref h0), (1, .int a1), (2, .int a2), (3, .ref qa3), (4, .int a4), (5, .int a5)]) hx hb dX3_sameBytes_42 hl (by decide) rfl (fun ls hl => ?_)
      refine lv_iconst (v := 0) hx hb dX3_sameBytes_44 (by decide) ?_
      refine lv_istore (lv' := [(7, .int 0), (6, .int 0), (0, .ref h0), (1, .int a1), (2, .int a2), (3, .ref qa3), (4, .int a4), (5, .int a5)]) hx hb dX3_sameBytes_45 hl (by decide) rfl (fun ls hl => ?_)
      replace hP := hP.sub (ws' := [(h0, .inr (3, [.ref qf0, .int v1, .int v2, .int v3, .ref qf4, .ref qf5, .ref qf6, .int v7, .int v8, .int v9, .int v10, .ref qf11, .int v12, .ref qf13])), (qf0, .inl (cf0, nb, .inl f0)), (qa3, .inr (3, [.ref qfa3_0, .int va3_1, .int va3_2, .int va3_3, .ref qfa3_4, .ref qfa3_5, .ref qfa3_6, .int va3_7, .int va3_8, .int va3_9, .int va3_10, .ref qfa3_11, .int va3_12, .ref qfa3_13])), (qfa3_0, .inl (cfa3_0, nb, .inl fa3_0))]) [0, 1, 2, 3] rfl
      replace hD := hD.sub (ws' := [(h0, .inr (3, [.ref qf0, .int v1, .int v2, .int v3, .ref qf4, .ref qf5, .ref qf6, .int v7, .int v8, .int v9, .int v10, .ref qf11, .int v12, .ref qf13])), (qf0, .inl (cf0, nb, .inl f0)), (qa3, .inr (3, [.ref qfa3_0, .int va3_1, .int va3_2, .int va3_3, .ref qfa3_4, .ref qfa3_5, .ref qfa3_6, .int va3_7, .int va3_8, .int va3_9, .int va3_10, .ref qfa3_11, .int va3_12, .ref qfa3_13])), (qfa3_0, .inl (cfa3_0, nb, .inl fa3_0))]) [0, 1, 2, 3] (by decide) rfl
      replace hK := hK.sub (tys' := [(cf0, .byte), (cfa3_0, .byte)]) [0, 1] rfl
      obtain ⟨n_47, hn_47⟩ : ∃ z : Nat, z = nf := ⟨_, rfl⟩
      obtain ⟨l1_47, el1_47⟩ : ∃ z : Int32, z = a1 := ⟨_, rfl⟩
      obtain ⟨l2_47, el2_47⟩ : ∃ z : Int32, z = a2 := ⟨_, rfl⟩
      obtain ⟨l4_47, el4_47⟩ : ∃ z : Int32, z = a4 := ⟨_, rfl⟩
      obtain ⟨l5_47, el5_47⟩ : ∃ z : Int32, z = a5 := ⟨_, rfl⟩
      obtain ⟨l6_47, el6_47⟩ : ∃ z : Int32, z = 0 := ⟨_, rfl⟩
      obtain ⟨l7_47, el7_47⟩ : ∃ z : Int32, z = 0 := ⟨_, rfl⟩
      replace hsp : lp_t3_sameBytes_47 nf n_47 a1 a2 a4 a5 v1 nb f0 va3_1 fa3_0 l1_47 l2_47 l4_47 l5_47 l6_47 l7_47 = some r0 := by rw [hn_47, el1_47, el2_47, el4_47, el5_47, el6_47, el7_47]; exact hsp
      replace hl : lv_has ls 8 [(7, .int l7_47), (6, .int l6_47), (0, .ref h0), (1, .int l1_47), (2, .int l2_47), (3, .ref qa3), (4, .int l4_47), (5, .int l5_47)] := by rw [el1_47, el2_47, el4_47, el5_47, el6_47, el7_47]; exact hl
      clear hn_47 el1_47 el2_47 el4_47 el5_47 el6_47 el7_47
      try clear hlo
      try clear hH
      revert hsp
      revert hP
      revert hD
      revert hS
      revert hl
      revert l7_47
      revert l6_47
      revert l5_47
      revert l4_47
      revert l2_47
      revert l1_47
      revert ls
      revert locs
      revert H
      induction n_47 with
      | zero => intro H locs ls l1_47 l2_47 l4_47 l5_47 l6_47 l7_47 hl hS hD hP hsp; unfold lp_t3_sameBytes_47 at hsp; cases hsp
      | succ n_47 ih_47 =>
        intro H locs ls l1_47 l2_47 l4_47 l5_47 l6_47 l7_47 hl hS hD hP hsp
        unfold lp_t3_sameBytes_47 at hsp
        try dsimp only at hsp
        refine lv_iload hx hb dX3_sameBytes_47 (lv_at hl 0 rfl) ?_
        refine lv_iload_n hx hb dX3_sameBytes_49 rfl (lv_at hl 4 rfl) ?_
        refine lv_iload_n hx hb dX3_sameBytes_50 rfl (lv_at hl 3 rfl) ?_
        refine lv_isub hx hb dX3_sameBytes_51 ?_
        refine lv_icmp_ge (tgt := 95) hx hb dX3_sameBytes_52 (by decide) (fun c_8 => ?_) (fun c_8 => ?_)
        · rw [if_pos c_8] at hsp
          refine lv_iload hx hb dX3_sameBytes_95 (lv_at hl 1 rfl) ?_
          rcases ox_01 hsp with ⟨rfl, hsp⟩ | ⟨rfl, hsp⟩
          · skip
            have hr0 := Option.some.inj hsp
            clear hsp
            subst hr0
            have hP9 := hP.sub (ws' := [(h0, .inr (3, [.ref qf0, .int v1, .int v2, .int v3, .ref qf4, .ref qf5, .ref qf6, .int v7, .int v8, .int v9, .int v10, .ref qf11, .int v12, .ref qf13])), (qf0, .inl (cf0, nb, .inl f0)), (qa3, .inr (3, [.ref qfa3_0, .int va3_1, .int va3_2, .int va3_3, .ref qfa3_4, .ref qfa3_5, .ref qfa3_6, .int va3_7, .int va3_8, .int va3_9, .int va3_10, .ref qfa3_11, .int va3_12, .ref qfa3_13])), (qfa3_0, .inl (cfa3_0, nb, .inl fa3_0))]) [0, 1, 2, 3] rfl
            have hD9 := hD.sub (ws' := [(h0, .inr (3, [.ref qf0, .int v1, .int v2, .int v3, .ref qf4, .ref qf5, .ref qf6, .int v7, .int v8, .int v9, .int v10, .ref qf11, .int v12, .ref qf13])), (qf0, .inl (cf0, nb, .inl f0)), (qa3, .inr (3, [.ref qfa3_0, .int va3_1, .int va3_2, .int va3_3, .ref qfa3_4, .ref qfa3_5, .ref qfa3_6, .int va3_7, .int va3_8, .int va3_9, .int va3_10, .ref qfa3_11, .int va3_12, .ref qfa3_13])), (qfa3_0, .inl (cfa3_0, nb, .inl fa3_0))]) [0, 1, 2, 3] (by decide) rfl
            have hK9 := hK.sub (tys' := [(cf0, .byte), (cfa3_0, .byte)]) [0, 1] rfl
            exact W.zret hx hb hr (by decide) (fun t ht hW => ⟨⟨(0), (), rfl, ⟨rfl, Or.inl rfl⟩, by rw [ht]; exact hP9, va_K.moved hW.alike hK9, hD9⟩, hS.F ht⟩) hS.2.2 dX3_sameBytes_97
          · skip
            have hr0 := Option.some.inj hsp
            clear hsp
            subst hr0
            have hP9 := hP.sub (ws' := [(h0, .inr (3, [.ref qf0, .int v1, .int v2, .int v3, .ref qf4, .ref qf5, .ref qf6, .int v7, .int v8, .int v9, .int v10, .ref qf11, .int v12, .ref qf13])), (qf0, .inl (cf0, nb, .inl f0)), (qa3, .inr (3, [.ref qfa3_0, .int va3_1, .int va3_2, .int va3_3, .ref qfa3_4, .ref qfa3_5, .ref qfa3_6, .int va3_7, .int va3_8, .int va3_9, .int va3_10, .ref qfa3_11, .int va3_12, .ref qfa3_13])), (qfa3_0, .inl (cfa3_0, nb, .inl fa3_0))]) [0, 1, 2, 3] rfl
            have hD9 := hD.sub (ws' := [(h0, .inr (3, [.ref qf0, .int v1, .int v2, .int v3, .ref qf4, .ref qf5, .ref qf6, .int v7, .int v8, .int v9, .int v10, .ref qf11, .int v12, .ref qf13])), (qf0, .inl (cf0, nb, .inl f0)), (qa3, .inr (3, [.ref qfa3_0, .int va3_1, .int va3_2, .int va3_3, .ref qfa3_4, .ref qfa3_5, .ref qfa3_6, .int va3_7, .int va3_8, .int va3_9, .int va3_10, .ref qfa3_11, .int va3_12, .ref qfa3_13])), (qfa3_0, .inl (cfa3_0, nb, .inl fa3_0))]) [0, 1, 2, 3] (by decide) rfl
            have hK9 := hK.sub (tys' := [(cf0, .byte), (cfa3_0, .byte)]) [0, 1] rfl
            exact W.zret hx hb hr (by decide) (fun t ht hW => ⟨⟨(1), (), rfl, ⟨rfl, Or.inr rfl⟩, by rw [ht]; exact hP9, va_K.moved hW.alike hK9, hD9⟩, hS.F ht⟩) hS.2.2 dX3_sameBytes_97
        · rw [if_neg c_8] at hsp
          refine lv_iload hx hb dX3_sameBytes_55 (lv_at hl 1 rfl) ?_
          refine lv_if_eq (tgt := 95) hx hb dX3_sameBytes_57 (by decide) (fun c_9 => ?_) (fun c_9 => ?_)
          · rw [if_pos c_9] at hsp
            refine lv_iload hx hb dX3_sameBytes_95 (lv_at hl 1 rfl) ?_
            rcases ox_01 hsp with ⟨rfl, hsp⟩ | ⟨rfl, hsp⟩
            · skip
              have hr0 := Option.some.inj hsp
              clear hsp
              subst hr0
              have hP9 := hP.sub (ws' := [(h0, .inr (3, [.ref qf0, .int v1, .int v2, .int v3, .ref qf4, .ref qf5, .ref qf6, .int v7, .int v8, .int v9, .int v10, .ref qf11, .int v12, .ref qf13])), (qf0, .inl (cf0, nb, .inl f0)), (qa3, .inr (3, [.ref qfa3_0, .int va3_1, .int va3_2, .int va3_3, .ref qfa3_4, .ref qfa3_5, .ref qfa3_6, .int va3_7, .int va3_8, .int va3_9, .int va3_10, .ref qfa3_11, .int va3_12, .ref qfa3_13])), (qfa3_0, .inl (cfa3_0, nb, .inl fa3_0))]) [0, 1, 2, 3] rfl
              have hD9 := hD.sub (ws' := [(h0, .inr (3, [.ref qf0, .int v1, .int v2, .int v3, .ref qf4, .ref qf5, .ref qf6, .int v7, .int v8, .int v9, .int v10, .ref qf11, .int v12, .ref qf13])), (qf0, .inl (cf0, nb, .inl f0)), (qa3, .inr (3, [.ref qfa3_0, .int va3_1, .int va3_2, .int va3_3, .ref qfa3_4, .ref qfa3_5, .ref qfa3_6, .int va3_7, .int va3_8, .int va3_9, .int va3_10, .ref qfa3_11, .int va3_12, .ref qfa3_13])), (qfa3_0, .inl (cfa3_0, nb, .inl fa3_0))]) [0, 1, 2, 3] (by decide) rfl
              have hK9 := hK.sub (tys' := [(cf0, .byte), (cfa3_0, .byte)]) [0, 1] rfl
              exact W.zret hx hb hr (by decide) (fun t ht hW => ⟨⟨(0), (), rfl, ⟨rfl, Or.inl rfl⟩, by rw [ht]; exact hP9, va_K.moved hW.alike hK9, hD9⟩, hS.F ht⟩) hS.2.2 dX3_sameBytes_97
            · skip
              have hr0 := Option.some.inj hsp
              clear hsp
              subst hr0
              have hP9 := hP.sub (ws' := [(h0, .inr (3, [.ref qf0, .int v1, .int v2, .int v3, .ref qf4, .ref qf5, .ref qf6, .int v7, .int v8, .int v9, .int v10, .ref qf11, .int v12, .ref qf13])), (qf0, .inl (cf0, nb, .inl f0)), (qa3, .inr (3, [.ref qfa3_0, .int va3_1, .int va3_2, .int va3_3, .ref qfa3_4, .ref qfa3_5, .ref qfa3_6, .int va3_7, .int va3_8, .int va3_9, .int va3_10, .ref qfa3_11, .int va3_12, .ref qfa3_13])), (qfa3_0, .inl (cfa3_0, nb, .inl fa3_0))]) [0, 1, 2, 3] rfl
              have hD9 := hD.sub (ws' := [(h0, .inr (3, [.ref qf0, .int v1, .int v2, .int v3, .ref qf4, .ref qf5, .ref qf6, .int v7, .int v8, .int v9, .int v10, .ref qf11, .int v12, .ref qf13])), (qf0, .inl (cf0, nb, .inl f0)), (qa3, .inr (3, [.ref qfa3_0, .int va3_1, .int va3_2, .int va3_3, .ref qfa3_4, .ref qfa3_5, .ref qfa3_6, .int va3_7, .int va3_8, .int va3_9, .int va3_10, .ref qfa3_11, .int va3_12, .ref qfa3_13])), (qfa3_0, .inl (cfa3_0, nb, .inl fa3_0))]) [0, 1, 2, 3] (by decide) rfl
              have hK9 := hK.sub (tys' := [(cf0, .byte), (cfa3_0, .byte)]) [0, 1] rfl
              exact W.zret hx hb hr (by decide) (fun t ht hW => ⟨⟨(1), (), rfl, ⟨rfl, Or.inr rfl⟩, by rw [ht]; exact hP9, va_K.moved hW.alike hK9, hD9⟩, hS.F ht⟩) hS.2.2 dX3_sameBytes_97
          · rw [if_neg c_9] at hsp
            refine lv_aload_n hx hb dX3_sameBytes_60 rfl (lv_at hl 2 rfl) ?_
            refine va_get (D := (dC, dI)) (ci := 3) (v := .ref qf0) (C := RX3) (T := TX3) (N := 14) hx hb hts uV_h3_X3 hown hK hP 0 rfl rfl 0 (by decide) (hts (.fieldLink RX3 9 "ClassMill$Image" "bytes" "[B") mw_h3_24) (fun _ h9 => h9) rfl dX3_sameBytes_61 ?_
            refine lv_iload_n hx hb dX3_sameBytes_64 rfl (lv_at hl 3 rfl) ?_
            refine lv_iload hx hb dX3_sameBytes_65 (lv_at hl 0 rfl) ?_
            refine lv_iadd hx hb dX3_sameBytes_67 ?_
            obtain ⟨hi_10, hsp⟩ := ox_in hsp
            refine va_bald hx hb hK hP 1 0 rfl rfl (i := (l1_47 + l7_47)) hi_10 dX3_sameBytes_68 ?_
            refine lv_aload_n hx hb dX3_sameBytes_69 rfl (lv_at hl 5 rfl) ?_
            refine va_get (D := (dC, dI)) (ci := 3) (v := .ref qfa3_0) (C := RX3) (T := TX3) (N := 14) hx hb hts uV_h3_X3 hown hK hP 2 rfl rfl 0 (by decide) (hts (.fieldLink RX3 9 "ClassMill$Image" "bytes" "[B") mw_h3_24) (fun _ h9 => h9) rfl dX3_sameBytes_70 ?_
            refine lv_iload hx hb dX3_sameBytes_73 (lv_at hl 6 rfl) ?_
            refine lv_iload hx hb dX3_sameBytes_75 (lv_at hl 0 rfl) ?_
            refine lv_iadd hx hb dX3_sameBytes_77 ?_
            obtain ⟨hi_11, hsp⟩ := ox_in hsp
            refine va_bald hx hb hK hP 3 1 rfl rfl (i := (l4_47 + l7_47)) hi_11 dX3_sameBytes_78 ?_
            refine lv_icmp_ne (tgt := 86) hx hb dX3_sameBytes_79 (by decide) (fun c_12 => ?_) (fun c_12 => ?_)
            · rw [if_neg c_12] at hsp
              refine lv_iconst (v := 0) hx hb dX3_sameBytes_86 (by decide) ?_
              refine lv_istore (lv' := [(6, .int 0), (7, .int l7_47), (0, .ref h0), (1, .int l1_47), (2, .int l2_47), (3, .ref qa3), (4, .int l4_47), (5, .int l5_47)]) hx hb dX3_sameBytes_87 hl (by decide) rfl (fun ls hl => ?_)
              refine lv_iinc (v := (l7_47 + 1)) (lv' := [(7, .int (l7_47 + 1)), (6, .int 0), (0, .ref h0), (1, .int l1_47), (2, .int l2_47), (3, .ref qa3), (4, .int l4_47), (5, .int l5_47)]) hx hb dX3_sameBytes_89 hl (k := 1) rfl rfl (by decide) rfl (fun ls hl => ?_)
              refine lv_goto (tgt := 47) hx hb dX3_sameBytes_92 (by decide) ?_
              exact ih_47 H locs ls l1_47 l2_47 l4_47 l5_47 0 (l7_47 + 1) (lv_sub hl [0, 1, 2, 3, 4, 5, 6, 7] rfl) hS (hD.sub (ws' := [(h0, .inr (3, [.ref qf0, .int v1, .int v2, .int v3, .ref qf4, .ref qf5, .ref qf6, .int v7, .int v8, .int v9, .int v10, .ref qf11, .int v12, .ref qf13])), (qf0, .inl (cf0, nb, .inl f0)), (qa3, .inr (3, [.ref qfa3_0, .int va3_1, .int va3_2, .int va3_3, .ref qfa3_4, .ref qfa3_5, .ref qfa3_6, .int va3_7, .int va3_8, .int va3_9, .int va3_10, .ref qfa3_11, .int va3_12, .ref qfa3_13])), (qfa3_0, .inl (cfa3_0, nb, .inl fa3_0))]) [0, 1, 2, 3] (by decide) rfl) (hP.sub (ws' := [(h0, .inr (3, [.ref qf0, .int v1, .int v2, .int v3, .ref qf4, .ref qf5, .ref qf6, .int v7, .int v8, .int v9, .int v10, .ref qf11, .int v12, .ref qf13])), (qf0, .inl (cf0, nb, .inl f0)), (qa3, .inr (3, [.ref qfa3_0, .int va3_1, .int va3_2, .int va3_3, .ref qfa3_4, .ref qfa3_5, .ref qfa3_6, .int va3_7, .int va3_8, .int va3_9, .int va3_10, .ref qfa3_11, .int va3_12, .ref qfa3_13])), (qfa3_0, .inl (cfa3_0, nb, .inl fa3_0))]) [0, 1, 2, 3] rfl) hsp
            · rw [if_pos c_12] at hsp
              refine lv_iconst (v := 1) hx hb dX3_sameBytes_82 (by decide) ?_
              refine lv_goto (tgt := 87) hx hb dX3_sameBytes_83 (by decide) ?_
              refine lv_istore (lv' := [(6, .int 1), (7, .int l7_47), (0, .ref h0), (1, .int l1_47), (2, .int l2_47), (3, .ref qa3), (4, .int l4_47), (5, .int l5_47)]) hx hb dX3_sameBytes_87 hl (by decide) rfl (fun ls hl => ?_)
              refine lv_iinc (v := (l7_47 + 1)) (lv' := [(7, .int (l7_47 + 1)), (6, .int 1), (0, .ref h0), (1, .int l1_47), (2, .int l2_47), (3, .ref qa3), (4, .int l4_47), (5, .int l5_47)]) hx hb dX3_sameBytes_89 hl (k := 1) rfl rfl (by decide) rfl (fun ls hl => ?_)
              refine lv_goto (tgt := 47) hx hb dX3_sameBytes_92 (by decide) ?_
              exact ih_47 H locs ls l1_47 l2_47 l4_47 l5_47 1 (l7_47 + 1) (lv_sub hl [0, 1, 2, 3, 4, 5, 6, 7] rfl) hS (hD.sub (ws' := [(h0, .inr (3, [.ref qf0, .int v1, .int v2, .int v3, .ref qf4, .ref qf5, .ref qf6, .int v7, .int v8, .int v9, .int v10, .ref qf11, .int v12, .ref qf13])), (qf0, .inl (cf0, nb, .inl f0)), (qa3, .inr (3, [.ref qfa3_0, .int va3_1, .int va3_2, .int va3_3, .ref qfa3_4, .ref qfa3_5, .ref qfa3_6, .int va3_7, .int va3_8, .int va3_9, .int va3_10, .ref qfa3_11, .int va3_12, .ref qfa3_13])), (qfa3_0, .inl (cfa3_0, nb, .inl fa3_0))]) [0, 1, 2, 3] (by decide) rfl) (hP.sub (ws' := [(h0, .inr (3, [.ref qf0, .int v1, .int v2, .int v3, .ref qf4, .ref qf5, .ref qf6, .int v7, .int v8, .int v9, .int v10, .ref qf11, .int v12, .ref qf13])), (qf0, .inl (cf0, nb, .inl f0)), (qa3, .inr (3, [.ref qfa3_0, .int va3_1, .int va3_2, .int va3_3, .ref qfa3_4, .ref qfa3_5, .ref qfa3_6, .int va3_7, .int va3_8, .int va3_9, .int va3_10, .ref qfa3_11, .int va3_12, .ref qfa3_13])), (qfa3_0, .inl (cfa3_0, nb, .inl fa3_0))]) [0, 1, 2, 3] rfl) hsp
    · rw [if_neg c_7] at hsp
      refine lv_iload_n hx hb dX3_sameBytes_15 rfl (lv_at hl 2 rfl) ?_
      refine lv_aload_n hx hb dX3_sameBytes_16 rfl (lv_at hl 0 rfl) ?_
      refine va_get (D := (dC, dI)) (ci := 3) (v := .int v1) (C := RX3) (T := TX3) (N := 14) hx hb hts uV_h3_X3 hown hK hP 0 rfl rfl 1 (by decide) (hts (.fieldLink RX3 39 "ClassMill$Image" "size" "I") mw_h3_25) (fun _ h9 => h9) rfl dX3_sameBytes_17 ?_
      refine lv_icmp_gt (tgt := 41) hx hb dX3_sameBytes_20 (by decide) (fun c_13 => ?_) (fun c_13 => ?_)
      · rw [if_pos c_13] at hsp
        refine lv_iconst (v := 0) hx hb dX3_sameBytes_41 (by decide) ?_
        refine lv_istore (lv' := [(6, .int 0), (0, .ref h0), (1, .int a1), (2, .int a2), (3, .ref qa3), (4, .int a4), (5, .int a5)]) hx hb dX3_sameBytes_42 hl (by decide) rfl (fun ls hl => ?_)
        refine lv_iconst (v := 0) hx hb dX3_sameBytes_44 (by decide) ?_
        refine lv_istore (lv' := [(7, .int 0), (6, .int 0), (0, .ref h0), (1, .int a1), (2, .int a2), (3, .ref qa3), (4, .int a4), (5, .int a5)]) hx hb dX3_sameBytes_45 hl (by decide) rfl (fun ls hl => ?_)
        replace hP := hP.sub (ws' := [(h0, .inr (3, [.ref qf0, .int v1, .int v2, .int v3, .ref qf4, .ref qf5, .ref qf6, .int v7, .int v8, .int v9, .int v10, .ref qf11, .int v12, .ref qf13])), (qf0, .inl (cf0, nb, .inl f0)), (qa3, .inr (3, [.ref qfa3_0, .int va3_1, .int va3_2, .int va3_3, .ref qfa3_4, .ref qfa3_5, .ref qfa3_6, .int va3_7, .int va3_8, .int va3_9, .int va3_10, .ref qfa3_11, .int va3_12, .ref qfa3_13])), (qfa3_0, .inl (cfa3_0, nb, .inl fa3_0))]) [0, 1, 2, 3] rfl
        replace hD := hD.sub (ws' := [(h0, .inr (3, [.ref qf0, .int v1, .int v2, .int v3, .ref qf4, .ref qf5, .ref qf6, .int v7, .int v8, .int v9, .int v10, .ref qf11, .int v12, .ref qf13])), (qf0, .inl (cf0, nb, .inl f0)), (qa3, .inr (3, [.ref qfa3_0, .int va3_1, .int va3_2, .int va3_3, .ref qfa3_4, .ref qfa3_5, .ref qfa3_6, .int va3_7, .int va3_8, .int va3_9, .int va3_10, .ref qfa3_11, .int va3_12, .ref qfa3_13])), (qfa3_0, .inl (cfa3_0, nb, .inl fa3_0))]) [0, 1, 2, 3] (by decide) rfl
        replace hK := hK.sub (tys' := [(cf0, .byte), (cfa3_0, .byte)]) [0, 1] rfl
        obtain ⟨n_47, hn_47⟩ : ∃ z : Nat, z = nf := ⟨_, rfl⟩
        obtain ⟨l1_47, el1_47⟩ : ∃ z : Int32, z = a1 := ⟨_, rfl⟩
        obtain ⟨l2_47, el2_47⟩ : ∃ z : Int32, z = a2 := ⟨_, rfl⟩
        obtain ⟨l4_47, el4_47⟩ : ∃ z : Int32, z = a4 := ⟨_, rfl⟩
        obtain ⟨l5_47, el5_47⟩ : ∃ z : Int32, z = a5 := ⟨_, rfl⟩
        obtain ⟨l6_47, el6_47⟩ : ∃ z : Int32, z = 0 := ⟨_, rfl⟩
        obtain ⟨l7_47, el7_47⟩ : ∃ z : Int32, z = 0 := ⟨_, rfl⟩
        replace hsp : lp_t3_sameBytes_47 nf n_47 a1 a2 a4 a5 v1 nb f0 va3_1 fa3_0 l1_47 l2_47 l4_47 l5_47 l6_47 l7_47 = some r0 := by rw [hn_47, el1_47, el2_47, el4_47, el5_47, el6_47, el7_47]; exact hsp
        replace hl : lv_has ls 8 [(7, .int l7_47), (6, .int l6_47), (0, .ref h0), (1, .int l1_47), (2, .int l2_47), (3, .ref qa3), (4, .int l4_47), (5, .int l5_47)] := by rw [el1_47, el2_47, el4_47, el5_47, el6_47, el7_47]; exact hl
        clear hn_47 el1_47 el2_47 el4_47 el5_47 el6_47 el7_47
        try clear hlo
        try clear hH
        revert hsp
        revert hP
        revert hD
        revert hS
        revert hl
        revert l7_47
        revert l6_47
        revert l5_47
        revert l4_47
        revert l2_47
        revert l1_47
        revert ls
        revert locs
        revert H
        induction n_47 with
        | zero => intro H locs ls l1_47 l2_47 l4_47 l5_47 l6_47 l7_47 hl hS hD hP hsp; unfold lp_t3_sameBytes_47 at hsp; cases hsp
        | succ n_47 ih_47 =>
          intro H locs ls l1_47 l2_47 l4_47 l5_47 l6_47 l7_47 hl hS hD hP hsp
          unfold lp_t3_sameBytes_47 at hsp
          try dsimp only at hsp
          refine lv_iload hx hb dX3_sameBytes_47 (lv_at hl 0 rfl) ?_
          refine lv_iload_n hx hb dX3_sameBytes_49 rfl (lv_at hl 4 rfl) ?_
          refine lv_iload_n hx hb dX3_sameBytes_50 rfl (lv_at hl 3 rfl) ?_
          refine lv_isub hx hb dX3_sameBytes_51 ?_
          refine lv_icmp_ge (tgt := 95) hx hb dX3_sameBytes_52 (by decide) (fun c_14 => ?_) (fun c_14 => ?_)
          · rw [if_pos c_14] at hsp
            refine lv_iload hx hb dX3_sameBytes_95 (lv_at hl 1 rfl) ?_
            rcases ox_01 hsp with ⟨rfl, hsp⟩ | ⟨rfl, hsp⟩
            · skip
              have hr0 := Option.some.inj hsp
              clear hsp
              subst hr0
              have hP9 := hP.sub (ws' := [(h0, .inr (3, [.ref qf0, .int v1, .int v2, .int v3, .ref qf4, .ref qf5, .ref qf6, .int v7, .int v8, .int v9, .int v10, .ref qf11, .int v12, .ref qf13])), (qf0, .inl (cf0, nb, .inl f0)), (qa3, .inr (3, [.ref qfa3_0, .int va3_1, .int va3_2, .int va3_3, .ref qfa3_4, .ref qfa3_5, .ref qfa3_6, .int va3_7, .int va3_8, .int va3_9, .int va3_10, .ref qfa3_11, .int va3_12, .ref qfa3_13])), (qfa3_0, .inl (cfa3_0, nb, .inl fa3_0))]) [0, 1, 2, 3] rfl
              have hD9 := hD.sub (ws' := [(h0, .inr (3, [.ref qf0, .int v1, .int v2, .int v3, .ref qf4, .ref qf5, .ref qf6, .int v7, .int v8, .int v9, .int v10, .ref qf11, .int v12, .ref qf13])), (qf0, .inl (cf0, nb, .inl f0)), (qa3, .inr (3, [.ref qfa3_0, .int va3_1, .int va3_2, .int va3_3, .ref qfa3_4, .ref qfa3_5, .ref qfa3_6, .int va3_7, .int va3_8, .int va3_9, .int va3_10, .ref qfa3_11, .int va3_12, .ref qfa3_13])), (qfa3_0, .inl (cfa3_0, nb, .inl fa3_0))]) [0, 1, 2, 3] (by decide) rfl
              have hK9 := hK.sub (tys' := [(cf0, .byte), (cfa3_0, .byte)]) [0, 1] rfl
              exact W.zret hx hb hr (by decide) (fun t ht hW => ⟨⟨(0), (), rfl, ⟨rfl, Or.inl rfl⟩, by rw [ht]; exact hP9, va_K.moved hW.alike hK9, hD9⟩, hS.F ht⟩) hS.2.2 dX3_sameBytes_97
            · skip
              have hr0 := Option.some.inj hsp
              clear hsp
              subst hr0
              have hP9 := hP.sub (ws' := [(h0, .inr (3, [.ref qf0, .int v1, .int v2, .int v3, .ref qf4, .ref qf5, .ref qf6, .int v7, .int v8, .int v9, .int v10, .ref qf11, .int v12, .ref qf13])), (qf0, .inl (cf0, nb, .inl f0)), (qa3, .inr (3, [.ref qfa3_0, .int va3_1, .int va3_2, .int va3_3, .ref qfa3_4, .ref qfa3_5, .ref qfa3_6, .int va3_7, .int va3_8, .int va3_9, .int va3_10, .ref qfa3_11, .int va3_12, .ref qfa3_13])), (qfa3_0, .inl (cfa3_0, nb, .inl fa3_0))]) [0, 1, 2, 3] rfl
              have hD9 := hD.sub (ws' := [(h0, .inr (3, [.ref qf0, .int v1, .int v2, .int v3, .ref qf4, .ref qf5, .ref qf6, .int v7, .int v8, .int v9, .int v10, .ref qf11, .int v12, .ref qf13])), (qf0, .inl (cf0, nb, .inl f0)), (qa3, .inr (3, [.ref qfa3_0, .int va3_1, .int va3_2, .int va3_3, .ref qfa3_4, .ref qfa3_5, .ref qfa3_6, .int va3_7, .int va3_8, .int va3_9, .int va3_10, .ref qfa3_11, .int va3_12, .ref qfa3_13])), (qfa3_0, .inl (cfa3_0, nb, .inl fa3_0))]) [0, 1, 2, 3] (by decide) rfl
              have hK9 := hK.sub (tys' := [(cf0, .byte), (cfa3_0, .byte)]) [0, 1] rfl
              exact W.zret hx hb hr (by decide) (fun t ht hW => ⟨⟨(1), (), rfl, ⟨rfl, Or.inr rfl⟩, by rw [ht]; exact hP9, va_K.moved hW.alike hK9, hD9⟩, hS.F ht⟩) hS.2.2 dX3_sameBytes_97
          · rw [if_neg c_14] at hsp
            refine lv_iload hx hb dX3_sameBytes_55 (lv_at hl 1 rfl) ?_
            refine lv_if_eq (tgt := 95) hx hb dX3_sameBytes_57 (by decide) (fun c_15 => ?_) (fun c_15 => ?_)
            · rw [if_pos c_15] at hsp
              refine lv_iload hx hb dX3_sameBytes_95 (lv_at hl 1 rfl) ?_
              rcases ox_01 hsp with ⟨rfl, hsp⟩ | ⟨rfl, hsp⟩
              · skip
                have hr0 := Option.some.inj hsp
                clear hsp
                subst hr0
                have hP9 := hP.sub (ws' := [(h0, .inr (3, [.ref qf0, .int v1, .int v2, .int v3, .ref qf4, .ref qf5, .ref qf6, .int v7, .int v8, .int v9, .int v10, .ref qf11, .int v12, .ref qf13])), (qf0, .inl (cf0, nb, .inl f0)), (qa3, .inr (3, [.ref qfa3_0, .int va3_1, .int va3_2, .int va3_3, .ref qfa3_4, .ref qfa3_5, .ref qfa3_6, .int va3_7, .int va3_8, .int va3_9, .int va3_10, .ref qfa3_11, .int va3_12, .ref qfa3_13])), (qfa3_0, .inl (cfa3_0, nb, .inl fa3_0))]) [0, 1, 2, 3] rfl
                have hD9 := hD.sub (ws' := [(h0, .inr (3, [.ref qf0, .int v1, .int v2, .int v3, .ref qf4, .ref qf5, .ref qf6, .int v7, .int v8, .int v9, .int v10, .ref qf11, .int v12, .ref qf13])), (qf0, .inl (cf0, nb, .inl f0)), (qa3, .inr (3, [.ref qfa3_0, .int va3_1, .int va3_2, .int va3_3, .ref qfa3_4, .ref qfa3_5, .ref qfa3_6, .int va3_7, .int va3_8, .int va3_9, .int va3_10, .ref qfa3_11, .int va3_12, .ref qfa3_13])), (qfa3_0, .inl (cfa3_0, nb, .inl fa3_0))]) [0, 1, 2, 3] (by decide) rfl
                have hK9 := hK.sub (tys' := [(cf0, .byte), (cfa3_0, .byte)]) [0, 1] rfl
                exact W.zret hx hb hr (by decide) (fun t ht hW => ⟨⟨(0), (), rfl, ⟨rfl, Or.inl rfl⟩, by rw [ht]; exact hP9, va_K.moved hW.alike hK9, hD9⟩, hS.F ht⟩) hS.2.2 dX3_sameBytes_97
              · skip
                have hr0 := Option.some.inj hsp
                clear hsp
                subst hr0
                have hP9 := hP.sub (ws' := [(h0, .inr (3, [.ref qf0, .int v1, .int v2, .int v3, .ref qf4, .ref qf5, .ref qf6, .int v7, .int v8, .int v9, .int v10, .ref qf11, .int v12, .ref qf13])), (qf0, .inl (cf0, nb, .inl f0)), (qa3, .inr (3, [.ref qfa3_0, .int va3_1, .int va3_2, .int va3_3, .ref qfa3_4, .ref qfa3_5, .ref qfa3_6, .int va3_7, .int va3_8, .int va3_9, .int va3_10, .ref qfa3_11, .int va3_12, .ref qfa3_13])), (qfa3_0, .inl (cfa3_0, nb, .inl fa3_0))]) [0, 1, 2, 3] rfl
                have hD9 := hD.sub (ws' := [(h0, .inr (3, [.ref qf0, .int v1, .int v2, .int v3, .ref qf4, .ref qf5, .ref qf6, .int v7, .int v8, .int v9, .int v10, .ref qf11, .int v12, .ref qf13])), (qf0, .inl (cf0, nb, .inl f0)), (qa3, .inr (3, [.ref qfa3_0, .int va3_1, .int va3_2, .int va3_3, .ref qfa3_4, .ref qfa3_5, .ref qfa3_6, .int va3_7, .int va3_8, .int va3_9, .int va3_10, .ref qfa3_11, .int va3_12, .ref qfa3_13])), (qfa3_0, .inl (cfa3_0, nb, .inl fa3_0))]) [0, 1, 2, 3] (by decide) rfl
                have hK9 := hK.sub (tys' := [(cf0, .byte), (cfa3_0, .byte)]) [0, 1] rfl
                exact W.zret hx hb hr (by decide) (fun t ht hW => ⟨⟨(1), (), rfl, ⟨rfl, Or.inr rfl⟩, by rw [ht]; exact hP9, va_K.moved hW.alike hK9, hD9⟩, hS.F ht⟩) hS.2.2 dX3_sameBytes_97
            · rw [if_neg c_15] at hsp
              refine lv_aload_n hx hb dX3_sameBytes_60 rfl (lv_at hl 2 rfl) ?_
              refine va_get (D := (dC, dI)) (ci := 3) (v := .ref qf0) (C := RX3) (T := TX3) (N := 14) hx hb hts uV_h3_X3 hown hK hP 0 rfl rfl 0 (by decide) (hts (.fieldLink RX3 9 "ClassMill$Image" "bytes" "[B") mw_h3_24) (fun _ h9 => h9) rfl dX3_sameBytes_61 ?_
              refine lv_iload_n hx hb dX3_sameBytes_64 rfl (lv_at hl 3 rfl) ?_
              refine lv_iload hx hb dX3_sameBytes_65 (lv_at hl 0 rfl) ?_
              refine lv_iadd hx hb dX3_sameBytes_67 ?_
              obtain ⟨hi_16, hsp⟩ := ox_in hsp
              refine va_bald hx hb hK hP 1 0 rfl rfl (i := (l1_47 + l7_47)) hi_16 dX3_sameBytes_68 ?_
              refine lv_aload_n hx hb dX3_sameBytes_69 rfl (lv_at hl 5 rfl) ?_
              refine va_get (D := (dC, dI)) (ci := 3) (v := .ref qfa3_0) (C := RX3) (T := TX3) (N := 14) hx hb hts uV_h3_X3 hown hK hP 2 rfl rfl 0 (by decide) (hts (.fieldLink RX3 9 "ClassMill$Image" "bytes" "[B") mw_h3_24) (fun _ h9 => h9) rfl dX3_sameBytes_70 ?_
              refine lv_iload hx hb dX3_sameBytes_73 (lv_at hl 6 rfl) ?_
              refine lv_iload hx hb dX3_sameBytes_75 (lv_at hl 0 rfl) ?_
              refine lv_iadd hx hb dX3_sameBytes_77 ?_
              obtain ⟨hi_17, hsp⟩ := ox_in hsp
              refine va_bald hx hb hK hP 3 1 rfl rfl (i := (l4_47 + l7_47)) hi_17 dX3_sameBytes_78 ?_
              refine lv_icmp_ne (tgt := 86) hx hb dX3_sameBytes_79 (by decide) (fun c_18 => ?_) (fun c_18 => ?_)
              · rw [if_neg c_18] at hsp
                refine lv_iconst (v := 0) hx hb dX3_sameBytes_86 (by decide) ?_
                refine lv_istore (lv' := [(6, .int 0), (7, .int l7_47), (0, .ref h0), (1, .int l1_47), (2, .int l2_47), (3, .ref qa3), (4, .int l4_47), (5, .int l5_47)]) hx hb dX3_sameBytes_87 hl (by decide) rfl (fun ls hl => ?_)
                refine lv_iinc (v := (l7_47 + 1)) (lv' := [(7, .int (l7_47 + 1)), (6, .int 0), (0, .ref h0), (1, .int l1_47), (2, .int l2_47), (3, .ref qa3), (4, .int l4_47), (5, .int l5_47)]) hx hb dX3_sameBytes_89 hl (k := 1) rfl rfl (by decide) rfl (fun ls hl => ?_)
                refine lv_goto (tgt := 47) hx hb dX3_sameBytes_92 (by decide) ?_
                exact ih_47 H locs ls l1_47 l2_47 l4_47 l5_47 0 (l7_47 + 1) (lv_sub hl [0, 1, 2, 3, 4, 5, 6, 7] rfl) hS (hD.sub (ws' := [(h0, .inr (3, [.ref qf0, .int v1, .int v2, .int v3, .ref qf4, .ref qf5, .ref qf6, .int v7, .int v8, .int v9, .int v10, .ref qf11, .int v12, .ref qf13])), (qf0, .inl (cf0, nb, .inl f0)), (qa3, .inr (3, [.ref qfa3_0, .int va3_1, .int va3_2, .int va3_3, .ref qfa3_4, .ref qfa3_5, .ref qfa3_6, .int va3_7, .int va3_8, .int va3_9, .int va3_10, .ref qfa3_11, .int va3_12, .ref qfa3_13])), (qfa3_0, .inl (cfa3_0, nb, .inl fa3_0))]) [0, 1, 2, 3] (by decide) rfl) (hP.sub (ws' := [(h0, .inr (3, [.ref qf0, .int v1, .int v2, .int v3, .ref qf4, .ref qf5, .ref qf6, .int v7, .int v8, .int v9, .int v10, .ref qf11, .int v12, .ref qf13])), (qf0, .inl (cf0, nb, .inl f0)), (qa3, .inr (3, [.ref qfa3_0, .int va3_1, .int va3_2, .int va3_3, .ref qfa3_4, .ref qfa3_5, .ref qfa3_6, .int va3_7, .int va3_8, .int va3_9, .int va3_10, .ref qfa3_11, .int va3_12, .ref qfa3_13])), (qfa3_0, .inl (cfa3_0, nb, .inl fa3_0))]) [0, 1, 2, 3] rfl) hsp
              · rw [if_pos c_18] at hsp
                refine lv_iconst (v := 1) hx hb dX3_sameBytes_82 (by decide) ?_
                refine lv_goto (tgt := 87) hx hb dX3_sameBytes_83 (by decide) ?_
                refine lv_istore (lv' := [(6, .int 1), (7, .int l7_47), (0, .ref h0), (1, .int l1_47), (2, .int l2_47), (3, .ref qa3), (4, .int l4_47), (5, .int l5_47)]) hx hb dX3_sameBytes_87 hl (by decide) rfl (fun ls hl => ?_)
                refine lv_iinc (v := (l7_47 + 1)) (lv' := [(7, .int (l7_47 + 1)), (6, .int 1), (0, .ref h0), (1, .int l1_47), (2, .int l2_47), (3, .ref qa3), (4, .int l4_47), (5, .int l5_47)]) hx hb dX3_sameBytes_89 hl (k := 1) rfl rfl (by decide) rfl (fun ls hl => ?_)
                refine lv_goto (tgt := 47) hx hb dX3_sameBytes_92 (by decide) ?_
                exact ih_47 H locs ls l1_47 l2_47 l4_47 l5_47 1 (l7_47 + 1) (lv_sub hl [0, 1, 2, 3, 4, 5, 6, 7] rfl) hS (hD.sub (ws' := [(h0, .inr (3, [.ref qf0, .int v1, .int v2, .int v3, .ref qf4, .ref qf5, .ref qf6, .int v7, .int v8, .int v9, .int v10, .ref qf11, .int v12, .ref qf13])), (qf0, .inl (cf0, nb, .inl f0)), (qa3, .inr (3, [.ref qfa3_0, .int va3_1, .int va3_2, .int va3_3, .ref qfa3_4, .ref qfa3_5, .ref qfa3_6, .int va3_7, .int va3_8, .int va3_9, .int va3_10, .ref qfa3_11, .int va3_12, .ref qfa3_13])), (qfa3_0, .inl (cfa3_0, nb, .inl fa3_0))]) [0, 1, 2, 3] (by decide) rfl) (hP.sub (ws' := [(h0, .inr (3, [.ref qf0, .int v1, .int v2, .int v3, .ref qf4, .ref qf5, .ref qf6, .int v7, .int v8, .int v9, .int v10, .ref qf11, .int v12, .ref qf13])), (qf0, .inl (cf0, nb, .inl f0)), (qa3, .inr (3, [.ref qfa3_0, .int va3_1, .int va3_2, .int va3_3, .ref qfa3_4, .ref qfa3_5, .ref qfa3_6, .int va3_7, .int va3_8, .int va3_9, .int va3_10, .ref qfa3_11, .int va3_12, .ref qfa3_13])), (qfa3_0, .inl (cfa3_0, nb, .inl fa3_0))]) [0, 1, 2, 3] rfl) hsp
      · rw [if_neg c_13] at hsp
        refine lv_iload hx hb dX3_sameBytes_23 (lv_at hl 4 rfl) ?_
        refine lv_if_lt (tgt := 41) hx hb dX3_sameBytes_25 (by decide) (fun c_19 => ?_) (fun c_19 => ?_)
        · rw [if_pos c_19] at hsp
          refine lv_iconst (v := 0) hx hb dX3_sameBytes_41 (by decide) ?_
          refine lv_istore (lv' := [(6, .int 0), (0, .ref h0), (1, .int a1), (2, .int a2), (3, .ref qa3), (4, .int a4), (5, .int a5)]) hx hb dX3_sameBytes_42 hl (by decide) rfl (fun ls hl => ?_)
          refine lv_iconst (v := 0) hx hb dX3_sameBytes_44 (by decide) ?_
          refine lv_istore (lv' := [(7, .int 0), (6, .int 0), (0, .ref h0), (1, .int a1), (2, .int a2), (3, .ref qa3), (4, .int a4), (5, .int a5)]) hx hb dX3_sameBytes_45 hl (by decide) rfl (fun ls hl => ?_)
          replace hP := hP.sub (ws' := [(h0, .inr (3, [.ref qf0, .int v1, .int v2, .int v3, .ref qf4, .ref qf5, .ref qf6, .int v7, .int v8, .int v9, .int v10, .ref qf11, .int v12, .ref qf13])), (qf0, .inl (cf0, nb, .inl f0)), (qa3, .inr (3, [.ref qfa3_0, .int va3_1, .int va3_2, .int va3_3, .ref qfa3_4, .ref qfa3_5, .ref qfa3_6, .int va3_7, .int va3_8, .int va3_9, .int va3_10, .ref qfa3_11, .int va3_12, .ref qfa3_13])), (qfa3_0, .inl (cfa3_0, nb, .inl fa3_0))]) [0, 1, 2, 3] rfl
          replace hD := hD.sub (ws' := [(h0, .inr (3, [.ref qf0, .int v1, .int v2, .int v3, .ref qf4, .ref qf5, .ref qf6, .int v7, .int v8, .int v9, .int v10, .ref qf11, .int v12, .ref qf13])), (qf0, .inl (cf0, nb, .inl f0)), (qa3, .inr (3, [.ref qfa3_0, .int va3_1, .int va3_2, .int va3_3, .ref qfa3_4, .ref qfa3_5, .ref qfa3_6, .int va3_7, .int va3_8, .int va3_9, .int va3_10, .ref qfa3_11, .int va3_12, .ref qfa3_13])), (qfa3_0, .inl (cfa3_0, nb, .inl fa3_0))]) [0, 1, 2, 3] (by decide) rfl
          replace hK := hK.sub (tys' := [(cf0, .byte), (cfa3_0, .byte)]) [0, 1] rfl
          obtain ⟨n_47, hn_47⟩ : ∃ z : Nat, z = nf := ⟨_, rfl⟩
          obtain ⟨l1_47, el1_47⟩ : ∃ z : Int32, z = a1 := ⟨_, rfl⟩
          obtain ⟨l2_47, el2_47⟩ : ∃ z : Int32, z = a2 := ⟨_, rfl⟩
          obtain ⟨l4_47, el4_47⟩ : ∃ z : Int32, z = a4 := ⟨_, rfl⟩
          obtain ⟨l5_47, el5_47⟩ : ∃ z : Int32, z = a5 := ⟨_, rfl⟩
          obtain ⟨l6_47, el6_47⟩ : ∃ z : Int32, z = 0 := ⟨_, rfl⟩
          obtain ⟨l7_47, el7_47⟩ : ∃ z : Int32, z = 0 := ⟨_, rfl⟩
          replace hsp : lp_t3_sameBytes_47 nf n_47 a1 a2 a4 a5 v1 nb f0 va3_1 fa3_0 l1_47 l2_47 l4_47 l5_47 l6_47 l7_47 = some r0 := by rw [hn_47, el1_47, el2_47, el4_47, el5_47, el6_47, el7_47]; exact hsp
          replace hl : lv_has ls 8 [(7, .int l7_47), (6, .int l6_47), (0, .ref h0), (1, .int l1_47), (2, .int l2_47), (3, .ref qa3), (4, .int l4_47), (5, .int l5_47)] := by rw [el1_47, el2_47, el4_47, el5_47, el6_47, el7_47]; exact hl
          clear hn_47 el1_47 el2_47 el4_47 el5_47 el6_47 el7_47
          try clear hlo
          try clear hH
          revert hsp
          revert hP
          revert hD
          revert hS
          revert hl
          revert l7_47
          revert l6_47
          revert l5_47
          revert l4_47
          revert l2_47
          revert l1_47
          revert ls
          revert locs
          revert H
          induction n_47 with
          | zero => intro H locs ls l1_47 l2_47 l4_47 l5_47 l6_47 l7_47 hl hS hD hP hsp; unfold lp_t3_sameBytes_47 at hsp; cases hsp
          | succ n_47 ih_47 =>
            intro H locs ls l1_47 l2_47 l4_47 l5_47 l6_47 l7_47 hl hS hD hP hsp
            unfold lp_t3_sameBytes_47 at hsp
            try dsimp only at hsp
            refine lv_iload hx hb dX3_sameBytes_47 (lv_at hl 0 rfl) ?_
            refine lv_iload_n hx hb dX3_sameBytes_49 rfl (lv_at hl 4 rfl) ?_
            refine lv_iload_n hx hb dX3_sameBytes_50 rfl (lv_at hl 3 rfl) ?_
            refine lv_isub hx hb dX3_sameBytes_51 ?_
            refine lv_icmp_ge (tgt := 95) hx hb dX3_sameBytes_52 (by decide) (fun c_20 => ?_) (fun c_20 => ?_)
            · rw [if_pos c_20] at hsp
              refine lv_iload hx hb dX3_sameBytes_95 (lv_at hl 1 rfl) ?_
              rcases ox_01 hsp with ⟨rfl, hsp⟩ | ⟨rfl, hsp⟩
              · skip
                have hr0 := Option.some.inj hsp
                clear hsp
                subst hr0
                have hP9 := hP.sub (ws' := [(h0, .inr (3, [.ref qf0, .int v1, .int v2, .int v3, .ref qf4, .ref qf5, .ref qf6, .int v7, .int v8, .int v9, .int v10, .ref qf11, .int v12, .ref qf13])), (qf0, .inl (cf0, nb, .inl f0)), (qa3, .inr (3, [.ref qfa3_0, .int va3_1, .int va3_2, .int va3_3, .ref qfa3_4, .ref qfa3_5, .ref qfa3_6, .int va3_7, .int va3_8, .int va3_9, .int va3_10, .ref qfa3_11, .int va3_12, .ref qfa3_13])), (qfa3_0, .inl (cfa3_0, nb, .inl fa3_0))]) [0, 1, 2, 3] rfl
                have hD9 := hD.sub (ws' := [(h0, .inr (3, [.ref qf0, .int v1, .int v2, .int v3, .ref qf4, .ref qf5, .ref qf6, .int v7, .int v8, .int v9, .int v10, .ref qf11, .int v12, .ref qf13])), (qf0, .inl (cf0, nb, .inl f0)), (qa3, .inr (3, [.ref qfa3_0, .int va3_1, .int va3_2, .int va3_3, .ref qfa3_4, .ref qfa3_5, .ref qfa3_6, .int va3_7, .int va3_8, .int va3_9, .int va3_10, .ref qfa3_11, .int va3_12, .ref qfa3_13])), (qfa3_0, .inl (cfa3_0, nb, .inl fa3_0))]) [0, 1, 2, 3] (by decide) rfl
                have hK9 := hK.sub (tys' := [(cf0, .byte), (cfa3_0, .byte)]) [0, 1] rfl
                exact W.zret hx hb hr (by decide) (fun t ht hW => ⟨⟨(0), (), rfl, ⟨rfl, Or.inl rfl⟩, by rw [ht]; exact hP9, va_K.moved hW.alike hK9, hD9⟩, hS.F ht⟩) hS.2.2 dX3_sameBytes_97
              · skip
                have hr0 := Option.some.inj hsp
                clear hsp
                subst hr0
                have hP9 := hP.sub (ws' := [(h0, .inr (3, [.ref qf0, .int v1, .int v2, .int v3, .ref qf4, .ref qf5, .ref qf6, .int v7, .int v8, .int v9, .int v10, .ref qf11, .int v12, .ref qf13])), (qf0, .inl (cf0, nb, .inl f0)), (qa3, .inr (3, [.ref qfa3_0, .int va3_1, .int va3_2, .int va3_3, .ref qfa3_4, .ref qfa3_5, .ref qfa3_6, .int va3_7, .int va3_8, .int va3_9, .int va3_10, .ref qfa3_11, .int va3_12, .ref qfa3_13])), (qfa3_0, .inl (cfa3_0, nb, .inl fa3_0))]) [0, 1, 2, 3] rfl
                have hD9 := hD.sub (ws' := [(h0, .inr (3, [.ref qf0, .int v1, .int v2, .int v3, .ref qf4, .ref qf5, .ref qf6, .int v7, .int v8, .int v9, .int v10, .ref qf11, .int v12, .ref qf13])), (qf0, .inl (cf0, nb, .inl f0)), (qa3, .inr (3, [.ref qfa3_0, .int va3_1, .int va3_2, .int va3_3, .ref qfa3_4, .ref qfa3_5, .ref qfa3_6, .int va3_7, .int va3_8, .int va3_9, .int va3_10, .ref qfa3_11, .int va3_12, .ref qfa3_13])), (qfa3_0, .inl (cfa3_0, nb, .inl fa3_0))]) [0, 1, 2, 3] (by decide) rfl
                have hK9 := hK.sub (tys' := [(cf0, .byte), (cfa3_0, .byte)]) [0, 1] rfl
                exact W.zret hx hb hr (by decide) (fun t ht hW => ⟨⟨(1), (), rfl, ⟨rfl, Or.inr rfl⟩, by rw [ht]; exact hP9, va_K.moved hW.alike hK9, hD9⟩, hS.F ht⟩) hS.2.2 dX3_sameBytes_97
            · rw [if_neg c_20] at hsp
              refine lv_iload hx hb dX3_sameBytes_55 (lv_at hl 1 rfl) ?_
              refine lv_if_eq (tgt := 95) hx hb dX3_sameBytes_57 (by decide) (fun c_21 => ?_) (fun c_21 => ?_)
              · rw [if_pos c_21] at hsp
                refine lv_iload hx hb dX3_sameBytes_95 (lv_at hl 1 rfl) ?_
                rcases ox_01 hsp with ⟨rfl, hsp⟩ | ⟨rfl, hsp⟩
                · skip
                  have hr0 := Option.some.inj hsp
                  clear hsp
                  subst hr0
                  have hP9 := hP.sub (ws' := [(h0, .inr (3, [.ref qf0, .int v1, .int v2, .int v3, .ref qf4, .ref qf5, .ref qf6, .int v7, .int v8, .int v9, .int v10, .ref qf11, .int v12, .ref qf13])), (qf0, .inl (cf0, nb, .inl f0)), (qa3, .inr (3, [.ref qfa3_0, .int va3_1, .int va3_2, .int va3_3, .ref qfa3_4, .ref qfa3_5, .ref qfa3_6, .int va3_7, .int va3_8, .int va3_9, .int va3_10, .ref qfa3_11, .int va3_12, .ref qfa3_13])), (qfa3_0, .inl (cfa3_0, nb, .inl fa3_0))]) [0, 1, 2, 3] rfl
                  have hD9 := hD.sub (ws' := [(h0, .inr (3, [.ref qf0, .int v1, .int v2, .int v3, .ref qf4, .ref qf5, .ref qf6, .int v7, .int v8, .int v9, .int v10, .ref qf11, .int v12, .ref qf13])), (qf0, .inl (cf0, nb, .inl f0)), (qa3, .inr (3, [.ref qfa3_0, .int va3_1, .int va3_2, .int va3_3, .ref qfa3_4, .ref qfa3_5, .ref qfa3_6, .int va3_7, .int va3_8, .int va3_9, .int va3_10, .ref qfa3_11, .int va3_12, .ref qfa3_13])), (qfa3_0, .inl (cfa3_0, nb, .inl fa3_0))]) [0, 1, 2, 3] (by decide) rfl
                  have hK9 := hK.sub (tys' := [(cf0, .byte), (cfa3_0, .byte)]) [0, 1] rfl
                  exact W.zret hx hb hr (by decide) (fun t ht hW => ⟨⟨(0), (), rfl, ⟨rfl, Or.inl rfl⟩, by rw [ht]; exact hP9, va_K.moved hW.alike hK9, hD9⟩, hS.F ht⟩) hS.2.2 dX3_sameBytes_97
                · skip
                  have hr0 := Option.some.inj hsp
                  clear hsp
                  subst hr0
                  have hP9 := hP.sub (ws' := [(h0, .inr (3, [.ref qf0, .int v1, .int v2, .int v3, .ref qf4, .ref qf5, .ref qf6, .int v7, .int v8, .int v9, .int v10, .ref qf11, .int v12, .ref qf13])), (qf0, .inl (cf0, nb, .inl f0)), (qa3, .inr (3, [.ref qfa3_0, .int va3_1, .int va3_2, .int va3_3, .ref qfa3_4, .ref qfa3_5, .ref qfa3_6, .int va3_7, .int va3_8, .int va3_9, .int va3_10, .ref qfa3_11, .int va3_12, .ref qfa3_13])), (qfa3_0, .inl (cfa3_0, nb, .inl fa3_0))]) [0, 1, 2, 3] rfl
                  have hD9 := hD.sub (ws' := [(h0, .inr (3, [.ref qf0, .int v1, .int v2, .int v3, .ref qf4, .ref qf5, .ref qf6, .int v7, .int v8, .int v9, .int v10, .ref qf11, .int v12, .ref qf13])), (qf0, .inl (cf0, nb, .inl f0)), (qa3, .inr (3, [.ref qfa3_0, .int va3_1, .int va3_2, .int va3_3, .ref qfa3_4, .ref qfa3_5, .ref qfa3_6, .int va3_7, .int va3_8, .int va3_9, .int va3_10, .ref qfa3_11, .int va3_12, .ref qfa3_13])), (qfa3_0, .inl (cfa3_0, nb, .inl fa3_0))]) [0, 1, 2, 3] (by decide) rfl
                  have hK9 := hK.sub (tys' := [(cf0, .byte), (cfa3_0, .byte)]) [0, 1] rfl
                  exact W.zret hx hb hr (by decide) (fun t ht hW => ⟨⟨(1), (), rfl, ⟨rfl, Or.inr rfl⟩, by rw [ht]; exact hP9, va_K.moved hW.alike hK9, hD9⟩, hS.F ht⟩) hS.2.2 dX3_sameBytes_97
              · rw [if_neg c_21] at hsp
                refine lv_aload_n hx hb dX3_sameBytes_60 rfl (lv_at hl 2 rfl) ?_
                refine va_get (D := (dC, dI)) (ci := 3) (v := .ref qf0) (C := RX3) (T := TX3) (N := 14) hx hb hts uV_h3_X3 hown hK hP 0 rfl rfl 0 (by decide) (hts (.fieldLink RX3 9 "ClassMill$Image" "bytes" "[B") mw_h3_24) (fun _ h9 => h9) rfl dX3_sameBytes_61 ?_
                refine lv_iload_n hx hb dX3_sameBytes_64 rfl (lv_at hl 3 rfl) ?_
                refine lv_iload hx hb dX3_sameBytes_65 (lv_at hl 0 rfl) ?_
                refine lv_iadd hx hb dX3_sameBytes_67 ?_
                obtain ⟨hi_22, hsp⟩ := ox_in hsp
                refine va_bald hx hb hK hP 1 0 rfl rfl (i := (l1_47 + l7_47)) hi_22 dX3_sameBytes_68 ?_
                refine lv_aload_n hx hb dX3_sameBytes_69 rfl (lv_at hl 5 rfl) ?_
                refine va_get (D := (dC, dI)) (ci := 3) (v := .ref qfa3_0) (C := RX3) (T := TX3) (N := 14) hx hb hts uV_h3_X3 hown hK hP 2 rfl rfl 0 (by decide) (hts (.fieldLink RX3 9 "ClassMill$Image" "bytes" "[B") mw_h3_24) (fun _ h9 => h9) rfl dX3_sameBytes_70 ?_
                refine lv_iload hx hb dX3_sameBytes_73 (lv_at hl 6 rfl) ?_
                refine lv_iload hx hb dX3_sameBytes_75 (lv_at hl 0 rfl) ?_
                refine lv_iadd hx hb dX3_sameBytes_77 ?_
                obtain ⟨hi_23, hsp⟩ := ox_in hsp
                refine va_bald hx hb hK hP 3 1 rfl rfl (i := (l4_47 + l7_47)) hi_23 dX3_sameBytes_78 ?_
                refine lv_icmp_ne (tgt := 86) hx hb dX3_sameBytes_79 (by decide) (fun c_24 => ?_) (fun c_24 => ?_)
                · rw [if_neg c_24] at hsp
                  refine lv_iconst (v := 0) hx hb dX3_sameBytes_86 (by decide) ?_
                  refine lv_istore (lv' := [(6, .int 0), (7, .int l7_47), (0, .ref h0), (1, .int l1_47), (2, .int l2_47), (3, .ref qa3), (4, .int l4_47), (5, .int l5_47)]) hx hb dX3_sameBytes_87 hl (by decide) rfl (fun ls hl => ?_)
                  refine lv_iinc (v := (l7_47 + 1)) (lv' := [(7, .int (l7_47 + 1)), (6, .int 0), (0, .ref h0), (1, .int l1_47), (2, .int l2_47), (3, .ref qa3), (4, .int l4_47), (5, .int l5_47)]) hx hb dX3_sameBytes_89 hl (k := 1) rfl rfl (by decide) rfl (fun ls hl => ?_)
                  refine lv_goto (tgt := 47) hx hb dX3_sameBytes_92 (by decide) ?_
                  exact ih_47 H locs ls l1_47 l2_47 l4_47 l5_47 0 (l7_47 + 1) (lv_sub hl [0, 1, 2, 3, 4, 5, 6, 7] rfl) hS (hD.sub (ws' := [(h0, .inr (3, [.ref qf0, .int v1, .int v2, .int v3, .ref qf4, .ref qf5, .ref qf6, .int v7, .int v8, .int v9, .int v10, .ref qf11, .int v12, .ref qf13])), (qf0, .inl (cf0, nb, .inl f0)), (qa3, .inr (3, [.ref qfa3_0, .int va3_1, .int va3_2, .int va3_3, .ref qfa3_4, .ref qfa3_5, .ref qfa3_6, .int va3_7, .int va3_8, .int va3_9, .int va3_10, .ref qfa3_11, .int va3_12, .ref qfa3_13])), (qfa3_0, .inl (cfa3_0, nb, .inl fa3_0))]) [0, 1, 2, 3] (by decide) rfl) (hP.sub (ws' := [(h0, .inr (3, [.ref qf0, .int v1, .int v2, .int v3, .ref qf4, .ref qf5, .ref qf6, .int v7, .int v8, .int v9, .int v10, .ref qf11, .int v12, .ref qf13])), (qf0, .inl (cf0, nb, .inl f0)), (qa3, .inr (3, [.ref qfa3_0, .int va3_1, .int va3_2, .int va3_3, .ref qfa3_4, .ref qfa3_5, .ref qfa3_6, .int va3_7, .int va3_8, .int va3_9, .int va3_10, .ref qfa3_11, .int va3_12, .ref qfa3_13])), (qfa3_0, .inl (cfa3_0, nb, .inl fa3_0))]) [0, 1, 2, 3] rfl) hsp
                · rw [if_pos c_24] at hsp
                  refine lv_iconst (v := 1) hx hb dX3_sameBytes_82 (by decide) ?_
                  refine lv_goto (tgt := 87) hx hb dX3_sameBytes_83 (by decide) ?_
                  refine lv_istore (lv' := [(6, .int 1), (7, .int l7_47), (0, .ref h0), (1, .int l1_47), (2, .int l2_47), (3, .ref qa3), (4, .int l4_47), (5, .int l5_47)]) hx hb dX3_sameBytes_87 hl (by decide) rfl (fun ls hl => ?_)
                  refine lv_iinc (v := (l7_47 + 1)) (lv' := [(7, .int (l7_47 + 1)), (6, .int 1), (0, .ref h0), (1, .int l1_47), (2, .int l2_47), (3, .ref qa3), (4, .int l4_47), (5, .int l5_47)]) hx hb dX3_sameBytes_89 hl (k := 1) rfl rfl (by decide) rfl (fun ls hl => ?_)
                  refine lv_goto (tgt := 47) hx hb dX3_sameBytes_92 (by decide) ?_
                  exact ih_47 H locs ls l1_47 l2_47 l4_47 l5_47 1 (l7_47 + 1) (lv_sub hl [0, 1, 2, 3, 4, 5, 6, 7] rfl) hS (hD.sub (ws' := [(h0, .inr (3, [.ref qf0, .int v1, .int v2, .int v3, .ref qf4, .ref qf5, .ref qf6, .int v7, .int v8, .int v9, .int v10, .ref qf11, .int v12, .ref qf13])), (qf0, .inl (cf0, nb, .inl f0)), (qa3, .inr (3, [.ref qfa3_0, .int va3_1, .int va3_2, .int va3_3, .ref qfa3_4, .ref qfa3_5, .ref qfa3_6, .int va3_7, .int va3_8, .int va3_9, .int va3_10, .ref qfa3_11, .int va3_12, .ref qfa3_13])), (qfa3_0, .inl (cfa3_0, nb, .inl fa3_0))]) [0, 1, 2, 3] (by decide) rfl) (hP.sub (ws' := [(h0, .inr (3, [.ref qf0, .int v1, .int v2, .int v3, .ref qf4, .ref qf5, .ref qf6, .int v7, .int v8, .int v9, .int v10, .ref qf11, .int v12, .ref qf13])), (qf0, .inl (cf0, nb, .inl f0)), (qa3, .inr (3, [.ref qfa3_0, .int va3_1, .int va3_2, .int va3_3, .ref qfa3_4, .ref qfa3_5, .ref qfa3_6, .int va3_7, .int va3_8, .int va3_9, .int va3_10, .ref qfa3_11, .int va3_12, .ref qfa3_13])), (qfa3_0, .inl (cfa3_0, nb, .inl fa3_0))]) [0, 1, 2, 3] rfl) hsp
        · rw [if_neg c_19] at hsp
          refine lv_iload hx hb dX3_sameBytes_28 (lv_at hl 5 rfl) ?_
          refine lv_aload_n hx hb dX3_sameBytes_30 rfl (lv_at hl 3 rfl) ?_
          refine va_get (D := (dC, dI)) (ci := 3) (v := .int va3_1) (C := RX3) (T := TX3) (N := 14) hx hb hts uV_h3_X3 hown hK hP 2 rfl rfl 1 (by decide) (hts (.fieldLink RX3 39 "ClassMill$Image" "size" "I") mw_h3_25) (fun _ h9 => h9) rfl dX3_sameBytes_31 ?_
          refine lv_icmp_gt (tgt := 41) hx hb dX3_sameBytes_34 (by decide) (fun c_25 => ?_) (fun c_25 => ?_)
          · rw [if_pos c_25] at hsp
            refine lv_iconst (v := 0) hx hb dX3_sameBytes_41 (by decide) ?_
            refine lv_istore (lv' := [(6, .int 0), (0, .ref h0), (1, .int a1), (2, .int a2), (3, .ref qa3), (4, .int a4), (5, .int a5)]) hx hb dX3_sameBytes_42 hl (by decide) rfl (fun ls hl => ?_)
            refine lv_iconst (v := 0) hx hb dX3_sameBytes_44 (by decide) ?_
            refine lv_istore (lv' := [(7, .int 0), (6, .int 0), (0, .ref h0), (1, .int a1), (2, .int a2), (3, .ref qa3), (4, .int a4), (5, .int a5)]) hx hb dX3_sameBytes_45 hl (by decide) rfl (fun ls hl => ?_)
            replace hP := hP.sub (ws' := [(h0, .inr (3, [.ref qf0, .int v1, .int v2, .int v3, .ref qf4, .ref qf5, .ref qf6, .int v7, .int v8, .int v9, .int v10, .ref qf11, .int v12, .ref qf13])), (qf0, .inl (cf0, nb, .inl f0)), (qa3, .inr (3, [.ref qfa3_0, .int va3_1, .int va3_2, .int va3_3, .ref qfa3_4, .ref qfa3_5, .ref qfa3_6, .int va3_7, .int va3_8, .int va3_9, .int va3_10, .ref qfa3_11, .int va3_12, .ref qfa3_13])), (qfa3_0, .inl (cfa3_0, nb, .inl fa3_0))]) [0, 1, 2, 3] rfl
            replace hD := hD.sub (ws' := [(h0, .inr (3, [.ref qf0, .int v1, .int v2, .int v3, .ref qf4, .ref qf5, .ref qf6, .int v7, .int v8, .int v9, .int v10, .ref qf11, .int v12, .ref qf13])), (qf0, .inl (cf0, nb, .inl f0)), (qa3, .inr (3, [.ref qfa3_0, .int va3_1, .int va3_2, .int va3_3, .ref qfa3_4, .ref qfa3_5, .ref qfa3_6, .int va3_7, .int va3_8, .int va3_9, .int va3_10, .ref qfa3_11, .int va3_12, .ref qfa3_13])), (qfa3_0, .inl (cfa3_0, nb, .inl fa3_0))]) [0, 1, 2, 3] (by decide) rfl
            replace hK := hK.sub (tys' := [(cf0, .byte), (cfa3_0, .byte)]) [0, 1] rfl
            obtain ⟨n_47, hn_47⟩ : ∃ z : Nat, z = nf := ⟨_, rfl⟩
            obtain ⟨l1_47, el1_47⟩ : ∃ z : Int32, z = a1 := ⟨_, rfl⟩
            obtain ⟨l2_47, el2_47⟩ : ∃ z : Int32, z = a2 := ⟨_, rfl⟩
            obtain ⟨l4_47, el4_47⟩ : ∃ z : Int32, z = a4 := ⟨_, rfl⟩
            obtain ⟨l5_47, el5_47⟩ : ∃ z : Int32, z = a5 := ⟨_, rfl⟩
            obtain ⟨l6_47, el6_47⟩ : ∃ z : Int32, z = 0 := ⟨_, rfl⟩
            obtain ⟨l7_47, el7_47⟩ : ∃ z : Int32, z = 0 := ⟨_, rfl⟩
            replace hsp : lp_t3_sameBytes_47 nf n_47 a1 a2 a4 a5 v1 nb f0 va3_1 fa3_0 l1_47 l2_47 l4_47 l5_47 l6_47 l7_47 = some r0 := by rw [hn_47, el1_47, el2_47, el4_47, el5_47, el6_47, el7_47]; exact hsp
            replace hl : lv_has ls 8 [(7, .int l7_47), (6, .int l6_47), (0, .ref h0), (1, .int l1_47), (2, .int l2_47), (3, .ref qa3), (4, .int l4_47), (5, .int l5_47)] := by rw [el1_47, el2_47, el4_47, el5_47, el6_47, el7_47]; exact hl
            clear hn_47 el1_47 el2_47 el4_47 el5_47 el6_47 el7_47
            try clear hlo
            try clear hH
            revert hsp
            revert hP
            revert hD
            revert hS
            revert hl
            revert l7_47
            revert l6_47
            revert l5_47
            revert l4_47
            revert l2_47
            revert l1_47
            revert ls
            revert locs
            revert H
            induction n_47 with
            | zero => intro H locs ls l1_47 l2_47 l4_47 l5_47 l6_47 l7_47 hl hS hD hP hsp; unfold lp_t3_sameBytes_47 at hsp; cases hsp
            | succ n_47 ih_47 =>
              intro H locs ls l1_47 l2_47 l4_47 l5_47 l6_47 l7_47 hl hS hD hP hsp
              unfold lp_t3_sameBytes_47 at hsp
              try dsimp only at hsp
              refine lv_iload hx hb dX3_sameBytes_47 (lv_at hl 0 rfl) ?_
              refine lv_iload_n hx hb dX3_sameBytes_49 rfl (lv_at hl 4 rfl) ?_
              refine lv_iload_n hx hb dX3_sameBytes_50 rfl (lv_at hl 3 rfl) ?_
              refine lv_isub hx hb dX3_sameBytes_51 ?_
              refine lv_icmp_ge (tgt := 95) hx hb dX3_sameBytes_52 (by decide) (fun c_26 => ?_) (fun c_26 => ?_)
              · rw [if_pos c_26] at hsp
                refine lv_iload hx hb dX3_sameBytes_95 (lv_at hl 1 rfl) ?_
                rcases ox_01 hsp with ⟨rfl, hsp⟩ | ⟨rfl, hsp⟩
                · skip
                  have hr0 := Option.some.inj hsp
                  clear hsp
                  subst hr0
                  have hP9 := hP.sub (ws' := [(h0, .inr (3, [.ref qf0, .int v1, .int v2, .int v3, .ref qf4, .ref qf5, .ref qf6, .int v7, .int v8, .int v9, .int v10, .ref qf11, .int v12, .ref qf13])), (qf0, .inl (cf0, nb, .inl f0)), (qa3, .inr (3, [.ref qfa3_0, .int va3_1, .int va3_2, .int va3_3, .ref qfa3_4, .ref qfa3_5, .ref qfa3_6, .int va3_7, .int va3_8, .int va3_9, .int va3_10, .ref qfa3_11, .int va3_12, .ref qfa3_13])), (qfa3_0, .inl (cfa3_0, nb, .inl fa3_0))]) [0, 1, 2, 3] rfl
                  have hD9 := hD.sub (ws' := [(h0, .inr (3, [.ref qf0, .int v1, .int v2, .int v3, .ref qf4, .ref qf5, .ref qf6, .int v7, .int v8, .int v9, .int v10, .ref qf11, .int v12, .ref qf13])), (qf0, .inl (cf0, nb, .inl f0)), (qa3, .inr (3, [.ref qfa3_0, .int va3_1, .int va3_2, .int va3_3, .ref qfa3_4, .ref qfa3_5, .ref qfa3_6, .int va3_7, .int va3_8, .int va3_9, .int va3_10, .ref qfa3_11, .int va3_12, .ref qfa3_13])), (qfa3_0, .inl (cfa3_0, nb, .inl fa3_0))]) [0, 1, 2, 3] (by decide) rfl
                  have hK9 := hK.sub (tys' := [(cf0, .byte), (cfa3_0, .byte)]) [0, 1] rfl
                  exact W.zret hx hb hr (by decide) (fun t ht hW => ⟨⟨(0), (), rfl, ⟨rfl, Or.inl rfl⟩, by rw [ht]; exact hP9, va_K.moved hW.alike hK9, hD9⟩, hS.F ht⟩) hS.2.2 dX3_sameBytes_97
                · skip
                  have hr0 := Option.some.inj hsp
                  clear hsp
                  subst hr0
                  have hP9 := hP.sub (ws' := [(h0, .inr (3, [.ref qf0, .int v1, .int v2, .int v3, .ref qf4, .ref qf5, .ref qf6, .int v7, .int v8, .int v9, .int v10, .ref qf11, .int v12, .ref qf13])), (qf0, .inl (cf0, nb, .inl f0)), (qa3, .inr (3, [.ref qfa3_0, .int va3_1, .int va3_2, .int va3_3, .ref qfa3_4, .ref qfa3_5, .ref qfa3_6, .int va3_7, .int va3_8, .int va3_9, .int va3_10, .ref qfa3_11, .int va3_12, .ref qfa3_13])), (qfa3_0, .inl (cfa3_0, nb, .inl fa3_0))]) [0, 1, 2, 3] rfl
                  have hD9 := hD.sub (ws' := [(h0, .inr (3, [.ref qf0, .int v1, .int v2, .int v3, .ref qf4, .ref qf5, .ref qf6, .int v7, .int v8, .int v9, .int v10, .ref qf11, .int v12, .ref qf13])), (qf0, .inl (cf0, nb, .inl f0)), (qa3, .inr (3, [.ref qfa3_0, .int va3_1, .int va3_2, .int va3_3, .ref qfa3_4, .ref qfa3_5, .ref qfa3_6, .int va3_7, .int va3_8, .int va3_9, .int va3_10, .ref qfa3_11, .int va3_12, .ref qfa3_13])), (qfa3_0, .inl (cfa3_0, nb, .inl fa3_0))]) [0, 1, 2, 3] (by decide) rfl
                  have hK9 := hK.sub (tys' := [(cf0, .byte), (cfa3_0, .byte)]) [0, 1] rfl
                  exact W.zret hx hb hr (by decide) (fun t ht hW => ⟨⟨(1), (), rfl, ⟨rfl, Or.inr rfl⟩, by rw [ht]; exact hP9, va_K.moved hW.alike hK9, hD9⟩, hS.F ht⟩) hS.2.2 dX3_sameBytes_97
              · rw [if_neg c_26] at hsp
                refine lv_iload hx hb dX3_sameBytes_55 (lv_at hl 1 rfl) ?_
                refine lv_if_eq (tgt := 95) hx hb dX3_sameBytes_57 (by decide) (fun c_27 => ?_) (fun c_27 => ?_)
                · rw [if_pos c_27] at hsp
                  refine lv_iload hx hb dX3_sameBytes_95 (lv_at hl 1 rfl) ?_
                  rcases ox_01 hsp with ⟨rfl, hsp⟩ | ⟨rfl, hsp⟩
                  · skip
                    have hr0 := Option.some.inj hsp
                    clear hsp
                    subst hr0
                    have hP9 := hP.sub (ws' := [(h0, .inr (3, [.ref qf0, .int v1, .int v2, .int v3, .ref qf4, .ref qf5, .ref qf6, .int v7, .int v8, .int v9, .int v10, .ref qf11, .int v12, .ref qf13])), (qf0, .inl (cf0, nb, .inl f0)), (qa3, .inr (3, [.ref qfa3_0, .int va3_1, .int va3_2, .int va3_3, .ref qfa3_4, .ref qfa3_5, .ref qfa3_6, .int va3_7, .int va3_8, .int va3_9, .int va3_10, .ref qfa3_11, .int va3_12, .ref qfa3_13])), (qfa3_0, .inl (cfa3_0, nb, .inl fa3_0))]) [0, 1, 2, 3] rfl
                    have hD9 := hD.sub (ws' := [(h0, .inr (3, [.ref qf0, .int v1, .int v2, .int v3, .ref qf4, .ref qf5, .ref qf6, .int v7, .int v8, .int v9, .int v10, .ref qf11, .int v12, .ref qf13])), (qf0, .inl (cf0, nb, .inl f0)), (qa3, .inr (3, [.ref qfa3_0, .int va3_1, .int va3_2, .int va3_3, .ref qfa3_4, .ref qfa3_5, .ref qfa3_6, .int va3_7, .int va3_8, .int va3_9, .int va3_10, .ref qfa3_11, .int va3_12, .ref qfa3_13])), (qfa3_0, .inl (cfa3_0, nb, .inl fa3_0))]) [0, 1, 2, 3] (by decide) rfl
                    have hK9 := hK.sub (tys' := [(cf0, .byte), (cfa3_0, .byte)]) [0, 1] rfl
                    exact W.zret hx hb hr (by decide) (fun t ht hW => ⟨⟨(0), (), rfl, ⟨rfl, Or.inl rfl⟩, by rw [ht]; exact hP9, va_K.moved hW.alike hK9, hD9⟩, hS.F ht⟩) hS.2.2 dX3_sameBytes_97
                  · skip
                    have hr0 := Option.some.inj hsp
                    clear hsp
                    subst hr0
                    have hP9 := hP.sub (ws' := [(h0, .inr (3, [.ref qf0, .int v1, .int v2, .int v3, .ref qf4, .ref qf5, .ref qf6, .int v7, .int v8, .int v9, .int v10, .ref qf11, .int v12, .ref qf13])), (qf0, .inl (cf0, nb, .inl f0)), (qa3, .inr (3, [.ref qfa3_0, .int va3_1, .int va3_2, .int va3_3, .ref qfa3_4, .ref qfa3_5, .ref qfa3_6, .int va3_7, .int va3_8, .int va3_9, .int va3_10, .ref qfa3_11, .int va3_12, .ref qfa3_13])), (qfa3_0, .inl (cfa3_0, nb, .inl fa3_0))]) [0, 1, 2, 3] rfl
                    have hD9 := hD.sub (ws' := [(h0, .inr (3, [.ref qf0, .int v1, .int v2, .int v3, .ref qf4, .ref qf5, .ref qf6, .int v7, .int v8, .int v9, .int v10, .ref qf11, .int v12, .ref qf13])), (qf0, .inl (cf0, nb, .inl f0)), (qa3, .inr (3, [.ref qfa3_0, .int va3_1, .int va3_2, .int va3_3, .ref qfa3_4, .ref qfa3_5, .ref qfa3_6, .int va3_7, .int va3_8, .int va3_9, .int va3_10, .ref qfa3_11, .int va3_12, .ref qfa3_13])), (qfa3_0, .inl (cfa3_0, nb, .inl fa3_0))]) [0, 1, 2, 3] (by decide) rfl
                    have hK9 := hK.sub (tys' := [(cf0, .byte), (cfa3_0, .byte)]) [0, 1] rfl
                    exact W.zret hx hb hr (by decide) (fun t ht hW => ⟨⟨(1), (), rfl, ⟨rfl, Or.inr rfl⟩, by rw [ht]; exact hP9, va_K.moved hW.alike hK9, hD9⟩, hS.F ht⟩) hS.2.2 dX3_sameBytes_97
                · rw [if_neg c_27] at hsp
                  refine lv_aload_n hx hb dX3_sameBytes_60 rfl (lv_at hl 2 rfl) ?_
                  refine va_get (D := (dC, dI)) (ci := 3) (v := .ref qf0) (C := RX3) (T := TX3) (N := 14) hx hb hts uV_h3_X3 hown hK hP 0 rfl rfl 0 (by decide) (hts (.fieldLink RX3 9 "ClassMill$Image" "bytes" "[B") mw_h3_24) (fun _ h9 => h9) rfl dX3_sameBytes_61 ?_
                  refine lv_iload_n hx hb dX3_sameBytes_64 rfl (lv_at hl 3 rfl) ?_
                  refine lv_iload hx hb dX3_sameBytes_65 (lv_at hl 0 rfl) ?_
                  refine lv_iadd hx hb dX3_sameBytes_67 ?_
                  obtain ⟨hi_28, hsp⟩ := ox_in hsp
                  refine va_bald hx hb hK hP 1 0 rfl rfl (i := (l1_47 + l7_47)) hi_28 dX3_sameBytes_68 ?_
                  refine lv_aload_n hx hb dX3_sameBytes_69 rfl (lv_at hl 5 rfl) ?_
                  refine va_get (D := (dC, dI)) (ci := 3) (v := .ref qfa3_0) (C := RX3) (T := TX3) (N := 14) hx hb hts uV_h3_X3 hown hK hP 2 rfl rfl 0 (by decide) (hts (.fieldLink RX3 9 "ClassMill$Image" "bytes" "[B") mw_h3_24) (fun _ h9 => h9) rfl dX3_sameBytes_70 ?_
                  refine lv_iload hx hb dX3_sameBytes_73 (lv_at hl 6 rfl) ?_
                  refine lv_iload hx hb dX3_sameBytes_75 (lv_at hl 0 rfl) ?_
                  refine lv_iadd hx hb dX3_sameBytes_77 ?_
                  obtain ⟨hi_29, hsp⟩ := ox_in hsp
                  refine va_bald hx hb hK hP 3 1 rfl rfl (i := (l4_47 + l7_47)) hi_29 dX3_sameBytes_78 ?_
                  refine lv_icmp_ne (tgt := 86) hx hb dX3_sameBytes_79 (by decide) (fun c_30 => ?_) (fun c_30 => ?_)
                  · rw [if_neg c_30] at hsp
                    refine lv_iconst (v := 0) hx hb dX3_sameBytes_86 (by decide) ?_
                    refine lv_istore (lv' := [(6, .int 0), (7, .int l7_47), (0, .ref h0), (1, .int l1_47), (2, .int l2_47), (3, .ref qa3), (4, .int l4_47), (5, .int l5_47)]) hx hb dX3_sameBytes_87 hl (by decide) rfl (fun ls hl => ?_)
                    refine lv_iinc (v := (l7_47 + 1)) (lv' := [(7, .int (l7_47 + 1)), (6, .int 0), (0, .ref h0), (1, .int l1_47), (2, .int l2_47), (3, .ref qa3), (4, .int l4_47), (5, .int l5_47)]) hx hb dX3_sameBytes_89 hl (k := 1) rfl rfl (by decide) rfl (fun ls hl => ?_)
                    refine lv_goto (tgt := 47) hx hb dX3_sameBytes_92 (by decide) ?_
                    exact ih_47 H locs ls l1_47 l2_47 l4_47 l5_47 0 (l7_47 + 1) (lv_sub hl [0, 1, 2, 3, 4, 5, 6, 7] rfl) hS (hD.sub (ws' := [(h0, .inr (3, [.ref qf0, .int v1, .int v2, .int v3, .ref qf4, .ref qf5, .ref qf6, .int v7, .int v8, .int v9, .int v10, .ref qf11, .int v12, .ref qf13])), (qf0, .inl (cf0, nb, .inl f0)), (qa3, .inr (3, [.ref qfa3_0, .int va3_1, .int va3_2, .int va3_3, .ref qfa3_4, .ref qfa3_5, .ref qfa3_6, .int va3_7, .int va3_8, .int va3_9, .int va3_10, .ref qfa3_11, .int va3_12, .ref qfa3_13])), (qfa3_0, .inl (cfa3_0, nb, .inl fa3_0))]) [0, 1, 2, 3] (by decide) rfl) (hP.sub (ws' := [(h0, .inr (3, [.ref qf0, .int v1, .int v2, .int v3, .ref qf4, .ref qf5, .ref qf6, .int v7, .int v8, .int v9, .int v10, .ref qf11, .int v12, .ref qf13])), (qf0, .inl (cf0, nb, .inl f0)), (qa3, .inr (3, [.ref qfa3_0, .int va3_1, .int va3_2, .int va3_3, .ref qfa3_4, .ref qfa3_5, .ref qfa3_6, .int va3_7, .int va3_8, .int va3_9, .int va3_10, .ref qfa3_11, .int va3_12, .ref qfa3_13])), (qfa3_0, .inl (cfa3_0, nb, .inl fa3_0))]) [0, 1, 2, 3] rfl) hsp
                  · rw [if_pos c_30] at hsp
                    refine lv_iconst (v := 1) hx hb dX3_sameBytes_82 (by decide) ?_
                    refine lv_goto (tgt := 87) hx hb dX3_sameBytes_83 (by decide) ?_
                    refine lv_istore (lv' := [(6, .int 1), (7, .int l7_47), (0, .ref h0), (1, .int l1_47), (2, .int l2_47), (3, .ref qa3), (4, .int l4_47), (5, .int l5_47)]) hx hb dX3_sameBytes_87 hl (by decide) rfl (fun ls hl => ?_)
                    refine lv_iinc (v := (l7_47 + 1)) (lv' := [(7, .int (l7_47 + 1)), (6, .int 1), (0, .ref h0), (1, .int l1_47), (2, .int l2_47), (3, .ref qa3), (4, .int l4_47), (5, .int l5_47)]) hx hb dX3_sameBytes_89 hl (k := 1) rfl rfl (by decide) rfl (fun ls hl => ?_)
                    refine lv_goto (tgt := 47) hx hb dX3_sameBytes_92 (by decide) ?_
                    exact ih_47 H locs ls l1_47 l2_47 l4_47 l5_47 1 (l7_47 + 1) (lv_sub hl [0, 1, 2, 3, 4, 5, 6, 7] rfl) hS (hD.sub (ws' := [(h0, .inr (3, [.ref qf0, .int v1, .int v2, .int v3, .ref qf4, .ref qf5, .ref qf6, .int v7, .int v8, .int v9, .int v10, .ref qf11, .int v12, .ref qf13])), (qf0, .inl (cf0, nb, .inl f0)), (qa3, .inr (3, [.ref qfa3_0, .int va3_1, .int va3_2, .int va3_3, .ref qfa3_4, .ref qfa3_5, .ref qfa3_6, .int va3_7, .int va3_8, .int va3_9, .int va3_10, .ref qfa3_11, .int va3_12, .ref qfa3_13])), (qfa3_0, .inl (cfa3_0, nb, .inl fa3_0))]) [0, 1, 2, 3] (by decide) rfl) (hP.sub (ws' := [(h0, .inr (3, [.ref qf0, .int v1, .int v2, .int v3, .ref qf4, .ref qf5, .ref qf6, .int v7, .int v8, .int v9, .int v10, .ref qf11, .int v12, .ref qf13])), (qf0, .inl (cf0, nb, .inl f0)), (qa3, .inr (3, [.ref qfa3_0, .int va3_1, .int va3_2, .int va3_3, .ref qfa3_4, .ref qfa3_5, .ref qfa3_6, .int va3_7, .int va3_8, .int va3_9, .int va3_10, .ref qfa3_11, .int va3_12, .ref qfa3_13])), (qfa3_0, .inl (cfa3_0, nb, .inl fa3_0))]) [0, 1, 2, 3] rfl) hsp
          · rw [if_neg c_25] at hsp
            refine lv_iconst (v := 1) hx hb dX3_sameBytes_37 (by decide) ?_
            refine lv_goto (tgt := 42) hx hb dX3_sameBytes_38 (by decide) ?_
            refine lv_istore (lv' := [(6, .int 1), (0, .ref h0), (1, .int a1), (2, .int a2), (3, .ref qa3), (4, .int a4), (5, .int a5)]) hx hb dX3_sameBytes_42 hl (by decide) rfl (fun ls hl => ?_)
            refine lv_iconst (v := 0) hx hb dX3_sameBytes_44 (by decide) ?_
            refine lv_istore (lv' := [(7, .int 0), (6, .int 1), (0, .ref h0), (1, .int a1), (2, .int a2), (3, .ref qa3), (4, .int a4), (5, .int a5)]) hx hb dX3_sameBytes_45 hl (by decide) rfl (fun ls hl => ?_)
            replace hP := hP.sub (ws' := [(h0, .inr (3, [.ref qf0, .int v1, .int v2, .int v3, .ref qf4, .ref qf5, .ref qf6, .int v7, .int v8, .int v9, .int v10, .ref qf11, .int v12, .ref qf13])), (qf0, .inl (cf0, nb, .inl f0)), (qa3, .inr (3, [.ref qfa3_0, .int va3_1, .int va3_2, .int va3_3, .ref qfa3_4, .ref qfa3_5, .ref qfa3_6, .int va3_7, .int va3_8, .int va3_9, .int va3_10, .ref qfa3_11, .int va3_12, .ref qfa3_13])), (qfa3_0, .inl (cfa3_0, nb, .inl fa3_0))]) [0, 1, 2, 3] rfl
            replace hD := hD.sub (ws' := [(h0, .inr (3, [.ref qf0, .int v1, .int v2, .int v3, .ref qf4, .ref qf5, .ref qf6, .int v7, .int v8, .int v9, .int v10, .ref qf11, .int v12, .ref qf13])), (qf0, .inl (cf0, nb, .inl f0)), (qa3, .inr (3, [.ref qfa3_0, .int va3_1, .int va3_2, .int va3_3, .ref qfa3_4, .ref qfa3_5, .ref qfa3_6, .int va3_7, .int va3_8, .int va3_9, .int va3_10, .ref qfa3_11, .int va3_12, .ref qfa3_13])), (qfa3_0, .inl (cfa3_0, nb, .inl fa3_0))]) [0, 1, 2, 3] (by decide) rfl
            replace hK := hK.sub (tys' := [(cf0, .byte), (cfa3_0, .byte)]) [0, 1] rfl
            obtain ⟨n_47, hn_47⟩ : ∃ z : Nat, z = nf := ⟨_, rfl⟩
            obtain ⟨l1_47, el1_47⟩ : ∃ z : Int32, z = a1 := ⟨_, rfl⟩
            obtain ⟨l2_47, el2_47⟩ : ∃ z : Int32, z = a2 := ⟨_, rfl⟩
            obtain ⟨l4_47, el4_47⟩ : ∃ z : Int32, z = a4 := ⟨_, rfl⟩
            obtain ⟨l5_47, el5_47⟩ : ∃ z : Int32, z = a5 := ⟨_, rfl⟩
            obtain ⟨l6_47, el6_47⟩ : ∃ z : Int32, z = 1 := ⟨_, rfl⟩
            obtain ⟨l7_47, el7_47⟩ : ∃ z : Int32, z = 0 := ⟨_, rfl⟩
            replace hsp : lp_t3_sameBytes_47 nf n_47 a1 a2 a4 a5 v1 nb f0 va3_1 fa3_0 l1_47 l2_47 l4_47 l5_47 l6_47 l7_47 = some r0 := by rw [hn_47, el1_47, el2_47, el4_47, el5_47, el6_47, el7_47]; exact hsp
            replace hl : lv_has ls 8 [(7, .int l7_47), (6, .int l6_47), (0, .ref h0), (1, .int l1_47), (2, .int l2_47), (3, .ref qa3), (4, .int l4_47), (5, .int l5_47)] := by rw [el1_47, el2_47, el4_47, el5_47, el6_47, el7_47]; exact hl
            clear hn_47 el1_47 el2_47 el4_47 el5_47 el6_47 el7_47
            try clear hlo
            try clear hH
            revert hsp
            revert hP
            revert hD
            revert hS
            revert hl
            revert l7_47
            revert l6_47
            revert l5_47
            revert l4_47
            revert l2_47
            revert l1_47
            revert ls
            revert locs
            revert H
            induction n_47 with
            | zero => intro H locs ls l1_47 l2_47 l4_47 l5_47 l6_47 l7_47 hl hS hD hP hsp; unfold lp_t3_sameBytes_47 at hsp; cases hsp
            | succ n_47 ih_47 =>
              intro H locs ls l1_47 l2_47 l4_47 l5_47 l6_47 l7_47 hl hS hD hP hsp
              unfold lp_t3_sameBytes_47 at hsp
              try dsimp only at hsp
              refine lv_iload hx hb dX3_sameBytes_47 (lv_at hl 0 rfl) ?_
              refine lv_iload_n hx hb dX3_sameBytes_49 rfl (lv_at hl 4 rfl) ?_
              refine lv_iload_n hx hb dX3_sameBytes_50 rfl (lv_at hl 3 rfl) ?_
              refine lv_isub hx hb dX3_sameBytes_51 ?_
              refine lv_icmp_ge (tgt := 95) hx hb dX3_sameBytes_52 (by decide) (fun c_31 => ?_) (fun c_31 => ?_)
              · rw [if_pos c_31] at hsp
                refine lv_iload hx hb dX3_sameBytes_95 (lv_at hl 1 rfl) ?_
                rcases ox_01 hsp with ⟨rfl, hsp⟩ | ⟨rfl, hsp⟩
                · skip
                  have hr0 := Option.some.inj hsp
                  clear hsp
                  subst hr0
                  have hP9 := hP.sub (ws' := [(h0, .inr (3, [.ref qf0, .int v1, .int v2, .int v3, .ref qf4, .ref qf5, .ref qf6, .int v7, .int v8, .int v9, .int v10, .ref qf11, .int v12, .ref qf13])), (qf0, .inl (cf0, nb, .inl f0)), (qa3, .inr (3, [.ref qfa3_0, .int va3_1, .int va3_2, .int va3_3, .ref qfa3_4, .ref qfa3_5, .ref qfa3_6, .int va3_7, .int va3_8, .int va3_9, .int va3_10, .ref qfa3_11, .int va3_12, .ref qfa3_13])), (qfa3_0, .inl (cfa3_0, nb, .inl fa3_0))]) [0, 1, 2, 3] rfl
                  have hD9 := hD.sub (ws' := [(h0, .inr (3, [.ref qf0, .int v1, .int v2, .int v3, .ref qf4, .ref qf5, .ref qf6, .int v7, .int v8, .int v9, .int v10, .ref qf11, .int v12, .ref qf13])), (qf0, .inl (cf0, nb, .inl f0)), (qa3, .inr (3, [.ref qfa3_0, .int va3_1, .int va3_2, .int va3_3, .ref qfa3_4, .ref qfa3_5, .ref qfa3_6, .int va3_7, .int va3_8, .int va3_9, .int va3_10, .ref qfa3_11, .int va3_12, .ref qfa3_13])), (qfa3_0, .inl (cfa3_0, nb, .inl fa3_0))]) [0, 1, 2, 3] (by decide) rfl
                  have hK9 := hK.sub (tys' := [(cf0, .byte), (cfa3_0, .byte)]) [0, 1] rfl
                  exact W.zret hx hb hr (by decide) (fun t ht hW => ⟨⟨(0), (), rfl, ⟨rfl, Or.inl rfl⟩, by rw [ht]; exact hP9, va_K.moved hW.alike hK9, hD9⟩, hS.F ht⟩) hS.2.2 dX3_sameBytes_97
                · skip
                  have hr0 := Option.some.inj hsp
                  clear hsp
                  subst hr0
                  have hP9 := hP.sub (ws' := [(h0, .inr (3, [.ref qf0, .int v1, .int v2, .int v3, .ref qf4, .ref qf5, .ref qf6, .int v7, .int v8, .int v9, .int v10, .ref qf11, .int v12, .ref qf13])), (qf0, .inl (cf0, nb, .inl f0)), (qa3, .inr (3, [.ref qfa3_0, .int va3_1, .int va3_2, .int va3_3, .ref qfa3_4, .ref qfa3_5, .ref qfa3_6, .int va3_7, .int va3_8, .int va3_9, .int va3_10, .ref qfa3_11, .int va3_12, .ref qfa3_13])), (qfa3_0, .inl (cfa3_0, nb, .inl fa3_0))]) [0, 1, 2, 3] rfl
                  have hD9 := hD.sub (ws' := [(h0, .inr (3, [.ref qf0, .int v1, .int v2, .int v3, .ref qf4, .ref qf5, .ref qf6, .int v7, .int v8, .int v9, .int v10, .ref qf11, .int v12, .ref qf13])), (qf0, .inl (cf0, nb, .inl f0)), (qa3, .inr (3, [.ref qfa3_0, .int va3_1, .int va3_2, .int va3_3, .ref qfa3_4, .ref qfa3_5, .ref qfa3_6, .int va3_7, .int va3_8, .int va3_9, .int va3_10, .ref qfa3_11, .int va3_12, .ref qfa3_13])), (qfa3_0, .inl (cfa3_0, nb, .inl fa3_0))]) [0, 1, 2, 3] (by decide) rfl
                  have hK9 := hK.sub (tys' := [(cf0, .byte), (cfa3_0, .byte)]) [0, 1] rfl
                  exact W.zret hx hb hr (by decide) (fun t ht hW => ⟨⟨(1), (), rfl, ⟨rfl, Or.inr rfl⟩, by rw [ht]; exact hP9, va_K.moved hW.alike hK9, hD9⟩, hS.F ht⟩) hS.2.2 dX3_sameBytes_97
              · rw [if_neg c_31] at hsp
                refine lv_iload hx hb dX3_sameBytes_55 (lv_at hl 1 rfl) ?_
                refine lv_if_eq (tgt := 95) hx hb dX3_sameBytes_57 (by decide) (fun c_32 => ?_) (fun c_32 => ?_)
                · rw [if_pos c_32] at hsp
                  refine lv_iload hx hb dX3_sameBytes_95 (lv_at hl 1 rfl) ?_
                  rcases ox_01 hsp with ⟨rfl, hsp⟩ | ⟨rfl, hsp⟩
                  · skip
                    have hr0 := Option.some.inj hsp
                    clear hsp
                    subst hr0
                    have hP9 := hP.sub (ws' := [(h0, .inr (3, [.ref qf0, .int v1, .int v2, .int v3, .ref qf4, .ref qf5, .ref qf6, .int v7, .int v8, .int v9, .int v10, .ref qf11, .int v12, .ref qf13])), (qf0, .inl (cf0, nb, .inl f0)), (qa3, .inr (3, [.ref qfa3_0, .int va3_1, .int va3_2, .int va3_3, .ref qfa3_4, .ref qfa3_5, .ref qfa3_6, .int va3_7, .int va3_8, .int va3_9, .int va3_10, .ref qfa3_11, .int va3_12, .ref qfa3_13])), (qfa3_0, .inl (cfa3_0, nb, .inl fa3_0))]) [0, 1, 2, 3] rfl
                    have hD9 := hD.sub (ws' := [(h0, .inr (3, [.ref qf0, .int v1, .int v2, .int v3, .ref qf4, .ref qf5, .ref qf6, .int v7, .int v8, .int v9, .int v10, .ref qf11, .int v12, .ref qf13])), (qf0, .inl (cf0, nb, .inl f0)), (qa3, .inr (3, [.ref qfa3_0, .int va3_1, .int va3_2, .int va3_3, .ref qfa3_4, .ref qfa3_5, .ref qfa3_6, .int va3_7, .int va3_8, .int va3_9, .int va3_10, .ref qfa3_11, .int va3_12, .ref qfa3_13])), (qfa3_0, .inl (cfa3_0, nb, .inl fa3_0))]) [0, 1, 2, 3] (by decide) rfl
                    have hK9 := hK.sub (tys' := [(cf0, .byte), (cfa3_0, .byte)]) [0, 1] rfl
                    exact W.zret hx hb hr (by decide) (fun t ht hW => ⟨⟨(0), (), rfl, ⟨rfl, Or.inl rfl⟩, by rw [ht]; exact hP9, va_K.moved hW.alike hK9, hD9⟩, hS.F ht⟩) hS.2.2 dX3_sameBytes_97
                  · skip
                    have hr0 := Option.some.inj hsp
                    clear hsp
                    subst hr0
                    have hP9 := hP.sub (ws' := [(h0, .inr (3, [.ref qf0, .int v1, .int v2, .int v3, .ref qf4, .ref qf5, .ref qf6, .int v7, .int v8, .int v9, .int v10, .ref qf11, .int v12, .ref qf13])), (qf0, .inl (cf0, nb, .inl f0)), (qa3, .inr (3, [.ref qfa3_0, .int va3_1, .int va3_2, .int va3_3, .ref qfa3_4, .ref qfa3_5, .ref qfa3_6, .int va3_7, .int va3_8, .int va3_9, .int va3_10, .ref qfa3_11, .int va3_12, .ref qfa3_13])), (qfa3_0, .inl (cfa3_0, nb, .inl fa3_0))]) [0, 1, 2, 3] rfl
                    have hD9 := hD.sub (ws' := [(h0, .inr (3, [.ref qf0, .int v1, .int v2, .int v3, .ref qf4, .ref qf5, .ref qf6, .int v7, .int v8, .int v9, .int v10, .ref qf11, .int v12, .ref qf13])), (qf0, .inl (cf0, nb, .inl f0)), (qa3, .inr (3, [.ref qfa3_0, .int va3_1, .int va3_2, .int va3_3, .ref qfa3_4, .ref qfa3_5, .ref qfa3_6, .int va3_7, .int va3_8, .int va3_9, .int va3_10, .ref qfa3_11, .int va3_12, .ref qfa3_13])), (qfa3_0, .inl (cfa3_0, nb, .inl fa3_0))]) [0, 1, 2, 3] (by decide) rfl
                    have hK9 := hK.sub (tys' := [(cf0, .byte), (cfa3_0, .byte)]) [0, 1] rfl
                    exact W.zret hx hb hr (by decide) (fun t ht hW => ⟨⟨(1), (), rfl, ⟨rfl, Or.inr rfl⟩, by rw [ht]; exact hP9, va_K.moved hW.alike hK9, hD9⟩, hS.F ht⟩) hS.2.2 dX3_sameBytes_97
                · rw [if_neg c_32] at hsp
                  refine lv_aload_n hx hb dX3_sameBytes_60 rfl (lv_at hl 2 rfl) ?_
                  refine va_get (D := (dC, dI)) (ci := 3) (v := .ref qf0) (C := RX3) (T := TX3) (N := 14) hx hb hts uV_h3_X3 hown hK hP 0 rfl rfl 0 (by decide) (hts (.fieldLink RX3 9 "ClassMill$Image" "bytes" "[B") mw_h3_24) (fun _ h9 => h9) rfl dX3_sameBytes_61 ?_
                  refine lv_iload_n hx hb dX3_sameBytes_64 rfl (lv_at hl 3 rfl) ?_
                  refine lv_iload hx hb dX3_sameBytes_65 (lv_at hl 0 rfl) ?_
                  refine lv_iadd hx hb dX3_sameBytes_67 ?_
                  obtain ⟨hi_33, hsp⟩ := ox_in hsp
                  refine va_bald hx hb hK hP 1 0 rfl rfl (i := (l1_47 + l7_47)) hi_33 dX3_sameBytes_68 ?_
                  refine lv_aload_n hx hb dX3_sameBytes_69 rfl (lv_at hl 5 rfl) ?_
                  refine va_get (D := (dC, dI)) (ci := 3) (v := .ref qfa3_0) (C := RX3) (T := TX3) (N := 14) hx hb hts uV_h3_X3 hown hK hP 2 rfl rfl 0 (by decide) (hts (.fieldLink RX3 9 "ClassMill$Image" "bytes" "[B") mw_h3_24) (fun _ h9 => h9) rfl dX3_sameBytes_70 ?_
                  refine lv_iload hx hb dX3_sameBytes_73 (lv_at hl 6 rfl) ?_
                  refine lv_iload hx hb dX3_sameBytes_75 (lv_at hl 0 rfl) ?_
                  refine lv_iadd hx hb dX3_sameBytes_77 ?_
                  obtain ⟨hi_34, hsp⟩ := ox_in hsp
                  refine va_bald hx hb hK hP 3 1 rfl rfl (i := (l4_47 + l7_47)) hi_34 dX3_sameBytes_78 ?_
                  refine lv_icmp_ne (tgt := 86) hx hb dX3_sameBytes_79 (by decide) (fun c_35 => ?_) (fun c_35 => ?_)
                  · rw [if_neg c_35] at hsp
                    refine lv_iconst (v := 0) hx hb dX3_sameBytes_86 (by decide) ?_
                    refine lv_istore (lv' := [(6, .int 0), (7, .int l7_47), (0, .ref h0), (1, .int l1_47), (2, .int l2_47), (3, .ref qa3), (4, .int l4_47), (5, .int l5_47)]) hx hb dX3_sameBytes_87 hl (by decide) rfl (fun ls hl => ?_)
                    refine lv_iinc (v := (l7_47 + 1)) (lv' := [(7, .int (l7_47 + 1)), (6, .int 0), (0, .ref h0), (1, .int l1_47), (2, .int l2_47), (3, .ref qa3), (4, .int l4_47), (5, .int l5_47)]) hx hb dX3_sameBytes_89 hl (k := 1) rfl rfl (by decide) rfl (fun ls hl => ?_)
                    refine lv_goto (tgt := 47) hx hb dX3_sameBytes_92 (by decide) ?_
                    exact ih_47 H locs ls l1_47 l2_47 l4_47 l5_47 0 (l7_47 + 1) (lv_sub hl [0, 1, 2, 3, 4, 5, 6, 7] rfl) hS (hD.sub (ws' := [(h0, .inr (3, [.ref qf0, .int v1, .int v2, .int v3, .ref qf4, .ref qf5, .ref qf6, .int v7, .int v8, .int v9, .int v10, .ref qf11, .int v12, .ref qf13])), (qf0, .inl (cf0, nb, .inl f0)), (qa3, .inr (3, [.ref qfa3_0, .int va3_1, .int va3_2, .int va3_3, .ref qfa3_4, .ref qfa3_5, .ref qfa3_6, .int va3_7, .int va3_8, .int va3_9, .int va3_10, .ref qfa3_11, .int va3_12, .ref qfa3_13])), (qfa3_0, .inl (cfa3_0, nb, .inl fa3_0))]) [0, 1, 2, 3] (by decide) rfl) (hP.sub (ws' := [(h0, .inr (3, [.ref qf0, .int v1, .int v2, .int v3, .ref qf4, .ref qf5, .ref qf6, .int v7, .int v8, .int v9, .int v10, .ref qf11, .int v12, .ref qf13])), (qf0, .inl (cf0, nb, .inl f0)), (qa3, .inr (3, [.ref qfa3_0, .int va3_1, .int va3_2, .int va3_3, .ref qfa3_4, .ref qfa3_5, .ref qfa3_6, .int va3_7, .int va3_8, .int va3_9, .int va3_10, .ref qfa3_11, .int va3_12, .ref qfa3_13])), (qfa3_0, .inl (cfa3_0, nb, .inl fa3_0))]) [0, 1, 2, 3] rfl) hsp
                  · rw [if_pos c_35] at hsp
                    refine lv_iconst (v := 1) hx hb dX3_sameBytes_82 (by decide) ?_
                    refine lv_goto (tgt := 87) hx hb dX3_sameBytes_83 (by decide) ?_
                    refine lv_istore (lv' := [(6, .int 1), (7, .int l7_47), (0, .ref h0), (1, .int l1_47), (2, .int l2_47), (3, .ref qa3), (4, .int l4_47), (5, .int l5_47)]) hx hb dX3_sameBytes_87 hl (by decide) rfl (fun ls hl => ?_)
                    refine lv_iinc (v := (l7_47 + 1)) (lv' := [(7, .int (l7_47 + 1)), (6, .int 1), (0, .ref h0), (1, .int l1_47), (2, .int l2_47), (3, .ref qa3), (4, .int l4_47), (5, .int l5_47)]) hx hb dX3_sameBytes_89 hl (k := 1) rfl rfl (by decide) rfl (fun ls hl => ?_)
                    refine lv_goto (tgt := 47) hx hb dX3_sameBytes_92 (by decide) ?_
                    exact ih_47 H locs ls l1_47 l2_47 l4_47 l5_47 1 (l7_47 + 1) (lv_sub hl [0, 1, 2, 3, 4, 5, 6, 7] rfl) hS (hD.sub (ws' := [(h0, .inr (3, [.ref qf0, .int v1, .int v2, .int v3, .ref qf4, .ref qf5, .ref qf6, .int v7, .int v8, .int v9, .int v10, .ref qf11, .int v12, .ref qf13])), (qf0, .inl (cf0, nb, .inl f0)), (qa3, .inr (3, [.ref qfa3_0, .int va3_1, .int va3_2, .int va3_3, .ref qfa3_4, .ref qfa3_5, .ref qfa3_6, .int va3_7, .int va3_8, .int va3_9, .int va3_10, .ref qfa3_11, .int va3_12, .ref qfa3_13])), (qfa3_0, .inl (cfa3_0, nb, .inl fa3_0))]) [0, 1, 2, 3] (by decide) rfl) (hP.sub (ws' := [(h0, .inr (3, [.ref qf0, .int v1, .int v2, .int v3, .ref qf4, .ref qf5, .ref qf6, .int v7, .int v8, .int v9, .int v10, .ref qf11, .int v12, .ref qf13])), (qf0, .inl (cf0, nb, .inl f0)), (qa3, .inr (3, [.ref qfa3_0, .int va3_1, .int va3_2, .int va3_3, .ref qfa3_4, .ref qfa3_5, .ref qfa3_6, .int va3_7, .int va3_8, .int va3_9, .int va3_10, .ref qfa3_11, .int va3_12, .ref qfa3_13])), (qfa3_0, .inl (cfa3_0, nb, .inl fa3_0))]) [0, 1, 2, 3] rfl) hsp
def sp_t3_sameText (nf : Nat) (a1 : Int32) (a3 : Int32) (v1 : Int32) (v7 : Int32) (f5 : Nat → Int32) (f6 : Nat → Int32) (va2_1 : Int32) (va2_7 : Int32) (fa2_5 : Nat → Int32) (fa2_6 : Nat → Int32) (nb : Nat) (f0 : Nat → Int32) (fa2_0 : Nat → Int32) : Option (Int32) := ((sp_ti_textAt nf a1 v7 f5).bind (fun p1 => ((sp_ti_textEnd nf a1 v7 f6).bind (fun p2 => ((sp_ti_textAt nf a3 va2_7 fa2_5).bind (fun p3 => ((sp_ti_textEnd nf a3 va2_7 fa2_6).bind (fun p4 => ((sp_t3_sameBytes nf p1 p2 p3 p4 v1 nb f0 va2_1 fa2_0).bind (fun p5 => (if p5 = 0 then (some 0) else (some 1))))))))))))

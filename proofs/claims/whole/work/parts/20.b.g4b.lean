def lp_v3_sameBytesB_47 (nf n : Nat) (a1 : Int32) (a2 : Int32) (a4 : Int32) (a5 : Int32) (v1 : Int32) (nb : Nat) (f0 : Nat → Int32)  (l1_47 : Int32) (l2_47 : Int32) (l4_47 : Int32) (l6_47 : Int32) (l7_47 : Int32) : Option (Int32) := match n with
  | 0 => none
  | n + 1 => (if (l2_47 - l1_47) ≤ l7_47 then (if l6_47 = 0 then (some 0) else if l6_47 = 1 then (some 1) else none) else (if l6_47 = 0 then (if l6_47 = 0 then (some 0) else if l6_47 = 1 then (some 1) else none) else (if (l1_47 + l7_47) < 0 then none else if nb ≤ ((l1_47 + l7_47) : Int32).toNatClampNeg then none else (if (l4_47 + l7_47) < 0 then none else if nb ≤ ((l4_47 + l7_47) : Int32).toNatClampNeg then none else (if (f0 ((l1_47 + l7_47) : Int32).toNatClampNeg) = (f0 ((l4_47 + l7_47) : Int32).toNatClampNeg) then (lp_v3_sameBytesB_47 nf n a1 a2 a4 a5 v1 nb f0 l1_47 l2_47 l4_47 1 (l7_47 + 1)) else (lp_v3_sameBytesB_47 nf n a1 a2 a4 a5 v1 nb f0 l1_47 l2_47 l4_47 0 (l7_47 + 1)))))))
def jn_v3_sameBytesB_42 (nf : Nat) (a1 : Int32) (a2 : Int32) (a4 : Int32) (a5 : Int32) (v1 : Int32) (nb : Nat) (f0 : Nat → Int32)  (l1_42 : Int32) (l2_42 : Int32) (l4_42 : Int32) (s0_42 : Int32) : Option (Int32) := (lp_v3_sameBytesB_47 nf nf a1 a2 a4 a5 v1 nb f0  l1_42 l2_42 l4_42 s0_42 0)
def jn_v3_sameBytesB_41 (nf : Nat) (a1 : Int32) (a2 : Int32) (a4 : Int32) (a5 : Int32) (v1 : Int32) (nb : Nat) (f0 : Nat → Int32)  (l1_41 : Int32) (l2_41 : Int32) (l4_41 : Int32) : Option (Int32) := (jn_v3_sameBytesB_42 nf a1 a2 a4 a5 v1 nb f0  l1_41 l2_41 l4_41 0)
def sp_v3_sameBytesB (nf : Nat) (a1 : Int32) (a2 : Int32) (a4 : Int32) (a5 : Int32) (v1 : Int32) (nb : Nat) (f0 : Nat → Int32) : Option (Int32) := (if (a2 - a1) = (a5 - a4) then (if a1 < 0 then (jn_v3_sameBytesB_41 nf a1 a2 a4 a5 v1 nb f0  a1 a2 a4) else (if v1 < a2 then (jn_v3_sameBytesB_41 nf a1 a2 a4 a5 v1 nb f0  a1 a2 a4) else (if a4 < 0 then (jn_v3_sameBytesB_41 nf a1 a2 a4 a5 v1 nb f0  a1 a2 a4) else (if v1 < a5 then (jn_v3_sameBytesB_41 nf a1 a2 a4 a5 v1 nb f0  a1 a2 a4) else (jn_v3_sameBytesB_42 nf a1 a2 a4 a5 v1 nb f0  a1 a2 a4 1))))) else (jn_v3_sameBytesB_41 nf a1 a2 a4 a5 v1 nb f0  a1 a2 a4))
set_option maxHeartbeats 4000000 in
set_option maxRecDepth 100000 in
/-- ClassMill$Image.sameBytes -/
theorem v3_sameBytesB (l : Launch) (dC : Nat → ClassId) (dI : Nat → Nat → Nat) (sz : Nat) (h0 : Nat) (a1 : Int32) (a2 : Int32) (a4 : Int32) (a5 : Int32) (qf0 : Nat) (v1 : Int32) (v2 : Int32) (v3 : Int32) (qf4 : Nat) (qf5 : Nat) (qf6 : Nat) (v7 : Int32) (v8 : Int32) (v9 : Int32) (v10 : Int32) (qf11 : Nat) (v12 : Int32) (qf13 : Nat) (cf0 : ClassId) (nb : Nat) (f0 : (Nat → Int32)) (nf : Nat) (r0 : Int32) (hsp : sp_v3_sameBytesB nf a1 a2 a4 a5 v1 nb f0 = some r0) : Met l yX3_sameBytes (.code yX3_sameBytes cX3_sameBytes 8 (some .boolean) :: VS_h8) ({ frames := 0, cells := 0, slots := 0, locals := 0 }) (va_Pc [.ref h0, .int a1, .int a2, .ref h0, .int a4, .int a5] (fun U => U.heap.size = sz ∧ va_P (dC, dI) vwCl [(h0, .inr (3, [.ref qf0, .int v1, .int v2, .int v3, .ref qf4, .ref qf5, .ref qf6, .int v7, .int v8, .int v9, .int v10, .ref qf11, .int v12, .ref qf13])), (qf0, .inl (cf0, nb, .inl f0))] U.heap ∧ va_K (dC, dI) vwCl [(cf0, .byte)] U ∧ va_D (fun _ => True) [(h0, .inr (3, [.ref qf0, .int v1, .int v2, .int v3, .ref qf4, .ref qf5, .ref qf6, .int v7, .int v8, .int v9, .int v10, .ref qf11, .int v12, .ref qf13])), (qf0, .inl (cf0, nb, .inl f0))])) (va_Qi (fun (r : Int32) (u : Unit) => match u with | () => r0 = r ∧ (r0 = 0 ∨ r0 = 1)) (fun (u : Unit) (t : State) => match u with | () => va_P (dC, dI) vwCl [(h0, .inr (3, [.ref qf0, .int v1, .int v2, .int v3, .ref qf4, .ref qf5, .ref qf6, .int v7, .int v8, .int v9, .int v10, .ref qf11, .int v12, .ref qf13])), (qf0, .inl (cf0, nb, .inl f0))] t.heap ∧ va_K (dC, dI) vwCl [(cf0, .byte)] t ∧ va_D (va_A [(h0, .inr (3, [.ref qf0, .int v1, .int v2, .int v3, .ref qf4, .ref qf5, .ref qf6, .int v7, .int v8, .int v9, .int v10, .ref qf11, .int v12, .ref qf13])), (qf0, .inl (cf0, nb, .inl f0))] sz) [(h0, .inr (3, [.ref qf0, .int v1, .int v2, .int v3, .ref qf4, .ref qf5, .ref qf6, .int v7, .int v8, .int v9, .int v10, .ref qf11, .int v12, .ref qf13])), (qf0, .inl (cf0, nb, .inl f0))]) (va_A [(h0, .inr (3, [.ref qf0, .int v1, .int v2, .int v3, .ref qf4, .ref qf5, .ref qf6, .int v7, .int v8, .int v9, .int v10, .ref qf11, .int v12, .ref qf13])), (qf0, .inl (cf0, nb, .inl f0))] sz)) 0 0 (va_A [(h0, .inr (3, [.ref qf0, .int v1, .int v2, .int v3, .ref qf4, .ref qf5, .ref qf6, .int v7, .int v8, .int v9, .int v10, .ref qf11, .int v12, .ref qf13])), (qf0, .inl (cf0, nb, .inl f0))] sz) := by
  refine Met.ofW (cc := cX3_sameBytes) (maxL := 8) (ret := (some .boolean)) (by decide) rfl ?_
  intro p e s m args below meth c s₁ B hml hv
  obtain ⟨rfl, hsz, hP, hK, hD0⟩ := hv
  have hx := B.exec
  have hb := B.bytes
  have hr := B.returns
  have hts := atoms_spec (ws := (.code yX3_sameBytes cX3_sameBytes 8 (some .boolean) :: VS_h8)) B.pre
  replace hts := fun w (h : w ∈ VS_h8) => hts w (List.mem_cons_of_mem _ h)
  have hown : s.vm.findClass RX3 = some m.cls := findClass_of_methodNamed B.named
  have hlocks := B.notSynchronized
  subst hsz
  have hD := hD0.self (sz := s.heap.size)
  generalize hAe : va_A [(h0, .inr (3, [.ref qf0, .int v1, .int v2, .int v3, .ref qf4, .ref qf5, .ref qf6, .int v7, .int v8, .int v9, .int v10, .ref qf11, .int v12, .ref qf13])), (qf0, .inl (cf0, nb, .inl f0))] s.heap.size = A at hD  ⊢
  have hA : ∀ q : Nat, s.heap.size ≤ q → A q := fun q h => by rw [← hAe]; exact Or.inr h
  have hP : va_P (dC, dI) vwCl [(h0, .inr (3, [.ref qf0, .int v1, .int v2, .int v3, .ref qf4, .ref qf5, .ref qf6, .int v7, .int v8, .int v9, .int v10, .ref qf11, .int v12, .ref qf13])), (qf0, .inl (cf0, nb, .inl f0))] s.heap := hP
  have hl := lv_entry ([.ref h0, .int a1, .int a2, .ref h0, .int a4, .int a5]) (n := 8) (Nat.le_of_ble_eq_true rfl)
  rw [lg_entry_eq]
  generalize (lg_sl ([.ref h0, .int a1, .int a2, .ref h0, .int a4, .int a5]) ++ List.replicate (8 - (lg_sl ([.ref h0, .int a1, .int a2, .ref h0, .int a4, .int a5])).length) Slot.unset).toArray = ls at hl ⊢
  have hl : lv_has ls 8 [(0, .ref h0), (1, .int a1), (2, .int a2), (3, .ref h0), (4, .int a4), (5, .int a5)] := hl
  obtain ⟨H, hH⟩ : ∃ H : Heap, s.heap = H := ⟨_, rfl⟩
  rw [hH] at hP ⊢
  have hS : va_S A s.heap H [] := by rw [← hH]; exact va_S.rf
  obtain ⟨locs, hlo⟩ : ∃ locs : List Loc, locs = [] := ⟨_, rfl⟩
  rw [← hlo] at hS ⊢
  unfold sp_v3_sameBytesB at hsp
  refine jn_use (α := Heap × List Loc × Array Slot × Int32 × Int32 × Int32 × Int32) (fun x9 => x9.1) (fun x9 => x9.2.1) (fun x9 => F0 m 42 x9.2.2.1 [.int (x9.2.2.2.2.2.2)]) (fun x9 => match x9 with | (H, locs, ls, l1_42, l2_42, l4_42, s0_42) => lv_has ls 8 [(0, .ref h0), (1, .int l1_42), (2, .int l2_42), (3, .ref h0), (4, .int l4_42)] ∧ va_S A s.heap H locs ∧ va_D A [(h0, .inr (3, [.ref qf0, .int v1, .int v2, .int v3, .ref qf4, .ref qf5, .ref qf6, .int v7, .int v8, .int v9, .int v10, .ref qf11, .int v12, .ref qf13])), (qf0, .inl (cf0, nb, .inl f0))] ∧ va_P (dC, dI) vwCl [(h0, .inr (3, [.ref qf0, .int v1, .int v2, .int v3, .ref qf4, .ref qf5, .ref qf6, .int v7, .int v8, .int v9, .int v10, .ref qf11, .int v12, .ref qf13])), (qf0, .inl (cf0, nb, .inl f0))] H ∧ jn_v3_sameBytesB_42 nf a1 a2 a4 a5 v1 nb f0 l1_42 l2_42 l4_42 s0_42 = some r0) ?_ ?_
  · intro x9 hJ9
    obtain ⟨H, locs, ls, l1_42, l2_42, l4_42, s0_42⟩ := x9
    obtain ⟨hl, hS, hD, hP, hsp⟩ := hJ9
    replace hl : lv_has ls 8 [(0, .ref h0), (1, .int l1_42), (2, .int l2_42), (3, .ref h0), (4, .int l4_42)] := hl
    replace hS : va_S A s.heap H locs := hS
    replace hD : va_D A [(h0, .inr (3, [.ref qf0, .int v1, .int v2, .int v3, .ref qf4, .ref qf5, .ref qf6, .int v7, .int v8, .int v9, .int v10, .ref qf11, .int v12, .ref qf13])), (qf0, .inl (cf0, nb, .inl f0))] := hD
    replace hP : va_P (dC, dI) vwCl [(h0, .inr (3, [.ref qf0, .int v1, .int v2, .int v3, .ref qf4, .ref qf5, .ref qf6, .int v7, .int v8, .int v9, .int v10, .ref qf11, .int v12, .ref qf13])), (qf0, .inl (cf0, nb, .inl f0))] H := hP
    replace hsp : jn_v3_sameBytesB_42 nf a1 a2 a4 a5 v1 nb f0 l1_42 l2_42 l4_42 s0_42 = some r0 := hsp
    show W _ _ _ _ _ _ _ _ _ _ H locs _ _ _ (F0 m 42 ls [.int s0_42])
    unfold jn_v3_sameBytesB_42 at hsp
    try dsimp only at hsp
    refine lv_istore (lv' := [(6, .int s0_42), (0, .ref h0), (1, .int l1_42), (2, .int l2_42), (3, .ref h0), (4, .int l4_42)]) hx hb dX3_sameBytes_42 hl (by decide) rfl (fun ls hl => ?_)
    refine lv_iconst (v := 0) hx hb dX3_sameBytes_44 (by decide) ?_
    refine lv_istore (lv' := [(7, .int 0), (6, .int s0_42), (0, .ref h0), (1, .int l1_42), (2, .int l2_42), (3, .ref h0), (4, .int l4_42)]) hx hb dX3_sameBytes_45 hl (by decide) rfl (fun ls hl => ?_)
    replace hl : lv_has ls 8 [(7, .int 0), (6, .int s0_42), (0, .ref h0), (1, .int l1_42), (2, .int l2_42), (3, .ref h0), (4, .int l4_42)] := lv_sub hl [0, 1, 2, 3, 4, 5, 6] rfl
    replace hP := hP.sub (ws' := [(h0, .inr (3, [.ref qf0, .int v1, .int v2, .int v3, .ref qf4, .ref qf5, .ref qf6, .int v7, .int v8, .int v9, .int v10, .ref qf11, .int v12, .ref qf13])), (qf0, .inl (cf0, nb, .inl f0))]) [0, 1] rfl
    replace hD := hD.sub (ws' := [(h0, .inr (3, [.ref qf0, .int v1, .int v2, .int v3, .ref qf4, .ref qf5, .ref qf6, .int v7, .int v8, .int v9, .int v10, .ref qf11, .int v12, .ref qf13])), (qf0, .inl (cf0, nb, .inl f0))]) [0, 1] (by decide) rfl
    replace hK := hK.sub (tys' := [(cf0, .byte)]) [0] rfl
    obtain ⟨n_47, hn_47⟩ : ∃ z : Nat, z = nf := ⟨_, rfl⟩
    obtain ⟨l1_47, el1_47⟩ : ∃ z : Int32, z = l1_42 := ⟨_, rfl⟩
    obtain ⟨l2_47, el2_47⟩ : ∃ z : Int32, z = l2_42 := ⟨_, rfl⟩
    obtain ⟨l4_47, el4_47⟩ : ∃ z : Int32, z = l4_42 := ⟨_, rfl⟩
    obtain ⟨l6_47, el6_47⟩ : ∃ z : Int32, z = s0_42 := ⟨_, rfl⟩
    obtain ⟨l7_47, el7_47⟩ : ∃ z : Int32, z = 0 := ⟨_, rfl⟩
    replace hsp : lp_v3_sameBytesB_47 nf n_47 a1 a2 a4 a5 v1 nb f0 l1_47 l2_47 l4_47 l6_47 l7_47 = some r0 := by rw [hn_47, el1_47, el2_47, el4_47, el6_47, el7_47]; exact hsp
    replace hl : lv_has ls 8 [(7, .int l7_47), (6, .int l6_47), (0, .ref h0), (1, .int l1_47), (2, .int l2_47), (3, .ref h0), (4, .int l4_47)] := by rw [el1_47, el2_47, el4_47, el6_47, el7_47]; exact hl
    clear hn_47 el1_47 el2_47 el4_47 el6_47 el7_47
    try clear hlo
    try clear hH
    revert hsp
    revert hP
    revert hD
    revert hS
    revert hl
    revert l7_47
    revert l6_47
    revert l4_47
    revert l2_47
    revert l1_47
    revert ls
    revert locs
    revert H
    induction n_47 with
    | zero => intro H locs ls l1_47 l2_47 l4_47 l6_47 l7_47  hl hS hD hP hsp; unfold lp_v3_sameBytesB_47 at hsp; cases hsp
    | succ n_47 ih_47 =>
      intro H locs ls l1_47 l2_47 l4_47 l6_47 l7_47  hl hS hD hP hsp
      unfold lp_v3_sameBytesB_47 at hsp
      try dsimp only at hsp
      refine lv_iload hx hb dX3_sameBytes_47 (lv_at hl 0 rfl) ?_
      refine lv_iload_n hx hb dX3_sameBytes_49 rfl (lv_at hl 4 rfl) ?_
      refine lv_iload_n hx hb dX3_sameBytes_50 rfl (lv_at hl 3 rfl) ?_
      refine lv_isub hx hb dX3_sameBytes_51 ?_
      refine lv_icmp_ge (tgt := 95) hx hb dX3_sameBytes_52 (by decide) (fun c_6 => ?_) (fun c_6 => ?_)
      · rw [if_pos c_6] at hsp
        refine lv_iload hx hb dX3_sameBytes_95 (lv_at hl 1 rfl) ?_
        rcases ox_01 hsp with ⟨rfl, hsp⟩ | ⟨rfl, hsp⟩
        · skip
          have hr0 := Option.some.inj hsp
          clear hsp
          subst hr0
          have hP9 := hP.sub (ws' := [(h0, .inr (3, [.ref qf0, .int v1, .int v2, .int v3, .ref qf4, .ref qf5, .ref qf6, .int v7, .int v8, .int v9, .int v10, .ref qf11, .int v12, .ref qf13])), (qf0, .inl (cf0, nb, .inl f0))]) [0, 1] rfl
          have hD9 := hD.sub (ws' := [(h0, .inr (3, [.ref qf0, .int v1, .int v2, .int v3, .ref qf4, .ref qf5, .ref qf6, .int v7, .int v8, .int v9, .int v10, .ref qf11, .int v12, .ref qf13])), (qf0, .inl (cf0, nb, .inl f0))]) [0, 1] (by decide) rfl
          have hK9 := hK.sub (tys' := [(cf0, .byte)]) [0] rfl
          exact W.zret hx hb hr (by decide) (fun t ht hW => ⟨⟨(0), (), rfl, ⟨rfl, Or.inl rfl⟩, by rw [ht]; exact hP9, va_K.moved hW.alike hK9, hD9⟩, hS.F ht⟩) hS.2.2 dX3_sameBytes_97
        · skip
          have hr0 := Option.some.inj hsp
          clear hsp
          subst hr0
          have hP9 := hP.sub (ws' := [(h0, .inr (3, [.ref qf0, .int v1, .int v2, .int v3, .ref qf4, .ref qf5, .ref qf6, .int v7, .int v8, .int v9, .int v10, .ref qf11, .int v12, .ref qf13])), (qf0, .inl (cf0, nb, .inl f0))]) [0, 1] rfl
          have hD9 := hD.sub (ws' := [(h0, .inr (3, [.ref qf0, .int v1, .int v2, .int v3, .ref qf4, .ref qf5, .ref qf6, .int v7, .int v8, .int v9, .int v10, .ref qf11, .int v12, .ref qf13])), (qf0, .inl (cf0, nb, .inl f0))]) [0, 1] (by decide) rfl
          have hK9 := hK.sub (tys' := [(cf0, .byte)]) [0] rfl
          exact W.zret hx hb hr (by decide) (fun t ht hW => ⟨⟨(1), (), rfl, ⟨rfl, Or.inr rfl⟩, by rw [ht]; exact hP9, va_K.moved hW.alike hK9, hD9⟩, hS.F ht⟩) hS.2.2 dX3_sameBytes_97
      · rw [if_neg c_6] at hsp
        refine lv_iload hx hb dX3_sameBytes_55 (lv_at hl 1 rfl) ?_
        refine lv_if_eq (tgt := 95) hx hb dX3_sameBytes_57 (by decide) (fun c_7 => ?_) (fun c_7 => ?_)
        · rw [if_pos c_7] at hsp
          refine lv_iload hx hb dX3_sameBytes_95 (lv_at hl 1 rfl) ?_
          rcases ox_01 hsp with ⟨rfl, hsp⟩ | ⟨rfl, hsp⟩
          · skip
            have hr0 := Option.some.inj hsp
            clear hsp
            subst hr0
            have hP9 := hP.sub (ws' := [(h0, .inr (3, [.ref qf0, .int v1, .int v2, .int v3, .ref qf4, .ref qf5, .ref qf6, .int v7, .int v8, .int v9, .int v10, .ref qf11, .int v12, .ref qf13])), (qf0, .inl (cf0, nb, .inl f0))]) [0, 1] rfl
            have hD9 := hD.sub (ws' := [(h0, .inr (3, [.ref qf0, .int v1, .int v2, .int v3, .ref qf4, .ref qf5, .ref qf6, .int v7, .int v8, .int v9, .int v10, .ref qf11, .int v12, .ref qf13])), (qf0, .inl (cf0, nb, .inl f0))]) [0, 1] (by decide) rfl
            have hK9 := hK.sub (tys' := [(cf0, .byte)]) [0] rfl
            exact W.zret hx hb hr (by decide) (fun t ht hW => ⟨⟨(0), (), rfl, ⟨rfl, Or.inl rfl⟩, by rw [ht]; exact hP9, va_K.moved hW.alike hK9, hD9⟩, hS.F ht⟩) hS.2.2 dX3_sameBytes_97
          · skip
            have hr0 := Option.some.inj hsp
            clear hsp
            subst hr0
            have hP9 := hP.sub (ws' := [(h0, .inr (3, [.ref qf0, .int v1, .int v2, .int v3, .ref qf4, .ref qf5, .ref qf6, .int v7, .int v8, .int v9, .int v10, .ref qf11, .int v12, .ref qf13])), (qf0, .inl (cf0, nb, .inl f0))]) [0, 1] rfl
            have hD9 := hD.sub (ws' := [(h0, .inr (3, [.ref qf0, .int v1, .int v2, .int v3, .ref qf4, .ref qf5, .ref qf6, .int v7, .int v8, .int v9, .int v10, .ref qf11, .int v12, .ref qf13])), (qf0, .inl (cf0, nb, .inl f0))]) [0, 1] (by decide) rfl
            have hK9 := hK.sub (tys' := [(cf0, .byte)]) [0] rfl
            exact W.zret hx hb hr (by decide) (fun t ht hW => ⟨⟨(1), (), rfl, ⟨rfl, Or.inr rfl⟩, by rw [ht]; exact hP9, va_K.moved hW.alike hK9, hD9⟩, hS.F ht⟩) hS.2.2 dX3_sameBytes_97
        · rw [if_neg c_7] at hsp
          refine lv_aload_n hx hb dX3_sameBytes_60 rfl (lv_at hl 2 rfl) ?_
          refine va_get (D := (dC, dI)) (ci := 3) (v := .ref qf0) (C := RX3) (T := TX3) (N := 14) hx hb hts uV_h8_X3 hown hK hP 0 rfl rfl 0 (by decide) (hts (.fieldLink RX3 9 "ClassMill$Image" "bytes" "[B") mw_h8_0) (fun _ h9 => h9) rfl dX3_sameBytes_61 ?_
          refine lv_iload_n hx hb dX3_sameBytes_64 rfl (lv_at hl 3 rfl) ?_
          refine lv_iload hx hb dX3_sameBytes_65 (lv_at hl 0 rfl) ?_
          refine lv_iadd hx hb dX3_sameBytes_67 ?_
          obtain ⟨hi_8, hsp⟩ := ox_in hsp
          refine va_bald hx hb hK hP 1 0 rfl rfl (i := (l1_47 + l7_47)) hi_8 dX3_sameBytes_68 ?_
          refine lv_aload_n hx hb dX3_sameBytes_69 rfl (lv_at hl 5 rfl) ?_
          refine va_get (D := (dC, dI)) (ci := 3) (v := .ref qf0) (C := RX3) (T := TX3) (N := 14) hx hb hts uV_h8_X3 hown hK hP 0 rfl rfl 0 (by decide) (hts (.fieldLink RX3 9 "ClassMill$Image" "bytes" "[B") mw_h8_0) (fun _ h9 => h9) rfl dX3_sameBytes_70 ?_
          refine lv_iload hx hb dX3_sameBytes_73 (lv_at hl 6 rfl) ?_
          refine lv_iload hx hb dX3_sameBytes_75 (lv_at hl 0 rfl) ?_
          refine lv_iadd hx hb dX3_sameBytes_77 ?_
          obtain ⟨hi_9, hsp⟩ := ox_in hsp
          refine va_bald hx hb hK hP 1 0 rfl rfl (i := (l4_47 + l7_47)) hi_9 dX3_sameBytes_78 ?_
          refine lv_icmp_ne (tgt := 86) hx hb dX3_sameBytes_79 (by decide) (fun c_10 => ?_) (fun c_10 => ?_)
          · rw [if_neg c_10] at hsp
            refine lv_iconst (v := 0) hx hb dX3_sameBytes_86 (by decide) ?_
            refine lv_istore (lv' := [(6, .int 0), (7, .int l7_47), (0, .ref h0), (1, .int l1_47), (2, .int l2_47), (3, .ref h0), (4, .int l4_47)]) hx hb dX3_sameBytes_87 hl (by decide) rfl (fun ls hl => ?_)
            refine lv_iinc (v := (l7_47 + 1)) (lv' := [(7, .int (l7_47 + 1)), (6, .int 0), (0, .ref h0), (1, .int l1_47), (2, .int l2_47), (3, .ref h0), (4, .int l4_47)]) hx hb dX3_sameBytes_89 hl (k := 1) rfl rfl (by decide) rfl (fun ls hl => ?_)
            refine lv_goto (tgt := 47) hx hb dX3_sameBytes_92 (by decide) ?_
            exact ih_47 H locs ls l1_47 l2_47 l4_47 0 (l7_47 + 1) (lv_sub hl [0, 1, 2, 3, 4, 5, 6] rfl) hS (hD.sub (ws' := [(h0, .inr (3, [.ref qf0, .int v1, .int v2, .int v3, .ref qf4, .ref qf5, .ref qf6, .int v7, .int v8, .int v9, .int v10, .ref qf11, .int v12, .ref qf13])), (qf0, .inl (cf0, nb, .inl f0))]) [0, 1] (by decide) rfl) (hP.sub (ws' := [(h0, .inr (3, [.ref qf0, .int v1, .int v2, .int v3, .ref qf4, .ref qf5, .ref qf6, .int v7, .int v8, .int v9, .int v10, .ref qf11, .int v12, .ref qf13])), (qf0, .inl (cf0, nb, .inl f0))]) [0, 1] rfl) hsp
          · rw [if_pos c_10] at hsp
            refine lv_iconst (v := 1) hx hb dX3_sameBytes_82 (by decide) ?_
            refine lv_goto (tgt := 87) hx hb dX3_sameBytes_83 (by decide) ?_
            refine lv_istore (lv' := [(6, .int 1), (7, .int l7_47), (0, .ref h0), (1, .int l1_47), (2, .int l2_47), (3, .ref h0), (4, .int l4_47)]) hx hb dX3_sameBytes_87 hl (by decide) rfl (fun ls hl => ?_)
            refine lv_iinc (v := (l7_47 + 1)) (lv' := [(7, .int (l7_47 + 1)), (6, .int 1), (0, .ref h0), (1, .int l1_47), (2, .int l2_47), (3, .ref h0), (4, .int l4_47)]) hx hb dX3_sameBytes_89 hl (k := 1) rfl rfl (by decide) rfl (fun ls hl => ?_)
            refine lv_goto (tgt := 47) hx hb dX3_sameBytes_92 (by decide) ?_
            exact ih_47 H locs ls l1_47 l2_47 l4_47 1 (l7_47 + 1) (lv_sub hl [0, 1, 2, 3, 4, 5, 6] rfl) hS (hD.sub (ws' := [(h0, .inr (3, [.ref qf0, .int v1, .int v2, .int v3, .ref qf4, .ref qf5, .ref qf6, .int v7, .int v8, .int v9, .int v10, .ref qf11, .int v12, .ref qf13])), (qf0, .inl (cf0, nb, .inl f0))]) [0, 1] (by decide) rfl) (hP.sub (ws' := [(h0, .inr (3, [.ref qf0, .int v1, .int v2, .int v3, .ref qf4, .ref qf5, .ref qf6, .int v7, .int v8, .int v9, .int v10, .ref qf11, .int v12, .ref qf13])), (qf0, .inl (cf0, nb, .inl f0))]) [0, 1] rfl) hsp
  intro hj_42
  refine jn_use (α := Heap × List Loc × Array Slot × Int32 × Int32 × Int32) (fun x9 => x9.1) (fun x9 => x9.2.1) (fun x9 => F0 m 41 x9.2.2.1 []) (fun x9 => match x9 with | (H, locs, ls, l1_41, l2_41, l4_41) => lv_has ls 8 [(0, .ref h0), (1, .int l1_41), (2, .int l2_41), (3, .ref h0), (4, .int l4_41)] ∧ va_S A s.heap H locs ∧ va_D A [(h0, .inr (3, [.ref qf0, .int v1, .int v2, .int v3, .ref qf4, .ref qf5, .ref qf6, .int v7, .int v8, .int v9, .int v10, .ref qf11, .int v12, .ref qf13])), (qf0, .inl (cf0, nb, .inl f0))] ∧ va_P (dC, dI) vwCl [(h0, .inr (3, [.ref qf0, .int v1, .int v2, .int v3, .ref qf4, .ref qf5, .ref qf6, .int v7, .int v8, .int v9, .int v10, .ref qf11, .int v12, .ref qf13])), (qf0, .inl (cf0, nb, .inl f0))] H ∧ jn_v3_sameBytesB_41 nf a1 a2 a4 a5 v1 nb f0 l1_41 l2_41 l4_41 = some r0) ?_ ?_
  · intro x9 hJ9
    obtain ⟨H, locs, ls, l1_41, l2_41, l4_41⟩ := x9
    obtain ⟨hl, hS, hD, hP, hsp⟩ := hJ9
    replace hl : lv_has ls 8 [(0, .ref h0), (1, .int l1_41), (2, .int l2_41), (3, .ref h0), (4, .int l4_41)] := hl
    replace hS : va_S A s.heap H locs := hS
    replace hD : va_D A [(h0, .inr (3, [.ref qf0, .int v1, .int v2, .int v3, .ref qf4, .ref qf5, .ref qf6, .int v7, .int v8, .int v9, .int v10, .ref qf11, .int v12, .ref qf13])), (qf0, .inl (cf0, nb, .inl f0))] := hD
    replace hP : va_P (dC, dI) vwCl [(h0, .inr (3, [.ref qf0, .int v1, .int v2, .int v3, .ref qf4, .ref qf5, .ref qf6, .int v7, .int v8, .int v9, .int v10, .ref qf11, .int v12, .ref qf13])), (qf0, .inl (cf0, nb, .inl f0))] H := hP
    replace hsp : jn_v3_sameBytesB_41 nf a1 a2 a4 a5 v1 nb f0 l1_41 l2_41 l4_41 = some r0 := hsp
    show W _ _ _ _ _ _ _ _ _ _ H locs _ _ _ (F0 m 41 ls [])
    unfold jn_v3_sameBytesB_41 at hsp
    try dsimp only at hsp
    refine lv_iconst (v := 0) hx hb dX3_sameBytes_41 (by decide) ?_
    exact hj_42 (H, locs, ls, l1_41, l2_41, l4_41, 0) ⟨lv_sub hl [0, 1, 2, 3, 4] rfl, hS, hD.sub (ws' := [(h0, .inr (3, [.ref qf0, .int v1, .int v2, .int v3, .ref qf4, .ref qf5, .ref qf6, .int v7, .int v8, .int v9, .int v10, .ref qf11, .int v12, .ref qf13])), (qf0, .inl (cf0, nb, .inl f0))]) [0, 1] (by decide) rfl, hP.sub (ws' := [(h0, .inr (3, [.ref qf0, .int v1, .int v2, .int v3, .ref qf4, .ref qf5, .ref qf6, .int v7, .int v8, .int v9, .int v10, .ref qf11, .int v12, .ref qf13])), (qf0, .inl (cf0, nb, .inl f0))]) [0, 1] rfl, hsp⟩
  intro hj_41
  refine lv_iload_n hx hb dX3_sameBytes_0 rfl (lv_at hl 2 rfl) ?_
  refine lv_iload_n hx hb dX3_sameBytes_1 rfl (lv_at hl 1 rfl) ?_
  refine lv_isub hx hb dX3_sameBytes_2 ?_
  refine lv_iload hx hb dX3_sameBytes_3 (lv_at hl 5 rfl) ?_
  refine lv_iload hx hb dX3_sameBytes_5 (lv_at hl 4 rfl) ?_
  refine lv_isub hx hb dX3_sameBytes_7 ?_
  refine lv_icmp_ne (tgt := 41) hx hb dX3_sameBytes_8 (by decide) (fun c_1 => ?_) (fun c_1 => ?_)
  · rw [if_neg c_1] at hsp
    exact hj_41 (H, locs, ls, a1, a2, a4) ⟨lv_sub hl [0, 1, 2, 3, 4] rfl, hS, hD.sub (ws' := [(h0, .inr (3, [.ref qf0, .int v1, .int v2, .int v3, .ref qf4, .ref qf5, .ref qf6, .int v7, .int v8, .int v9, .int v10, .ref qf11, .int v12, .ref qf13])), (qf0, .inl (cf0, nb, .inl f0))]) [0, 1] (by decide) rfl, hP.sub (ws' := [(h0, .inr (3, [.ref qf0, .int v1, .int v2, .int v3, .ref qf4, .ref qf5, .ref qf6, .int v7, .int v8, .int v9, .int v10, .ref qf11, .int v12, .ref qf13])), (qf0, .inl (cf0, nb, .inl f0))]) [0, 1] rfl, hsp⟩
  · rw [if_pos c_1] at hsp
    refine lv_iload_n hx hb dX3_sameBytes_11 rfl (lv_at hl 1 rfl) ?_
    refine lv_if_lt (tgt := 41) hx hb dX3_sameBytes_12 (by decide) (fun c_2 => ?_) (fun c_2 => ?_)
    · rw [if_pos c_2] at hsp
      exact hj_41 (H, locs, ls, a1, a2, a4) ⟨lv_sub hl [0, 1, 2, 3, 4] rfl, hS, hD.sub (ws' := [(h0, .inr (3, [.ref qf0, .int v1, .int v2, .int v3, .ref qf4, .ref qf5, .ref qf6, .int v7, .int v8, .int v9, .int v10, .ref qf11, .int v12, .ref qf13])), (qf0, .inl (cf0, nb, .inl f0))]) [0, 1] (by decide) rfl, hP.sub (ws' := [(h0, .inr (3, [.ref qf0, .int v1, .int v2, .int v3, .ref qf4, .ref qf5, .ref qf6, .int v7, .int v8, .int v9, .int v10, .ref qf11, .int v12, .ref qf13])), (qf0, .inl (cf0, nb, .inl f0))]) [0, 1] rfl, hsp⟩
    · rw [if_neg c_2] at hsp
      refine lv_iload_n hx hb dX3_sameBytes_15 rfl (lv_at hl 2 rfl) ?_
      refine lv_aload_n hx hb dX3_sameBytes_16 rfl (lv_at hl 0 rfl) ?_
      refine va_get (D := (dC, dI)) (ci := 3) (v := .int v1) (C := RX3) (T := TX3) (N := 14) hx hb hts uV_h8_X3 hown hK hP 0 rfl rfl 1 (by decide) (hts (.fieldLink RX3 39 "ClassMill$Image" "size" "I") mw_h8_1) (fun _ h9 => h9) rfl dX3_sameBytes_17 ?_
      refine lv_icmp_gt (tgt := 41) hx hb dX3_sameBytes_20 (by decide) (fun c_3 => ?_) (fun c_3 => ?_)
      · rw [if_pos c_3] at hsp
        exact hj_41 (H, locs, ls, a1, a2, a4) ⟨lv_sub hl [0, 1, 2, 3, 4] rfl, hS, hD.sub (ws' := [(h0, .inr (3, [.ref qf0, .int v1, .int v2, .int v3, .ref qf4, .ref qf5, .ref qf6, .int v7, .int v8, .int v9, .int v10, .ref qf11, .int v12, .ref qf13])), (qf0, .inl (cf0, nb, .inl f0))]) [0, 1] (by decide) rfl, hP.sub (ws' := [(h0, .inr (3, [.ref qf0, .int v1, .int v2, .int v3, .ref qf4, .ref qf5, .ref qf6, .int v7, .int v8, .int v9, .int v10, .ref qf11, .int v12, .ref qf13])), (qf0, .inl (cf0, nb, .inl f0))]) [0, 1] rfl, hsp⟩
      · rw [if_neg c_3] at hsp
        refine lv_iload hx hb dX3_sameBytes_23 (lv_at hl 4 rfl) ?_
        refine lv_if_lt (tgt := 41) hx hb dX3_sameBytes_25 (by decide) (fun c_4 => ?_) (fun c_4 => ?_)
        · rw [if_pos c_4] at hsp
          exact hj_41 (H, locs, ls, a1, a2, a4) ⟨lv_sub hl [0, 1, 2, 3, 4] rfl, hS, hD.sub (ws' := [(h0, .inr (3, [.ref qf0, .int v1, .int v2, .int v3, .ref qf4, .ref qf5, .ref qf6, .int v7, .int v8, .int v9, .int v10, .ref qf11, .int v12, .ref qf13])), (qf0, .inl (cf0, nb, .inl f0))]) [0, 1] (by decide) rfl, hP.sub (ws' := [(h0, .inr (3, [.ref qf0, .int v1, .int v2, .int v3, .ref qf4, .ref qf5, .ref qf6, .int v7, .int v8, .int v9, .int v10, .ref qf11, .int v12, .ref qf13])), (qf0, .inl (cf0, nb, .inl f0))]) [0, 1] rfl, hsp⟩
        · rw [if_neg c_4] at hsp
          refine lv_iload hx hb dX3_sameBytes_28 (lv_at hl 5 rfl) ?_
          refine lv_aload_n hx hb dX3_sameBytes_30 rfl (lv_at hl 3 rfl) ?_
          refine va_get (D := (dC, dI)) (ci := 3) (v := .int v1) (C := RX3) (T := TX3) (N := 14) hx hb hts uV_h8_X3 hown hK hP 0 rfl rfl 1 (by decide) (hts (.fieldLink RX3 39 "ClassMill$Image" "size" "I") mw_h8_1) (fun _ h9 => h9) rfl dX3_sameBytes_31 ?_
          refine lv_icmp_gt (tgt := 41) hx hb dX3_sameBytes_34 (by decide) (fun c_5 => ?_) (fun c_5 => ?_)
          · rw [if_pos c_5] at hsp
            exact hj_41 (H, locs, ls, a1, a2, a4) ⟨lv_sub hl [0, 1, 2, 3, 4] rfl, hS, hD.sub (ws' := [(h0, .inr (3, [.ref qf0, .int v1, .int v2, .int v3, .ref qf4, .ref qf5, .ref qf6, .int v7, .int v8, .int v9, .int v10, .ref qf11, .int v12, .ref qf13])), (qf0, .inl (cf0, nb, .inl f0))]) [0, 1] (by decide) rfl, hP.sub (ws' := [(h0, .inr (3, [.ref qf0, .int v1, .int v2, .int v3, .ref qf4, .ref qf5, .ref qf6, .int v7, .int v8, .int v9, .int v10, .ref qf11, .int v12, .ref qf13])), (qf0, .inl (cf0, nb, .inl f0))]) [0, 1] rfl, hsp⟩
          · rw [if_neg c_5] at hsp
            refine lv_iconst (v := 1) hx hb dX3_sameBytes_37 (by decide) ?_
            refine lv_goto (tgt := 42) hx hb dX3_sameBytes_38 (by decide) ?_
            exact hj_42 (H, locs, ls, a1, a2, a4, 1) ⟨lv_sub hl [0, 1, 2, 3, 4] rfl, hS, hD.sub (ws' := [(h0, .inr (3, [.ref qf0, .int v1, .int v2, .int v3, .ref qf4, .ref qf5, .ref qf6, .int v7, .int v8, .int v9, .int v10, .ref qf11, .int v12, .ref qf13])), (qf0, .inl (cf0, nb, .inl f0))]) [0, 1] (by decide) rfl, hP.sub (ws' := [(h0, .inr (3, [.ref qf0, .int v1, .int v2, .int v3, .ref qf4, .ref qf5, .ref qf6, .int v7, .int v8, .int v9, .int v10, .ref qf11, .int v12, .ref qf13])), (qf0, .inl (cf0, nb, .inl f0))]) [0, 1] rfl, hsp⟩
def sp_v3_sameTextB (nf : Nat) (a1 : Int32) (a3 : Int32) (v1 : Int32) (v7 : Int32) (f5 : Nat → Int32) (f6 : Nat → Int32) (nb : Nat) (f0 : Nat → Int32) : Option (Int32) := ((sp_ti_textAt nf a1 v7 f5).bind (fun p1 => ((sp_ti_textEnd nf a1 v7 f6).bind (fun p2 => ((sp_ti_textAt nf a3 v7 f5).bind (fun p3 => ((sp_ti_textEnd nf a3 v7 f6).bind (fun p4 => ((sp_v3_sameBytesB nf p1 p2 p3 p4 v1 nb f0).bind (fun p5 => (if p5 = 0 then (some 0) else (some 1))))))))))))
set_option maxHeartbeats 4000000 in
set_option maxRecDepth 100000 in
/-- ClassMill$Image.sameText -/
theorem v3_sameTextB (l : Launch) (dC : Nat → ClassId) (dI : Nat → Nat → Nat) (sz : Nat) (h0 : Nat) (a1 : Int32) (a3 : Int32) (qf0 : Nat) (v1 : Int32) (v2 : Int32) (v3 : Int32) (qf4 : Nat) (qf5 : Nat) (qf6 : Nat) (v7 : Int32) (v8 : Int32) (v9 : Int32) (v10 : Int32) (qf11 : Nat) (v12 : Int32) (qf13 : Nat) (cf5 : ClassId) (f5 : (Nat → Int32)) (cf6 : ClassId) (f6 : (Nat → Int32)) (cf0 : ClassId) (nb : Nat) (f0 : (Nat → Int32)) (nf : Nat) (r0 : Int32) (hsp : sp_v3_sameTextB nf a1 a3 v1 v7 f5 f6 nb f0 = some r0) : Met l yX3_sameText (.code yX3_sameText cX3_sameText 4 (some .boolean) :: VS_h8) ({ frames := 1, cells := 0, slots := 0, locals := 27 }) (va_Pc [.ref h0, .int a1, .ref h0, .int a3] (fun U => U.heap.size = sz ∧ va_P (dC, dI) vwCl [(h0, .inr (3, [.ref qf0, .int v1, .int v2, .int v3, .ref qf4, .ref qf5, .ref qf6, .int v7, .int v8, .int v9, .int v10, .ref qf11, .int v12, .ref qf13])), (qf5, .inl (cf5, 256, .inl f5)), (qf6, .inl (cf6, 256, .inl f6)), (qf0, .inl (cf0, nb, .inl f0))] U.heap ∧ va_K (dC, dI) vwCl [(cf5, .int), (cf6, .int), (cf0, .byte)] U ∧ va_D (fun _ => True) [(h0, .inr (3, [.ref qf0, .int v1, .int v2, .int v3, .ref qf4, .ref qf5, .ref qf6, .int v7, .int v8, .int v9, .int v10, .ref qf11, .int v12, .ref qf13])), (qf5, .inl (cf5, 256, .inl f5)), (qf6, .inl (cf6, 256, .inl f6)), (qf0, .inl (cf0, nb, .inl f0))])) (va_Qi (fun (r : Int32) (u : Unit) => match u with | () => r0 = r ∧ (r0 = 0 ∨ r0 = 1)) (fun (u : Unit) (t : State) => match u with | () => va_P (dC, dI) vwCl [(h0, .inr (3, [.ref qf0, .int v1, .int v2, .int v3, .ref qf4, .ref qf5, .ref qf6, .int v7, .int v8, .int v9, .int v10, .ref qf11, .int v12, .ref qf13])), (qf5, .inl (cf5, 256, .inl f5)), (qf6, .inl (cf6, 256, .inl f6)), (qf0, .inl (cf0, nb, .inl f0))] t.heap ∧ va_K (dC, dI) vwCl [(cf5, .int), (cf6, .int), (cf0, .byte)] t ∧ va_D (va_A [(h0, .inr (3, [.ref qf0, .int v1, .int v2, .int v3, .ref qf4, .ref qf5, .ref qf6, .int v7, .int v8, .int v9, .int v10, .ref qf11, .int v12, .ref qf13])), (qf5, .inl (cf5, 256, .inl f5)), (qf6, .inl (cf6, 256, .inl f6)), (qf0, .inl (cf0, nb, .inl f0))] sz) [(h0, .inr (3, [.ref qf0, .int v1, .int v2, .int v3, .ref qf4, .ref qf5, .ref qf6, .int v7, .int v8, .int v9, .int v10, .ref qf11, .int v12, .ref qf13])), (qf5, .inl (cf5, 256, .inl f5)), (qf6, .inl (cf6, 256, .inl f6)), (qf0, .inl (cf0, nb, .inl f0))]) (va_A [(h0, .inr (3, [.ref qf0, .int v1, .int v2, .int v3, .ref qf4, .ref qf5, .ref qf6, .int v7, .int v8, .int v9, .int v10, .ref qf11, .int v12, .ref qf13])), (qf5, .inl (cf5, 256, .inl f5)), (qf6, .inl (cf6, 256, .inl f6)), (qf0, .inl (cf0, nb, .inl f0))] sz)) 0 0 (va_A [(h0, .inr (3, [.ref qf0, .int v1, .int v2, .int v3, .ref qf4, .ref qf5, .ref qf6, .int v7, .int v8, .int v9, .int v10, .ref qf11, .int v12, .ref qf13])), (qf5, .inl (cf5, 256, .inl f5)), (qf6, .inl (cf6, 256, .inl f6)), (qf0, .inl (cf0, nb, .inl f0))] sz) := by
  refine Met.ofW (cc := cX3_sameText) (maxL := 4) (ret := (some .boolean)) (by decide) rfl ?_
  intro p e s m args below meth c s₁ B hml hv
  obtain ⟨rfl, hsz, hP, hK, hD0⟩ := hv
  have hx := B.exec
  have hb := B.bytes
  have hr := B.returns
  have hts := atoms_spec (ws := (.code yX3_sameText cX3_sameText 4 (some .boolean) :: VS_h8)) B.pre
  replace hts := fun w (h : w ∈ VS_h8) => hts w (List.mem_cons_of_mem _ h)
  have hown : s.vm.findClass RX3 = some m.cls := findClass_of_methodNamed B.named
  have hlocks := B.notSynchronized
  subst hsz
  have hD := hD0.self (sz := s.heap.size)
  generalize hAe : va_A [(h0, .inr (3, [.ref qf0, .int v1, .int v2, .int v3, .ref qf4, .ref qf5, .ref qf6, .int v7, .int v8, .int v9, .int v10, .ref qf11, .int v12, .ref qf13])), (qf5, .inl (cf5, 256, .inl f5)), (qf6, .inl (cf6, 256, .inl f6)), (qf0, .inl (cf0, nb, .inl f0))] s.heap.size = A at hD  ⊢
  have hA : ∀ q : Nat, s.heap.size ≤ q → A q := fun q h => by rw [← hAe]; exact Or.inr h
  have hP : va_P (dC, dI) vwCl [(h0, .inr (3, [.ref qf0, .int v1, .int v2, .int v3, .ref qf4, .ref qf5, .ref qf6, .int v7, .int v8, .int v9, .int v10, .ref qf11, .int v12, .ref qf13])), (qf5, .inl (cf5, 256, .inl f5)), (qf6, .inl (cf6, 256, .inl f6)), (qf0, .inl (cf0, nb, .inl f0))] s.heap := hP
  have hl := lv_entry ([.ref h0, .int a1, .ref h0, .int a3]) (n := 4) (Nat.le_of_ble_eq_true rfl)
  rw [lg_entry_eq]
  generalize (lg_sl ([.ref h0, .int a1, .ref h0, .int a3]) ++ List.replicate (4 - (lg_sl ([.ref h0, .int a1, .ref h0, .int a3])).length) Slot.unset).toArray = ls at hl ⊢
  have hl : lv_has ls 4 [(0, .ref h0), (1, .int a1), (2, .ref h0), (3, .int a3)] := hl
  obtain ⟨H, hH⟩ : ∃ H : Heap, s.heap = H := ⟨_, rfl⟩
  rw [hH] at hP ⊢
  have hS : va_S A s.heap H [] := by rw [← hH]; exact va_S.rf
  obtain ⟨locs, hlo⟩ : ∃ locs : List Loc, locs = [] := ⟨_, rfl⟩
  rw [← hlo] at hS ⊢
  unfold sp_v3_sameTextB at hsp
  refine lv_aload_n hx hb dX3_sameText_0 rfl (lv_at hl 0 rfl) ?_
  refine lv_aload_n hx hb dX3_sameText_1 rfl (lv_at hl 0 rfl) ?_
  refine lv_iload_n hx hb dX3_sameText_2 rfl (lv_at hl 1 rfl) ?_
  obtain ⟨u1_0, hu_1, hsp⟩ := ox_bind hsp
  try dsimp only at hsp
  have hPc := hP.sub (ws' := [(h0, .inr (3, [.ref qf0, .int v1, .int v2, .int v3, .ref qf4, .ref qf5, .ref qf6, .int v7, .int v8, .int v9, .int v10, .ref qf11, .int v12, .ref qf13])), (qf5, .inl (cf5, 256, .inl f5))]) [0, 1] rfl
  have hDc := hD.sub (ws' := [(h0, .inr (3, [.ref qf0, .int v1, .int v2, .int v3, .ref qf4, .ref qf5, .ref qf6, .int v7, .int v8, .int v9, .int v10, .ref qf11, .int v12, .ref qf13])), (qf5, .inl (cf5, 256, .inl f5))]) [0, 1] (by decide) rfl
  have hKc := hK.sub (tys' := [(cf5, .int)]) [0] rfl
  have hFc := va_free (wc := [(h0, .inr (3, [.ref qf0, .int v1, .int v2, .int v3, .ref qf4, .ref qf5, .ref qf6, .int v7, .int v8, .int v9, .int v10, .ref qf11, .int v12, .ref qf13])), (qf5, .inl (cf5, 256, .inl f5))]) hD hS hA [0, 1] rfl
  refine va_calli (va_runV (As := [.int a1]) (rest := [.ref h0]) ⟨hx, hb, hml, hown, hts⟩ (ti_textAt l dC dI H.size h0 a1 qf0 v1 v2 v3 qf4 qf5 qf6 v7 v8 v9 v10 qf11 v12 qf13 cf5 f5 nf u1_0 hu_1) (cwV 1 hts gv_h8_0 rfl rfl rfl (by decide +kernel) ⟨Nat.le_of_ble_eq_true rfl, Nat.le_of_ble_eq_true rfl⟩) ⟨fun a U g mk q => by obtain ⟨q0, q1, qP, qK, qD⟩ := q; exact ⟨q0, q1, qP, va_K.moved (u := U) (U := U.calling g mk a) (Vm.Alike.refl U.vm) qK, qD⟩, va_recv hKc hPc (ci := 3) (q0 := 0) rfl rfl, fun U hU hW => ⟨rfl, by rw [hU], by rw [hU]; exact hPc, va_K.moved hW.alike hKc, hDc.weaken (fun _ _ _ _ => trivial)⟩⟩ rfl rfl hl.1 rfl (lv_room (Nat.le_of_ble_eq_true rfl)) dX3_sameText_3 ⟨Nat.le_of_ble_eq_true rfl, Nat.le_of_ble_eq_true rfl⟩) hS (fun q _ h => hFc q h) hFc ?_
  clear hS
  intro r_1 u t H1 locs ht hvm hw hB hz1 hk1 hS
  obtain ⟨⟩ := u
  obtain ⟨hP1, hK1, hD1⟩ := hB
  rw [ht] at hP1
  have hK1 := va_K.moved hvm.symm hK1
  try dsimp only at hw
  have hPD := va_join (wr := [(qf6, .inl (cf6, 256, .inl f6)), (qf0, .inl (cf0, nb, .inl f0))]) (w1 := [(h0, .inr (3, [.ref qf0, .int v1, .int v2, .int v3, .ref qf4, .ref qf5, .ref qf6, .int v7, .int v8, .int v9, .int v10, .ref qf11, .int v12, .ref qf13])), (qf5, .inl (cf5, 256, .inl f5))]) hP hD [0, 1] [2, 3] rfl rfl (by decide) (by decide) hk1 hFc hP1 hD1
  clear hP hD
  obtain ⟨hP, hD⟩ := hPD
  replace hK := (hK.sub (tys' := [(cf6, .int), (cf0, .byte)]) [1, 2] rfl).app hK1
  clear hPc hDc hKc hFc hP1 hK1 hD1 hz1 hk1 ht hvm
  generalize H1 = H at hP hS ⊢
  replace hP : va_P (dC, dI) vwCl [(qf6, .inl (cf6, 256, .inl f6)), (qf0, .inl (cf0, nb, .inl f0)), (h0, .inr (3, [.ref qf0, .int v1, .int v2, .int v3, .ref qf4, .ref qf5, .ref qf6, .int v7, .int v8, .int v9, .int v10, .ref qf11, .int v12, .ref qf13])), (qf5, .inl (cf5, 256, .inl f5))] H := hP
  replace hD : va_D A [(qf6, .inl (cf6, 256, .inl f6)), (qf0, .inl (cf0, nb, .inl f0)), (h0, .inr (3, [.ref qf0, .int v1, .int v2, .int v3, .ref qf4, .ref qf5, .ref qf6, .int v7, .int v8, .int v9, .int v10, .ref qf11, .int v12, .ref qf13])), (qf5, .inl (cf5, 256, .inl f5))] := hD
  replace hK : va_K (dC, dI) vwCl [(cf6, .int), (cf0, .byte), (cf5, .int)] s := hK
  obtain rfl := hw
  refine lv_aload_n hx hb dX3_sameText_6 rfl (lv_at hl 0 rfl) ?_
  refine lv_iload_n hx hb dX3_sameText_7 rfl (lv_at hl 1 rfl) ?_
  obtain ⟨u2_0, hu_2, hsp⟩ := ox_bind hsp
  try dsimp only at hsp
  have hPc := hP.sub (ws' := [(h0, .inr (3, [.ref qf0, .int v1, .int v2, .int v3, .ref qf4, .ref qf5, .ref qf6, .int v7, .int v8, .int v9, .int v10, .ref qf11, .int v12, .ref qf13])), (qf6, .inl (cf6, 256, .inl f6))]) [2, 0] rfl
  have hDc := hD.sub (ws' := [(h0, .inr (3, [.ref qf0, .int v1, .int v2, .int v3, .ref qf4, .ref qf5, .ref qf6, .int v7, .int v8, .int v9, .int v10, .ref qf11, .int v12, .ref qf13])), (qf6, .inl (cf6, 256, .inl f6))]) [2, 0] (by decide) rfl
  have hKc := hK.sub (tys' := [(cf6, .int)]) [0] rfl
  have hFc := va_free (wc := [(h0, .inr (3, [.ref qf0, .int v1, .int v2, .int v3, .ref qf4, .ref qf5, .ref qf6, .int v7, .int v8, .int v9, .int v10, .ref qf11, .int v12, .ref qf13])), (qf6, .inl (cf6, 256, .inl f6))]) hD hS hA [2, 0] rfl
  refine va_calli (va_runV (As := [.int a1]) (rest := [.int u1_0, .ref h0]) ⟨hx, hb, hml, hown, hts⟩ (ti_textEnd l dC dI H.size h0 a1 qf0 v1 v2 v3 qf4 qf5 qf6 v7 v8 v9 v10 qf11 v12 qf13 cf6 f6 nf u2_0 hu_2) (cwV 1 hts gv_h8_1 rfl rfl rfl (by decide +kernel) ⟨Nat.le_of_ble_eq_true rfl, Nat.le_of_ble_eq_true rfl⟩) ⟨fun a U g mk q => by obtain ⟨q0, q1, qP, qK, qD⟩ := q; exact ⟨q0, q1, qP, va_K.moved (u := U) (U := U.calling g mk a) (Vm.Alike.refl U.vm) qK, qD⟩, va_recv hKc hPc (ci := 3) (q0 := 0) rfl rfl, fun U hU hW => ⟨rfl, by rw [hU], by rw [hU]; exact hPc, va_K.moved hW.alike hKc, hDc.weaken (fun _ _ _ _ => trivial)⟩⟩ rfl rfl hl.1 rfl (lv_room (Nat.le_of_ble_eq_true rfl)) dX3_sameText_8 ⟨Nat.le_of_ble_eq_true rfl, Nat.le_of_ble_eq_true rfl⟩) hS (fun q _ h => hFc q h) hFc ?_
  clear hS
  intro r_2 u t H1 locs ht hvm hw hB hz1 hk1 hS
  obtain ⟨⟩ := u
  obtain ⟨hP1, hK1, hD1⟩ := hB
  rw [ht] at hP1
  have hK1 := va_K.moved hvm.symm hK1
  try dsimp only at hw
  have hPD := va_join (wr := [(qf0, .inl (cf0, nb, .inl f0)), (qf5, .inl (cf5, 256, .inl f5))]) (w1 := [(h0, .inr (3, [.ref qf0, .int v1, .int v2, .int v3, .ref qf4, .ref qf5, .ref qf6, .int v7, .int v8, .int v9, .int v10, .ref qf11, .int v12, .ref qf13])), (qf6, .inl (cf6, 256, .inl f6))]) hP hD [2, 0] [1, 3] rfl rfl (by decide) (by decide) hk1 hFc hP1 hD1
  clear hP hD
  obtain ⟨hP, hD⟩ := hPD
  replace hK := (hK.sub (tys' := [(cf0, .byte), (cf5, .int)]) [1, 2] rfl).app hK1
  clear hPc hDc hKc hFc hP1 hK1 hD1 hz1 hk1 ht hvm
  generalize H1 = H at hP hS ⊢
  replace hP : va_P (dC, dI) vwCl [(qf0, .inl (cf0, nb, .inl f0)), (qf5, .inl (cf5, 256, .inl f5)), (h0, .inr (3, [.ref qf0, .int v1, .int v2, .int v3, .ref qf4, .ref qf5, .ref qf6, .int v7, .int v8, .int v9, .int v10, .ref qf11, .int v12, .ref qf13])), (qf6, .inl (cf6, 256, .inl f6))] H := hP
  replace hD : va_D A [(qf0, .inl (cf0, nb, .inl f0)), (qf5, .inl (cf5, 256, .inl f5)), (h0, .inr (3, [.ref qf0, .int v1, .int v2, .int v3, .ref qf4, .ref qf5, .ref qf6, .int v7, .int v8, .int v9, .int v10, .ref qf11, .int v12, .ref qf13])), (qf6, .inl (cf6, 256, .inl f6))] := hD
  replace hK : va_K (dC, dI) vwCl [(cf0, .byte), (cf5, .int), (cf6, .int)] s := hK
  obtain rfl := hw
  refine lv_aload_n hx hb dX3_sameText_11 rfl (lv_at hl 2 rfl) ?_
  refine lv_aload_n hx hb dX3_sameText_12 rfl (lv_at hl 2 rfl) ?_
  refine lv_iload_n hx hb dX3_sameText_13 rfl (lv_at hl 3 rfl) ?_
  obtain ⟨u3_0, hu_3, hsp⟩ := ox_bind hsp
  try dsimp only at hsp
  have hPc := hP.sub (ws' := [(h0, .inr (3, [.ref qf0, .int v1, .int v2, .int v3, .ref qf4, .ref qf5, .ref qf6, .int v7, .int v8, .int v9, .int v10, .ref qf11, .int v12, .ref qf13])), (qf5, .inl (cf5, 256, .inl f5))]) [2, 1] rfl
  have hDc := hD.sub (ws' := [(h0, .inr (3, [.ref qf0, .int v1, .int v2, .int v3, .ref qf4, .ref qf5, .ref qf6, .int v7, .int v8, .int v9, .int v10, .ref qf11, .int v12, .ref qf13])), (qf5, .inl (cf5, 256, .inl f5))]) [2, 1] (by decide) rfl
  have hKc := hK.sub (tys' := [(cf5, .int)]) [1] rfl
  have hFc := va_free (wc := [(h0, .inr (3, [.ref qf0, .int v1, .int v2, .int v3, .ref qf4, .ref qf5, .ref qf6, .int v7, .int v8, .int v9, .int v10, .ref qf11, .int v12, .ref qf13])), (qf5, .inl (cf5, 256, .inl f5))]) hD hS hA [2, 1] rfl
  refine va_calli (va_runV (As := [.int a3]) (rest := [.ref h0, .int u2_0, .int u1_0, .ref h0]) ⟨hx, hb, hml, hown, hts⟩ (ti_textAt l dC dI H.size h0 a3 qf0 v1 v2 v3 qf4 qf5 qf6 v7 v8 v9 v10 qf11 v12 qf13 cf5 f5 nf u3_0 hu_3) (cwV 1 hts gv_h8_0 rfl rfl rfl (by decide +kernel) ⟨Nat.le_of_ble_eq_true rfl, Nat.le_of_ble_eq_true rfl⟩) ⟨fun a U g mk q => by obtain ⟨q0, q1, qP, qK, qD⟩ := q; exact ⟨q0, q1, qP, va_K.moved (u := U) (U := U.calling g mk a) (Vm.Alike.refl U.vm) qK, qD⟩, va_recv hKc hPc (ci := 3) (q0 := 0) rfl rfl, fun U hU hW => ⟨rfl, by rw [hU], by rw [hU]; exact hPc, va_K.moved hW.alike hKc, hDc.weaken (fun _ _ _ _ => trivial)⟩⟩ rfl rfl hl.1 rfl (lv_room (Nat.le_of_ble_eq_true rfl)) dX3_sameText_14 ⟨Nat.le_of_ble_eq_true rfl, Nat.le_of_ble_eq_true rfl⟩) hS (fun q _ h => hFc q h) hFc ?_
  clear hS
  intro r_3 u t H1 locs ht hvm hw hB hz1 hk1 hS
  obtain ⟨⟩ := u
  obtain ⟨hP1, hK1, hD1⟩ := hB
  rw [ht] at hP1
  have hK1 := va_K.moved hvm.symm hK1
  try dsimp only at hw
  have hPD := va_join (wr := [(qf0, .inl (cf0, nb, .inl f0)), (qf6, .inl (cf6, 256, .inl f6))]) (w1 := [(h0, .inr (3, [.ref qf0, .int v1, .int v2, .int v3, .ref qf4, .ref qf5, .ref qf6, .int v7, .int v8, .int v9, .int v10, .ref qf11, .int v12, .ref qf13])), (qf5, .inl (cf5, 256, .inl f5))]) hP hD [2, 1] [0, 3] rfl rfl (by decide) (by decide) hk1 hFc hP1 hD1
  clear hP hD
  obtain ⟨hP, hD⟩ := hPD
  replace hK := (hK.sub (tys' := [(cf0, .byte), (cf6, .int)]) [0, 2] rfl).app hK1
  clear hPc hDc hKc hFc hP1 hK1 hD1 hz1 hk1 ht hvm
  generalize H1 = H at hP hS ⊢
  replace hP : va_P (dC, dI) vwCl [(qf0, .inl (cf0, nb, .inl f0)), (qf6, .inl (cf6, 256, .inl f6)), (h0, .inr (3, [.ref qf0, .int v1, .int v2, .int v3, .ref qf4, .ref qf5, .ref qf6, .int v7, .int v8, .int v9, .int v10, .ref qf11, .int v12, .ref qf13])), (qf5, .inl (cf5, 256, .inl f5))] H := hP
  replace hD : va_D A [(qf0, .inl (cf0, nb, .inl f0)), (qf6, .inl (cf6, 256, .inl f6)), (h0, .inr (3, [.ref qf0, .int v1, .int v2, .int v3, .ref qf4, .ref qf5, .ref qf6, .int v7, .int v8, .int v9, .int v10, .ref qf11, .int v12, .ref qf13])), (qf5, .inl (cf5, 256, .inl f5))] := hD
  replace hK : va_K (dC, dI) vwCl [(cf0, .byte), (cf6, .int), (cf5, .int)] s := hK
  obtain rfl := hw
  refine lv_aload_n hx hb dX3_sameText_17 rfl (lv_at hl 2 rfl) ?_
  refine lv_iload_n hx hb dX3_sameText_18 rfl (lv_at hl 3 rfl) ?_
  obtain ⟨u4_0, hu_4, hsp⟩ := ox_bind hsp
  try dsimp only at hsp
  have hPc := hP.sub (ws' := [(h0, .inr (3, [.ref qf0, .int v1, .int v2, .int v3, .ref qf4, .ref qf5, .ref qf6, .int v7, .int v8, .int v9, .int v10, .ref qf11, .int v12, .ref qf13])), (qf6, .inl (cf6, 256, .inl f6))]) [2, 1] rfl
  have hDc := hD.sub (ws' := [(h0, .inr (3, [.ref qf0, .int v1, .int v2, .int v3, .ref qf4, .ref qf5, .ref qf6, .int v7, .int v8, .int v9, .int v10, .ref qf11, .int v12, .ref qf13])), (qf6, .inl (cf6, 256, .inl f6))]) [2, 1] (by decide) rfl
  have hKc := hK.sub (tys' := [(cf6, .int)]) [1] rfl
  have hFc := va_free (wc := [(h0, .inr (3, [.ref qf0, .int v1, .int v2, .int v3, .ref qf4, .ref qf5, .ref qf6, .int v7, .int v8, .int v9, .int v10, .ref qf11, .int v12, .ref qf13])), (qf6, .inl (cf6, 256, .inl f6))]) hD hS hA [2, 1] rfl
  refine va_calli (va_runV (As := [.int a3]) (rest := [.int u3_0, .ref h0, .int u2_0, .int u1_0, .ref h0]) ⟨hx, hb, hml, hown, hts⟩ (ti_textEnd l dC dI H.size h0 a3 qf0 v1 v2 v3 qf4 qf5 qf6 v7 v8 v9 v10 qf11 v12 qf13 cf6 f6 nf u4_0 hu_4) (cwV 1 hts gv_h8_1 rfl rfl rfl (by decide +kernel) ⟨Nat.le_of_ble_eq_true rfl, Nat.le_of_ble_eq_true rfl⟩) ⟨fun a U g mk q => by obtain ⟨q0, q1, qP, qK, qD⟩ := q; exact ⟨q0, q1, qP, va_K.moved (u := U) (U := U.calling g mk a) (Vm.Alike.refl U.vm) qK, qD⟩, va_recv hKc hPc (ci := 3) (q0 := 0) rfl rfl, fun U hU hW => ⟨rfl, by rw [hU], by rw [hU]; exact hPc, va_K.moved hW.alike hKc, hDc.weaken (fun _ _ _ _ => trivial)⟩⟩ rfl rfl hl.1 rfl (lv_room (Nat.le_of_ble_eq_true rfl)) dX3_sameText_19 ⟨Nat.le_of_ble_eq_true rfl, Nat.le_of_ble_eq_true rfl⟩) hS (fun q _ h => hFc q h) hFc ?_
  clear hS
  intro r_4 u t H1 locs ht hvm hw hB hz1 hk1 hS
  obtain ⟨⟩ := u
  obtain ⟨hP1, hK1, hD1⟩ := hB
  rw [ht] at hP1
  have hK1 := va_K.moved hvm.symm hK1
  try dsimp only at hw
  have hPD := va_join (wr := [(qf0, .inl (cf0, nb, .inl f0)), (qf5, .inl (cf5, 256, .inl f5))]) (w1 := [(h0, .inr (3, [.ref qf0, .int v1, .int v2, .int v3, .ref qf4, .ref qf5, .ref qf6, .int v7, .int v8, .int v9, .int v10, .ref qf11, .int v12, .ref qf13])), (qf6, .inl (cf6, 256, .inl f6))]) hP hD [2, 1] [0, 3] rfl rfl (by decide) (by decide) hk1 hFc hP1 hD1
  clear hP hD
  obtain ⟨hP, hD⟩ := hPD
  replace hK := (hK.sub (tys' := [(cf0, .byte), (cf5, .int)]) [0, 2] rfl).app hK1
  clear hPc hDc hKc hFc hP1 hK1 hD1 hz1 hk1 ht hvm
  generalize H1 = H at hP hS ⊢
  replace hP : va_P (dC, dI) vwCl [(qf0, .inl (cf0, nb, .inl f0)), (qf5, .inl (cf5, 256, .inl f5)), (h0, .inr (3, [.ref qf0, .int v1, .int v2, .int v3, .ref qf4, .ref qf5, .ref qf6, .int v7, .int v8, .int v9, .int v10, .ref qf11, .int v12, .ref qf13])), (qf6, .inl (cf6, 256, .inl f6))] H := hP
  replace hD : va_D A [(qf0, .inl (cf0, nb, .inl f0)), (qf5, .inl (cf5, 256, .inl f5)), (h0, .inr (3, [.ref qf0, .int v1, .int v2, .int v3, .ref qf4, .ref qf5, .ref qf6, .int v7, .int v8, .int v9, .int v10, .ref qf11, .int v12, .ref qf13])), (qf6, .inl (cf6, 256, .inl f6))] := hD
  replace hK : va_K (dC, dI) vwCl [(cf0, .byte), (cf5, .int), (cf6, .int)] s := hK
  obtain rfl := hw
  obtain ⟨u5_0, hu_5, hsp⟩ := ox_bind hsp
  try dsimp only at hsp
  have hPc := hP.sub (ws' := [(h0, .inr (3, [.ref qf0, .int v1, .int v2, .int v3, .ref qf4, .ref qf5, .ref qf6, .int v7, .int v8, .int v9, .int v10, .ref qf11, .int v12, .ref qf13])), (qf0, .inl (cf0, nb, .inl f0))]) [2, 0] rfl
  have hDc := hD.sub (ws' := [(h0, .inr (3, [.ref qf0, .int v1, .int v2, .int v3, .ref qf4, .ref qf5, .ref qf6, .int v7, .int v8, .int v9, .int v10, .ref qf11, .int v12, .ref qf13])), (qf0, .inl (cf0, nb, .inl f0))]) [2, 0] (by decide) rfl
  have hKc := hK.sub (tys' := [(cf0, .byte)]) [0] rfl
  have hFc := va_free (wc := [(h0, .inr (3, [.ref qf0, .int v1, .int v2, .int v3, .ref qf4, .ref qf5, .ref qf6, .int v7, .int v8, .int v9, .int v10, .ref qf11, .int v12, .ref qf13])), (qf0, .inl (cf0, nb, .inl f0))]) hD hS hA [2, 0] rfl
  refine va_calli (va_runV (As := [.int u1_0, .int u2_0, .ref h0, .int u3_0, .int u4_0]) (rest := []) ⟨hx, hb, hml, hown, hts⟩ (v3_sameBytesB l dC dI H.size h0 u1_0 u2_0 u3_0 u4_0 qf0 v1 v2 v3 qf4 qf5 qf6 v7 v8 v9 v10 qf11 v12 qf13 cf0 nb f0 nf u5_0 hu_5) (cwV 5 hts gv_h8_2 rfl rfl rfl (by decide +kernel) ⟨Nat.le_of_ble_eq_true rfl, Nat.le_of_ble_eq_true rfl⟩) ⟨fun a U g mk q => by obtain ⟨q0, q1, qP, qK, qD⟩ := q; exact ⟨q0, q1, qP, va_K.moved (u := U) (U := U.calling g mk a) (Vm.Alike.refl U.vm) qK, qD⟩, va_recv hKc hPc (ci := 3) (q0 := 0) rfl rfl, fun U hU hW => ⟨rfl, by rw [hU], by rw [hU]; exact hPc, va_K.moved hW.alike hKc, hDc.weaken (fun _ _ _ _ => trivial)⟩⟩ rfl rfl hl.1 rfl (lv_room (Nat.le_of_ble_eq_true rfl)) dX3_sameText_22 ⟨Nat.le_of_ble_eq_true rfl, Nat.le_of_ble_eq_true rfl⟩) hS (fun q _ h => hFc q h) hFc ?_
  clear hS
  intro r_5 u t H1 locs ht hvm hw hB hz1 hk1 hS
  obtain ⟨⟩ := u
  obtain ⟨hP1, hK1, hD1⟩ := hB
  rw [ht] at hP1
  have hK1 := va_K.moved hvm.symm hK1
  try dsimp only at hw
  have hPD := va_join (wr := [(qf5, .inl (cf5, 256, .inl f5)), (qf6, .inl (cf6, 256, .inl f6))]) (w1 := [(h0, .inr (3, [.ref qf0, .int v1, .int v2, .int v3, .ref qf4, .ref qf5, .ref qf6, .int v7, .int v8, .int v9, .int v10, .ref qf11, .int v12, .ref qf13])), (qf0, .inl (cf0, nb, .inl f0))]) hP hD [2, 0] [1, 3] rfl rfl (by decide) (by decide) hk1 hFc hP1 hD1
  clear hP hD
  obtain ⟨hP, hD⟩ := hPD
  replace hK := (hK.sub (tys' := [(cf5, .int), (cf6, .int)]) [1, 2] rfl).app hK1
  clear hPc hDc hKc hFc hP1 hK1 hD1 hz1 hk1 ht hvm
  generalize H1 = H at hP hS ⊢
  replace hP : va_P (dC, dI) vwCl [(qf5, .inl (cf5, 256, .inl f5)), (qf6, .inl (cf6, 256, .inl f6)), (h0, .inr (3, [.ref qf0, .int v1, .int v2, .int v3, .ref qf4, .ref qf5, .ref qf6, .int v7, .int v8, .int v9, .int v10, .ref qf11, .int v12, .ref qf13])), (qf0, .inl (cf0, nb, .inl f0))] H := hP
  replace hD : va_D A [(qf5, .inl (cf5, 256, .inl f5)), (qf6, .inl (cf6, 256, .inl f6)), (h0, .inr (3, [.ref qf0, .int v1, .int v2, .int v3, .ref qf4, .ref qf5, .ref qf6, .int v7, .int v8, .int v9, .int v10, .ref qf11, .int v12, .ref qf13])), (qf0, .inl (cf0, nb, .inl f0))] := hD
  replace hK : va_K (dC, dI) vwCl [(cf5, .int), (cf6, .int), (cf0, .byte)] s := hK
  obtain ⟨rfl, hz_5⟩ := hw
  rcases hz_5 with rfl | rfl
  · rw [if_pos rfl] at hsp
    have hr0 := Option.some.inj hsp
    clear hsp
    subst hr0
    have hP9 := hP.sub (ws' := [(h0, .inr (3, [.ref qf0, .int v1, .int v2, .int v3, .ref qf4, .ref qf5, .ref qf6, .int v7, .int v8, .int v9, .int v10, .ref qf11, .int v12, .ref qf13])), (qf5, .inl (cf5, 256, .inl f5)), (qf6, .inl (cf6, 256, .inl f6)), (qf0, .inl (cf0, nb, .inl f0))]) [2, 0, 1, 3] rfl
    have hD9 := hD.sub (ws' := [(h0, .inr (3, [.ref qf0, .int v1, .int v2, .int v3, .ref qf4, .ref qf5, .ref qf6, .int v7, .int v8, .int v9, .int v10, .ref qf11, .int v12, .ref qf13])), (qf5, .inl (cf5, 256, .inl f5)), (qf6, .inl (cf6, 256, .inl f6)), (qf0, .inl (cf0, nb, .inl f0))]) [2, 0, 1, 3] (by decide) rfl
    have hK9 := hK.sub (tys' := [(cf5, .int), (cf6, .int), (cf0, .byte)]) [0, 1, 2] rfl
    exact W.zret hx hb hr (by decide) (fun t ht hW => ⟨⟨(0), (), rfl, ⟨rfl, Or.inl rfl⟩, by rw [ht]; exact hP9, va_K.moved hW.alike hK9, hD9⟩, hS.F ht⟩) hS.2.2 dX3_sameText_25
  · rw [if_neg (by decide)] at hsp
    have hr0 := Option.some.inj hsp
    clear hsp
    subst hr0
    have hP9 := hP.sub (ws' := [(h0, .inr (3, [.ref qf0, .int v1, .int v2, .int v3, .ref qf4, .ref qf5, .ref qf6, .int v7, .int v8, .int v9, .int v10, .ref qf11, .int v12, .ref qf13])), (qf5, .inl (cf5, 256, .inl f5)), (qf6, .inl (cf6, 256, .inl f6)), (qf0, .inl (cf0, nb, .inl f0))]) [2, 0, 1, 3] rfl
    have hD9 := hD.sub (ws' := [(h0, .inr (3, [.ref qf0, .int v1, .int v2, .int v3, .ref qf4, .ref qf5, .ref qf6, .int v7, .int v8, .int v9, .int v10, .ref qf11, .int v12, .ref qf13])), (qf5, .inl (cf5, 256, .inl f5)), (qf6, .inl (cf6, 256, .inl f6)), (qf0, .inl (cf0, nb, .inl f0))]) [2, 0, 1, 3] (by decide) rfl
    have hK9 := hK.sub (tys' := [(cf5, .int), (cf6, .int), (cf0, .byte)]) [0, 1, 2] rfl
    exact W.zret hx hb hr (by decide) (fun t ht hW => ⟨⟨(1), (), rfl, ⟨rfl, Or.inr rfl⟩, by rw [ht]; exact hP9, va_K.moved hW.alike hK9, hD9⟩, hS.F ht⟩) hS.2.2 dX3_sameText_25
def lp_v11_hasTwins_89 (nf n : Nat) (v5_1 : Int32) (v5_7 : Int32) (v5_10 : Int32) (v5_12 : Int32) (f5_13 : Nat → Int32) (f5_5 : Nat → Int32) (f5_6 : Nat → Int32) (nb : Nat) (f5_0 : Nat → Int32) (f5_11 : Nat → Int32) (kk_76 : Int32 → Int32 → Option (Int32)) (l1_89 : Int32) (l2_89 : Int32) (l3_89 : Int32) : Option (Int32) := match n with
  | 0 => none
  | n + 1 => (if l2_89 ≤ l3_89 then (kk_76 l1_89 (l2_89 + 1)) else (if l1_89 = 0 then ((sp_t3_of nf l2_89 1 v5_12 f5_13).bind (fun p1 => ((sp_t3_of nf l3_89 1 v5_12 f5_13).bind (fun p2 => ((sp_v3_sameTextB nf p1 p2 v5_1 v5_7 f5_5 f5_6 nb f5_0).bind (fun p3 => (if p3 = 0 then (lp_v11_hasTwins_89 nf n v5_1 v5_7 v5_10 v5_12 f5_13 f5_5 f5_6 nb f5_0 f5_11 kk_76 0 l2_89 (l3_89 + 1)) else (lp_v11_hasTwins_89 nf n v5_1 v5_7 v5_10 v5_12 f5_13 f5_5 f5_6 nb f5_0 f5_11 kk_76 1 l2_89 (l3_89 + 1))))))))) else (lp_v11_hasTwins_89 nf n v5_1 v5_7 v5_10 v5_12 f5_13 f5_5 f5_6 nb f5_0 f5_11 kk_76 1 l2_89 (l3_89 + 1))))
def lp_v11_hasTwins_76 (nf n : Nat) (v5_1 : Int32) (v5_7 : Int32) (v5_10 : Int32) (v5_12 : Int32) (f5_13 : Nat → Int32) (f5_5 : Nat → Int32) (f5_6 : Nat → Int32) (nb : Nat) (f5_0 : Nat → Int32) (f5_11 : Nat → Int32)  (l1_76 : Int32) (l2_76 : Int32) : Option (Int32) := match n with
  | 0 => none
  | n + 1 => (if v5_12 ≤ l2_76 then (if l1_76 = 0 then (some 0) else if l1_76 = 1 then (some 1) else none) else (lp_v11_hasTwins_89 nf nf v5_1 v5_7 v5_10 v5_12 f5_13 f5_5 f5_6 nb f5_0 f5_11 (lp_v11_hasTwins_76 nf n v5_1 v5_7 v5_10 v5_12 f5_13 f5_5 f5_6 nb f5_0 f5_11) l1_76 l2_76 0))
def lp_v11_hasTwins_17 (nf n : Nat) (v5_1 : Int32) (v5_7 : Int32) (v5_10 : Int32) (v5_12 : Int32) (f5_13 : Nat → Int32) (f5_5 : Nat → Int32) (f5_6 : Nat → Int32) (nb : Nat) (f5_0 : Nat → Int32) (f5_11 : Nat → Int32) (kk_4 : Int32 → Int32 → Option (Int32)) (l1_17 : Int32) (l2_17 : Int32) (l3_17 : Int32) : Option (Int32) := match n with
  | 0 => none
  | n + 1 => (if l2_17 ≤ l3_17 then (kk_4 l1_17 (l2_17 + 1)) else (if l1_17 = 0 then ((sp_ti_fieldName nf l2_17 v5_10 f5_11).bind (fun p1 => ((sp_ti_fieldName nf l3_17 v5_10 f5_11).bind (fun p2 => ((sp_v3_sameTextB nf p1 p2 v5_1 v5_7 f5_5 f5_6 nb f5_0).bind (fun p3 => (if p3 = 0 then (lp_v11_hasTwins_17 nf n v5_1 v5_7 v5_10 v5_12 f5_13 f5_5 f5_6 nb f5_0 f5_11 kk_4 0 l2_17 (l3_17 + 1)) else (lp_v11_hasTwins_17 nf n v5_1 v5_7 v5_10 v5_12 f5_13 f5_5 f5_6 nb f5_0 f5_11 kk_4 1 l2_17 (l3_17 + 1))))))))) else (lp_v11_hasTwins_17 nf n v5_1 v5_7 v5_10 v5_12 f5_13 f5_5 f5_6 nb f5_0 f5_11 kk_4 1 l2_17 (l3_17 + 1))))
def lp_v11_hasTwins_4 (nf n : Nat) (v5_1 : Int32) (v5_7 : Int32) (v5_10 : Int32) (v5_12 : Int32) (f5_13 : Nat → Int32) (f5_5 : Nat → Int32) (f5_6 : Nat → Int32) (nb : Nat) (f5_0 : Nat → Int32) (f5_11 : Nat → Int32)  (l1_4 : Int32) (l2_4 : Int32) : Option (Int32) := match n with
  | 0 => none
  | n + 1 => (if v5_10 ≤ l2_4 then (lp_v11_hasTwins_76 nf nf v5_1 v5_7 v5_10 v5_12 f5_13 f5_5 f5_6 nb f5_0 f5_11  l1_4 0) else (lp_v11_hasTwins_17 nf nf v5_1 v5_7 v5_10 v5_12 f5_13 f5_5 f5_6 nb f5_0 f5_11 (lp_v11_hasTwins_4 nf n v5_1 v5_7 v5_10 v5_12 f5_13 f5_5 f5_6 nb f5_0 f5_11) l1_4 l2_4 0))
def sp_v11_hasTwins (nf : Nat) (v5_1 : Int32) (v5_7 : Int32) (v5_10 : Int32) (v5_12 : Int32) (f5_13 : Nat → Int32) (f5_5 : Nat → Int32) (f5_6 : Nat → Int32) (nb : Nat) (f5_0 : Nat → Int32) (f5_11 : Nat → Int32) : Option (Int32) := (lp_v11_hasTwins_4 nf nf v5_1 v5_7 v5_10 v5_12 f5_13 f5_5 f5_6 nb f5_0 f5_11  0 0)
set_option maxHeartbeats 4000000 in
set_option maxRecDepth 100000 in
/-- ClassMill$Verifier.hasTwins -/
theorem v11_hasTwins (l : Launch) (dC : Nat → ClassId) (dI : Nat → Nat → Nat) (sz : Nat) (h0 : Nat) (qf0 : Nat) (qf1 : Nat) (v2 : Int32) (v3 : Int32) (v4 : Int32) (qf5 : Nat) (v6 : Int32) (v7 : Int32) (qf8 : Nat) (qf9 : Nat) (qf10 : Nat) (qf11 : Nat) (qf12 : Nat) (qf13 : Nat) (qf14 : Nat) (qf15 : Nat) (v16 : Int32) (v17 : Int32) (v18 : Int32) (v19 : Int32) (v20 : Int32) (qf5_0 : Nat) (v5_1 : Int32) (v5_2 : Int32) (v5_3 : Int32) (qf5_4 : Nat) (qf5_5 : Nat) (qf5_6 : Nat) (v5_7 : Int32) (v5_8 : Int32) (v5_9 : Int32) (v5_10 : Int32) (qf5_11 : Nat) (v5_12 : Int32) (qf5_13 : Nat) (cf5_13 : ClassId) (f5_13 : (Nat → Int32)) (cf5_5 : ClassId) (f5_5 : (Nat → Int32)) (cf5_6 : ClassId) (f5_6 : (Nat → Int32)) (cf5_0 : ClassId) (nb : Nat) (f5_0 : (Nat → Int32)) (cf5_11 : ClassId) (f5_11 : (Nat → Int32)) (nf : Nat) (r0 : Int32) (hsp : sp_v11_hasTwins nf v5_1 v5_7 v5_10 v5_12 f5_13 f5_5 f5_6 nb f5_0 f5_11 = some r0) : Met l yX11_hasTwins (.code yX11_hasTwins cX11_hasTwins 4 (some .boolean) :: VS_h8) ({ frames := 2, cells := 0, slots := 0, locals := 50 }) (va_Pc [.ref h0] (fun U => U.heap.size = sz ∧ va_P (dC, dI) vwCl [(h0, .inr (11, [.ref qf0, .ref qf1, .int v2, .int v3, .int v4, .ref qf5, .int v6, .int v7, .ref qf8, .ref qf9, .ref qf10, .ref qf11, .ref qf12, .ref qf13, .ref qf14, .ref qf15, .int v16, .int v17, .int v18, .int v19, .int v20])), (qf5, .inr (3, [.ref qf5_0, .int v5_1, .int v5_2, .int v5_3, .ref qf5_4, .ref qf5_5, .ref qf5_6, .int v5_7, .int v5_8, .int v5_9, .int v5_10, .ref qf5_11, .int v5_12, .ref qf5_13])), (qf5_13, .inl (cf5_13, 144, .inl f5_13)), (qf5_5, .inl (cf5_5, 256, .inl f5_5)), (qf5_6, .inl (cf5_6, 256, .inl f5_6)), (qf5_0, .inl (cf5_0, nb, .inl f5_0)), (qf5_11, .inl (cf5_11, 24, .inl f5_11))] U.heap ∧ va_K (dC, dI) vwCl [(cf5_13, .int), (cf5_5, .int), (cf5_6, .int), (cf5_0, .byte), (cf5_11, .int)] U ∧ va_D (fun _ => True) [(h0, .inr (11, [.ref qf0, .ref qf1, .int v2, .int v3, .int v4, .ref qf5, .int v6, .int v7, .ref qf8, .ref qf9, .ref qf10, .ref qf11, .ref qf12, .ref qf13, .ref qf14, .ref qf15, .int v16, .int v17, .int v18, .int v19, .int v20])), (qf5, .inr (3, [.ref qf5_0, .int v5_1, .int v5_2, .int v5_3, .ref qf5_4, .ref qf5_5, .ref qf5_6, .int v5_7, .int v5_8, .int v5_9, .int v5_10, .ref qf5_11, .int v5_12, .ref qf5_13])), (qf5_13, .inl (cf5_13, 144, .inl f5_13)), (qf5_5, .inl (cf5_5, 256, .inl f5_5)), (qf5_6, .inl (cf5_6, 256, .inl f5_6)), (qf5_0, .inl (cf5_0, nb, .inl f5_0)), (qf5_11, .inl (cf5_11, 24, .inl f5_11))])) (va_Qi (fun (r : Int32) (u : Unit) => match u with | () => r0 = r ∧ (r0 = 0 ∨ r0 = 1)) (fun (u : Unit) (t : State) => match u with | () => va_P (dC, dI) vwCl [(h0, .inr (11, [.ref qf0, .ref qf1, .int v2, .int v3, .int v4, .ref qf5, .int v6, .int v7, .ref qf8, .ref qf9, .ref qf10, .ref qf11, .ref qf12, .ref qf13, .ref qf14, .ref qf15, .int v16, .int v17, .int v18, .int v19, .int v20])), (qf5, .inr (3, [.ref qf5_0, .int v5_1, .int v5_2, .int v5_3, .ref qf5_4, .ref qf5_5, .ref qf5_6, .int v5_7, .int v5_8, .int v5_9, .int v5_10, .ref qf5_11, .int v5_12, .ref qf5_13])), (qf5_13, .inl (cf5_13, 144, .inl f5_13)), (qf5_5, .inl (cf5_5, 256, .inl f5_5)), (qf5_6, .inl (cf5_6, 256, .inl f5_6)), (qf5_0, .inl (cf5_0, nb, .inl f5_0)), (qf5_11, .inl (cf5_11, 24, .inl f5_11))] t.heap ∧ va_K (dC, dI) vwCl [(cf5_13, .int), (cf5_5, .int), (cf5_6, .int), (cf5_0, .byte), (cf5_11, .int)] t ∧ va_D (va_A [(h0, .inr (11, [.ref qf0, .ref qf1, .int v2, .int v3, .int v4, .ref qf5, .int v6, .int v7, .ref qf8, .ref qf9, .ref qf10, .ref qf11, .ref qf12, .ref qf13, .ref qf14, .ref qf15, .int v16, .int v17, .int v18, .int v19, .int v20])), (qf5, .inr (3, [.ref qf5_0, .int v5_1, .int v5_2, .int v5_3, .ref qf5_4, .ref qf5_5, .ref qf5_6, .int v5_7, .int v5_8, .int v5_9, .int v5_10, .ref qf5_11, .int v5_12, .ref qf5_13])), (qf5_13, .inl (cf5_13, 144, .inl f5_13)), (qf5_5, .inl (cf5_5, 256, .inl f5_5)), (qf5_6, .inl (cf5_6, 256, .inl f5_6)), (qf5_0, .inl (cf5_0, nb, .inl f5_0)), (qf5_11, .inl (cf5_11, 24, .inl f5_11))] sz) [(h0, .inr (11, [.ref qf0, .ref qf1, .int v2, .int v3, .int v4, .ref qf5, .int v6, .int v7, .ref qf8, .ref qf9, .ref qf10, .ref qf11, .ref qf12, .ref qf13, .ref qf14, .ref qf15, .int v16, .int v17, .int v18, .int v19, .int v20])), (qf5, .inr (3, [.ref qf5_0, .int v5_1, .int v5_2, .int v5_3, .ref qf5_4, .ref qf5_5, .ref qf5_6, .int v5_7, .int v5_8, .int v5_9, .int v5_10, .ref qf5_11, .int v5_12, .ref qf5_13])), (qf5_13, .inl (cf5_13, 144, .inl f5_13)), (qf5_5, .inl (cf5_5, 256, .inl f5_5)), (qf5_6, .inl (cf5_6, 256, .inl f5_6)), (qf5_0, .inl (cf5_0, nb, .inl f5_0)), (qf5_11, .inl (cf5_11, 24, .inl f5_11))]) (va_A [(h0, .inr (11, [.ref qf0, .ref qf1, .int v2, .int v3, .int v4, .ref qf5, .int v6, .int v7, .ref qf8, .ref qf9, .ref qf10, .ref qf11, .ref qf12, .ref qf13, .ref qf14, .ref qf15, .int v16, .int v17, .int v18, .int v19, .int v20])), (qf5, .inr (3, [.ref qf5_0, .int v5_1, .int v5_2, .int v5_3, .ref qf5_4, .ref qf5_5, .ref qf5_6, .int v5_7, .int v5_8, .int v5_9, .int v5_10, .ref qf5_11, .int v5_12, .ref qf5_13])), (qf5_13, .inl (cf5_13, 144, .inl f5_13)), (qf5_5, .inl (cf5_5, 256, .inl f5_5)), (qf5_6, .inl (cf5_6, 256, .inl f5_6)), (qf5_0, .inl (cf5_0, nb, .inl f5_0)), (qf5_11, .inl (cf5_11, 24, .inl f5_11))] sz)) 0 0 (va_A [(h0, .inr (11, [.ref qf0, .ref qf1, .int v2, .int v3, .int v4, .ref qf5, .int v6, .int v7, .ref qf8, .ref qf9, .ref qf10, .ref qf11, .ref qf12, .ref qf13, .ref qf14, .ref qf15, .int v16, .int v17, .int v18, .int v19, .int v20])), (qf5, .inr (3, [.ref qf5_0, .int v5_1, .int v5_2, .int v5_3, .ref qf5_4, .ref qf5_5, .ref qf5_6, .int v5_7, .int v5_8, .int v5_9, .int v5_10, .ref qf5_11, .int v5_12, .ref qf5_13])), (qf5_13, .inl (cf5_13, 144, .inl f5_13)), (qf5_5, .inl (cf5_5, 256, .inl f5_5)), (qf5_6, .inl (cf5_6, 256, .inl f5_6)), (qf5_0, .inl (cf5_0, nb, .inl f5_0)), (qf5_11, .inl (cf5_11, 24, .inl f5_11))] sz) := by
  refine Met.ofW (cc := cX11_hasTwins) (maxL := 4) (ret := (some .boolean)) (by decide) rfl ?_
  intro p e s m args below meth c s₁ B hml hv
  obtain ⟨rfl, hsz, hP, hK, hD0⟩ := hv
  have hx := B.exec
  have hb := B.bytes
  have hr := B.returns
  have hts := atoms_spec (ws := (.code yX11_hasTwins cX11_hasTwins 4 (some .boolean) :: VS_h8)) B.pre
  replace hts := fun w (h : w ∈ VS_h8) => hts w (List.mem_cons_of_mem _ h)
  have hown : s.vm.findClass RX11 = some m.cls := findClass_of_methodNamed B.named
  have hlocks := B.notSynchronized
  subst hsz
  have hD := hD0.self (sz := s.heap.size)
  generalize hAe : va_A [(h0, .inr (11, [.ref qf0, .ref qf1, .int v2, .int v3, .int v4, .ref qf5, .int v6, .int v7, .ref qf8, .ref qf9, .ref qf10, .ref qf11, .ref qf12, .ref qf13, .ref qf14, .ref qf15, .int v16, .int v17, .int v18, .int v19, .int v20])), (qf5, .inr (3, [.ref qf5_0, .int v5_1, .int v5_2, .int v5_3, .ref qf5_4, .ref qf5_5, .ref qf5_6, .int v5_7, .int v5_8, .int v5_9, .int v5_10, .ref qf5_11, .int v5_12, .ref qf5_13])), (qf5_13, .inl (cf5_13, 144, .inl f5_13)), (qf5_5, .inl (cf5_5, 256, .inl f5_5)), (qf5_6, .inl (cf5_6, 256, .inl f5_6)), (qf5_0, .inl (cf5_0, nb, .inl f5_0)), (qf5_11, .inl (cf5_11, 24, .inl f5_11))] s.heap.size = A at hD  ⊢
  have hA : ∀ q : Nat, s.heap.size ≤ q → A q := fun q h => by rw [← hAe]; exact Or.inr h
  have hP : va_P (dC, dI) vwCl [(h0, .inr (11, [.ref qf0, .ref qf1, .int v2, .int v3, .int v4, .ref qf5, .int v6, .int v7, .ref qf8, .ref qf9, .ref qf10, .ref qf11, .ref qf12, .ref qf13, .ref qf14, .ref qf15, .int v16, .int v17, .int v18, .int v19, .int v20])), (qf5, .inr (3, [.ref qf5_0, .int v5_1, .int v5_2, .int v5_3, .ref qf5_4, .ref qf5_5, .ref qf5_6, .int v5_7, .int v5_8, .int v5_9, .int v5_10, .ref qf5_11, .int v5_12, .ref qf5_13])), (qf5_13, .inl (cf5_13, 144, .inl f5_13)), (qf5_5, .inl (cf5_5, 256, .inl f5_5)), (qf5_6, .inl (cf5_6, 256, .inl f5_6)), (qf5_0, .inl (cf5_0, nb, .inl f5_0)), (qf5_11, .inl (cf5_11, 24, .inl f5_11))] s.heap := hP
  have hl := lv_entry ([.ref h0]) (n := 4) (Nat.le_of_ble_eq_true rfl)
  rw [lg_entry_eq]
  generalize (lg_sl ([.ref h0]) ++ List.replicate (4 - (lg_sl ([.ref h0])).length) Slot.unset).toArray = ls at hl ⊢
  have hl : lv_has ls 4 [(0, .ref h0)] := hl
  obtain ⟨H, hH⟩ : ∃ H : Heap, s.heap = H := ⟨_, rfl⟩
  rw [hH] at hP ⊢
  have hS : va_S A s.heap H [] := by rw [← hH]; exact va_S.rf
  obtain ⟨locs, hlo⟩ : ∃ locs : List Loc, locs = [] := ⟨_, rfl⟩
  rw [← hlo] at hS ⊢
  unfold sp_v11_hasTwins at hsp
  refine lv_iconst (v := 0) hx hb dX11_hasTwins_0 (by decide) ?_
  refine lv_istore_n (lv' := [(1, .int 0), (0, .ref h0)]) hx hb dX11_hasTwins_1 rfl hl (by decide) rfl (fun ls hl => ?_)
  refine lv_iconst (v := 0) hx hb dX11_hasTwins_2 (by decide) ?_
  refine lv_istore_n (lv' := [(2, .int 0), (1, .int 0), (0, .ref h0)]) hx hb dX11_hasTwins_3 rfl hl (by decide) rfl (fun ls hl => ?_)
  replace hl : lv_has ls 4 [(2, .int 0), (1, .int 0), (0, .ref h0)] := lv_sub hl [0, 1, 2] rfl
  replace hP := hP.sub (ws' := [(h0, .inr (11, [.ref qf0, .ref qf1, .int v2, .int v3, .int v4, .ref qf5, .int v6, .int v7, .ref qf8, .ref qf9, .ref qf10, .ref qf11, .ref qf12, .ref qf13, .ref qf14, .ref qf15, .int v16, .int v17, .int v18, .int v19, .int v20])), (qf5, .inr (3, [.ref qf5_0, .int v5_1, .int v5_2, .int v5_3, .ref qf5_4, .ref qf5_5, .ref qf5_6, .int v5_7, .int v5_8, .int v5_9, .int v5_10, .ref qf5_11, .int v5_12, .ref qf5_13])), (qf5_13, .inl (cf5_13, 144, .inl f5_13)), (qf5_5, .inl (cf5_5, 256, .inl f5_5)), (qf5_6, .inl (cf5_6, 256, .inl f5_6)), (qf5_0, .inl (cf5_0, nb, .inl f5_0)), (qf5_11, .inl (cf5_11, 24, .inl f5_11))]) [0, 1, 2, 3, 4, 5, 6] rfl
  replace hD := hD.sub (ws' := [(h0, .inr (11, [.ref qf0, .ref qf1, .int v2, .int v3, .int v4, .ref qf5, .int v6, .int v7, .ref qf8, .ref qf9, .ref qf10, .ref qf11, .ref qf12, .ref qf13, .ref qf14, .ref qf15, .int v16, .int v17, .int v18, .int v19, .int v20])), (qf5, .inr (3, [.ref qf5_0, .int v5_1, .int v5_2, .int v5_3, .ref qf5_4, .ref qf5_5, .ref qf5_6, .int v5_7, .int v5_8, .int v5_9, .int v5_10, .ref qf5_11, .int v5_12, .ref qf5_13])), (qf5_13, .inl (cf5_13, 144, .inl f5_13)), (qf5_5, .inl (cf5_5, 256, .inl f5_5)), (qf5_6, .inl (cf5_6, 256, .inl f5_6)), (qf5_0, .inl (cf5_0, nb, .inl f5_0)), (qf5_11, .inl (cf5_11, 24, .inl f5_11))]) [0, 1, 2, 3, 4, 5, 6] (by decide) rfl
  replace hK := hK.sub (tys' := [(cf5_13, .int), (cf5_5, .int), (cf5_6, .int), (cf5_0, .byte), (cf5_11, .int)]) [0, 1, 2, 3, 4] rfl
  obtain ⟨n_4, hn_4⟩ : ∃ z : Nat, z = nf := ⟨_, rfl⟩
  obtain ⟨l1_4, el1_4⟩ : ∃ z : Int32, z = 0 := ⟨_, rfl⟩
  obtain ⟨l2_4, el2_4⟩ : ∃ z : Int32, z = 0 := ⟨_, rfl⟩
  replace hsp : lp_v11_hasTwins_4 nf n_4 v5_1 v5_7 v5_10 v5_12 f5_13 f5_5 f5_6 nb f5_0 f5_11 l1_4 l2_4 = some r0 := by rw [hn_4, el1_4, el2_4]; exact hsp
  replace hl : lv_has ls 4 [(2, .int l2_4), (1, .int l1_4), (0, .ref h0)] := by rw [el1_4, el2_4]; exact hl
  clear hn_4 el1_4 el2_4
  try clear hlo
  try clear hH
  revert hsp
  revert hP
  revert hD
  revert hS
  revert hl
  revert l2_4
  revert l1_4
  revert ls
  revert locs
  revert H
  induction n_4 with
  | zero => intro H locs ls l1_4 l2_4  hl hS hD hP hsp; unfold lp_v11_hasTwins_4 at hsp; cases hsp
  | succ n_4 ih_4 =>
    intro H locs ls l1_4 l2_4  hl hS hD hP hsp
    unfold lp_v11_hasTwins_4 at hsp
    try dsimp only at hsp
    refine lv_iload_n hx hb dX11_hasTwins_4 rfl (lv_at hl 0 rfl) ?_
    refine lv_aload_n hx hb dX11_hasTwins_5 rfl (lv_at hl 2 rfl) ?_
    refine va_get (D := (dC, dI)) (ci := 11) (v := .ref qf5) (C := RX11) (T := TX11) (N := 21) hx hb hts uV_h8_X11 hown hK hP 0 rfl rfl 5 (by decide) (hts (.fieldLink RX11 62 "ClassMill$Verifier" "image" "LClassMill$Image;") mw_h8_27) (fun _ h9 => h9) rfl dX11_hasTwins_6 ?_
    refine va_get (D := (dC, dI)) (ci := 3) (v := .int v5_10) (C := RX3) (T := TX3) (N := 14) hx hb hts uV_h8_X3 hown hK hP 1 rfl rfl 10 (by decide) (hts (.fieldLink RX11 136 "ClassMill$Image" "fields" "I") mw_h8_28) (fun _ h9 => h9) rfl dX11_hasTwins_9 ?_
    refine lv_icmp_ge (tgt := 74) hx hb dX11_hasTwins_12 (by decide) (fun c_1 => ?_) (fun c_1 => ?_)
    · rw [if_pos c_1] at hsp
      refine lv_iconst (v := 0) hx hb dX11_hasTwins_74 (by decide) ?_
      refine lv_istore_n (lv' := [(2, .int 0), (1, .int l1_4), (0, .ref h0)]) hx hb dX11_hasTwins_75 rfl hl (by decide) rfl (fun ls hl => ?_)
      replace hl : lv_has ls 4 [(2, .int 0), (1, .int l1_4), (0, .ref h0)] := lv_sub hl [0, 1, 2] rfl
      replace hP := hP.sub (ws' := [(h0, .inr (11, [.ref qf0, .ref qf1, .int v2, .int v3, .int v4, .ref qf5, .int v6, .int v7, .ref qf8, .ref qf9, .ref qf10, .ref qf11, .ref qf12, .ref qf13, .ref qf14, .ref qf15, .int v16, .int v17, .int v18, .int v19, .int v20])), (qf5, .inr (3, [.ref qf5_0, .int v5_1, .int v5_2, .int v5_3, .ref qf5_4, .ref qf5_5, .ref qf5_6, .int v5_7, .int v5_8, .int v5_9, .int v5_10, .ref qf5_11, .int v5_12, .ref qf5_13])), (qf5_13, .inl (cf5_13, 144, .inl f5_13)), (qf5_5, .inl (cf5_5, 256, .inl f5_5)), (qf5_6, .inl (cf5_6, 256, .inl f5_6)), (qf5_0, .inl (cf5_0, nb, .inl f5_0)), (qf5_11, .inl (cf5_11, 24, .inl f5_11))]) [0, 1, 2, 3, 4, 5, 6] rfl
      replace hD := hD.sub (ws' := [(h0, .inr (11, [.ref qf0, .ref qf1, .int v2, .int v3, .int v4, .ref qf5, .int v6, .int v7, .ref qf8, .ref qf9, .ref qf10, .ref qf11, .ref qf12, .ref qf13, .ref qf14, .ref qf15, .int v16, .int v17, .int v18, .int v19, .int v20])), (qf5, .inr (3, [.ref qf5_0, .int v5_1, .int v5_2, .int v5_3, .ref qf5_4, .ref qf5_5, .ref qf5_6, .int v5_7, .int v5_8, .int v5_9, .int v5_10, .ref qf5_11, .int v5_12, .ref qf5_13])), (qf5_13, .inl (cf5_13, 144, .inl f5_13)), (qf5_5, .inl (cf5_5, 256, .inl f5_5)), (qf5_6, .inl (cf5_6, 256, .inl f5_6)), (qf5_0, .inl (cf5_0, nb, .inl f5_0)), (qf5_11, .inl (cf5_11, 24, .inl f5_11))]) [0, 1, 2, 3, 4, 5, 6] (by decide) rfl
      replace hK := hK.sub (tys' := [(cf5_13, .int), (cf5_5, .int), (cf5_6, .int), (cf5_0, .byte), (cf5_11, .int)]) [0, 1, 2, 3, 4] rfl
      obtain ⟨n_76, hn_76⟩ : ∃ z : Nat, z = nf := ⟨_, rfl⟩
      obtain ⟨l1_76, el1_76⟩ : ∃ z : Int32, z = l1_4 := ⟨_, rfl⟩
      obtain ⟨l2_76, el2_76⟩ : ∃ z : Int32, z = 0 := ⟨_, rfl⟩
      replace hsp : lp_v11_hasTwins_76 nf n_76 v5_1 v5_7 v5_10 v5_12 f5_13 f5_5 f5_6 nb f5_0 f5_11 l1_76 l2_76 = some r0 := by rw [hn_76, el1_76, el2_76]; exact hsp
      replace hl : lv_has ls 4 [(2, .int l2_76), (1, .int l1_76), (0, .ref h0)] := by rw [el1_76, el2_76]; exact hl
      clear hn_76 el1_76 el2_76
      try clear hlo
      try clear hH
      revert hsp
      revert hP
      revert hD
      revert hS
      revert hl
      revert l2_76
      revert l1_76
      revert ls
      revert locs
      revert H
      induction n_76 with
      | zero => intro H locs ls l1_76 l2_76  hl hS hD hP hsp; unfold lp_v11_hasTwins_76 at hsp; cases hsp
      | succ n_76 ih_76 =>
        intro H locs ls l1_76 l2_76  hl hS hD hP hsp
        unfold lp_v11_hasTwins_76 at hsp
        try dsimp only at hsp
        refine lv_iload_n hx hb dX11_hasTwins_76 rfl (lv_at hl 0 rfl) ?_
        refine lv_aload_n hx hb dX11_hasTwins_77 rfl (lv_at hl 2 rfl) ?_
        refine va_get (D := (dC, dI)) (ci := 11) (v := .ref qf5) (C := RX11) (T := TX11) (N := 21) hx hb hts uV_h8_X11 hown hK hP 0 rfl rfl 5 (by decide) (hts (.fieldLink RX11 62 "ClassMill$Verifier" "image" "LClassMill$Image;") mw_h8_27) (fun _ h9 => h9) rfl dX11_hasTwins_78 ?_
        refine va_get (D := (dC, dI)) (ci := 3) (v := .int v5_12) (C := RX3) (T := TX3) (N := 14) hx hb hts uV_h8_X3 hown hK hP 1 rfl rfl 12 (by decide) (hts (.fieldLink RX11 100 "ClassMill$Image" "methods" "I") mw_h8_29) (fun _ h9 => h9) rfl dX11_hasTwins_81 ?_
        refine lv_icmp_ge (tgt := 148) hx hb dX11_hasTwins_84 (by decide) (fun c_2 => ?_) (fun c_2 => ?_)
        · rw [if_pos c_2] at hsp
          refine lv_iload_n hx hb dX11_hasTwins_148 rfl (lv_at hl 1 rfl) ?_
          rcases ox_01 hsp with ⟨rfl, hsp⟩ | ⟨rfl, hsp⟩
          · skip
            have hr0 := Option.some.inj hsp
            clear hsp
            subst hr0
            have hP9 := hP.sub (ws' := [(h0, .inr (11, [.ref qf0, .ref qf1, .int v2, .int v3, .int v4, .ref qf5, .int v6, .int v7, .ref qf8, .ref qf9, .ref qf10, .ref qf11, .ref qf12, .ref qf13, .ref qf14, .ref qf15, .int v16, .int v17, .int v18, .int v19, .int v20])), (qf5, .inr (3, [.ref qf5_0, .int v5_1, .int v5_2, .int v5_3, .ref qf5_4, .ref qf5_5, .ref qf5_6, .int v5_7, .int v5_8, .int v5_9, .int v5_10, .ref qf5_11, .int v5_12, .ref qf5_13])), (qf5_13, .inl (cf5_13, 144, .inl f5_13)), (qf5_5, .inl (cf5_5, 256, .inl f5_5)), (qf5_6, .inl (cf5_6, 256, .inl f5_6)), (qf5_0, .inl (cf5_0, nb, .inl f5_0)), (qf5_11, .inl (cf5_11, 24, .inl f5_11))]) [0, 1, 2, 3, 4, 5, 6] rfl
            have hD9 := hD.sub (ws' := [(h0, .inr (11, [.ref qf0, .ref qf1, .int v2, .int v3, .int v4, .ref qf5, .int v6, .int v7, .ref qf8, .ref qf9, .ref qf10, .ref qf11, .ref qf12, .ref qf13, .ref qf14, .ref qf15, .int v16, .int v17, .int v18, .int v19, .int v20])), (qf5, .inr (3, [.ref qf5_0, .int v5_1, .int v5_2, .int v5_3, .ref qf5_4, .ref qf5_5, .ref qf5_6, .int v5_7, .int v5_8, .int v5_9, .int v5_10, .ref qf5_11, .int v5_12, .ref qf5_13])), (qf5_13, .inl (cf5_13, 144, .inl f5_13)), (qf5_5, .inl (cf5_5, 256, .inl f5_5)), (qf5_6, .inl (cf5_6, 256, .inl f5_6)), (qf5_0, .inl (cf5_0, nb, .inl f5_0)), (qf5_11, .inl (cf5_11, 24, .inl f5_11))]) [0, 1, 2, 3, 4, 5, 6] (by decide) rfl
            have hK9 := hK.sub (tys' := [(cf5_13, .int), (cf5_5, .int), (cf5_6, .int), (cf5_0, .byte), (cf5_11, .int)]) [0, 1, 2, 3, 4] rfl
            exact W.zret hx hb hr (by decide) (fun t ht hW => ⟨⟨(0), (), rfl, ⟨rfl, Or.inl rfl⟩, by rw [ht]; exact hP9, va_K.moved hW.alike hK9, hD9⟩, hS.F ht⟩) hS.2.2 dX11_hasTwins_149
          · skip
            have hr0 := Option.some.inj hsp
            clear hsp
            subst hr0
            have hP9 := hP.sub (ws' := [(h0, .inr (11, [.ref qf0, .ref qf1, .int v2, .int v3, .int v4, .ref qf5, .int v6, .int v7, .ref qf8, .ref qf9, .ref qf10, .ref qf11, .ref qf12, .ref qf13, .ref qf14, .ref qf15, .int v16, .int v17, .int v18, .int v19, .int v20])), (qf5, .inr (3, [.ref qf5_0, .int v5_1, .int v5_2, .int v5_3, .ref qf5_4, .ref qf5_5, .ref qf5_6, .int v5_7, .int v5_8, .int v5_9, .int v5_10, .ref qf5_11, .int v5_12, .ref qf5_13])), (qf5_13, .inl (cf5_13, 144, .inl f5_13)), (qf5_5, .inl (cf5_5, 256, .inl f5_5)), (qf5_6, .inl (cf5_6, 256, .inl f5_6)), (qf5_0, .inl (cf5_0, nb, .inl f5_0)), (qf5_11, .inl (cf5_11, 24, .inl f5_11))]) [0, 1, 2, 3, 4, 5, 6] rfl
            have hD9 := hD.sub (ws' := [(h0, .inr (11, [.ref qf0, .ref qf1, .int v2, .int v3, .int v4, .ref qf5, .int v6, .int v7, .ref qf8, .ref qf9, .ref qf10, .ref qf11, .ref qf12, .ref qf13, .ref qf14, .ref qf15, .int v16, .int v17, .int v18, .int v19, .int v20])), (qf5, .inr (3, [.ref qf5_0, .int v5_1, .int v5_2, .int v5_3, .ref qf5_4, .ref qf5_5, .ref qf5_6, .int v5_7, .int v5_8, .int v5_9, .int v5_10, .ref qf5_11, .int v5_12, .ref qf5_13])), (qf5_13, .inl (cf5_13, 144, .inl f5_13)), (qf5_5, .inl (cf5_5, 256, .inl f5_5)), (qf5_6, .inl (cf5_6, 256, .inl f5_6)), (qf5_0, .inl (cf5_0, nb, .inl f5_0)), (qf5_11, .inl (cf5_11, 24, .inl f5_11))]) [0, 1, 2, 3, 4, 5, 6] (by decide) rfl
            have hK9 := hK.sub (tys' := [(cf5_13, .int), (cf5_5, .int), (cf5_6, .int), (cf5_0, .byte), (cf5_11, .int)]) [0, 1, 2, 3, 4] rfl
            exact W.zret hx hb hr (by decide) (fun t ht hW => ⟨⟨(1), (), rfl, ⟨rfl, Or.inr rfl⟩, by rw [ht]; exact hP9, va_K.moved hW.alike hK9, hD9⟩, hS.F ht⟩) hS.2.2 dX11_hasTwins_149
        · rw [if_neg c_2] at hsp
          refine lv_iconst (v := 0) hx hb dX11_hasTwins_87 (by decide) ?_
          refine lv_istore_n (lv' := [(3, .int 0), (2, .int l2_76), (1, .int l1_76), (0, .ref h0)]) hx hb dX11_hasTwins_88 rfl hl (by decide) rfl (fun ls hl => ?_)
          replace hl : lv_has ls 4 [(3, .int 0), (2, .int l2_76), (1, .int l1_76), (0, .ref h0)] := lv_sub hl [0, 1, 2, 3] rfl
          replace hP := hP.sub (ws' := [(h0, .inr (11, [.ref qf0, .ref qf1, .int v2, .int v3, .int v4, .ref qf5, .int v6, .int v7, .ref qf8, .ref qf9, .ref qf10, .ref qf11, .ref qf12, .ref qf13, .ref qf14, .ref qf15, .int v16, .int v17, .int v18, .int v19, .int v20])), (qf5, .inr (3, [.ref qf5_0, .int v5_1, .int v5_2, .int v5_3, .ref qf5_4, .ref qf5_5, .ref qf5_6, .int v5_7, .int v5_8, .int v5_9, .int v5_10, .ref qf5_11, .int v5_12, .ref qf5_13])), (qf5_13, .inl (cf5_13, 144, .inl f5_13)), (qf5_5, .inl (cf5_5, 256, .inl f5_5)), (qf5_6, .inl (cf5_6, 256, .inl f5_6)), (qf5_0, .inl (cf5_0, nb, .inl f5_0)), (qf5_11, .inl (cf5_11, 24, .inl f5_11))]) [0, 1, 2, 3, 4, 5, 6] rfl
          replace hD := hD.sub (ws' := [(h0, .inr (11, [.ref qf0, .ref qf1, .int v2, .int v3, .int v4, .ref qf5, .int v6, .int v7, .ref qf8, .ref qf9, .ref qf10, .ref qf11, .ref qf12, .ref qf13, .ref qf14, .ref qf15, .int v16, .int v17, .int v18, .int v19, .int v20])), (qf5, .inr (3, [.ref qf5_0, .int v5_1, .int v5_2, .int v5_3, .ref qf5_4, .ref qf5_5, .ref qf5_6, .int v5_7, .int v5_8, .int v5_9, .int v5_10, .ref qf5_11, .int v5_12, .ref qf5_13])), (qf5_13, .inl (cf5_13, 144, .inl f5_13)), (qf5_5, .inl (cf5_5, 256, .inl f5_5)), (qf5_6, .inl (cf5_6, 256, .inl f5_6)), (qf5_0, .inl (cf5_0, nb, .inl f5_0)), (qf5_11, .inl (cf5_11, 24, .inl f5_11))]) [0, 1, 2, 3, 4, 5, 6] (by decide) rfl
          replace hK := hK.sub (tys' := [(cf5_13, .int), (cf5_5, .int), (cf5_6, .int), (cf5_0, .byte), (cf5_11, .int)]) [0, 1, 2, 3, 4] rfl
          obtain ⟨n_89, hn_89⟩ : ∃ z : Nat, z = nf := ⟨_, rfl⟩
          obtain ⟨l1_89, el1_89⟩ : ∃ z : Int32, z = l1_76 := ⟨_, rfl⟩
          obtain ⟨l2_89, el2_89⟩ : ∃ z : Int32, z = l2_76 := ⟨_, rfl⟩
          obtain ⟨l3_89, el3_89⟩ : ∃ z : Int32, z = 0 := ⟨_, rfl⟩
          replace hsp : lp_v11_hasTwins_89 nf n_89 v5_1 v5_7 v5_10 v5_12 f5_13 f5_5 f5_6 nb f5_0 f5_11 (lp_v11_hasTwins_76 nf n_76 v5_1 v5_7 v5_10 v5_12 f5_13 f5_5 f5_6 nb f5_0 f5_11) l1_89 l2_89 l3_89 = some r0 := by rw [hn_89, el1_89, el2_89, el3_89]; exact hsp
          replace hl : lv_has ls 4 [(3, .int l3_89), (2, .int l2_89), (1, .int l1_89), (0, .ref h0)] := by rw [el1_89, el2_89, el3_89]; exact hl
          clear hn_89 el1_89 el2_89 el3_89
          try clear hlo
          try clear hH
          revert hsp
          revert hP
          revert hD
          revert hS
          revert hl
          revert l3_89
          revert l2_89
          revert l1_89
          revert ls
          revert locs
          revert H
          induction n_89 with
          | zero => intro H locs ls l1_89 l2_89 l3_89  hl hS hD hP hsp; unfold lp_v11_hasTwins_89 at hsp; cases hsp
          | succ n_89 ih_89 =>
            intro H locs ls l1_89 l2_89 l3_89  hl hS hD hP hsp
            unfold lp_v11_hasTwins_89 at hsp
            try dsimp only at hsp
            refine lv_iload_n hx hb dX11_hasTwins_89 rfl (lv_at hl 0 rfl) ?_
            refine lv_iload_n hx hb dX11_hasTwins_90 rfl (lv_at hl 1 rfl) ?_
            refine lv_icmp_ge (tgt := 142) hx hb dX11_hasTwins_91 (by decide) (fun c_3 => ?_) (fun c_3 => ?_)
            · rw [if_pos c_3] at hsp
              refine lv_iinc (v := (l2_89 + 1)) (lv' := [(2, .int (l2_89 + 1)), (3, .int l3_89), (1, .int l1_89), (0, .ref h0)]) hx hb dX11_hasTwins_142 hl (k := 1) rfl rfl (by decide) rfl (fun ls hl => ?_)
              refine lv_goto (tgt := 76) hx hb dX11_hasTwins_145 (by decide) ?_
              exact ih_76 H locs ls l1_89 (l2_89 + 1) (lv_sub hl [0, 2, 3] rfl) hS (hD.sub (ws' := [(h0, .inr (11, [.ref qf0, .ref qf1, .int v2, .int v3, .int v4, .ref qf5, .int v6, .int v7, .ref qf8, .ref qf9, .ref qf10, .ref qf11, .ref qf12, .ref qf13, .ref qf14, .ref qf15, .int v16, .int v17, .int v18, .int v19, .int v20])), (qf5, .inr (3, [.ref qf5_0, .int v5_1, .int v5_2, .int v5_3, .ref qf5_4, .ref qf5_5, .ref qf5_6, .int v5_7, .int v5_8, .int v5_9, .int v5_10, .ref qf5_11, .int v5_12, .ref qf5_13])), (qf5_13, .inl (cf5_13, 144, .inl f5_13)), (qf5_5, .inl (cf5_5, 256, .inl f5_5)), (qf5_6, .inl (cf5_6, 256, .inl f5_6)), (qf5_0, .inl (cf5_0, nb, .inl f5_0)), (qf5_11, .inl (cf5_11, 24, .inl f5_11))]) [0, 1, 2, 3, 4, 5, 6] (by decide) rfl) (hP.sub (ws' := [(h0, .inr (11, [.ref qf0, .ref qf1, .int v2, .int v3, .int v4, .ref qf5, .int v6, .int v7, .ref qf8, .ref qf9, .ref qf10, .ref qf11, .ref qf12, .ref qf13, .ref qf14, .ref qf15, .int v16, .int v17, .int v18, .int v19, .int v20])), (qf5, .inr (3, [.ref qf5_0, .int v5_1, .int v5_2, .int v5_3, .ref qf5_4, .ref qf5_5, .ref qf5_6, .int v5_7, .int v5_8, .int v5_9, .int v5_10, .ref qf5_11, .int v5_12, .ref qf5_13])), (qf5_13, .inl (cf5_13, 144, .inl f5_13)), (qf5_5, .inl (cf5_5, 256, .inl f5_5)), (qf5_6, .inl (cf5_6, 256, .inl f5_6)), (qf5_0, .inl (cf5_0, nb, .inl f5_0)), (qf5_11, .inl (cf5_11, 24, .inl f5_11))]) [0, 1, 2, 3, 4, 5, 6] rfl) hsp
            · rw [if_neg c_3] at hsp
              refine lv_iload_n hx hb dX11_hasTwins_94 rfl (lv_at hl 2 rfl) ?_
              refine lv_if_ne (tgt := 130) hx hb dX11_hasTwins_95 (by decide) (fun c_4 => ?_) (fun c_4 => ?_)
              · rw [if_neg c_4] at hsp
                refine lv_iconst (v := 1) hx hb dX11_hasTwins_130 (by decide) ?_
                refine lv_goto (tgt := 135) hx hb dX11_hasTwins_131 (by decide) ?_
                refine lv_istore_n (lv' := [(1, .int 1), (3, .int l3_89), (2, .int l2_89), (0, .ref h0)]) hx hb dX11_hasTwins_135 rfl hl (by decide) rfl (fun ls hl => ?_)
                refine lv_iinc (v := (l3_89 + 1)) (lv' := [(3, .int (l3_89 + 1)), (1, .int 1), (2, .int l2_89), (0, .ref h0)]) hx hb dX11_hasTwins_136 hl (k := 1) rfl rfl (by decide) rfl (fun ls hl => ?_)
                refine lv_goto (tgt := 89) hx hb dX11_hasTwins_139 (by decide) ?_
                exact ih_89 H locs ls 1 l2_89 (l3_89 + 1) (lv_sub hl [0, 2, 1, 3] rfl) hS (hD.sub (ws' := [(h0, .inr (11, [.ref qf0, .ref qf1, .int v2, .int v3, .int v4, .ref qf5, .int v6, .int v7, .ref qf8, .ref qf9, .ref qf10, .ref qf11, .ref qf12, .ref qf13, .ref qf14, .ref qf15, .int v16, .int v17, .int v18, .int v19, .int v20])), (qf5, .inr (3, [.ref qf5_0, .int v5_1, .int v5_2, .int v5_3, .ref qf5_4, .ref qf5_5, .ref qf5_6, .int v5_7, .int v5_8, .int v5_9, .int v5_10, .ref qf5_11, .int v5_12, .ref qf5_13])), (qf5_13, .inl (cf5_13, 144, .inl f5_13)), (qf5_5, .inl (cf5_5, 256, .inl f5_5)), (qf5_6, .inl (cf5_6, 256, .inl f5_6)), (qf5_0, .inl (cf5_0, nb, .inl f5_0)), (qf5_11, .inl (cf5_11, 24, .inl f5_11))]) [0, 1, 2, 3, 4, 5, 6] (by decide) rfl) (hP.sub (ws' := [(h0, .inr (11, [.ref qf0, .ref qf1, .int v2, .int v3, .int v4, .ref qf5, .int v6, .int v7, .ref qf8, .ref qf9, .ref qf10, .ref qf11, .ref qf12, .ref qf13, .ref qf14, .ref qf15, .int v16, .int v17, .int v18, .int v19, .int v20])), (qf5, .inr (3, [.ref qf5_0, .int v5_1, .int v5_2, .int v5_3, .ref qf5_4, .ref qf5_5, .ref qf5_6, .int v5_7, .int v5_8, .int v5_9, .int v5_10, .ref qf5_11, .int v5_12, .ref qf5_13])), (qf5_13, .inl (cf5_13, 144, .inl f5_13)), (qf5_5, .inl (cf5_5, 256, .inl f5_5)), (qf5_6, .inl (cf5_6, 256, .inl f5_6)), (qf5_0, .inl (cf5_0, nb, .inl f5_0)), (qf5_11, .inl (cf5_11, 24, .inl f5_11))]) [0, 1, 2, 3, 4, 5, 6] rfl) hsp
              · rw [if_pos c_4] at hsp
                refine lv_aload_n hx hb dX11_hasTwins_98 rfl (lv_at hl 3 rfl) ?_
                refine va_get (D := (dC, dI)) (ci := 11) (v := .ref qf5) (C := RX11) (T := TX11) (N := 21) hx hb hts uV_h8_X11 hown hK hP 0 rfl rfl 5 (by decide) (hts (.fieldLink RX11 62 "ClassMill$Verifier" "image" "LClassMill$Image;") mw_h8_27) (fun _ h9 => h9) rfl dX11_hasTwins_99 ?_
                refine lv_aload_n hx hb dX11_hasTwins_102 rfl (lv_at hl 3 rfl) ?_
                refine va_get (D := (dC, dI)) (ci := 11) (v := .ref qf5) (C := RX11) (T := TX11) (N := 21) hx hb hts uV_h8_X11 hown hK hP 0 rfl rfl 5 (by decide) (hts (.fieldLink RX11 62 "ClassMill$Verifier" "image" "LClassMill$Image;") mw_h8_27) (fun _ h9 => h9) rfl dX11_hasTwins_103 ?_
                refine lv_iload_n hx hb dX11_hasTwins_106 rfl (lv_at hl 1 rfl) ?_
                refine lv_iconst (v := 1) hx hb dX11_hasTwins_107 (by decide) ?_
                obtain ⟨u1_0, hu_1, hsp⟩ := ox_bind hsp
                try dsimp only at hsp
                have hPc := hP.sub (ws' := [(qf5, .inr (3, [.ref qf5_0, .int v5_1, .int v5_2, .int v5_3, .ref qf5_4, .ref qf5_5, .ref qf5_6, .int v5_7, .int v5_8, .int v5_9, .int v5_10, .ref qf5_11, .int v5_12, .ref qf5_13])), (qf5_13, .inl (cf5_13, 144, .inl f5_13))]) [1, 2] rfl
                have hDc := hD.sub (ws' := [(qf5, .inr (3, [.ref qf5_0, .int v5_1, .int v5_2, .int v5_3, .ref qf5_4, .ref qf5_5, .ref qf5_6, .int v5_7, .int v5_8, .int v5_9, .int v5_10, .ref qf5_11, .int v5_12, .ref qf5_13])), (qf5_13, .inl (cf5_13, 144, .inl f5_13))]) [1, 2] (by decide) rfl
                have hKc := hK.sub (tys' := [(cf5_13, .int)]) [0] rfl
                have hFc := va_free (wc := [(qf5, .inr (3, [.ref qf5_0, .int v5_1, .int v5_2, .int v5_3, .ref qf5_4, .ref qf5_5, .ref qf5_6, .int v5_7, .int v5_8, .int v5_9, .int v5_10, .ref qf5_11, .int v5_12, .ref qf5_13])), (qf5_13, .inl (cf5_13, 144, .inl f5_13))]) hD hS hA [1, 2] rfl
                refine va_calli (va_runV (As := [.int l2_89, .int 1]) (rest := [.ref qf5]) ⟨hx, hb, hml, hown, hts⟩ (t3_of l dC dI H.size qf5 l2_89 1 qf5_0 v5_1 v5_2 v5_3 qf5_4 qf5_5 qf5_6 v5_7 v5_8 v5_9 v5_10 qf5_11 v5_12 qf5_13 cf5_13 f5_13 nf u1_0 hu_1) (cwV 2 hts gv_h8_3 rfl rfl rfl (by decide +kernel) ⟨Nat.le_of_ble_eq_true rfl, Nat.le_of_ble_eq_true rfl⟩) ⟨fun a U g mk q => by obtain ⟨q0, q1, qP, qK, qD⟩ := q; exact ⟨q0, q1, qP, va_K.moved (u := U) (U := U.calling g mk a) (Vm.Alike.refl U.vm) qK, qD⟩, va_recv hKc hPc (ci := 3) (q0 := 0) rfl rfl, fun U hU hW => ⟨rfl, by rw [hU], by rw [hU]; exact hPc, va_K.moved hW.alike hKc, hDc.weaken (fun _ _ _ _ => trivial)⟩⟩ rfl rfl hl.1 rfl (lv_room (Nat.le_of_ble_eq_true rfl)) dX11_hasTwins_108 ⟨Nat.le_of_ble_eq_true rfl, Nat.le_of_ble_eq_true rfl⟩) hS (fun q _ h => hFc q h) hFc ?_
                clear hS
                intro r_5 u t H1 locs ht hvm hw hB hz1 hk1 hS
                obtain ⟨⟩ := u
                obtain ⟨hP1, hK1, hD1⟩ := hB
                rw [ht] at hP1
                have hK1 := va_K.moved hvm.symm hK1
                try dsimp only at hw
                have hPD := va_join (wr := [(h0, .inr (11, [.ref qf0, .ref qf1, .int v2, .int v3, .int v4, .ref qf5, .int v6, .int v7, .ref qf8, .ref qf9, .ref qf10, .ref qf11, .ref qf12, .ref qf13, .ref qf14, .ref qf15, .int v16, .int v17, .int v18, .int v19, .int v20])), (qf5_5, .inl (cf5_5, 256, .inl f5_5)), (qf5_6, .inl (cf5_6, 256, .inl f5_6)), (qf5_0, .inl (cf5_0, nb, .inl f5_0)), (qf5_11, .inl (cf5_11, 24, .inl f5_11))]) (w1 := [(qf5, .inr (3, [.ref qf5_0, .int v5_1, .int v5_2, .int v5_3, .ref qf5_4, .ref qf5_5, .ref qf5_6, .int v5_7, .int v5_8, .int v5_9, .int v5_10, .ref qf5_11, .int v5_12, .ref qf5_13])), (qf5_13, .inl (cf5_13, 144, .inl f5_13))]) hP hD [1, 2] [0, 3, 4, 5, 6] rfl rfl (by decide) (by decide) hk1 hFc hP1 hD1
                clear hP hD
                obtain ⟨hP, hD⟩ := hPD
                replace hK := (hK.sub (tys' := [(cf5_5, .int), (cf5_6, .int), (cf5_0, .byte), (cf5_11, .int)]) [1, 2, 3, 4] rfl).app hK1
                clear hPc hDc hKc hFc hP1 hK1 hD1 hz1 hk1 ht hvm
                generalize H1 = H at hP hS ⊢
                replace hP : va_P (dC, dI) vwCl [(h0, .inr (11, [.ref qf0, .ref qf1, .int v2, .int v3, .int v4, .ref qf5, .int v6, .int v7, .ref qf8, .ref qf9, .ref qf10, .ref qf11, .ref qf12, .ref qf13, .ref qf14, .ref qf15, .int v16, .int v17, .int v18, .int v19, .int v20])), (qf5_5, .inl (cf5_5, 256, .inl f5_5)), (qf5_6, .inl (cf5_6, 256, .inl f5_6)), (qf5_0, .inl (cf5_0, nb, .inl f5_0)), (qf5_11, .inl (cf5_11, 24, .inl f5_11)), (qf5, .inr (3, [.ref qf5_0, .int v5_1, .int v5_2, .int v5_3, .ref qf5_4, .ref qf5_5, .ref qf5_6, .int v5_7, .int v5_8, .int v5_9, .int v5_10, .ref qf5_11, .int v5_12, .ref qf5_13])), (qf5_13, .inl (cf5_13, 144, .inl f5_13))] H := hP
                replace hD : va_D A [(h0, .inr (11, [.ref qf0, .ref qf1, .int v2, .int v3, .int v4, .ref qf5, .int v6, .int v7, .ref qf8, .ref qf9, .ref qf10, .ref qf11, .ref qf12, .ref qf13, .ref qf14, .ref qf15, .int v16, .int v17, .int v18, .int v19, .int v20])), (qf5_5, .inl (cf5_5, 256, .inl f5_5)), (qf5_6, .inl (cf5_6, 256, .inl f5_6)), (qf5_0, .inl (cf5_0, nb, .inl f5_0)), (qf5_11, .inl (cf5_11, 24, .inl f5_11)), (qf5, .inr (3, [.ref qf5_0, .int v5_1, .int v5_2, .int v5_3, .ref qf5_4, .ref qf5_5, .ref qf5_6, .int v5_7, .int v5_8, .int v5_9, .int v5_10, .ref qf5_11, .int v5_12, .ref qf5_13])), (qf5_13, .inl (cf5_13, 144, .inl f5_13))] := hD
                replace hK : va_K (dC, dI) vwCl [(cf5_5, .int), (cf5_6, .int), (cf5_0, .byte), (cf5_11, .int), (cf5_13, .int)] s := hK
                obtain rfl := hw
                refine lv_aload_n hx hb dX11_hasTwins_111 rfl (lv_at hl 3 rfl) ?_
                refine va_get (D := (dC, dI)) (ci := 11) (v := .ref qf5) (C := RX11) (T := TX11) (N := 21) hx hb hts uV_h8_X11 hown hK hP 0 rfl rfl 5 (by decide) (hts (.fieldLink RX11 62 "ClassMill$Verifier" "image" "LClassMill$Image;") mw_h8_27) (fun _ h9 => h9) rfl dX11_hasTwins_112 ?_
                refine lv_aload_n hx hb dX11_hasTwins_115 rfl (lv_at hl 3 rfl) ?_
                refine va_get (D := (dC, dI)) (ci := 11) (v := .ref qf5) (C := RX11) (T := TX11) (N := 21) hx hb hts uV_h8_X11 hown hK hP 0 rfl rfl 5 (by decide) (hts (.fieldLink RX11 62 "ClassMill$Verifier" "image" "LClassMill$Image;") mw_h8_27) (fun _ h9 => h9) rfl dX11_hasTwins_116 ?_
                refine lv_iload_n hx hb dX11_hasTwins_119 rfl (lv_at hl 0 rfl) ?_
                refine lv_iconst (v := 1) hx hb dX11_hasTwins_120 (by decide) ?_
                obtain ⟨u2_0, hu_2, hsp⟩ := ox_bind hsp
                try dsimp only at hsp
                have hPc := hP.sub (ws' := [(qf5, .inr (3, [.ref qf5_0, .int v5_1, .int v5_2, .int v5_3, .ref qf5_4, .ref qf5_5, .ref qf5_6, .int v5_7, .int v5_8, .int v5_9, .int v5_10, .ref qf5_11, .int v5_12, .ref qf5_13])), (qf5_13, .inl (cf5_13, 144, .inl f5_13))]) [5, 6] rfl
                have hDc := hD.sub (ws' := [(qf5, .inr (3, [.ref qf5_0, .int v5_1, .int v5_2, .int v5_3, .ref qf5_4, .ref qf5_5, .ref qf5_6, .int v5_7, .int v5_8, .int v5_9, .int v5_10, .ref qf5_11, .int v5_12, .ref qf5_13])), (qf5_13, .inl (cf5_13, 144, .inl f5_13))]) [5, 6] (by decide) rfl
                have hKc := hK.sub (tys' := [(cf5_13, .int)]) [4] rfl
                have hFc := va_free (wc := [(qf5, .inr (3, [.ref qf5_0, .int v5_1, .int v5_2, .int v5_3, .ref qf5_4, .ref qf5_5, .ref qf5_6, .int v5_7, .int v5_8, .int v5_9, .int v5_10, .ref qf5_11, .int v5_12, .ref qf5_13])), (qf5_13, .inl (cf5_13, 144, .inl f5_13))]) hD hS hA [5, 6] rfl
                refine va_calli (va_runV (As := [.int l3_89, .int 1]) (rest := [.ref qf5, .int u1_0, .ref qf5]) ⟨hx, hb, hml, hown, hts⟩ (t3_of l dC dI H.size qf5 l3_89 1 qf5_0 v5_1 v5_2 v5_3 qf5_4 qf5_5 qf5_6 v5_7 v5_8 v5_9 v5_10 qf5_11 v5_12 qf5_13 cf5_13 f5_13 nf u2_0 hu_2) (cwV 2 hts gv_h8_3 rfl rfl rfl (by decide +kernel) ⟨Nat.le_of_ble_eq_true rfl, Nat.le_of_ble_eq_true rfl⟩) ⟨fun a U g mk q => by obtain ⟨q0, q1, qP, qK, qD⟩ := q; exact ⟨q0, q1, qP, va_K.moved (u := U) (U := U.calling g mk a) (Vm.Alike.refl U.vm) qK, qD⟩, va_recv hKc hPc (ci := 3) (q0 := 0) rfl rfl, fun U hU hW => ⟨rfl, by rw [hU], by rw [hU]; exact hPc, va_K.moved hW.alike hKc, hDc.weaken (fun _ _ _ _ => trivial)⟩⟩ rfl rfl hl.1 rfl (lv_room (Nat.le_of_ble_eq_true rfl)) dX11_hasTwins_121 ⟨Nat.le_of_ble_eq_true rfl, Nat.le_of_ble_eq_true rfl⟩) hS (fun q _ h => hFc q h) hFc ?_
                clear hS
                intro r_6 u t H1 locs ht hvm hw hB hz1 hk1 hS
                obtain ⟨⟩ := u
                obtain ⟨hP1, hK1, hD1⟩ := hB
                rw [ht] at hP1
                have hK1 := va_K.moved hvm.symm hK1
                try dsimp only at hw
                have hPD := va_join (wr := [(h0, .inr (11, [.ref qf0, .ref qf1, .int v2, .int v3, .int v4, .ref qf5, .int v6, .int v7, .ref qf8, .ref qf9, .ref qf10, .ref qf11, .ref qf12, .ref qf13, .ref qf14, .ref qf15, .int v16, .int v17, .int v18, .int v19, .int v20])), (qf5_5, .inl (cf5_5, 256, .inl f5_5)), (qf5_6, .inl (cf5_6, 256, .inl f5_6)), (qf5_0, .inl (cf5_0, nb, .inl f5_0)), (qf5_11, .inl (cf5_11, 24, .inl f5_11))]) (w1 := [(qf5, .inr (3, [.ref qf5_0, .int v5_1, .int v5_2, .int v5_3, .ref qf5_4, .ref qf5_5, .ref qf5_6, .int v5_7, .int v5_8, .int v5_9, .int v5_10, .ref qf5_11, .int v5_12, .ref qf5_13])), (qf5_13, .inl (cf5_13, 144, .inl f5_13))]) hP hD [5, 6] [0, 1, 2, 3, 4] rfl rfl (by decide) (by decide) hk1 hFc hP1 hD1
                clear hP hD
                obtain ⟨hP, hD⟩ := hPD
                replace hK := (hK.sub (tys' := [(cf5_5, .int), (cf5_6, .int), (cf5_0, .byte), (cf5_11, .int)]) [0, 1, 2, 3] rfl).app hK1
                clear hPc hDc hKc hFc hP1 hK1 hD1 hz1 hk1 ht hvm
                generalize H1 = H at hP hS ⊢
                replace hP : va_P (dC, dI) vwCl [(h0, .inr (11, [.ref qf0, .ref qf1, .int v2, .int v3, .int v4, .ref qf5, .int v6, .int v7, .ref qf8, .ref qf9, .ref qf10, .ref qf11, .ref qf12, .ref qf13, .ref qf14, .ref qf15, .int v16, .int v17, .int v18, .int v19, .int v20])), (qf5_5, .inl (cf5_5, 256, .inl f5_5)), (qf5_6, .inl (cf5_6, 256, .inl f5_6)), (qf5_0, .inl (cf5_0, nb, .inl f5_0)), (qf5_11, .inl (cf5_11, 24, .inl f5_11)), (qf5, .inr (3, [.ref qf5_0, .int v5_1, .int v5_2, .int v5_3, .ref qf5_4, .ref qf5_5, .ref qf5_6, .int v5_7, .int v5_8, .int v5_9, .int v5_10, .ref qf5_11, .int v5_12, .ref qf5_13])), (qf5_13, .inl (cf5_13, 144, .inl f5_13))] H := hP
                replace hD : va_D A [(h0, .inr (11, [.ref qf0, .ref qf1, .int v2, .int v3, .int v4, .ref qf5, .int v6, .int v7, .ref qf8, .ref qf9, .ref qf10, .ref qf11, .ref qf12, .ref qf13, .ref qf14, .ref qf15, .int v16, .int v17, .int v18, .int v19, .int v20])), (qf5_5, .inl (cf5_5, 256, .inl f5_5)), (qf5_6, .inl (cf5_6, 256, .inl f5_6)), (qf5_0, .inl (cf5_0, nb, .inl f5_0)), (qf5_11, .inl (cf5_11, 24, .inl f5_11)), (qf5, .inr (3, [.ref qf5_0, .int v5_1, .int v5_2, .int v5_3, .ref qf5_4, .ref qf5_5, .ref qf5_6, .int v5_7, .int v5_8, .int v5_9, .int v5_10, .ref qf5_11, .int v5_12, .ref qf5_13])), (qf5_13, .inl (cf5_13, 144, .inl f5_13))] := hD
                replace hK : va_K (dC, dI) vwCl [(cf5_5, .int), (cf5_6, .int), (cf5_0, .byte), (cf5_11, .int), (cf5_13, .int)] s := hK
                obtain rfl := hw
                obtain ⟨u3_0, hu_3, hsp⟩ := ox_bind hsp
                try dsimp only at hsp
                have hPc := hP.sub (ws' := [(qf5, .inr (3, [.ref qf5_0, .int v5_1, .int v5_2, .int v5_3, .ref qf5_4, .ref qf5_5, .ref qf5_6, .int v5_7, .int v5_8, .int v5_9, .int v5_10, .ref qf5_11, .int v5_12, .ref qf5_13])), (qf5_5, .inl (cf5_5, 256, .inl f5_5)), (qf5_6, .inl (cf5_6, 256, .inl f5_6)), (qf5_0, .inl (cf5_0, nb, .inl f5_0))]) [5, 1, 2, 3] rfl
                have hDc := hD.sub (ws' := [(qf5, .inr (3, [.ref qf5_0, .int v5_1, .int v5_2, .int v5_3, .ref qf5_4, .ref qf5_5, .ref qf5_6, .int v5_7, .int v5_8, .int v5_9, .int v5_10, .ref qf5_11, .int v5_12, .ref qf5_13])), (qf5_5, .inl (cf5_5, 256, .inl f5_5)), (qf5_6, .inl (cf5_6, 256, .inl f5_6)), (qf5_0, .inl (cf5_0, nb, .inl f5_0))]) [5, 1, 2, 3] (by decide) rfl
                have hKc := hK.sub (tys' := [(cf5_5, .int), (cf5_6, .int), (cf5_0, .byte)]) [0, 1, 2] rfl
                have hFc := va_free (wc := [(qf5, .inr (3, [.ref qf5_0, .int v5_1, .int v5_2, .int v5_3, .ref qf5_4, .ref qf5_5, .ref qf5_6, .int v5_7, .int v5_8, .int v5_9, .int v5_10, .ref qf5_11, .int v5_12, .ref qf5_13])), (qf5_5, .inl (cf5_5, 256, .inl f5_5)), (qf5_6, .inl (cf5_6, 256, .inl f5_6)), (qf5_0, .inl (cf5_0, nb, .inl f5_0))]) hD hS hA [5, 1, 2, 3] rfl
                refine va_calli (va_runV (As := [.int u1_0, .ref qf5, .int u2_0]) (rest := []) ⟨hx, hb, hml, hown, hts⟩ (v3_sameTextB l dC dI H.size qf5 u1_0 u2_0 qf5_0 v5_1 v5_2 v5_3 qf5_4 qf5_5 qf5_6 v5_7 v5_8 v5_9 v5_10 qf5_11 v5_12 qf5_13 cf5_5 f5_5 cf5_6 f5_6 cf5_0 nb f5_0 nf u3_0 hu_3) (cwV 3 hts gv_h8_4 rfl rfl rfl (by decide +kernel) ⟨Nat.le_of_ble_eq_true rfl, Nat.le_of_ble_eq_true rfl⟩) ⟨fun a U g mk q => by obtain ⟨q0, q1, qP, qK, qD⟩ := q; exact ⟨q0, q1, qP, va_K.moved (u := U) (U := U.calling g mk a) (Vm.Alike.refl U.vm) qK, qD⟩, va_recv hKc hPc (ci := 3) (q0 := 0) rfl rfl, fun U hU hW => ⟨rfl, by rw [hU], by rw [hU]; exact hPc, va_K.moved hW.alike hKc, hDc.weaken (fun _ _ _ _ => trivial)⟩⟩ rfl rfl hl.1 rfl (lv_room (Nat.le_of_ble_eq_true rfl)) dX11_hasTwins_124 ⟨Nat.le_of_ble_eq_true rfl, Nat.le_of_ble_eq_true rfl⟩) hS (fun q _ h => hFc q h) hFc ?_
                clear hS
                intro r_7 u t H1 locs ht hvm hw hB hz1 hk1 hS
                obtain ⟨⟩ := u
                obtain ⟨hP1, hK1, hD1⟩ := hB
                rw [ht] at hP1
                have hK1 := va_K.moved hvm.symm hK1
                try dsimp only at hw
                have hPD := va_join (wr := [(h0, .inr (11, [.ref qf0, .ref qf1, .int v2, .int v3, .int v4, .ref qf5, .int v6, .int v7, .ref qf8, .ref qf9, .ref qf10, .ref qf11, .ref qf12, .ref qf13, .ref qf14, .ref qf15, .int v16, .int v17, .int v18, .int v19, .int v20])), (qf5_11, .inl (cf5_11, 24, .inl f5_11)), (qf5_13, .inl (cf5_13, 144, .inl f5_13))]) (w1 := [(qf5, .inr (3, [.ref qf5_0, .int v5_1, .int v5_2, .int v5_3, .ref qf5_4, .ref qf5_5, .ref qf5_6, .int v5_7, .int v5_8, .int v5_9, .int v5_10, .ref qf5_11, .int v5_12, .ref qf5_13])), (qf5_5, .inl (cf5_5, 256, .inl f5_5)), (qf5_6, .inl (cf5_6, 256, .inl f5_6)), (qf5_0, .inl (cf5_0, nb, .inl f5_0))]) hP hD [5, 1, 2, 3] [0, 4, 6] rfl rfl (by decide) (by decide) hk1 hFc hP1 hD1
                clear hP hD
                obtain ⟨hP, hD⟩ := hPD
                replace hK := (hK.sub (tys' := [(cf5_11, .int), (cf5_13, .int)]) [3, 4] rfl).app hK1
                clear hPc hDc hKc hFc hP1 hK1 hD1 hz1 hk1 ht hvm
                generalize H1 = H at hP hS ⊢
                replace hP : va_P (dC, dI) vwCl [(h0, .inr (11, [.ref qf0, .ref qf1, .int v2, .int v3, .int v4, .ref qf5, .int v6, .int v7, .ref qf8, .ref qf9, .ref qf10, .ref qf11, .ref qf12, .ref qf13, .ref qf14, .ref qf15, .int v16, .int v17, .int v18, .int v19, .int v20])), (qf5_11, .inl (cf5_11, 24, .inl f5_11)), (qf5_13, .inl (cf5_13, 144, .inl f5_13)), (qf5, .inr (3, [.ref qf5_0, .int v5_1, .int v5_2, .int v5_3, .ref qf5_4, .ref qf5_5, .ref qf5_6, .int v5_7, .int v5_8, .int v5_9, .int v5_10, .ref qf5_11, .int v5_12, .ref qf5_13])), (qf5_5, .inl (cf5_5, 256, .inl f5_5)), (qf5_6, .inl (cf5_6, 256, .inl f5_6)), (qf5_0, .inl (cf5_0, nb, .inl f5_0))] H := hP
                replace hD : va_D A [(h0, .inr (11, [.ref qf0, .ref qf1, .int v2, .int v3, .int v4, .ref qf5, .int v6, .int v7, .ref qf8, .ref qf9, .ref qf10, .ref qf11, .ref qf12, .ref qf13, .ref qf14, .ref qf15, .int v16, .int v17, .int v18, .int v19, .int v20])), (qf5_11, .inl (cf5_11, 24, .inl f5_11)), (qf5_13, .inl (cf5_13, 144, .inl f5_13)), (qf5, .inr (3, [.ref qf5_0, .int v5_1, .int v5_2, .int v5_3, .ref qf5_4, .ref qf5_5, .ref qf5_6, .int v5_7, .int v5_8, .int v5_9, .int v5_10, .ref qf5_11, .int v5_12, .ref qf5_13])), (qf5_5, .inl (cf5_5, 256, .inl f5_5)), (qf5_6, .inl (cf5_6, 256, .inl f5_6)), (qf5_0, .inl (cf5_0, nb, .inl f5_0))] := hD
                replace hK : va_K (dC, dI) vwCl [(cf5_11, .int), (cf5_13, .int), (cf5_5, .int), (cf5_6, .int), (cf5_0, .byte)] s := hK
                obtain ⟨rfl, hz_3⟩ := hw
                rcases hz_3 with rfl | rfl
                · rw [if_pos rfl] at hsp
                  refine lv_if_eq (tgt := 134) hx hb dX11_hasTwins_127 (by decide) (fun c_8 => ?_) (fun c_8 => (show False by revert c_8; decide).elim)
                  refine lv_iconst (v := 0) hx hb dX11_hasTwins_134 (by decide) ?_
                  refine lv_istore_n (lv' := [(1, .int 0), (3, .int l3_89), (2, .int l2_89), (0, .ref h0)]) hx hb dX11_hasTwins_135 rfl hl (by decide) rfl (fun ls hl => ?_)
                  refine lv_iinc (v := (l3_89 + 1)) (lv' := [(3, .int (l3_89 + 1)), (1, .int 0), (2, .int l2_89), (0, .ref h0)]) hx hb dX11_hasTwins_136 hl (k := 1) rfl rfl (by decide) rfl (fun ls hl => ?_)
                  refine lv_goto (tgt := 89) hx hb dX11_hasTwins_139 (by decide) ?_
                  exact ih_89 H locs ls 0 l2_89 (l3_89 + 1) (lv_sub hl [0, 2, 1, 3] rfl) hS (hD.sub (ws' := [(h0, .inr (11, [.ref qf0, .ref qf1, .int v2, .int v3, .int v4, .ref qf5, .int v6, .int v7, .ref qf8, .ref qf9, .ref qf10, .ref qf11, .ref qf12, .ref qf13, .ref qf14, .ref qf15, .int v16, .int v17, .int v18, .int v19, .int v20])), (qf5, .inr (3, [.ref qf5_0, .int v5_1, .int v5_2, .int v5_3, .ref qf5_4, .ref qf5_5, .ref qf5_6, .int v5_7, .int v5_8, .int v5_9, .int v5_10, .ref qf5_11, .int v5_12, .ref qf5_13])), (qf5_13, .inl (cf5_13, 144, .inl f5_13)), (qf5_5, .inl (cf5_5, 256, .inl f5_5)), (qf5_6, .inl (cf5_6, 256, .inl f5_6)), (qf5_0, .inl (cf5_0, nb, .inl f5_0)), (qf5_11, .inl (cf5_11, 24, .inl f5_11))]) [0, 3, 2, 4, 5, 6, 1] (by decide) rfl) (hP.sub (ws' := [(h0, .inr (11, [.ref qf0, .ref qf1, .int v2, .int v3, .int v4, .ref qf5, .int v6, .int v7, .ref qf8, .ref qf9, .ref qf10, .ref qf11, .ref qf12, .ref qf13, .ref qf14, .ref qf15, .int v16, .int v17, .int v18, .int v19, .int v20])), (qf5, .inr (3, [.ref qf5_0, .int v5_1, .int v5_2, .int v5_3, .ref qf5_4, .ref qf5_5, .ref qf5_6, .int v5_7, .int v5_8, .int v5_9, .int v5_10, .ref qf5_11, .int v5_12, .ref qf5_13])), (qf5_13, .inl (cf5_13, 144, .inl f5_13)), (qf5_5, .inl (cf5_5, 256, .inl f5_5)), (qf5_6, .inl (cf5_6, 256, .inl f5_6)), (qf5_0, .inl (cf5_0, nb, .inl f5_0)), (qf5_11, .inl (cf5_11, 24, .inl f5_11))]) [0, 3, 2, 4, 5, 6, 1] rfl) hsp
                · rw [if_neg (by decide)] at hsp
                  refine lv_if_eq (tgt := 134) hx hb dX11_hasTwins_127 (by decide) (fun c_9 => (show False by revert c_9; decide).elim) (fun c_9 => ?_)
                  refine lv_iconst (v := 1) hx hb dX11_hasTwins_130 (by decide) ?_
                  refine lv_goto (tgt := 135) hx hb dX11_hasTwins_131 (by decide) ?_
                  refine lv_istore_n (lv' := [(1, .int 1), (3, .int l3_89), (2, .int l2_89), (0, .ref h0)]) hx hb dX11_hasTwins_135 rfl hl (by decide) rfl (fun ls hl => ?_)
                  refine lv_iinc (v := (l3_89 + 1)) (lv' := [(3, .int (l3_89 + 1)), (1, .int 1), (2, .int l2_89), (0, .ref h0)]) hx hb dX11_hasTwins_136 hl (k := 1) rfl rfl (by decide) rfl (fun ls hl => ?_)
                  refine lv_goto (tgt := 89) hx hb dX11_hasTwins_139 (by decide) ?_
                  exact ih_89 H locs ls 1 l2_89 (l3_89 + 1) (lv_sub hl [0, 2, 1, 3] rfl) hS (hD.sub (ws' := [(h0, .inr (11, [.ref qf0, .ref qf1, .int v2, .int v3, .int v4, .ref qf5, .int v6, .int v7, .ref qf8, .ref qf9, .ref qf10, .ref qf11, .ref qf12, .ref qf13, .ref qf14, .ref qf15, .int v16, .int v17, .int v18, .int v19, .int v20])), (qf5, .inr (3, [.ref qf5_0, .int v5_1, .int v5_2, .int v5_3, .ref qf5_4, .ref qf5_5, .ref qf5_6, .int v5_7, .int v5_8, .int v5_9, .int v5_10, .ref qf5_11, .int v5_12, .ref qf5_13])), (qf5_13, .inl (cf5_13, 144, .inl f5_13)), (qf5_5, .inl (cf5_5, 256, .inl f5_5)), (qf5_6, .inl (cf5_6, 256, .inl f5_6)), (qf5_0, .inl (cf5_0, nb, .inl f5_0)), (qf5_11, .inl (cf5_11, 24, .inl f5_11))]) [0, 3, 2, 4, 5, 6, 1] (by decide) rfl) (hP.sub (ws' := [(h0, .inr (11, [.ref qf0, .ref qf1, .int v2, .int v3, .int v4, .ref qf5, .int v6, .int v7, .ref qf8, .ref qf9, .ref qf10, .ref qf11, .ref qf12, .ref qf13, .ref qf14, .ref qf15, .int v16, .int v17, .int v18, .int v19, .int v20])), (qf5, .inr (3, [.ref qf5_0, .int v5_1, .int v5_2, .int v5_3, .ref qf5_4, .ref qf5_5, .ref qf5_6, .int v5_7, .int v5_8, .int v5_9, .int v5_10, .ref qf5_11, .int v5_12, .ref qf5_13])), (qf5_13, .inl (cf5_13, 144, .inl f5_13)), (qf5_5, .inl (cf5_5, 256, .inl f5_5)), (qf5_6, .inl (cf5_6, 256, .inl f5_6)), (qf5_0, .inl (cf5_0, nb, .inl f5_0)), (qf5_11, .inl (cf5_11, 24, .inl f5_11))]) [0, 3, 2, 4, 5, 6, 1] rfl) hsp
    · rw [if_neg c_1] at hsp
      refine lv_iconst (v := 0) hx hb dX11_hasTwins_15 (by decide) ?_
      refine lv_istore_n (lv' := [(3, .int 0), (2, .int l2_4), (1, .int l1_4), (0, .ref h0)]) hx hb dX11_hasTwins_16 rfl hl (by decide) rfl (fun ls hl => ?_)
      replace hl : lv_has ls 4 [(3, .int 0), (2, .int l2_4), (1, .int l1_4), (0, .ref h0)] := lv_sub hl [0, 1, 2, 3] rfl
      replace hP := hP.sub (ws' := [(h0, .inr (11, [.ref qf0, .ref qf1, .int v2, .int v3, .int v4, .ref qf5, .int v6, .int v7, .ref qf8, .ref qf9, .ref qf10, .ref qf11, .ref qf12, .ref qf13, .ref qf14, .ref qf15, .int v16, .int v17, .int v18, .int v19, .int v20])), (qf5, .inr (3, [.ref qf5_0, .int v5_1, .int v5_2, .int v5_3, .ref qf5_4, .ref qf5_5, .ref qf5_6, .int v5_7, .int v5_8, .int v5_9, .int v5_10, .ref qf5_11, .int v5_12, .ref qf5_13])), (qf5_13, .inl (cf5_13, 144, .inl f5_13)), (qf5_5, .inl (cf5_5, 256, .inl f5_5)), (qf5_6, .inl (cf5_6, 256, .inl f5_6)), (qf5_0, .inl (cf5_0, nb, .inl f5_0)), (qf5_11, .inl (cf5_11, 24, .inl f5_11))]) [0, 1, 2, 3, 4, 5, 6] rfl
      replace hD := hD.sub (ws' := [(h0, .inr (11, [.ref qf0, .ref qf1, .int v2, .int v3, .int v4, .ref qf5, .int v6, .int v7, .ref qf8, .ref qf9, .ref qf10, .ref qf11, .ref qf12, .ref qf13, .ref qf14, .ref qf15, .int v16, .int v17, .int v18, .int v19, .int v20])), (qf5, .inr (3, [.ref qf5_0, .int v5_1, .int v5_2, .int v5_3, .ref qf5_4, .ref qf5_5, .ref qf5_6, .int v5_7, .int v5_8, .int v5_9, .int v5_10, .ref qf5_11, .int v5_12, .ref qf5_13])), (qf5_13, .inl (cf5_13, 144, .inl f5_13)), (qf5_5, .inl (cf5_5, 256, .inl f5_5)), (qf5_6, .inl (cf5_6, 256, .inl f5_6)), (qf5_0, .inl (cf5_0, nb, .inl f5_0)), (qf5_11, .inl (cf5_11, 24, .inl f5_11))]) [0, 1, 2, 3, 4, 5, 6] (by decide) rfl
      replace hK := hK.sub (tys' := [(cf5_13, .int), (cf5_5, .int), (cf5_6, .int), (cf5_0, .byte), (cf5_11, .int)]) [0, 1, 2, 3, 4] rfl
      obtain ⟨n_17, hn_17⟩ : ∃ z : Nat, z = nf := ⟨_, rfl⟩
      obtain ⟨l1_17, el1_17⟩ : ∃ z : Int32, z = l1_4 := ⟨_, rfl⟩
      obtain ⟨l2_17, el2_17⟩ : ∃ z : Int32, z = l2_4 := ⟨_, rfl⟩
      obtain ⟨l3_17, el3_17⟩ : ∃ z : Int32, z = 0 := ⟨_, rfl⟩
      replace hsp : lp_v11_hasTwins_17 nf n_17 v5_1 v5_7 v5_10 v5_12 f5_13 f5_5 f5_6 nb f5_0 f5_11 (lp_v11_hasTwins_4 nf n_4 v5_1 v5_7 v5_10 v5_12 f5_13 f5_5 f5_6 nb f5_0 f5_11) l1_17 l2_17 l3_17 = some r0 := by rw [hn_17, el1_17, el2_17, el3_17]; exact hsp
      replace hl : lv_has ls 4 [(3, .int l3_17), (2, .int l2_17), (1, .int l1_17), (0, .ref h0)] := by rw [el1_17, el2_17, el3_17]; exact hl
      clear hn_17 el1_17 el2_17 el3_17
      try clear hlo
      try clear hH
      revert hsp
      revert hP
      revert hD
      revert hS
      revert hl
      revert l3_17
      revert l2_17
      revert l1_17
      revert ls
      revert locs
      revert H
      induction n_17 with
      | zero => intro H locs ls l1_17 l2_17 l3_17  hl hS hD hP hsp; unfold lp_v11_hasTwins_17 at hsp; cases hsp
      | succ n_17 ih_17 =>
        intro H locs ls l1_17 l2_17 l3_17  hl hS hD hP hsp
        unfold lp_v11_hasTwins_17 at hsp
        try dsimp only at hsp
        refine lv_iload_n hx hb dX11_hasTwins_17 rfl (lv_at hl 0 rfl) ?_
        refine lv_iload_n hx hb dX11_hasTwins_18 rfl (lv_at hl 1 rfl) ?_
        refine lv_icmp_ge (tgt := 68) hx hb dX11_hasTwins_19 (by decide) (fun c_10 => ?_) (fun c_10 => ?_)
        · rw [if_pos c_10] at hsp
          refine lv_iinc (v := (l2_17 + 1)) (lv' := [(2, .int (l2_17 + 1)), (3, .int l3_17), (1, .int l1_17), (0, .ref h0)]) hx hb dX11_hasTwins_68 hl (k := 1) rfl rfl (by decide) rfl (fun ls hl => ?_)
          refine lv_goto (tgt := 4) hx hb dX11_hasTwins_71 (by decide) ?_
          exact ih_4 H locs ls l1_17 (l2_17 + 1) (lv_sub hl [0, 2, 3] rfl) hS (hD.sub (ws' := [(h0, .inr (11, [.ref qf0, .ref qf1, .int v2, .int v3, .int v4, .ref qf5, .int v6, .int v7, .ref qf8, .ref qf9, .ref qf10, .ref qf11, .ref qf12, .ref qf13, .ref qf14, .ref qf15, .int v16, .int v17, .int v18, .int v19, .int v20])), (qf5, .inr (3, [.ref qf5_0, .int v5_1, .int v5_2, .int v5_3, .ref qf5_4, .ref qf5_5, .ref qf5_6, .int v5_7, .int v5_8, .int v5_9, .int v5_10, .ref qf5_11, .int v5_12, .ref qf5_13])), (qf5_13, .inl (cf5_13, 144, .inl f5_13)), (qf5_5, .inl (cf5_5, 256, .inl f5_5)), (qf5_6, .inl (cf5_6, 256, .inl f5_6)), (qf5_0, .inl (cf5_0, nb, .inl f5_0)), (qf5_11, .inl (cf5_11, 24, .inl f5_11))]) [0, 1, 2, 3, 4, 5, 6] (by decide) rfl) (hP.sub (ws' := [(h0, .inr (11, [.ref qf0, .ref qf1, .int v2, .int v3, .int v4, .ref qf5, .int v6, .int v7, .ref qf8, .ref qf9, .ref qf10, .ref qf11, .ref qf12, .ref qf13, .ref qf14, .ref qf15, .int v16, .int v17, .int v18, .int v19, .int v20])), (qf5, .inr (3, [.ref qf5_0, .int v5_1, .int v5_2, .int v5_3, .ref qf5_4, .ref qf5_5, .ref qf5_6, .int v5_7, .int v5_8, .int v5_9, .int v5_10, .ref qf5_11, .int v5_12, .ref qf5_13])), (qf5_13, .inl (cf5_13, 144, .inl f5_13)), (qf5_5, .inl (cf5_5, 256, .inl f5_5)), (qf5_6, .inl (cf5_6, 256, .inl f5_6)), (qf5_0, .inl (cf5_0, nb, .inl f5_0)), (qf5_11, .inl (cf5_11, 24, .inl f5_11))]) [0, 1, 2, 3, 4, 5, 6] rfl) hsp
        · rw [if_neg c_10] at hsp
          refine lv_iload_n hx hb dX11_hasTwins_22 rfl (lv_at hl 2 rfl) ?_
          refine lv_if_ne (tgt := 56) hx hb dX11_hasTwins_23 (by decide) (fun c_11 => ?_) (fun c_11 => ?_)
          · rw [if_neg c_11] at hsp
            refine lv_iconst (v := 1) hx hb dX11_hasTwins_56 (by decide) ?_
            refine lv_goto (tgt := 61) hx hb dX11_hasTwins_57 (by decide) ?_
            refine lv_istore_n (lv' := [(1, .int 1), (3, .int l3_17), (2, .int l2_17), (0, .ref h0)]) hx hb dX11_hasTwins_61 rfl hl (by decide) rfl (fun ls hl => ?_)
            refine lv_iinc (v := (l3_17 + 1)) (lv' := [(3, .int (l3_17 + 1)), (1, .int 1), (2, .int l2_17), (0, .ref h0)]) hx hb dX11_hasTwins_62 hl (k := 1) rfl rfl (by decide) rfl (fun ls hl => ?_)
            refine lv_goto (tgt := 17) hx hb dX11_hasTwins_65 (by decide) ?_
            exact ih_17 H locs ls 1 l2_17 (l3_17 + 1) (lv_sub hl [0, 2, 1, 3] rfl) hS (hD.sub (ws' := [(h0, .inr (11, [.ref qf0, .ref qf1, .int v2, .int v3, .int v4, .ref qf5, .int v6, .int v7, .ref qf8, .ref qf9, .ref qf10, .ref qf11, .ref qf12, .ref qf13, .ref qf14, .ref qf15, .int v16, .int v17, .int v18, .int v19, .int v20])), (qf5, .inr (3, [.ref qf5_0, .int v5_1, .int v5_2, .int v5_3, .ref qf5_4, .ref qf5_5, .ref qf5_6, .int v5_7, .int v5_8, .int v5_9, .int v5_10, .ref qf5_11, .int v5_12, .ref qf5_13])), (qf5_13, .inl (cf5_13, 144, .inl f5_13)), (qf5_5, .inl (cf5_5, 256, .inl f5_5)), (qf5_6, .inl (cf5_6, 256, .inl f5_6)), (qf5_0, .inl (cf5_0, nb, .inl f5_0)), (qf5_11, .inl (cf5_11, 24, .inl f5_11))]) [0, 1, 2, 3, 4, 5, 6] (by decide) rfl) (hP.sub (ws' := [(h0, .inr (11, [.ref qf0, .ref qf1, .int v2, .int v3, .int v4, .ref qf5, .int v6, .int v7, .ref qf8, .ref qf9, .ref qf10, .ref qf11, .ref qf12, .ref qf13, .ref qf14, .ref qf15, .int v16, .int v17, .int v18, .int v19, .int v20])), (qf5, .inr (3, [.ref qf5_0, .int v5_1, .int v5_2, .int v5_3, .ref qf5_4, .ref qf5_5, .ref qf5_6, .int v5_7, .int v5_8, .int v5_9, .int v5_10, .ref qf5_11, .int v5_12, .ref qf5_13])), (qf5_13, .inl (cf5_13, 144, .inl f5_13)), (qf5_5, .inl (cf5_5, 256, .inl f5_5)), (qf5_6, .inl (cf5_6, 256, .inl f5_6)), (qf5_0, .inl (cf5_0, nb, .inl f5_0)), (qf5_11, .inl (cf5_11, 24, .inl f5_11))]) [0, 1, 2, 3, 4, 5, 6] rfl) hsp
          · rw [if_pos c_11] at hsp
            refine lv_aload_n hx hb dX11_hasTwins_26 rfl (lv_at hl 3 rfl) ?_
            refine va_get (D := (dC, dI)) (ci := 11) (v := .ref qf5) (C := RX11) (T := TX11) (N := 21) hx hb hts uV_h8_X11 hown hK hP 0 rfl rfl 5 (by decide) (hts (.fieldLink RX11 62 "ClassMill$Verifier" "image" "LClassMill$Image;") mw_h8_27) (fun _ h9 => h9) rfl dX11_hasTwins_27 ?_
            refine lv_aload_n hx hb dX11_hasTwins_30 rfl (lv_at hl 3 rfl) ?_
            refine va_get (D := (dC, dI)) (ci := 11) (v := .ref qf5) (C := RX11) (T := TX11) (N := 21) hx hb hts uV_h8_X11 hown hK hP 0 rfl rfl 5 (by decide) (hts (.fieldLink RX11 62 "ClassMill$Verifier" "image" "LClassMill$Image;") mw_h8_27) (fun _ h9 => h9) rfl dX11_hasTwins_31 ?_
            refine lv_iload_n hx hb dX11_hasTwins_34 rfl (lv_at hl 1 rfl) ?_
            obtain ⟨u4_0, hu_4, hsp⟩ := ox_bind hsp
            try dsimp only at hsp
            have hPc := hP.sub (ws' := [(qf5, .inr (3, [.ref qf5_0, .int v5_1, .int v5_2, .int v5_3, .ref qf5_4, .ref qf5_5, .ref qf5_6, .int v5_7, .int v5_8, .int v5_9, .int v5_10, .ref qf5_11, .int v5_12, .ref qf5_13])), (qf5_11, .inl (cf5_11, 24, .inl f5_11))]) [1, 6] rfl
            have hDc := hD.sub (ws' := [(qf5, .inr (3, [.ref qf5_0, .int v5_1, .int v5_2, .int v5_3, .ref qf5_4, .ref qf5_5, .ref qf5_6, .int v5_7, .int v5_8, .int v5_9, .int v5_10, .ref qf5_11, .int v5_12, .ref qf5_13])), (qf5_11, .inl (cf5_11, 24, .inl f5_11))]) [1, 6] (by decide) rfl
            have hKc := hK.sub (tys' := [(cf5_11, .int)]) [4] rfl
            have hFc := va_free (wc := [(qf5, .inr (3, [.ref qf5_0, .int v5_1, .int v5_2, .int v5_3, .ref qf5_4, .ref qf5_5, .ref qf5_6, .int v5_7, .int v5_8, .int v5_9, .int v5_10, .ref qf5_11, .int v5_12, .ref qf5_13])), (qf5_11, .inl (cf5_11, 24, .inl f5_11))]) hD hS hA [1, 6] rfl
            refine va_calli (va_runV (As := [.int l2_17]) (rest := [.ref qf5]) ⟨hx, hb, hml, hown, hts⟩ (ti_fieldName l dC dI H.size qf5 l2_17 qf5_0 v5_1 v5_2 v5_3 qf5_4 qf5_5 qf5_6 v5_7 v5_8 v5_9 v5_10 qf5_11 v5_12 qf5_13 cf5_11 f5_11 nf u4_0 hu_4) (cwV 1 hts gv_h8_5 rfl rfl rfl (by decide +kernel) ⟨Nat.le_of_ble_eq_true rfl, Nat.le_of_ble_eq_true rfl⟩) ⟨fun a U g mk q => by obtain ⟨q0, q1, qP, qK, qD⟩ := q; exact ⟨q0, q1, qP, va_K.moved (u := U) (U := U.calling g mk a) (Vm.Alike.refl U.vm) qK, qD⟩, va_recv hKc hPc (ci := 3) (q0 := 0) rfl rfl, fun U hU hW => ⟨rfl, by rw [hU], by rw [hU]; exact hPc, va_K.moved hW.alike hKc, hDc.weaken (fun _ _ _ _ => trivial)⟩⟩ rfl rfl hl.1 rfl (lv_room (Nat.le_of_ble_eq_true rfl)) dX11_hasTwins_35 ⟨Nat.le_of_ble_eq_true rfl, Nat.le_of_ble_eq_true rfl⟩) hS (fun q _ h => hFc q h) hFc ?_
            clear hS
            intro r_12 u t H1 locs ht hvm hw hB hz1 hk1 hS
            obtain ⟨⟩ := u
            obtain ⟨hP1, hK1, hD1⟩ := hB
            rw [ht] at hP1
            have hK1 := va_K.moved hvm.symm hK1
            try dsimp only at hw
            have hPD := va_join (wr := [(h0, .inr (11, [.ref qf0, .ref qf1, .int v2, .int v3, .int v4, .ref qf5, .int v6, .int v7, .ref qf8, .ref qf9, .ref qf10, .ref qf11, .ref qf12, .ref qf13, .ref qf14, .ref qf15, .int v16, .int v17, .int v18, .int v19, .int v20])), (qf5_13, .inl (cf5_13, 144, .inl f5_13)), (qf5_5, .inl (cf5_5, 256, .inl f5_5)), (qf5_6, .inl (cf5_6, 256, .inl f5_6)), (qf5_0, .inl (cf5_0, nb, .inl f5_0))]) (w1 := [(qf5, .inr (3, [.ref qf5_0, .int v5_1, .int v5_2, .int v5_3, .ref qf5_4, .ref qf5_5, .ref qf5_6, .int v5_7, .int v5_8, .int v5_9, .int v5_10, .ref qf5_11, .int v5_12, .ref qf5_13])), (qf5_11, .inl (cf5_11, 24, .inl f5_11))]) hP hD [1, 6] [0, 2, 3, 4, 5] rfl rfl (by decide) (by decide) hk1 hFc hP1 hD1
            clear hP hD
            obtain ⟨hP, hD⟩ := hPD
            replace hK := (hK.sub (tys' := [(cf5_13, .int), (cf5_5, .int), (cf5_6, .int), (cf5_0, .byte)]) [0, 1, 2, 3] rfl).app hK1
            clear hPc hDc hKc hFc hP1 hK1 hD1 hz1 hk1 ht hvm
            generalize H1 = H at hP hS ⊢
            replace hP : va_P (dC, dI) vwCl [(h0, .inr (11, [.ref qf0, .ref qf1, .int v2, .int v3, .int v4, .ref qf5, .int v6, .int v7, .ref qf8, .ref qf9, .ref qf10, .ref qf11, .ref qf12, .ref qf13, .ref qf14, .ref qf15, .int v16, .int v17, .int v18, .int v19, .int v20])), (qf5_13, .inl (cf5_13, 144, .inl f5_13)), (qf5_5, .inl (cf5_5, 256, .inl f5_5)), (qf5_6, .inl (cf5_6, 256, .inl f5_6)), (qf5_0, .inl (cf5_0, nb, .inl f5_0)), (qf5, .inr (3, [.ref qf5_0, .int v5_1, .int v5_2, .int v5_3, .ref qf5_4, .ref qf5_5, .ref qf5_6, .int v5_7, .int v5_8, .int v5_9, .int v5_10, .ref qf5_11, .int v5_12, .ref qf5_13])), (qf5_11, .inl (cf5_11, 24, .inl f5_11))] H := hP
            replace hD : va_D A [(h0, .inr (11, [.ref qf0, .ref qf1, .int v2, .int v3, .int v4, .ref qf5, .int v6, .int v7, .ref qf8, .ref qf9, .ref qf10, .ref qf11, .ref qf12, .ref qf13, .ref qf14, .ref qf15, .int v16, .int v17, .int v18, .int v19, .int v20])), (qf5_13, .inl (cf5_13, 144, .inl f5_13)), (qf5_5, .inl (cf5_5, 256, .inl f5_5)), (qf5_6, .inl (cf5_6, 256, .inl f5_6)), (qf5_0, .inl (cf5_0, nb, .inl f5_0)), (qf5, .inr (3, [.ref qf5_0, .int v5_1, .int v5_2, .int v5_3, .ref qf5_4, .ref qf5_5, .ref qf5_6, .int v5_7, .int v5_8, .int v5_9, .int v5_10, .ref qf5_11, .int v5_12, .ref qf5_13])), (qf5_11, .inl (cf5_11, 24, .inl f5_11))] := hD
            replace hK : va_K (dC, dI) vwCl [(cf5_13, .int), (cf5_5, .int), (cf5_6, .int), (cf5_0, .byte), (cf5_11, .int)] s := hK
            obtain rfl := hw
            refine lv_aload_n hx hb dX11_hasTwins_38 rfl (lv_at hl 3 rfl) ?_
            refine va_get (D := (dC, dI)) (ci := 11) (v := .ref qf5) (C := RX11) (T := TX11) (N := 21) hx hb hts uV_h8_X11 hown hK hP 0 rfl rfl 5 (by decide) (hts (.fieldLink RX11 62 "ClassMill$Verifier" "image" "LClassMill$Image;") mw_h8_27) (fun _ h9 => h9) rfl dX11_hasTwins_39 ?_
            refine lv_aload_n hx hb dX11_hasTwins_42 rfl (lv_at hl 3 rfl) ?_
            refine va_get (D := (dC, dI)) (ci := 11) (v := .ref qf5) (C := RX11) (T := TX11) (N := 21) hx hb hts uV_h8_X11 hown hK hP 0 rfl rfl 5 (by decide) (hts (.fieldLink RX11 62 "ClassMill$Verifier" "image" "LClassMill$Image;") mw_h8_27) (fun _ h9 => h9) rfl dX11_hasTwins_43 ?_
            refine lv_iload_n hx hb dX11_hasTwins_46 rfl (lv_at hl 0 rfl) ?_
            obtain ⟨u5_0, hu_5, hsp⟩ := ox_bind hsp
            try dsimp only at hsp
            have hPc := hP.sub (ws' := [(qf5, .inr (3, [.ref qf5_0, .int v5_1, .int v5_2, .int v5_3, .ref qf5_4, .ref qf5_5, .ref qf5_6, .int v5_7, .int v5_8, .int v5_9, .int v5_10, .ref qf5_11, .int v5_12, .ref qf5_13])), (qf5_11, .inl (cf5_11, 24, .inl f5_11))]) [5, 6] rfl
            have hDc := hD.sub (ws' := [(qf5, .inr (3, [.ref qf5_0, .int v5_1, .int v5_2, .int v5_3, .ref qf5_4, .ref qf5_5, .ref qf5_6, .int v5_7, .int v5_8, .int v5_9, .int v5_10, .ref qf5_11, .int v5_12, .ref qf5_13])), (qf5_11, .inl (cf5_11, 24, .inl f5_11))]) [5, 6] (by decide) rfl
            have hKc := hK.sub (tys' := [(cf5_11, .int)]) [4] rfl
            have hFc := va_free (wc := [(qf5, .inr (3, [.ref qf5_0, .int v5_1, .int v5_2, .int v5_3, .ref qf5_4, .ref qf5_5, .ref qf5_6, .int v5_7, .int v5_8, .int v5_9, .int v5_10, .ref qf5_11, .int v5_12, .ref qf5_13])), (qf5_11, .inl (cf5_11, 24, .inl f5_11))]) hD hS hA [5, 6] rfl
            refine va_calli (va_runV (As := [.int l3_17]) (rest := [.ref qf5, .int u4_0, .ref qf5]) ⟨hx, hb, hml, hown, hts⟩ (ti_fieldName l dC dI H.size qf5 l3_17 qf5_0 v5_1 v5_2 v5_3 qf5_4 qf5_5 qf5_6 v5_7 v5_8 v5_9 v5_10 qf5_11 v5_12 qf5_13 cf5_11 f5_11 nf u5_0 hu_5) (cwV 1 hts gv_h8_5 rfl rfl rfl (by decide +kernel) ⟨Nat.le_of_ble_eq_true rfl, Nat.le_of_ble_eq_true rfl⟩) ⟨fun a U g mk q => by obtain ⟨q0, q1, qP, qK, qD⟩ := q; exact ⟨q0, q1, qP, va_K.moved (u := U) (U := U.calling g mk a) (Vm.Alike.refl U.vm) qK, qD⟩, va_recv hKc hPc (ci := 3) (q0 := 0) rfl rfl, fun U hU hW => ⟨rfl, by rw [hU], by rw [hU]; exact hPc, va_K.moved hW.alike hKc, hDc.weaken (fun _ _ _ _ => trivial)⟩⟩ rfl rfl hl.1 rfl (lv_room (Nat.le_of_ble_eq_true rfl)) dX11_hasTwins_47 ⟨Nat.le_of_ble_eq_true rfl, Nat.le_of_ble_eq_true rfl⟩) hS (fun q _ h => hFc q h) hFc ?_
            clear hS
            intro r_13 u t H1 locs ht hvm hw hB hz1 hk1 hS
            obtain ⟨⟩ := u
            obtain ⟨hP1, hK1, hD1⟩ := hB
            rw [ht] at hP1
            have hK1 := va_K.moved hvm.symm hK1
            try dsimp only at hw
            have hPD := va_join (wr := [(h0, .inr (11, [.ref qf0, .ref qf1, .int v2, .int v3, .int v4, .ref qf5, .int v6, .int v7, .ref qf8, .ref qf9, .ref qf10, .ref qf11, .ref qf12, .ref qf13, .ref qf14, .ref qf15, .int v16, .int v17, .int v18, .int v19, .int v20])), (qf5_13, .inl (cf5_13, 144, .inl f5_13)), (qf5_5, .inl (cf5_5, 256, .inl f5_5)), (qf5_6, .inl (cf5_6, 256, .inl f5_6)), (qf5_0, .inl (cf5_0, nb, .inl f5_0))]) (w1 := [(qf5, .inr (3, [.ref qf5_0, .int v5_1, .int v5_2, .int v5_3, .ref qf5_4, .ref qf5_5, .ref qf5_6, .int v5_7, .int v5_8, .int v5_9, .int v5_10, .ref qf5_11, .int v5_12, .ref qf5_13])), (qf5_11, .inl (cf5_11, 24, .inl f5_11))]) hP hD [5, 6] [0, 1, 2, 3, 4] rfl rfl (by decide) (by decide) hk1 hFc hP1 hD1
            clear hP hD
            obtain ⟨hP, hD⟩ := hPD
            replace hK := (hK.sub (tys' := [(cf5_13, .int), (cf5_5, .int), (cf5_6, .int), (cf5_0, .byte)]) [0, 1, 2, 3] rfl).app hK1
            clear hPc hDc hKc hFc hP1 hK1 hD1 hz1 hk1 ht hvm
            generalize H1 = H at hP hS ⊢
            replace hP : va_P (dC, dI) vwCl [(h0, .inr (11, [.ref qf0, .ref qf1, .int v2, .int v3, .int v4, .ref qf5, .int v6, .int v7, .ref qf8, .ref qf9, .ref qf10, .ref qf11, .ref qf12, .ref qf13, .ref qf14, .ref qf15, .int v16, .int v17, .int v18, .int v19, .int v20])), (qf5_13, .inl (cf5_13, 144, .inl f5_13)), (qf5_5, .inl (cf5_5, 256, .inl f5_5)), (qf5_6, .inl (cf5_6, 256, .inl f5_6)), (qf5_0, .inl (cf5_0, nb, .inl f5_0)), (qf5, .inr (3, [.ref qf5_0, .int v5_1, .int v5_2, .int v5_3, .ref qf5_4, .ref qf5_5, .ref qf5_6, .int v5_7, .int v5_8, .int v5_9, .int v5_10, .ref qf5_11, .int v5_12, .ref qf5_13])), (qf5_11, .inl (cf5_11, 24, .inl f5_11))] H := hP
            replace hD : va_D A [(h0, .inr (11, [.ref qf0, .ref qf1, .int v2, .int v3, .int v4, .ref qf5, .int v6, .int v7, .ref qf8, .ref qf9, .ref qf10, .ref qf11, .ref qf12, .ref qf13, .ref qf14, .ref qf15, .int v16, .int v17, .int v18, .int v19, .int v20])), (qf5_13, .inl (cf5_13, 144, .inl f5_13)), (qf5_5, .inl (cf5_5, 256, .inl f5_5)), (qf5_6, .inl (cf5_6, 256, .inl f5_6)), (qf5_0, .inl (cf5_0, nb, .inl f5_0)), (qf5, .inr (3, [.ref qf5_0, .int v5_1, .int v5_2, .int v5_3, .ref qf5_4, .ref qf5_5, .ref qf5_6, .int v5_7, .int v5_8, .int v5_9, .int v5_10, .ref qf5_11, .int v5_12, .ref qf5_13])), (qf5_11, .inl (cf5_11, 24, .inl f5_11))] := hD
            replace hK : va_K (dC, dI) vwCl [(cf5_13, .int), (cf5_5, .int), (cf5_6, .int), (cf5_0, .byte), (cf5_11, .int)] s := hK
            obtain rfl := hw
            obtain ⟨u6_0, hu_6, hsp⟩ := ox_bind hsp
            try dsimp only at hsp
            have hPc := hP.sub (ws' := [(qf5, .inr (3, [.ref qf5_0, .int v5_1, .int v5_2, .int v5_3, .ref qf5_4, .ref qf5_5, .ref qf5_6, .int v5_7, .int v5_8, .int v5_9, .int v5_10, .ref qf5_11, .int v5_12, .ref qf5_13])), (qf5_5, .inl (cf5_5, 256, .inl f5_5)), (qf5_6, .inl (cf5_6, 256, .inl f5_6)), (qf5_0, .inl (cf5_0, nb, .inl f5_0))]) [5, 2, 3, 4] rfl
            have hDc := hD.sub (ws' := [(qf5, .inr (3, [.ref qf5_0, .int v5_1, .int v5_2, .int v5_3, .ref qf5_4, .ref qf5_5, .ref qf5_6, .int v5_7, .int v5_8, .int v5_9, .int v5_10, .ref qf5_11, .int v5_12, .ref qf5_13])), (qf5_5, .inl (cf5_5, 256, .inl f5_5)), (qf5_6, .inl (cf5_6, 256, .inl f5_6)), (qf5_0, .inl (cf5_0, nb, .inl f5_0))]) [5, 2, 3, 4] (by decide) rfl
            have hKc := hK.sub (tys' := [(cf5_5, .int), (cf5_6, .int), (cf5_0, .byte)]) [1, 2, 3] rfl
            have hFc := va_free (wc := [(qf5, .inr (3, [.ref qf5_0, .int v5_1, .int v5_2, .int v5_3, .ref qf5_4, .ref qf5_5, .ref qf5_6, .int v5_7, .int v5_8, .int v5_9, .int v5_10, .ref qf5_11, .int v5_12, .ref qf5_13])), (qf5_5, .inl (cf5_5, 256, .inl f5_5)), (qf5_6, .inl (cf5_6, 256, .inl f5_6)), (qf5_0, .inl (cf5_0, nb, .inl f5_0))]) hD hS hA [5, 2, 3, 4] rfl
            refine va_calli (va_runV (As := [.int u4_0, .ref qf5, .int u5_0]) (rest := []) ⟨hx, hb, hml, hown, hts⟩ (v3_sameTextB l dC dI H.size qf5 u4_0 u5_0 qf5_0 v5_1 v5_2 v5_3 qf5_4 qf5_5 qf5_6 v5_7 v5_8 v5_9 v5_10 qf5_11 v5_12 qf5_13 cf5_5 f5_5 cf5_6 f5_6 cf5_0 nb f5_0 nf u6_0 hu_6) (cwV 3 hts gv_h8_4 rfl rfl rfl (by decide +kernel) ⟨Nat.le_of_ble_eq_true rfl, Nat.le_of_ble_eq_true rfl⟩) ⟨fun a U g mk q => by obtain ⟨q0, q1, qP, qK, qD⟩ := q; exact ⟨q0, q1, qP, va_K.moved (u := U) (U := U.calling g mk a) (Vm.Alike.refl U.vm) qK, qD⟩, va_recv hKc hPc (ci := 3) (q0 := 0) rfl rfl, fun U hU hW => ⟨rfl, by rw [hU], by rw [hU]; exact hPc, va_K.moved hW.alike hKc, hDc.weaken (fun _ _ _ _ => trivial)⟩⟩ rfl rfl hl.1 rfl (lv_room (Nat.le_of_ble_eq_true rfl)) dX11_hasTwins_50 ⟨Nat.le_of_ble_eq_true rfl, Nat.le_of_ble_eq_true rfl⟩) hS (fun q _ h => hFc q h) hFc ?_
            clear hS
            intro r_14 u t H1 locs ht hvm hw hB hz1 hk1 hS
            obtain ⟨⟩ := u
            obtain ⟨hP1, hK1, hD1⟩ := hB
            rw [ht] at hP1
            have hK1 := va_K.moved hvm.symm hK1
            try dsimp only at hw
            have hPD := va_join (wr := [(h0, .inr (11, [.ref qf0, .ref qf1, .int v2, .int v3, .int v4, .ref qf5, .int v6, .int v7, .ref qf8, .ref qf9, .ref qf10, .ref qf11, .ref qf12, .ref qf13, .ref qf14, .ref qf15, .int v16, .int v17, .int v18, .int v19, .int v20])), (qf5_13, .inl (cf5_13, 144, .inl f5_13)), (qf5_11, .inl (cf5_11, 24, .inl f5_11))]) (w1 := [(qf5, .inr (3, [.ref qf5_0, .int v5_1, .int v5_2, .int v5_3, .ref qf5_4, .ref qf5_5, .ref qf5_6, .int v5_7, .int v5_8, .int v5_9, .int v5_10, .ref qf5_11, .int v5_12, .ref qf5_13])), (qf5_5, .inl (cf5_5, 256, .inl f5_5)), (qf5_6, .inl (cf5_6, 256, .inl f5_6)), (qf5_0, .inl (cf5_0, nb, .inl f5_0))]) hP hD [5, 2, 3, 4] [0, 1, 6] rfl rfl (by decide) (by decide) hk1 hFc hP1 hD1
            clear hP hD
            obtain ⟨hP, hD⟩ := hPD
            replace hK := (hK.sub (tys' := [(cf5_13, .int), (cf5_11, .int)]) [0, 4] rfl).app hK1
            clear hPc hDc hKc hFc hP1 hK1 hD1 hz1 hk1 ht hvm
            generalize H1 = H at hP hS ⊢
            replace hP : va_P (dC, dI) vwCl [(h0, .inr (11, [.ref qf0, .ref qf1, .int v2, .int v3, .int v4, .ref qf5, .int v6, .int v7, .ref qf8, .ref qf9, .ref qf10, .ref qf11, .ref qf12, .ref qf13, .ref qf14, .ref qf15, .int v16, .int v17, .int v18, .int v19, .int v20])), (qf5_13, .inl (cf5_13, 144, .inl f5_13)), (qf5_11, .inl (cf5_11, 24, .inl f5_11)), (qf5, .inr (3, [.ref qf5_0, .int v5_1, .int v5_2, .int v5_3, .ref qf5_4, .ref qf5_5, .ref qf5_6, .int v5_7, .int v5_8, .int v5_9, .int v5_10, .ref qf5_11, .int v5_12, .ref qf5_13])), (qf5_5, .inl (cf5_5, 256, .inl f5_5)), (qf5_6, .inl (cf5_6, 256, .inl f5_6)), (qf5_0, .inl (cf5_0, nb, .inl f5_0))] H := hP
            replace hD : va_D A [(h0, .inr (11, [.ref qf0, .ref qf1, .int v2, .int v3, .int v4, .ref qf5, .int v6, .int v7, .ref qf8, .ref qf9, .ref qf10, .ref qf11, .ref qf12, .ref qf13, .ref qf14, .ref qf15, .int v16, .int v17, .int v18, .int v19, .int v20])), (qf5_13, .inl (cf5_13, 144, .inl f5_13)), (qf5_11, .inl (cf5_11, 24, .inl f5_11)), (qf5, .inr (3, [.ref qf5_0, .int v5_1, .int v5_2, .int v5_3, .ref qf5_4, .ref qf5_5, .ref qf5_6, .int v5_7, .int v5_8, .int v5_9, .int v5_10, .ref qf5_11, .int v5_12, .ref qf5_13])), (qf5_5, .inl (cf5_5, 256, .inl f5_5)), (qf5_6, .inl (cf5_6, 256, .inl f5_6)), (qf5_0, .inl (cf5_0, nb, .inl f5_0))] := hD
            replace hK : va_K (dC, dI) vwCl [(cf5_13, .int), (cf5_11, .int), (cf5_5, .int), (cf5_6, .int), (cf5_0, .byte)] s := hK
            obtain ⟨rfl, hz_6⟩ := hw
            rcases hz_6 with rfl | rfl
            · rw [if_pos rfl] at hsp
              refine lv_if_eq (tgt := 60) hx hb dX11_hasTwins_53 (by decide) (fun c_15 => ?_) (fun c_15 => (show False by revert c_15; decide).elim)
              refine lv_iconst (v := 0) hx hb dX11_hasTwins_60 (by decide) ?_
              refine lv_istore_n (lv' := [(1, .int 0), (3, .int l3_17), (2, .int l2_17), (0, .ref h0)]) hx hb dX11_hasTwins_61 rfl hl (by decide) rfl (fun ls hl => ?_)
              refine lv_iinc (v := (l3_17 + 1)) (lv' := [(3, .int (l3_17 + 1)), (1, .int 0), (2, .int l2_17), (0, .ref h0)]) hx hb dX11_hasTwins_62 hl (k := 1) rfl rfl (by decide) rfl (fun ls hl => ?_)
              refine lv_goto (tgt := 17) hx hb dX11_hasTwins_65 (by decide) ?_
              exact ih_17 H locs ls 0 l2_17 (l3_17 + 1) (lv_sub hl [0, 2, 1, 3] rfl) hS (hD.sub (ws' := [(h0, .inr (11, [.ref qf0, .ref qf1, .int v2, .int v3, .int v4, .ref qf5, .int v6, .int v7, .ref qf8, .ref qf9, .ref qf10, .ref qf11, .ref qf12, .ref qf13, .ref qf14, .ref qf15, .int v16, .int v17, .int v18, .int v19, .int v20])), (qf5, .inr (3, [.ref qf5_0, .int v5_1, .int v5_2, .int v5_3, .ref qf5_4, .ref qf5_5, .ref qf5_6, .int v5_7, .int v5_8, .int v5_9, .int v5_10, .ref qf5_11, .int v5_12, .ref qf5_13])), (qf5_13, .inl (cf5_13, 144, .inl f5_13)), (qf5_5, .inl (cf5_5, 256, .inl f5_5)), (qf5_6, .inl (cf5_6, 256, .inl f5_6)), (qf5_0, .inl (cf5_0, nb, .inl f5_0)), (qf5_11, .inl (cf5_11, 24, .inl f5_11))]) [0, 3, 1, 4, 5, 6, 2] (by decide) rfl) (hP.sub (ws' := [(h0, .inr (11, [.ref qf0, .ref qf1, .int v2, .int v3, .int v4, .ref qf5, .int v6, .int v7, .ref qf8, .ref qf9, .ref qf10, .ref qf11, .ref qf12, .ref qf13, .ref qf14, .ref qf15, .int v16, .int v17, .int v18, .int v19, .int v20])), (qf5, .inr (3, [.ref qf5_0, .int v5_1, .int v5_2, .int v5_3, .ref qf5_4, .ref qf5_5, .ref qf5_6, .int v5_7, .int v5_8, .int v5_9, .int v5_10, .ref qf5_11, .int v5_12, .ref qf5_13])), (qf5_13, .inl (cf5_13, 144, .inl f5_13)), (qf5_5, .inl (cf5_5, 256, .inl f5_5)), (qf5_6, .inl (cf5_6, 256, .inl f5_6)), (qf5_0, .inl (cf5_0, nb, .inl f5_0)), (qf5_11, .inl (cf5_11, 24, .inl f5_11))]) [0, 3, 1, 4, 5, 6, 2] rfl) hsp
            · rw [if_neg (by decide)] at hsp
              refine lv_if_eq (tgt := 60) hx hb dX11_hasTwins_53 (by decide) (fun c_16 => (show False by revert c_16; decide).elim) (fun c_16 => ?_)
              refine lv_iconst (v := 1) hx hb dX11_hasTwins_56 (by decide) ?_
              refine lv_goto (tgt := 61) hx hb dX11_hasTwins_57 (by decide) ?_
              refine lv_istore_n (lv' := [(1, .int 1), (3, .int l3_17), (2, .int l2_17), (0, .ref h0)]) hx hb dX11_hasTwins_61 rfl hl (by decide) rfl (fun ls hl => ?_)
              refine lv_iinc (v := (l3_17 + 1)) (lv' := [(3, .int (l3_17 + 1)), (1, .int 1), (2, .int l2_17), (0, .ref h0)]) hx hb dX11_hasTwins_62 hl (k := 1) rfl rfl (by decide) rfl (fun ls hl => ?_)
              refine lv_goto (tgt := 17) hx hb dX11_hasTwins_65 (by decide) ?_
              exact ih_17 H locs ls 1 l2_17 (l3_17 + 1) (lv_sub hl [0, 2, 1, 3] rfl) hS (hD.sub (ws' := [(h0, .inr (11, [.ref qf0, .ref qf1, .int v2, .int v3, .int v4, .ref qf5, .int v6, .int v7, .ref qf8, .ref qf9, .ref qf10, .ref qf11, .ref qf12, .ref qf13, .ref qf14, .ref qf15, .int v16, .int v17, .int v18, .int v19, .int v20])), (qf5, .inr (3, [.ref qf5_0, .int v5_1, .int v5_2, .int v5_3, .ref qf5_4, .ref qf5_5, .ref qf5_6, .int v5_7, .int v5_8, .int v5_9, .int v5_10, .ref qf5_11, .int v5_12, .ref qf5_13])), (qf5_13, .inl (cf5_13, 144, .inl f5_13)), (qf5_5, .inl (cf5_5, 256, .inl f5_5)), (qf5_6, .inl (cf5_6, 256, .inl f5_6)), (qf5_0, .inl (cf5_0, nb, .inl f5_0)), (qf5_11, .inl (cf5_11, 24, .inl f5_11))]) [0, 3, 1, 4, 5, 6, 2] (by decide) rfl) (hP.sub (ws' := [(h0, .inr (11, [.ref qf0, .ref qf1, .int v2, .int v3, .int v4, .ref qf5, .int v6, .int v7, .ref qf8, .ref qf9, .ref qf10, .ref qf11, .ref qf12, .ref qf13, .ref qf14, .ref qf15, .int v16, .int v17, .int v18, .int v19, .int v20])), (qf5, .inr (3, [.ref qf5_0, .int v5_1, .int v5_2, .int v5_3, .ref qf5_4, .ref qf5_5, .ref qf5_6, .int v5_7, .int v5_8, .int v5_9, .int v5_10, .ref qf5_11, .int v5_12, .ref qf5_13])), (qf5_13, .inl (cf5_13, 144, .inl f5_13)), (qf5_5, .inl (cf5_5, 256, .inl f5_5)), (qf5_6, .inl (cf5_6, 256, .inl f5_6)), (qf5_0, .inl (cf5_0, nb, .inl f5_0)), (qf5_11, .inl (cf5_11, 24, .inl f5_11))]) [0, 3, 1, 4, 5, 6, 2] rfl) hsp
abbrev GT_synv : Type := (Int32 → Int32 → Int32 → Int32 → Int32 → (Nat → Int32) → (Nat → Int32) → Option (Int32 × Int32 × Int32)) × (Int32 → Int32 → Int32 → Int32 → Int32 → (Nat → Int32) → (Nat → Int32) → Option (Int32 × Int32 × Int32)) × (Int32 → Int32 → Int32 → Int32 → Int32 → (Nat → Int32) → (Nat → Int32) → Option (Int32 × Int32 × Int32)) × (Int32 → Int32 → Int32 → Int32 → Int32 → (Nat → Int32) → (Nat → Int32) → Option (Int32 × Int32 × Int32)) × (Int32 → Int32 → Int32 → Int32 → Int32 → (Nat → Int32) → (Nat → Int32) → Option (Int32 × Int32 × Int32)) × (Int32 → Int32 → Int32 → Int32 → Int32 → (Nat → Int32) → (Nat → Int32) → Option (Int32 × Int32 × Int32))
def jn_v8_readValue_49 (nf : Nat) (rc : GT_synv) (a1 : Int32) (v0_3 : Int32) (v0_10 : Int32) (v0_11 : Int32) (v0_12 : Int32) (f0_0 : Nat → Int32) (f0_1 : Nat → Int32) (kk_20 : Int32 → Int32 → Int32 → Int32 → Int32 → Int32 → Option (Int32 × Int32 × Int32)) (l1_49 : Int32) (l3_49 : Int32) (s0_49 : Int32) (x0_10_49 : Int32) (x0_11_49 : Int32) (x0_12_49 : Int32) : Option (Int32 × Int32 × Int32) := (if s0_49 = 0 then ((sp_t8_need nf 2 v0_3 x0_10_49 x0_11_49 x0_12_49 f0_0 f0_1).bind (fun p1 => (kk_20 l1_49 s0_49 (l3_49 + 1) p1.1 p1.2.1 p1.2.2))) else ((rc.2.1 (l1_49 + 1) v0_3 (x0_10_49 + 1) x0_11_49 x0_12_49 f0_0 f0_1).bind (fun p2 => (kk_20 l1_49 s0_49 (l3_49 + 1) p2.1 p2.2.1 p2.2.2))))
def jn_v8_readValue_88 (nf : Nat) (rc : GT_synv) (a1 : Int32) (v0_3 : Int32) (v0_10 : Int32) (v0_11 : Int32) (v0_12 : Int32) (f0_0 : Nat → Int32) (f0_1 : Nat → Int32)  (l1_88 : Int32) (x0_10_88 : Int32) (x0_11_88 : Int32) (x0_12_88 : Int32) : Option (Int32 × Int32 × Int32) := ((sp_t8_accept nf 49 v0_3 x0_10_88 x0_11_88 f0_0).bind (fun p1 => (if p1.1 = 0 then (some (p1.2, x0_11_88, x0_12_88)) else ((rc.1 (l1_88 + 1) v0_3 p1.2 x0_11_88 x0_12_88 f0_0 f0_1).bind (fun p2 => ((sp_t8_need nf 50 v0_3 p2.1 p2.2.1 p2.2.2 f0_0 f0_1).bind (fun p3 => ((rc.1 (l1_88 + 1) v0_3 p3.1 p3.2.1 p3.2.2 f0_0 f0_1).bind (fun p4 => (some (p4.1, p4.2.1, p4.2.2)))))))))))
def lp_v8_readValue_20 (nf n : Nat) (rc : GT_synv) (a1 : Int32) (v0_3 : Int32) (v0_10 : Int32) (v0_11 : Int32) (v0_12 : Int32) (f0_0 : Nat → Int32) (f0_1 : Nat → Int32)  (l1_20 : Int32) (l2_20 : Int32) (l3_20 : Int32) (x0_10_20 : Int32) (x0_11_20 : Int32) (x0_12_20 : Int32) : Option (Int32 × Int32 × Int32) := match n with
  | 0 => none
  | n + 1 => (if 3000 ≤ l3_20 then (jn_v8_readValue_88 nf rc a1 v0_3 v0_10 v0_11 v0_12 f0_0 f0_1  l1_20 x0_10_20 x0_11_20 x0_12_20) else ((sp_t8_binaryAhead nf l2_20 v0_3 x0_10_20 x0_11_20 f0_0).bind (fun p1 => (if p1 = 0 then (jn_v8_readValue_88 nf rc a1 v0_3 v0_10 v0_11 v0_12 f0_0 f0_1  l1_20 x0_10_20 x0_11_20 x0_12_20) else ((sp_t8_accept nf 19 v0_3 x0_10_20 x0_11_20 f0_0).bind (fun p2 => (if p2.1 = 0 then (jn_v8_readValue_49 nf rc a1 v0_3 v0_10 v0_11 v0_12 f0_0 f0_1 (lp_v8_readValue_20 nf n rc a1 v0_3 v0_10 v0_11 v0_12 f0_0 f0_1) l1_20 l3_20 1 p2.2 x0_11_20 x0_12_20) else (jn_v8_readValue_49 nf rc a1 v0_3 v0_10 v0_11 v0_12 f0_0 f0_1 (lp_v8_readValue_20 nf n rc a1 v0_3 v0_10 v0_11 v0_12 f0_0 f0_1) l1_20 l3_20 0 p2.2 x0_11_20 x0_12_20))))))))
def op_v8_readValue (nf : Nat) (rc : GT_synv) (a1 : Int32) (v0_3 : Int32) (v0_10 : Int32) (v0_11 : Int32) (v0_12 : Int32) (f0_0 : Nat → Int32) (f0_1 : Nat → Int32) : Option (Int32 × Int32 × Int32) := ((sp_t8_tooDeep nf a1 v0_3 v0_10 v0_11 v0_12 f0_0 f0_1).bind (fun p1 => (if p1.1 = 0 then ((rc.2.1 (a1 + 1) v0_3 v0_10 p1.2.1 p1.2.2 f0_0 f0_1).bind (fun p2 => (lp_v8_readValue_20 nf nf rc a1 v0_3 v0_10 v0_11 v0_12 f0_0 f0_1  a1 1 0 p2.1 p2.2.1 p2.2.2))) else (some (v0_10, p1.2.1, p1.2.2)))))
def jn_v8_readUnary_44 (nf : Nat) (rc : GT_synv) (a1 : Int32) (v0_3 : Int32) (v0_10 : Int32) (v0_11 : Int32) (v0_12 : Int32) (f0_0 : Nat → Int32) (f0_1 : Nat → Int32)  (l1_44 : Int32) (l3_44 : Int32) (x0_10_44 : Int32) (x0_11_44 : Int32) (x0_12_44 : Int32) : Option (Int32 × Int32 × Int32) := ((sp_t8_tooDeep nf l1_44 v0_3 x0_10_44 x0_11_44 x0_12_44 f0_0 f0_1).bind (fun p1 => (if p1.1 = 0 then (if l3_44 = 0 then ((rc.2.1 (l1_44 + 1) v0_3 (x0_10_44 + 1) p1.2.1 p1.2.2 f0_0 f0_1).bind (fun p2 => (some (p2.1, p2.2.1, p2.2.2)))) else ((rc.2.1 (l1_44 + 1) v0_3 (x0_10_44 + 3) p1.2.1 p1.2.2 f0_0 f0_1).bind (fun p3 => (some (p3.1, p3.2.1, p3.2.2))))) else (some (x0_10_44, p1.2.1, p1.2.2)))))
def op_v8_readUnary (nf : Nat) (rc : GT_synv) (a1 : Int32) (v0_3 : Int32) (v0_10 : Int32) (v0_11 : Int32) (v0_12 : Int32) (f0_0 : Nat → Int32) (f0_1 : Nat → Int32) : Option (Int32 × Int32 × Int32) := ((sp_t9_kind nf v0_3 v0_10 v0_11 f0_0).bind (fun p1 => ((sp_t9_beginsCast nf v0_3 v0_10 v0_11 f0_0).bind (fun p2 => (if p2 = 0 then (if p1 = 62 then (jn_v8_readUnary_44 nf rc a1 v0_3 v0_10 v0_11 v0_12 f0_0 f0_1  a1 0 v0_10 v0_11 v0_12) else (if p1 = 71 then (jn_v8_readUnary_44 nf rc a1 v0_3 v0_10 v0_11 v0_12 f0_0 f0_1  a1 0 v0_10 v0_11 v0_12) else (if p1 = 72 then (jn_v8_readUnary_44 nf rc a1 v0_3 v0_10 v0_11 v0_12 f0_0 f0_1  a1 0 v0_10 v0_11 v0_12) else ((rc.2.2.1 a1 v0_3 v0_10 v0_11 v0_12 f0_0 f0_1).bind (fun p3 => (some (p3.1, p3.2.1, p3.2.2))))))) else (jn_v8_readUnary_44 nf rc a1 v0_3 v0_10 v0_11 v0_12 f0_0 f0_1  a1 1 v0_10 v0_11 v0_12))))))
def op_v8_readPrimary (nf : Nat) (rc : GT_synv) (a1 : Int32) (v0_3 : Int32) (v0_10 : Int32) (v0_11 : Int32) (v0_12 : Int32) (f0_0 : Nat → Int32) (f0_1 : Nat → Int32) : Option (Int32 × Int32 × Int32) := ((sp_t9_kind nf v0_3 v0_10 v0_11 f0_0).bind (fun p1 => (if p1 = 2 then ((rc.2.2.2.2.2 a1 v0_3 (v0_10 + 1) v0_11 v0_12 f0_0 f0_1).bind (fun p2 => ((rc.2.2.2.1 a1 v0_3 p2.1 p2.2.1 p2.2.2 f0_0 f0_1).bind (fun p3 => (some (p3.1, p3.2.1, p3.2.2)))))) else (if p1 = 3 then ((rc.2.2.2.1 a1 v0_3 (v0_10 + 1) v0_11 v0_12 f0_0 f0_1).bind (fun p4 => (some (p4.1, p4.2.1, p4.2.2)))) else (if p1 = 17 then ((rc.2.2.2.1 a1 v0_3 (v0_10 + 1) v0_11 v0_12 f0_0 f0_1).bind (fun p5 => (some (p5.1, p5.2.1, p5.2.2)))) else (if p1 = 21 then ((rc.2.2.2.2.1 a1 v0_3 v0_10 v0_11 v0_12 f0_0 f0_1).bind (fun p6 => ((rc.2.2.2.1 a1 v0_3 p6.1 p6.2.1 p6.2.2 f0_0 f0_1).bind (fun p7 => (some (p7.1, p7.2.1, p7.2.2)))))) else (if p1 = 22 then ((rc.2.2.2.1 a1 v0_3 (v0_10 + 1) v0_11 v0_12 f0_0 f0_1).bind (fun p8 => (some (p8.1, p8.2.1, p8.2.2)))) else (if p1 = 26 then ((rc.2.2.2.1 a1 v0_3 (v0_10 + 1) v0_11 v0_12 f0_0 f0_1).bind (fun p9 => (some (p9.1, p9.2.1, p9.2.2)))) else (if p1 = 28 then ((rc.2.2.2.1 a1 v0_3 (v0_10 + 1) v0_11 v0_12 f0_0 f0_1).bind (fun p10 => (some (p10.1, p10.2.1, p10.2.2)))) else (if p1 = 40 then ((rc.1 a1 v0_3 (v0_10 + 1) v0_11 v0_12 f0_0 f0_1).bind (fun p11 => ((sp_t8_need nf 41 v0_3 p11.1 p11.2.1 p11.2.2 f0_0 f0_1).bind (fun p12 => ((rc.2.2.2.1 a1 v0_3 p12.1 p12.2.1 p12.2.2 f0_0 f0_1).bind (fun p13 => (some (p13.1, p13.2.1, p13.2.2)))))))) else ((sp_t9_tellHere nf 2 v0_3 v0_10 v0_11 v0_12 f0_0 f0_1).bind (fun p14 => ((rc.2.2.2.1 a1 v0_3 v0_10 p14.1 p14.2 f0_0 f0_1).bind (fun p15 => (some (p15.1, p15.2.1, p15.2.2))))))))))))))))
def lp_v8_readBehind_4 (nf n : Nat) (rc : GT_synv) (a1 : Int32) (v0_3 : Int32) (v0_10 : Int32) (v0_11 : Int32) (v0_12 : Int32) (f0_0 : Nat → Int32) (f0_1 : Nat → Int32)  (l1_4 : Int32) (l2_4 : Int32) (l3_4 : Int32) (x0_10_4 : Int32) (x0_11_4 : Int32) (x0_12_4 : Int32) : Option (Int32 × Int32 × Int32) := match n with
  | 0 => none
  | n + 1 => (if 3000 ≤ l3_4 then (some (x0_10_4, x0_11_4, x0_12_4)) else (if l2_4 = 0 then (some (x0_10_4, x0_11_4, x0_12_4)) else ((sp_t8_accept nf 48 v0_3 x0_10_4 x0_11_4 f0_0).bind (fun p1 => (if p1.1 = 0 then ((sp_t8_accept nf 44 v0_3 p1.2 x0_11_4 f0_0).bind (fun p2 => (if p2.1 = 0 then (lp_v8_readBehind_4 nf n rc a1 v0_3 v0_10 v0_11 v0_12 f0_0 f0_1 l1_4 0 (l3_4 + 1) p2.2 x0_11_4 x0_12_4) else ((rc.1 l1_4 v0_3 p2.2 x0_11_4 x0_12_4 f0_0 f0_1).bind (fun p3 => ((sp_t8_need nf 45 v0_3 p3.1 p3.2.1 p3.2.2 f0_0 f0_1).bind (fun p4 => (lp_v8_readBehind_4 nf n rc a1 v0_3 v0_10 v0_11 v0_12 f0_0 f0_1 l1_4 l2_4 (l3_4 + 1) p4.1 p4.2.1 p4.2.2)))))))) else ((sp_t8_need nf 2 v0_3 p1.2 x0_11_4 x0_12_4 f0_0 f0_1).bind (fun p5 => ((rc.2.2.2.2.2 l1_4 v0_3 p5.1 p5.2.1 p5.2.2 f0_0 f0_1).bind (fun p6 => (lp_v8_readBehind_4 nf n rc a1 v0_3 v0_10 v0_11 v0_12 f0_0 f0_1 l1_4 l2_4 (l3_4 + 1) p6.1 p6.2.1 p6.2.2))))))))))
def op_v8_readBehind (nf : Nat) (rc : GT_synv) (a1 : Int32) (v0_3 : Int32) (v0_10 : Int32) (v0_11 : Int32) (v0_12 : Int32) (f0_0 : Nat → Int32) (f0_1 : Nat → Int32) : Option (Int32 × Int32 × Int32) := (lp_v8_readBehind_4 nf nf rc a1 v0_3 v0_10 v0_11 v0_12 f0_0 f0_1  a1 1 0 v0_10 v0_11 v0_12)
def jn_v8_readNew_45 (nf : Nat) (rc : GT_synv) (a1 : Int32) (v0_3 : Int32) (v0_10 : Int32) (v0_11 : Int32) (v0_12 : Int32) (f0_0 : Nat → Int32) (f0_1 : Nat → Int32)  (l1_45 : Int32) (x0_10_45 : Int32) (x0_11_45 : Int32) (x0_12_45 : Int32) : Option (Int32 × Int32 × Int32) := ((sp_t8_need nf 44 v0_3 x0_10_45 x0_11_45 x0_12_45 f0_0 f0_1).bind (fun p1 => ((rc.1 l1_45 v0_3 p1.1 p1.2.1 p1.2.2 f0_0 f0_1).bind (fun p2 => ((sp_t8_need nf 45 v0_3 p2.1 p2.2.1 p2.2.2 f0_0 f0_1).bind (fun p3 => (some (p3.1, p3.2.1, p3.2.2))))))))
def op_v8_readNew (nf : Nat) (rc : GT_synv) (a1 : Int32) (v0_3 : Int32) (v0_10 : Int32) (v0_11 : Int32) (v0_12 : Int32) (f0_0 : Nat → Int32) (f0_1 : Nat → Int32) : Option (Int32 × Int32 × Int32) := ((sp_t8_accept nf 20 v0_3 (v0_10 + 1) v0_11 f0_0).bind (fun p1 => (if p1.1 = 0 then ((sp_t8_need nf 2 v0_3 p1.2 v0_11 v0_12 f0_0 f0_1).bind (fun p2 => ((sp_t8_accept nf 40 v0_3 p2.1 p2.2.1 f0_0).bind (fun p3 => (if p3.1 = 0 then (jn_v8_readNew_45 nf rc a1 v0_3 v0_10 v0_11 v0_12 f0_0 f0_1  a1 p3.2 p2.2.1 p2.2.2) else ((sp_t8_need nf 41 v0_3 p3.2 p2.2.1 p2.2.2 f0_0 f0_1).bind (fun p4 => (some (p4.1, p4.2.1, p4.2.2))))))))) else (jn_v8_readNew_45 nf rc a1 v0_3 v0_10 v0_11 v0_12 f0_0 f0_1  a1 p1.2 v0_11 v0_12))))
def lp_v8_readArguments_23 (nf n : Nat) (rc : GT_synv) (a1 : Int32) (v0_3 : Int32) (v0_10 : Int32) (v0_11 : Int32) (v0_12 : Int32) (f0_0 : Nat → Int32) (f0_1 : Nat → Int32)  (l1_23 : Int32) (l2_23 : Int32) (l3_23 : Int32) (x0_10_23 : Int32) (x0_11_23 : Int32) (x0_12_23 : Int32) : Option (Int32 × Int32 × Int32) := match n with
  | 0 => none
  | n + 1 => (if 3000 ≤ l3_23 then ((sp_t8_need nf 41 v0_3 x0_10_23 x0_11_23 x0_12_23 f0_0 f0_1).bind (fun p1 => (some (p1.1, p1.2.1, p1.2.2)))) else (if l2_23 = 0 then ((sp_t8_need nf 41 v0_3 x0_10_23 x0_11_23 x0_12_23 f0_0 f0_1).bind (fun p2 => (some (p2.1, p2.2.1, p2.2.2)))) else ((rc.1 l1_23 v0_3 x0_10_23 x0_11_23 x0_12_23 f0_0 f0_1).bind (fun p3 => ((sp_t8_accept nf 47 v0_3 p3.1 p3.2.1 f0_0).bind (fun p4 => (if p4.1 = 0 then (lp_v8_readArguments_23 nf n rc a1 v0_3 v0_10 v0_11 v0_12 f0_0 f0_1 l1_23 0 (l3_23 + 1) p4.2 p3.2.1 p3.2.2) else (lp_v8_readArguments_23 nf n rc a1 v0_3 v0_10 v0_11 v0_12 f0_0 f0_1 l1_23 1 (l3_23 + 1) p4.2 p3.2.1 p3.2.2))))))))
def op_v8_readArguments (nf : Nat) (rc : GT_synv) (a1 : Int32) (v0_3 : Int32) (v0_10 : Int32) (v0_11 : Int32) (v0_12 : Int32) (f0_0 : Nat → Int32) (f0_1 : Nat → Int32) : Option (Int32 × Int32 × Int32) := ((sp_t8_accept nf 40 v0_3 v0_10 v0_11 f0_0).bind (fun p1 => (if p1.1 = 0 then (some (p1.2, v0_11, v0_12)) else ((sp_t8_accept nf 41 v0_3 p1.2 v0_11 f0_0).bind (fun p2 => (if p2.1 = 0 then (lp_v8_readArguments_23 nf nf rc a1 v0_3 v0_10 v0_11 v0_12 f0_0 f0_1  a1 1 0 p2.2 v0_11 v0_12) else (some (p2.2, v0_11, v0_12))))))))
def gr_synv (nf : Nat) : Nat → GT_synv
  | 0 => (fun _ _ _ _ _ _ _ => none, fun _ _ _ _ _ _ _ => none, fun _ _ _ _ _ _ _ => none, fun _ _ _ _ _ _ _ => none, fun _ _ _ _ _ _ _ => none, fun _ _ _ _ _ _ _ => none)
  | d + 1 => (op_v8_readValue nf (gr_synv nf d), op_v8_readUnary nf (gr_synv nf d), op_v8_readPrimary nf (gr_synv nf d), op_v8_readBehind nf (gr_synv nf d), op_v8_readNew nf (gr_synv nf d), op_v8_readArguments nf (gr_synv nf d))
abbrev CT_v8_readValue (d : Nat) (F9 : Int32 → Int32 → Int32 → Int32 → Int32 → (Nat → Int32) → (Nat → Int32) → Option (Int32 × Int32 × Int32)) : Prop := ∀ (l : Launch) (dC : Nat → ClassId) (dI : Nat → Nat → Nat) (sz : Nat) (h0 : Nat) (a1 : Int32) (qf0 : Nat) (qf1 : Nat) (qf0_0 : Nat) (qf0_1 : Nat) (qf0_2 : Nat) (v0_3 : Int32) (qf0_4 : Nat) (qf0_5 : Nat) (qf0_6 : Nat) (qf0_7 : Nat) (qf0_8 : Nat) (v0_9 : Int32) (v0_10 : Int32) (v0_11 : Int32) (v0_12 : Int32) (cf0_0 : ClassId) (f0_0 : (Nat → Int32)) (cf0_1 : ClassId) (f0_1 : (Nat → Int32)) (nf : Nat) (w0_10 : Int32) (w0_11 : Int32) (w0_12 : Int32) (hsp : F9 a1 v0_3 v0_10 v0_11 v0_12 f0_0 f0_1 = some (w0_10, w0_11, w0_12)), Met l yX8_readValue (.code yX8_readValue cX8_readValue 4 none :: VS_h8) ({ frames := d + 3, cells := 0, slots := 0, locals := d * 23 + 60 }) (va_Pc [.ref h0, .int a1] (fun U => U.heap.size = sz ∧ va_P (dC, dI) vwCl [(h0, .inr (8, [.ref qf0, .ref qf1])), (qf0, .inr (9, [.ref qf0_0, .ref qf0_1, .ref qf0_2, .int v0_3, .ref qf0_4, .ref qf0_5, .ref qf0_6, .ref qf0_7, .ref qf0_8, .int v0_9, .int v0_10, .int v0_11, .int v0_12])), (qf0_0, .inl (cf0_0, 3001, .inl f0_0)), (qf0_1, .inl (cf0_1, 3001, .inl f0_1))] U.heap ∧ va_K (dC, dI) vwCl [(cf0_0, .int), (cf0_1, .int)] U ∧ va_D (fun _ => True) [(h0, .inr (8, [.ref qf0, .ref qf1])), (qf0, .inr (9, [.ref qf0_0, .ref qf0_1, .ref qf0_2, .int v0_3, .ref qf0_4, .ref qf0_5, .ref qf0_6, .ref qf0_7, .ref qf0_8, .int v0_9, .int v0_10, .int v0_11, .int v0_12])), (qf0_0, .inl (cf0_0, 3001, .inl f0_0)), (qf0_1, .inl (cf0_1, 3001, .inl f0_1))])) (va_Qv (fun (u : Unit) => match u with | () => True) (fun (u : Unit) (t : State) => match u with | () => va_P (dC, dI) vwCl [(h0, .inr (8, [.ref qf0, .ref qf1])), (qf0, .inr (9, [.ref qf0_0, .ref qf0_1, .ref qf0_2, .int v0_3, .ref qf0_4, .ref qf0_5, .ref qf0_6, .ref qf0_7, .ref qf0_8, .int v0_9, .int w0_10, .int w0_11, .int w0_12])), (qf0_0, .inl (cf0_0, 3001, .inl f0_0)), (qf0_1, .inl (cf0_1, 3001, .inl f0_1))] t.heap ∧ va_K (dC, dI) vwCl [(cf0_0, .int), (cf0_1, .int)] t ∧ va_D (va_A [(h0, .inr (8, [.ref qf0, .ref qf1])), (qf0, .inr (9, [.ref qf0_0, .ref qf0_1, .ref qf0_2, .int v0_3, .ref qf0_4, .ref qf0_5, .ref qf0_6, .ref qf0_7, .ref qf0_8, .int v0_9, .int v0_10, .int v0_11, .int v0_12])), (qf0_0, .inl (cf0_0, 3001, .inl f0_0)), (qf0_1, .inl (cf0_1, 3001, .inl f0_1))] sz) [(h0, .inr (8, [.ref qf0, .ref qf1])), (qf0, .inr (9, [.ref qf0_0, .ref qf0_1, .ref qf0_2, .int v0_3, .ref qf0_4, .ref qf0_5, .ref qf0_6, .ref qf0_7, .ref qf0_8, .int v0_9, .int w0_10, .int w0_11, .int w0_12])), (qf0_0, .inl (cf0_0, 3001, .inl f0_0)), (qf0_1, .inl (cf0_1, 3001, .inl f0_1))]) (va_A [(h0, .inr (8, [.ref qf0, .ref qf1])), (qf0, .inr (9, [.ref qf0_0, .ref qf0_1, .ref qf0_2, .int v0_3, .ref qf0_4, .ref qf0_5, .ref qf0_6, .ref qf0_7, .ref qf0_8, .int v0_9, .int v0_10, .int v0_11, .int v0_12])), (qf0_0, .inl (cf0_0, 3001, .inl f0_0)), (qf0_1, .inl (cf0_1, 3001, .inl f0_1))] sz)) 0 0 (va_A [(h0, .inr (8, [.ref qf0, .ref qf1])), (qf0, .inr (9, [.ref qf0_0, .ref qf0_1, .ref qf0_2, .int v0_3, .ref qf0_4, .ref qf0_5, .ref qf0_6, .ref qf0_7, .ref qf0_8, .int v0_9, .int v0_10, .int v0_11, .int v0_12])), (qf0_0, .inl (cf0_0, 3001, .inl f0_0)), (qf0_1, .inl (cf0_1, 3001, .inl f0_1))] sz)
abbrev CT_v8_readUnary (d : Nat) (F9 : Int32 → Int32 → Int32 → Int32 → Int32 → (Nat → Int32) → (Nat → Int32) → Option (Int32 × Int32 × Int32)) : Prop := ∀ (l : Launch) (dC : Nat → ClassId) (dI : Nat → Nat → Nat) (sz : Nat) (h0 : Nat) (a1 : Int32) (qf0 : Nat) (qf1 : Nat) (qf0_0 : Nat) (qf0_1 : Nat) (qf0_2 : Nat) (v0_3 : Int32) (qf0_4 : Nat) (qf0_5 : Nat) (qf0_6 : Nat) (qf0_7 : Nat) (qf0_8 : Nat) (v0_9 : Int32) (v0_10 : Int32) (v0_11 : Int32) (v0_12 : Int32) (cf0_0 : ClassId) (f0_0 : (Nat → Int32)) (cf0_1 : ClassId) (f0_1 : (Nat → Int32)) (nf : Nat) (w0_10 : Int32) (w0_11 : Int32) (w0_12 : Int32) (hsp : F9 a1 v0_3 v0_10 v0_11 v0_12 f0_0 f0_1 = some (w0_10, w0_11, w0_12)), Met l yX8_readUnary (.code yX8_readUnary cX8_readUnary 4 none :: VS_h8) ({ frames := d + 3, cells := 0, slots := 0, locals := d * 23 + 60 }) (va_Pc [.ref h0, .int a1] (fun U => U.heap.size = sz ∧ va_P (dC, dI) vwCl [(h0, .inr (8, [.ref qf0, .ref qf1])), (qf0, .inr (9, [.ref qf0_0, .ref qf0_1, .ref qf0_2, .int v0_3, .ref qf0_4, .ref qf0_5, .ref qf0_6, .ref qf0_7, .ref qf0_8, .int v0_9, .int v0_10, .int v0_11, .int v0_12])), (qf0_0, .inl (cf0_0, 3001, .inl f0_0)), (qf0_1, .inl (cf0_1, 3001, .inl f0_1))] U.heap ∧ va_K (dC, dI) vwCl [(cf0_0, .int), (cf0_1, .int)] U ∧ va_D (fun _ => True) [(h0, .inr (8, [.ref qf0, .ref qf1])), (qf0, .inr (9, [.ref qf0_0, .ref qf0_1, .ref qf0_2, .int v0_3, .ref qf0_4, .ref qf0_5, .ref qf0_6, .ref qf0_7, .ref qf0_8, .int v0_9, .int v0_10, .int v0_11, .int v0_12])), (qf0_0, .inl (cf0_0, 3001, .inl f0_0)), (qf0_1, .inl (cf0_1, 3001, .inl f0_1))])) (va_Qv (fun (u : Unit) => match u with | () => True) (fun (u : Unit) (t : State) => match u with | () => va_P (dC, dI) vwCl [(h0, .inr (8, [.ref qf0, .ref qf1])), (qf0, .inr (9, [.ref qf0_0, .ref qf0_1, .ref qf0_2, .int v0_3, .ref qf0_4, .ref qf0_5, .ref qf0_6, .ref qf0_7, .ref qf0_8, .int v0_9, .int w0_10, .int w0_11, .int w0_12])), (qf0_0, .inl (cf0_0, 3001, .inl f0_0)), (qf0_1, .inl (cf0_1, 3001, .inl f0_1))] t.heap ∧ va_K (dC, dI) vwCl [(cf0_0, .int), (cf0_1, .int)] t ∧ va_D (va_A [(h0, .inr (8, [.ref qf0, .ref qf1])), (qf0, .inr (9, [.ref qf0_0, .ref qf0_1, .ref qf0_2, .int v0_3, .ref qf0_4, .ref qf0_5, .ref qf0_6, .ref qf0_7, .ref qf0_8, .int v0_9, .int v0_10, .int v0_11, .int v0_12])), (qf0_0, .inl (cf0_0, 3001, .inl f0_0)), (qf0_1, .inl (cf0_1, 3001, .inl f0_1))] sz) [(h0, .inr (8, [.ref qf0, .ref qf1])), (qf0, .inr (9, [.ref qf0_0, .ref qf0_1, .ref qf0_2, .int v0_3, .ref qf0_4, .ref qf0_5, .ref qf0_6, .ref qf0_7, .ref qf0_8, .int v0_9, .int w0_10, .int w0_11, .int w0_12])), (qf0_0, .inl (cf0_0, 3001, .inl f0_0)), (qf0_1, .inl (cf0_1, 3001, .inl f0_1))]) (va_A [(h0, .inr (8, [.ref qf0, .ref qf1])), (qf0, .inr (9, [.ref qf0_0, .ref qf0_1, .ref qf0_2, .int v0_3, .ref qf0_4, .ref qf0_5, .ref qf0_6, .ref qf0_7, .ref qf0_8, .int v0_9, .int v0_10, .int v0_11, .int v0_12])), (qf0_0, .inl (cf0_0, 3001, .inl f0_0)), (qf0_1, .inl (cf0_1, 3001, .inl f0_1))] sz)) 0 0 (va_A [(h0, .inr (8, [.ref qf0, .ref qf1])), (qf0, .inr (9, [.ref qf0_0, .ref qf0_1, .ref qf0_2, .int v0_3, .ref qf0_4, .ref qf0_5, .ref qf0_6, .ref qf0_7, .ref qf0_8, .int v0_9, .int v0_10, .int v0_11, .int v0_12])), (qf0_0, .inl (cf0_0, 3001, .inl f0_0)), (qf0_1, .inl (cf0_1, 3001, .inl f0_1))] sz)
abbrev CT_v8_readPrimary (d : Nat) (F9 : Int32 → Int32 → Int32 → Int32 → Int32 → (Nat → Int32) → (Nat → Int32) → Option (Int32 × Int32 × Int32)) : Prop := ∀ (l : Launch) (dC : Nat → ClassId) (dI : Nat → Nat → Nat) (sz : Nat) (h0 : Nat) (a1 : Int32) (qf0 : Nat) (qf1 : Nat) (qf0_0 : Nat) (qf0_1 : Nat) (qf0_2 : Nat) (v0_3 : Int32) (qf0_4 : Nat) (qf0_5 : Nat) (qf0_6 : Nat) (qf0_7 : Nat) (qf0_8 : Nat) (v0_9 : Int32) (v0_10 : Int32) (v0_11 : Int32) (v0_12 : Int32) (cf0_0 : ClassId) (f0_0 : (Nat → Int32)) (cf0_1 : ClassId) (f0_1 : (Nat → Int32)) (nf : Nat) (w0_10 : Int32) (w0_11 : Int32) (w0_12 : Int32) (hsp : F9 a1 v0_3 v0_10 v0_11 v0_12 f0_0 f0_1 = some (w0_10, w0_11, w0_12)), Met l yX8_readPrimary (.code yX8_readPrimary cX8_readPrimary 2 none :: VS_h8) ({ frames := d + 3, cells := 0, slots := 0, locals := d * 23 + 60 }) (va_Pc [.ref h0, .int a1] (fun U => U.heap.size = sz ∧ va_P (dC, dI) vwCl [(h0, .inr (8, [.ref qf0, .ref qf1])), (qf0, .inr (9, [.ref qf0_0, .ref qf0_1, .ref qf0_2, .int v0_3, .ref qf0_4, .ref qf0_5, .ref qf0_6, .ref qf0_7, .ref qf0_8, .int v0_9, .int v0_10, .int v0_11, .int v0_12])), (qf0_0, .inl (cf0_0, 3001, .inl f0_0)), (qf0_1, .inl (cf0_1, 3001, .inl f0_1))] U.heap ∧ va_K (dC, dI) vwCl [(cf0_0, .int), (cf0_1, .int)] U ∧ va_D (fun _ => True) [(h0, .inr (8, [.ref qf0, .ref qf1])), (qf0, .inr (9, [.ref qf0_0, .ref qf0_1, .ref qf0_2, .int v0_3, .ref qf0_4, .ref qf0_5, .ref qf0_6, .ref qf0_7, .ref qf0_8, .int v0_9, .int v0_10, .int v0_11, .int v0_12])), (qf0_0, .inl (cf0_0, 3001, .inl f0_0)), (qf0_1, .inl (cf0_1, 3001, .inl f0_1))])) (va_Qv (fun (u : Unit) => match u with | () => True) (fun (u : Unit) (t : State) => match u with | () => va_P (dC, dI) vwCl [(h0, .inr (8, [.ref qf0, .ref qf1])), (qf0, .inr (9, [.ref qf0_0, .ref qf0_1, .ref qf0_2, .int v0_3, .ref qf0_4, .ref qf0_5, .ref qf0_6, .ref qf0_7, .ref qf0_8, .int v0_9, .int w0_10, .int w0_11, .int w0_12])), (qf0_0, .inl (cf0_0, 3001, .inl f0_0)), (qf0_1, .inl (cf0_1, 3001, .inl f0_1))] t.heap ∧ va_K (dC, dI) vwCl [(cf0_0, .int), (cf0_1, .int)] t ∧ va_D (va_A [(h0, .inr (8, [.ref qf0, .ref qf1])), (qf0, .inr (9, [.ref qf0_0, .ref qf0_1, .ref qf0_2, .int v0_3, .ref qf0_4, .ref qf0_5, .ref qf0_6, .ref qf0_7, .ref qf0_8, .int v0_9, .int v0_10, .int v0_11, .int v0_12])), (qf0_0, .inl (cf0_0, 3001, .inl f0_0)), (qf0_1, .inl (cf0_1, 3001, .inl f0_1))] sz) [(h0, .inr (8, [.ref qf0, .ref qf1])), (qf0, .inr (9, [.ref qf0_0, .ref qf0_1, .ref qf0_2, .int v0_3, .ref qf0_4, .ref qf0_5, .ref qf0_6, .ref qf0_7, .ref qf0_8, .int v0_9, .int w0_10, .int w0_11, .int w0_12])), (qf0_0, .inl (cf0_0, 3001, .inl f0_0)), (qf0_1, .inl (cf0_1, 3001, .inl f0_1))]) (va_A [(h0, .inr (8, [.ref qf0, .ref qf1])), (qf0, .inr (9, [.ref qf0_0, .ref qf0_1, .ref qf0_2, .int v0_3, .ref qf0_4, .ref qf0_5, .ref qf0_6, .ref qf0_7, .ref qf0_8, .int v0_9, .int v0_10, .int v0_11, .int v0_12])), (qf0_0, .inl (cf0_0, 3001, .inl f0_0)), (qf0_1, .inl (cf0_1, 3001, .inl f0_1))] sz)) 0 0 (va_A [(h0, .inr (8, [.ref qf0, .ref qf1])), (qf0, .inr (9, [.ref qf0_0, .ref qf0_1, .ref qf0_2, .int v0_3, .ref qf0_4, .ref qf0_5, .ref qf0_6, .ref qf0_7, .ref qf0_8, .int v0_9, .int v0_10, .int v0_11, .int v0_12])), (qf0_0, .inl (cf0_0, 3001, .inl f0_0)), (qf0_1, .inl (cf0_1, 3001, .inl f0_1))] sz)
abbrev CT_v8_readBehind (d : Nat) (F9 : Int32 → Int32 → Int32 → Int32 → Int32 → (Nat → Int32) → (Nat → Int32) → Option (Int32 × Int32 × Int32)) : Prop := ∀ (l : Launch) (dC : Nat → ClassId) (dI : Nat → Nat → Nat) (sz : Nat) (h0 : Nat) (a1 : Int32) (qf0 : Nat) (qf1 : Nat) (qf0_0 : Nat) (qf0_1 : Nat) (qf0_2 : Nat) (v0_3 : Int32) (qf0_4 : Nat) (qf0_5 : Nat) (qf0_6 : Nat) (qf0_7 : Nat) (qf0_8 : Nat) (v0_9 : Int32) (v0_10 : Int32) (v0_11 : Int32) (v0_12 : Int32) (cf0_0 : ClassId) (f0_0 : (Nat → Int32)) (cf0_1 : ClassId) (f0_1 : (Nat → Int32)) (nf : Nat) (w0_10 : Int32) (w0_11 : Int32) (w0_12 : Int32) (hsp : F9 a1 v0_3 v0_10 v0_11 v0_12 f0_0 f0_1 = some (w0_10, w0_11, w0_12)), Met l yX8_readBehind (.code yX8_readBehind cX8_readBehind 4 none :: VS_h8) ({ frames := d + 3, cells := 0, slots := 0, locals := d * 23 + 60 }) (va_Pc [.ref h0, .int a1] (fun U => U.heap.size = sz ∧ va_P (dC, dI) vwCl [(h0, .inr (8, [.ref qf0, .ref qf1])), (qf0, .inr (9, [.ref qf0_0, .ref qf0_1, .ref qf0_2, .int v0_3, .ref qf0_4, .ref qf0_5, .ref qf0_6, .ref qf0_7, .ref qf0_8, .int v0_9, .int v0_10, .int v0_11, .int v0_12])), (qf0_0, .inl (cf0_0, 3001, .inl f0_0)), (qf0_1, .inl (cf0_1, 3001, .inl f0_1))] U.heap ∧ va_K (dC, dI) vwCl [(cf0_0, .int), (cf0_1, .int)] U ∧ va_D (fun _ => True) [(h0, .inr (8, [.ref qf0, .ref qf1])), (qf0, .inr (9, [.ref qf0_0, .ref qf0_1, .ref qf0_2, .int v0_3, .ref qf0_4, .ref qf0_5, .ref qf0_6, .ref qf0_7, .ref qf0_8, .int v0_9, .int v0_10, .int v0_11, .int v0_12])), (qf0_0, .inl (cf0_0, 3001, .inl f0_0)), (qf0_1, .inl (cf0_1, 3001, .inl f0_1))])) (va_Qv (fun (u : Unit) => match u with | () => True) (fun (u : Unit) (t : State) => match u with | () => va_P (dC, dI) vwCl [(h0, .inr (8, [.ref qf0, .ref qf1])), (qf0, .inr (9, [.ref qf0_0, .ref qf0_1, .ref qf0_2, .int v0_3, .ref qf0_4, .ref qf0_5, .ref qf0_6, .ref qf0_7, .ref qf0_8, .int v0_9, .int w0_10, .int w0_11, .int w0_12])), (qf0_0, .inl (cf0_0, 3001, .inl f0_0)), (qf0_1, .inl (cf0_1, 3001, .inl f0_1))] t.heap ∧ va_K (dC, dI) vwCl [(cf0_0, .int), (cf0_1, .int)] t ∧ va_D (va_A [(h0, .inr (8, [.ref qf0, .ref qf1])), (qf0, .inr (9, [.ref qf0_0, .ref qf0_1, .ref qf0_2, .int v0_3, .ref qf0_4, .ref qf0_5, .ref qf0_6, .ref qf0_7, .ref qf0_8, .int v0_9, .int v0_10, .int v0_11, .int v0_12])), (qf0_0, .inl (cf0_0, 3001, .inl f0_0)), (qf0_1, .inl (cf0_1, 3001, .inl f0_1))] sz) [(h0, .inr (8, [.ref qf0, .ref qf1])), (qf0, .inr (9, [.ref qf0_0, .ref qf0_1, .ref qf0_2, .int v0_3, .ref qf0_4, .ref qf0_5, .ref qf0_6, .ref qf0_7, .ref qf0_8, .int v0_9, .int w0_10, .int w0_11, .int w0_12])), (qf0_0, .inl (cf0_0, 3001, .inl f0_0)), (qf0_1, .inl (cf0_1, 3001, .inl f0_1))]) (va_A [(h0, .inr (8, [.ref qf0, .ref qf1])), (qf0, .inr (9, [.ref qf0_0, .ref qf0_1, .ref qf0_2, .int v0_3, .ref qf0_4, .ref qf0_5, .ref qf0_6, .ref qf0_7, .ref qf0_8, .int v0_9, .int v0_10, .int v0_11, .int v0_12])), (qf0_0, .inl (cf0_0, 3001, .inl f0_0)), (qf0_1, .inl (cf0_1, 3001, .inl f0_1))] sz)) 0 0 (va_A [(h0, .inr (8, [.ref qf0, .ref qf1])), (qf0, .inr (9, [.ref qf0_0, .ref qf0_1, .ref qf0_2, .int v0_3, .ref qf0_4, .ref qf0_5, .ref qf0_6, .ref qf0_7, .ref qf0_8, .int v0_9, .int v0_10, .int v0_11, .int v0_12])), (qf0_0, .inl (cf0_0, 3001, .inl f0_0)), (qf0_1, .inl (cf0_1, 3001, .inl f0_1))] sz)
abbrev CT_v8_readNew (d : Nat) (F9 : Int32 → Int32 → Int32 → Int32 → Int32 → (Nat → Int32) → (Nat → Int32) → Option (Int32 × Int32 × Int32)) : Prop := ∀ (l : Launch) (dC : Nat → ClassId) (dI : Nat → Nat → Nat) (sz : Nat) (h0 : Nat) (a1 : Int32) (qf0 : Nat) (qf1 : Nat) (qf0_0 : Nat) (qf0_1 : Nat) (qf0_2 : Nat) (v0_3 : Int32) (qf0_4 : Nat) (qf0_5 : Nat) (qf0_6 : Nat) (qf0_7 : Nat) (qf0_8 : Nat) (v0_9 : Int32) (v0_10 : Int32) (v0_11 : Int32) (v0_12 : Int32) (cf0_0 : ClassId) (f0_0 : (Nat → Int32)) (cf0_1 : ClassId) (f0_1 : (Nat → Int32)) (nf : Nat) (w0_10 : Int32) (w0_11 : Int32) (w0_12 : Int32) (hsp : F9 a1 v0_3 v0_10 v0_11 v0_12 f0_0 f0_1 = some (w0_10, w0_11, w0_12)), Met l yX8_readNew (.code yX8_readNew cX8_readNew 3 none :: VS_h8) ({ frames := d + 3, cells := 0, slots := 0, locals := d * 23 + 60 }) (va_Pc [.ref h0, .int a1] (fun U => U.heap.size = sz ∧ va_P (dC, dI) vwCl [(h0, .inr (8, [.ref qf0, .ref qf1])), (qf0, .inr (9, [.ref qf0_0, .ref qf0_1, .ref qf0_2, .int v0_3, .ref qf0_4, .ref qf0_5, .ref qf0_6, .ref qf0_7, .ref qf0_8, .int v0_9, .int v0_10, .int v0_11, .int v0_12])), (qf0_0, .inl (cf0_0, 3001, .inl f0_0)), (qf0_1, .inl (cf0_1, 3001, .inl f0_1))] U.heap ∧ va_K (dC, dI) vwCl [(cf0_0, .int), (cf0_1, .int)] U ∧ va_D (fun _ => True) [(h0, .inr (8, [.ref qf0, .ref qf1])), (qf0, .inr (9, [.ref qf0_0, .ref qf0_1, .ref qf0_2, .int v0_3, .ref qf0_4, .ref qf0_5, .ref qf0_6, .ref qf0_7, .ref qf0_8, .int v0_9, .int v0_10, .int v0_11, .int v0_12])), (qf0_0, .inl (cf0_0, 3001, .inl f0_0)), (qf0_1, .inl (cf0_1, 3001, .inl f0_1))])) (va_Qv (fun (u : Unit) => match u with | () => True) (fun (u : Unit) (t : State) => match u with | () => va_P (dC, dI) vwCl [(h0, .inr (8, [.ref qf0, .ref qf1])), (qf0, .inr (9, [.ref qf0_0, .ref qf0_1, .ref qf0_2, .int v0_3, .ref qf0_4, .ref qf0_5, .ref qf0_6, .ref qf0_7, .ref qf0_8, .int v0_9, .int w0_10, .int w0_11, .int w0_12])), (qf0_0, .inl (cf0_0, 3001, .inl f0_0)), (qf0_1, .inl (cf0_1, 3001, .inl f0_1))] t.heap ∧ va_K (dC, dI) vwCl [(cf0_0, .int), (cf0_1, .int)] t ∧ va_D (va_A [(h0, .inr (8, [.ref qf0, .ref qf1])), (qf0, .inr (9, [.ref qf0_0, .ref qf0_1, .ref qf0_2, .int v0_3, .ref qf0_4, .ref qf0_5, .ref qf0_6, .ref qf0_7, .ref qf0_8, .int v0_9, .int v0_10, .int v0_11, .int v0_12])), (qf0_0, .inl (cf0_0, 3001, .inl f0_0)), (qf0_1, .inl (cf0_1, 3001, .inl f0_1))] sz) [(h0, .inr (8, [.ref qf0, .ref qf1])), (qf0, .inr (9, [.ref qf0_0, .ref qf0_1, .ref qf0_2, .int v0_3, .ref qf0_4, .ref qf0_5, .ref qf0_6, .ref qf0_7, .ref qf0_8, .int v0_9, .int w0_10, .int w0_11, .int w0_12])), (qf0_0, .inl (cf0_0, 3001, .inl f0_0)), (qf0_1, .inl (cf0_1, 3001, .inl f0_1))]) (va_A [(h0, .inr (8, [.ref qf0, .ref qf1])), (qf0, .inr (9, [.ref qf0_0, .ref qf0_1, .ref qf0_2, .int v0_3, .ref qf0_4, .ref qf0_5, .ref qf0_6, .ref qf0_7, .ref qf0_8, .int v0_9, .int v0_10, .int v0_11, .int v0_12])), (qf0_0, .inl (cf0_0, 3001, .inl f0_0)), (qf0_1, .inl (cf0_1, 3001, .inl f0_1))] sz)) 0 0 (va_A [(h0, .inr (8, [.ref qf0, .ref qf1])), (qf0, .inr (9, [.ref qf0_0, .ref qf0_1, .ref qf0_2, .int v0_3, .ref qf0_4, .ref qf0_5, .ref qf0_6, .ref qf0_7, .ref qf0_8, .int v0_9, .int v0_10, .int v0_11, .int v0_12])), (qf0_0, .inl (cf0_0, 3001, .inl f0_0)), (qf0_1, .inl (cf0_1, 3001, .inl f0_1))] sz)
abbrev CT_v8_readArguments (d : Nat) (F9 : Int32 → Int32 → Int32 → Int32 → Int32 → (Nat → Int32) → (Nat → Int32) → Option (Int32 × Int32 × Int32)) : Prop := ∀ (l : Launch) (dC : Nat → ClassId) (dI : Nat → Nat → Nat) (sz : Nat) (h0 : Nat) (a1 : Int32) (qf0 : Nat) (qf1 : Nat) (qf0_0 : Nat) (qf0_1 : Nat) (qf0_2 : Nat) (v0_3 : Int32) (qf0_4 : Nat) (qf0_5 : Nat) (qf0_6 : Nat) (qf0_7 : Nat) (qf0_8 : Nat) (v0_9 : Int32) (v0_10 : Int32) (v0_11 : Int32) (v0_12 : Int32) (cf0_0 : ClassId) (f0_0 : (Nat → Int32)) (cf0_1 : ClassId) (f0_1 : (Nat → Int32)) (nf : Nat) (w0_10 : Int32) (w0_11 : Int32) (w0_12 : Int32) (hsp : F9 a1 v0_3 v0_10 v0_11 v0_12 f0_0 f0_1 = some (w0_10, w0_11, w0_12)), Met l yX8_readArguments (.code yX8_readArguments cX8_readArguments 4 none :: VS_h8) ({ frames := d + 3, cells := 0, slots := 0, locals := d * 23 + 60 }) (va_Pc [.ref h0, .int a1] (fun U => U.heap.size = sz ∧ va_P (dC, dI) vwCl [(h0, .inr (8, [.ref qf0, .ref qf1])), (qf0, .inr (9, [.ref qf0_0, .ref qf0_1, .ref qf0_2, .int v0_3, .ref qf0_4, .ref qf0_5, .ref qf0_6, .ref qf0_7, .ref qf0_8, .int v0_9, .int v0_10, .int v0_11, .int v0_12])), (qf0_0, .inl (cf0_0, 3001, .inl f0_0)), (qf0_1, .inl (cf0_1, 3001, .inl f0_1))] U.heap ∧ va_K (dC, dI) vwCl [(cf0_0, .int), (cf0_1, .int)] U ∧ va_D (fun _ => True) [(h0, .inr (8, [.ref qf0, .ref qf1])), (qf0, .inr (9, [.ref qf0_0, .ref qf0_1, .ref qf0_2, .int v0_3, .ref qf0_4, .ref qf0_5, .ref qf0_6, .ref qf0_7, .ref qf0_8, .int v0_9, .int v0_10, .int v0_11, .int v0_12])), (qf0_0, .inl (cf0_0, 3001, .inl f0_0)), (qf0_1, .inl (cf0_1, 3001, .inl f0_1))])) (va_Qv (fun (u : Unit) => match u with | () => True) (fun (u : Unit) (t : State) => match u with | () => va_P (dC, dI) vwCl [(h0, .inr (8, [.ref qf0, .ref qf1])), (qf0, .inr (9, [.ref qf0_0, .ref qf0_1, .ref qf0_2, .int v0_3, .ref qf0_4, .ref qf0_5, .ref qf0_6, .ref qf0_7, .ref qf0_8, .int v0_9, .int w0_10, .int w0_11, .int w0_12])), (qf0_0, .inl (cf0_0, 3001, .inl f0_0)), (qf0_1, .inl (cf0_1, 3001, .inl f0_1))] t.heap ∧ va_K (dC, dI) vwCl [(cf0_0, .int), (cf0_1, .int)] t ∧ va_D (va_A [(h0, .inr (8, [.ref qf0, .ref qf1])), (qf0, .inr (9, [.ref qf0_0, .ref qf0_1, .ref qf0_2, .int v0_3, .ref qf0_4, .ref qf0_5, .ref qf0_6, .ref qf0_7, .ref qf0_8, .int v0_9, .int v0_10, .int v0_11, .int v0_12])), (qf0_0, .inl (cf0_0, 3001, .inl f0_0)), (qf0_1, .inl (cf0_1, 3001, .inl f0_1))] sz) [(h0, .inr (8, [.ref qf0, .ref qf1])), (qf0, .inr (9, [.ref qf0_0, .ref qf0_1, .ref qf0_2, .int v0_3, .ref qf0_4, .ref qf0_5, .ref qf0_6, .ref qf0_7, .ref qf0_8, .int v0_9, .int w0_10, .int w0_11, .int w0_12])), (qf0_0, .inl (cf0_0, 3001, .inl f0_0)), (qf0_1, .inl (cf0_1, 3001, .inl f0_1))]) (va_A [(h0, .inr (8, [.ref qf0, .ref qf1])), (qf0, .inr (9, [.ref qf0_0, .ref qf0_1, .ref qf0_2, .int v0_3, .ref qf0_4, .ref qf0_5, .ref qf0_6, .ref qf0_7, .ref qf0_8, .int v0_9, .int v0_10, .int v0_11, .int v0_12])), (qf0_0, .inl (cf0_0, 3001, .inl f0_0)), (qf0_1, .inl (cf0_1, 3001, .inl f0_1))] sz)) 0 0 (va_A [(h0, .inr (8, [.ref qf0, .ref qf1])), (qf0, .inr (9, [.ref qf0_0, .ref qf0_1, .ref qf0_2, .int v0_3, .ref qf0_4, .ref qf0_5, .ref qf0_6, .ref qf0_7, .ref qf0_8, .int v0_9, .int v0_10, .int v0_11, .int v0_12])), (qf0_0, .inl (cf0_0, 3001, .inl f0_0)), (qf0_1, .inl (cf0_1, 3001, .inl f0_1))] sz)

set_option maxHeartbeats 4000000 in
set_option maxRecDepth 100000 in
/-- ClassMill$Code.isTooMuch -/
theorem t1_isTooMuch (l : Launch) (dC : Nat → ClassId) (dI : Nat → Nat → Nat) (sz : Nat) (h0 : Nat) (qf0 : Nat) (v1 : Int32) (qf2 : Nat) (v3 : Int32) (v4 : Int32) (qf5 : Nat) (qf6 : Nat) (v7 : Int32) (v8 : Int32) (qf9 : Nat) (v10 : Int32) (qf11 : Nat) (qf12 : Nat) (qf13 : Nat) (v14 : Int32) (v15 : Int32) (nf : Nat) (r0 : Int32) (hsp : sp_t1_isTooMuch nf v1 v4 v8 v15 = some r0) : Met l yX1_isTooMuch (.code yX1_isTooMuch cX1_isTooMuch 1 (some .boolean) :: VS_h4) ({ frames := 0, cells := 0, slots := 0, locals := 0 }) (va_Pc [.ref h0] (fun U => U.heap.size = sz ∧ va_P (dC, dI) vwCl [(h0, .inr (1, [.ref qf0, .int v1, .ref qf2, .int v3, .int v4, .ref qf5, .ref qf6, .int v7, .int v8, .ref qf9, .int v10, .ref qf11, .ref qf12, .ref qf13, .int v14, .int v15]))] U.heap ∧ va_K (dC, dI) vwCl [] U ∧ va_D (fun _ => True) [(h0, .inr (1, [.ref qf0, .int v1, .ref qf2, .int v3, .int v4, .ref qf5, .ref qf6, .int v7, .int v8, .ref qf9, .int v10, .ref qf11, .ref qf12, .ref qf13, .int v14, .int v15]))])) (va_Qi (fun (r : Int32) (u : Unit) => match u with | () => r0 = r ∧ (r0 = 0 ∨ r0 = 1)) (fun (u : Unit) (t : State) => match u with | () => va_P (dC, dI) vwCl [(h0, .inr (1, [.ref qf0, .int v1, .ref qf2, .int v3, .int v4, .ref qf5, .ref qf6, .int v7, .int v8, .ref qf9, .int v10, .ref qf11, .ref qf12, .ref qf13, .int v14, .int v15]))] t.heap ∧ va_K (dC, dI) vwCl [] t ∧ va_D (va_A [(h0, .inr (1, [.ref qf0, .int v1, .ref qf2, .int v3, .int v4, .ref qf5, .ref qf6, .int v7, .int v8, .ref qf9, .int v10, .ref qf11, .ref qf12, .ref qf13, .int v14, .int v15]))] sz) [(h0, .inr (1, [.ref qf0, .int v1, .ref qf2, .int v3, .int v4, .ref qf5, .ref qf6, .int v7, .int v8, .ref qf9, .int v10, .ref qf11, .ref qf12, .ref qf13, .int v14, .int v15]))]) (va_A [(h0, .inr (1, [.ref qf0, .int v1, .ref qf2, .int v3, .int v4, .ref qf5, .ref qf6, .int v7, .int v8, .ref qf9, .int v10, .ref qf11, .ref qf12, .ref qf13, .int v14, .int v15]))] sz)) 0 0 (va_A [(h0, .inr (1, [.ref qf0, .int v1, .ref qf2, .int v3, .int v4, .ref qf5, .ref qf6, .int v7, .int v8, .ref qf9, .int v10, .ref qf11, .ref qf12, .ref qf13, .int v14, .int v15]))] sz) := by
  refine Met.ofW (cc := cX1_isTooMuch) (maxL := 1) (ret := (some .boolean)) (by decide) rfl ?_
  intro p e s m args below meth c s₁ B hml hv
  obtain ⟨rfl, hsz, hP, hK, hD0⟩ := hv
  have hx := B.exec
  have hb := B.bytes
  have hr := B.returns
  have hts := atoms_spec (ws := (.code yX1_isTooMuch cX1_isTooMuch 1 (some .boolean) :: VS_h4)) B.pre
  replace hts := fun w (h : w ∈ VS_h4) => hts w (List.mem_cons_of_mem _ h)
  have hown : s.vm.findClass RX1 = some m.cls := findClass_of_methodNamed B.named
  have hlocks := B.notSynchronized
  subst hsz
  have hD := hD0.self (sz := s.heap.size)
  generalize hAe : va_A [(h0, .inr (1, [.ref qf0, .int v1, .ref qf2, .int v3, .int v4, .ref qf5, .ref qf6, .int v7, .int v8, .ref qf9, .int v10, .ref qf11, .ref qf12, .ref qf13, .int v14, .int v15]))] s.heap.size = A at hD  ⊢
  have hA : ∀ q : Nat, s.heap.size ≤ q → A q := fun q h => by rw [← hAe]; exact Or.inr h
  have hP : va_P (dC, dI) vwCl [(h0, .inr (1, [.ref qf0, .int v1, .ref qf2, .int v3, .int v4, .ref qf5, .ref qf6, .int v7, .int v8, .ref qf9, .int v10, .ref qf11, .ref qf12, .ref qf13, .int v14, .int v15]))] s.heap := hP
  have hl := lv_entry ([.ref h0]) (n := 1) (Nat.le_of_ble_eq_true rfl)
  rw [lg_entry_eq]
  generalize (lg_sl ([.ref h0]) ++ List.replicate (1 - (lg_sl ([.ref h0])).length) Slot.unset).toArray = ls at hl ⊢
  have hl : lv_has ls 1 [(0, .ref h0)] := hl
  obtain ⟨H, hH⟩ : ∃ H : Heap, s.heap = H := ⟨_, rfl⟩
  rw [hH] at hP ⊢
  have hS : va_S A s.heap H [] := by rw [← hH]; exact va_S.rf
  obtain ⟨locs, hlo⟩ : ∃ locs : List Loc, locs = [] := ⟨_, rfl⟩
  rw [← hlo] at hS ⊢
  unfold sp_t1_isTooMuch at hsp
  refine lv_aload_n hx hb dX1_isTooMuch_0 rfl (lv_at hl 0 rfl) ?_
  refine va_get (D := (dC, dI)) (ci := 1) (v := .int v15) (C := RX1) (T := TX1) (N := 16) hx hb hts uV_h4_X1 hown hK hP 0 rfl rfl 15 (by decide) (hts (.fieldLink RX1 61 "ClassMill$Code" "full" "Z") mw_h4_79) (fun _ h9 => h9) rfl dX1_isTooMuch_1 ?_
  refine lv_if_ne (tgt := 35) hx hb dX1_isTooMuch_4 (by decide) (fun c_1 => ?_) (fun c_1 => ?_)
  · rw [if_neg c_1] at hsp
    refine lv_iconst (v := 1) hx hb dX1_isTooMuch_35 (by decide) ?_
    refine lv_goto (tgt := 40) hx hb dX1_isTooMuch_36 (by decide) ?_
    have hr0 := Option.some.inj hsp
    clear hsp
    subst hr0
    have hP9 := hP.sub (ws' := [(h0, .inr (1, [.ref qf0, .int v1, .ref qf2, .int v3, .int v4, .ref qf5, .ref qf6, .int v7, .int v8, .ref qf9, .int v10, .ref qf11, .ref qf12, .ref qf13, .int v14, .int v15]))]) [0] rfl
    have hD9 := hD.sub (ws' := [(h0, .inr (1, [.ref qf0, .int v1, .ref qf2, .int v3, .int v4, .ref qf5, .ref qf6, .int v7, .int v8, .ref qf9, .int v10, .ref qf11, .ref qf12, .ref qf13, .int v14, .int v15]))]) [0] (by decide) rfl
    have hK9 := hK.sub (tys' := []) [] rfl
    exact W.zret hx hb hr (by decide) (fun t ht hW => ⟨⟨(1), (), rfl, ⟨rfl, Or.inr rfl⟩, by rw [ht]; exact hP9, va_K.moved hW.alike hK9, hD9⟩, hS.F ht⟩) hS.2.2 dX1_isTooMuch_40
  · rw [if_pos c_1] at hsp
    refine lv_aload_n hx hb dX1_isTooMuch_7 rfl (lv_at hl 0 rfl) ?_
    refine va_get (D := (dC, dI)) (ci := 1) (v := .int v1) (C := RX1) (T := TX1) (N := 16) hx hb hts uV_h4_X1 hown hK hP 0 rfl rfl 1 (by decide) (hts (.fieldLink RX1 39 "ClassMill$Code" "length" "I") mw_h4_72) (fun _ h9 => h9) rfl dX1_isTooMuch_8 ?_
    refine lv_sipush (v := 1500) hx hb dX1_isTooMuch_11 (by decide) ?_
    refine lv_icmp_gt (tgt := 35) hx hb dX1_isTooMuch_14 (by decide) (fun c_2 => ?_) (fun c_2 => ?_)
    · rw [if_pos c_2] at hsp
      refine lv_iconst (v := 1) hx hb dX1_isTooMuch_35 (by decide) ?_
      refine lv_goto (tgt := 40) hx hb dX1_isTooMuch_36 (by decide) ?_
      have hr0 := Option.some.inj hsp
      clear hsp
      subst hr0
      have hP9 := hP.sub (ws' := [(h0, .inr (1, [.ref qf0, .int v1, .ref qf2, .int v3, .int v4, .ref qf5, .ref qf6, .int v7, .int v8, .ref qf9, .int v10, .ref qf11, .ref qf12, .ref qf13, .int v14, .int v15]))]) [0] rfl
      have hD9 := hD.sub (ws' := [(h0, .inr (1, [.ref qf0, .int v1, .ref qf2, .int v3, .int v4, .ref qf5, .ref qf6, .int v7, .int v8, .ref qf9, .int v10, .ref qf11, .ref qf12, .ref qf13, .int v14, .int v15]))]) [0] (by decide) rfl
      have hK9 := hK.sub (tys' := []) [] rfl
      exact W.zret hx hb hr (by decide) (fun t ht hW => ⟨⟨(1), (), rfl, ⟨rfl, Or.inr rfl⟩, by rw [ht]; exact hP9, va_K.moved hW.alike hK9, hD9⟩, hS.F ht⟩) hS.2.2 dX1_isTooMuch_40
    · rw [if_neg c_2] at hsp
      refine lv_aload_n hx hb dX1_isTooMuch_17 rfl (lv_at hl 0 rfl) ?_
      refine va_get (D := (dC, dI)) (ci := 1) (v := .int v8) (C := RX1) (T := TX1) (N := 16) hx hb hts uV_h4_X1 hown hK hP 0 rfl rfl 8 (by decide) (hts (.fieldLink RX1 52 "ClassMill$Code" "mostLocals" "I") mw_h4_76) (fun _ h9 => h9) rfl dX1_isTooMuch_18 ?_
      refine lv_bipush (v := 30) hx hb dX1_isTooMuch_21 (by decide) ?_
      refine lv_icmp_gt (tgt := 35) hx hb dX1_isTooMuch_23 (by decide) (fun c_3 => ?_) (fun c_3 => ?_)
      · rw [if_pos c_3] at hsp
        refine lv_iconst (v := 1) hx hb dX1_isTooMuch_35 (by decide) ?_
        refine lv_goto (tgt := 40) hx hb dX1_isTooMuch_36 (by decide) ?_
        have hr0 := Option.some.inj hsp
        clear hsp
        subst hr0
        have hP9 := hP.sub (ws' := [(h0, .inr (1, [.ref qf0, .int v1, .ref qf2, .int v3, .int v4, .ref qf5, .ref qf6, .int v7, .int v8, .ref qf9, .int v10, .ref qf11, .ref qf12, .ref qf13, .int v14, .int v15]))]) [0] rfl
        have hD9 := hD.sub (ws' := [(h0, .inr (1, [.ref qf0, .int v1, .ref qf2, .int v3, .int v4, .ref qf5, .ref qf6, .int v7, .int v8, .ref qf9, .int v10, .ref qf11, .ref qf12, .ref qf13, .int v14, .int v15]))]) [0] (by decide) rfl
        have hK9 := hK.sub (tys' := []) [] rfl
        exact W.zret hx hb hr (by decide) (fun t ht hW => ⟨⟨(1), (), rfl, ⟨rfl, Or.inr rfl⟩, by rw [ht]; exact hP9, va_K.moved hW.alike hK9, hD9⟩, hS.F ht⟩) hS.2.2 dX1_isTooMuch_40
      · rw [if_neg c_3] at hsp
        refine lv_aload_n hx hb dX1_isTooMuch_26 rfl (lv_at hl 0 rfl) ?_
        refine va_get (D := (dC, dI)) (ci := 1) (v := .int v4) (C := RX1) (T := TX1) (N := 16) hx hb hts uV_h4_X1 hown hK hP 0 rfl rfl 4 (by decide) (hts (.fieldLink RX1 46 "ClassMill$Code" "mostHeight" "I") mw_h4_74) (fun _ h9 => h9) rfl dX1_isTooMuch_27 ?_
        refine lv_bipush (v := 20) hx hb dX1_isTooMuch_30 (by decide) ?_
        refine lv_icmp_le (tgt := 39) hx hb dX1_isTooMuch_32 (by decide) (fun c_4 => ?_) (fun c_4 => ?_)
        · rw [if_pos c_4] at hsp
          refine lv_iconst (v := 0) hx hb dX1_isTooMuch_39 (by decide) ?_
          have hr0 := Option.some.inj hsp
          clear hsp
          subst hr0
          have hP9 := hP.sub (ws' := [(h0, .inr (1, [.ref qf0, .int v1, .ref qf2, .int v3, .int v4, .ref qf5, .ref qf6, .int v7, .int v8, .ref qf9, .int v10, .ref qf11, .ref qf12, .ref qf13, .int v14, .int v15]))]) [0] rfl
          have hD9 := hD.sub (ws' := [(h0, .inr (1, [.ref qf0, .int v1, .ref qf2, .int v3, .int v4, .ref qf5, .ref qf6, .int v7, .int v8, .ref qf9, .int v10, .ref qf11, .ref qf12, .ref qf13, .int v14, .int v15]))]) [0] (by decide) rfl
          have hK9 := hK.sub (tys' := []) [] rfl
          exact W.zret hx hb hr (by decide) (fun t ht hW => ⟨⟨(0), (), rfl, ⟨rfl, Or.inl rfl⟩, by rw [ht]; exact hP9, va_K.moved hW.alike hK9, hD9⟩, hS.F ht⟩) hS.2.2 dX1_isTooMuch_40
        · rw [if_neg c_4] at hsp
          refine lv_iconst (v := 1) hx hb dX1_isTooMuch_35 (by decide) ?_
          refine lv_goto (tgt := 40) hx hb dX1_isTooMuch_36 (by decide) ?_
          have hr0 := Option.some.inj hsp
          clear hsp
          subst hr0
          have hP9 := hP.sub (ws' := [(h0, .inr (1, [.ref qf0, .int v1, .ref qf2, .int v3, .int v4, .ref qf5, .ref qf6, .int v7, .int v8, .ref qf9, .int v10, .ref qf11, .ref qf12, .ref qf13, .int v14, .int v15]))]) [0] rfl
          have hD9 := hD.sub (ws' := [(h0, .inr (1, [.ref qf0, .int v1, .ref qf2, .int v3, .int v4, .ref qf5, .ref qf6, .int v7, .int v8, .ref qf9, .int v10, .ref qf11, .ref qf12, .ref qf13, .int v14, .int v15]))]) [0] (by decide) rfl
          have hK9 := hK.sub (tys' := []) [] rfl
          exact W.zret hx hb hr (by decide) (fun t ht hW => ⟨⟨(1), (), rfl, ⟨rfl, Or.inr rfl⟩, by rw [ht]; exact hP9, va_K.moved hW.alike hK9, hD9⟩, hS.F ht⟩) hS.2.2 dX1_isTooMuch_40
def sp_t1_op (nf : Nat) (a1 : Int32) (v1 : Int32) (f0 : Nat → Int32) : Option ((Nat → Int32) × Int32) := (if 1500 ≤ v1 then (some (f0, (v1 + 1))) else (if v1 < 0 then none else if 1500 ≤ (v1 : Int32).toNatClampNeg then none else (some ((upd f0 (v1 : Int32).toNatClampNeg (vp_nar .byte ((a1 : Int32).toInt8.toInt32))), (v1 + 1)))))
set_option maxHeartbeats 4000000 in
set_option maxRecDepth 100000 in
/-- ClassMill$Code.op -/
theorem t1_op (l : Launch) (dC : Nat → ClassId) (dI : Nat → Nat → Nat) (sz : Nat) (h0 : Nat) (a1 : Int32) (qf0 : Nat) (v1 : Int32) (qf2 : Nat) (v3 : Int32) (v4 : Int32) (qf5 : Nat) (qf6 : Nat) (v7 : Int32) (v8 : Int32) (qf9 : Nat) (v10 : Int32) (qf11 : Nat) (qf12 : Nat) (qf13 : Nat) (v14 : Int32) (v15 : Int32) (cf0 : ClassId) (f0 : (Nat → Int32)) (nf : Nat) (o0 : (Nat → Int32)) (w1 : Int32) (hsp : sp_t1_op nf a1 v1 f0 = some (o0, w1)) : Met l yX1_op (.code yX1_op cX1_op 2 none :: VS_h4) ({ frames := 0, cells := 0, slots := 0, locals := 0 }) (va_Pc [.ref h0, .int a1] (fun U => U.heap.size = sz ∧ va_P (dC, dI) vwCl [(h0, .inr (1, [.ref qf0, .int v1, .ref qf2, .int v3, .int v4, .ref qf5, .ref qf6, .int v7, .int v8, .ref qf9, .int v10, .ref qf11, .ref qf12, .ref qf13, .int v14, .int v15])), (qf0, .inl (cf0, 1500, .inl f0))] U.heap ∧ va_K (dC, dI) vwCl [(cf0, .byte)] U ∧ va_D (fun _ => True) [(h0, .inr (1, [.ref qf0, .int v1, .ref qf2, .int v3, .int v4, .ref qf5, .ref qf6, .int v7, .int v8, .ref qf9, .int v10, .ref qf11, .ref qf12, .ref qf13, .int v14, .int v15])), (qf0, .inl (cf0, 1500, .inl f0))])) (va_Qv (fun (u : Unit) => match u with | () => True) (fun (u : Unit) (t : State) => match u with | () => va_P (dC, dI) vwCl [(h0, .inr (1, [.ref qf0, .int w1, .ref qf2, .int v3, .int v4, .ref qf5, .ref qf6, .int v7, .int v8, .ref qf9, .int v10, .ref qf11, .ref qf12, .ref qf13, .int v14, .int v15])), (qf0, .inl (cf0, 1500, .inl o0))] t.heap ∧ va_K (dC, dI) vwCl [(cf0, .byte)] t ∧ va_D (va_A [(h0, .inr (1, [.ref qf0, .int v1, .ref qf2, .int v3, .int v4, .ref qf5, .ref qf6, .int v7, .int v8, .ref qf9, .int v10, .ref qf11, .ref qf12, .ref qf13, .int v14, .int v15])), (qf0, .inl (cf0, 1500, .inl f0))] sz) [(h0, .inr (1, [.ref qf0, .int w1, .ref qf2, .int v3, .int v4, .ref qf5, .ref qf6, .int v7, .int v8, .ref qf9, .int v10, .ref qf11, .ref qf12, .ref qf13, .int v14, .int v15])), (qf0, .inl (cf0, 1500, .inl o0))]) (va_A [(h0, .inr (1, [.ref qf0, .int v1, .ref qf2, .int v3, .int v4, .ref qf5, .ref qf6, .int v7, .int v8, .ref qf9, .int v10, .ref qf11, .ref qf12, .ref qf13, .int v14, .int v15])), (qf0, .inl (cf0, 1500, .inl f0))] sz)) 0 0 (va_A [(h0, .inr (1, [.ref qf0, .int v1, .ref qf2, .int v3, .int v4, .ref qf5, .ref qf6, .int v7, .int v8, .ref qf9, .int v10, .ref qf11, .ref qf12, .ref qf13, .int v14, .int v15])), (qf0, .inl (cf0, 1500, .inl f0))] sz) := by
  refine Met.ofW (cc := cX1_op) (maxL := 2) (ret := none) (by decide) rfl ?_
  intro p e s m args below meth c s₁ B hml hv
  obtain ⟨rfl, hsz, hP, hK, hD0⟩ := hv
  have hx := B.exec
  have hb := B.bytes
  have hr := B.returns
  have hts := atoms_spec (ws := (.code yX1_op cX1_op 2 none :: VS_h4)) B.pre
  replace hts := fun w (h : w ∈ VS_h4) => hts w (List.mem_cons_of_mem _ h)
  have hown : s.vm.findClass RX1 = some m.cls := findClass_of_methodNamed B.named
  have hlocks := B.notSynchronized
  subst hsz
  have hD := hD0.self (sz := s.heap.size)
  generalize hAe : va_A [(h0, .inr (1, [.ref qf0, .int v1, .ref qf2, .int v3, .int v4, .ref qf5, .ref qf6, .int v7, .int v8, .ref qf9, .int v10, .ref qf11, .ref qf12, .ref qf13, .int v14, .int v15])), (qf0, .inl (cf0, 1500, .inl f0))] s.heap.size = A at hD  ⊢
  have hA : ∀ q : Nat, s.heap.size ≤ q → A q := fun q h => by rw [← hAe]; exact Or.inr h
  have hP : va_P (dC, dI) vwCl [(h0, .inr (1, [.ref qf0, .int v1, .ref qf2, .int v3, .int v4, .ref qf5, .ref qf6, .int v7, .int v8, .ref qf9, .int v10, .ref qf11, .ref qf12, .ref qf13, .int v14, .int v15])), (qf0, .inl (cf0, 1500, .inl f0))] s.heap := hP
  have hl := lv_entry ([.ref h0, .int a1]) (n := 2) (Nat.le_of_ble_eq_true rfl)
  rw [lg_entry_eq]
  generalize (lg_sl ([.ref h0, .int a1]) ++ List.replicate (2 - (lg_sl ([.ref h0, .int a1])).length) Slot.unset).toArray = ls at hl ⊢
  have hl : lv_has ls 2 [(0, .ref h0), (1, .int a1)] := hl
  obtain ⟨H, hH⟩ : ∃ H : Heap, s.heap = H := ⟨_, rfl⟩
  rw [hH] at hP ⊢
  have hS : va_S A s.heap H [] := by rw [← hH]; exact va_S.rf
  obtain ⟨locs, hlo⟩ : ∃ locs : List Loc, locs = [] := ⟨_, rfl⟩
  rw [← hlo] at hS ⊢
  unfold sp_t1_op at hsp
  refine lv_aload_n hx hb dX1_op_0 rfl (lv_at hl 0 rfl) ?_
  refine va_get (D := (dC, dI)) (ci := 1) (v := .int v1) (C := RX1) (T := TX1) (N := 16) hx hb hts uV_h4_X1 hown hK hP 0 rfl rfl 1 (by decide) (hts (.fieldLink RX1 39 "ClassMill$Code" "length" "I") mw_h4_72) (fun _ h9 => h9) rfl dX1_op_1 ?_
  refine lv_aload_n hx hb dX1_op_4 rfl (lv_at hl 0 rfl) ?_
  refine va_get (D := (dC, dI)) (ci := 1) (v := .ref qf0) (C := RX1) (T := TX1) (N := 16) hx hb hts uV_h4_X1 hown hK hP 0 rfl rfl 0 (by decide) (hts (.fieldLink RX1 13 "ClassMill$Code" "bytes" "[B") mw_h4_80) (fun _ h9 => h9) rfl dX1_op_5 ?_
  refine va_alen (v := 1500) hx hb hK hP 1 0 rfl rfl rfl dX1_op_8 ?_
  refine lv_icmp_ge (tgt := 23) hx hb dX1_op_9 (by decide) (fun c_1 => ?_) (fun c_1 => ?_)
  · rw [if_pos c_1] at hsp
    refine lv_aload_n hx hb dX1_op_23 rfl (lv_at hl 0 rfl) ?_
    refine lv_dup hx hb dX1_op_24 rfl ?_
    refine va_get (D := (dC, dI)) (ci := 1) (v := .int v1) (C := RX1) (T := TX1) (N := 16) hx hb hts uV_h4_X1 hown hK hP 0 rfl rfl 1 (by decide) (hts (.fieldLink RX1 39 "ClassMill$Code" "length" "I") mw_h4_72) (fun _ h9 => h9) rfl dX1_op_25 ?_
    refine lv_iconst (v := 1) hx hb dX1_op_28 (by decide) ?_
    refine lv_iadd hx hb dX1_op_29 ?_
    refine va_put (D := (dC, dI)) (ci := 1) (v := .int (v1 + 1)) (ty := .int) (C := RX1) (T := TX1) (N := 16) hx hb hts uV_h4_X1 tyX1 tyX1_ok nmX1 hown hK hP hD hS 0 rfl rfl 1 (by decide) (hts (.fieldLink RX1 39 "ClassMill$Code" "length" "I") mw_h4_72) (fun _ h9 => h9) rfl (by decide +kernel) rfl rfl (Nat.le_of_ble_eq_true rfl) dX1_op_30 ?_
    clear hP hD hS
    intro H locs hP hD hS
    replace hP : va_P (dC, dI) vwCl [(h0, .inr (1, [.ref qf0, .int (v1 + 1), .ref qf2, .int v3, .int v4, .ref qf5, .ref qf6, .int v7, .int v8, .ref qf9, .int v10, .ref qf11, .ref qf12, .ref qf13, .int v14, .int v15])), (qf0, .inl (cf0, 1500, .inl f0))] H := hP
    replace hD : va_D A [(h0, .inr (1, [.ref qf0, .int (v1 + 1), .ref qf2, .int v3, .int v4, .ref qf5, .ref qf6, .int v7, .int v8, .ref qf9, .int v10, .ref qf11, .ref qf12, .ref qf13, .int v14, .int v15])), (qf0, .inl (cf0, 1500, .inl f0))] := hD
    have hr0 := Option.some.inj hsp
    clear hsp
    obtain ⟨hq0, hr1⟩ := Prod.mk.inj hr0
    clear hr0
    subst hq0
    subst hr1
    have hP9 := hP.sub (ws' := [(h0, .inr (1, [.ref qf0, .int (v1 + 1), .ref qf2, .int v3, .int v4, .ref qf5, .ref qf6, .int v7, .int v8, .ref qf9, .int v10, .ref qf11, .ref qf12, .ref qf13, .int v14, .int v15])), (qf0, .inl (cf0, 1500, .inl f0))]) [0, 1] rfl
    have hD9 := hD.sub (ws' := [(h0, .inr (1, [.ref qf0, .int (v1 + 1), .ref qf2, .int v3, .int v4, .ref qf5, .ref qf6, .int v7, .int v8, .ref qf9, .int v10, .ref qf11, .ref qf12, .ref qf13, .int v14, .int v15])), (qf0, .inl (cf0, 1500, .inl f0))]) [0, 1] (by decide) rfl
    have hK9 := hK.sub (tys' := [(cf0, .byte)]) [0] rfl
    exact W.vret hx hb hr (fun t ht hW => ⟨⟨(), rfl, trivial, by rw [ht]; exact hP9, va_K.moved hW.alike hK9, hD9⟩, hS.F ht⟩) hS.2.2 dX1_op_33
  · rw [if_neg c_1] at hsp
    refine lv_aload_n hx hb dX1_op_12 rfl (lv_at hl 0 rfl) ?_
    refine va_get (D := (dC, dI)) (ci := 1) (v := .ref qf0) (C := RX1) (T := TX1) (N := 16) hx hb hts uV_h4_X1 hown hK hP 0 rfl rfl 0 (by decide) (hts (.fieldLink RX1 13 "ClassMill$Code" "bytes" "[B") mw_h4_80) (fun _ h9 => h9) rfl dX1_op_13 ?_
    refine lv_aload_n hx hb dX1_op_16 rfl (lv_at hl 0 rfl) ?_
    refine va_get (D := (dC, dI)) (ci := 1) (v := .int v1) (C := RX1) (T := TX1) (N := 16) hx hb hts uV_h4_X1 hown hK hP 0 rfl rfl 1 (by decide) (hts (.fieldLink RX1 39 "ClassMill$Code" "length" "I") mw_h4_72) (fun _ h9 => h9) rfl dX1_op_17 ?_
    refine lv_iload_n hx hb dX1_op_20 rfl (lv_at hl 1 rfl) ?_
    refine lv_i2b hx hb dX1_op_21 rfl ?_
    obtain ⟨hi_2, hsp⟩ := ox_in hsp
    refine va_bast hx hb hK hP hD hS 1 0 rfl rfl (i := v1) (x := ((a1 : Int32).toInt8.toInt32)) hi_2 dX1_op_22 ?_
    clear hP hD hS
    intro H locs hP hD hS
    replace hP : va_P (dC, dI) vwCl [(h0, .inr (1, [.ref qf0, .int v1, .ref qf2, .int v3, .int v4, .ref qf5, .ref qf6, .int v7, .int v8, .ref qf9, .int v10, .ref qf11, .ref qf12, .ref qf13, .int v14, .int v15])), (qf0, .inl (cf0, 1500, .inl (upd f0 (v1 : Int32).toNatClampNeg (vp_nar .byte ((a1 : Int32).toInt8.toInt32)))))] H := hP
    replace hD : va_D A [(h0, .inr (1, [.ref qf0, .int v1, .ref qf2, .int v3, .int v4, .ref qf5, .ref qf6, .int v7, .int v8, .ref qf9, .int v10, .ref qf11, .ref qf12, .ref qf13, .int v14, .int v15])), (qf0, .inl (cf0, 1500, .inl (upd f0 (v1 : Int32).toNatClampNeg (vp_nar .byte ((a1 : Int32).toInt8.toInt32)))))] := hD
    refine lv_aload_n hx hb dX1_op_23 rfl (lv_at hl 0 rfl) ?_
    refine lv_dup hx hb dX1_op_24 rfl ?_
    refine va_get (D := (dC, dI)) (ci := 1) (v := .int v1) (C := RX1) (T := TX1) (N := 16) hx hb hts uV_h4_X1 hown hK hP 0 rfl rfl 1 (by decide) (hts (.fieldLink RX1 39 "ClassMill$Code" "length" "I") mw_h4_72) (fun _ h9 => h9) rfl dX1_op_25 ?_
    refine lv_iconst (v := 1) hx hb dX1_op_28 (by decide) ?_
    refine lv_iadd hx hb dX1_op_29 ?_
    refine va_put (D := (dC, dI)) (ci := 1) (v := .int (v1 + 1)) (ty := .int) (C := RX1) (T := TX1) (N := 16) hx hb hts uV_h4_X1 tyX1 tyX1_ok nmX1 hown hK hP hD hS 0 rfl rfl 1 (by decide) (hts (.fieldLink RX1 39 "ClassMill$Code" "length" "I") mw_h4_72) (fun _ h9 => h9) rfl (by decide +kernel) rfl rfl (Nat.le_of_ble_eq_true rfl) dX1_op_30 ?_
    clear hP hD hS
    intro H locs hP hD hS
    replace hP : va_P (dC, dI) vwCl [(h0, .inr (1, [.ref qf0, .int (v1 + 1), .ref qf2, .int v3, .int v4, .ref qf5, .ref qf6, .int v7, .int v8, .ref qf9, .int v10, .ref qf11, .ref qf12, .ref qf13, .int v14, .int v15])), (qf0, .inl (cf0, 1500, .inl (upd f0 (v1 : Int32).toNatClampNeg (vp_nar .byte ((a1 : Int32).toInt8.toInt32)))))] H := hP
    replace hD : va_D A [(h0, .inr (1, [.ref qf0, .int (v1 + 1), .ref qf2, .int v3, .int v4, .ref qf5, .ref qf6, .int v7, .int v8, .ref qf9, .int v10, .ref qf11, .ref qf12, .ref qf13, .int v14, .int v15])), (qf0, .inl (cf0, 1500, .inl (upd f0 (v1 : Int32).toNatClampNeg (vp_nar .byte ((a1 : Int32).toInt8.toInt32)))))] := hD
    have hr0 := Option.some.inj hsp
    clear hsp
    obtain ⟨hq0, hr1⟩ := Prod.mk.inj hr0
    clear hr0
    subst hq0
    subst hr1
    have hP9 := hP.sub (ws' := [(h0, .inr (1, [.ref qf0, .int (v1 + 1), .ref qf2, .int v3, .int v4, .ref qf5, .ref qf6, .int v7, .int v8, .ref qf9, .int v10, .ref qf11, .ref qf12, .ref qf13, .int v14, .int v15])), (qf0, .inl (cf0, 1500, .inl (upd f0 (v1 : Int32).toNatClampNeg (vp_nar .byte ((a1 : Int32).toInt8.toInt32)))))]) [0, 1] rfl
    have hD9 := hD.sub (ws' := [(h0, .inr (1, [.ref qf0, .int (v1 + 1), .ref qf2, .int v3, .int v4, .ref qf5, .ref qf6, .int v7, .int v8, .ref qf9, .int v10, .ref qf11, .ref qf12, .ref qf13, .int v14, .int v15])), (qf0, .inl (cf0, 1500, .inl (upd f0 (v1 : Int32).toNatClampNeg (vp_nar .byte ((a1 : Int32).toInt8.toInt32)))))]) [0, 1] (by decide) rfl
    have hK9 := hK.sub (tys' := [(cf0, .byte)]) [0] rfl
    exact W.vret hx hb hr (fun t ht hW => ⟨⟨(), rfl, trivial, by rw [ht]; exact hP9, va_K.moved hW.alike hK9, hD9⟩, hS.F ht⟩) hS.2.2 dX1_op_33
def sp_t1_op_ (nf : Nat) (a1 : Int32) (a2 : Int32) (v1 : Int32) (f0 : Nat → Int32) : Option ((Nat → Int32) × Int32) := ((sp_t1_op nf a1 v1 f0).bind (fun p1 => ((sp_t1_op nf a2 p1.2 p1.1).bind (fun p2 => (some (p2.1, p2.2))))))
set_option maxHeartbeats 4000000 in
set_option maxRecDepth 100000 in
/-- ClassMill$Code.op -/
theorem t1_op_ (l : Launch) (dC : Nat → ClassId) (dI : Nat → Nat → Nat) (sz : Nat) (h0 : Nat) (a1 : Int32) (a2 : Int32) (qf0 : Nat) (v1 : Int32) (qf2 : Nat) (v3 : Int32) (v4 : Int32) (qf5 : Nat) (qf6 : Nat) (v7 : Int32) (v8 : Int32) (qf9 : Nat) (v10 : Int32) (qf11 : Nat) (qf12 : Nat) (qf13 : Nat) (v14 : Int32) (v15 : Int32) (cf0 : ClassId) (f0 : (Nat → Int32)) (nf : Nat) (o0 : (Nat → Int32)) (w1 : Int32) (hsp : sp_t1_op_ nf a1 a2 v1 f0 = some (o0, w1)) : Met l yX1_op_ (.code yX1_op_ cX1_op_ 3 none :: VS_h4) ({ frames := 1, cells := 0, slots := 0, locals := 21 }) (va_Pc [.ref h0, .int a1, .int a2] (fun U => U.heap.size = sz ∧ va_P (dC, dI) vwCl [(h0, .inr (1, [.ref qf0, .int v1, .ref qf2, .int v3, .int v4, .ref qf5, .ref qf6, .int v7, .int v8, .ref qf9, .int v10, .ref qf11, .ref qf12, .ref qf13, .int v14, .int v15])), (qf0, .inl (cf0, 1500, .inl f0))] U.heap ∧ va_K (dC, dI) vwCl [(cf0, .byte)] U ∧ va_D (fun _ => True) [(h0, .inr (1, [.ref qf0, .int v1, .ref qf2, .int v3, .int v4, .ref qf5, .ref qf6, .int v7, .int v8, .ref qf9, .int v10, .ref qf11, .ref qf12, .ref qf13, .int v14, .int v15])), (qf0, .inl (cf0, 1500, .inl f0))])) (va_Qv (fun (u : Unit) => match u with | () => True) (fun (u : Unit) (t : State) => match u with | () => va_P (dC, dI) vwCl [(h0, .inr (1, [.ref qf0, .int w1, .ref qf2, .int v3, .int v4, .ref qf5, .ref qf6, .int v7, .int v8, .ref qf9, .int v10, .ref qf11, .ref qf12, .ref qf13, .int v14, .int v15])), (qf0, .inl (cf0, 1500, .inl o0))] t.heap ∧ va_K (dC, dI) vwCl [(cf0, .byte)] t ∧ va_D (va_A [(h0, .inr (1, [.ref qf0, .int v1, .ref qf2, .int v3, .int v4, .ref qf5, .ref qf6, .int v7, .int v8, .ref qf9, .int v10, .ref qf11, .ref qf12, .ref qf13, .int v14, .int v15])), (qf0, .inl (cf0, 1500, .inl f0))] sz) [(h0, .inr (1, [.ref qf0, .int w1, .ref qf2, .int v3, .int v4, .ref qf5, .ref qf6, .int v7, .int v8, .ref qf9, .int v10, .ref qf11, .ref qf12, .ref qf13, .int v14, .int v15])), (qf0, .inl (cf0, 1500, .inl o0))]) (va_A [(h0, .inr (1, [.ref qf0, .int v1, .ref qf2, .int v3, .int v4, .ref qf5, .ref qf6, .int v7, .int v8, .ref qf9, .int v10, .ref qf11, .ref qf12, .ref qf13, .int v14, .int v15])), (qf0, .inl (cf0, 1500, .inl f0))] sz)) 0 0 (va_A [(h0, .inr (1, [.ref qf0, .int v1, .ref qf2, .int v3, .int v4, .ref qf5, .ref qf6, .int v7, .int v8, .ref qf9, .int v10, .ref qf11, .ref qf12, .ref qf13, .int v14, .int v15])), (qf0, .inl (cf0, 1500, .inl f0))] sz) := by
  refine Met.ofW (cc := cX1_op_) (maxL := 3) (ret := none) (by decide) rfl ?_
  intro p e s m args below meth c s₁ B hml hv
  obtain ⟨rfl, hsz, hP, hK, hD0⟩ := hv
  have hx := B.exec
  have hb := B.bytes
  have hr := B.returns
  have hts := atoms_spec (ws := (.code yX1_op_ cX1_op_ 3 none :: VS_h4)) B.pre
  replace hts := fun w (h : w ∈ VS_h4) => hts w (List.mem_cons_of_mem _ h)
  have hown : s.vm.findClass RX1 = some m.cls := findClass_of_methodNamed B.named
  have hlocks := B.notSynchronized
  subst hsz
  have hD := hD0.self (sz := s.heap.size)
  generalize hAe : va_A [(h0, .inr (1, [.ref qf0, .int v1, .ref qf2, .int v3, .int v4, .ref qf5, .ref qf6, .int v7, .int v8, .ref qf9, .int v10, .ref qf11, .ref qf12, .ref qf13, .int v14, .int v15])), (qf0, .inl (cf0, 1500, .inl f0))] s.heap.size = A at hD  ⊢
  have hA : ∀ q : Nat, s.heap.size ≤ q → A q := fun q h => by rw [← hAe]; exact Or.inr h
  have hP : va_P (dC, dI) vwCl [(h0, .inr (1, [.ref qf0, .int v1, .ref qf2, .int v3, .int v4, .ref qf5, .ref qf6, .int v7, .int v8, .ref qf9, .int v10, .ref qf11, .ref qf12, .ref qf13, .int v14, .int v15])), (qf0, .inl (cf0, 1500, .inl f0))] s.heap := hP
  have hl := lv_entry ([.ref h0, .int a1, .int a2]) (n := 3) (Nat.le_of_ble_eq_true rfl)
  rw [lg_entry_eq]
  generalize (lg_sl ([.ref h0, .int a1, .int a2]) ++ List.replicate (3 - (lg_sl ([.ref h0, .int a1, .int a2])).length) Slot.unset).toArray = ls at hl ⊢
  have hl : lv_has ls 3 [(0, .ref h0), (1, .int a1), (2, .int a2)] := hl
  obtain ⟨H, hH⟩ : ∃ H : Heap, s.heap = H := ⟨_, rfl⟩
  rw [hH] at hP ⊢
  have hS : va_S A s.heap H [] := by rw [← hH]; exact va_S.rf
  obtain ⟨locs, hlo⟩ : ∃ locs : List Loc, locs = [] := ⟨_, rfl⟩
  rw [← hlo] at hS ⊢
  unfold sp_t1_op_ at hsp
  refine lv_aload_n hx hb dX1_op__0 rfl (lv_at hl 0 rfl) ?_
  refine lv_iload_n hx hb dX1_op__1 rfl (lv_at hl 1 rfl) ?_
  obtain ⟨⟨g901_0, u1_1⟩, hu_1, hsp⟩ := ox_bind hsp
  try dsimp only at hsp
  have hPc := hP.sub (ws' := [(h0, .inr (1, [.ref qf0, .int v1, .ref qf2, .int v3, .int v4, .ref qf5, .ref qf6, .int v7, .int v8, .ref qf9, .int v10, .ref qf11, .ref qf12, .ref qf13, .int v14, .int v15])), (qf0, .inl (cf0, 1500, .inl f0))]) [0, 1] rfl
  have hDc := hD.sub (ws' := [(h0, .inr (1, [.ref qf0, .int v1, .ref qf2, .int v3, .int v4, .ref qf5, .ref qf6, .int v7, .int v8, .ref qf9, .int v10, .ref qf11, .ref qf12, .ref qf13, .int v14, .int v15])), (qf0, .inl (cf0, 1500, .inl f0))]) [0, 1] (by decide) rfl
  have hKc := hK.sub (tys' := [(cf0, .byte)]) [0] rfl
  have hFc := va_free (wc := [(h0, .inr (1, [.ref qf0, .int v1, .ref qf2, .int v3, .int v4, .ref qf5, .ref qf6, .int v7, .int v8, .ref qf9, .int v10, .ref qf11, .ref qf12, .ref qf13, .int v14, .int v15])), (qf0, .inl (cf0, 1500, .inl f0))]) hD hS hA [0, 1] rfl
  refine va_callv (va_runV (As := [.int a1]) (rest := []) ⟨hx, hb, hml, hown, hts⟩ (t1_op l dC dI H.size h0 a1 qf0 v1 qf2 v3 v4 qf5 qf6 v7 v8 qf9 v10 qf11 qf12 qf13 v14 v15 cf0 f0 nf g901_0 u1_1 hu_1) (cwV 1 hts gv_h4_15 rfl rfl rfl (by decide +kernel) ⟨Nat.le_of_ble_eq_true rfl, Nat.le_of_ble_eq_true rfl⟩) ⟨fun a U g mk q => by obtain ⟨q0, q1, qP, qK, qD⟩ := q; exact ⟨q0, q1, qP, va_K.moved (u := U) (U := U.calling g mk a) (Vm.Alike.refl U.vm) qK, qD⟩, va_recv hKc hPc (ci := 1) (q0 := 0) rfl rfl, fun U hU hW => ⟨rfl, by rw [hU], by rw [hU]; exact hPc, va_K.moved hW.alike hKc, hDc.weaken (fun _ _ _ _ => trivial)⟩⟩ rfl rfl hl.1 rfl (lv_room (Nat.le_of_ble_eq_true rfl)) dX1_op__2 ⟨Nat.le_of_ble_eq_true rfl, Nat.le_of_ble_eq_true rfl⟩) hS (fun q _ h => hFc q h) hFc ?_
  clear hS
  intro u t H1 locs ht hvm hw hB hz1 hk1 hS
  obtain ⟨⟩ := u
  obtain ⟨hP1, hK1, hD1⟩ := hB
  rw [ht] at hP1
  have hK1 := va_K.moved hvm.symm hK1
  try dsimp only at hw
  have hPD := va_join (wr := []) (w1 := [(h0, .inr (1, [.ref qf0, .int u1_1, .ref qf2, .int v3, .int v4, .ref qf5, .ref qf6, .int v7, .int v8, .ref qf9, .int v10, .ref qf11, .ref qf12, .ref qf13, .int v14, .int v15])), (qf0, .inl (cf0, 1500, .inl g901_0))]) hP hD [0, 1] [] rfl rfl (by decide) (by decide) hk1 hFc hP1 hD1
  clear hP hD
  obtain ⟨hP, hD⟩ := hPD
  replace hK := (hK.sub (tys' := []) [] rfl).app hK1
  clear hPc hDc hKc hFc hP1 hK1 hD1 hz1 hk1 ht hvm
  generalize H1 = H at hP hS ⊢
  replace hP : va_P (dC, dI) vwCl [(h0, .inr (1, [.ref qf0, .int u1_1, .ref qf2, .int v3, .int v4, .ref qf5, .ref qf6, .int v7, .int v8, .ref qf9, .int v10, .ref qf11, .ref qf12, .ref qf13, .int v14, .int v15])), (qf0, .inl (cf0, 1500, .inl g901_0))] H := hP
  replace hD : va_D A [(h0, .inr (1, [.ref qf0, .int u1_1, .ref qf2, .int v3, .int v4, .ref qf5, .ref qf6, .int v7, .int v8, .ref qf9, .int v10, .ref qf11, .ref qf12, .ref qf13, .int v14, .int v15])), (qf0, .inl (cf0, 1500, .inl g901_0))] := hD
  replace hK : va_K (dC, dI) vwCl [(cf0, .byte)] s := hK
  refine lv_aload_n hx hb dX1_op__5 rfl (lv_at hl 0 rfl) ?_
  refine lv_iload_n hx hb dX1_op__6 rfl (lv_at hl 2 rfl) ?_
  obtain ⟨⟨g902_0, u2_1⟩, hu_2, hsp⟩ := ox_bind hsp
  try dsimp only at hsp
  have hPc := hP.sub (ws' := [(h0, .inr (1, [.ref qf0, .int u1_1, .ref qf2, .int v3, .int v4, .ref qf5, .ref qf6, .int v7, .int v8, .ref qf9, .int v10, .ref qf11, .ref qf12, .ref qf13, .int v14, .int v15])), (qf0, .inl (cf0, 1500, .inl g901_0))]) [0, 1] rfl
  have hDc := hD.sub (ws' := [(h0, .inr (1, [.ref qf0, .int u1_1, .ref qf2, .int v3, .int v4, .ref qf5, .ref qf6, .int v7, .int v8, .ref qf9, .int v10, .ref qf11, .ref qf12, .ref qf13, .int v14, .int v15])), (qf0, .inl (cf0, 1500, .inl g901_0))]) [0, 1] (by decide) rfl
  have hKc := hK.sub (tys' := [(cf0, .byte)]) [0] rfl
  have hFc := va_free (wc := [(h0, .inr (1, [.ref qf0, .int u1_1, .ref qf2, .int v3, .int v4, .ref qf5, .ref qf6, .int v7, .int v8, .ref qf9, .int v10, .ref qf11, .ref qf12, .ref qf13, .int v14, .int v15])), (qf0, .inl (cf0, 1500, .inl g901_0))]) hD hS hA [0, 1] rfl
  refine va_callv (va_runV (As := [.int a2]) (rest := []) ⟨hx, hb, hml, hown, hts⟩ (t1_op l dC dI H.size h0 a2 qf0 u1_1 qf2 v3 v4 qf5 qf6 v7 v8 qf9 v10 qf11 qf12 qf13 v14 v15 cf0 g901_0 nf g902_0 u2_1 hu_2) (cwV 1 hts gv_h4_15 rfl rfl rfl (by decide +kernel) ⟨Nat.le_of_ble_eq_true rfl, Nat.le_of_ble_eq_true rfl⟩) ⟨fun a U g mk q => by obtain ⟨q0, q1, qP, qK, qD⟩ := q; exact ⟨q0, q1, qP, va_K.moved (u := U) (U := U.calling g mk a) (Vm.Alike.refl U.vm) qK, qD⟩, va_recv hKc hPc (ci := 1) (q0 := 0) rfl rfl, fun U hU hW => ⟨rfl, by rw [hU], by rw [hU]; exact hPc, va_K.moved hW.alike hKc, hDc.weaken (fun _ _ _ _ => trivial)⟩⟩ rfl rfl hl.1 rfl (lv_room (Nat.le_of_ble_eq_true rfl)) dX1_op__7 ⟨Nat.le_of_ble_eq_true rfl, Nat.le_of_ble_eq_true rfl⟩) hS (fun q _ h => hFc q h) hFc ?_
  clear hS
  intro u t H1 locs ht hvm hw hB hz1 hk1 hS
  obtain ⟨⟩ := u
  obtain ⟨hP1, hK1, hD1⟩ := hB
  rw [ht] at hP1
  have hK1 := va_K.moved hvm.symm hK1
  try dsimp only at hw
  have hPD := va_join (wr := []) (w1 := [(h0, .inr (1, [.ref qf0, .int u2_1, .ref qf2, .int v3, .int v4, .ref qf5, .ref qf6, .int v7, .int v8, .ref qf9, .int v10, .ref qf11, .ref qf12, .ref qf13, .int v14, .int v15])), (qf0, .inl (cf0, 1500, .inl g902_0))]) hP hD [0, 1] [] rfl rfl (by decide) (by decide) hk1 hFc hP1 hD1
  clear hP hD
  obtain ⟨hP, hD⟩ := hPD
  replace hK := (hK.sub (tys' := []) [] rfl).app hK1
  clear hPc hDc hKc hFc hP1 hK1 hD1 hz1 hk1 ht hvm
  generalize H1 = H at hP hS ⊢
  replace hP : va_P (dC, dI) vwCl [(h0, .inr (1, [.ref qf0, .int u2_1, .ref qf2, .int v3, .int v4, .ref qf5, .ref qf6, .int v7, .int v8, .ref qf9, .int v10, .ref qf11, .ref qf12, .ref qf13, .int v14, .int v15])), (qf0, .inl (cf0, 1500, .inl g902_0))] H := hP
  replace hD : va_D A [(h0, .inr (1, [.ref qf0, .int u2_1, .ref qf2, .int v3, .int v4, .ref qf5, .ref qf6, .int v7, .int v8, .ref qf9, .int v10, .ref qf11, .ref qf12, .ref qf13, .int v14, .int v15])), (qf0, .inl (cf0, 1500, .inl g902_0))] := hD
  replace hK : va_K (dC, dI) vwCl [(cf0, .byte)] s := hK
  have hr0 := Option.some.inj hsp
  clear hsp
  obtain ⟨hq0, hr1⟩ := Prod.mk.inj hr0
  clear hr0
  subst hq0
  subst hr1
  have hP9 := hP.sub (ws' := [(h0, .inr (1, [.ref qf0, .int u2_1, .ref qf2, .int v3, .int v4, .ref qf5, .ref qf6, .int v7, .int v8, .ref qf9, .int v10, .ref qf11, .ref qf12, .ref qf13, .int v14, .int v15])), (qf0, .inl (cf0, 1500, .inl g902_0))]) [0, 1] rfl
  have hD9 := hD.sub (ws' := [(h0, .inr (1, [.ref qf0, .int u2_1, .ref qf2, .int v3, .int v4, .ref qf5, .ref qf6, .int v7, .int v8, .ref qf9, .int v10, .ref qf11, .ref qf12, .ref qf13, .int v14, .int v15])), (qf0, .inl (cf0, 1500, .inl g902_0))]) [0, 1] (by decide) rfl
  have hK9 := hK.sub (tys' := [(cf0, .byte)]) [0] rfl
  exact W.vret hx hb hr (fun t ht hW => ⟨⟨(), rfl, trivial, by rw [ht]; exact hP9, va_K.moved hW.alike hK9, hD9⟩, hS.F ht⟩) hS.2.2 dX1_op__10
def sp_t1_push (nf : Nat) (a1 : Int32) (v3 : Int32) (v4 : Int32) (f2 : Nat → Int32) : Option ((Nat → Int32) × Int32 × Int32) := (if 20 ≤ v3 then (some (f2, (v3 + 1), (if v4 < (v3 + 1) then (v3 + 1) else v4))) else (if v3 < 0 then none else if 20 ≤ (v3 : Int32).toNatClampNeg then none else (some ((upd f2 (v3 : Int32).toNatClampNeg a1), (v3 + 1), (if v4 < (v3 + 1) then (v3 + 1) else v4)))))
set_option maxHeartbeats 4000000 in
set_option maxRecDepth 100000 in
/-- ClassMill$Code.push -/
theorem t1_push (l : Launch) (dC : Nat → ClassId) (dI : Nat → Nat → Nat) (sz : Nat) (h0 : Nat) (a1 : Int32) (qf0 : Nat) (v1 : Int32) (qf2 : Nat) (v3 : Int32) (v4 : Int32) (qf5 : Nat) (qf6 : Nat) (v7 : Int32) (v8 : Int32) (qf9 : Nat) (v10 : Int32) (qf11 : Nat) (qf12 : Nat) (qf13 : Nat) (v14 : Int32) (v15 : Int32) (cf2 : ClassId) (f2 : (Nat → Int32)) (nf : Nat) (o2 : (Nat → Int32)) (w3 : Int32) (w4 : Int32) (hsp : sp_t1_push nf a1 v3 v4 f2 = some (o2, w3, w4)) : Met l yX1_push (.code yX1_push cX1_push 2 none :: VS_h4) ({ frames := 1, cells := 0, slots := 0, locals := 15 }) (va_Pc [.ref h0, .int a1] (fun U => U.heap.size = sz ∧ va_P (dC, dI) vwCl [(h0, .inr (1, [.ref qf0, .int v1, .ref qf2, .int v3, .int v4, .ref qf5, .ref qf6, .int v7, .int v8, .ref qf9, .int v10, .ref qf11, .ref qf12, .ref qf13, .int v14, .int v15])), (qf2, .inl (cf2, 20, .inl f2))] U.heap ∧ va_K (dC, dI) vwCl [(cf2, .int)] U ∧ va_D (fun _ => True) [(h0, .inr (1, [.ref qf0, .int v1, .ref qf2, .int v3, .int v4, .ref qf5, .ref qf6, .int v7, .int v8, .ref qf9, .int v10, .ref qf11, .ref qf12, .ref qf13, .int v14, .int v15])), (qf2, .inl (cf2, 20, .inl f2))])) (va_Qv (fun (u : Unit) => match u with | () => True) (fun (u : Unit) (t : State) => match u with | () => va_P (dC, dI) vwCl [(h0, .inr (1, [.ref qf0, .int v1, .ref qf2, .int w3, .int w4, .ref qf5, .ref qf6, .int v7, .int v8, .ref qf9, .int v10, .ref qf11, .ref qf12, .ref qf13, .int v14, .int v15])), (qf2, .inl (cf2, 20, .inl o2))] t.heap ∧ va_K (dC, dI) vwCl [(cf2, .int)] t ∧ va_D (va_A [(h0, .inr (1, [.ref qf0, .int v1, .ref qf2, .int v3, .int v4, .ref qf5, .ref qf6, .int v7, .int v8, .ref qf9, .int v10, .ref qf11, .ref qf12, .ref qf13, .int v14, .int v15])), (qf2, .inl (cf2, 20, .inl f2))] sz) [(h0, .inr (1, [.ref qf0, .int v1, .ref qf2, .int w3, .int w4, .ref qf5, .ref qf6, .int v7, .int v8, .ref qf9, .int v10, .ref qf11, .ref qf12, .ref qf13, .int v14, .int v15])), (qf2, .inl (cf2, 20, .inl o2))]) (va_A [(h0, .inr (1, [.ref qf0, .int v1, .ref qf2, .int v3, .int v4, .ref qf5, .ref qf6, .int v7, .int v8, .ref qf9, .int v10, .ref qf11, .ref qf12, .ref qf13, .int v14, .int v15])), (qf2, .inl (cf2, 20, .inl f2))] sz)) 0 0 (va_A [(h0, .inr (1, [.ref qf0, .int v1, .ref qf2, .int v3, .int v4, .ref qf5, .ref qf6, .int v7, .int v8, .ref qf9, .int v10, .ref qf11, .ref qf12, .ref qf13, .int v14, .int v15])), (qf2, .inl (cf2, 20, .inl f2))] sz) := by
  refine Met.ofW (cc := cX1_push) (maxL := 2) (ret := none) (by decide) rfl ?_
  intro p e s m args below meth c s₁ B hml hv
  obtain ⟨rfl, hsz, hP, hK, hD0⟩ := hv
  have hx := B.exec
  have hb := B.bytes
  have hr := B.returns
  have hts := atoms_spec (ws := (.code yX1_push cX1_push 2 none :: VS_h4)) B.pre
  replace hts := fun w (h : w ∈ VS_h4) => hts w (List.mem_cons_of_mem _ h)
  have hown : s.vm.findClass RX1 = some m.cls := findClass_of_methodNamed B.named
  have hlocks := B.notSynchronized
  subst hsz
  have hD := hD0.self (sz := s.heap.size)
  generalize hAe : va_A [(h0, .inr (1, [.ref qf0, .int v1, .ref qf2, .int v3, .int v4, .ref qf5, .ref qf6, .int v7, .int v8, .ref qf9, .int v10, .ref qf11, .ref qf12, .ref qf13, .int v14, .int v15])), (qf2, .inl (cf2, 20, .inl f2))] s.heap.size = A at hD  ⊢
  have hA : ∀ q : Nat, s.heap.size ≤ q → A q := fun q h => by rw [← hAe]; exact Or.inr h
  have hP : va_P (dC, dI) vwCl [(h0, .inr (1, [.ref qf0, .int v1, .ref qf2, .int v3, .int v4, .ref qf5, .ref qf6, .int v7, .int v8, .ref qf9, .int v10, .ref qf11, .ref qf12, .ref qf13, .int v14, .int v15])), (qf2, .inl (cf2, 20, .inl f2))] s.heap := hP
  have hl := lv_entry ([.ref h0, .int a1]) (n := 2) (Nat.le_of_ble_eq_true rfl)
  rw [lg_entry_eq]
  generalize (lg_sl ([.ref h0, .int a1]) ++ List.replicate (2 - (lg_sl ([.ref h0, .int a1])).length) Slot.unset).toArray = ls at hl ⊢
  have hl : lv_has ls 2 [(0, .ref h0), (1, .int a1)] := hl
  obtain ⟨H, hH⟩ : ∃ H : Heap, s.heap = H := ⟨_, rfl⟩
  rw [hH] at hP ⊢
  have hS : va_S A s.heap H [] := by rw [← hH]; exact va_S.rf
  obtain ⟨locs, hlo⟩ : ∃ locs : List Loc, locs = [] := ⟨_, rfl⟩
  rw [← hlo] at hS ⊢
  unfold sp_t1_push at hsp
  refine lv_aload_n hx hb dX1_push_0 rfl (lv_at hl 0 rfl) ?_
  refine va_get (D := (dC, dI)) (ci := 1) (v := .int v3) (C := RX1) (T := TX1) (N := 16) hx hb hts uV_h4_X1 hown hK hP 0 rfl rfl 3 (by decide) (hts (.fieldLink RX1 43 "ClassMill$Code" "height" "I") mw_h4_73) (fun _ h9 => h9) rfl dX1_push_1 ?_
  refine lv_aload_n hx hb dX1_push_4 rfl (lv_at hl 0 rfl) ?_
  refine va_get (D := (dC, dI)) (ci := 1) (v := .ref qf2) (C := RX1) (T := TX1) (N := 16) hx hb hts uV_h4_X1 hown hK hP 0 rfl rfl 2 (by decide) (hts (.fieldLink RX1 17 "ClassMill$Code" "stack" "[I") mw_h4_86) (fun _ h9 => h9) rfl dX1_push_5 ?_
  refine va_alen (v := 20) hx hb hK hP 1 0 rfl rfl rfl dX1_push_8 ?_
  refine lv_icmp_ge (tgt := 22) hx hb dX1_push_9 (by decide) (fun c_1 => ?_) (fun c_1 => ?_)
  · rw [if_pos c_1] at hsp
    refine lv_aload_n hx hb dX1_push_22 rfl (lv_at hl 0 rfl) ?_
    refine lv_dup hx hb dX1_push_23 rfl ?_
    refine va_get (D := (dC, dI)) (ci := 1) (v := .int v3) (C := RX1) (T := TX1) (N := 16) hx hb hts uV_h4_X1 hown hK hP 0 rfl rfl 3 (by decide) (hts (.fieldLink RX1 43 "ClassMill$Code" "height" "I") mw_h4_73) (fun _ h9 => h9) rfl dX1_push_24 ?_
    refine lv_iconst (v := 1) hx hb dX1_push_27 (by decide) ?_
    refine lv_iadd hx hb dX1_push_28 ?_
    refine va_put (D := (dC, dI)) (ci := 1) (v := .int (v3 + 1)) (ty := .int) (C := RX1) (T := TX1) (N := 16) hx hb hts uV_h4_X1 tyX1 tyX1_ok nmX1 hown hK hP hD hS 0 rfl rfl 3 (by decide) (hts (.fieldLink RX1 43 "ClassMill$Code" "height" "I") mw_h4_73) (fun _ h9 => h9) rfl (by decide +kernel) rfl rfl (Nat.le_of_ble_eq_true rfl) dX1_push_29 ?_
    clear hP hD hS
    intro H locs hP hD hS
    replace hP : va_P (dC, dI) vwCl [(h0, .inr (1, [.ref qf0, .int v1, .ref qf2, .int (v3 + 1), .int v4, .ref qf5, .ref qf6, .int v7, .int v8, .ref qf9, .int v10, .ref qf11, .ref qf12, .ref qf13, .int v14, .int v15])), (qf2, .inl (cf2, 20, .inl f2))] H := hP
    replace hD : va_D A [(h0, .inr (1, [.ref qf0, .int v1, .ref qf2, .int (v3 + 1), .int v4, .ref qf5, .ref qf6, .int v7, .int v8, .ref qf9, .int v10, .ref qf11, .ref qf12, .ref qf13, .int v14, .int v15])), (qf2, .inl (cf2, 20, .inl f2))] := hD
    refine lv_aload_n hx hb dX1_push_32 rfl (lv_at hl 0 rfl) ?_
    refine lv_aload_n hx hb dX1_push_33 rfl (lv_at hl 0 rfl) ?_
    refine va_get (D := (dC, dI)) (ci := 1) (v := .int v4) (C := RX1) (T := TX1) (N := 16) hx hb hts uV_h4_X1 hown hK hP 0 rfl rfl 4 (by decide) (hts (.fieldLink RX1 46 "ClassMill$Code" "mostHeight" "I") mw_h4_74) (fun _ h9 => h9) rfl dX1_push_34 ?_
    refine lv_aload_n hx hb dX1_push_37 rfl (lv_at hl 0 rfl) ?_
    refine va_get (D := (dC, dI)) (ci := 1) (v := .int (v3 + 1)) (C := RX1) (T := TX1) (N := 16) hx hb hts uV_h4_X1 hown hK hP 0 rfl rfl 3 (by decide) (hts (.fieldLink RX1 43 "ClassMill$Code" "height" "I") mw_h4_73) (fun _ h9 => h9) rfl dX1_push_38 ?_
    refine va_mmax hx hb (by rw [hml]; exact hl.1.symm) hown (hts (.methodLink RX1 69 yJ9_max_7cf53) mw_h4_87) (hts (.static yJ9_max_7cf53) mw_h4_88) (hts (.initialized "java/lang/Math") mw_h4_89) (hts (.code yJ9_max_7cf53 cJ9_max_7cf53 2 (some .int)) mw_h4_90) (Nat.le_of_ble_eq_true rfl) (Nat.le_of_ble_eq_true rfl) (Nat.le_of_ble_eq_true rfl) (Nat.le_of_ble_eq_true rfl) dX1_push_41 ?_
    refine va_put (D := (dC, dI)) (ci := 1) (v := .int (if v4 < (v3 + 1) then (v3 + 1) else v4)) (ty := .int) (C := RX1) (T := TX1) (N := 16) hx hb hts uV_h4_X1 tyX1 tyX1_ok nmX1 hown hK hP hD hS 0 rfl rfl 4 (by decide) (hts (.fieldLink RX1 46 "ClassMill$Code" "mostHeight" "I") mw_h4_74) (fun _ h9 => h9) rfl (by decide +kernel) rfl rfl (Nat.le_of_ble_eq_true rfl) dX1_push_44 ?_
    clear hP hD hS
    intro H locs hP hD hS
    replace hP : va_P (dC, dI) vwCl [(h0, .inr (1, [.ref qf0, .int v1, .ref qf2, .int (v3 + 1), .int (if v4 < (v3 + 1) then (v3 + 1) else v4), .ref qf5, .ref qf6, .int v7, .int v8, .ref qf9, .int v10, .ref qf11, .ref qf12, .ref qf13, .int v14, .int v15])), (qf2, .inl (cf2, 20, .inl f2))] H := hP
    replace hD : va_D A [(h0, .inr (1, [.ref qf0, .int v1, .ref qf2, .int (v3 + 1), .int (if v4 < (v3 + 1) then (v3 + 1) else v4), .ref qf5, .ref qf6, .int v7, .int v8, .ref qf9, .int v10, .ref qf11, .ref qf12, .ref qf13, .int v14, .int v15])), (qf2, .inl (cf2, 20, .inl f2))] := hD
    have hr0 := Option.some.inj hsp
    clear hsp
    obtain ⟨hq0, hr1⟩ := Prod.mk.inj hr0
    clear hr0
    obtain ⟨hq1, hr2⟩ := Prod.mk.inj hr1
    clear hr1
    subst hq0
    subst hq1
    subst hr2
    have hP9 := hP.sub (ws' := [(h0, .inr (1, [.ref qf0, .int v1, .ref qf2, .int (v3 + 1), .int (if v4 < (v3 + 1) then (v3 + 1) else v4), .ref qf5, .ref qf6, .int v7, .int v8, .ref qf9, .int v10, .ref qf11, .ref qf12, .ref qf13, .int v14, .int v15])), (qf2, .inl (cf2, 20, .inl f2))]) [0, 1] rfl
    have hD9 := hD.sub (ws' := [(h0, .inr (1, [.ref qf0, .int v1, .ref qf2, .int (v3 + 1), .int (if v4 < (v3 + 1) then (v3 + 1) else v4), .ref qf5, .ref qf6, .int v7, .int v8, .ref qf9, .int v10, .ref qf11, .ref qf12, .ref qf13, .int v14, .int v15])), (qf2, .inl (cf2, 20, .inl f2))]) [0, 1] (by decide) rfl
    have hK9 := hK.sub (tys' := [(cf2, .int)]) [0] rfl
    exact W.vret hx hb hr (fun t ht hW => ⟨⟨(), rfl, trivial, by rw [ht]; exact hP9, va_K.moved hW.alike hK9, hD9⟩, hS.F ht⟩) hS.2.2 dX1_push_47
  · rw [if_neg c_1] at hsp
    refine lv_aload_n hx hb dX1_push_12 rfl (lv_at hl 0 rfl) ?_
    refine va_get (D := (dC, dI)) (ci := 1) (v := .ref qf2) (C := RX1) (T := TX1) (N := 16) hx hb hts uV_h4_X1 hown hK hP 0 rfl rfl 2 (by decide) (hts (.fieldLink RX1 17 "ClassMill$Code" "stack" "[I") mw_h4_86) (fun _ h9 => h9) rfl dX1_push_13 ?_
    refine lv_aload_n hx hb dX1_push_16 rfl (lv_at hl 0 rfl) ?_
    refine va_get (D := (dC, dI)) (ci := 1) (v := .int v3) (C := RX1) (T := TX1) (N := 16) hx hb hts uV_h4_X1 hown hK hP 0 rfl rfl 3 (by decide) (hts (.fieldLink RX1 43 "ClassMill$Code" "height" "I") mw_h4_73) (fun _ h9 => h9) rfl dX1_push_17 ?_
    refine lv_iload_n hx hb dX1_push_20 rfl (lv_at hl 1 rfl) ?_
    obtain ⟨hi_2, hsp⟩ := ox_in hsp
    refine va_iast hx hb hK hP hD hS 1 0 rfl rfl (i := v3) (x := a1) hi_2 dX1_push_21 ?_
    clear hP hD hS
    intro H locs hP hD hS
    replace hP : va_P (dC, dI) vwCl [(h0, .inr (1, [.ref qf0, .int v1, .ref qf2, .int v3, .int v4, .ref qf5, .ref qf6, .int v7, .int v8, .ref qf9, .int v10, .ref qf11, .ref qf12, .ref qf13, .int v14, .int v15])), (qf2, .inl (cf2, 20, .inl (upd f2 (v3 : Int32).toNatClampNeg a1)))] H := hP
    replace hD : va_D A [(h0, .inr (1, [.ref qf0, .int v1, .ref qf2, .int v3, .int v4, .ref qf5, .ref qf6, .int v7, .int v8, .ref qf9, .int v10, .ref qf11, .ref qf12, .ref qf13, .int v14, .int v15])), (qf2, .inl (cf2, 20, .inl (upd f2 (v3 : Int32).toNatClampNeg a1)))] := hD
    refine lv_aload_n hx hb dX1_push_22 rfl (lv_at hl 0 rfl) ?_
    refine lv_dup hx hb dX1_push_23 rfl ?_
    refine va_get (D := (dC, dI)) (ci := 1) (v := .int v3) (C := RX1) (T := TX1) (N := 16) hx hb hts uV_h4_X1 hown hK hP 0 rfl rfl 3 (by decide) (hts (.fieldLink RX1 43 "ClassMill$Code" "height" "I") mw_h4_73) (fun _ h9 => h9) rfl dX1_push_24 ?_
    refine lv_iconst (v := 1) hx hb dX1_push_27 (by decide) ?_
    refine lv_iadd hx hb dX1_push_28 ?_
    refine va_put (D := (dC, dI)) (ci := 1) (v := .int (v3 + 1)) (ty := .int) (C := RX1) (T := TX1) (N := 16) hx hb hts uV_h4_X1 tyX1 tyX1_ok nmX1 hown hK hP hD hS 0 rfl rfl 3 (by decide) (hts (.fieldLink RX1 43 "ClassMill$Code" "height" "I") mw_h4_73) (fun _ h9 => h9) rfl (by decide +kernel) rfl rfl (Nat.le_of_ble_eq_true rfl) dX1_push_29 ?_
    clear hP hD hS
    intro H locs hP hD hS
    replace hP : va_P (dC, dI) vwCl [(h0, .inr (1, [.ref qf0, .int v1, .ref qf2, .int (v3 + 1), .int v4, .ref qf5, .ref qf6, .int v7, .int v8, .ref qf9, .int v10, .ref qf11, .ref qf12, .ref qf13, .int v14, .int v15])), (qf2, .inl (cf2, 20, .inl (upd f2 (v3 : Int32).toNatClampNeg a1)))] H := hP
    replace hD : va_D A [(h0, .inr (1, [.ref qf0, .int v1, .ref qf2, .int (v3 + 1), .int v4, .ref qf5, .ref qf6, .int v7, .int v8, .ref qf9, .int v10, .ref qf11, .ref qf12, .ref qf13, .int v14, .int v15])), (qf2, .inl (cf2, 20, .inl (upd f2 (v3 : Int32).toNatClampNeg a1)))] := hD
    refine lv_aload_n hx hb dX1_push_32 rfl (lv_at hl 0 rfl) ?_
    refine lv_aload_n hx hb dX1_push_33 rfl (lv_at hl 0 rfl) ?_
    refine va_get (D := (dC, dI)) (ci := 1) (v := .int v4) (C := RX1) (T := TX1) (N := 16) hx hb hts uV_h4_X1 hown hK hP 0 rfl rfl 4 (by decide) (hts (.fieldLink RX1 46 "ClassMill$Code" "mostHeight" "I") mw_h4_74) (fun _ h9 => h9) rfl dX1_push_34 ?_
    refine lv_aload_n hx hb dX1_push_37 rfl (lv_at hl 0 rfl) ?_
    refine va_get (D := (dC, dI)) (ci := 1) (v := .int (v3 + 1)) (C := RX1) (T := TX1) (N := 16) hx hb hts uV_h4_X1 hown hK hP 0 rfl rfl 3 (by decide) (hts (.fieldLink RX1 43 "ClassMill$Code" "height" "I") mw_h4_73) (fun _ h9 => h9) rfl dX1_push_38 ?_
    refine va_mmax hx hb (by rw [hml]; exact hl.1.symm) hown (hts (.methodLink RX1 69 yJ9_max_7cf53) mw_h4_87) (hts (.static yJ9_max_7cf53) mw_h4_88) (hts (.initialized "java/lang/Math") mw_h4_89) (hts (.code yJ9_max_7cf53 cJ9_max_7cf53 2 (some .int)) mw_h4_90) (Nat.le_of_ble_eq_true rfl) (Nat.le_of_ble_eq_true rfl) (Nat.le_of_ble_eq_true rfl) (Nat.le_of_ble_eq_true rfl) dX1_push_41 ?_
    refine va_put (D := (dC, dI)) (ci := 1) (v := .int (if v4 < (v3 + 1) then (v3 + 1) else v4)) (ty := .int) (C := RX1) (T := TX1) (N := 16) hx hb hts uV_h4_X1 tyX1 tyX1_ok nmX1 hown hK hP hD hS 0 rfl rfl 4 (by decide) (hts (.fieldLink RX1 46 "ClassMill$Code" "mostHeight" "I") mw_h4_74) (fun _ h9 => h9) rfl (by decide +kernel) rfl rfl (Nat.le_of_ble_eq_true rfl) dX1_push_44 ?_
    clear hP hD hS
    intro H locs hP hD hS
    replace hP : va_P (dC, dI) vwCl [(h0, .inr (1, [.ref qf0, .int v1, .ref qf2, .int (v3 + 1), .int (if v4 < (v3 + 1) then (v3 + 1) else v4), .ref qf5, .ref qf6, .int v7, .int v8, .ref qf9, .int v10, .ref qf11, .ref qf12, .ref qf13, .int v14, .int v15])), (qf2, .inl (cf2, 20, .inl (upd f2 (v3 : Int32).toNatClampNeg a1)))] H := hP
    replace hD : va_D A [(h0, .inr (1, [.ref qf0, .int v1, .ref qf2, .int (v3 + 1), .int (if v4 < (v3 + 1) then (v3 + 1) else v4), .ref qf5, .ref qf6, .int v7, .int v8, .ref qf9, .int v10, .ref qf11, .ref qf12, .ref qf13, .int v14, .int v15])), (qf2, .inl (cf2, 20, .inl (upd f2 (v3 : Int32).toNatClampNeg a1)))] := hD
    have hr0 := Option.some.inj hsp
    clear hsp
    obtain ⟨hq0, hr1⟩ := Prod.mk.inj hr0
    clear hr0
    obtain ⟨hq1, hr2⟩ := Prod.mk.inj hr1
    clear hr1
    subst hq0
    subst hq1
    subst hr2
    have hP9 := hP.sub (ws' := [(h0, .inr (1, [.ref qf0, .int v1, .ref qf2, .int (v3 + 1), .int (if v4 < (v3 + 1) then (v3 + 1) else v4), .ref qf5, .ref qf6, .int v7, .int v8, .ref qf9, .int v10, .ref qf11, .ref qf12, .ref qf13, .int v14, .int v15])), (qf2, .inl (cf2, 20, .inl (upd f2 (v3 : Int32).toNatClampNeg a1)))]) [0, 1] rfl
    have hD9 := hD.sub (ws' := [(h0, .inr (1, [.ref qf0, .int v1, .ref qf2, .int (v3 + 1), .int (if v4 < (v3 + 1) then (v3 + 1) else v4), .ref qf5, .ref qf6, .int v7, .int v8, .ref qf9, .int v10, .ref qf11, .ref qf12, .ref qf13, .int v14, .int v15])), (qf2, .inl (cf2, 20, .inl (upd f2 (v3 : Int32).toNatClampNeg a1)))]) [0, 1] (by decide) rfl
    have hK9 := hK.sub (tys' := [(cf2, .int)]) [0] rfl
    exact W.vret hx hb hr (fun t ht hW => ⟨⟨(), rfl, trivial, by rw [ht]; exact hP9, va_K.moved hW.alike hK9, hD9⟩, hS.F ht⟩) hS.2.2 dX1_push_47
def sp_t1_pop (nf : Nat) (a1 : Int32) (v3 : Int32) : Option (Int32) := (some (if 0 < (v3 - a1) then (v3 - a1) else 0))
set_option maxHeartbeats 4000000 in
set_option maxRecDepth 100000 in
/-- ClassMill$Code.pop -/
theorem t1_pop (l : Launch) (dC : Nat → ClassId) (dI : Nat → Nat → Nat) (sz : Nat) (h0 : Nat) (a1 : Int32) (qf0 : Nat) (v1 : Int32) (qf2 : Nat) (v3 : Int32) (v4 : Int32) (qf5 : Nat) (qf6 : Nat) (v7 : Int32) (v8 : Int32) (qf9 : Nat) (v10 : Int32) (qf11 : Nat) (qf12 : Nat) (qf13 : Nat) (v14 : Int32) (v15 : Int32) (nf : Nat) (w3 : Int32) (hsp : sp_t1_pop nf a1 v3 = some w3) : Met l yX1_pop (.code yX1_pop cX1_pop 2 none :: VS_h4) ({ frames := 1, cells := 0, slots := 0, locals := 15 }) (va_Pc [.ref h0, .int a1] (fun U => U.heap.size = sz ∧ va_P (dC, dI) vwCl [(h0, .inr (1, [.ref qf0, .int v1, .ref qf2, .int v3, .int v4, .ref qf5, .ref qf6, .int v7, .int v8, .ref qf9, .int v10, .ref qf11, .ref qf12, .ref qf13, .int v14, .int v15]))] U.heap ∧ va_K (dC, dI) vwCl [] U ∧ va_D (fun _ => True) [(h0, .inr (1, [.ref qf0, .int v1, .ref qf2, .int v3, .int v4, .ref qf5, .ref qf6, .int v7, .int v8, .ref qf9, .int v10, .ref qf11, .ref qf12, .ref qf13, .int v14, .int v15]))])) (va_Qv (fun (u : Unit) => match u with | () => True) (fun (u : Unit) (t : State) => match u with | () => va_P (dC, dI) vwCl [(h0, .inr (1, [.ref qf0, .int v1, .ref qf2, .int w3, .int v4, .ref qf5, .ref qf6, .int v7, .int v8, .ref qf9, .int v10, .ref qf11, .ref qf12, .ref qf13, .int v14, .int v15]))] t.heap ∧ va_K (dC, dI) vwCl [] t ∧ va_D (va_A [(h0, .inr (1, [.ref qf0, .int v1, .ref qf2, .int v3, .int v4, .ref qf5, .ref qf6, .int v7, .int v8, .ref qf9, .int v10, .ref qf11, .ref qf12, .ref qf13, .int v14, .int v15]))] sz) [(h0, .inr (1, [.ref qf0, .int v1, .ref qf2, .int w3, .int v4, .ref qf5, .ref qf6, .int v7, .int v8, .ref qf9, .int v10, .ref qf11, .ref qf12, .ref qf13, .int v14, .int v15]))]) (va_A [(h0, .inr (1, [.ref qf0, .int v1, .ref qf2, .int v3, .int v4, .ref qf5, .ref qf6, .int v7, .int v8, .ref qf9, .int v10, .ref qf11, .ref qf12, .ref qf13, .int v14, .int v15]))] sz)) 0 0 (va_A [(h0, .inr (1, [.ref qf0, .int v1, .ref qf2, .int v3, .int v4, .ref qf5, .ref qf6, .int v7, .int v8, .ref qf9, .int v10, .ref qf11, .ref qf12, .ref qf13, .int v14, .int v15]))] sz) := by
  refine Met.ofW (cc := cX1_pop) (maxL := 2) (ret := none) (by decide) rfl ?_
  intro p e s m args below meth c s₁ B hml hv
  obtain ⟨rfl, hsz, hP, hK, hD0⟩ := hv
  have hx := B.exec
  have hb := B.bytes
  have hr := B.returns
  have hts := atoms_spec (ws := (.code yX1_pop cX1_pop 2 none :: VS_h4)) B.pre
  replace hts := fun w (h : w ∈ VS_h4) => hts w (List.mem_cons_of_mem _ h)
  have hown : s.vm.findClass RX1 = some m.cls := findClass_of_methodNamed B.named
  have hlocks := B.notSynchronized
  subst hsz
  have hD := hD0.self (sz := s.heap.size)
  generalize hAe : va_A [(h0, .inr (1, [.ref qf0, .int v1, .ref qf2, .int v3, .int v4, .ref qf5, .ref qf6, .int v7, .int v8, .ref qf9, .int v10, .ref qf11, .ref qf12, .ref qf13, .int v14, .int v15]))] s.heap.size = A at hD  ⊢
  have hA : ∀ q : Nat, s.heap.size ≤ q → A q := fun q h => by rw [← hAe]; exact Or.inr h
  have hP : va_P (dC, dI) vwCl [(h0, .inr (1, [.ref qf0, .int v1, .ref qf2, .int v3, .int v4, .ref qf5, .ref qf6, .int v7, .int v8, .ref qf9, .int v10, .ref qf11, .ref qf12, .ref qf13, .int v14, .int v15]))] s.heap := hP
  have hl := lv_entry ([.ref h0, .int a1]) (n := 2) (Nat.le_of_ble_eq_true rfl)
  rw [lg_entry_eq]
  generalize (lg_sl ([.ref h0, .int a1]) ++ List.replicate (2 - (lg_sl ([.ref h0, .int a1])).length) Slot.unset).toArray = ls at hl ⊢
  have hl : lv_has ls 2 [(0, .ref h0), (1, .int a1)] := hl
  obtain ⟨H, hH⟩ : ∃ H : Heap, s.heap = H := ⟨_, rfl⟩
  rw [hH] at hP ⊢
  have hS : va_S A s.heap H [] := by rw [← hH]; exact va_S.rf
  obtain ⟨locs, hlo⟩ : ∃ locs : List Loc, locs = [] := ⟨_, rfl⟩
  rw [← hlo] at hS ⊢
  unfold sp_t1_pop at hsp
  refine lv_aload_n hx hb dX1_pop_0 rfl (lv_at hl 0 rfl) ?_
  refine lv_iconst (v := 0) hx hb dX1_pop_1 (by decide) ?_
  refine lv_aload_n hx hb dX1_pop_2 rfl (lv_at hl 0 rfl) ?_
  refine va_get (D := (dC, dI)) (ci := 1) (v := .int v3) (C := RX1) (T := TX1) (N := 16) hx hb hts uV_h4_X1 hown hK hP 0 rfl rfl 3 (by decide) (hts (.fieldLink RX1 43 "ClassMill$Code" "height" "I") mw_h4_73) (fun _ h9 => h9) rfl dX1_pop_3 ?_
  refine lv_iload_n hx hb dX1_pop_6 rfl (lv_at hl 1 rfl) ?_
  refine lv_isub hx hb dX1_pop_7 ?_
  refine va_mmax hx hb (by rw [hml]; exact hl.1.symm) hown (hts (.methodLink RX1 69 yJ9_max_7cf53) mw_h4_87) (hts (.static yJ9_max_7cf53) mw_h4_88) (hts (.initialized "java/lang/Math") mw_h4_89) (hts (.code yJ9_max_7cf53 cJ9_max_7cf53 2 (some .int)) mw_h4_90) (Nat.le_of_ble_eq_true rfl) (Nat.le_of_ble_eq_true rfl) (Nat.le_of_ble_eq_true rfl) (Nat.le_of_ble_eq_true rfl) dX1_pop_8 ?_
  refine va_put (D := (dC, dI)) (ci := 1) (v := .int (if 0 < (v3 - a1) then (v3 - a1) else 0)) (ty := .int) (C := RX1) (T := TX1) (N := 16) hx hb hts uV_h4_X1 tyX1 tyX1_ok nmX1 hown hK hP hD hS 0 rfl rfl 3 (by decide) (hts (.fieldLink RX1 43 "ClassMill$Code" "height" "I") mw_h4_73) (fun _ h9 => h9) rfl (by decide +kernel) rfl rfl (Nat.le_of_ble_eq_true rfl) dX1_pop_11 ?_
  clear hP hD hS
  intro H locs hP hD hS
  replace hP : va_P (dC, dI) vwCl [(h0, .inr (1, [.ref qf0, .int v1, .ref qf2, .int (if 0 < (v3 - a1) then (v3 - a1) else 0), .int v4, .ref qf5, .ref qf6, .int v7, .int v8, .ref qf9, .int v10, .ref qf11, .ref qf12, .ref qf13, .int v14, .int v15]))] H := hP
  replace hD : va_D A [(h0, .inr (1, [.ref qf0, .int v1, .ref qf2, .int (if 0 < (v3 - a1) then (v3 - a1) else 0), .int v4, .ref qf5, .ref qf6, .int v7, .int v8, .ref qf9, .int v10, .ref qf11, .ref qf12, .ref qf13, .int v14, .int v15]))] := hD
  have hr0 := Option.some.inj hsp
  clear hsp
  subst hr0
  have hP9 := hP.sub (ws' := [(h0, .inr (1, [.ref qf0, .int v1, .ref qf2, .int (if 0 < (v3 - a1) then (v3 - a1) else 0), .int v4, .ref qf5, .ref qf6, .int v7, .int v8, .ref qf9, .int v10, .ref qf11, .ref qf12, .ref qf13, .int v14, .int v15]))]) [0] rfl
  have hD9 := hD.sub (ws' := [(h0, .inr (1, [.ref qf0, .int v1, .ref qf2, .int (if 0 < (v3 - a1) then (v3 - a1) else 0), .int v4, .ref qf5, .ref qf6, .int v7, .int v8, .ref qf9, .int v10, .ref qf11, .ref qf12, .ref qf13, .int v14, .int v15]))]) [0] (by decide) rfl
  have hK9 := hK.sub (tys' := []) [] rfl
  exact W.vret hx hb hr (fun t ht hW => ⟨⟨(), rfl, trivial, by rw [ht]; exact hP9, va_K.moved hW.alike hK9, hD9⟩, hS.F ht⟩) hS.2.2 dX1_pop_14
def sp_t1_addLocal (nf : Nat) (a1 : Int32) (a2 : Int32) (v7 : Int32) (v8 : Int32) (f5 : Nat → Int32) (f6 : Nat → Int32) : Option (Int32 × (Nat → Int32) × (Nat → Int32) × Int32 × Int32) := (if 750 ≤ v7 then (some (v7, f5, f6, (v7 + 1), (if v8 < (v7 + 1) then (v7 + 1) else v8))) else (if v7 < 0 then none else if 750 ≤ (v7 : Int32).toNatClampNeg then none else (if v7 < 0 then none else if 750 ≤ (v7 : Int32).toNatClampNeg then none else (some (v7, (upd f5 (v7 : Int32).toNatClampNeg a1), (upd f6 (v7 : Int32).toNatClampNeg a2), (v7 + 1), (if v8 < (v7 + 1) then (v7 + 1) else v8))))))
set_option maxHeartbeats 4000000 in
set_option maxRecDepth 100000 in
/-- ClassMill$Code.addLocal -/
theorem t1_addLocal (l : Launch) (dC : Nat → ClassId) (dI : Nat → Nat → Nat) (sz : Nat) (h0 : Nat) (a1 : Int32) (a2 : Int32) (qf0 : Nat) (v1 : Int32) (qf2 : Nat) (v3 : Int32) (v4 : Int32) (qf5 : Nat) (qf6 : Nat) (v7 : Int32) (v8 : Int32) (qf9 : Nat) (v10 : Int32) (qf11 : Nat) (qf12 : Nat) (qf13 : Nat) (v14 : Int32) (v15 : Int32) (cf5 : ClassId) (f5 : (Nat → Int32)) (cf6 : ClassId) (f6 : (Nat → Int32)) (nf : Nat) (r0 : Int32) (o5 : (Nat → Int32)) (o6 : (Nat → Int32)) (w7 : Int32) (w8 : Int32) (hsp : sp_t1_addLocal nf a1 a2 v7 v8 f5 f6 = some (r0, o5, o6, w7, w8)) : Met l yX1_addLocal (.code yX1_addLocal cX1_addLocal 4 (some .int) :: VS_h4) ({ frames := 1, cells := 0, slots := 0, locals := 15 }) (va_Pc [.ref h0, .int a1, .int a2] (fun U => U.heap.size = sz ∧ va_P (dC, dI) vwCl [(h0, .inr (1, [.ref qf0, .int v1, .ref qf2, .int v3, .int v4, .ref qf5, .ref qf6, .int v7, .int v8, .ref qf9, .int v10, .ref qf11, .ref qf12, .ref qf13, .int v14, .int v15])), (qf5, .inl (cf5, 750, .inl f5)), (qf6, .inl (cf6, 750, .inl f6))] U.heap ∧ va_K (dC, dI) vwCl [(cf5, .int), (cf6, .int)] U ∧ va_D (fun _ => True) [(h0, .inr (1, [.ref qf0, .int v1, .ref qf2, .int v3, .int v4, .ref qf5, .ref qf6, .int v7, .int v8, .ref qf9, .int v10, .ref qf11, .ref qf12, .ref qf13, .int v14, .int v15])), (qf5, .inl (cf5, 750, .inl f5)), (qf6, .inl (cf6, 750, .inl f6))])) (va_Qi (fun (r : Int32) (u : Unit) => match u with | () => r0 = r) (fun (u : Unit) (t : State) => match u with | () => va_P (dC, dI) vwCl [(h0, .inr (1, [.ref qf0, .int v1, .ref qf2, .int v3, .int v4, .ref qf5, .ref qf6, .int w7, .int w8, .ref qf9, .int v10, .ref qf11, .ref qf12, .ref qf13, .int v14, .int v15])), (qf5, .inl (cf5, 750, .inl o5)), (qf6, .inl (cf6, 750, .inl o6))] t.heap ∧ va_K (dC, dI) vwCl [(cf5, .int), (cf6, .int)] t ∧ va_D (va_A [(h0, .inr (1, [.ref qf0, .int v1, .ref qf2, .int v3, .int v4, .ref qf5, .ref qf6, .int v7, .int v8, .ref qf9, .int v10, .ref qf11, .ref qf12, .ref qf13, .int v14, .int v15])), (qf5, .inl (cf5, 750, .inl f5)), (qf6, .inl (cf6, 750, .inl f6))] sz) [(h0, .inr (1, [.ref qf0, .int v1, .ref qf2, .int v3, .int v4, .ref qf5, .ref qf6, .int w7, .int w8, .ref qf9, .int v10, .ref qf11, .ref qf12, .ref qf13, .int v14, .int v15])), (qf5, .inl (cf5, 750, .inl o5)), (qf6, .inl (cf6, 750, .inl o6))]) (va_A [(h0, .inr (1, [.ref qf0, .int v1, .ref qf2, .int v3, .int v4, .ref qf5, .ref qf6, .int v7, .int v8, .ref qf9, .int v10, .ref qf11, .ref qf12, .ref qf13, .int v14, .int v15])), (qf5, .inl (cf5, 750, .inl f5)), (qf6, .inl (cf6, 750, .inl f6))] sz)) 0 0 (va_A [(h0, .inr (1, [.ref qf0, .int v1, .ref qf2, .int v3, .int v4, .ref qf5, .ref qf6, .int v7, .int v8, .ref qf9, .int v10, .ref qf11, .ref qf12, .ref qf13, .int v14, .int v15])), (qf5, .inl (cf5, 750, .inl f5)), (qf6, .inl (cf6, 750, .inl f6))] sz) := by
  refine Met.ofW (cc := cX1_addLocal) (maxL := 4) (ret := (some .int)) (by decide) rfl ?_
  intro p e s m args below meth c s₁ B hml hv
  obtain ⟨rfl, hsz, hP, hK, hD0⟩ := hv
  have hx := B.exec
  have hb := B.bytes
  have hr := B.returns
  have hts := atoms_spec (ws := (.code yX1_addLocal cX1_addLocal 4 (some .int) :: VS_h4)) B.pre
  replace hts := fun w (h : w ∈ VS_h4) => hts w (List.mem_cons_of_mem _ h)
  have hown : s.vm.findClass RX1 = some m.cls := findClass_of_methodNamed B.named
  have hlocks := B.notSynchronized
  subst hsz
  have hD := hD0.self (sz := s.heap.size)
  generalize hAe : va_A [(h0, .inr (1, [.ref qf0, .int v1, .ref qf2, .int v3, .int v4, .ref qf5, .ref qf6, .int v7, .int v8, .ref qf9, .int v10, .ref qf11, .ref qf12, .ref qf13, .int v14, .int v15])), (qf5, .inl (cf5, 750, .inl f5)), (qf6, .inl (cf6, 750, .inl f6))] s.heap.size = A at hD  ⊢
  have hA : ∀ q : Nat, s.heap.size ≤ q → A q := fun q h => by rw [← hAe]; exact Or.inr h
  have hP : va_P (dC, dI) vwCl [(h0, .inr (1, [.ref qf0, .int v1, .ref qf2, .int v3, .int v4, .ref qf5, .ref qf6, .int v7, .int v8, .ref qf9, .int v10, .ref qf11, .ref qf12, .ref qf13, .int v14, .int v15])), (qf5, .inl (cf5, 750, .inl f5)), (qf6, .inl (cf6, 750, .inl f6))] s.heap := hP
  have hl := lv_entry ([.ref h0, .int a1, .int a2]) (n := 4) (Nat.le_of_ble_eq_true rfl)
  rw [lg_entry_eq]
  generalize (lg_sl ([.ref h0, .int a1, .int a2]) ++ List.replicate (4 - (lg_sl ([.ref h0, .int a1, .int a2])).length) Slot.unset).toArray = ls at hl ⊢
  have hl : lv_has ls 4 [(0, .ref h0), (1, .int a1), (2, .int a2)] := hl
  obtain ⟨H, hH⟩ : ∃ H : Heap, s.heap = H := ⟨_, rfl⟩
  rw [hH] at hP ⊢
  have hS : va_S A s.heap H [] := by rw [← hH]; exact va_S.rf
  obtain ⟨locs, hlo⟩ : ∃ locs : List Loc, locs = [] := ⟨_, rfl⟩
  rw [← hlo] at hS ⊢
  unfold sp_t1_addLocal at hsp
  refine lv_aload_n hx hb dX1_addLocal_0 rfl (lv_at hl 0 rfl) ?_
  refine va_get (D := (dC, dI)) (ci := 1) (v := .int v7) (C := RX1) (T := TX1) (N := 16) hx hb hts uV_h4_X1 hown hK hP 0 rfl rfl 7 (by decide) (hts (.fieldLink RX1 49 "ClassMill$Code" "sight" "I") mw_h4_75) (fun _ h9 => h9) rfl dX1_addLocal_1 ?_
  refine lv_istore_n (lv' := [(3, .int v7), (0, .ref h0), (1, .int a1), (2, .int a2)]) hx hb dX1_addLocal_4 rfl hl (by decide) rfl (fun ls hl => ?_)
  refine lv_iload_n hx hb dX1_addLocal_5 rfl (lv_at hl 0 rfl) ?_
  refine lv_aload_n hx hb dX1_addLocal_6 rfl (lv_at hl 1 rfl) ?_
  refine va_get (D := (dC, dI)) (ci := 1) (v := .ref qf5) (C := RX1) (T := TX1) (N := 16) hx hb hts uV_h4_X1 hown hK hP 0 rfl rfl 5 (by decide) (hts (.fieldLink RX1 21 "ClassMill$Code" "localName" "[I") mw_h4_91) (fun _ h9 => h9) rfl dX1_addLocal_7 ?_
  refine va_alen (v := 750) hx hb hK hP 1 0 rfl rfl rfl dX1_addLocal_10 ?_
  refine lv_icmp_ge (tgt := 28) hx hb dX1_addLocal_11 (by decide) (fun c_1 => ?_) (fun c_1 => ?_)
  · rw [if_pos c_1] at hsp
    refine lv_aload_n hx hb dX1_addLocal_28 rfl (lv_at hl 1 rfl) ?_
    refine lv_dup hx hb dX1_addLocal_29 rfl ?_
    refine va_get (D := (dC, dI)) (ci := 1) (v := .int v7) (C := RX1) (T := TX1) (N := 16) hx hb hts uV_h4_X1 hown hK hP 0 rfl rfl 7 (by decide) (hts (.fieldLink RX1 49 "ClassMill$Code" "sight" "I") mw_h4_75) (fun _ h9 => h9) rfl dX1_addLocal_30 ?_
    refine lv_iconst (v := 1) hx hb dX1_addLocal_33 (by decide) ?_
    refine lv_iadd hx hb dX1_addLocal_34 ?_
    refine va_put (D := (dC, dI)) (ci := 1) (v := .int (v7 + 1)) (ty := .int) (C := RX1) (T := TX1) (N := 16) hx hb hts uV_h4_X1 tyX1 tyX1_ok nmX1 hown hK hP hD hS 0 rfl rfl 7 (by decide) (hts (.fieldLink RX1 49 "ClassMill$Code" "sight" "I") mw_h4_75) (fun _ h9 => h9) rfl (by decide +kernel) rfl rfl (Nat.le_of_ble_eq_true rfl) dX1_addLocal_35 ?_
    clear hP hD hS
    intro H locs hP hD hS
    replace hP : va_P (dC, dI) vwCl [(h0, .inr (1, [.ref qf0, .int v1, .ref qf2, .int v3, .int v4, .ref qf5, .ref qf6, .int (v7 + 1), .int v8, .ref qf9, .int v10, .ref qf11, .ref qf12, .ref qf13, .int v14, .int v15])), (qf5, .inl (cf5, 750, .inl f5)), (qf6, .inl (cf6, 750, .inl f6))] H := hP
    replace hD : va_D A [(h0, .inr (1, [.ref qf0, .int v1, .ref qf2, .int v3, .int v4, .ref qf5, .ref qf6, .int (v7 + 1), .int v8, .ref qf9, .int v10, .ref qf11, .ref qf12, .ref qf13, .int v14, .int v15])), (qf5, .inl (cf5, 750, .inl f5)), (qf6, .inl (cf6, 750, .inl f6))] := hD
    refine lv_aload_n hx hb dX1_addLocal_38 rfl (lv_at hl 1 rfl) ?_
    refine lv_aload_n hx hb dX1_addLocal_39 rfl (lv_at hl 1 rfl) ?_
    refine va_get (D := (dC, dI)) (ci := 1) (v := .int v8) (C := RX1) (T := TX1) (N := 16) hx hb hts uV_h4_X1 hown hK hP 0 rfl rfl 8 (by decide) (hts (.fieldLink RX1 52 "ClassMill$Code" "mostLocals" "I") mw_h4_76) (fun _ h9 => h9) rfl dX1_addLocal_40 ?_
    refine lv_aload_n hx hb dX1_addLocal_43 rfl (lv_at hl 1 rfl) ?_
    refine va_get (D := (dC, dI)) (ci := 1) (v := .int (v7 + 1)) (C := RX1) (T := TX1) (N := 16) hx hb hts uV_h4_X1 hown hK hP 0 rfl rfl 7 (by decide) (hts (.fieldLink RX1 49 "ClassMill$Code" "sight" "I") mw_h4_75) (fun _ h9 => h9) rfl dX1_addLocal_44 ?_
    refine va_mmax hx hb (by rw [hml]; exact hl.1.symm) hown (hts (.methodLink RX1 69 yJ9_max_7cf53) mw_h4_87) (hts (.static yJ9_max_7cf53) mw_h4_88) (hts (.initialized "java/lang/Math") mw_h4_89) (hts (.code yJ9_max_7cf53 cJ9_max_7cf53 2 (some .int)) mw_h4_90) (Nat.le_of_ble_eq_true rfl) (Nat.le_of_ble_eq_true rfl) (Nat.le_of_ble_eq_true rfl) (Nat.le_of_ble_eq_true rfl) dX1_addLocal_47 ?_
    refine va_put (D := (dC, dI)) (ci := 1) (v := .int (if v8 < (v7 + 1) then (v7 + 1) else v8)) (ty := .int) (C := RX1) (T := TX1) (N := 16) hx hb hts uV_h4_X1 tyX1 tyX1_ok nmX1 hown hK hP hD hS 0 rfl rfl 8 (by decide) (hts (.fieldLink RX1 52 "ClassMill$Code" "mostLocals" "I") mw_h4_76) (fun _ h9 => h9) rfl (by decide +kernel) rfl rfl (Nat.le_of_ble_eq_true rfl) dX1_addLocal_50 ?_
    clear hP hD hS
    intro H locs hP hD hS
    replace hP : va_P (dC, dI) vwCl [(h0, .inr (1, [.ref qf0, .int v1, .ref qf2, .int v3, .int v4, .ref qf5, .ref qf6, .int (v7 + 1), .int (if v8 < (v7 + 1) then (v7 + 1) else v8), .ref qf9, .int v10, .ref qf11, .ref qf12, .ref qf13, .int v14, .int v15])), (qf5, .inl (cf5, 750, .inl f5)), (qf6, .inl (cf6, 750, .inl f6))] H := hP
    replace hD : va_D A [(h0, .inr (1, [.ref qf0, .int v1, .ref qf2, .int v3, .int v4, .ref qf5, .ref qf6, .int (v7 + 1), .int (if v8 < (v7 + 1) then (v7 + 1) else v8), .ref qf9, .int v10, .ref qf11, .ref qf12, .ref qf13, .int v14, .int v15])), (qf5, .inl (cf5, 750, .inl f5)), (qf6, .inl (cf6, 750, .inl f6))] := hD
    refine lv_iload_n hx hb dX1_addLocal_53 rfl (lv_at hl 0 rfl) ?_
    have hr0 := Option.some.inj hsp
    clear hsp
    obtain ⟨hq0, hr1⟩ := Prod.mk.inj hr0
    clear hr0
    obtain ⟨hq1, hr2⟩ := Prod.mk.inj hr1
    clear hr1
    obtain ⟨hq2, hr3⟩ := Prod.mk.inj hr2
    clear hr2
    obtain ⟨hq3, hr4⟩ := Prod.mk.inj hr3
    clear hr3
    subst hq0
    subst hq1
    subst hq2
    subst hq3
    subst hr4
    have hP9 := hP.sub (ws' := [(h0, .inr (1, [.ref qf0, .int v1, .ref qf2, .int v3, .int v4, .ref qf5, .ref qf6, .int (v7 + 1), .int (if v8 < (v7 + 1) then (v7 + 1) else v8), .ref qf9, .int v10, .ref qf11, .ref qf12, .ref qf13, .int v14, .int v15])), (qf5, .inl (cf5, 750, .inl f5)), (qf6, .inl (cf6, 750, .inl f6))]) [0, 1, 2] rfl
    have hD9 := hD.sub (ws' := [(h0, .inr (1, [.ref qf0, .int v1, .ref qf2, .int v3, .int v4, .ref qf5, .ref qf6, .int (v7 + 1), .int (if v8 < (v7 + 1) then (v7 + 1) else v8), .ref qf9, .int v10, .ref qf11, .ref qf12, .ref qf13, .int v14, .int v15])), (qf5, .inl (cf5, 750, .inl f5)), (qf6, .inl (cf6, 750, .inl f6))]) [0, 1, 2] (by decide) rfl
    have hK9 := hK.sub (tys' := [(cf5, .int), (cf6, .int)]) [0, 1] rfl
    exact W.iret hx hb hr (fun t ht hW => ⟨⟨(v7), (), rfl, rfl, by rw [ht]; exact hP9, va_K.moved hW.alike hK9, hD9⟩, hS.F ht⟩) hS.2.2 dX1_addLocal_54
  · rw [if_neg c_1] at hsp
    refine lv_aload_n hx hb dX1_addLocal_14 rfl (lv_at hl 1 rfl) ?_
    refine va_get (D := (dC, dI)) (ci := 1) (v := .ref qf5) (C := RX1) (T := TX1) (N := 16) hx hb hts uV_h4_X1 hown hK hP 0 rfl rfl 5 (by decide) (hts (.fieldLink RX1 21 "ClassMill$Code" "localName" "[I") mw_h4_91) (fun _ h9 => h9) rfl dX1_addLocal_15 ?_
    refine lv_iload_n hx hb dX1_addLocal_18 rfl (lv_at hl 0 rfl) ?_
    refine lv_iload_n hx hb dX1_addLocal_19 rfl (lv_at hl 2 rfl) ?_
    obtain ⟨hi_2, hsp⟩ := ox_in hsp
    refine va_iast hx hb hK hP hD hS 1 0 rfl rfl (i := v7) (x := a1) hi_2 dX1_addLocal_20 ?_
    clear hP hD hS
    intro H locs hP hD hS
    replace hP : va_P (dC, dI) vwCl [(h0, .inr (1, [.ref qf0, .int v1, .ref qf2, .int v3, .int v4, .ref qf5, .ref qf6, .int v7, .int v8, .ref qf9, .int v10, .ref qf11, .ref qf12, .ref qf13, .int v14, .int v15])), (qf5, .inl (cf5, 750, .inl (upd f5 (v7 : Int32).toNatClampNeg a1))), (qf6, .inl (cf6, 750, .inl f6))] H := hP
    replace hD : va_D A [(h0, .inr (1, [.ref qf0, .int v1, .ref qf2, .int v3, .int v4, .ref qf5, .ref qf6, .int v7, .int v8, .ref qf9, .int v10, .ref qf11, .ref qf12, .ref qf13, .int v14, .int v15])), (qf5, .inl (cf5, 750, .inl (upd f5 (v7 : Int32).toNatClampNeg a1))), (qf6, .inl (cf6, 750, .inl f6))] := hD
    refine lv_aload_n hx hb dX1_addLocal_21 rfl (lv_at hl 1 rfl) ?_
    refine va_get (D := (dC, dI)) (ci := 1) (v := .ref qf6) (C := RX1) (T := TX1) (N := 16) hx hb hts uV_h4_X1 hown hK hP 0 rfl rfl 6 (by decide) (hts (.fieldLink RX1 24 "ClassMill$Code" "localType" "[I") mw_h4_92) (fun _ h9 => h9) rfl dX1_addLocal_22 ?_
    refine lv_iload_n hx hb dX1_addLocal_25 rfl (lv_at hl 0 rfl) ?_
    refine lv_iload_n hx hb dX1_addLocal_26 rfl (lv_at hl 3 rfl) ?_
    obtain ⟨hi_3, hsp⟩ := ox_in hsp
    refine va_iast hx hb hK hP hD hS 2 1 rfl rfl (i := v7) (x := a2) hi_3 dX1_addLocal_27 ?_
    clear hP hD hS
    intro H locs hP hD hS
    replace hP : va_P (dC, dI) vwCl [(h0, .inr (1, [.ref qf0, .int v1, .ref qf2, .int v3, .int v4, .ref qf5, .ref qf6, .int v7, .int v8, .ref qf9, .int v10, .ref qf11, .ref qf12, .ref qf13, .int v14, .int v15])), (qf5, .inl (cf5, 750, .inl (upd f5 (v7 : Int32).toNatClampNeg a1))), (qf6, .inl (cf6, 750, .inl (upd f6 (v7 : Int32).toNatClampNeg a2)))] H := hP
    replace hD : va_D A [(h0, .inr (1, [.ref qf0, .int v1, .ref qf2, .int v3, .int v4, .ref qf5, .ref qf6, .int v7, .int v8, .ref qf9, .int v10, .ref qf11, .ref qf12, .ref qf13, .int v14, .int v15])), (qf5, .inl (cf5, 750, .inl (upd f5 (v7 : Int32).toNatClampNeg a1))), (qf6, .inl (cf6, 750, .inl (upd f6 (v7 : Int32).toNatClampNeg a2)))] := hD
    refine lv_aload_n hx hb dX1_addLocal_28 rfl (lv_at hl 1 rfl) ?_
    refine lv_dup hx hb dX1_addLocal_29 rfl ?_
    refine va_get (D := (dC, dI)) (ci := 1) (v := .int v7) (C := RX1) (T := TX1) (N := 16) hx hb hts uV_h4_X1 hown hK hP 0 rfl rfl 7 (by decide) (hts (.fieldLink RX1 49 "ClassMill$Code" "sight" "I") mw_h4_75) (fun _ h9 => h9) rfl dX1_addLocal_30 ?_
    refine lv_iconst (v := 1) hx hb dX1_addLocal_33 (by decide) ?_
    refine lv_iadd hx hb dX1_addLocal_34 ?_
    refine va_put (D := (dC, dI)) (ci := 1) (v := .int (v7 + 1)) (ty := .int) (C := RX1) (T := TX1) (N := 16) hx hb hts uV_h4_X1 tyX1 tyX1_ok nmX1 hown hK hP hD hS 0 rfl rfl 7 (by decide) (hts (.fieldLink RX1 49 "ClassMill$Code" "sight" "I") mw_h4_75) (fun _ h9 => h9) rfl (by decide +kernel) rfl rfl (Nat.le_of_ble_eq_true rfl) dX1_addLocal_35 ?_
    clear hP hD hS
    intro H locs hP hD hS
    replace hP : va_P (dC, dI) vwCl [(h0, .inr (1, [.ref qf0, .int v1, .ref qf2, .int v3, .int v4, .ref qf5, .ref qf6, .int (v7 + 1), .int v8, .ref qf9, .int v10, .ref qf11, .ref qf12, .ref qf13, .int v14, .int v15])), (qf5, .inl (cf5, 750, .inl (upd f5 (v7 : Int32).toNatClampNeg a1))), (qf6, .inl (cf6, 750, .inl (upd f6 (v7 : Int32).toNatClampNeg a2)))] H := hP
    replace hD : va_D A [(h0, .inr (1, [.ref qf0, .int v1, .ref qf2, .int v3, .int v4, .ref qf5, .ref qf6, .int (v7 + 1), .int v8, .ref qf9, .int v10, .ref qf11, .ref qf12, .ref qf13, .int v14, .int v15])), (qf5, .inl (cf5, 750, .inl (upd f5 (v7 : Int32).toNatClampNeg a1))), (qf6, .inl (cf6, 750, .inl (upd f6 (v7 : Int32).toNatClampNeg a2)))] := hD
    refine lv_aload_n hx hb dX1_addLocal_38 rfl (lv_at hl 1 rfl) ?_
    refine lv_aload_n hx hb dX1_addLocal_39 rfl (lv_at hl 1 rfl) ?_
    refine va_get (D := (dC, dI)) (ci := 1) (v := .int v8) (C := RX1) (T := TX1) (N := 16) hx hb hts uV_h4_X1 hown hK hP 0 rfl rfl 8 (by decide) (hts (.fieldLink RX1 52 "ClassMill$Code" "mostLocals" "I") mw_h4_76) (fun _ h9 => h9) rfl dX1_addLocal_40 ?_
    refine lv_aload_n hx hb dX1_addLocal_43 rfl (lv_at hl 1 rfl) ?_
    refine va_get (D := (dC, dI)) (ci := 1) (v := .int (v7 + 1)) (C := RX1) (T := TX1) (N := 16) hx hb hts uV_h4_X1 hown hK hP 0 rfl rfl 7 (by decide) (hts (.fieldLink RX1 49 "ClassMill$Code" "sight" "I") mw_h4_75) (fun _ h9 => h9) rfl dX1_addLocal_44 ?_
    refine va_mmax hx hb (by rw [hml]; exact hl.1.symm) hown (hts (.methodLink RX1 69 yJ9_max_7cf53) mw_h4_87) (hts (.static yJ9_max_7cf53) mw_h4_88) (hts (.initialized "java/lang/Math") mw_h4_89) (hts (.code yJ9_max_7cf53 cJ9_max_7cf53 2 (some .int)) mw_h4_90) (Nat.le_of_ble_eq_true rfl) (Nat.le_of_ble_eq_true rfl) (Nat.le_of_ble_eq_true rfl) (Nat.le_of_ble_eq_true rfl) dX1_addLocal_47 ?_
    refine va_put (D := (dC, dI)) (ci := 1) (v := .int (if v8 < (v7 + 1) then (v7 + 1) else v8)) (ty := .int) (C := RX1) (T := TX1) (N := 16) hx hb hts uV_h4_X1 tyX1 tyX1_ok nmX1 hown hK hP hD hS 0 rfl rfl 8 (by decide) (hts (.fieldLink RX1 52 "ClassMill$Code" "mostLocals" "I") mw_h4_76) (fun _ h9 => h9) rfl (by decide +kernel) rfl rfl (Nat.le_of_ble_eq_true rfl) dX1_addLocal_50 ?_
    clear hP hD hS
    intro H locs hP hD hS
    replace hP : va_P (dC, dI) vwCl [(h0, .inr (1, [.ref qf0, .int v1, .ref qf2, .int v3, .int v4, .ref qf5, .ref qf6, .int (v7 + 1), .int (if v8 < (v7 + 1) then (v7 + 1) else v8), .ref qf9, .int v10, .ref qf11, .ref qf12, .ref qf13, .int v14, .int v15])), (qf5, .inl (cf5, 750, .inl (upd f5 (v7 : Int32).toNatClampNeg a1))), (qf6, .inl (cf6, 750, .inl (upd f6 (v7 : Int32).toNatClampNeg a2)))] H := hP
    replace hD : va_D A [(h0, .inr (1, [.ref qf0, .int v1, .ref qf2, .int v3, .int v4, .ref qf5, .ref qf6, .int (v7 + 1), .int (if v8 < (v7 + 1) then (v7 + 1) else v8), .ref qf9, .int v10, .ref qf11, .ref qf12, .ref qf13, .int v14, .int v15])), (qf5, .inl (cf5, 750, .inl (upd f5 (v7 : Int32).toNatClampNeg a1))), (qf6, .inl (cf6, 750, .inl (upd f6 (v7 : Int32).toNatClampNeg a2)))] := hD
    refine lv_iload_n hx hb dX1_addLocal_53 rfl (lv_at hl 0 rfl) ?_
    have hr0 := Option.some.inj hsp
    clear hsp
    obtain ⟨hq0, hr1⟩ := Prod.mk.inj hr0
    clear hr0
    obtain ⟨hq1, hr2⟩ := Prod.mk.inj hr1
    clear hr1
    obtain ⟨hq2, hr3⟩ := Prod.mk.inj hr2
    clear hr2
    obtain ⟨hq3, hr4⟩ := Prod.mk.inj hr3
    clear hr3
    subst hq0
    subst hq1
    subst hq2
    subst hq3
    subst hr4
    have hP9 := hP.sub (ws' := [(h0, .inr (1, [.ref qf0, .int v1, .ref qf2, .int v3, .int v4, .ref qf5, .ref qf6, .int (v7 + 1), .int (if v8 < (v7 + 1) then (v7 + 1) else v8), .ref qf9, .int v10, .ref qf11, .ref qf12, .ref qf13, .int v14, .int v15])), (qf5, .inl (cf5, 750, .inl (upd f5 (v7 : Int32).toNatClampNeg a1))), (qf6, .inl (cf6, 750, .inl (upd f6 (v7 : Int32).toNatClampNeg a2)))]) [0, 1, 2] rfl
    have hD9 := hD.sub (ws' := [(h0, .inr (1, [.ref qf0, .int v1, .ref qf2, .int v3, .int v4, .ref qf5, .ref qf6, .int (v7 + 1), .int (if v8 < (v7 + 1) then (v7 + 1) else v8), .ref qf9, .int v10, .ref qf11, .ref qf12, .ref qf13, .int v14, .int v15])), (qf5, .inl (cf5, 750, .inl (upd f5 (v7 : Int32).toNatClampNeg a1))), (qf6, .inl (cf6, 750, .inl (upd f6 (v7 : Int32).toNatClampNeg a2)))]) [0, 1, 2] (by decide) rfl
    have hK9 := hK.sub (tys' := [(cf5, .int), (cf6, .int)]) [0, 1] rfl
    exact W.iret hx hb hr (fun t ht hW => ⟨⟨(v7), (), rfl, rfl, by rw [ht]; exact hP9, va_K.moved hW.alike hK9, hD9⟩, hS.F ht⟩) hS.2.2 dX1_addLocal_54
def lp_t1_localOf_15 (nf n : Nat) (a1 : Int32) (v7 : Int32) (f5 : Nat → Int32)  (l1_15 : Int32) (l2_15 : Int32) : Option (Int32) := match n with
  | 0 => none
  | n + 1 => (if l2_15 < 0 then (some (-1)) else (if l2_15 < 0 then none else if 750 ≤ (l2_15 : Int32).toNatClampNeg then none else (if (f5 (l2_15 : Int32).toNatClampNeg) = l1_15 then (some l2_15) else (lp_t1_localOf_15 nf n a1 v7 f5 l1_15 (l2_15 + (-1))))))
def sp_t1_localOf (nf : Nat) (a1 : Int32) (v7 : Int32) (f5 : Nat → Int32) : Option (Int32) := (lp_t1_localOf_15 nf nf a1 v7 f5 a1 ((if 750 < v7 then 750 else v7) - 1))
set_option maxHeartbeats 4000000 in
set_option maxRecDepth 100000 in
/-- ClassMill$Code.localOf -/
theorem t1_localOf (l : Launch) (dC : Nat → ClassId) (dI : Nat → Nat → Nat) (sz : Nat) (h0 : Nat) (a1 : Int32) (qf0 : Nat) (v1 : Int32) (qf2 : Nat) (v3 : Int32) (v4 : Int32) (qf5 : Nat) (qf6 : Nat) (v7 : Int32) (v8 : Int32) (qf9 : Nat) (v10 : Int32) (qf11 : Nat) (qf12 : Nat) (qf13 : Nat) (v14 : Int32) (v15 : Int32) (cf5 : ClassId) (f5 : (Nat → Int32)) (nf : Nat) (r0 : Int32) (hsp : sp_t1_localOf nf a1 v7 f5 = some r0) : Met l yX1_localOf (.code yX1_localOf cX1_localOf 3 (some .int) :: VS_h4) ({ frames := 1, cells := 0, slots := 0, locals := 13 }) (va_Pc [.ref h0, .int a1] (fun U => U.heap.size = sz ∧ va_P (dC, dI) vwCl [(h0, .inr (1, [.ref qf0, .int v1, .ref qf2, .int v3, .int v4, .ref qf5, .ref qf6, .int v7, .int v8, .ref qf9, .int v10, .ref qf11, .ref qf12, .ref qf13, .int v14, .int v15])), (qf5, .inl (cf5, 750, .inl f5))] U.heap ∧ va_K (dC, dI) vwCl [(cf5, .int)] U ∧ va_D (fun _ => True) [(h0, .inr (1, [.ref qf0, .int v1, .ref qf2, .int v3, .int v4, .ref qf5, .ref qf6, .int v7, .int v8, .ref qf9, .int v10, .ref qf11, .ref qf12, .ref qf13, .int v14, .int v15])), (qf5, .inl (cf5, 750, .inl f5))])) (va_Qi (fun (r : Int32) (u : Unit) => match u with | () => r0 = r) (fun (u : Unit) (t : State) => match u with | () => va_P (dC, dI) vwCl [(h0, .inr (1, [.ref qf0, .int v1, .ref qf2, .int v3, .int v4, .ref qf5, .ref qf6, .int v7, .int v8, .ref qf9, .int v10, .ref qf11, .ref qf12, .ref qf13, .int v14, .int v15])), (qf5, .inl (cf5, 750, .inl f5))] t.heap ∧ va_K (dC, dI) vwCl [(cf5, .int)] t ∧ va_D (va_A [(h0, .inr (1, [.ref qf0, .int v1, .ref qf2, .int v3, .int v4, .ref qf5, .ref qf6, .int v7, .int v8, .ref qf9, .int v10, .ref qf11, .ref qf12, .ref qf13, .int v14, .int v15])), (qf5, .inl (cf5, 750, .inl f5))] sz) [(h0, .inr (1, [.ref qf0, .int v1, .ref qf2, .int v3, .int v4, .ref qf5, .ref qf6, .int v7, .int v8, .ref qf9, .int v10, .ref qf11, .ref qf12, .ref qf13, .int v14, .int v15])), (qf5, .inl (cf5, 750, .inl f5))]) (va_A [(h0, .inr (1, [.ref qf0, .int v1, .ref qf2, .int v3, .int v4, .ref qf5, .ref qf6, .int v7, .int v8, .ref qf9, .int v10, .ref qf11, .ref qf12, .ref qf13, .int v14, .int v15])), (qf5, .inl (cf5, 750, .inl f5))] sz)) 0 0 (va_A [(h0, .inr (1, [.ref qf0, .int v1, .ref qf2, .int v3, .int v4, .ref qf5, .ref qf6, .int v7, .int v8, .ref qf9, .int v10, .ref qf11, .ref qf12, .ref qf13, .int v14, .int v15])), (qf5, .inl (cf5, 750, .inl f5))] sz) := by
  refine Met.ofW (cc := cX1_localOf) (maxL := 3) (ret := (some .int)) (by decide) rfl ?_
  intro p e s m args below meth c s₁ B hml hv
  obtain ⟨rfl, hsz, hP, hK, hD0⟩ := hv
  have hx := B.exec
  have hb := B.bytes
  have hr := B.returns
  have hts := atoms_spec (ws := (.code yX1_localOf cX1_localOf 3 (some .int) :: VS_h4)) B.pre
  replace hts := fun w (h : w ∈ VS_h4) => hts w (List.mem_cons_of_mem _ h)
  have hown : s.vm.findClass RX1 = some m.cls := findClass_of_methodNamed B.named
  have hlocks := B.notSynchronized
  subst hsz
  have hD := hD0.self (sz := s.heap.size)
  generalize hAe : va_A [(h0, .inr (1, [.ref qf0, .int v1, .ref qf2, .int v3, .int v4, .ref qf5, .ref qf6, .int v7, .int v8, .ref qf9, .int v10, .ref qf11, .ref qf12, .ref qf13, .int v14, .int v15])), (qf5, .inl (cf5, 750, .inl f5))] s.heap.size = A at hD  ⊢
  have hA : ∀ q : Nat, s.heap.size ≤ q → A q := fun q h => by rw [← hAe]; exact Or.inr h
  have hP : va_P (dC, dI) vwCl [(h0, .inr (1, [.ref qf0, .int v1, .ref qf2, .int v3, .int v4, .ref qf5, .ref qf6, .int v7, .int v8, .ref qf9, .int v10, .ref qf11, .ref qf12, .ref qf13, .int v14, .int v15])), (qf5, .inl (cf5, 750, .inl f5))] s.heap := hP
  have hl := lv_entry ([.ref h0, .int a1]) (n := 3) (Nat.le_of_ble_eq_true rfl)
  rw [lg_entry_eq]
  generalize (lg_sl ([.ref h0, .int a1]) ++ List.replicate (3 - (lg_sl ([.ref h0, .int a1])).length) Slot.unset).toArray = ls at hl ⊢
  have hl : lv_has ls 3 [(0, .ref h0), (1, .int a1)] := hl
  obtain ⟨H, hH⟩ : ∃ H : Heap, s.heap = H := ⟨_, rfl⟩
  rw [hH] at hP ⊢
  have hS : va_S A s.heap H [] := by rw [← hH]; exact va_S.rf
  obtain ⟨locs, hlo⟩ : ∃ locs : List Loc, locs = [] := ⟨_, rfl⟩
  rw [← hlo] at hS ⊢
  unfold sp_t1_localOf at hsp
  refine lv_aload_n hx hb dX1_localOf_0 rfl (lv_at hl 0 rfl) ?_
  refine va_get (D := (dC, dI)) (ci := 1) (v := .int v7) (C := RX1) (T := TX1) (N := 16) hx hb hts uV_h4_X1 hown hK hP 0 rfl rfl 7 (by decide) (hts (.fieldLink RX1 49 "ClassMill$Code" "sight" "I") mw_h4_75) (fun _ h9 => h9) rfl dX1_localOf_1 ?_
  refine lv_aload_n hx hb dX1_localOf_4 rfl (lv_at hl 0 rfl) ?_
  refine va_get (D := (dC, dI)) (ci := 1) (v := .ref qf5) (C := RX1) (T := TX1) (N := 16) hx hb hts uV_h4_X1 hown hK hP 0 rfl rfl 5 (by decide) (hts (.fieldLink RX1 21 "ClassMill$Code" "localName" "[I") mw_h4_91) (fun _ h9 => h9) rfl dX1_localOf_5 ?_
  refine va_alen (v := 750) hx hb hK hP 1 0 rfl rfl rfl dX1_localOf_8 ?_
  refine va_mmin hx hb (by rw [hml]; exact hl.1.symm) hown (hts (.methodLink RX1 75 yJ9_min_7cf53) mw_h4_93) (hts (.static yJ9_min_7cf53) mw_h4_94) (hts (.initialized "java/lang/Math") mw_h4_89) (hts (.code yJ9_min_7cf53 cJ9_min_7cf53 2 (some .int)) mw_h4_95) (Nat.le_of_ble_eq_true rfl) (Nat.le_of_ble_eq_true rfl) (Nat.le_of_ble_eq_true rfl) (Nat.le_of_ble_eq_true rfl) dX1_localOf_9 ?_
  refine lv_iconst (v := 1) hx hb dX1_localOf_12 (by decide) ?_
  refine lv_isub hx hb dX1_localOf_13 ?_
  refine lv_istore_n (lv' := [(2, .int ((if 750 < v7 then 750 else v7) - 1)), (0, .ref h0), (1, .int a1)]) hx hb dX1_localOf_14 rfl hl (by decide) rfl (fun ls hl => ?_)
  replace hP := hP.sub (ws' := [(h0, .inr (1, [.ref qf0, .int v1, .ref qf2, .int v3, .int v4, .ref qf5, .ref qf6, .int v7, .int v8, .ref qf9, .int v10, .ref qf11, .ref qf12, .ref qf13, .int v14, .int v15])), (qf5, .inl (cf5, 750, .inl f5))]) [0, 1] rfl
  replace hD := hD.sub (ws' := [(h0, .inr (1, [.ref qf0, .int v1, .ref qf2, .int v3, .int v4, .ref qf5, .ref qf6, .int v7, .int v8, .ref qf9, .int v10, .ref qf11, .ref qf12, .ref qf13, .int v14, .int v15])), (qf5, .inl (cf5, 750, .inl f5))]) [0, 1] (by decide) rfl
  replace hK := hK.sub (tys' := [(cf5, .int)]) [0] rfl
  obtain ⟨n_15, hn_15⟩ : ∃ z : Nat, z = nf := ⟨_, rfl⟩
  obtain ⟨l1_15, el1_15⟩ : ∃ z : Int32, z = a1 := ⟨_, rfl⟩
  obtain ⟨l2_15, el2_15⟩ : ∃ z : Int32, z = ((if 750 < v7 then 750 else v7) - 1) := ⟨_, rfl⟩
  replace hsp : lp_t1_localOf_15 nf n_15 a1 v7 f5 l1_15 l2_15 = some r0 := by rw [hn_15, el1_15, el2_15]; exact hsp
  replace hl : lv_has ls 3 [(2, .int l2_15), (0, .ref h0), (1, .int l1_15)] := by rw [el1_15, el2_15]; exact hl
  clear hn_15 el1_15 el2_15
  try clear hlo
  try clear hH
  revert hsp
  revert hP
  revert hD
  revert hS
  revert hl
  revert l2_15
  revert l1_15
  revert ls
  revert locs
  revert H
  induction n_15 with
  | zero => intro H locs ls l1_15 l2_15 hl hS hD hP hsp; unfold lp_t1_localOf_15 at hsp; cases hsp
  | succ n_15 ih_15 =>
    intro H locs ls l1_15 l2_15 hl hS hD hP hsp
    unfold lp_t1_localOf_15 at hsp
    try dsimp only at hsp
    refine lv_iload_n hx hb dX1_localOf_15 rfl (lv_at hl 0 rfl) ?_
    refine lv_if_lt (tgt := 37) hx hb dX1_localOf_16 (by decide) (fun c_1 => ?_) (fun c_1 => ?_)
    · rw [if_pos c_1] at hsp
      refine lv_iconst (v := (-1)) hx hb dX1_localOf_37 (by decide) ?_
      have hr0 := Option.some.inj hsp
      clear hsp
      subst hr0
      have hP9 := hP.sub (ws' := [(h0, .inr (1, [.ref qf0, .int v1, .ref qf2, .int v3, .int v4, .ref qf5, .ref qf6, .int v7, .int v8, .ref qf9, .int v10, .ref qf11, .ref qf12, .ref qf13, .int v14, .int v15])), (qf5, .inl (cf5, 750, .inl f5))]) [0, 1] rfl
      have hD9 := hD.sub (ws' := [(h0, .inr (1, [.ref qf0, .int v1, .ref qf2, .int v3, .int v4, .ref qf5, .ref qf6, .int v7, .int v8, .ref qf9, .int v10, .ref qf11, .ref qf12, .ref qf13, .int v14, .int v15])), (qf5, .inl (cf5, 750, .inl f5))]) [0, 1] (by decide) rfl
      have hK9 := hK.sub (tys' := [(cf5, .int)]) [0] rfl
      exact W.iret hx hb hr (fun t ht hW => ⟨⟨((-1)), (), rfl, rfl, by rw [ht]; exact hP9, va_K.moved hW.alike hK9, hD9⟩, hS.F ht⟩) hS.2.2 dX1_localOf_38
    · rw [if_neg c_1] at hsp
      refine lv_aload_n hx hb dX1_localOf_19 rfl (lv_at hl 1 rfl) ?_
      refine va_get (D := (dC, dI)) (ci := 1) (v := .ref qf5) (C := RX1) (T := TX1) (N := 16) hx hb hts uV_h4_X1 hown hK hP 0 rfl rfl 5 (by decide) (hts (.fieldLink RX1 21 "ClassMill$Code" "localName" "[I") mw_h4_91) (fun _ h9 => h9) rfl dX1_localOf_20 ?_
      refine lv_iload_n hx hb dX1_localOf_23 rfl (lv_at hl 0 rfl) ?_
      obtain ⟨hi_2, hsp⟩ := ox_in hsp
      refine va_iald hx hb hK hP 1 0 rfl rfl (i := l2_15) hi_2 dX1_localOf_24 ?_
      refine lv_iload_n hx hb dX1_localOf_25 rfl (lv_at hl 2 rfl) ?_
      refine lv_icmp_ne (tgt := 31) hx hb dX1_localOf_26 (by decide) (fun c_3 => ?_) (fun c_3 => ?_)
      · rw [if_neg c_3] at hsp
        refine lv_iinc (v := (l2_15 + (-1))) (lv' := [(2, .int (l2_15 + (-1))), (0, .ref h0), (1, .int l1_15)]) hx hb dX1_localOf_31 hl (k := 0) rfl rfl (by decide) rfl (fun ls hl => ?_)
        refine lv_goto (tgt := 15) hx hb dX1_localOf_34 (by decide) ?_
        exact ih_15 H locs ls l1_15 (l2_15 + (-1)) (lv_sub hl [0, 1, 2] rfl) hS (hD.sub (ws' := [(h0, .inr (1, [.ref qf0, .int v1, .ref qf2, .int v3, .int v4, .ref qf5, .ref qf6, .int v7, .int v8, .ref qf9, .int v10, .ref qf11, .ref qf12, .ref qf13, .int v14, .int v15])), (qf5, .inl (cf5, 750, .inl f5))]) [0, 1] (by decide) rfl) (hP.sub (ws' := [(h0, .inr (1, [.ref qf0, .int v1, .ref qf2, .int v3, .int v4, .ref qf5, .ref qf6, .int v7, .int v8, .ref qf9, .int v10, .ref qf11, .ref qf12, .ref qf13, .int v14, .int v15])), (qf5, .inl (cf5, 750, .inl f5))]) [0, 1] rfl) hsp
      · rw [if_pos c_3] at hsp
        refine lv_iload_n hx hb dX1_localOf_29 rfl (lv_at hl 0 rfl) ?_
        have hr0 := Option.some.inj hsp
        clear hsp
        subst hr0
        have hP9 := hP.sub (ws' := [(h0, .inr (1, [.ref qf0, .int v1, .ref qf2, .int v3, .int v4, .ref qf5, .ref qf6, .int v7, .int v8, .ref qf9, .int v10, .ref qf11, .ref qf12, .ref qf13, .int v14, .int v15])), (qf5, .inl (cf5, 750, .inl f5))]) [0, 1] rfl
        have hD9 := hD.sub (ws' := [(h0, .inr (1, [.ref qf0, .int v1, .ref qf2, .int v3, .int v4, .ref qf5, .ref qf6, .int v7, .int v8, .ref qf9, .int v10, .ref qf11, .ref qf12, .ref qf13, .int v14, .int v15])), (qf5, .inl (cf5, 750, .inl f5))]) [0, 1] (by decide) rfl
        have hK9 := hK.sub (tys' := [(cf5, .int)]) [0] rfl
        exact W.iret hx hb hr (fun t ht hW => ⟨⟨(l2_15), (), rfl, rfl, by rw [ht]; exact hP9, va_K.moved hW.alike hK9, hD9⟩, hS.F ht⟩) hS.2.2 dX1_localOf_30
def sp_t1_typeOfLocal (nf : Nat) (a1 : Int32) (f6 : Nat → Int32) : Option (Int32) := (if a1 < 0 then (some 305) else (if 750 ≤ a1 then (some 305) else (if a1 < 0 then none else if 750 ≤ (a1 : Int32).toNatClampNeg then none else (some (f6 (a1 : Int32).toNatClampNeg)))))
set_option maxHeartbeats 4000000 in
set_option maxRecDepth 100000 in
/-- ClassMill$Code.typeOfLocal -/
theorem t1_typeOfLocal (l : Launch) (dC : Nat → ClassId) (dI : Nat → Nat → Nat) (sz : Nat) (h0 : Nat) (a1 : Int32) (qf0 : Nat) (v1 : Int32) (qf2 : Nat) (v3 : Int32) (v4 : Int32) (qf5 : Nat) (qf6 : Nat) (v7 : Int32) (v8 : Int32) (qf9 : Nat) (v10 : Int32) (qf11 : Nat) (qf12 : Nat) (qf13 : Nat) (v14 : Int32) (v15 : Int32) (cf6 : ClassId) (f6 : (Nat → Int32)) (nf : Nat) (r0 : Int32) (hsp : sp_t1_typeOfLocal nf a1 f6 = some r0) : Met l yX1_typeOfLocal (.code yX1_typeOfLocal cX1_typeOfLocal 2 (some .int) :: VS_h4) ({ frames := 0, cells := 0, slots := 0, locals := 0 }) (va_Pc [.ref h0, .int a1] (fun U => U.heap.size = sz ∧ va_P (dC, dI) vwCl [(h0, .inr (1, [.ref qf0, .int v1, .ref qf2, .int v3, .int v4, .ref qf5, .ref qf6, .int v7, .int v8, .ref qf9, .int v10, .ref qf11, .ref qf12, .ref qf13, .int v14, .int v15])), (qf6, .inl (cf6, 750, .inl f6))] U.heap ∧ va_K (dC, dI) vwCl [(cf6, .int)] U ∧ va_D (fun _ => True) [(h0, .inr (1, [.ref qf0, .int v1, .ref qf2, .int v3, .int v4, .ref qf5, .ref qf6, .int v7, .int v8, .ref qf9, .int v10, .ref qf11, .ref qf12, .ref qf13, .int v14, .int v15])), (qf6, .inl (cf6, 750, .inl f6))])) (va_Qi (fun (r : Int32) (u : Unit) => match u with | () => r0 = r) (fun (u : Unit) (t : State) => match u with | () => va_P (dC, dI) vwCl [(h0, .inr (1, [.ref qf0, .int v1, .ref qf2, .int v3, .int v4, .ref qf5, .ref qf6, .int v7, .int v8, .ref qf9, .int v10, .ref qf11, .ref qf12, .ref qf13, .int v14, .int v15])), (qf6, .inl (cf6, 750, .inl f6))] t.heap ∧ va_K (dC, dI) vwCl [(cf6, .int)] t ∧ va_D (va_A [(h0, .inr (1, [.ref qf0, .int v1, .ref qf2, .int v3, .int v4, .ref qf5, .ref qf6, .int v7, .int v8, .ref qf9, .int v10, .ref qf11, .ref qf12, .ref qf13, .int v14, .int v15])), (qf6, .inl (cf6, 750, .inl f6))] sz) [(h0, .inr (1, [.ref qf0, .int v1, .ref qf2, .int v3, .int v4, .ref qf5, .ref qf6, .int v7, .int v8, .ref qf9, .int v10, .ref qf11, .ref qf12, .ref qf13, .int v14, .int v15])), (qf6, .inl (cf6, 750, .inl f6))]) (va_A [(h0, .inr (1, [.ref qf0, .int v1, .ref qf2, .int v3, .int v4, .ref qf5, .ref qf6, .int v7, .int v8, .ref qf9, .int v10, .ref qf11, .ref qf12, .ref qf13, .int v14, .int v15])), (qf6, .inl (cf6, 750, .inl f6))] sz)) 0 0 (va_A [(h0, .inr (1, [.ref qf0, .int v1, .ref qf2, .int v3, .int v4, .ref qf5, .ref qf6, .int v7, .int v8, .ref qf9, .int v10, .ref qf11, .ref qf12, .ref qf13, .int v14, .int v15])), (qf6, .inl (cf6, 750, .inl f6))] sz) := by
  refine Met.ofW (cc := cX1_typeOfLocal) (maxL := 2) (ret := (some .int)) (by decide) rfl ?_
  intro p e s m args below meth c s₁ B hml hv
  obtain ⟨rfl, hsz, hP, hK, hD0⟩ := hv
  have hx := B.exec
  have hb := B.bytes
  have hr := B.returns
  have hts := atoms_spec (ws := (.code yX1_typeOfLocal cX1_typeOfLocal 2 (some .int) :: VS_h4)) B.pre
  replace hts := fun w (h : w ∈ VS_h4) => hts w (List.mem_cons_of_mem _ h)
  have hown : s.vm.findClass RX1 = some m.cls := findClass_of_methodNamed B.named
  have hlocks := B.notSynchronized
  subst hsz
  have hD := hD0.self (sz := s.heap.size)
  generalize hAe : va_A [(h0, .inr (1, [.ref qf0, .int v1, .ref qf2, .int v3, .int v4, .ref qf5, .ref qf6, .int v7, .int v8, .ref qf9, .int v10, .ref qf11, .ref qf12, .ref qf13, .int v14, .int v15])), (qf6, .inl (cf6, 750, .inl f6))] s.heap.size = A at hD  ⊢
  have hA : ∀ q : Nat, s.heap.size ≤ q → A q := fun q h => by rw [← hAe]; exact Or.inr h
  have hP : va_P (dC, dI) vwCl [(h0, .inr (1, [.ref qf0, .int v1, .ref qf2, .int v3, .int v4, .ref qf5, .ref qf6, .int v7, .int v8, .ref qf9, .int v10, .ref qf11, .ref qf12, .ref qf13, .int v14, .int v15])), (qf6, .inl (cf6, 750, .inl f6))] s.heap := hP
  have hl := lv_entry ([.ref h0, .int a1]) (n := 2) (Nat.le_of_ble_eq_true rfl)
  rw [lg_entry_eq]
  generalize (lg_sl ([.ref h0, .int a1]) ++ List.replicate (2 - (lg_sl ([.ref h0, .int a1])).length) Slot.unset).toArray = ls at hl ⊢
  have hl : lv_has ls 2 [(0, .ref h0), (1, .int a1)] := hl
  obtain ⟨H, hH⟩ : ∃ H : Heap, s.heap = H := ⟨_, rfl⟩
  rw [hH] at hP ⊢
  have hS : va_S A s.heap H [] := by rw [← hH]; exact va_S.rf
  obtain ⟨locs, hlo⟩ : ∃ locs : List Loc, locs = [] := ⟨_, rfl⟩
  rw [← hlo] at hS ⊢
  unfold sp_t1_typeOfLocal at hsp
  refine lv_iload_n hx hb dX1_typeOfLocal_0 rfl (lv_at hl 1 rfl) ?_
  refine lv_if_lt (tgt := 22) hx hb dX1_typeOfLocal_1 (by decide) (fun c_1 => ?_) (fun c_1 => ?_)
  · rw [if_pos c_1] at hsp
    refine lv_sipush (v := 305) hx hb dX1_typeOfLocal_22 (by decide) ?_
    have hr0 := Option.some.inj hsp
    clear hsp
    subst hr0
    have hP9 := hP.sub (ws' := [(h0, .inr (1, [.ref qf0, .int v1, .ref qf2, .int v3, .int v4, .ref qf5, .ref qf6, .int v7, .int v8, .ref qf9, .int v10, .ref qf11, .ref qf12, .ref qf13, .int v14, .int v15])), (qf6, .inl (cf6, 750, .inl f6))]) [0, 1] rfl
    have hD9 := hD.sub (ws' := [(h0, .inr (1, [.ref qf0, .int v1, .ref qf2, .int v3, .int v4, .ref qf5, .ref qf6, .int v7, .int v8, .ref qf9, .int v10, .ref qf11, .ref qf12, .ref qf13, .int v14, .int v15])), (qf6, .inl (cf6, 750, .inl f6))]) [0, 1] (by decide) rfl
    have hK9 := hK.sub (tys' := [(cf6, .int)]) [0] rfl
    exact W.iret hx hb hr (fun t ht hW => ⟨⟨(305), (), rfl, rfl, by rw [ht]; exact hP9, va_K.moved hW.alike hK9, hD9⟩, hS.F ht⟩) hS.2.2 dX1_typeOfLocal_25
  · rw [if_neg c_1] at hsp
    refine lv_iload_n hx hb dX1_typeOfLocal_4 rfl (lv_at hl 1 rfl) ?_
    refine lv_aload_n hx hb dX1_typeOfLocal_5 rfl (lv_at hl 0 rfl) ?_
    refine va_get (D := (dC, dI)) (ci := 1) (v := .ref qf6) (C := RX1) (T := TX1) (N := 16) hx hb hts uV_h4_X1 hown hK hP 0 rfl rfl 6 (by decide) (hts (.fieldLink RX1 24 "ClassMill$Code" "localType" "[I") mw_h4_92) (fun _ h9 => h9) rfl dX1_typeOfLocal_6 ?_
    refine va_alen (v := 750) hx hb hK hP 1 0 rfl rfl rfl dX1_typeOfLocal_9 ?_
    refine lv_icmp_ge (tgt := 22) hx hb dX1_typeOfLocal_10 (by decide) (fun c_2 => ?_) (fun c_2 => ?_)
    · rw [if_pos c_2] at hsp
      refine lv_sipush (v := 305) hx hb dX1_typeOfLocal_22 (by decide) ?_
      have hr0 := Option.some.inj hsp
      clear hsp
      subst hr0
      have hP9 := hP.sub (ws' := [(h0, .inr (1, [.ref qf0, .int v1, .ref qf2, .int v3, .int v4, .ref qf5, .ref qf6, .int v7, .int v8, .ref qf9, .int v10, .ref qf11, .ref qf12, .ref qf13, .int v14, .int v15])), (qf6, .inl (cf6, 750, .inl f6))]) [0, 1] rfl
      have hD9 := hD.sub (ws' := [(h0, .inr (1, [.ref qf0, .int v1, .ref qf2, .int v3, .int v4, .ref qf5, .ref qf6, .int v7, .int v8, .ref qf9, .int v10, .ref qf11, .ref qf12, .ref qf13, .int v14, .int v15])), (qf6, .inl (cf6, 750, .inl f6))]) [0, 1] (by decide) rfl
      have hK9 := hK.sub (tys' := [(cf6, .int)]) [0] rfl
      exact W.iret hx hb hr (fun t ht hW => ⟨⟨(305), (), rfl, rfl, by rw [ht]; exact hP9, va_K.moved hW.alike hK9, hD9⟩, hS.F ht⟩) hS.2.2 dX1_typeOfLocal_25
    · rw [if_neg c_2] at hsp
      refine lv_aload_n hx hb dX1_typeOfLocal_13 rfl (lv_at hl 0 rfl) ?_
      refine va_get (D := (dC, dI)) (ci := 1) (v := .ref qf6) (C := RX1) (T := TX1) (N := 16) hx hb hts uV_h4_X1 hown hK hP 0 rfl rfl 6 (by decide) (hts (.fieldLink RX1 24 "ClassMill$Code" "localType" "[I") mw_h4_92) (fun _ h9 => h9) rfl dX1_typeOfLocal_14 ?_
      refine lv_iload_n hx hb dX1_typeOfLocal_17 rfl (lv_at hl 1 rfl) ?_
      obtain ⟨hi_3, hsp⟩ := ox_in hsp
      refine va_iald hx hb hK hP 1 0 rfl rfl (i := a1) hi_3 dX1_typeOfLocal_18 ?_
      refine lv_goto (tgt := 25) hx hb dX1_typeOfLocal_19 (by decide) ?_
      have hr0 := Option.some.inj hsp
      clear hsp
      subst hr0
      have hP9 := hP.sub (ws' := [(h0, .inr (1, [.ref qf0, .int v1, .ref qf2, .int v3, .int v4, .ref qf5, .ref qf6, .int v7, .int v8, .ref qf9, .int v10, .ref qf11, .ref qf12, .ref qf13, .int v14, .int v15])), (qf6, .inl (cf6, 750, .inl f6))]) [0, 1] rfl
      have hD9 := hD.sub (ws' := [(h0, .inr (1, [.ref qf0, .int v1, .ref qf2, .int v3, .int v4, .ref qf5, .ref qf6, .int v7, .int v8, .ref qf9, .int v10, .ref qf11, .ref qf12, .ref qf13, .int v14, .int v15])), (qf6, .inl (cf6, 750, .inl f6))]) [0, 1] (by decide) rfl
      have hK9 := hK.sub (tys' := [(cf6, .int)]) [0] rfl
      exact W.iret hx hb hr (fun t ht hW => ⟨⟨((f6 (a1 : Int32).toNatClampNeg)), (), rfl, rfl, by rw [ht]; exact hP9, va_K.moved hW.alike hK9, hD9⟩, hS.F ht⟩) hS.2.2 dX1_typeOfLocal_25
def sp_t1_store (nf : Nat) (a1 : Int32) (a2 : Int32) (v1 : Int32) (v3 : Int32) (f0 : Nat → Int32) : Option ((Nat → Int32) × Int32 × Int32) := ((sp_t4_isNumber nf a2).bind (fun p1 => (if p1 = 0 then ((sp_t1_op_ nf 58 a1 v1 f0).bind (fun p2 => ((sp_t1_pop nf 1 v3).bind (fun p3 => (some (p2.1, p2.2, p3)))))) else ((sp_t1_op_ nf 54 a1 v1 f0).bind (fun p4 => ((sp_t1_pop nf 1 v3).bind (fun p5 => (some (p4.1, p4.2, p5)))))))))

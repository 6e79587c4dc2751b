set_option maxHeartbeats 4000000 in
set_option maxRecDepth 100000 in
/-- ClassMill$Code.fillFrame -/
theorem v1_fillFrame (l : Launch) (dC : Nat → ClassId) (dI : Nat → Nat → Nat) (sz : Nat) (h0 : Nat) (a1 : Int32) (a2 : Int32) (a3 : Int32) (qf0 : Nat) (v1 : Int32) (qf2 : Nat) (v3 : Int32) (v4 : Int32) (qf5 : Nat) (qf6 : Nat) (v7 : Int32) (v8 : Int32) (qf9 : Nat) (v10 : Int32) (qf11 : Nat) (qf12 : Nat) (qf13 : Nat) (v14 : Int32) (v15 : Int32) (cf12 : ClassId) (f12 : (Nat → Int32)) (cf6 : ClassId) (f6 : (Nat → Int32)) (cf2 : ClassId) (f2 : (Nat → Int32)) (nf : Nat) (o12 : (Nat → Int32)) (w15 : Int32) (hsp : sp_v1_fillFrame nf a1 a2 a3 v15 f12 f6 f2 = some (o12, w15)) : Met l yX1_fillFrame (.code yX1_fillFrame cX1_fillFrame 5 none :: VS_h7) ({ frames := 1, cells := 0, slots := 0, locals := 40 }) (va_Pc [.ref h0, .int a1, .int a2, .int a3] (fun U => U.heap.size = sz ∧ va_P (dC, dI) vwCl [(h0, .inr (1, [.ref qf0, .int v1, .ref qf2, .int v3, .int v4, .ref qf5, .ref qf6, .int v7, .int v8, .ref qf9, .int v10, .ref qf11, .ref qf12, .ref qf13, .int v14, .int v15])), (qf12, .inl (cf12, 5200, .inl f12)), (qf6, .inl (cf6, 750, .inl f6)), (qf2, .inl (cf2, 20, .inl f2))] U.heap ∧ va_K (dC, dI) vwCl [(cf12, .int), (cf6, .int), (cf2, .int)] U ∧ va_D (fun _ => True) [(h0, .inr (1, [.ref qf0, .int v1, .ref qf2, .int v3, .int v4, .ref qf5, .ref qf6, .int v7, .int v8, .ref qf9, .int v10, .ref qf11, .ref qf12, .ref qf13, .int v14, .int v15])), (qf12, .inl (cf12, 5200, .inl f12)), (qf6, .inl (cf6, 750, .inl f6)), (qf2, .inl (cf2, 20, .inl f2))])) (va_Qv (fun (u : Unit) => match u with | () => True) (fun (u : Unit) (t : State) => match u with | () => va_P (dC, dI) vwCl [(h0, .inr (1, [.ref qf0, .int v1, .ref qf2, .int v3, .int v4, .ref qf5, .ref qf6, .int v7, .int v8, .ref qf9, .int v10, .ref qf11, .ref qf12, .ref qf13, .int v14, .int w15])), (qf12, .inl (cf12, 5200, .inl o12)), (qf6, .inl (cf6, 750, .inl f6)), (qf2, .inl (cf2, 20, .inl f2))] t.heap ∧ va_K (dC, dI) vwCl [(cf12, .int), (cf6, .int), (cf2, .int)] t ∧ va_D (va_A [(h0, .inr (1, [.ref qf0, .int v1, .ref qf2, .int v3, .int v4, .ref qf5, .ref qf6, .int v7, .int v8, .ref qf9, .int v10, .ref qf11, .ref qf12, .ref qf13, .int v14, .int v15])), (qf12, .inl (cf12, 5200, .inl f12)), (qf6, .inl (cf6, 750, .inl f6)), (qf2, .inl (cf2, 20, .inl f2))] sz) [(h0, .inr (1, [.ref qf0, .int v1, .ref qf2, .int v3, .int v4, .ref qf5, .ref qf6, .int v7, .int v8, .ref qf9, .int v10, .ref qf11, .ref qf12, .ref qf13, .int v14, .int w15])), (qf12, .inl (cf12, 5200, .inl o12)), (qf6, .inl (cf6, 750, .inl f6)), (qf2, .inl (cf2, 20, .inl f2))]) (va_A [(h0, .inr (1, [.ref qf0, .int v1, .ref qf2, .int v3, .int v4, .ref qf5, .ref qf6, .int v7, .int v8, .ref qf9, .int v10, .ref qf11, .ref qf12, .ref qf13, .int v14, .int v15])), (qf12, .inl (cf12, 5200, .inl f12)), (qf6, .inl (cf6, 750, .inl f6)), (qf2, .inl (cf2, 20, .inl f2))] sz)) 0 0 (va_A [(h0, .inr (1, [.ref qf0, .int v1, .ref qf2, .int v3, .int v4, .ref qf5, .ref qf6, .int v7, .int v8, .ref qf9, .int v10, .ref qf11, .ref qf12, .ref qf13, .int v14, .int v15])), (qf12, .inl (cf12, 5200, .inl f12)), (qf6, .inl (cf6, 750, .inl f6)), (qf2, .inl (cf2, 20, .inl f2))] sz) := by
  refine Met.ofW (cc := cX1_fillFrame) (maxL := 5) (ret := none) (by decide) rfl ?_
  intro p e s m args below meth c s₁ B hml hv
  obtain ⟨rfl, hsz, hP, hK, hD0⟩ := hv
  have hx := B.exec
  have hb := B.bytes
  have hr := B.returns
  have hts := atoms_spec (ws := (.code yX1_fillFrame cX1_fillFrame 5 none :: VS_h7)) B.pre
  replace hts := fun w (h : w ∈ VS_h7) => hts w (List.mem_cons_of_mem _ h)
  have hown : s.vm.findClass RX1 = some m.cls := findClass_of_methodNamed B.named
  have hlocks := B.notSynchronized
  subst hsz
  have hD := hD0.self (sz := s.heap.size)
  generalize hAe : va_A [(h0, .inr (1, [.ref qf0, .int v1, .ref qf2, .int v3, .int v4, .ref qf5, .ref qf6, .int v7, .int v8, .ref qf9, .int v10, .ref qf11, .ref qf12, .ref qf13, .int v14, .int v15])), (qf12, .inl (cf12, 5200, .inl f12)), (qf6, .inl (cf6, 750, .inl f6)), (qf2, .inl (cf2, 20, .inl f2))] s.heap.size = A at hD  ⊢
  have hA : ∀ q : Nat, s.heap.size ≤ q → A q := fun q h => by rw [← hAe]; exact Or.inr h
  have hP : va_P (dC, dI) vwCl [(h0, .inr (1, [.ref qf0, .int v1, .ref qf2, .int v3, .int v4, .ref qf5, .ref qf6, .int v7, .int v8, .ref qf9, .int v10, .ref qf11, .ref qf12, .ref qf13, .int v14, .int v15])), (qf12, .inl (cf12, 5200, .inl f12)), (qf6, .inl (cf6, 750, .inl f6)), (qf2, .inl (cf2, 20, .inl f2))] s.heap := hP
  have hl := lv_entry ([.ref h0, .int a1, .int a2, .int a3]) (n := 5) (Nat.le_of_ble_eq_true rfl)
  rw [lg_entry_eq]
  generalize (lg_sl ([.ref h0, .int a1, .int a2, .int a3]) ++ List.replicate (5 - (lg_sl ([.ref h0, .int a1, .int a2, .int a3])).length) Slot.unset).toArray = ls at hl ⊢
  have hl : lv_has ls 5 [(0, .ref h0), (1, .int a1), (2, .int a2), (3, .int a3)] := hl
  obtain ⟨H, hH⟩ : ∃ H : Heap, s.heap = H := ⟨_, rfl⟩
  rw [hH] at hP ⊢
  have hS : va_S A s.heap H [] := by rw [← hH]; exact va_S.rf
  obtain ⟨locs, hlo⟩ : ∃ locs : List Loc, locs = [] := ⟨_, rfl⟩
  rw [← hlo] at hS ⊢
  unfold sp_v1_fillFrame at hsp
  refine lv_iload_n hx hb dX1_fillFrame_0 rfl (lv_at hl 1 rfl) ?_
  refine lv_bipush (v := 52) hx hb dX1_fillFrame_1 (by decide) ?_
  refine lv_imul hx hb dX1_fillFrame_3 ?_
  refine lv_istore (lv' := [(4, .int (a1 * 52)), (0, .ref h0), (1, .int a1), (2, .int a2), (3, .int a3)]) hx hb dX1_fillFrame_4 hl (by decide) rfl (fun ls hl => ?_)
  refine lv_iload_n hx hb dX1_fillFrame_6 rfl (lv_at hl 2 rfl) ?_
  refine lv_iconst (v := (-1)) hx hb dX1_fillFrame_7 (by decide) ?_
  refine lv_icmp_eq (tgt := 23) hx hb dX1_fillFrame_8 (by decide) (fun c_1 => ?_) (fun c_1 => ?_)
  · rw [if_pos c_1] at hsp
    refine lv_aload_n hx hb dX1_fillFrame_23 rfl (lv_at hl 1 rfl) ?_
    refine lv_iconst (v := 1) hx hb dX1_fillFrame_24 (by decide) ?_
    refine va_put (D := (dC, dI)) (ci := 1) (v := .int 1) (ty := .boolean) (C := RX1) (T := TX1) (N := 16) hx hb hts uV_h7_X1 tyX1 tyX1_ok nmX1 hown hK hP hD hS 0 rfl rfl 15 (by decide) (hts (.fieldLink RX1 61 "ClassMill$Code" "full" "Z") mw_h7_25) (fun _ h9 => h9) rfl (by decide +kernel) rfl rfl (Nat.le_of_ble_eq_true rfl) dX1_fillFrame_25 ?_
    clear hP hD hS
    intro H locs hP hD hS
    replace hP : va_P (dC, dI) vwCl [(h0, .inr (1, [.ref qf0, .int v1, .ref qf2, .int v3, .int v4, .ref qf5, .ref qf6, .int v7, .int v8, .ref qf9, .int v10, .ref qf11, .ref qf12, .ref qf13, .int v14, .int 1])), (qf12, .inl (cf12, 5200, .inl f12)), (qf6, .inl (cf6, 750, .inl f6)), (qf2, .inl (cf2, 20, .inl f2))] H := hP
    replace hD : va_D A [(h0, .inr (1, [.ref qf0, .int v1, .ref qf2, .int v3, .int v4, .ref qf5, .ref qf6, .int v7, .int v8, .ref qf9, .int v10, .ref qf11, .ref qf12, .ref qf13, .int v14, .int 1])), (qf12, .inl (cf12, 5200, .inl f12)), (qf6, .inl (cf6, 750, .inl f6)), (qf2, .inl (cf2, 20, .inl f2))] := hD
    have hr0 := Option.some.inj hsp
    clear hsp
    obtain ⟨hq0, hr1⟩ := Prod.mk.inj hr0
    clear hr0
    subst hq0
    subst hr1
    have hP9 := hP.sub (ws' := [(h0, .inr (1, [.ref qf0, .int v1, .ref qf2, .int v3, .int v4, .ref qf5, .ref qf6, .int v7, .int v8, .ref qf9, .int v10, .ref qf11, .ref qf12, .ref qf13, .int v14, .int 1])), (qf12, .inl (cf12, 5200, .inl f12)), (qf6, .inl (cf6, 750, .inl f6)), (qf2, .inl (cf2, 20, .inl f2))]) [0, 1, 2, 3] rfl
    have hD9 := hD.sub (ws' := [(h0, .inr (1, [.ref qf0, .int v1, .ref qf2, .int v3, .int v4, .ref qf5, .ref qf6, .int v7, .int v8, .ref qf9, .int v10, .ref qf11, .ref qf12, .ref qf13, .int v14, .int 1])), (qf12, .inl (cf12, 5200, .inl f12)), (qf6, .inl (cf6, 750, .inl f6)), (qf2, .inl (cf2, 20, .inl f2))]) [0, 1, 2, 3] (by decide) rfl
    have hK9 := hK.sub (tys' := [(cf12, .int), (cf6, .int), (cf2, .int)]) [0, 1, 2] rfl
    exact W.vret hx hb hr (fun t ht hW => ⟨⟨(), rfl, trivial, by rw [ht]; exact hP9, va_K.moved hW.alike hK9, hD9⟩, hS.F ht⟩) hS.2.2 dX1_fillFrame_28
  · rw [if_neg c_1] at hsp
    refine lv_iload_n hx hb dX1_fillFrame_11 rfl (lv_at hl 3 rfl) ?_
    refine lv_bipush (v := 30) hx hb dX1_fillFrame_12 (by decide) ?_
    refine lv_icmp_gt (tgt := 23) hx hb dX1_fillFrame_14 (by decide) (fun c_2 => ?_) (fun c_2 => ?_)
    · rw [if_pos c_2] at hsp
      refine lv_aload_n hx hb dX1_fillFrame_23 rfl (lv_at hl 1 rfl) ?_
      refine lv_iconst (v := 1) hx hb dX1_fillFrame_24 (by decide) ?_
      refine va_put (D := (dC, dI)) (ci := 1) (v := .int 1) (ty := .boolean) (C := RX1) (T := TX1) (N := 16) hx hb hts uV_h7_X1 tyX1 tyX1_ok nmX1 hown hK hP hD hS 0 rfl rfl 15 (by decide) (hts (.fieldLink RX1 61 "ClassMill$Code" "full" "Z") mw_h7_25) (fun _ h9 => h9) rfl (by decide +kernel) rfl rfl (Nat.le_of_ble_eq_true rfl) dX1_fillFrame_25 ?_
      clear hP hD hS
      intro H locs hP hD hS
      replace hP : va_P (dC, dI) vwCl [(h0, .inr (1, [.ref qf0, .int v1, .ref qf2, .int v3, .int v4, .ref qf5, .ref qf6, .int v7, .int v8, .ref qf9, .int v10, .ref qf11, .ref qf12, .ref qf13, .int v14, .int 1])), (qf12, .inl (cf12, 5200, .inl f12)), (qf6, .inl (cf6, 750, .inl f6)), (qf2, .inl (cf2, 20, .inl f2))] H := hP
      replace hD : va_D A [(h0, .inr (1, [.ref qf0, .int v1, .ref qf2, .int v3, .int v4, .ref qf5, .ref qf6, .int v7, .int v8, .ref qf9, .int v10, .ref qf11, .ref qf12, .ref qf13, .int v14, .int 1])), (qf12, .inl (cf12, 5200, .inl f12)), (qf6, .inl (cf6, 750, .inl f6)), (qf2, .inl (cf2, 20, .inl f2))] := hD
      have hr0 := Option.some.inj hsp
      clear hsp
      obtain ⟨hq0, hr1⟩ := Prod.mk.inj hr0
      clear hr0
      subst hq0
      subst hr1
      have hP9 := hP.sub (ws' := [(h0, .inr (1, [.ref qf0, .int v1, .ref qf2, .int v3, .int v4, .ref qf5, .ref qf6, .int v7, .int v8, .ref qf9, .int v10, .ref qf11, .ref qf12, .ref qf13, .int v14, .int 1])), (qf12, .inl (cf12, 5200, .inl f12)), (qf6, .inl (cf6, 750, .inl f6)), (qf2, .inl (cf2, 20, .inl f2))]) [0, 1, 2, 3] rfl
      have hD9 := hD.sub (ws' := [(h0, .inr (1, [.ref qf0, .int v1, .ref qf2, .int v3, .int v4, .ref qf5, .ref qf6, .int v7, .int v8, .ref qf9, .int v10, .ref qf11, .ref qf12, .ref qf13, .int v14, .int 1])), (qf12, .inl (cf12, 5200, .inl f12)), (qf6, .inl (cf6, 750, .inl f6)), (qf2, .inl (cf2, 20, .inl f2))]) [0, 1, 2, 3] (by decide) rfl
      have hK9 := hK.sub (tys' := [(cf12, .int), (cf6, .int), (cf2, .int)]) [0, 1, 2] rfl
      exact W.vret hx hb hr (fun t ht hW => ⟨⟨(), rfl, trivial, by rw [ht]; exact hP9, va_K.moved hW.alike hK9, hD9⟩, hS.F ht⟩) hS.2.2 dX1_fillFrame_28
    · rw [if_neg c_2] at hsp
      refine lv_iload_n hx hb dX1_fillFrame_17 rfl (lv_at hl 4 rfl) ?_
      refine lv_bipush (v := 20) hx hb dX1_fillFrame_18 (by decide) ?_
      refine lv_icmp_le (tgt := 29) hx hb dX1_fillFrame_20 (by decide) (fun c_3 => ?_) (fun c_3 => ?_)
      · rw [if_pos c_3] at hsp
        refine lv_aload_n hx hb dX1_fillFrame_29 rfl (lv_at hl 1 rfl) ?_
        refine va_get (D := (dC, dI)) (ci := 1) (v := .ref qf12) (C := RX1) (T := TX1) (N := 16) hx hb hts uV_h7_X1 hown hK hP 0 rfl rfl 12 (by decide) (hts (.fieldLink RX1 33 "ClassMill$Code" "frameRow" "[I") mw_h7_26) (fun _ h9 => h9) rfl dX1_fillFrame_30 ?_
        refine lv_iload hx hb dX1_fillFrame_33 (lv_at hl 0 rfl) ?_
        refine lv_iload_n hx hb dX1_fillFrame_35 rfl (lv_at hl 3 rfl) ?_
        obtain ⟨hi_4, hsp⟩ := ox_in hsp
        refine va_iast hx hb hK hP hD hS 1 0 rfl rfl (i := (a1 * 52)) (x := a2) hi_4 dX1_fillFrame_36 ?_
        clear hP hD hS
        intro H locs hP hD hS
        replace hP : va_P (dC, dI) vwCl [(h0, .inr (1, [.ref qf0, .int v1, .ref qf2, .int v3, .int v4, .ref qf5, .ref qf6, .int v7, .int v8, .ref qf9, .int v10, .ref qf11, .ref qf12, .ref qf13, .int v14, .int v15])), (qf12, .inl (cf12, 5200, .inl (upd f12 ((a1 * 52) : Int32).toNatClampNeg a2))), (qf6, .inl (cf6, 750, .inl f6)), (qf2, .inl (cf2, 20, .inl f2))] H := hP
        replace hD : va_D A [(h0, .inr (1, [.ref qf0, .int v1, .ref qf2, .int v3, .int v4, .ref qf5, .ref qf6, .int v7, .int v8, .ref qf9, .int v10, .ref qf11, .ref qf12, .ref qf13, .int v14, .int v15])), (qf12, .inl (cf12, 5200, .inl (upd f12 ((a1 * 52) : Int32).toNatClampNeg a2))), (qf6, .inl (cf6, 750, .inl f6)), (qf2, .inl (cf2, 20, .inl f2))] := hD
        refine lv_aload_n hx hb dX1_fillFrame_37 rfl (lv_at hl 1 rfl) ?_
        refine va_get (D := (dC, dI)) (ci := 1) (v := .ref qf12) (C := RX1) (T := TX1) (N := 16) hx hb hts uV_h7_X1 hown hK hP 0 rfl rfl 12 (by decide) (hts (.fieldLink RX1 33 "ClassMill$Code" "frameRow" "[I") mw_h7_26) (fun _ h9 => h9) rfl dX1_fillFrame_38 ?_
        refine lv_iload hx hb dX1_fillFrame_41 (lv_at hl 0 rfl) ?_
        refine lv_iconst (v := 1) hx hb dX1_fillFrame_43 (by decide) ?_
        refine lv_iadd hx hb dX1_fillFrame_44 ?_
        refine lv_iload_n hx hb dX1_fillFrame_45 rfl (lv_at hl 4 rfl) ?_
        obtain ⟨hi_5, hsp⟩ := ox_in hsp
        refine va_iast hx hb hK hP hD hS 1 0 rfl rfl (i := ((a1 * 52) + 1)) (x := a3) hi_5 dX1_fillFrame_46 ?_
        clear hP hD hS
        intro H locs hP hD hS
        replace hP : va_P (dC, dI) vwCl [(h0, .inr (1, [.ref qf0, .int v1, .ref qf2, .int v3, .int v4, .ref qf5, .ref qf6, .int v7, .int v8, .ref qf9, .int v10, .ref qf11, .ref qf12, .ref qf13, .int v14, .int v15])), (qf12, .inl (cf12, 5200, .inl (upd (upd f12 ((a1 * 52) : Int32).toNatClampNeg a2) (((a1 * 52) + 1) : Int32).toNatClampNeg a3))), (qf6, .inl (cf6, 750, .inl f6)), (qf2, .inl (cf2, 20, .inl f2))] H := hP
        replace hD : va_D A [(h0, .inr (1, [.ref qf0, .int v1, .ref qf2, .int v3, .int v4, .ref qf5, .ref qf6, .int v7, .int v8, .ref qf9, .int v10, .ref qf11, .ref qf12, .ref qf13, .int v14, .int v15])), (qf12, .inl (cf12, 5200, .inl (upd (upd f12 ((a1 * 52) : Int32).toNatClampNeg a2) (((a1 * 52) + 1) : Int32).toNatClampNeg a3))), (qf6, .inl (cf6, 750, .inl f6)), (qf2, .inl (cf2, 20, .inl f2))] := hD
        refine lv_aload_n hx hb dX1_fillFrame_47 rfl (lv_at hl 1 rfl) ?_
        refine va_get (D := (dC, dI)) (ci := 1) (v := .ref qf6) (C := RX1) (T := TX1) (N := 16) hx hb hts uV_h7_X1 hown hK hP 0 rfl rfl 6 (by decide) (hts (.fieldLink RX1 24 "ClassMill$Code" "localType" "[I") mw_h7_27) (fun _ h9 => h9) rfl dX1_fillFrame_48 ?_
        refine lv_iconst (v := 0) hx hb dX1_fillFrame_51 (by decide) ?_
        refine lv_aload_n hx hb dX1_fillFrame_52 rfl (lv_at hl 1 rfl) ?_
        refine va_get (D := (dC, dI)) (ci := 1) (v := .ref qf12) (C := RX1) (T := TX1) (N := 16) hx hb hts uV_h7_X1 hown hK hP 0 rfl rfl 12 (by decide) (hts (.fieldLink RX1 33 "ClassMill$Code" "frameRow" "[I") mw_h7_26) (fun _ h9 => h9) rfl dX1_fillFrame_53 ?_
        refine lv_iload hx hb dX1_fillFrame_56 (lv_at hl 0 rfl) ?_
        refine lv_iconst (v := 2) hx hb dX1_fillFrame_58 (by decide) ?_
        refine lv_iadd hx hb dX1_fillFrame_59 ?_
        refine lv_iload_n hx hb dX1_fillFrame_60 rfl (lv_at hl 3 rfl) ?_
        obtain ⟨⟨hc_61, hc_62, hc_63, hc_64, hc_65⟩, hsp⟩ := ox_cp hsp
        refine va_copyi hx hb (by rw [hml]; exact hl.1.symm) hown (hts (.methodLink RX1 110 arraycopyName) mw_h7_28) (hts (.native arraycopyName) mw_h7_29) (hts (.static arraycopyName) mw_h7_30) (hts (.initialized "java/lang/System") mw_h7_31) hK hP hD hS 2 1 1 0 rfl rfl rfl rfl rfl (sp := 0) (dp := ((a1 * 52) + 2)) (n := a2) hc_61 hc_62 hc_63 hc_64 hc_65 (fun _ _ => rfl) (Nat.le_of_ble_eq_true rfl) (Nat.le_of_ble_eq_true rfl) dX1_fillFrame_61 ?_
        clear hP hD hS
        intro H locs hP hD hS
        replace hP : va_P (dC, dI) vwCl [(h0, .inr (1, [.ref qf0, .int v1, .ref qf2, .int v3, .int v4, .ref qf5, .ref qf6, .int v7, .int v8, .ref qf9, .int v10, .ref qf11, .ref qf12, .ref qf13, .int v14, .int v15])), (qf12, .inl (cf12, 5200, .inl (va_cpy f6 (upd (upd f12 ((a1 * 52) : Int32).toNatClampNeg a2) (((a1 * 52) + 1) : Int32).toNatClampNeg a3) (0 : Int32).toNatClampNeg (((a1 * 52) + 2) : Int32).toNatClampNeg (a2 : Int32).toNatClampNeg))), (qf6, .inl (cf6, 750, .inl f6)), (qf2, .inl (cf2, 20, .inl f2))] H := hP
        replace hD : va_D A [(h0, .inr (1, [.ref qf0, .int v1, .ref qf2, .int v3, .int v4, .ref qf5, .ref qf6, .int v7, .int v8, .ref qf9, .int v10, .ref qf11, .ref qf12, .ref qf13, .int v14, .int v15])), (qf12, .inl (cf12, 5200, .inl (va_cpy f6 (upd (upd f12 ((a1 * 52) : Int32).toNatClampNeg a2) (((a1 * 52) + 1) : Int32).toNatClampNeg a3) (0 : Int32).toNatClampNeg (((a1 * 52) + 2) : Int32).toNatClampNeg (a2 : Int32).toNatClampNeg))), (qf6, .inl (cf6, 750, .inl f6)), (qf2, .inl (cf2, 20, .inl f2))] := hD
        refine lv_aload_n hx hb dX1_fillFrame_64 rfl (lv_at hl 1 rfl) ?_
        refine va_get (D := (dC, dI)) (ci := 1) (v := .ref qf2) (C := RX1) (T := TX1) (N := 16) hx hb hts uV_h7_X1 hown hK hP 0 rfl rfl 2 (by decide) (hts (.fieldLink RX1 17 "ClassMill$Code" "stack" "[I") mw_h7_32) (fun _ h9 => h9) rfl dX1_fillFrame_65 ?_
        refine lv_iconst (v := 0) hx hb dX1_fillFrame_68 (by decide) ?_
        refine lv_aload_n hx hb dX1_fillFrame_69 rfl (lv_at hl 1 rfl) ?_
        refine va_get (D := (dC, dI)) (ci := 1) (v := .ref qf12) (C := RX1) (T := TX1) (N := 16) hx hb hts uV_h7_X1 hown hK hP 0 rfl rfl 12 (by decide) (hts (.fieldLink RX1 33 "ClassMill$Code" "frameRow" "[I") mw_h7_26) (fun _ h9 => h9) rfl dX1_fillFrame_70 ?_
        refine lv_iload hx hb dX1_fillFrame_73 (lv_at hl 0 rfl) ?_
        refine lv_iconst (v := 2) hx hb dX1_fillFrame_75 (by decide) ?_
        refine lv_iadd hx hb dX1_fillFrame_76 ?_
        refine lv_iload_n hx hb dX1_fillFrame_77 rfl (lv_at hl 3 rfl) ?_
        refine lv_iadd hx hb dX1_fillFrame_78 ?_
        refine lv_iload_n hx hb dX1_fillFrame_79 rfl (lv_at hl 4 rfl) ?_
        obtain ⟨⟨hc_71, hc_72, hc_73, hc_74, hc_75⟩, hsp⟩ := ox_cp hsp
        refine va_copyi hx hb (by rw [hml]; exact hl.1.symm) hown (hts (.methodLink RX1 110 arraycopyName) mw_h7_28) (hts (.native arraycopyName) mw_h7_29) (hts (.static arraycopyName) mw_h7_30) (hts (.initialized "java/lang/System") mw_h7_31) hK hP hD hS 3 1 2 0 rfl rfl rfl rfl rfl (sp := 0) (dp := (((a1 * 52) + 2) + a2)) (n := a3) hc_71 hc_72 hc_73 hc_74 hc_75 (fun _ _ => rfl) (Nat.le_of_ble_eq_true rfl) (Nat.le_of_ble_eq_true rfl) dX1_fillFrame_80 ?_
        clear hP hD hS
        intro H locs hP hD hS
        replace hP : va_P (dC, dI) vwCl [(h0, .inr (1, [.ref qf0, .int v1, .ref qf2, .int v3, .int v4, .ref qf5, .ref qf6, .int v7, .int v8, .ref qf9, .int v10, .ref qf11, .ref qf12, .ref qf13, .int v14, .int v15])), (qf12, .inl (cf12, 5200, .inl (va_cpy f2 (va_cpy f6 (upd (upd f12 ((a1 * 52) : Int32).toNatClampNeg a2) (((a1 * 52) + 1) : Int32).toNatClampNeg a3) (0 : Int32).toNatClampNeg (((a1 * 52) + 2) : Int32).toNatClampNeg (a2 : Int32).toNatClampNeg) (0 : Int32).toNatClampNeg ((((a1 * 52) + 2) + a2) : Int32).toNatClampNeg (a3 : Int32).toNatClampNeg))), (qf6, .inl (cf6, 750, .inl f6)), (qf2, .inl (cf2, 20, .inl f2))] H := hP
        replace hD : va_D A [(h0, .inr (1, [.ref qf0, .int v1, .ref qf2, .int v3, .int v4, .ref qf5, .ref qf6, .int v7, .int v8, .ref qf9, .int v10, .ref qf11, .ref qf12, .ref qf13, .int v14, .int v15])), (qf12, .inl (cf12, 5200, .inl (va_cpy f2 (va_cpy f6 (upd (upd f12 ((a1 * 52) : Int32).toNatClampNeg a2) (((a1 * 52) + 1) : Int32).toNatClampNeg a3) (0 : Int32).toNatClampNeg (((a1 * 52) + 2) : Int32).toNatClampNeg (a2 : Int32).toNatClampNeg) (0 : Int32).toNatClampNeg ((((a1 * 52) + 2) + a2) : Int32).toNatClampNeg (a3 : Int32).toNatClampNeg))), (qf6, .inl (cf6, 750, .inl f6)), (qf2, .inl (cf2, 20, .inl f2))] := hD
        have hr0 := Option.some.inj hsp
        clear hsp
        obtain ⟨hq0, hr1⟩ := Prod.mk.inj hr0
        clear hr0
        subst hq0
        subst hr1
        have hP9 := hP.sub (ws' := [(h0, .inr (1, [.ref qf0, .int v1, .ref qf2, .int v3, .int v4, .ref qf5, .ref qf6, .int v7, .int v8, .ref qf9, .int v10, .ref qf11, .ref qf12, .ref qf13, .int v14, .int v15])), (qf12, .inl (cf12, 5200, .inl (va_cpy f2 (va_cpy f6 (upd (upd f12 ((a1 * 52) : Int32).toNatClampNeg a2) (((a1 * 52) + 1) : Int32).toNatClampNeg a3) (0 : Int32).toNatClampNeg (((a1 * 52) + 2) : Int32).toNatClampNeg (a2 : Int32).toNatClampNeg) (0 : Int32).toNatClampNeg ((((a1 * 52) + 2) + a2) : Int32).toNatClampNeg (a3 : Int32).toNatClampNeg))), (qf6, .inl (cf6, 750, .inl f6)), (qf2, .inl (cf2, 20, .inl f2))]) [0, 1, 2, 3] rfl
        have hD9 := hD.sub (ws' := [(h0, .inr (1, [.ref qf0, .int v1, .ref qf2, .int v3, .int v4, .ref qf5, .ref qf6, .int v7, .int v8, .ref qf9, .int v10, .ref qf11, .ref qf12, .ref qf13, .int v14, .int v15])), (qf12, .inl (cf12, 5200, .inl (va_cpy f2 (va_cpy f6 (upd (upd f12 ((a1 * 52) : Int32).toNatClampNeg a2) (((a1 * 52) + 1) : Int32).toNatClampNeg a3) (0 : Int32).toNatClampNeg (((a1 * 52) + 2) : Int32).toNatClampNeg (a2 : Int32).toNatClampNeg) (0 : Int32).toNatClampNeg ((((a1 * 52) + 2) + a2) : Int32).toNatClampNeg (a3 : Int32).toNatClampNeg))), (qf6, .inl (cf6, 750, .inl f6)), (qf2, .inl (cf2, 20, .inl f2))]) [0, 1, 2, 3] (by decide) rfl
        have hK9 := hK.sub (tys' := [(cf12, .int), (cf6, .int), (cf2, .int)]) [0, 1, 2] rfl
        exact W.vret hx hb hr (fun t ht hW => ⟨⟨(), rfl, trivial, by rw [ht]; exact hP9, va_K.moved hW.alike hK9, hD9⟩, hS.F ht⟩) hS.2.2 dX1_fillFrame_83
      · rw [if_neg c_3] at hsp
        refine lv_aload_n hx hb dX1_fillFrame_23 rfl (lv_at hl 1 rfl) ?_
        refine lv_iconst (v := 1) hx hb dX1_fillFrame_24 (by decide) ?_
        refine va_put (D := (dC, dI)) (ci := 1) (v := .int 1) (ty := .boolean) (C := RX1) (T := TX1) (N := 16) hx hb hts uV_h7_X1 tyX1 tyX1_ok nmX1 hown hK hP hD hS 0 rfl rfl 15 (by decide) (hts (.fieldLink RX1 61 "ClassMill$Code" "full" "Z") mw_h7_25) (fun _ h9 => h9) rfl (by decide +kernel) rfl rfl (Nat.le_of_ble_eq_true rfl) dX1_fillFrame_25 ?_
        clear hP hD hS
        intro H locs hP hD hS
        replace hP : va_P (dC, dI) vwCl [(h0, .inr (1, [.ref qf0, .int v1, .ref qf2, .int v3, .int v4, .ref qf5, .ref qf6, .int v7, .int v8, .ref qf9, .int v10, .ref qf11, .ref qf12, .ref qf13, .int v14, .int 1])), (qf12, .inl (cf12, 5200, .inl f12)), (qf6, .inl (cf6, 750, .inl f6)), (qf2, .inl (cf2, 20, .inl f2))] H := hP
        replace hD : va_D A [(h0, .inr (1, [.ref qf0, .int v1, .ref qf2, .int v3, .int v4, .ref qf5, .ref qf6, .int v7, .int v8, .ref qf9, .int v10, .ref qf11, .ref qf12, .ref qf13, .int v14, .int 1])), (qf12, .inl (cf12, 5200, .inl f12)), (qf6, .inl (cf6, 750, .inl f6)), (qf2, .inl (cf2, 20, .inl f2))] := hD
        have hr0 := Option.some.inj hsp
        clear hsp
        obtain ⟨hq0, hr1⟩ := Prod.mk.inj hr0
        clear hr0
        subst hq0
        subst hr1
        have hP9 := hP.sub (ws' := [(h0, .inr (1, [.ref qf0, .int v1, .ref qf2, .int v3, .int v4, .ref qf5, .ref qf6, .int v7, .int v8, .ref qf9, .int v10, .ref qf11, .ref qf12, .ref qf13, .int v14, .int 1])), (qf12, .inl (cf12, 5200, .inl f12)), (qf6, .inl (cf6, 750, .inl f6)), (qf2, .inl (cf2, 20, .inl f2))]) [0, 1, 2, 3] rfl
        have hD9 := hD.sub (ws' := [(h0, .inr (1, [.ref qf0, .int v1, .ref qf2, .int v3, .int v4, .ref qf5, .ref qf6, .int v7, .int v8, .ref qf9, .int v10, .ref qf11, .ref qf12, .ref qf13, .int v14, .int 1])), (qf12, .inl (cf12, 5200, .inl f12)), (qf6, .inl (cf6, 750, .inl f6)), (qf2, .inl (cf2, 20, .inl f2))]) [0, 1, 2, 3] (by decide) rfl
        have hK9 := hK.sub (tys' := [(cf12, .int), (cf6, .int), (cf2, .int)]) [0, 1, 2] rfl
        exact W.vret hx hb hr (fun t ht hW => ⟨⟨(), rfl, trivial, by rw [ht]; exact hP9, va_K.moved hW.alike hK9, hD9⟩, hS.F ht⟩) hS.2.2 dX1_fillFrame_28
def jn_v1_slotOfFrame_62 (nf : Nat) (a1 : Int32) (v14 : Int32) (f13 : Nat → Int32) (f11 : Nat → Int32)  (l1_62 : Int32) (l2_62 : Int32) (g11_62 : Nat → Int32) (g13_62 : Nat → Int32) (x14_62 : Int32) : Option (Int32 × (Nat → Int32) × (Nat → Int32) × Int32) := (if x14_62 < 100 then (if cp_ok l2_62 (l2_62 + 1) (x14_62 - l2_62) 100 100 = true then (if l2_62 < 0 then none else if 100 ≤ (l2_62 : Int32).toNatClampNeg then none else (if x14_62 < 0 then none else if 100 ≤ (x14_62 : Int32).toNatClampNeg then none else (if l2_62 < 0 then none else if 100 ≤ (l2_62 : Int32).toNatClampNeg then none else (some (((upd (va_cpy g13_62 g13_62 (l2_62 : Int32).toNatClampNeg ((l2_62 + 1) : Int32).toNatClampNeg ((x14_62 - l2_62) : Int32).toNatClampNeg) (l2_62 : Int32).toNatClampNeg x14_62) (l2_62 : Int32).toNatClampNeg), (upd g11_62 (x14_62 : Int32).toNatClampNeg l1_62), (upd (va_cpy g13_62 g13_62 (l2_62 : Int32).toNatClampNeg ((l2_62 + 1) : Int32).toNatClampNeg ((x14_62 - l2_62) : Int32).toNatClampNeg) (l2_62 : Int32).toNatClampNeg x14_62), (x14_62 + 1)))))) else none) else (some ((-1), g11_62, g13_62, x14_62)))
def jn_v1_slotOfFrame_32 (nf : Nat) (a1 : Int32) (v14 : Int32) (f13 : Nat → Int32) (f11 : Nat → Int32)  (l1_32 : Int32) (l2_32 : Int32) (g11_32 : Nat → Int32) (g13_32 : Nat → Int32) (x14_32 : Int32) : Option (Int32 × (Nat → Int32) × (Nat → Int32) × Int32) := (if l2_32 ≤ 0 then (jn_v1_slotOfFrame_62 nf a1 v14 f13 f11  l1_32 l2_32 g11_32 g13_32 x14_32) else (if (l2_32 - 1) < 0 then none else if 100 ≤ ((l2_32 - 1) : Int32).toNatClampNeg then none else (if (g13_32 ((l2_32 - 1) : Int32).toNatClampNeg) < 0 then none else if 100 ≤ ((g13_32 ((l2_32 - 1) : Int32).toNatClampNeg) : Int32).toNatClampNeg then none else (if (g11_32 ((g13_32 ((l2_32 - 1) : Int32).toNatClampNeg) : Int32).toNatClampNeg) = l1_32 then (if (l2_32 - 1) < 0 then none else if 100 ≤ ((l2_32 - 1) : Int32).toNatClampNeg then none else (some ((g13_32 ((l2_32 - 1) : Int32).toNatClampNeg), g11_32, g13_32, x14_32))) else (jn_v1_slotOfFrame_62 nf a1 v14 f13 f11  l1_32 l2_32 g11_32 g13_32 x14_32)))))
def lp_v1_slotOfFrame_5 (nf n : Nat) (a1 : Int32) (v14 : Int32) (f13 : Nat → Int32) (f11 : Nat → Int32)  (l1_5 : Int32) (l2_5 : Int32) (g11_5 : Nat → Int32) (g13_5 : Nat → Int32) (x14_5 : Int32) : Option (Int32 × (Nat → Int32) × (Nat → Int32) × Int32) := match n with
  | 0 => none
  | n + 1 => (if l2_5 ≤ 0 then (jn_v1_slotOfFrame_32 nf a1 v14 f13 f11  l1_5 l2_5 g11_5 g13_5 x14_5) else (if (l2_5 - 1) < 0 then none else if 100 ≤ ((l2_5 - 1) : Int32).toNatClampNeg then none else (if (g13_5 ((l2_5 - 1) : Int32).toNatClampNeg) < 0 then none else if 100 ≤ ((g13_5 ((l2_5 - 1) : Int32).toNatClampNeg) : Int32).toNatClampNeg then none else (if (g11_5 ((g13_5 ((l2_5 - 1) : Int32).toNatClampNeg) : Int32).toNatClampNeg) ≤ l1_5 then (jn_v1_slotOfFrame_32 nf a1 v14 f13 f11  l1_5 l2_5 g11_5 g13_5 x14_5) else (lp_v1_slotOfFrame_5 nf n a1 v14 f13 f11 l1_5 (l2_5 + (-1)) g11_5 g13_5 x14_5)))))
def sp_v1_slotOfFrame (nf : Nat) (a1 : Int32) (v14 : Int32) (f13 : Nat → Int32) (f11 : Nat → Int32) : Option (Int32 × (Nat → Int32) × (Nat → Int32) × Int32) := (lp_v1_slotOfFrame_5 nf nf a1 v14 f13 f11  a1 v14 f11 f13 v14)

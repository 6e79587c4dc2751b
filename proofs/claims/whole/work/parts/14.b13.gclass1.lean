set_option maxHeartbeats 4000000 in
set_option maxRecDepth 100000 in
/-- ClassMill$Verifier.want -/
theorem t11_want (l : Launch) (dC : Nat → ClassId) (dI : Nat → Nat → Nat) (sz : Nat) (h0 : Nat) (a1 : Int32) (qf0 : Nat) (qf1 : Nat) (v2 : Int32) (v3 : Int32) (v4 : Int32) (qf5 : Nat) (v6 : Int32) (v7 : Int32) (qf8 : Nat) (qf9 : Nat) (qf10 : Nat) (qf11 : Nat) (qf12 : Nat) (qf13 : Nat) (qf14 : Nat) (qf15 : Nat) (v16 : Int32) (v17 : Int32) (v18 : Int32) (v19 : Int32) (v20 : Int32) (cf15 : ClassId) (f15 : (Nat → Int32)) (qf1_0 : Nat) (qf1_1 : Nat) (cf1_1 : ClassId) (f1_1 : (Nat → Int32)) (nf : Nat) (w18 : Int32) (w19 : Int32) (hsp : sp_t11_want nf a1 v18 v19 f15 f1_1 = some (w18, w19)) : Met l yX11_want (.code yX11_want cX11_want 3 none :: VS_h3) ({ frames := 1, cells := 0, slots := 0, locals := 23 }) (va_Pc [.ref h0, .int a1] (fun U => U.heap.size = sz ∧ va_P (dC, dI) vwCl [(h0, .inr (11, [.ref qf0, .ref qf1, .int v2, .int v3, .int v4, .ref qf5, .int v6, .int v7, .ref qf8, .ref qf9, .ref qf10, .ref qf11, .ref qf12, .ref qf13, .ref qf14, .ref qf15, .int v16, .int v17, .int v18, .int v19, .int v20])), (qf15, .inl (cf15, 30, .inl f15)), (qf1, .inr (4, [.ref qf1_0, .ref qf1_1])), (qf1_1, .inl (cf1_1, 256, .inl f1_1))] U.heap ∧ va_K (dC, dI) vwCl [(cf15, .int), (cf1_1, .boolean)] U ∧ va_D (fun _ => True) [(h0, .inr (11, [.ref qf0, .ref qf1, .int v2, .int v3, .int v4, .ref qf5, .int v6, .int v7, .ref qf8, .ref qf9, .ref qf10, .ref qf11, .ref qf12, .ref qf13, .ref qf14, .ref qf15, .int v16, .int v17, .int v18, .int v19, .int v20])), (qf15, .inl (cf15, 30, .inl f15)), (qf1, .inr (4, [.ref qf1_0, .ref qf1_1])), (qf1_1, .inl (cf1_1, 256, .inl f1_1))])) (va_Qv (fun (u : Unit) => match u with | () => True) (fun (u : Unit) (t : State) => match u with | () => va_P (dC, dI) vwCl [(h0, .inr (11, [.ref qf0, .ref qf1, .int v2, .int v3, .int v4, .ref qf5, .int v6, .int v7, .ref qf8, .ref qf9, .ref qf10, .ref qf11, .ref qf12, .ref qf13, .ref qf14, .ref qf15, .int v16, .int v17, .int w18, .int w19, .int v20])), (qf15, .inl (cf15, 30, .inl f15)), (qf1, .inr (4, [.ref qf1_0, .ref qf1_1])), (qf1_1, .inl (cf1_1, 256, .inl f1_1))] t.heap ∧ va_K (dC, dI) vwCl [(cf15, .int), (cf1_1, .boolean)] t ∧ va_D (va_A [(h0, .inr (11, [.ref qf0, .ref qf1, .int v2, .int v3, .int v4, .ref qf5, .int v6, .int v7, .ref qf8, .ref qf9, .ref qf10, .ref qf11, .ref qf12, .ref qf13, .ref qf14, .ref qf15, .int v16, .int v17, .int v18, .int v19, .int v20])), (qf15, .inl (cf15, 30, .inl f15)), (qf1, .inr (4, [.ref qf1_0, .ref qf1_1])), (qf1_1, .inl (cf1_1, 256, .inl f1_1))] sz) [(h0, .inr (11, [.ref qf0, .ref qf1, .int v2, .int v3, .int v4, .ref qf5, .int v6, .int v7, .ref qf8, .ref qf9, .ref qf10, .ref qf11, .ref qf12, .ref qf13, .ref qf14, .ref qf15, .int v16, .int v17, .int w18, .int w19, .int v20])), (qf15, .inl (cf15, 30, .inl f15)), (qf1, .inr (4, [.ref qf1_0, .ref qf1_1])), (qf1_1, .inl (cf1_1, 256, .inl f1_1))]) (va_A [(h0, .inr (11, [.ref qf0, .ref qf1, .int v2, .int v3, .int v4, .ref qf5, .int v6, .int v7, .ref qf8, .ref qf9, .ref qf10, .ref qf11, .ref qf12, .ref qf13, .ref qf14, .ref qf15, .int v16, .int v17, .int v18, .int v19, .int v20])), (qf15, .inl (cf15, 30, .inl f15)), (qf1, .inr (4, [.ref qf1_0, .ref qf1_1])), (qf1_1, .inl (cf1_1, 256, .inl f1_1))] sz)) 0 0 (va_A [(h0, .inr (11, [.ref qf0, .ref qf1, .int v2, .int v3, .int v4, .ref qf5, .int v6, .int v7, .ref qf8, .ref qf9, .ref qf10, .ref qf11, .ref qf12, .ref qf13, .ref qf14, .ref qf15, .int v16, .int v17, .int v18, .int v19, .int v20])), (qf15, .inl (cf15, 30, .inl f15)), (qf1, .inr (4, [.ref qf1_0, .ref qf1_1])), (qf1_1, .inl (cf1_1, 256, .inl f1_1))] sz) := by
  refine Met.ofW (cc := cX11_want) (maxL := 3) (ret := none) (by decide) rfl ?_
  intro p e s m args below meth c s₁ B hml hv
  obtain ⟨rfl, hsz, hP, hK, hD0⟩ := hv
  have hx := B.exec
  have hb := B.bytes
  have hr := B.returns
  have hts := atoms_spec (ws := (.code yX11_want cX11_want 3 none :: VS_h3)) B.pre
  replace hts := fun w (h : w ∈ VS_h3) => hts w (List.mem_cons_of_mem _ h)
  have hown : s.vm.findClass RX11 = some m.cls := findClass_of_methodNamed B.named
  have hlocks := B.notSynchronized
  subst hsz
  have hD := hD0.self (sz := s.heap.size)
  generalize hAe : va_A [(h0, .inr (11, [.ref qf0, .ref qf1, .int v2, .int v3, .int v4, .ref qf5, .int v6, .int v7, .ref qf8, .ref qf9, .ref qf10, .ref qf11, .ref qf12, .ref qf13, .ref qf14, .ref qf15, .int v16, .int v17, .int v18, .int v19, .int v20])), (qf15, .inl (cf15, 30, .inl f15)), (qf1, .inr (4, [.ref qf1_0, .ref qf1_1])), (qf1_1, .inl (cf1_1, 256, .inl f1_1))] s.heap.size = A at hD  ⊢
  have hA : ∀ q : Nat, s.heap.size ≤ q → A q := fun q h => by rw [← hAe]; exact Or.inr h
  have hP : va_P (dC, dI) vwCl [(h0, .inr (11, [.ref qf0, .ref qf1, .int v2, .int v3, .int v4, .ref qf5, .int v6, .int v7, .ref qf8, .ref qf9, .ref qf10, .ref qf11, .ref qf12, .ref qf13, .ref qf14, .ref qf15, .int v16, .int v17, .int v18, .int v19, .int v20])), (qf15, .inl (cf15, 30, .inl f15)), (qf1, .inr (4, [.ref qf1_0, .ref qf1_1])), (qf1_1, .inl (cf1_1, 256, .inl f1_1))] s.heap := hP
  have hl := lv_entry ([.ref h0, .int a1]) (n := 3) (Nat.le_of_ble_eq_true rfl)
  rw [lg_entry_eq]
  generalize (lg_sl ([.ref h0, .int a1]) ++ List.replicate (3 - (lg_sl ([.ref h0, .int a1])).length) Slot.unset).toArray = ls at hl ⊢
  have hl : lv_has ls 3 [(0, .ref h0), (1, .int a1)] := hl
  obtain ⟨H, hH⟩ : ∃ H : Heap, s.heap = H := ⟨_, rfl⟩
  rw [hH] at hP ⊢
  have hS : va_S A s.heap H [] := by rw [← hH]; exact va_S.rf
  obtain ⟨locs, hlo⟩ : ∃ locs : List Loc, locs = [] := ⟨_, rfl⟩
  rw [← hlo] at hS ⊢
  unfold sp_t11_want at hsp
  refine lv_aload_n hx hb dX11_want_0 rfl (lv_at hl 0 rfl) ?_
  obtain ⟨⟨u1_0, u1_1, u1_2⟩, hu_1, hsp⟩ := ox_bind hsp
  try dsimp only at hsp
  have hPc := hP.sub (ws' := [(h0, .inr (11, [.ref qf0, .ref qf1, .int v2, .int v3, .int v4, .ref qf5, .int v6, .int v7, .ref qf8, .ref qf9, .ref qf10, .ref qf11, .ref qf12, .ref qf13, .ref qf14, .ref qf15, .int v16, .int v17, .int v18, .int v19, .int v20])), (qf15, .inl (cf15, 30, .inl f15))]) [0, 1] rfl
  have hDc := hD.sub (ws' := [(h0, .inr (11, [.ref qf0, .ref qf1, .int v2, .int v3, .int v4, .ref qf5, .int v6, .int v7, .ref qf8, .ref qf9, .ref qf10, .ref qf11, .ref qf12, .ref qf13, .ref qf14, .ref qf15, .int v16, .int v17, .int v18, .int v19, .int v20])), (qf15, .inl (cf15, 30, .inl f15))]) [0, 1] (by decide) rfl
  have hKc := hK.sub (tys' := [(cf15, .int)]) [0] rfl
  have hFc := va_free (wc := [(h0, .inr (11, [.ref qf0, .ref qf1, .int v2, .int v3, .int v4, .ref qf5, .int v6, .int v7, .ref qf8, .ref qf9, .ref qf10, .ref qf11, .ref qf12, .ref qf13, .ref qf14, .ref qf15, .int v16, .int v17, .int v18, .int v19, .int v20])), (qf15, .inl (cf15, 30, .inl f15))]) hD hS hA [0, 1] rfl
  refine va_calli (va_runV (As := []) (rest := []) ⟨hx, hb, hml, hown, hts⟩ (t11_pop l dC dI H.size h0 qf0 qf1 v2 v3 v4 qf5 v6 v7 qf8 qf9 qf10 qf11 qf12 qf13 qf14 qf15 v16 v17 v18 v19 v20 cf15 f15 nf u1_0 u1_1 u1_2 hu_1) (cwV 0 hts gv_h3_49 rfl rfl rfl (by decide +kernel) ⟨Nat.le_of_ble_eq_true rfl, Nat.le_of_ble_eq_true rfl⟩) ⟨fun a U g mk q => by obtain ⟨q0, q1, qP, qK, qD⟩ := q; exact ⟨q0, q1, qP, va_K.moved (u := U) (U := U.calling g mk a) (Vm.Alike.refl U.vm) qK, qD⟩, va_recv hKc hPc (ci := 11) (q0 := 0) rfl rfl, fun U hU hW => ⟨rfl, by rw [hU], by rw [hU]; exact hPc, va_K.moved hW.alike hKc, hDc.weaken (fun _ _ _ _ => trivial)⟩⟩ rfl rfl hl.1 rfl (lv_room (Nat.le_of_ble_eq_true rfl)) dX11_want_1 ⟨Nat.le_of_ble_eq_true rfl, Nat.le_of_ble_eq_true rfl⟩) hS (fun q _ h => hFc q h) hFc ?_
  clear hS
  intro r_1 u t H1 locs ht hvm hw hB hz1 hk1 hS
  obtain ⟨⟩ := u
  obtain ⟨hP1, hK1, hD1⟩ := hB
  rw [ht] at hP1
  have hK1 := va_K.moved hvm.symm hK1
  try dsimp only at hw
  have hPD := va_join (wr := [(qf1, .inr (4, [.ref qf1_0, .ref qf1_1])), (qf1_1, .inl (cf1_1, 256, .inl f1_1))]) (w1 := [(h0, .inr (11, [.ref qf0, .ref qf1, .int v2, .int v3, .int v4, .ref qf5, .int v6, .int v7, .ref qf8, .ref qf9, .ref qf10, .ref qf11, .ref qf12, .ref qf13, .ref qf14, .ref qf15, .int v16, .int v17, .int u1_1, .int u1_2, .int v20])), (qf15, .inl (cf15, 30, .inl f15))]) hP hD [0, 1] [2, 3] rfl rfl (by decide) (by decide) hk1 hFc hP1 hD1
  clear hP hD
  obtain ⟨hP, hD⟩ := hPD
  replace hK := (hK.sub (tys' := [(cf1_1, .boolean)]) [1] rfl).app hK1
  clear hPc hDc hKc hFc hP1 hK1 hD1 hz1 hk1 ht hvm
  generalize H1 = H at hP hS ⊢
  replace hP : va_P (dC, dI) vwCl [(qf1, .inr (4, [.ref qf1_0, .ref qf1_1])), (qf1_1, .inl (cf1_1, 256, .inl f1_1)), (h0, .inr (11, [.ref qf0, .ref qf1, .int v2, .int v3, .int v4, .ref qf5, .int v6, .int v7, .ref qf8, .ref qf9, .ref qf10, .ref qf11, .ref qf12, .ref qf13, .ref qf14, .ref qf15, .int v16, .int v17, .int u1_1, .int u1_2, .int v20])), (qf15, .inl (cf15, 30, .inl f15))] H := hP
  replace hD : va_D A [(qf1, .inr (4, [.ref qf1_0, .ref qf1_1])), (qf1_1, .inl (cf1_1, 256, .inl f1_1)), (h0, .inr (11, [.ref qf0, .ref qf1, .int v2, .int v3, .int v4, .ref qf5, .int v6, .int v7, .ref qf8, .ref qf9, .ref qf10, .ref qf11, .ref qf12, .ref qf13, .ref qf14, .ref qf15, .int v16, .int v17, .int u1_1, .int u1_2, .int v20])), (qf15, .inl (cf15, 30, .inl f15))] := hD
  replace hK : va_K (dC, dI) vwCl [(cf1_1, .boolean), (cf15, .int)] s := hK
  obtain rfl := hw
  refine lv_istore_n (lv' := [(2, .int u1_0), (0, .ref h0), (1, .int a1)]) hx hb dX11_want_4 rfl hl (by decide) rfl (fun ls hl => ?_)
  refine lv_aload_n hx hb dX11_want_5 rfl (lv_at hl 1 rfl) ?_
  refine lv_aload_n hx hb dX11_want_6 rfl (lv_at hl 1 rfl) ?_
  refine va_get (D := (dC, dI)) (ci := 11) (v := .int u1_2) (C := RX11) (T := TX11) (N := 21) hx hb hts uV_h3_X11 hown hK hP 2 rfl rfl 19 (by decide) (hts (.fieldLink RX11 295 "ClassMill$Verifier" "fitting" "Z") mw_h3_220) (fun _ h9 => h9) rfl dX11_want_7 ?_
  refine lv_if_eq (tgt := 36) hx hb dX11_want_10 (by decide) (fun c_2 => ?_) (fun c_2 => ?_)
  · rw [if_pos c_2] at hsp
    refine lv_iconst (v := 0) hx hb dX11_want_36 (by decide) ?_
    refine va_put (D := (dC, dI)) (ci := 11) (v := .int 0) (ty := .boolean) (C := RX11) (T := TX11) (N := 21) hx hb hts uV_h3_X11 tyX11 tyX11_ok nmX11 hown hK hP hD hS 2 rfl rfl 19 (by decide) (hts (.fieldLink RX11 295 "ClassMill$Verifier" "fitting" "Z") mw_h3_220) (fun _ h9 => h9) rfl (by decide +kernel) rfl rfl (Nat.le_of_ble_eq_true rfl) dX11_want_37 ?_
    clear hP hD hS
    intro H locs hP hD hS
    replace hP : va_P (dC, dI) vwCl [(qf1, .inr (4, [.ref qf1_0, .ref qf1_1])), (qf1_1, .inl (cf1_1, 256, .inl f1_1)), (h0, .inr (11, [.ref qf0, .ref qf1, .int v2, .int v3, .int v4, .ref qf5, .int v6, .int v7, .ref qf8, .ref qf9, .ref qf10, .ref qf11, .ref qf12, .ref qf13, .ref qf14, .ref qf15, .int v16, .int v17, .int u1_1, .int 0, .int v20])), (qf15, .inl (cf15, 30, .inl f15))] H := hP
    replace hD : va_D A [(qf1, .inr (4, [.ref qf1_0, .ref qf1_1])), (qf1_1, .inl (cf1_1, 256, .inl f1_1)), (h0, .inr (11, [.ref qf0, .ref qf1, .int v2, .int v3, .int v4, .ref qf5, .int v6, .int v7, .ref qf8, .ref qf9, .ref qf10, .ref qf11, .ref qf12, .ref qf13, .ref qf14, .ref qf15, .int v16, .int v17, .int u1_1, .int 0, .int v20])), (qf15, .inl (cf15, 30, .inl f15))] := hD
    have hr0 := Option.some.inj hsp
    clear hsp
    obtain ⟨hq0, hr1⟩ := Prod.mk.inj hr0
    clear hr0
    subst hq0
    subst hr1
    have hP9 := hP.sub (ws' := [(h0, .inr (11, [.ref qf0, .ref qf1, .int v2, .int v3, .int v4, .ref qf5, .int v6, .int v7, .ref qf8, .ref qf9, .ref qf10, .ref qf11, .ref qf12, .ref qf13, .ref qf14, .ref qf15, .int v16, .int v17, .int u1_1, .int 0, .int v20])), (qf15, .inl (cf15, 30, .inl f15)), (qf1, .inr (4, [.ref qf1_0, .ref qf1_1])), (qf1_1, .inl (cf1_1, 256, .inl f1_1))]) [2, 3, 0, 1] rfl
    have hD9 := hD.sub (ws' := [(h0, .inr (11, [.ref qf0, .ref qf1, .int v2, .int v3, .int v4, .ref qf5, .int v6, .int v7, .ref qf8, .ref qf9, .ref qf10, .ref qf11, .ref qf12, .ref qf13, .ref qf14, .ref qf15, .int v16, .int v17, .int u1_1, .int 0, .int v20])), (qf15, .inl (cf15, 30, .inl f15)), (qf1, .inr (4, [.ref qf1_0, .ref qf1_1])), (qf1_1, .inl (cf1_1, 256, .inl f1_1))]) [2, 3, 0, 1] (by decide) rfl
    have hK9 := hK.sub (tys' := [(cf15, .int), (cf1_1, .boolean)]) [1, 0] rfl
    exact W.vret hx hb hr (fun t ht hW => ⟨⟨(), rfl, trivial, by rw [ht]; exact hP9, va_K.moved hW.alike hK9, hD9⟩, hS.F ht⟩) hS.2.2 dX11_want_40
  · rw [if_neg c_2] at hsp
    refine lv_iload_n hx hb dX11_want_13 rfl (lv_at hl 2 rfl) ?_
    refine lv_sipush (v := 304) hx hb dX11_want_14 (by decide) ?_
    refine lv_icmp_eq (tgt := 32) hx hb dX11_want_17 (by decide) (fun c_3 => ?_) (fun c_3 => ?_)
    · rw [if_pos c_3] at hsp
      refine lv_iconst (v := 1) hx hb dX11_want_32 (by decide) ?_
      refine lv_goto (tgt := 37) hx hb dX11_want_33 (by decide) ?_
      refine va_put (D := (dC, dI)) (ci := 11) (v := .int 1) (ty := .boolean) (C := RX11) (T := TX11) (N := 21) hx hb hts uV_h3_X11 tyX11 tyX11_ok nmX11 hown hK hP hD hS 2 rfl rfl 19 (by decide) (hts (.fieldLink RX11 295 "ClassMill$Verifier" "fitting" "Z") mw_h3_220) (fun _ h9 => h9) rfl (by decide +kernel) rfl rfl (Nat.le_of_ble_eq_true rfl) dX11_want_37 ?_
      clear hP hD hS
      intro H locs hP hD hS
      replace hP : va_P (dC, dI) vwCl [(qf1, .inr (4, [.ref qf1_0, .ref qf1_1])), (qf1_1, .inl (cf1_1, 256, .inl f1_1)), (h0, .inr (11, [.ref qf0, .ref qf1, .int v2, .int v3, .int v4, .ref qf5, .int v6, .int v7, .ref qf8, .ref qf9, .ref qf10, .ref qf11, .ref qf12, .ref qf13, .ref qf14, .ref qf15, .int v16, .int v17, .int u1_1, .int 1, .int v20])), (qf15, .inl (cf15, 30, .inl f15))] H := hP
      replace hD : va_D A [(qf1, .inr (4, [.ref qf1_0, .ref qf1_1])), (qf1_1, .inl (cf1_1, 256, .inl f1_1)), (h0, .inr (11, [.ref qf0, .ref qf1, .int v2, .int v3, .int v4, .ref qf5, .int v6, .int v7, .ref qf8, .ref qf9, .ref qf10, .ref qf11, .ref qf12, .ref qf13, .ref qf14, .ref qf15, .int v16, .int v17, .int u1_1, .int 1, .int v20])), (qf15, .inl (cf15, 30, .inl f15))] := hD
      have hr0 := Option.some.inj hsp
      clear hsp
      obtain ⟨hq0, hr1⟩ := Prod.mk.inj hr0
      clear hr0
      subst hq0
      subst hr1
      have hP9 := hP.sub (ws' := [(h0, .inr (11, [.ref qf0, .ref qf1, .int v2, .int v3, .int v4, .ref qf5, .int v6, .int v7, .ref qf8, .ref qf9, .ref qf10, .ref qf11, .ref qf12, .ref qf13, .ref qf14, .ref qf15, .int v16, .int v17, .int u1_1, .int 1, .int v20])), (qf15, .inl (cf15, 30, .inl f15)), (qf1, .inr (4, [.ref qf1_0, .ref qf1_1])), (qf1_1, .inl (cf1_1, 256, .inl f1_1))]) [2, 3, 0, 1] rfl
      have hD9 := hD.sub (ws' := [(h0, .inr (11, [.ref qf0, .ref qf1, .int v2, .int v3, .int v4, .ref qf5, .int v6, .int v7, .ref qf8, .ref qf9, .ref qf10, .ref qf11, .ref qf12, .ref qf13, .ref qf14, .ref qf15, .int v16, .int v17, .int u1_1, .int 1, .int v20])), (qf15, .inl (cf15, 30, .inl f15)), (qf1, .inr (4, [.ref qf1_0, .ref qf1_1])), (qf1_1, .inl (cf1_1, 256, .inl f1_1))]) [2, 3, 0, 1] (by decide) rfl
      have hK9 := hK.sub (tys' := [(cf15, .int), (cf1_1, .boolean)]) [1, 0] rfl
      exact W.vret hx hb hr (fun t ht hW => ⟨⟨(), rfl, trivial, by rw [ht]; exact hP9, va_K.moved hW.alike hK9, hD9⟩, hS.F ht⟩) hS.2.2 dX11_want_40
    · rw [if_neg c_3] at hsp
      refine lv_aload_n hx hb dX11_want_20 rfl (lv_at hl 1 rfl) ?_
      refine va_get (D := (dC, dI)) (ci := 11) (v := .ref qf1) (C := RX11) (T := TX11) (N := 21) hx hb hts uV_h3_X11 hown hK hP 2 rfl rfl 1 (by decide) (hts (.fieldLink RX11 60 "ClassMill$Verifier" "kin" "LClassMill$Kin;") mw_h3_200) (fun _ h9 => h9) rfl dX11_want_21 ?_
      refine lv_iload_n hx hb dX11_want_24 rfl (lv_at hl 0 rfl) ?_
      refine lv_iload_n hx hb dX11_want_25 rfl (lv_at hl 2 rfl) ?_
      obtain ⟨u2_0, hu_2, hsp⟩ := ox_bind hsp
      try dsimp only at hsp
      have hPc := hP.sub (ws' := [(qf1, .inr (4, [.ref qf1_0, .ref qf1_1])), (qf1_1, .inl (cf1_1, 256, .inl f1_1))]) [0, 1] rfl
      have hDc := hD.sub (ws' := [(qf1, .inr (4, [.ref qf1_0, .ref qf1_1])), (qf1_1, .inl (cf1_1, 256, .inl f1_1))]) [0, 1] (by decide) rfl
      have hKc := hK.sub (tys' := [(cf1_1, .boolean)]) [0] rfl
      have hFc := va_free (wc := [(qf1, .inr (4, [.ref qf1_0, .ref qf1_1])), (qf1_1, .inl (cf1_1, 256, .inl f1_1))]) hD hS hA [0, 1] rfl
      refine va_calli (va_runV (As := [.int u1_0, .int a1]) (rest := [.ref h0]) ⟨hx, hb, hml, hown, hts⟩ (t4_fits l dC dI H.size qf1 u1_0 a1 qf1_0 qf1_1 cf1_1 f1_1 nf u2_0 hu_2) (cwV 2 hts gv_h3_44 rfl rfl rfl (by decide +kernel) ⟨Nat.le_of_ble_eq_true rfl, Nat.le_of_ble_eq_true rfl⟩) ⟨fun a U g mk q => by obtain ⟨q0, q1, qP, qK, qD⟩ := q; exact ⟨q0, q1, qP, va_K.moved (u := U) (U := U.calling g mk a) (Vm.Alike.refl U.vm) qK, qD⟩, va_recv hKc hPc (ci := 4) (q0 := 0) rfl rfl, fun U hU hW => ⟨rfl, by rw [hU], by rw [hU]; exact hPc, va_K.moved hW.alike hKc, hDc.weaken (fun _ _ _ _ => trivial)⟩⟩ rfl rfl hl.1 rfl (lv_room (Nat.le_of_ble_eq_true rfl)) dX11_want_26 ⟨Nat.le_of_ble_eq_true rfl, Nat.le_of_ble_eq_true rfl⟩) hS (fun q _ h => hFc q h) hFc ?_
      clear hS
      intro r_4 u t H1 locs ht hvm hw hB hz1 hk1 hS
      obtain ⟨⟩ := u
      obtain ⟨hP1, hK1, hD1⟩ := hB
      rw [ht] at hP1
      have hK1 := va_K.moved hvm.symm hK1
      try dsimp only at hw
      have hPD := va_join (wr := [(h0, .inr (11, [.ref qf0, .ref qf1, .int v2, .int v3, .int v4, .ref qf5, .int v6, .int v7, .ref qf8, .ref qf9, .ref qf10, .ref qf11, .ref qf12, .ref qf13, .ref qf14, .ref qf15, .int v16, .int v17, .int u1_1, .int u1_2, .int v20])), (qf15, .inl (cf15, 30, .inl f15))]) (w1 := [(qf1, .inr (4, [.ref qf1_0, .ref qf1_1])), (qf1_1, .inl (cf1_1, 256, .inl f1_1))]) hP hD [0, 1] [2, 3] rfl rfl (by decide) (by decide) hk1 hFc hP1 hD1
      clear hP hD
      obtain ⟨hP, hD⟩ := hPD
      replace hK := (hK.sub (tys' := [(cf15, .int)]) [1] rfl).app hK1
      clear hPc hDc hKc hFc hP1 hK1 hD1 hz1 hk1 ht hvm
      generalize H1 = H at hP hS ⊢
      replace hP : va_P (dC, dI) vwCl [(h0, .inr (11, [.ref qf0, .ref qf1, .int v2, .int v3, .int v4, .ref qf5, .int v6, .int v7, .ref qf8, .ref qf9, .ref qf10, .ref qf11, .ref qf12, .ref qf13, .ref qf14, .ref qf15, .int v16, .int v17, .int u1_1, .int u1_2, .int v20])), (qf15, .inl (cf15, 30, .inl f15)), (qf1, .inr (4, [.ref qf1_0, .ref qf1_1])), (qf1_1, .inl (cf1_1, 256, .inl f1_1))] H := hP
      replace hD : va_D A [(h0, .inr (11, [.ref qf0, .ref qf1, .int v2, .int v3, .int v4, .ref qf5, .int v6, .int v7, .ref qf8, .ref qf9, .ref qf10, .ref qf11, .ref qf12, .ref qf13, .ref qf14, .ref qf15, .int v16, .int v17, .int u1_1, .int u1_2, .int v20])), (qf15, .inl (cf15, 30, .inl f15)), (qf1, .inr (4, [.ref qf1_0, .ref qf1_1])), (qf1_1, .inl (cf1_1, 256, .inl f1_1))] := hD
      replace hK : va_K (dC, dI) vwCl [(cf15, .int), (cf1_1, .boolean)] s := hK
      obtain ⟨rfl, hz_2⟩ := hw
      rcases hz_2 with rfl | rfl
      · rw [if_pos rfl] at hsp
        refine lv_if_eq (tgt := 36) hx hb dX11_want_29 (by decide) (fun c_5 => ?_) (fun c_5 => (show False by revert c_5; decide).elim)
        refine lv_iconst (v := 0) hx hb dX11_want_36 (by decide) ?_
        refine va_put (D := (dC, dI)) (ci := 11) (v := .int 0) (ty := .boolean) (C := RX11) (T := TX11) (N := 21) hx hb hts uV_h3_X11 tyX11 tyX11_ok nmX11 hown hK hP hD hS 0 rfl rfl 19 (by decide) (hts (.fieldLink RX11 295 "ClassMill$Verifier" "fitting" "Z") mw_h3_220) (fun _ h9 => h9) rfl (by decide +kernel) rfl rfl (Nat.le_of_ble_eq_true rfl) dX11_want_37 ?_
        clear hP hD hS
        intro H locs hP hD hS
        replace hP : va_P (dC, dI) vwCl [(h0, .inr (11, [.ref qf0, .ref qf1, .int v2, .int v3, .int v4, .ref qf5, .int v6, .int v7, .ref qf8, .ref qf9, .ref qf10, .ref qf11, .ref qf12, .ref qf13, .ref qf14, .ref qf15, .int v16, .int v17, .int u1_1, .int 0, .int v20])), (qf15, .inl (cf15, 30, .inl f15)), (qf1, .inr (4, [.ref qf1_0, .ref qf1_1])), (qf1_1, .inl (cf1_1, 256, .inl f1_1))] H := hP
        replace hD : va_D A [(h0, .inr (11, [.ref qf0, .ref qf1, .int v2, .int v3, .int v4, .ref qf5, .int v6, .int v7, .ref qf8, .ref qf9, .ref qf10, .ref qf11, .ref qf12, .ref qf13, .ref qf14, .ref qf15, .int v16, .int v17, .int u1_1, .int 0, .int v20])), (qf15, .inl (cf15, 30, .inl f15)), (qf1, .inr (4, [.ref qf1_0, .ref qf1_1])), (qf1_1, .inl (cf1_1, 256, .inl f1_1))] := hD
        have hr0 := Option.some.inj hsp
        clear hsp
        obtain ⟨hq0, hr1⟩ := Prod.mk.inj hr0
        clear hr0
        subst hq0
        subst hr1
        have hP9 := hP.sub (ws' := [(h0, .inr (11, [.ref qf0, .ref qf1, .int v2, .int v3, .int v4, .ref qf5, .int v6, .int v7, .ref qf8, .ref qf9, .ref qf10, .ref qf11, .ref qf12, .ref qf13, .ref qf14, .ref qf15, .int v16, .int v17, .int u1_1, .int 0, .int v20])), (qf15, .inl (cf15, 30, .inl f15)), (qf1, .inr (4, [.ref qf1_0, .ref qf1_1])), (qf1_1, .inl (cf1_1, 256, .inl f1_1))]) [0, 1, 2, 3] rfl
        have hD9 := hD.sub (ws' := [(h0, .inr (11, [.ref qf0, .ref qf1, .int v2, .int v3, .int v4, .ref qf5, .int v6, .int v7, .ref qf8, .ref qf9, .ref qf10, .ref qf11, .ref qf12, .ref qf13, .ref qf14, .ref qf15, .int v16, .int v17, .int u1_1, .int 0, .int v20])), (qf15, .inl (cf15, 30, .inl f15)), (qf1, .inr (4, [.ref qf1_0, .ref qf1_1])), (qf1_1, .inl (cf1_1, 256, .inl f1_1))]) [0, 1, 2, 3] (by decide) rfl
        have hK9 := hK.sub (tys' := [(cf15, .int), (cf1_1, .boolean)]) [0, 1] rfl
        exact W.vret hx hb hr (fun t ht hW => ⟨⟨(), rfl, trivial, by rw [ht]; exact hP9, va_K.moved hW.alike hK9, hD9⟩, hS.F ht⟩) hS.2.2 dX11_want_40
      · rw [if_neg (by decide)] at hsp
        refine lv_if_eq (tgt := 36) hx hb dX11_want_29 (by decide) (fun c_6 => (show False by revert c_6; decide).elim) (fun c_6 => ?_)
        refine lv_iconst (v := 1) hx hb dX11_want_32 (by decide) ?_
        refine lv_goto (tgt := 37) hx hb dX11_want_33 (by decide) ?_
        refine va_put (D := (dC, dI)) (ci := 11) (v := .int 1) (ty := .boolean) (C := RX11) (T := TX11) (N := 21) hx hb hts uV_h3_X11 tyX11 tyX11_ok nmX11 hown hK hP hD hS 0 rfl rfl 19 (by decide) (hts (.fieldLink RX11 295 "ClassMill$Verifier" "fitting" "Z") mw_h3_220) (fun _ h9 => h9) rfl (by decide +kernel) rfl rfl (Nat.le_of_ble_eq_true rfl) dX11_want_37 ?_
        clear hP hD hS
        intro H locs hP hD hS
        replace hP : va_P (dC, dI) vwCl [(h0, .inr (11, [.ref qf0, .ref qf1, .int v2, .int v3, .int v4, .ref qf5, .int v6, .int v7, .ref qf8, .ref qf9, .ref qf10, .ref qf11, .ref qf12, .ref qf13, .ref qf14, .ref qf15, .int v16, .int v17, .int u1_1, .int 1, .int v20])), (qf15, .inl (cf15, 30, .inl f15)), (qf1, .inr (4, [.ref qf1_0, .ref qf1_1])), (qf1_1, .inl (cf1_1, 256, .inl f1_1))] H := hP
        replace hD : va_D A [(h0, .inr (11, [.ref qf0, .ref qf1, .int v2, .int v3, .int v4, .ref qf5, .int v6, .int v7, .ref qf8, .ref qf9, .ref qf10, .ref qf11, .ref qf12, .ref qf13, .ref qf14, .ref qf15, .int v16, .int v17, .int u1_1, .int 1, .int v20])), (qf15, .inl (cf15, 30, .inl f15)), (qf1, .inr (4, [.ref qf1_0, .ref qf1_1])), (qf1_1, .inl (cf1_1, 256, .inl f1_1))] := hD
        have hr0 := Option.some.inj hsp
        clear hsp
        obtain ⟨hq0, hr1⟩ := Prod.mk.inj hr0
        clear hr0
        subst hq0
        subst hr1
        have hP9 := hP.sub (ws' := [(h0, .inr (11, [.ref qf0, .ref qf1, .int v2, .int v3, .int v4, .ref qf5, .int v6, .int v7, .ref qf8, .ref qf9, .ref qf10, .ref qf11, .ref qf12, .ref qf13, .ref qf14, .ref qf15, .int v16, .int v17, .int u1_1, .int 1, .int v20])), (qf15, .inl (cf15, 30, .inl f15)), (qf1, .inr (4, [.ref qf1_0, .ref qf1_1])), (qf1_1, .inl (cf1_1, 256, .inl f1_1))]) [0, 1, 2, 3] rfl
        have hD9 := hD.sub (ws' := [(h0, .inr (11, [.ref qf0, .ref qf1, .int v2, .int v3, .int v4, .ref qf5, .int v6, .int v7, .ref qf8, .ref qf9, .ref qf10, .ref qf11, .ref qf12, .ref qf13, .ref qf14, .ref qf15, .int v16, .int v17, .int u1_1, .int 1, .int v20])), (qf15, .inl (cf15, 30, .inl f15)), (qf1, .inr (4, [.ref qf1_0, .ref qf1_1])), (qf1_1, .inl (cf1_1, 256, .inl f1_1))]) [0, 1, 2, 3] (by decide) rfl
        have hK9 := hK.sub (tys' := [(cf15, .int), (cf1_1, .boolean)]) [0, 1] rfl
        exact W.vret hx hb hr (fun t ht hW => ⟨⟨(), rfl, trivial, by rw [ht]; exact hP9, va_K.moved hW.alike hK9, hD9⟩, hS.F ht⟩) hS.2.2 dX11_want_40
def sp_t11_wantReference (nf : Nat) (v18 : Int32) (v19 : Int32) (f15 : Nat → Int32) : Option (Int32 × Int32 × Int32) := ((sp_t11_pop nf v18 v19 f15).bind (fun p1 => (if p1.2.2 = 0 then (some (p1.1, p1.2.1, 0)) else ((sp_t4_isReference nf p1.1).bind (fun p2 => (if p2 = 0 then (some (p1.1, p1.2.1, 0)) else (some (p1.1, p1.2.1, 1))))))))
set_option maxHeartbeats 4000000 in
set_option maxRecDepth 100000 in
/-- ClassMill$Verifier.wantReference -/
theorem t11_wantReference (l : Launch) (dC : Nat → ClassId) (dI : Nat → Nat → Nat) (sz : Nat) (h0 : Nat) (qf0 : Nat) (qf1 : Nat) (v2 : Int32) (v3 : Int32) (v4 : Int32) (qf5 : Nat) (v6 : Int32) (v7 : Int32) (qf8 : Nat) (qf9 : Nat) (qf10 : Nat) (qf11 : Nat) (qf12 : Nat) (qf13 : Nat) (qf14 : Nat) (qf15 : Nat) (v16 : Int32) (v17 : Int32) (v18 : Int32) (v19 : Int32) (v20 : Int32) (cf15 : ClassId) (f15 : (Nat → Int32)) (nf : Nat) (r0 : Int32) (w18 : Int32) (w19 : Int32) (hsp : sp_t11_wantReference nf v18 v19 f15 = some (r0, w18, w19)) : Met l yX11_wantReference (.code yX11_wantReference cX11_wantReference 2 (some .int) :: VS_h3) ({ frames := 1, cells := 0, slots := 0, locals := 20 }) (va_Pc [.ref h0] (fun U => U.heap.size = sz ∧ va_P (dC, dI) vwCl [(h0, .inr (11, [.ref qf0, .ref qf1, .int v2, .int v3, .int v4, .ref qf5, .int v6, .int v7, .ref qf8, .ref qf9, .ref qf10, .ref qf11, .ref qf12, .ref qf13, .ref qf14, .ref qf15, .int v16, .int v17, .int v18, .int v19, .int v20])), (qf15, .inl (cf15, 30, .inl f15))] U.heap ∧ va_K (dC, dI) vwCl [(cf15, .int)] U ∧ va_D (fun _ => True) [(h0, .inr (11, [.ref qf0, .ref qf1, .int v2, .int v3, .int v4, .ref qf5, .int v6, .int v7, .ref qf8, .ref qf9, .ref qf10, .ref qf11, .ref qf12, .ref qf13, .ref qf14, .ref qf15, .int v16, .int v17, .int v18, .int v19, .int v20])), (qf15, .inl (cf15, 30, .inl f15))])) (va_Qi (fun (r : Int32) (u : Unit) => match u with | () => r0 = r) (fun (u : Unit) (t : State) => match u with | () => va_P (dC, dI) vwCl [(h0, .inr (11, [.ref qf0, .ref qf1, .int v2, .int v3, .int v4, .ref qf5, .int v6, .int v7, .ref qf8, .ref qf9, .ref qf10, .ref qf11, .ref qf12, .ref qf13, .ref qf14, .ref qf15, .int v16, .int v17, .int w18, .int w19, .int v20])), (qf15, .inl (cf15, 30, .inl f15))] t.heap ∧ va_K (dC, dI) vwCl [(cf15, .int)] t ∧ va_D (va_A [(h0, .inr (11, [.ref qf0, .ref qf1, .int v2, .int v3, .int v4, .ref qf5, .int v6, .int v7, .ref qf8, .ref qf9, .ref qf10, .ref qf11, .ref qf12, .ref qf13, .ref qf14, .ref qf15, .int v16, .int v17, .int v18, .int v19, .int v20])), (qf15, .inl (cf15, 30, .inl f15))] sz) [(h0, .inr (11, [.ref qf0, .ref qf1, .int v2, .int v3, .int v4, .ref qf5, .int v6, .int v7, .ref qf8, .ref qf9, .ref qf10, .ref qf11, .ref qf12, .ref qf13, .ref qf14, .ref qf15, .int v16, .int v17, .int w18, .int w19, .int v20])), (qf15, .inl (cf15, 30, .inl f15))]) (va_A [(h0, .inr (11, [.ref qf0, .ref qf1, .int v2, .int v3, .int v4, .ref qf5, .int v6, .int v7, .ref qf8, .ref qf9, .ref qf10, .ref qf11, .ref qf12, .ref qf13, .ref qf14, .ref qf15, .int v16, .int v17, .int v18, .int v19, .int v20])), (qf15, .inl (cf15, 30, .inl f15))] sz)) 0 0 (va_A [(h0, .inr (11, [.ref qf0, .ref qf1, .int v2, .int v3, .int v4, .ref qf5, .int v6, .int v7, .ref qf8, .ref qf9, .ref qf10, .ref qf11, .ref qf12, .ref qf13, .ref qf14, .ref qf15, .int v16, .int v17, .int v18, .int v19, .int v20])), (qf15, .inl (cf15, 30, .inl f15))] sz) := by
  refine Met.ofW (cc := cX11_wantReference) (maxL := 2) (ret := (some .int)) (by decide) rfl ?_
  intro p e s m args below meth c s₁ B hml hv
  obtain ⟨rfl, hsz, hP, hK, hD0⟩ := hv
  have hx := B.exec
  have hb := B.bytes
  have hr := B.returns
  have hts := atoms_spec (ws := (.code yX11_wantReference cX11_wantReference 2 (some .int) :: VS_h3)) B.pre
  replace hts := fun w (h : w ∈ VS_h3) => hts w (List.mem_cons_of_mem _ h)
  have hown : s.vm.findClass RX11 = some m.cls := findClass_of_methodNamed B.named
  have hlocks := B.notSynchronized
  subst hsz
  have hD := hD0.self (sz := s.heap.size)
  generalize hAe : va_A [(h0, .inr (11, [.ref qf0, .ref qf1, .int v2, .int v3, .int v4, .ref qf5, .int v6, .int v7, .ref qf8, .ref qf9, .ref qf10, .ref qf11, .ref qf12, .ref qf13, .ref qf14, .ref qf15, .int v16, .int v17, .int v18, .int v19, .int v20])), (qf15, .inl (cf15, 30, .inl f15))] s.heap.size = A at hD  ⊢
  have hA : ∀ q : Nat, s.heap.size ≤ q → A q := fun q h => by rw [← hAe]; exact Or.inr h
  have hP : va_P (dC, dI) vwCl [(h0, .inr (11, [.ref qf0, .ref qf1, .int v2, .int v3, .int v4, .ref qf5, .int v6, .int v7, .ref qf8, .ref qf9, .ref qf10, .ref qf11, .ref qf12, .ref qf13, .ref qf14, .ref qf15, .int v16, .int v17, .int v18, .int v19, .int v20])), (qf15, .inl (cf15, 30, .inl f15))] s.heap := hP
  have hl := lv_entry ([.ref h0]) (n := 2) (Nat.le_of_ble_eq_true rfl)
  rw [lg_entry_eq]
  generalize (lg_sl ([.ref h0]) ++ List.replicate (2 - (lg_sl ([.ref h0])).length) Slot.unset).toArray = ls at hl ⊢
  have hl : lv_has ls 2 [(0, .ref h0)] := hl
  obtain ⟨H, hH⟩ : ∃ H : Heap, s.heap = H := ⟨_, rfl⟩
  rw [hH] at hP ⊢
  have hS : va_S A s.heap H [] := by rw [← hH]; exact va_S.rf
  obtain ⟨locs, hlo⟩ : ∃ locs : List Loc, locs = [] := ⟨_, rfl⟩
  rw [← hlo] at hS ⊢
  unfold sp_t11_wantReference at hsp
  refine lv_aload_n hx hb dX11_wantReference_0 rfl (lv_at hl 0 rfl) ?_
  obtain ⟨⟨u1_0, u1_1, u1_2⟩, hu_1, hsp⟩ := ox_bind hsp
  try dsimp only at hsp
  have hPc := hP.sub (ws' := [(h0, .inr (11, [.ref qf0, .ref qf1, .int v2, .int v3, .int v4, .ref qf5, .int v6, .int v7, .ref qf8, .ref qf9, .ref qf10, .ref qf11, .ref qf12, .ref qf13, .ref qf14, .ref qf15, .int v16, .int v17, .int v18, .int v19, .int v20])), (qf15, .inl (cf15, 30, .inl f15))]) [0, 1] rfl
  have hDc := hD.sub (ws' := [(h0, .inr (11, [.ref qf0, .ref qf1, .int v2, .int v3, .int v4, .ref qf5, .int v6, .int v7, .ref qf8, .ref qf9, .ref qf10, .ref qf11, .ref qf12, .ref qf13, .ref qf14, .ref qf15, .int v16, .int v17, .int v18, .int v19, .int v20])), (qf15, .inl (cf15, 30, .inl f15))]) [0, 1] (by decide) rfl
  have hKc := hK.sub (tys' := [(cf15, .int)]) [0] rfl
  have hFc := va_free (wc := [(h0, .inr (11, [.ref qf0, .ref qf1, .int v2, .int v3, .int v4, .ref qf5, .int v6, .int v7, .ref qf8, .ref qf9, .ref qf10, .ref qf11, .ref qf12, .ref qf13, .ref qf14, .ref qf15, .int v16, .int v17, .int v18, .int v19, .int v20])), (qf15, .inl (cf15, 30, .inl f15))]) hD hS hA [0, 1] rfl
  refine va_calli (va_runV (As := []) (rest := []) ⟨hx, hb, hml, hown, hts⟩ (t11_pop l dC dI H.size h0 qf0 qf1 v2 v3 v4 qf5 v6 v7 qf8 qf9 qf10 qf11 qf12 qf13 qf14 qf15 v16 v17 v18 v19 v20 cf15 f15 nf u1_0 u1_1 u1_2 hu_1) (cwV 0 hts gv_h3_49 rfl rfl rfl (by decide +kernel) ⟨Nat.le_of_ble_eq_true rfl, Nat.le_of_ble_eq_true rfl⟩) ⟨fun a U g mk q => by obtain ⟨q0, q1, qP, qK, qD⟩ := q; exact ⟨q0, q1, qP, va_K.moved (u := U) (U := U.calling g mk a) (Vm.Alike.refl U.vm) qK, qD⟩, va_recv hKc hPc (ci := 11) (q0 := 0) rfl rfl, fun U hU hW => ⟨rfl, by rw [hU], by rw [hU]; exact hPc, va_K.moved hW.alike hKc, hDc.weaken (fun _ _ _ _ => trivial)⟩⟩ rfl rfl hl.1 rfl (lv_room (Nat.le_of_ble_eq_true rfl)) dX11_wantReference_1 ⟨Nat.le_of_ble_eq_true rfl, Nat.le_of_ble_eq_true rfl⟩) hS (fun q _ h => hFc q h) hFc ?_
  clear hS
  intro r_1 u t H1 locs ht hvm hw hB hz1 hk1 hS
  obtain ⟨⟩ := u
  obtain ⟨hP1, hK1, hD1⟩ := hB
  rw [ht] at hP1
  have hK1 := va_K.moved hvm.symm hK1
  try dsimp only at hw
  have hPD := va_join (wr := []) (w1 := [(h0, .inr (11, [.ref qf0, .ref qf1, .int v2, .int v3, .int v4, .ref qf5, .int v6, .int v7, .ref qf8, .ref qf9, .ref qf10, .ref qf11, .ref qf12, .ref qf13, .ref qf14, .ref qf15, .int v16, .int v17, .int u1_1, .int u1_2, .int v20])), (qf15, .inl (cf15, 30, .inl f15))]) hP hD [0, 1] [] rfl rfl (by decide) (by decide) hk1 hFc hP1 hD1
  clear hP hD
  obtain ⟨hP, hD⟩ := hPD
  replace hK := (hK.sub (tys' := []) [] rfl).app hK1
  clear hPc hDc hKc hFc hP1 hK1 hD1 hz1 hk1 ht hvm
  generalize H1 = H at hP hS ⊢
  replace hP : va_P (dC, dI) vwCl [(h0, .inr (11, [.ref qf0, .ref qf1, .int v2, .int v3, .int v4, .ref qf5, .int v6, .int v7, .ref qf8, .ref qf9, .ref qf10, .ref qf11, .ref qf12, .ref qf13, .ref qf14, .ref qf15, .int v16, .int v17, .int u1_1, .int u1_2, .int v20])), (qf15, .inl (cf15, 30, .inl f15))] H := hP
  replace hD : va_D A [(h0, .inr (11, [.ref qf0, .ref qf1, .int v2, .int v3, .int v4, .ref qf5, .int v6, .int v7, .ref qf8, .ref qf9, .ref qf10, .ref qf11, .ref qf12, .ref qf13, .ref qf14, .ref qf15, .int v16, .int v17, .int u1_1, .int u1_2, .int v20])), (qf15, .inl (cf15, 30, .inl f15))] := hD
  replace hK : va_K (dC, dI) vwCl [(cf15, .int)] s := hK
  obtain rfl := hw
  refine lv_istore_n (lv' := [(1, .int u1_0), (0, .ref h0)]) hx hb dX11_wantReference_4 rfl hl (by decide) rfl (fun ls hl => ?_)
  refine lv_aload_n hx hb dX11_wantReference_5 rfl (lv_at hl 1 rfl) ?_
  refine lv_aload_n hx hb dX11_wantReference_6 rfl (lv_at hl 1 rfl) ?_
  refine va_get (D := (dC, dI)) (ci := 11) (v := .int u1_2) (C := RX11) (T := TX11) (N := 21) hx hb hts uV_h3_X11 hown hK hP 0 rfl rfl 19 (by decide) (hts (.fieldLink RX11 295 "ClassMill$Verifier" "fitting" "Z") mw_h3_220) (fun _ h9 => h9) rfl dX11_wantReference_7 ?_
  refine lv_if_eq (tgt := 24) hx hb dX11_wantReference_10 (by decide) (fun c_2 => ?_) (fun c_2 => ?_)
  · rw [if_pos c_2] at hsp
    refine lv_iconst (v := 0) hx hb dX11_wantReference_24 (by decide) ?_
    refine va_put (D := (dC, dI)) (ci := 11) (v := .int 0) (ty := .boolean) (C := RX11) (T := TX11) (N := 21) hx hb hts uV_h3_X11 tyX11 tyX11_ok nmX11 hown hK hP hD hS 0 rfl rfl 19 (by decide) (hts (.fieldLink RX11 295 "ClassMill$Verifier" "fitting" "Z") mw_h3_220) (fun _ h9 => h9) rfl (by decide +kernel) rfl rfl (Nat.le_of_ble_eq_true rfl) dX11_wantReference_25 ?_
    clear hP hD hS
    intro H locs hP hD hS
    replace hP : va_P (dC, dI) vwCl [(h0, .inr (11, [.ref qf0, .ref qf1, .int v2, .int v3, .int v4, .ref qf5, .int v6, .int v7, .ref qf8, .ref qf9, .ref qf10, .ref qf11, .ref qf12, .ref qf13, .ref qf14, .ref qf15, .int v16, .int v17, .int u1_1, .int 0, .int v20])), (qf15, .inl (cf15, 30, .inl f15))] H := hP
    replace hD : va_D A [(h0, .inr (11, [.ref qf0, .ref qf1, .int v2, .int v3, .int v4, .ref qf5, .int v6, .int v7, .ref qf8, .ref qf9, .ref qf10, .ref qf11, .ref qf12, .ref qf13, .ref qf14, .ref qf15, .int v16, .int v17, .int u1_1, .int 0, .int v20])), (qf15, .inl (cf15, 30, .inl f15))] := hD
    refine lv_iload_n hx hb dX11_wantReference_28 rfl (lv_at hl 0 rfl) ?_
    have hr0 := Option.some.inj hsp
    clear hsp
    obtain ⟨hq0, hr1⟩ := Prod.mk.inj hr0
    clear hr0
    obtain ⟨hq1, hr2⟩ := Prod.mk.inj hr1
    clear hr1
    subst hq0
    subst hq1
    subst hr2
    have hP9 := hP.sub (ws' := [(h0, .inr (11, [.ref qf0, .ref qf1, .int v2, .int v3, .int v4, .ref qf5, .int v6, .int v7, .ref qf8, .ref qf9, .ref qf10, .ref qf11, .ref qf12, .ref qf13, .ref qf14, .ref qf15, .int v16, .int v17, .int u1_1, .int 0, .int v20])), (qf15, .inl (cf15, 30, .inl f15))]) [0, 1] rfl
    have hD9 := hD.sub (ws' := [(h0, .inr (11, [.ref qf0, .ref qf1, .int v2, .int v3, .int v4, .ref qf5, .int v6, .int v7, .ref qf8, .ref qf9, .ref qf10, .ref qf11, .ref qf12, .ref qf13, .ref qf14, .ref qf15, .int v16, .int v17, .int u1_1, .int 0, .int v20])), (qf15, .inl (cf15, 30, .inl f15))]) [0, 1] (by decide) rfl
    have hK9 := hK.sub (tys' := [(cf15, .int)]) [0] rfl
    exact W.iret hx hb hr (fun t ht hW => ⟨⟨(u1_0), (), rfl, rfl, by rw [ht]; exact hP9, va_K.moved hW.alike hK9, hD9⟩, hS.F ht⟩) hS.2.2 dX11_wantReference_29
  · rw [if_neg c_2] at hsp
    refine lv_iload_n hx hb dX11_wantReference_13 rfl (lv_at hl 0 rfl) ?_
    obtain ⟨u2_0, hu_2, hsp⟩ := ox_bind hsp
    try dsimp only at hsp
    have hPc := hP.sub (ws' := []) [] rfl
    have hDc := hD.sub (ws' := []) [] (by decide) rfl
    have hKc := hK.sub (tys' := []) [] rfl
    have hFc := va_free (wc := []) hD hS hA [] rfl
    refine va_calli (va_runS (As := [.int u1_0]) (rest := [.ref h0]) ⟨hx, hb, hml, hown, hts⟩ (t4_isReference l dC dI H.size u1_0 nf u2_0 hu_2) (va_cwS 1 hts gv_h3_50 rfl rfl rfl (by decide +kernel) ⟨Nat.le_of_ble_eq_true rfl, Nat.le_of_ble_eq_true rfl⟩) ⟨fun a U g mk q => by obtain ⟨q0, q1, qP, qK, qD⟩ := q; exact ⟨q0, q1, qP, va_K.moved (u := U) (U := U.calling g mk a) (Vm.Alike.refl U.vm) qK, qD⟩, fun U hU hW => ⟨rfl, by rw [hU], by rw [hU]; exact hPc, va_K.moved hW.alike hKc, hDc.weaken (fun _ _ _ _ => trivial)⟩⟩ rfl rfl hl.1 rfl (lv_room (Nat.le_of_ble_eq_true rfl)) dX11_wantReference_14 ⟨Nat.le_of_ble_eq_true rfl, Nat.le_of_ble_eq_true rfl⟩) hS (fun q _ h => hFc q h) hFc ?_
    clear hS
    intro r_3 u t H1 locs ht hvm hw hB hz1 hk1 hS
    obtain ⟨⟩ := u
    obtain ⟨hP1, hK1, hD1⟩ := hB
    rw [ht] at hP1
    have hK1 := va_K.moved hvm.symm hK1
    try dsimp only at hw
    have hPD := va_join (wr := [(h0, .inr (11, [.ref qf0, .ref qf1, .int v2, .int v3, .int v4, .ref qf5, .int v6, .int v7, .ref qf8, .ref qf9, .ref qf10, .ref qf11, .ref qf12, .ref qf13, .ref qf14, .ref qf15, .int v16, .int v17, .int u1_1, .int u1_2, .int v20])), (qf15, .inl (cf15, 30, .inl f15))]) (w1 := []) hP hD [] [0, 1] rfl rfl (by decide) (by decide) hk1 hFc hP1 hD1
    clear hP hD
    obtain ⟨hP, hD⟩ := hPD
    replace hK := (hK.sub (tys' := [(cf15, .int)]) [0] rfl).app hK1
    clear hPc hDc hKc hFc hP1 hK1 hD1 hz1 hk1 ht hvm
    generalize H1 = H at hP hS ⊢
    replace hP : va_P (dC, dI) vwCl [(h0, .inr (11, [.ref qf0, .ref qf1, .int v2, .int v3, .int v4, .ref qf5, .int v6, .int v7, .ref qf8, .ref qf9, .ref qf10, .ref qf11, .ref qf12, .ref qf13, .ref qf14, .ref qf15, .int v16, .int v17, .int u1_1, .int u1_2, .int v20])), (qf15, .inl (cf15, 30, .inl f15))] H := hP
    replace hD : va_D A [(h0, .inr (11, [.ref qf0, .ref qf1, .int v2, .int v3, .int v4, .ref qf5, .int v6, .int v7, .ref qf8, .ref qf9, .ref qf10, .ref qf11, .ref qf12, .ref qf13, .ref qf14, .ref qf15, .int v16, .int v17, .int u1_1, .int u1_2, .int v20])), (qf15, .inl (cf15, 30, .inl f15))] := hD
    replace hK : va_K (dC, dI) vwCl [(cf15, .int)] s := hK
    obtain ⟨rfl, hz_2⟩ := hw
    rcases hz_2 with rfl | rfl
    · rw [if_pos rfl] at hsp
      refine lv_if_eq (tgt := 24) hx hb dX11_wantReference_17 (by decide) (fun c_4 => ?_) (fun c_4 => (show False by revert c_4; decide).elim)
      refine lv_iconst (v := 0) hx hb dX11_wantReference_24 (by decide) ?_
      refine va_put (D := (dC, dI)) (ci := 11) (v := .int 0) (ty := .boolean) (C := RX11) (T := TX11) (N := 21) hx hb hts uV_h3_X11 tyX11 tyX11_ok nmX11 hown hK hP hD hS 0 rfl rfl 19 (by decide) (hts (.fieldLink RX11 295 "ClassMill$Verifier" "fitting" "Z") mw_h3_220) (fun _ h9 => h9) rfl (by decide +kernel) rfl rfl (Nat.le_of_ble_eq_true rfl) dX11_wantReference_25 ?_
      clear hP hD hS
      intro H locs hP hD hS
      replace hP : va_P (dC, dI) vwCl [(h0, .inr (11, [.ref qf0, .ref qf1, .int v2, .int v3, .int v4, .ref qf5, .int v6, .int v7, .ref qf8, .ref qf9, .ref qf10, .ref qf11, .ref qf12, .ref qf13, .ref qf14, .ref qf15, .int v16, .int v17, .int u1_1, .int 0, .int v20])), (qf15, .inl (cf15, 30, .inl f15))] H := hP
      replace hD : va_D A [(h0, .inr (11, [.ref qf0, .ref qf1, .int v2, .int v3, .int v4, .ref qf5, .int v6, .int v7, .ref qf8, .ref qf9, .ref qf10, .ref qf11, .ref qf12, .ref qf13, .ref qf14, .ref qf15, .int v16, .int v17, .int u1_1, .int 0, .int v20])), (qf15, .inl (cf15, 30, .inl f15))] := hD
      refine lv_iload_n hx hb dX11_wantReference_28 rfl (lv_at hl 0 rfl) ?_
      have hr0 := Option.some.inj hsp
      clear hsp
      obtain ⟨hq0, hr1⟩ := Prod.mk.inj hr0
      clear hr0
      obtain ⟨hq1, hr2⟩ := Prod.mk.inj hr1
      clear hr1
      subst hq0
      subst hq1
      subst hr2
      have hP9 := hP.sub (ws' := [(h0, .inr (11, [.ref qf0, .ref qf1, .int v2, .int v3, .int v4, .ref qf5, .int v6, .int v7, .ref qf8, .ref qf9, .ref qf10, .ref qf11, .ref qf12, .ref qf13, .ref qf14, .ref qf15, .int v16, .int v17, .int u1_1, .int 0, .int v20])), (qf15, .inl (cf15, 30, .inl f15))]) [0, 1] rfl
      have hD9 := hD.sub (ws' := [(h0, .inr (11, [.ref qf0, .ref qf1, .int v2, .int v3, .int v4, .ref qf5, .int v6, .int v7, .ref qf8, .ref qf9, .ref qf10, .ref qf11, .ref qf12, .ref qf13, .ref qf14, .ref qf15, .int v16, .int v17, .int u1_1, .int 0, .int v20])), (qf15, .inl (cf15, 30, .inl f15))]) [0, 1] (by decide) rfl
      have hK9 := hK.sub (tys' := [(cf15, .int)]) [0] rfl
      exact W.iret hx hb hr (fun t ht hW => ⟨⟨(u1_0), (), rfl, rfl, by rw [ht]; exact hP9, va_K.moved hW.alike hK9, hD9⟩, hS.F ht⟩) hS.2.2 dX11_wantReference_29
    · rw [if_neg (by decide)] at hsp
      refine lv_if_eq (tgt := 24) hx hb dX11_wantReference_17 (by decide) (fun c_5 => (show False by revert c_5; decide).elim) (fun c_5 => ?_)
      refine lv_iconst (v := 1) hx hb dX11_wantReference_20 (by decide) ?_
      refine lv_goto (tgt := 25) hx hb dX11_wantReference_21 (by decide) ?_
      refine va_put (D := (dC, dI)) (ci := 11) (v := .int 1) (ty := .boolean) (C := RX11) (T := TX11) (N := 21) hx hb hts uV_h3_X11 tyX11 tyX11_ok nmX11 hown hK hP hD hS 0 rfl rfl 19 (by decide) (hts (.fieldLink RX11 295 "ClassMill$Verifier" "fitting" "Z") mw_h3_220) (fun _ h9 => h9) rfl (by decide +kernel) rfl rfl (Nat.le_of_ble_eq_true rfl) dX11_wantReference_25 ?_
      clear hP hD hS
      intro H locs hP hD hS
      replace hP : va_P (dC, dI) vwCl [(h0, .inr (11, [.ref qf0, .ref qf1, .int v2, .int v3, .int v4, .ref qf5, .int v6, .int v7, .ref qf8, .ref qf9, .ref qf10, .ref qf11, .ref qf12, .ref qf13, .ref qf14, .ref qf15, .int v16, .int v17, .int u1_1, .int 1, .int v20])), (qf15, .inl (cf15, 30, .inl f15))] H := hP
      replace hD : va_D A [(h0, .inr (11, [.ref qf0, .ref qf1, .int v2, .int v3, .int v4, .ref qf5, .int v6, .int v7, .ref qf8, .ref qf9, .ref qf10, .ref qf11, .ref qf12, .ref qf13, .ref qf14, .ref qf15, .int v16, .int v17, .int u1_1, .int 1, .int v20])), (qf15, .inl (cf15, 30, .inl f15))] := hD
      refine lv_iload_n hx hb dX11_wantReference_28 rfl (lv_at hl 0 rfl) ?_
      have hr0 := Option.some.inj hsp
      clear hsp
      obtain ⟨hq0, hr1⟩ := Prod.mk.inj hr0
      clear hr0
      obtain ⟨hq1, hr2⟩ := Prod.mk.inj hr1
      clear hr1
      subst hq0
      subst hq1
      subst hr2
      have hP9 := hP.sub (ws' := [(h0, .inr (11, [.ref qf0, .ref qf1, .int v2, .int v3, .int v4, .ref qf5, .int v6, .int v7, .ref qf8, .ref qf9, .ref qf10, .ref qf11, .ref qf12, .ref qf13, .ref qf14, .ref qf15, .int v16, .int v17, .int u1_1, .int 1, .int v20])), (qf15, .inl (cf15, 30, .inl f15))]) [0, 1] rfl
      have hD9 := hD.sub (ws' := [(h0, .inr (11, [.ref qf0, .ref qf1, .int v2, .int v3, .int v4, .ref qf5, .int v6, .int v7, .ref qf8, .ref qf9, .ref qf10, .ref qf11, .ref qf12, .ref qf13, .ref qf14, .ref qf15, .int v16, .int v17, .int u1_1, .int 1, .int v20])), (qf15, .inl (cf15, 30, .inl f15))]) [0, 1] (by decide) rfl
      have hK9 := hK.sub (tys' := [(cf15, .int)]) [0] rfl
      exact W.iret hx hb hr (fun t ht hW => ⟨⟨(u1_0), (), rfl, rfl, by rw [ht]; exact hP9, va_K.moved hW.alike hK9, hD9⟩, hS.F ht⟩) hS.2.2 dX11_wantReference_29
def sp_t11_wantArray (nf : Nat) (a1 : Int32) (a2 : Int32) (v18 : Int32) (v19 : Int32) (f15 : Nat → Int32) : Option (Int32 × Int32 × Int32) := ((sp_t11_pop nf v18 v19 f15).bind (fun p1 => (if p1.1 = 300 then (if p1.2.2 = 0 then (some (p1.1, p1.2.1, 0)) else (some (p1.1, p1.2.1, 1))) else (if p1.1 = 200 then (if a1 = 0 then (if p1.2.2 = 0 then (some (p1.1, p1.2.1, 0)) else (some (p1.1, p1.2.1, 0))) else (if p1.2.2 = 0 then (some (p1.1, p1.2.1, 0)) else (some (p1.1, p1.2.1, 1)))) else (if a2 = 0 then (if p1.2.2 = 0 then (some (p1.1, p1.2.1, 0)) else (some (p1.1, p1.2.1, 0))) else ((sp_t4_isArray nf p1.1).bind (fun p2 => (if p2 = 0 then (if p1.2.2 = 0 then (some (p1.1, p1.2.1, 0)) else (some (p1.1, p1.2.1, 0))) else (if p1.2.2 = 0 then (some (p1.1, p1.2.1, 0)) else (some (p1.1, p1.2.1, 1)))))))))))
set_option maxHeartbeats 4000000 in
set_option maxRecDepth 100000 in
/-- ClassMill$Verifier.wantArray -/
theorem t11_wantArray (l : Launch) (dC : Nat → ClassId) (dI : Nat → Nat → Nat) (sz : Nat) (h0 : Nat) (a1 : Int32) (a2 : Int32) (qf0 : Nat) (qf1 : Nat) (v2 : Int32) (v3 : Int32) (v4 : Int32) (qf5 : Nat) (v6 : Int32) (v7 : Int32) (qf8 : Nat) (qf9 : Nat) (qf10 : Nat) (qf11 : Nat) (qf12 : Nat) (qf13 : Nat) (qf14 : Nat) (qf15 : Nat) (v16 : Int32) (v17 : Int32) (v18 : Int32) (v19 : Int32) (v20 : Int32) (cf15 : ClassId) (f15 : (Nat → Int32)) (nf : Nat) (r0 : Int32) (w18 : Int32) (w19 : Int32) (hsp : sp_t11_wantArray nf a1 a2 v18 v19 f15 = some (r0, w18, w19)) : Met l yX11_wantArray (.code yX11_wantArray cX11_wantArray 5 (some .int) :: VS_h3) ({ frames := 1, cells := 0, slots := 0, locals := 20 }) (va_Pc [.ref h0, .int a1, .int a2] (fun U => U.heap.size = sz ∧ va_P (dC, dI) vwCl [(h0, .inr (11, [.ref qf0, .ref qf1, .int v2, .int v3, .int v4, .ref qf5, .int v6, .int v7, .ref qf8, .ref qf9, .ref qf10, .ref qf11, .ref qf12, .ref qf13, .ref qf14, .ref qf15, .int v16, .int v17, .int v18, .int v19, .int v20])), (qf15, .inl (cf15, 30, .inl f15))] U.heap ∧ va_K (dC, dI) vwCl [(cf15, .int)] U ∧ va_D (fun _ => True) [(h0, .inr (11, [.ref qf0, .ref qf1, .int v2, .int v3, .int v4, .ref qf5, .int v6, .int v7, .ref qf8, .ref qf9, .ref qf10, .ref qf11, .ref qf12, .ref qf13, .ref qf14, .ref qf15, .int v16, .int v17, .int v18, .int v19, .int v20])), (qf15, .inl (cf15, 30, .inl f15))])) (va_Qi (fun (r : Int32) (u : Unit) => match u with | () => r0 = r) (fun (u : Unit) (t : State) => match u with | () => va_P (dC, dI) vwCl [(h0, .inr (11, [.ref qf0, .ref qf1, .int v2, .int v3, .int v4, .ref qf5, .int v6, .int v7, .ref qf8, .ref qf9, .ref qf10, .ref qf11, .ref qf12, .ref qf13, .ref qf14, .ref qf15, .int v16, .int v17, .int w18, .int w19, .int v20])), (qf15, .inl (cf15, 30, .inl f15))] t.heap ∧ va_K (dC, dI) vwCl [(cf15, .int)] t ∧ va_D (va_A [(h0, .inr (11, [.ref qf0, .ref qf1, .int v2, .int v3, .int v4, .ref qf5, .int v6, .int v7, .ref qf8, .ref qf9, .ref qf10, .ref qf11, .ref qf12, .ref qf13, .ref qf14, .ref qf15, .int v16, .int v17, .int v18, .int v19, .int v20])), (qf15, .inl (cf15, 30, .inl f15))] sz) [(h0, .inr (11, [.ref qf0, .ref qf1, .int v2, .int v3, .int v4, .ref qf5, .int v6, .int v7, .ref qf8, .ref qf9, .ref qf10, .ref qf11, .ref qf12, .ref qf13, .ref qf14, .ref qf15, .int v16, .int v17, .int w18, .int w19, .int v20])), (qf15, .inl (cf15, 30, .inl f15))]) (va_A [(h0, .inr (11, [.ref qf0, .ref qf1, .int v2, .int v3, .int v4, .ref qf5, .int v6, .int v7, .ref qf8, .ref qf9, .ref qf10, .ref qf11, .ref qf12, .ref qf13, .ref qf14, .ref qf15, .int v16, .int v17, .int v18, .int v19, .int v20])), (qf15, .inl (cf15, 30, .inl f15))] sz)) 0 0 (va_A [(h0, .inr (11, [.ref qf0, .ref qf1, .int v2, .int v3, .int v4, .ref qf5, .int v6, .int v7, .ref qf8, .ref qf9, .ref qf10, .ref qf11, .ref qf12, .ref qf13, .ref qf14, .ref qf15, .int v16, .int v17, .int v18, .int v19, .int v20])), (qf15, .inl (cf15, 30, .inl f15))] sz) := by
  refine Met.ofW (cc := cX11_wantArray) (maxL := 5) (ret := (some .int)) (by decide) rfl ?_
  intro p e s m args below meth c s₁ B hml hv
  obtain ⟨rfl, hsz, hP, hK, hD0⟩ := hv
  have hx := B.exec
  have hb := B.bytes
  have hr := B.returns
  have hts := atoms_spec (ws := (.code yX11_wantArray cX11_wantArray 5 (some .int) :: VS_h3)) B.pre
  replace hts := fun w (h : w ∈ VS_h3) => hts w (List.mem_cons_of_mem _ h)
  have hown : s.vm.findClass RX11 = some m.cls := findClass_of_methodNamed B.named
  have hlocks := B.notSynchronized
  subst hsz
  have hD := hD0.self (sz := s.heap.size)
  generalize hAe : va_A [(h0, .inr (11, [.ref qf0, .ref qf1, .int v2, .int v3, .int v4, .ref qf5, .int v6, .int v7, .ref qf8, .ref qf9, .ref qf10, .ref qf11, .ref qf12, .ref qf13, .ref qf14, .ref qf15, .int v16, .int v17, .int v18, .int v19, .int v20])), (qf15, .inl (cf15, 30, .inl f15))] s.heap.size = A at hD  ⊢
  have hA : ∀ q : Nat, s.heap.size ≤ q → A q := fun q h => by rw [← hAe]; exact Or.inr h
  have hP : va_P (dC, dI) vwCl [(h0, .inr (11, [.ref qf0, .ref qf1, .int v2, .int v3, .int v4, .ref qf5, .int v6, .int v7, .ref qf8, .ref qf9, .ref qf10, .ref qf11, .ref qf12, .ref qf13, .ref qf14, .ref qf15, .int v16, .int v17, .int v18, .int v19, .int v20])), (qf15, .inl (cf15, 30, .inl f15))] s.heap := hP
  have hl := lv_entry ([.ref h0, .int a1, .int a2]) (n := 5) (Nat.le_of_ble_eq_true rfl)
  rw [lg_entry_eq]
  generalize (lg_sl ([.ref h0, .int a1, .int a2]) ++ List.replicate (5 - (lg_sl ([.ref h0, .int a1, .int a2])).length) Slot.unset).toArray = ls at hl ⊢
  have hl : lv_has ls 5 [(0, .ref h0), (1, .int a1), (2, .int a2)] := hl
  obtain ⟨H, hH⟩ : ∃ H : Heap, s.heap = H := ⟨_, rfl⟩
  rw [hH] at hP ⊢
  have hS : va_S A s.heap H [] := by rw [← hH]; exact va_S.rf
  obtain ⟨locs, hlo⟩ : ∃ locs : List Loc, locs = [] := ⟨_, rfl⟩
  rw [← hlo] at hS ⊢
  unfold sp_t11_wantArray at hsp
  refine lv_aload_n hx hb dX11_wantArray_0 rfl (lv_at hl 0 rfl) ?_
  obtain ⟨⟨u1_0, u1_1, u1_2⟩, hu_1, hsp⟩ := ox_bind hsp
  try dsimp only at hsp
  have hPc := hP.sub (ws' := [(h0, .inr (11, [.ref qf0, .ref qf1, .int v2, .int v3, .int v4, .ref qf5, .int v6, .int v7, .ref qf8, .ref qf9, .ref qf10, .ref qf11, .ref qf12, .ref qf13, .ref qf14, .ref qf15, .int v16, .int v17, .int v18, .int v19, .int v20])), (qf15, .inl (cf15, 30, .inl f15))]) [0, 1] rfl
  have hDc := hD.sub (ws' := [(h0, .inr (11, [.ref qf0, .ref qf1, .int v2, .int v3, .int v4, .ref qf5, .int v6, .int v7, .ref qf8, .ref qf9, .ref qf10, .ref qf11, .ref qf12, .ref qf13, .ref qf14, .ref qf15, .int v16, .int v17, .int v18, .int v19, .int v20])), (qf15, .inl (cf15, 30, .inl f15))]) [0, 1] (by decide) rfl
  have hKc := hK.sub (tys' := [(cf15, .int)]) [0] rfl
  have hFc := va_free (wc := [(h0, .inr (11, [.ref qf0, .ref qf1, .int v2, .int v3, .int v4, .ref qf5, .int v6, .int v7, .ref qf8, .ref qf9, .ref qf10, .ref qf11, .ref qf12, .ref qf13, .ref qf14, .ref qf15, .int v16, .int v17, .int v18, .int v19, .int v20])), (qf15, .inl (cf15, 30, .inl f15))]) hD hS hA [0, 1] rfl
  refine va_calli (va_runV (As := []) (rest := []) ⟨hx, hb, hml, hown, hts⟩ (t11_pop l dC dI H.size h0 qf0 qf1 v2 v3 v4 qf5 v6 v7 qf8 qf9 qf10 qf11 qf12 qf13 qf14 qf15 v16 v17 v18 v19 v20 cf15 f15 nf u1_0 u1_1 u1_2 hu_1) (cwV 0 hts gv_h3_49 rfl rfl rfl (by decide +kernel) ⟨Nat.le_of_ble_eq_true rfl, Nat.le_of_ble_eq_true rfl⟩) ⟨fun a U g mk q => by obtain ⟨q0, q1, qP, qK, qD⟩ := q; exact ⟨q0, q1, qP, va_K.moved (u := U) (U := U.calling g mk a) (Vm.Alike.refl U.vm) qK, qD⟩, va_recv hKc hPc (ci := 11) (q0 := 0) rfl rfl, fun U hU hW => ⟨rfl, by rw [hU], by rw [hU]; exact hPc, va_K.moved hW.alike hKc, hDc.weaken (fun _ _ _ _ => trivial)⟩⟩ rfl rfl hl.1 rfl (lv_room (Nat.le_of_ble_eq_true rfl)) dX11_wantArray_1 ⟨Nat.le_of_ble_eq_true rfl, Nat.le_of_ble_eq_true rfl⟩) hS (fun q _ h => hFc q h) hFc ?_
  clear hS
  intro r_1 u t H1 locs ht hvm hw hB hz1 hk1 hS
  obtain ⟨⟩ := u
  obtain ⟨hP1, hK1, hD1⟩ := hB
  rw [ht] at hP1
  have hK1 := va_K.moved hvm.symm hK1
  try dsimp only at hw
  have hPD := va_join (wr := []) (w1 := [(h0, .inr (11, [.ref qf0, .ref qf1, .int v2, .int v3, .int v4, .ref qf5, .int v6, .int v7, .ref qf8, .ref qf9, .ref qf10, .ref qf11, .ref qf12, .ref qf13, .ref qf14, .ref qf15, .int v16, .int v17, .int u1_1, .int u1_2, .int v20])), (qf15, .inl (cf15, 30, .inl f15))]) hP hD [0, 1] [] rfl rfl (by decide) (by decide) hk1 hFc hP1 hD1
  clear hP hD
  obtain ⟨hP, hD⟩ := hPD
  replace hK := (hK.sub (tys' := []) [] rfl).app hK1
  clear hPc hDc hKc hFc hP1 hK1 hD1 hz1 hk1 ht hvm
  generalize H1 = H at hP hS ⊢
  replace hP : va_P (dC, dI) vwCl [(h0, .inr (11, [.ref qf0, .ref qf1, .int v2, .int v3, .int v4, .ref qf5, .int v6, .int v7, .ref qf8, .ref qf9, .ref qf10, .ref qf11, .ref qf12, .ref qf13, .ref qf14, .ref qf15, .int v16, .int v17, .int u1_1, .int u1_2, .int v20])), (qf15, .inl (cf15, 30, .inl f15))] H := hP
  replace hD : va_D A [(h0, .inr (11, [.ref qf0, .ref qf1, .int v2, .int v3, .int v4, .ref qf5, .int v6, .int v7, .ref qf8, .ref qf9, .ref qf10, .ref qf11, .ref qf12, .ref qf13, .ref qf14, .ref qf15, .int v16, .int v17, .int u1_1, .int u1_2, .int v20])), (qf15, .inl (cf15, 30, .inl f15))] := hD
  replace hK : va_K (dC, dI) vwCl [(cf15, .int)] s := hK
  obtain rfl := hw
  refine lv_istore_n (lv' := [(3, .int u1_0), (0, .ref h0), (1, .int a1), (2, .int a2)]) hx hb dX11_wantArray_4 rfl hl (by decide) rfl (fun ls hl => ?_)
  refine lv_iload_n hx hb dX11_wantArray_5 rfl (lv_at hl 0 rfl) ?_
  refine lv_sipush (v := 300) hx hb dX11_wantArray_6 (by decide) ?_
  refine lv_icmp_eq (tgt := 37) hx hb dX11_wantArray_9 (by decide) (fun c_2 => ?_) (fun c_2 => ?_)
  · rw [if_pos c_2] at hsp
    refine lv_iconst (v := 1) hx hb dX11_wantArray_37 (by decide) ?_
    refine lv_goto (tgt := 42) hx hb dX11_wantArray_38 (by decide) ?_
    refine lv_istore (lv' := [(4, .int 1), (3, .int u1_0), (0, .ref h0), (1, .int a1), (2, .int a2)]) hx hb dX11_wantArray_42 hl (by decide) rfl (fun ls hl => ?_)
    refine lv_aload_n hx hb dX11_wantArray_44 rfl (lv_at hl 2 rfl) ?_
    refine lv_aload_n hx hb dX11_wantArray_45 rfl (lv_at hl 2 rfl) ?_
    refine va_get (D := (dC, dI)) (ci := 11) (v := .int u1_2) (C := RX11) (T := TX11) (N := 21) hx hb hts uV_h3_X11 hown hK hP 0 rfl rfl 19 (by decide) (hts (.fieldLink RX11 295 "ClassMill$Verifier" "fitting" "Z") mw_h3_220) (fun _ h9 => h9) rfl dX11_wantArray_46 ?_
    refine lv_if_eq (tgt := 61) hx hb dX11_wantArray_49 (by decide) (fun c_3 => ?_) (fun c_3 => ?_)
    · rw [if_pos c_3] at hsp
      refine lv_iconst (v := 0) hx hb dX11_wantArray_61 (by decide) ?_
      refine va_put (D := (dC, dI)) (ci := 11) (v := .int 0) (ty := .boolean) (C := RX11) (T := TX11) (N := 21) hx hb hts uV_h3_X11 tyX11 tyX11_ok nmX11 hown hK hP hD hS 0 rfl rfl 19 (by decide) (hts (.fieldLink RX11 295 "ClassMill$Verifier" "fitting" "Z") mw_h3_220) (fun _ h9 => h9) rfl (by decide +kernel) rfl rfl (Nat.le_of_ble_eq_true rfl) dX11_wantArray_62 ?_
      clear hP hD hS
      intro H locs hP hD hS
      replace hP : va_P (dC, dI) vwCl [(h0, .inr (11, [.ref qf0, .ref qf1, .int v2, .int v3, .int v4, .ref qf5, .int v6, .int v7, .ref qf8, .ref qf9, .ref qf10, .ref qf11, .ref qf12, .ref qf13, .ref qf14, .ref qf15, .int v16, .int v17, .int u1_1, .int 0, .int v20])), (qf15, .inl (cf15, 30, .inl f15))] H := hP
      replace hD : va_D A [(h0, .inr (11, [.ref qf0, .ref qf1, .int v2, .int v3, .int v4, .ref qf5, .int v6, .int v7, .ref qf8, .ref qf9, .ref qf10, .ref qf11, .ref qf12, .ref qf13, .ref qf14, .ref qf15, .int v16, .int v17, .int u1_1, .int 0, .int v20])), (qf15, .inl (cf15, 30, .inl f15))] := hD
      refine lv_iload_n hx hb dX11_wantArray_65 rfl (lv_at hl 1 rfl) ?_
      have hr0 := Option.some.inj hsp
      clear hsp
      obtain ⟨hq0, hr1⟩ := Prod.mk.inj hr0
      clear hr0
      obtain ⟨hq1, hr2⟩ := Prod.mk.inj hr1
      clear hr1
      subst hq0
      subst hq1
      subst hr2
      have hP9 := hP.sub (ws' := [(h0, .inr (11, [.ref qf0, .ref qf1, .int v2, .int v3, .int v4, .ref qf5, .int v6, .int v7, .ref qf8, .ref qf9, .ref qf10, .ref qf11, .ref qf12, .ref qf13, .ref qf14, .ref qf15, .int v16, .int v17, .int u1_1, .int 0, .int v20])), (qf15, .inl (cf15, 30, .inl f15))]) [0, 1] rfl
      have hD9 := hD.sub (ws' := [(h0, .inr (11, [.ref qf0, .ref qf1, .int v2, .int v3, .int v4, .ref qf5, .int v6, .int v7, .ref qf8, .ref qf9, .ref qf10, .ref qf11, .ref qf12, .ref qf13, .ref qf14, .ref qf15, .int v16, .int v17, .int u1_1, .int 0, .int v20])), (qf15, .inl (cf15, 30, .inl f15))]) [0, 1] (by decide) rfl
      have hK9 := hK.sub (tys' := [(cf15, .int)]) [0] rfl
      exact W.iret hx hb hr (fun t ht hW => ⟨⟨(u1_0), (), rfl, rfl, by rw [ht]; exact hP9, va_K.moved hW.alike hK9, hD9⟩, hS.F ht⟩) hS.2.2 dX11_wantArray_66
    · rw [if_neg c_3] at hsp
      refine lv_iload hx hb dX11_wantArray_52 (lv_at hl 0 rfl) ?_
      refine lv_if_eq (tgt := 61) hx hb dX11_wantArray_54 (by decide) (fun c_4 => (show False by revert c_4; decide).elim) (fun c_4 => ?_)
      refine lv_iconst (v := 1) hx hb dX11_wantArray_57 (by decide) ?_
      refine lv_goto (tgt := 62) hx hb dX11_wantArray_58 (by decide) ?_
      refine va_put (D := (dC, dI)) (ci := 11) (v := .int 1) (ty := .boolean) (C := RX11) (T := TX11) (N := 21) hx hb hts uV_h3_X11 tyX11 tyX11_ok nmX11 hown hK hP hD hS 0 rfl rfl 19 (by decide) (hts (.fieldLink RX11 295 "ClassMill$Verifier" "fitting" "Z") mw_h3_220) (fun _ h9 => h9) rfl (by decide +kernel) rfl rfl (Nat.le_of_ble_eq_true rfl) dX11_wantArray_62 ?_
      clear hP hD hS
      intro H locs hP hD hS
      replace hP : va_P (dC, dI) vwCl [(h0, .inr (11, [.ref qf0, .ref qf1, .int v2, .int v3, .int v4, .ref qf5, .int v6, .int v7, .ref qf8, .ref qf9, .ref qf10, .ref qf11, .ref qf12, .ref qf13, .ref qf14, .ref qf15, .int v16, .int v17, .int u1_1, .int 1, .int v20])), (qf15, .inl (cf15, 30, .inl f15))] H := hP
      replace hD : va_D A [(h0, .inr (11, [.ref qf0, .ref qf1, .int v2, .int v3, .int v4, .ref qf5, .int v6, .int v7, .ref qf8, .ref qf9, .ref qf10, .ref qf11, .ref qf12, .ref qf13, .ref qf14, .ref qf15, .int v16, .int v17, .int u1_1, .int 1, .int v20])), (qf15, .inl (cf15, 30, .inl f15))] := hD
      refine lv_iload_n hx hb dX11_wantArray_65 rfl (lv_at hl 1 rfl) ?_
      have hr0 := Option.some.inj hsp
      clear hsp
      obtain ⟨hq0, hr1⟩ := Prod.mk.inj hr0
      clear hr0
      obtain ⟨hq1, hr2⟩ := Prod.mk.inj hr1
      clear hr1
      subst hq0
      subst hq1
      subst hr2
      have hP9 := hP.sub (ws' := [(h0, .inr (11, [.ref qf0, .ref qf1, .int v2, .int v3, .int v4, .ref qf5, .int v6, .int v7, .ref qf8, .ref qf9, .ref qf10, .ref qf11, .ref qf12, .ref qf13, .ref qf14, .ref qf15, .int v16, .int v17, .int u1_1, .int 1, .int v20])), (qf15, .inl (cf15, 30, .inl f15))]) [0, 1] rfl
      have hD9 := hD.sub (ws' := [(h0, .inr (11, [.ref qf0, .ref qf1, .int v2, .int v3, .int v4, .ref qf5, .int v6, .int v7, .ref qf8, .ref qf9, .ref qf10, .ref qf11, .ref qf12, .ref qf13, .ref qf14, .ref qf15, .int v16, .int v17, .int u1_1, .int 1, .int v20])), (qf15, .inl (cf15, 30, .inl f15))]) [0, 1] (by decide) rfl
      have hK9 := hK.sub (tys' := [(cf15, .int)]) [0] rfl
      exact W.iret hx hb hr (fun t ht hW => ⟨⟨(u1_0), (), rfl, rfl, by rw [ht]; exact hP9, va_K.moved hW.alike hK9, hD9⟩, hS.F ht⟩) hS.2.2 dX11_wantArray_66
  · rw [if_neg c_2] at hsp
    refine lv_iload_n hx hb dX11_wantArray_12 rfl (lv_at hl 0 rfl) ?_
    refine lv_sipush (v := 200) hx hb dX11_wantArray_13 (by decide) ?_
    refine lv_icmp_ne (tgt := 26) hx hb dX11_wantArray_16 (by decide) (fun c_5 => ?_) (fun c_5 => ?_)
    · rw [if_neg c_5] at hsp
      refine lv_iload_n hx hb dX11_wantArray_26 rfl (lv_at hl 3 rfl) ?_
      refine lv_if_eq (tgt := 41) hx hb dX11_wantArray_27 (by decide) (fun c_6 => ?_) (fun c_6 => ?_)
      · rw [if_pos c_6] at hsp
        refine lv_iconst (v := 0) hx hb dX11_wantArray_41 (by decide) ?_
        refine lv_istore (lv' := [(4, .int 0), (3, .int u1_0), (0, .ref h0), (1, .int a1), (2, .int a2)]) hx hb dX11_wantArray_42 hl (by decide) rfl (fun ls hl => ?_)
        refine lv_aload_n hx hb dX11_wantArray_44 rfl (lv_at hl 2 rfl) ?_
        refine lv_aload_n hx hb dX11_wantArray_45 rfl (lv_at hl 2 rfl) ?_
        refine va_get (D := (dC, dI)) (ci := 11) (v := .int u1_2) (C := RX11) (T := TX11) (N := 21) hx hb hts uV_h3_X11 hown hK hP 0 rfl rfl 19 (by decide) (hts (.fieldLink RX11 295 "ClassMill$Verifier" "fitting" "Z") mw_h3_220) (fun _ h9 => h9) rfl dX11_wantArray_46 ?_
        refine lv_if_eq (tgt := 61) hx hb dX11_wantArray_49 (by decide) (fun c_7 => ?_) (fun c_7 => ?_)
        · rw [if_pos c_7] at hsp
          refine lv_iconst (v := 0) hx hb dX11_wantArray_61 (by decide) ?_
          refine va_put (D := (dC, dI)) (ci := 11) (v := .int 0) (ty := .boolean) (C := RX11) (T := TX11) (N := 21) hx hb hts uV_h3_X11 tyX11 tyX11_ok nmX11 hown hK hP hD hS 0 rfl rfl 19 (by decide) (hts (.fieldLink RX11 295 "ClassMill$Verifier" "fitting" "Z") mw_h3_220) (fun _ h9 => h9) rfl (by decide +kernel) rfl rfl (Nat.le_of_ble_eq_true rfl) dX11_wantArray_62 ?_
          clear hP hD hS
          intro H locs hP hD hS
          replace hP : va_P (dC, dI) vwCl [(h0, .inr (11, [.ref qf0, .ref qf1, .int v2, .int v3, .int v4, .ref qf5, .int v6, .int v7, .ref qf8, .ref qf9, .ref qf10, .ref qf11, .ref qf12, .ref qf13, .ref qf14, .ref qf15, .int v16, .int v17, .int u1_1, .int 0, .int v20])), (qf15, .inl (cf15, 30, .inl f15))] H := hP
          replace hD : va_D A [(h0, .inr (11, [.ref qf0, .ref qf1, .int v2, .int v3, .int v4, .ref qf5, .int v6, .int v7, .ref qf8, .ref qf9, .ref qf10, .ref qf11, .ref qf12, .ref qf13, .ref qf14, .ref qf15, .int v16, .int v17, .int u1_1, .int 0, .int v20])), (qf15, .inl (cf15, 30, .inl f15))] := hD
          refine lv_iload_n hx hb dX11_wantArray_65 rfl (lv_at hl 1 rfl) ?_
          have hr0 := Option.some.inj hsp
          clear hsp
          obtain ⟨hq0, hr1⟩ := Prod.mk.inj hr0
          clear hr0
          obtain ⟨hq1, hr2⟩ := Prod.mk.inj hr1
          clear hr1
          subst hq0
          subst hq1
          subst hr2
          have hP9 := hP.sub (ws' := [(h0, .inr (11, [.ref qf0, .ref qf1, .int v2, .int v3, .int v4, .ref qf5, .int v6, .int v7, .ref qf8, .ref qf9, .ref qf10, .ref qf11, .ref qf12, .ref qf13, .ref qf14, .ref qf15, .int v16, .int v17, .int u1_1, .int 0, .int v20])), (qf15, .inl (cf15, 30, .inl f15))]) [0, 1] rfl
          have hD9 := hD.sub (ws' := [(h0, .inr (11, [.ref qf0, .ref qf1, .int v2, .int v3, .int v4, .ref qf5, .int v6, .int v7, .ref qf8, .ref qf9, .ref qf10, .ref qf11, .ref qf12, .ref qf13, .ref qf14, .ref qf15, .int v16, .int v17, .int u1_1, .int 0, .int v20])), (qf15, .inl (cf15, 30, .inl f15))]) [0, 1] (by decide) rfl
          have hK9 := hK.sub (tys' := [(cf15, .int)]) [0] rfl
          exact W.iret hx hb hr (fun t ht hW => ⟨⟨(u1_0), (), rfl, rfl, by rw [ht]; exact hP9, va_K.moved hW.alike hK9, hD9⟩, hS.F ht⟩) hS.2.2 dX11_wantArray_66
        · rw [if_neg c_7] at hsp
          refine lv_iload hx hb dX11_wantArray_52 (lv_at hl 0 rfl) ?_
          refine lv_if_eq (tgt := 61) hx hb dX11_wantArray_54 (by decide) (fun c_8 => ?_) (fun c_8 => (show False by revert c_8; decide).elim)
          refine lv_iconst (v := 0) hx hb dX11_wantArray_61 (by decide) ?_
          refine va_put (D := (dC, dI)) (ci := 11) (v := .int 0) (ty := .boolean) (C := RX11) (T := TX11) (N := 21) hx hb hts uV_h3_X11 tyX11 tyX11_ok nmX11 hown hK hP hD hS 0 rfl rfl 19 (by decide) (hts (.fieldLink RX11 295 "ClassMill$Verifier" "fitting" "Z") mw_h3_220) (fun _ h9 => h9) rfl (by decide +kernel) rfl rfl (Nat.le_of_ble_eq_true rfl) dX11_wantArray_62 ?_
          clear hP hD hS
          intro H locs hP hD hS
          replace hP : va_P (dC, dI) vwCl [(h0, .inr (11, [.ref qf0, .ref qf1, .int v2, .int v3, .int v4, .ref qf5, .int v6, .int v7, .ref qf8, .ref qf9, .ref qf10, .ref qf11, .ref qf12, .ref qf13, .ref qf14, .ref qf15, .int v16, .int v17, .int u1_1, .int 0, .int v20])), (qf15, .inl (cf15, 30, .inl f15))] H := hP
          replace hD : va_D A [(h0, .inr (11, [.ref qf0, .ref qf1, .int v2, .int v3, .int v4, .ref qf5, .int v6, .int v7, .ref qf8, .ref qf9, .ref qf10, .ref qf11, .ref qf12, .ref qf13, .ref qf14, .ref qf15, .int v16, .int v17, .int u1_1, .int 0, .int v20])), (qf15, .inl (cf15, 30, .inl f15))] := hD
          refine lv_iload_n hx hb dX11_wantArray_65 rfl (lv_at hl 1 rfl) ?_
          have hr0 := Option.some.inj hsp
          clear hsp
          obtain ⟨hq0, hr1⟩ := Prod.mk.inj hr0
          clear hr0
          obtain ⟨hq1, hr2⟩ := Prod.mk.inj hr1
          clear hr1
          subst hq0
          subst hq1
          subst hr2
          have hP9 := hP.sub (ws' := [(h0, .inr (11, [.ref qf0, .ref qf1, .int v2, .int v3, .int v4, .ref qf5, .int v6, .int v7, .ref qf8, .ref qf9, .ref qf10, .ref qf11, .ref qf12, .ref qf13, .ref qf14, .ref qf15, .int v16, .int v17, .int u1_1, .int 0, .int v20])), (qf15, .inl (cf15, 30, .inl f15))]) [0, 1] rfl
          have hD9 := hD.sub (ws' := [(h0, .inr (11, [.ref qf0, .ref qf1, .int v2, .int v3, .int v4, .ref qf5, .int v6, .int v7, .ref qf8, .ref qf9, .ref qf10, .ref qf11, .ref qf12, .ref qf13, .ref qf14, .ref qf15, .int v16, .int v17, .int u1_1, .int 0, .int v20])), (qf15, .inl (cf15, 30, .inl f15))]) [0, 1] (by decide) rfl
          have hK9 := hK.sub (tys' := [(cf15, .int)]) [0] rfl
          exact W.iret hx hb hr (fun t ht hW => ⟨⟨(u1_0), (), rfl, rfl, by rw [ht]; exact hP9, va_K.moved hW.alike hK9, hD9⟩, hS.F ht⟩) hS.2.2 dX11_wantArray_66
      · rw [if_neg c_6] at hsp
        refine lv_iload_n hx hb dX11_wantArray_30 rfl (lv_at hl 0 rfl) ?_
        obtain ⟨u2_0, hu_2, hsp⟩ := ox_bind hsp
        try dsimp only at hsp
        have hPc := hP.sub (ws' := []) [] rfl
        have hDc := hD.sub (ws' := []) [] (by decide) rfl
        have hKc := hK.sub (tys' := []) [] rfl
        have hFc := va_free (wc := []) hD hS hA [] rfl
        refine va_calli (va_runS (As := [.int u1_0]) (rest := []) ⟨hx, hb, hml, hown, hts⟩ (t4_isArray l dC dI H.size u1_0 nf u2_0 hu_2) (va_cwS 1 hts gv_h3_51 rfl rfl rfl (by decide +kernel) ⟨Nat.le_of_ble_eq_true rfl, Nat.le_of_ble_eq_true rfl⟩) ⟨fun a U g mk q => by obtain ⟨q0, q1, qP, qK, qD⟩ := q; exact ⟨q0, q1, qP, va_K.moved (u := U) (U := U.calling g mk a) (Vm.Alike.refl U.vm) qK, qD⟩, fun U hU hW => ⟨rfl, by rw [hU], by rw [hU]; exact hPc, va_K.moved hW.alike hKc, hDc.weaken (fun _ _ _ _ => trivial)⟩⟩ rfl rfl hl.1 rfl (lv_room (Nat.le_of_ble_eq_true rfl)) dX11_wantArray_31 ⟨Nat.le_of_ble_eq_true rfl, Nat.le_of_ble_eq_true rfl⟩) hS (fun q _ h => hFc q h) hFc ?_
        clear hS
        intro r_9 u t H1 locs ht hvm hw hB hz1 hk1 hS
        obtain ⟨⟩ := u
        obtain ⟨hP1, hK1, hD1⟩ := hB
        rw [ht] at hP1
        have hK1 := va_K.moved hvm.symm hK1
        try dsimp only at hw
        have hPD := va_join (wr := [(h0, .inr (11, [.ref qf0, .ref qf1, .int v2, .int v3, .int v4, .ref qf5, .int v6, .int v7, .ref qf8, .ref qf9, .ref qf10, .ref qf11, .ref qf12, .ref qf13, .ref qf14, .ref qf15, .int v16, .int v17, .int u1_1, .int u1_2, .int v20])), (qf15, .inl (cf15, 30, .inl f15))]) (w1 := []) hP hD [] [0, 1] rfl rfl (by decide) (by decide) hk1 hFc hP1 hD1
        clear hP hD
        obtain ⟨hP, hD⟩ := hPD
        replace hK := (hK.sub (tys' := [(cf15, .int)]) [0] rfl).app hK1
        clear hPc hDc hKc hFc hP1 hK1 hD1 hz1 hk1 ht hvm
        generalize H1 = H at hP hS ⊢
        replace hP : va_P (dC, dI) vwCl [(h0, .inr (11, [.ref qf0, .ref qf1, .int v2, .int v3, .int v4, .ref qf5, .int v6, .int v7, .ref qf8, .ref qf9, .ref qf10, .ref qf11, .ref qf12, .ref qf13, .ref qf14, .ref qf15, .int v16, .int v17, .int u1_1, .int u1_2, .int v20])), (qf15, .inl (cf15, 30, .inl f15))] H := hP
        replace hD : va_D A [(h0, .inr (11, [.ref qf0, .ref qf1, .int v2, .int v3, .int v4, .ref qf5, .int v6, .int v7, .ref qf8, .ref qf9, .ref qf10, .ref qf11, .ref qf12, .ref qf13, .ref qf14, .ref qf15, .int v16, .int v17, .int u1_1, .int u1_2, .int v20])), (qf15, .inl (cf15, 30, .inl f15))] := hD
        replace hK : va_K (dC, dI) vwCl [(cf15, .int)] s := hK
        obtain ⟨rfl, hz_2⟩ := hw
        rcases hz_2 with rfl | rfl
        · rw [if_pos rfl] at hsp
          refine lv_if_eq (tgt := 41) hx hb dX11_wantArray_34 (by decide) (fun c_10 => ?_) (fun c_10 => (show False by revert c_10; decide).elim)
          refine lv_iconst (v := 0) hx hb dX11_wantArray_41 (by decide) ?_
          refine lv_istore (lv' := [(4, .int 0), (3, .int u1_0), (0, .ref h0), (1, .int a1), (2, .int a2)]) hx hb dX11_wantArray_42 hl (by decide) rfl (fun ls hl => ?_)
          refine lv_aload_n hx hb dX11_wantArray_44 rfl (lv_at hl 2 rfl) ?_
          refine lv_aload_n hx hb dX11_wantArray_45 rfl (lv_at hl 2 rfl) ?_
          refine va_get (D := (dC, dI)) (ci := 11) (v := .int u1_2) (C := RX11) (T := TX11) (N := 21) hx hb hts uV_h3_X11 hown hK hP 0 rfl rfl 19 (by decide) (hts (.fieldLink RX11 295 "ClassMill$Verifier" "fitting" "Z") mw_h3_220) (fun _ h9 => h9) rfl dX11_wantArray_46 ?_
          refine lv_if_eq (tgt := 61) hx hb dX11_wantArray_49 (by decide) (fun c_11 => ?_) (fun c_11 => ?_)
          · rw [if_pos c_11] at hsp
            refine lv_iconst (v := 0) hx hb dX11_wantArray_61 (by decide) ?_
            refine va_put (D := (dC, dI)) (ci := 11) (v := .int 0) (ty := .boolean) (C := RX11) (T := TX11) (N := 21) hx hb hts uV_h3_X11 tyX11 tyX11_ok nmX11 hown hK hP hD hS 0 rfl rfl 19 (by decide) (hts (.fieldLink RX11 295 "ClassMill$Verifier" "fitting" "Z") mw_h3_220) (fun _ h9 => h9) rfl (by decide +kernel) rfl rfl (Nat.le_of_ble_eq_true rfl) dX11_wantArray_62 ?_
            clear hP hD hS
            intro H locs hP hD hS
            replace hP : va_P (dC, dI) vwCl [(h0, .inr (11, [.ref qf0, .ref qf1, .int v2, .int v3, .int v4, .ref qf5, .int v6, .int v7, .ref qf8, .ref qf9, .ref qf10, .ref qf11, .ref qf12, .ref qf13, .ref qf14, .ref qf15, .int v16, .int v17, .int u1_1, .int 0, .int v20])), (qf15, .inl (cf15, 30, .inl f15))] H := hP
            replace hD : va_D A [(h0, .inr (11, [.ref qf0, .ref qf1, .int v2, .int v3, .int v4, .ref qf5, .int v6, .int v7, .ref qf8, .ref qf9, .ref qf10, .ref qf11, .ref qf12, .ref qf13, .ref qf14, .ref qf15, .int v16, .int v17, .int u1_1, .int 0, .int v20])), (qf15, .inl (cf15, 30, .inl f15))] := hD
            refine lv_iload_n hx hb dX11_wantArray_65 rfl (lv_at hl 1 rfl) ?_
            have hr0 := Option.some.inj hsp
            clear hsp
            obtain ⟨hq0, hr1⟩ := Prod.mk.inj hr0
            clear hr0
            obtain ⟨hq1, hr2⟩ := Prod.mk.inj hr1
            clear hr1
            subst hq0
            subst hq1
            subst hr2
            have hP9 := hP.sub (ws' := [(h0, .inr (11, [.ref qf0, .ref qf1, .int v2, .int v3, .int v4, .ref qf5, .int v6, .int v7, .ref qf8, .ref qf9, .ref qf10, .ref qf11, .ref qf12, .ref qf13, .ref qf14, .ref qf15, .int v16, .int v17, .int u1_1, .int 0, .int v20])), (qf15, .inl (cf15, 30, .inl f15))]) [0, 1] rfl
            have hD9 := hD.sub (ws' := [(h0, .inr (11, [.ref qf0, .ref qf1, .int v2, .int v3, .int v4, .ref qf5, .int v6, .int v7, .ref qf8, .ref qf9, .ref qf10, .ref qf11, .ref qf12, .ref qf13, .ref qf14, .ref qf15, .int v16, .int v17, .int u1_1, .int 0, .int v20])), (qf15, .inl (cf15, 30, .inl f15))]) [0, 1] (by decide) rfl
            have hK9 := hK.sub (tys' := [(cf15, .int)]) [0] rfl
            exact W.iret hx hb hr (fun t ht hW => ⟨⟨(u1_0), (), rfl, rfl, by rw [ht]; exact hP9, va_K.moved hW.alike hK9, hD9⟩, hS.F ht⟩) hS.2.2 dX11_wantArray_66
          · rw [if_neg c_11] at hsp
            refine lv_iload hx hb dX11_wantArray_52 (lv_at hl 0 rfl) ?_
            refine lv_if_eq (tgt := 61) hx hb dX11_wantArray_54 (by decide) (fun c_12 => ?_) (fun c_12 => (show False by revert c_12; decide).elim)
            refine lv_iconst (v := 0) hx hb dX11_wantArray_61 (by decide) ?_
            refine va_put (D := (dC, dI)) (ci := 11) (v := .int 0) (ty := .boolean) (C := RX11) (T := TX11) (N := 21) hx hb hts uV_h3_X11 tyX11 tyX11_ok nmX11 hown hK hP hD hS 0 rfl rfl 19 (by decide) (hts (.fieldLink RX11 295 "ClassMill$Verifier" "fitting" "Z") mw_h3_220) (fun _ h9 => h9) rfl (by decide +kernel) rfl rfl (Nat.le_of_ble_eq_true rfl) dX11_wantArray_62 ?_
            clear hP hD hS
            intro H locs hP hD hS
            replace hP : va_P (dC, dI) vwCl [(h0, .inr (11, [.ref qf0, .ref qf1, .int v2, .int v3, .int v4, .ref qf5, .int v6, .int v7, .ref qf8, .ref qf9, .ref qf10, .ref qf11, .ref qf12, .ref qf13, .ref qf14, .ref qf15, .int v16, .int v17, .int u1_1, .int 0, .int v20])), (qf15, .inl (cf15, 30, .inl f15))] H := hP
            replace hD : va_D A [(h0, .inr (11, [.ref qf0, .ref qf1, .int v2, .int v3, .int v4, .ref qf5, .int v6, .int v7, .ref qf8, .ref qf9, .ref qf10, .ref qf11, .ref qf12, .ref qf13, .ref qf14, .ref qf15, .int v16, .int v17, .int u1_1, .int 0, .int v20])), (qf15, .inl (cf15, 30, .inl f15))] := hD
            refine lv_iload_n hx hb dX11_wantArray_65 rfl (lv_at hl 1 rfl) ?_
            have hr0 := Option.some.inj hsp
            clear hsp
            obtain ⟨hq0, hr1⟩ := Prod.mk.inj hr0
            clear hr0
            obtain ⟨hq1, hr2⟩ := Prod.mk.inj hr1
            clear hr1
            subst hq0
            subst hq1
            subst hr2
            have hP9 := hP.sub (ws' := [(h0, .inr (11, [.ref qf0, .ref qf1, .int v2, .int v3, .int v4, .ref qf5, .int v6, .int v7, .ref qf8, .ref qf9, .ref qf10, .ref qf11, .ref qf12, .ref qf13, .ref qf14, .ref qf15, .int v16, .int v17, .int u1_1, .int 0, .int v20])), (qf15, .inl (cf15, 30, .inl f15))]) [0, 1] rfl
            have hD9 := hD.sub (ws' := [(h0, .inr (11, [.ref qf0, .ref qf1, .int v2, .int v3, .int v4, .ref qf5, .int v6, .int v7, .ref qf8, .ref qf9, .ref qf10, .ref qf11, .ref qf12, .ref qf13, .ref qf14, .ref qf15, .int v16, .int v17, .int u1_1, .int 0, .int v20])), (qf15, .inl (cf15, 30, .inl f15))]) [0, 1] (by decide) rfl
            have hK9 := hK.sub (tys' := [(cf15, .int)]) [0] rfl
            exact W.iret hx hb hr (fun t ht hW => ⟨⟨(u1_0), (), rfl, rfl, by rw [ht]; exact hP9, va_K.moved hW.alike hK9, hD9⟩, hS.F ht⟩) hS.2.2 dX11_wantArray_66
        · rw [if_neg (by decide)] at hsp
          refine lv_if_eq (tgt := 41) hx hb dX11_wantArray_34 (by decide) (fun c_13 => (show False by revert c_13; decide).elim) (fun c_13 => ?_)
          refine lv_iconst (v := 1) hx hb dX11_wantArray_37 (by decide) ?_
          refine lv_goto (tgt := 42) hx hb dX11_wantArray_38 (by decide) ?_
          refine lv_istore (lv' := [(4, .int 1), (3, .int u1_0), (0, .ref h0), (1, .int a1), (2, .int a2)]) hx hb dX11_wantArray_42 hl (by decide) rfl (fun ls hl => ?_)
          refine lv_aload_n hx hb dX11_wantArray_44 rfl (lv_at hl 2 rfl) ?_
          refine lv_aload_n hx hb dX11_wantArray_45 rfl (lv_at hl 2 rfl) ?_
          refine va_get (D := (dC, dI)) (ci := 11) (v := .int u1_2) (C := RX11) (T := TX11) (N := 21) hx hb hts uV_h3_X11 hown hK hP 0 rfl rfl 19 (by decide) (hts (.fieldLink RX11 295 "ClassMill$Verifier" "fitting" "Z") mw_h3_220) (fun _ h9 => h9) rfl dX11_wantArray_46 ?_
          refine lv_if_eq (tgt := 61) hx hb dX11_wantArray_49 (by decide) (fun c_14 => ?_) (fun c_14 => ?_)
          · rw [if_pos c_14] at hsp
            refine lv_iconst (v := 0) hx hb dX11_wantArray_61 (by decide) ?_
            refine va_put (D := (dC, dI)) (ci := 11) (v := .int 0) (ty := .boolean) (C := RX11) (T := TX11) (N := 21) hx hb hts uV_h3_X11 tyX11 tyX11_ok nmX11 hown hK hP hD hS 0 rfl rfl 19 (by decide) (hts (.fieldLink RX11 295 "ClassMill$Verifier" "fitting" "Z") mw_h3_220) (fun _ h9 => h9) rfl (by decide +kernel) rfl rfl (Nat.le_of_ble_eq_true rfl) dX11_wantArray_62 ?_
            clear hP hD hS
            intro H locs hP hD hS
            replace hP : va_P (dC, dI) vwCl [(h0, .inr (11, [.ref qf0, .ref qf1, .int v2, .int v3, .int v4, .ref qf5, .int v6, .int v7, .ref qf8, .ref qf9, .ref qf10, .ref qf11, .ref qf12, .ref qf13, .ref qf14, .ref qf15, .int v16, .int v17, .int u1_1, .int 0, .int v20])), (qf15, .inl (cf15, 30, .inl f15))] H := hP
            replace hD : va_D A [(h0, .inr (11, [.ref qf0, .ref qf1, .int v2, .int v3, .int v4, .ref qf5, .int v6, .int v7, .ref qf8, .ref qf9, .ref qf10, .ref qf11, .ref qf12, .ref qf13, .ref qf14, .ref qf15, .int v16, .int v17, .int u1_1, .int 0, .int v20])), (qf15, .inl (cf15, 30, .inl f15))] := hD
            refine lv_iload_n hx hb dX11_wantArray_65 rfl (lv_at hl 1 rfl) ?_
            have hr0 := Option.some.inj hsp
            clear hsp
            obtain ⟨hq0, hr1⟩ := Prod.mk.inj hr0
            clear hr0
            obtain ⟨hq1, hr2⟩ := Prod.mk.inj hr1
            clear hr1
            subst hq0
            subst hq1
            subst hr2
            have hP9 := hP.sub (ws' := [(h0, .inr (11, [.ref qf0, .ref qf1, .int v2, .int v3, .int v4, .ref qf5, .int v6, .int v7, .ref qf8, .ref qf9, .ref qf10, .ref qf11, .ref qf12, .ref qf13, .ref qf14, .ref qf15, .int v16, .int v17, .int u1_1, .int 0, .int v20])), (qf15, .inl (cf15, 30, .inl f15))]) [0, 1] rfl
            have hD9 := hD.sub (ws' := [(h0, .inr (11, [.ref qf0, .ref qf1, .int v2, .int v3, .int v4, .ref qf5, .int v6, .int v7, .ref qf8, .ref qf9, .ref qf10, .ref qf11, .ref qf12, .ref qf13, .ref qf14, .ref qf15, .int v16, .int v17, .int u1_1, .int 0, .int v20])), (qf15, .inl (cf15, 30, .inl f15))]) [0, 1] (by decide) rfl
            have hK9 := hK.sub (tys' := [(cf15, .int)]) [0] rfl
            exact W.iret hx hb hr (fun t ht hW => ⟨⟨(u1_0), (), rfl, rfl, by rw [ht]; exact hP9, va_K.moved hW.alike hK9, hD9⟩, hS.F ht⟩) hS.2.2 dX11_wantArray_66
          · rw [if_neg c_14] at hsp
            refine lv_iload hx hb dX11_wantArray_52 (lv_at hl 0 rfl) ?_
            refine lv_if_eq (tgt := 61) hx hb dX11_wantArray_54 (by decide) (fun c_15 => (show False by revert c_15; decide).elim) (fun c_15 => ?_)
            refine lv_iconst (v := 1) hx hb dX11_wantArray_57 (by decide) ?_
            refine lv_goto (tgt := 62) hx hb dX11_wantArray_58 (by decide) ?_
            refine va_put (D := (dC, dI)) (ci := 11) (v := .int 1) (ty := .boolean) (C := RX11) (T := TX11) (N := 21) hx hb hts uV_h3_X11 tyX11 tyX11_ok nmX11 hown hK hP hD hS 0 rfl rfl 19 (by decide) (hts (.fieldLink RX11 295 "ClassMill$Verifier" "fitting" "Z") mw_h3_220) (fun _ h9 => h9) rfl (by decide +kernel) rfl rfl (Nat.le_of_ble_eq_true rfl) dX11_wantArray_62 ?_
            clear hP hD hS
            intro H locs hP hD hS
            replace hP : va_P (dC, dI) vwCl [(h0, .inr (11, [.ref qf0, .ref qf1, .int v2, .int v3, .int v4, .ref qf5, .int v6, .int v7, .ref qf8, .ref qf9, .ref qf10, .ref qf11, .ref qf12, .ref qf13, .ref qf14, .ref qf15, .int v16, .int v17, .int u1_1, .int 1, .int v20])), (qf15, .inl (cf15, 30, .inl f15))] H := hP
            replace hD : va_D A [(h0, .inr (11, [.ref qf0, .ref qf1, .int v2, .int v3, .int v4, .ref qf5, .int v6, .int v7, .ref qf8, .ref qf9, .ref qf10, .ref qf11, .ref qf12, .ref qf13, .ref qf14, .ref qf15, .int v16, .int v17, .int u1_1, .int 1, .int v20])), (qf15, .inl (cf15, 30, .inl f15))] := hD
            refine lv_iload_n hx hb dX11_wantArray_65 rfl (lv_at hl 1 rfl) ?_
            have hr0 := Option.some.inj hsp
            clear hsp
            obtain ⟨hq0, hr1⟩ := Prod.mk.inj hr0
            clear hr0
            obtain ⟨hq1, hr2⟩ := Prod.mk.inj hr1
            clear hr1
            subst hq0
            subst hq1
            subst hr2
            have hP9 := hP.sub (ws' := [(h0, .inr (11, [.ref qf0, .ref qf1, .int v2, .int v3, .int v4, .ref qf5, .int v6, .int v7, .ref qf8, .ref qf9, .ref qf10, .ref qf11, .ref qf12, .ref qf13, .ref qf14, .ref qf15, .int v16, .int v17, .int u1_1, .int 1, .int v20])), (qf15, .inl (cf15, 30, .inl f15))]) [0, 1] rfl
            have hD9 := hD.sub (ws' := [(h0, .inr (11, [.ref qf0, .ref qf1, .int v2, .int v3, .int v4, .ref qf5, .int v6, .int v7, .ref qf8, .ref qf9, .ref qf10, .ref qf11, .ref qf12, .ref qf13, .ref qf14, .ref qf15, .int v16, .int v17, .int u1_1, .int 1, .int v20])), (qf15, .inl (cf15, 30, .inl f15))]) [0, 1] (by decide) rfl
            have hK9 := hK.sub (tys' := [(cf15, .int)]) [0] rfl
            exact W.iret hx hb hr (fun t ht hW => ⟨⟨(u1_0), (), rfl, rfl, by rw [ht]; exact hP9, va_K.moved hW.alike hK9, hD9⟩, hS.F ht⟩) hS.2.2 dX11_wantArray_66
    · rw [if_pos c_5] at hsp
      refine lv_iload_n hx hb dX11_wantArray_19 rfl (lv_at hl 2 rfl) ?_
      refine lv_if_eq (tgt := 41) hx hb dX11_wantArray_20 (by decide) (fun c_16 => ?_) (fun c_16 => ?_)
      · rw [if_pos c_16] at hsp
        refine lv_iconst (v := 0) hx hb dX11_wantArray_41 (by decide) ?_
        refine lv_istore (lv' := [(4, .int 0), (3, .int u1_0), (0, .ref h0), (1, .int a1), (2, .int a2)]) hx hb dX11_wantArray_42 hl (by decide) rfl (fun ls hl => ?_)
        refine lv_aload_n hx hb dX11_wantArray_44 rfl (lv_at hl 2 rfl) ?_
        refine lv_aload_n hx hb dX11_wantArray_45 rfl (lv_at hl 2 rfl) ?_
        refine va_get (D := (dC, dI)) (ci := 11) (v := .int u1_2) (C := RX11) (T := TX11) (N := 21) hx hb hts uV_h3_X11 hown hK hP 0 rfl rfl 19 (by decide) (hts (.fieldLink RX11 295 "ClassMill$Verifier" "fitting" "Z") mw_h3_220) (fun _ h9 => h9) rfl dX11_wantArray_46 ?_
        refine lv_if_eq (tgt := 61) hx hb dX11_wantArray_49 (by decide) (fun c_17 => ?_) (fun c_17 => ?_)
        · rw [if_pos c_17] at hsp
          refine lv_iconst (v := 0) hx hb dX11_wantArray_61 (by decide) ?_
          refine va_put (D := (dC, dI)) (ci := 11) (v := .int 0) (ty := .boolean) (C := RX11) (T := TX11) (N := 21) hx hb hts uV_h3_X11 tyX11 tyX11_ok nmX11 hown hK hP hD hS 0 rfl rfl 19 (by decide) (hts (.fieldLink RX11 295 "ClassMill$Verifier" "fitting" "Z") mw_h3_220) (fun _ h9 => h9) rfl (by decide +kernel) rfl rfl (Nat.le_of_ble_eq_true rfl) dX11_wantArray_62 ?_
          clear hP hD hS
          intro H locs hP hD hS
          replace hP : va_P (dC, dI) vwCl [(h0, .inr (11, [.ref qf0, .ref qf1, .int v2, .int v3, .int v4, .ref qf5, .int v6, .int v7, .ref qf8, .ref qf9, .ref qf10, .ref qf11, .ref qf12, .ref qf13, .ref qf14, .ref qf15, .int v16, .int v17, .int u1_1, .int 0, .int v20])), (qf15, .inl (cf15, 30, .inl f15))] H := hP
          replace hD : va_D A [(h0, .inr (11, [.ref qf0, .ref qf1, .int v2, .int v3, .int v4, .ref qf5, .int v6, .int v7, .ref qf8, .ref qf9, .ref qf10, .ref qf11, .ref qf12, .ref qf13, .ref qf14, .ref qf15, .int v16, .int v17, .int u1_1, .int 0, .int v20])), (qf15, .inl (cf15, 30, .inl f15))] := hD
          refine lv_iload_n hx hb dX11_wantArray_65 rfl (lv_at hl 1 rfl) ?_
          have hr0 := Option.some.inj hsp
          clear hsp
          obtain ⟨hq0, hr1⟩ := Prod.mk.inj hr0
          clear hr0
          obtain ⟨hq1, hr2⟩ := Prod.mk.inj hr1
          clear hr1
          subst hq0
          subst hq1
          subst hr2
          have hP9 := hP.sub (ws' := [(h0, .inr (11, [.ref qf0, .ref qf1, .int v2, .int v3, .int v4, .ref qf5, .int v6, .int v7, .ref qf8, .ref qf9, .ref qf10, .ref qf11, .ref qf12, .ref qf13, .ref qf14, .ref qf15, .int v16, .int v17, .int u1_1, .int 0, .int v20])), (qf15, .inl (cf15, 30, .inl f15))]) [0, 1] rfl
          have hD9 := hD.sub (ws' := [(h0, .inr (11, [.ref qf0, .ref qf1, .int v2, .int v3, .int v4, .ref qf5, .int v6, .int v7, .ref qf8, .ref qf9, .ref qf10, .ref qf11, .ref qf12, .ref qf13, .ref qf14, .ref qf15, .int v16, .int v17, .int u1_1, .int 0, .int v20])), (qf15, .inl (cf15, 30, .inl f15))]) [0, 1] (by decide) rfl
          have hK9 := hK.sub (tys' := [(cf15, .int)]) [0] rfl
          exact W.iret hx hb hr (fun t ht hW => ⟨⟨(u1_0), (), rfl, rfl, by rw [ht]; exact hP9, va_K.moved hW.alike hK9, hD9⟩, hS.F ht⟩) hS.2.2 dX11_wantArray_66
        · rw [if_neg c_17] at hsp
          refine lv_iload hx hb dX11_wantArray_52 (lv_at hl 0 rfl) ?_
          refine lv_if_eq (tgt := 61) hx hb dX11_wantArray_54 (by decide) (fun c_18 => ?_) (fun c_18 => (show False by revert c_18; decide).elim)
          refine lv_iconst (v := 0) hx hb dX11_wantArray_61 (by decide) ?_
          refine va_put (D := (dC, dI)) (ci := 11) (v := .int 0) (ty := .boolean) (C := RX11) (T := TX11) (N := 21) hx hb hts uV_h3_X11 tyX11 tyX11_ok nmX11 hown hK hP hD hS 0 rfl rfl 19 (by decide) (hts (.fieldLink RX11 295 "ClassMill$Verifier" "fitting" "Z") mw_h3_220) (fun _ h9 => h9) rfl (by decide +kernel) rfl rfl (Nat.le_of_ble_eq_true rfl) dX11_wantArray_62 ?_
          clear hP hD hS
          intro H locs hP hD hS
          replace hP : va_P (dC, dI) vwCl [(h0, .inr (11, [.ref qf0, .ref qf1, .int v2, .int v3, .int v4, .ref qf5, .int v6, .int v7, .ref qf8, .ref qf9, .ref qf10, .ref qf11, .ref qf12, .ref qf13, .ref qf14, .ref qf15, .int v16, .int v17, .int u1_1, .int 0, .int v20])), (qf15, .inl (cf15, 30, .inl f15))] H := hP
          replace hD : va_D A [(h0, .inr (11, [.ref qf0, .ref qf1, .int v2, .int v3, .int v4, .ref qf5, .int v6, .int v7, .ref qf8, .ref qf9, .ref qf10, .ref qf11, .ref qf12, .ref qf13, .ref qf14, .ref qf15, .int v16, .int v17, .int u1_1, .int 0, .int v20])), (qf15, .inl (cf15, 30, .inl f15))] := hD
          refine lv_iload_n hx hb dX11_wantArray_65 rfl (lv_at hl 1 rfl) ?_
          have hr0 := Option.some.inj hsp
          clear hsp
          obtain ⟨hq0, hr1⟩ := Prod.mk.inj hr0
          clear hr0
          obtain ⟨hq1, hr2⟩ := Prod.mk.inj hr1
          clear hr1
          subst hq0
          subst hq1
          subst hr2
          have hP9 := hP.sub (ws' := [(h0, .inr (11, [.ref qf0, .ref qf1, .int v2, .int v3, .int v4, .ref qf5, .int v6, .int v7, .ref qf8, .ref qf9, .ref qf10, .ref qf11, .ref qf12, .ref qf13, .ref qf14, .ref qf15, .int v16, .int v17, .int u1_1, .int 0, .int v20])), (qf15, .inl (cf15, 30, .inl f15))]) [0, 1] rfl
          have hD9 := hD.sub (ws' := [(h0, .inr (11, [.ref qf0, .ref qf1, .int v2, .int v3, .int v4, .ref qf5, .int v6, .int v7, .ref qf8, .ref qf9, .ref qf10, .ref qf11, .ref qf12, .ref qf13, .ref qf14, .ref qf15, .int v16, .int v17, .int u1_1, .int 0, .int v20])), (qf15, .inl (cf15, 30, .inl f15))]) [0, 1] (by decide) rfl
          have hK9 := hK.sub (tys' := [(cf15, .int)]) [0] rfl
          exact W.iret hx hb hr (fun t ht hW => ⟨⟨(u1_0), (), rfl, rfl, by rw [ht]; exact hP9, va_K.moved hW.alike hK9, hD9⟩, hS.F ht⟩) hS.2.2 dX11_wantArray_66
      · rw [if_neg c_16] at hsp
        refine lv_goto (tgt := 37) hx hb dX11_wantArray_23 (by decide) ?_
        refine lv_iconst (v := 1) hx hb dX11_wantArray_37 (by decide) ?_
        refine lv_goto (tgt := 42) hx hb dX11_wantArray_38 (by decide) ?_
        refine lv_istore (lv' := [(4, .int 1), (3, .int u1_0), (0, .ref h0), (1, .int a1), (2, .int a2)]) hx hb dX11_wantArray_42 hl (by decide) rfl (fun ls hl => ?_)
        refine lv_aload_n hx hb dX11_wantArray_44 rfl (lv_at hl 2 rfl) ?_
        refine lv_aload_n hx hb dX11_wantArray_45 rfl (lv_at hl 2 rfl) ?_
        refine va_get (D := (dC, dI)) (ci := 11) (v := .int u1_2) (C := RX11) (T := TX11) (N := 21) hx hb hts uV_h3_X11 hown hK hP 0 rfl rfl 19 (by decide) (hts (.fieldLink RX11 295 "ClassMill$Verifier" "fitting" "Z") mw_h3_220) (fun _ h9 => h9) rfl dX11_wantArray_46 ?_
        refine lv_if_eq (tgt := 61) hx hb dX11_wantArray_49 (by decide) (fun c_19 => ?_) (fun c_19 => ?_)
        · rw [if_pos c_19] at hsp
          refine lv_iconst (v := 0) hx hb dX11_wantArray_61 (by decide) ?_
          refine va_put (D := (dC, dI)) (ci := 11) (v := .int 0) (ty := .boolean) (C := RX11) (T := TX11) (N := 21) hx hb hts uV_h3_X11 tyX11 tyX11_ok nmX11 hown hK hP hD hS 0 rfl rfl 19 (by decide) (hts (.fieldLink RX11 295 "ClassMill$Verifier" "fitting" "Z") mw_h3_220) (fun _ h9 => h9) rfl (by decide +kernel) rfl rfl (Nat.le_of_ble_eq_true rfl) dX11_wantArray_62 ?_
          clear hP hD hS
          intro H locs hP hD hS
          replace hP : va_P (dC, dI) vwCl [(h0, .inr (11, [.ref qf0, .ref qf1, .int v2, .int v3, .int v4, .ref qf5, .int v6, .int v7, .ref qf8, .ref qf9, .ref qf10, .ref qf11, .ref qf12, .ref qf13, .ref qf14, .ref qf15, .int v16, .int v17, .int u1_1, .int 0, .int v20])), (qf15, .inl (cf15, 30, .inl f15))] H := hP
          replace hD : va_D A [(h0, .inr (11, [.ref qf0, .ref qf1, .int v2, .int v3, .int v4, .ref qf5, .int v6, .int v7, .ref qf8, .ref qf9, .ref qf10, .ref qf11, .ref qf12, .ref qf13, .ref qf14, .ref qf15, .int v16, .int v17, .int u1_1, .int 0, .int v20])), (qf15, .inl (cf15, 30, .inl f15))] := hD
          refine lv_iload_n hx hb dX11_wantArray_65 rfl (lv_at hl 1 rfl) ?_
          have hr0 := Option.some.inj hsp
          clear hsp
          obtain ⟨hq0, hr1⟩ := Prod.mk.inj hr0
          clear hr0
          obtain ⟨hq1, hr2⟩ := Prod.mk.inj hr1
          clear hr1
          subst hq0
          subst hq1
          subst hr2
          have hP9 := hP.sub (ws' := [(h0, .inr (11, [.ref qf0, .ref qf1, .int v2, .int v3, .int v4, .ref qf5, .int v6, .int v7, .ref qf8, .ref qf9, .ref qf10, .ref qf11, .ref qf12, .ref qf13, .ref qf14, .ref qf15, .int v16, .int v17, .int u1_1, .int 0, .int v20])), (qf15, .inl (cf15, 30, .inl f15))]) [0, 1] rfl
          have hD9 := hD.sub (ws' := [(h0, .inr (11, [.ref qf0, .ref qf1, .int v2, .int v3, .int v4, .ref qf5, .int v6, .int v7, .ref qf8, .ref qf9, .ref qf10, .ref qf11, .ref qf12, .ref qf13, .ref qf14, .ref qf15, .int v16, .int v17, .int u1_1, .int 0, .int v20])), (qf15, .inl (cf15, 30, .inl f15))]) [0, 1] (by decide) rfl
          have hK9 := hK.sub (tys' := [(cf15, .int)]) [0] rfl
          exact W.iret hx hb hr (fun t ht hW => ⟨⟨(u1_0), (), rfl, rfl, by rw [ht]; exact hP9, va_K.moved hW.alike hK9, hD9⟩, hS.F ht⟩) hS.2.2 dX11_wantArray_66
        · rw [if_neg c_19] at hsp
          refine lv_iload hx hb dX11_wantArray_52 (lv_at hl 0 rfl) ?_
          refine lv_if_eq (tgt := 61) hx hb dX11_wantArray_54 (by decide) (fun c_20 => (show False by revert c_20; decide).elim) (fun c_20 => ?_)
          refine lv_iconst (v := 1) hx hb dX11_wantArray_57 (by decide) ?_
          refine lv_goto (tgt := 62) hx hb dX11_wantArray_58 (by decide) ?_
          refine va_put (D := (dC, dI)) (ci := 11) (v := .int 1) (ty := .boolean) (C := RX11) (T := TX11) (N := 21) hx hb hts uV_h3_X11 tyX11 tyX11_ok nmX11 hown hK hP hD hS 0 rfl rfl 19 (by decide) (hts (.fieldLink RX11 295 "ClassMill$Verifier" "fitting" "Z") mw_h3_220) (fun _ h9 => h9) rfl (by decide +kernel) rfl rfl (Nat.le_of_ble_eq_true rfl) dX11_wantArray_62 ?_
          clear hP hD hS
          intro H locs hP hD hS
          replace hP : va_P (dC, dI) vwCl [(h0, .inr (11, [.ref qf0, .ref qf1, .int v2, .int v3, .int v4, .ref qf5, .int v6, .int v7, .ref qf8, .ref qf9, .ref qf10, .ref qf11, .ref qf12, .ref qf13, .ref qf14, .ref qf15, .int v16, .int v17, .int u1_1, .int 1, .int v20])), (qf15, .inl (cf15, 30, .inl f15))] H := hP
          replace hD : va_D A [(h0, .inr (11, [.ref qf0, .ref qf1, .int v2, .int v3, .int v4, .ref qf5, .int v6, .int v7, .ref qf8, .ref qf9, .ref qf10, .ref qf11, .ref qf12, .ref qf13, .ref qf14, .ref qf15, .int v16, .int v17, .int u1_1, .int 1, .int v20])), (qf15, .inl (cf15, 30, .inl f15))] := hD
          refine lv_iload_n hx hb dX11_wantArray_65 rfl (lv_at hl 1 rfl) ?_
          have hr0 := Option.some.inj hsp
          clear hsp
          obtain ⟨hq0, hr1⟩ := Prod.mk.inj hr0
          clear hr0
          obtain ⟨hq1, hr2⟩ := Prod.mk.inj hr1
          clear hr1
          subst hq0
          subst hq1
          subst hr2
          have hP9 := hP.sub (ws' := [(h0, .inr (11, [.ref qf0, .ref qf1, .int v2, .int v3, .int v4, .ref qf5, .int v6, .int v7, .ref qf8, .ref qf9, .ref qf10, .ref qf11, .ref qf12, .ref qf13, .ref qf14, .ref qf15, .int v16, .int v17, .int u1_1, .int 1, .int v20])), (qf15, .inl (cf15, 30, .inl f15))]) [0, 1] rfl
          have hD9 := hD.sub (ws' := [(h0, .inr (11, [.ref qf0, .ref qf1, .int v2, .int v3, .int v4, .ref qf5, .int v6, .int v7, .ref qf8, .ref qf9, .ref qf10, .ref qf11, .ref qf12, .ref qf13, .ref qf14, .ref qf15, .int v16, .int v17, .int u1_1, .int 1, .int v20])), (qf15, .inl (cf15, 30, .inl f15))]) [0, 1] (by decide) rfl
          have hK9 := hK.sub (tys' := [(cf15, .int)]) [0] rfl
          exact W.iret hx hb hr (fun t ht hW => ⟨⟨(u1_0), (), rfl, rfl, by rw [ht]; exact hP9, va_K.moved hW.alike hK9, hD9⟩, hS.F ht⟩) hS.2.2 dX11_wantArray_66
def sp_t11_push (nf : Nat) (a1 : Int32) (v17 : Int32) (v18 : Int32) (v19 : Int32) (f15 : Nat → Int32) : Option ((Nat → Int32) × Int32 × Int32) := (if v18 < v17 then (if v18 < 0 then none else if 30 ≤ (v18 : Int32).toNatClampNeg then none else (some ((upd f15 (v18 : Int32).toNatClampNeg a1), (v18 + 1), v19))) else (some (f15, v18, 0)))

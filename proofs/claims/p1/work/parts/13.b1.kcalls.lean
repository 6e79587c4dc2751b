set_option maxHeartbeats 4000000 in
set_option maxRecDepth 100000 in
/-- kk_where -/
theorem kk_where (l : Launch) (dC : Nat → ClassId) (dI : Nat → Nat → Nat) (sz : Nat) (h0 : Nat) (a1 : Int32) (qo1 : Nat) (qo2 : Nat) (qo3 : Nat) (qo4 : Nat) (qo5 : Nat) (qo6 : Nat) (qo7 : Nat) (qo8 : Nat) (qo9 : Nat) (qo43 : Nat) (qo57 : Nat) (qo58 : Nat) (qo59 : Nat) (qo60 : Nat) (qo61 : Nat) (qo62 : Nat) (qo63 : Nat) (qo64 : Nat) (qo65 : Nat)  : Met l yX12_where (.code yX12_where cX12_where 2 (some .int) :: VS_k1) ({ frames := 0, cells := 0, slots := 0, locals := 0 }) (va_Pc [.ref h0, .int a1] (fun U => U.heap.size = sz ∧ va_P (dC, dI) vwCl [(h0, .inr (12, [.ref qo1, .int 0, .ref qo2, .ref qo3, .ref qo4, .ref qo5, .ref qo6, .int 0, .ref qo7, .ref qo8, .ref qo9])), (qo8, .inr (11, [.ref qo7, .ref qo43, .int (-1), .int (-1), .int (-1), .ref qo57, .int 0, .int 0, .ref qo58, .ref qo59, .ref qo60, .ref qo61, .ref qo62, .ref qo63, .ref qo64, .ref qo65, .int 0, .int 0, .int 0, .int 0, .int 0]))] U.heap ∧ va_K (dC, dI) vwCl [] U ∧ va_D (fun _ => True) [(h0, .inr (12, [.ref qo1, .int 0, .ref qo2, .ref qo3, .ref qo4, .ref qo5, .ref qo6, .int 0, .ref qo7, .ref qo8, .ref qo9])), (qo8, .inr (11, [.ref qo7, .ref qo43, .int (-1), .int (-1), .int (-1), .ref qo57, .int 0, .int 0, .ref qo58, .ref qo59, .ref qo60, .ref qo61, .ref qo62, .ref qo63, .ref qo64, .ref qo65, .int 0, .int 0, .int 0, .int 0, .int 0]))])) (va_Qi (fun (r : Int32) (u : Unit) => match u with | () => r = an_m1) (fun (u : Unit) (t : State) => match u with | () => va_P (dC, dI) vwCl [] t.heap ∧ va_K (dC, dI) vwCl [] t ∧ va_D (va_A [(h0, .inr (12, [.ref qo1, .int 0, .ref qo2, .ref qo3, .ref qo4, .ref qo5, .ref qo6, .int 0, .ref qo7, .ref qo8, .ref qo9])), (qo8, .inr (11, [.ref qo7, .ref qo43, .int (-1), .int (-1), .int (-1), .ref qo57, .int 0, .int 0, .ref qo58, .ref qo59, .ref qo60, .ref qo61, .ref qo62, .ref qo63, .ref qo64, .ref qo65, .int 0, .int 0, .int 0, .int 0, .int 0]))] sz) []) (va_A [(h0, .inr (12, [.ref qo1, .int 0, .ref qo2, .ref qo3, .ref qo4, .ref qo5, .ref qo6, .int 0, .ref qo7, .ref qo8, .ref qo9])), (qo8, .inr (11, [.ref qo7, .ref qo43, .int (-1), .int (-1), .int (-1), .ref qo57, .int 0, .int 0, .ref qo58, .ref qo59, .ref qo60, .ref qo61, .ref qo62, .ref qo63, .ref qo64, .ref qo65, .int 0, .int 0, .int 0, .int 0, .int 0]))] sz)) 0 0 (va_A [(h0, .inr (12, [.ref qo1, .int 0, .ref qo2, .ref qo3, .ref qo4, .ref qo5, .ref qo6, .int 0, .ref qo7, .ref qo8, .ref qo9])), (qo8, .inr (11, [.ref qo7, .ref qo43, .int (-1), .int (-1), .int (-1), .ref qo57, .int 0, .int 0, .ref qo58, .ref qo59, .ref qo60, .ref qo61, .ref qo62, .ref qo63, .ref qo64, .ref qo65, .int 0, .int 0, .int 0, .int 0, .int 0]))] sz) := by
  refine Met.ofW (cc := cX12_where) (maxL := 2) (ret := (some .int)) (by decide) rfl ?_
  intro p e s m args below meth c s₁ B hml hv
  obtain ⟨rfl, hsz, hP, hK, hD0⟩ := hv
  have hx := B.exec
  have hb := B.bytes
  have hr := B.returns
  have hts := atoms_spec (ws := (.code yX12_where cX12_where 2 (some .int) :: VS_k1)) B.pre
  replace hts := fun w (h : w ∈ VS_k1) => hts w (List.mem_cons_of_mem _ h)
  have hown : s.vm.findClass RX12 = some m.cls := findClass_of_methodNamed B.named
  have hlocks := B.notSynchronized
  subst hsz
  have hD := hD0.self (sz := s.heap.size)
  generalize hAe : va_A [(h0, .inr (12, [.ref qo1, .int 0, .ref qo2, .ref qo3, .ref qo4, .ref qo5, .ref qo6, .int 0, .ref qo7, .ref qo8, .ref qo9])), (qo8, .inr (11, [.ref qo7, .ref qo43, .int (-1), .int (-1), .int (-1), .ref qo57, .int 0, .int 0, .ref qo58, .ref qo59, .ref qo60, .ref qo61, .ref qo62, .ref qo63, .ref qo64, .ref qo65, .int 0, .int 0, .int 0, .int 0, .int 0]))] s.heap.size = A at hD  ⊢
  have hA : ∀ q : Nat, s.heap.size ≤ q → A q := fun q h => by rw [← hAe]; exact Or.inr h
  have hP : va_P (dC, dI) vwCl [(h0, .inr (12, [.ref qo1, .int 0, .ref qo2, .ref qo3, .ref qo4, .ref qo5, .ref qo6, .int 0, .ref qo7, .ref qo8, .ref qo9])), (qo8, .inr (11, [.ref qo7, .ref qo43, .int (-1), .int (-1), .int (-1), .ref qo57, .int 0, .int 0, .ref qo58, .ref qo59, .ref qo60, .ref qo61, .ref qo62, .ref qo63, .ref qo64, .ref qo65, .int 0, .int 0, .int 0, .int 0, .int 0]))] s.heap := hP
  have hl := lv_entry ([.ref h0, .int a1]) (n := 2) (Nat.le_of_ble_eq_true rfl)
  rw [lg_entry_eq]
  generalize (lg_sl ([.ref h0, .int a1]) ++ List.replicate (2 - (lg_sl ([.ref h0, .int a1])).length) Slot.unset).toArray = ls at hl ⊢
  have hl : lv_has ls 2 [(0, .ref h0), (1, .int a1)] := hl
  obtain ⟨H, hH⟩ : ∃ H : Heap, s.heap = H := ⟨_, rfl⟩
  rw [hH] at hP ⊢
  have hS : va_S A s.heap H [] := by rw [← hH]; exact va_S.rf
  obtain ⟨locs, hlo⟩ : ∃ locs : List Loc, locs = [] := ⟨_, rfl⟩
  rw [← hlo] at hS ⊢
  refine lv_iload_n hx hb dX12_where_0 rfl (lv_at hl 1 rfl) ?_
  by_cases hs_1 : a1 = 0
  · refine lv_tableIn (tgt := 28) hx hb dX12_where_1 (by rw [hs_1]; decide) (by rw [hs_1]; decide) (off := 27) (by rw [hs_1]; rfl) (by decide) ?_
    refine lv_aload_n hx hb dX12_where_28 rfl (lv_at hl 0 rfl) ?_
    refine va_get (D := (dC, dI)) (ci := 12) (v := .ref qo8) (C := RX12) (T := TX12) (N := 11) hx hb hts uV_k1_X12 hown hK hP 0 rfl rfl 9 (by decide) (hts (.fieldLink RX12 62 "ClassMill" "verifier" "LClassMill$Verifier;") mw_k1_25) (fun _ h9 => h9) rfl dX12_where_29 ?_
    refine va_get (D := (dC, dI)) (ci := 11) (v := .int (-1)) (C := RX11) (T := TX11) (N := 21) hx hb hts uV_k1_X11 hown hK hP 1 rfl rfl 2 (by decide) (hts (.fieldLink RX12 172 "ClassMill$Verifier" "toldClass" "I") mw_k1_26) (fun _ h9 => h9) rfl dX12_where_32 ?_
    have hP9 := hP.sub (ws' := []) [] rfl
    have hD9 := hD.sub (ws' := []) [] (by decide) rfl
    have hK9 := hK.sub (tys' := []) [] rfl
    exact W.iret hx hb hr (fun t ht hW => ⟨⟨((-1)), (), rfl, lf_m1_58 a1 hs_1, by rw [ht]; exact hP9, va_K.moved hW.alike hK9, hD9⟩, hS.F ht⟩) hS.2.2 dX12_where_35
  by_cases hs_2 : a1 = 1
  · refine lv_tableIn (tgt := 36) hx hb dX12_where_1 (by rw [hs_2]; decide) (by rw [hs_2]; decide) (off := 35) (by rw [hs_2]; rfl) (by decide) ?_
    refine lv_aload_n hx hb dX12_where_36 rfl (lv_at hl 0 rfl) ?_
    refine va_get (D := (dC, dI)) (ci := 12) (v := .ref qo8) (C := RX12) (T := TX12) (N := 11) hx hb hts uV_k1_X12 hown hK hP 0 rfl rfl 9 (by decide) (hts (.fieldLink RX12 62 "ClassMill" "verifier" "LClassMill$Verifier;") mw_k1_25) (fun _ h9 => h9) rfl dX12_where_37 ?_
    refine va_get (D := (dC, dI)) (ci := 11) (v := .int (-1)) (C := RX11) (T := TX11) (N := 21) hx hb hts uV_k1_X11 hown hK hP 1 rfl rfl 3 (by decide) (hts (.fieldLink RX12 175 "ClassMill$Verifier" "toldMethod" "I") mw_k1_27) (fun _ h9 => h9) rfl dX12_where_40 ?_
    have hP9 := hP.sub (ws' := []) [] rfl
    have hD9 := hD.sub (ws' := []) [] (by decide) rfl
    have hK9 := hK.sub (tys' := []) [] rfl
    exact W.iret hx hb hr (fun t ht hW => ⟨⟨((-1)), (), rfl, lf_m1_59 a1 hs_1 hs_2, by rw [ht]; exact hP9, va_K.moved hW.alike hK9, hD9⟩, hS.F ht⟩) hS.2.2 dX12_where_43
  by_cases hs_3 : a1 = 2
  · refine lv_tableIn (tgt := 44) hx hb dX12_where_1 (by rw [hs_3]; decide) (by rw [hs_3]; decide) (off := 43) (by rw [hs_3]; rfl) (by decide) ?_
    refine lv_aload_n hx hb dX12_where_44 rfl (lv_at hl 0 rfl) ?_
    refine va_get (D := (dC, dI)) (ci := 12) (v := .ref qo8) (C := RX12) (T := TX12) (N := 11) hx hb hts uV_k1_X12 hown hK hP 0 rfl rfl 9 (by decide) (hts (.fieldLink RX12 62 "ClassMill" "verifier" "LClassMill$Verifier;") mw_k1_25) (fun _ h9 => h9) rfl dX12_where_45 ?_
    refine va_get (D := (dC, dI)) (ci := 11) (v := .int (-1)) (C := RX11) (T := TX11) (N := 21) hx hb hts uV_k1_X11 hown hK hP 1 rfl rfl 4 (by decide) (hts (.fieldLink RX12 178 "ClassMill$Verifier" "toldPlace" "I") mw_k1_28) (fun _ h9 => h9) rfl dX12_where_48 ?_
    have hP9 := hP.sub (ws' := []) [] rfl
    have hD9 := hD.sub (ws' := []) [] (by decide) rfl
    have hK9 := hK.sub (tys' := []) [] rfl
    exact W.iret hx hb hr (fun t ht hW => ⟨⟨((-1)), (), rfl, lf_m1_60 a1 hs_1 hs_2 hs_3, by rw [ht]; exact hP9, va_K.moved hW.alike hK9, hD9⟩, hS.F ht⟩) hS.2.2 dX12_where_51
  refine lv_tableOut (tgt := 52) hx hb dX12_where_1 (by have a0 := lv_neT hs_1 (a := 0) rfl; have a1 := lv_neT hs_2 (a := 1) rfl; have a2 := lv_neT hs_3 (a := 2) rfl; omega) (by decide) ?_
  refine lv_iconst (v := (-1)) hx hb dX12_where_52 (by decide) ?_
  have hP9 := hP.sub (ws' := []) [] rfl
  have hD9 := hD.sub (ws' := []) [] (by decide) rfl
  have hK9 := hK.sub (tys' := []) [] rfl
  exact W.iret hx hb hr (fun t ht hW => ⟨⟨((-1)), (), rfl, lf_m1_61 a1 hs_1 hs_2 hs_3, by rw [ht]; exact hP9, va_K.moved hW.alike hK9, hD9⟩, hS.F ht⟩) hS.2.2 dX12_where_53
theorem lf_0_62 (a1 a2 : Int32)  : (0 : Int32) = an_0 := by
  first | rfl | (subst_vars; rfl) | (simp_all [an_0]; done) | (subst_vars; simp_all [an_0]; done) | (unfold an_0; (repeat' split) <;> first | rfl | (exfalso; simp_all; done))
set_option maxHeartbeats 4000000 in
set_option maxRecDepth 100000 in
/-- kk_start -/
theorem kk_start (l : Launch) (dC : Nat → ClassId) (dI : Nat → Nat → Nat) (sz : Nat) (h0 : Nat) (a1 : Int32) (a2 : Int32) (qo1 : Nat) (qo2 : Nat) (qo3 : Nat) (qo4 : Nat) (qo5 : Nat) (qo6 : Nat) (qo7 : Nat) (qo8 : Nat) (qo9 : Nat) (qo43 : Nat) (qo44 : Nat) (qo45 : Nat) (qo46 : Nat) (qo47 : Nat) (qo48 : Nat)  : Met l yX12_start (.code yX12_start cX12_start 4 (some .boolean) :: VS_k1) ({ frames := 1, cells := 0, slots := 0, locals := 21 }) (va_Pc [.ref h0, .int a1, .int a2] (fun U => U.heap.size = sz ∧ va_P (dC, dI) vwCl [(h0, .inr (12, [.ref qo1, .int 0, .ref qo2, .ref qo3, .ref qo4, .ref qo5, .ref qo6, .int 0, .ref qo7, .ref qo8, .ref qo9])), (qo7, .inr (7, [.ref qo43, .ref qo44, .ref qo45, .int 0, .int 0, .ref qo46, .ref qo47, .ref qo48]))] U.heap ∧ va_K (dC, dI) vwCl [] U ∧ va_D (fun _ => True) [(h0, .inr (12, [.ref qo1, .int 0, .ref qo2, .ref qo3, .ref qo4, .ref qo5, .ref qo6, .int 0, .ref qo7, .ref qo8, .ref qo9])), (qo7, .inr (7, [.ref qo43, .ref qo44, .ref qo45, .int 0, .int 0, .ref qo46, .ref qo47, .ref qo48]))])) (va_Qi (fun (r : Int32) (u : Unit) => match u with | () => r = an_0) (fun (u : Unit) (t : State) => match u with | () => va_P (dC, dI) vwCl [] t.heap ∧ va_K (dC, dI) vwCl [] t ∧ va_D (va_A [(h0, .inr (12, [.ref qo1, .int 0, .ref qo2, .ref qo3, .ref qo4, .ref qo5, .ref qo6, .int 0, .ref qo7, .ref qo8, .ref qo9])), (qo7, .inr (7, [.ref qo43, .ref qo44, .ref qo45, .int 0, .int 0, .ref qo46, .ref qo47, .ref qo48]))] sz) []) (va_A [(h0, .inr (12, [.ref qo1, .int 0, .ref qo2, .ref qo3, .ref qo4, .ref qo5, .ref qo6, .int 0, .ref qo7, .ref qo8, .ref qo9])), (qo7, .inr (7, [.ref qo43, .ref qo44, .ref qo45, .int 0, .int 0, .ref qo46, .ref qo47, .ref qo48]))] sz)) 0 0 (va_A [(h0, .inr (12, [.ref qo1, .int 0, .ref qo2, .ref qo3, .ref qo4, .ref qo5, .ref qo6, .int 0, .ref qo7, .ref qo8, .ref qo9])), (qo7, .inr (7, [.ref qo43, .ref qo44, .ref qo45, .int 0, .int 0, .ref qo46, .ref qo47, .ref qo48]))] sz) := by
  refine Met.ofW (cc := cX12_start) (maxL := 4) (ret := (some .boolean)) (by decide) rfl ?_
  intro p e s m args below meth c s₁ B hml hv
  obtain ⟨rfl, hsz, hP, hK, hD0⟩ := hv
  have hx := B.exec
  have hb := B.bytes
  have hr := B.returns
  have hts := atoms_spec (ws := (.code yX12_start cX12_start 4 (some .boolean) :: VS_k1)) B.pre
  replace hts := fun w (h : w ∈ VS_k1) => hts w (List.mem_cons_of_mem _ h)
  have hown : s.vm.findClass RX12 = some m.cls := findClass_of_methodNamed B.named
  have hlocks := B.notSynchronized
  subst hsz
  have hD := hD0.self (sz := s.heap.size)
  generalize hAe : va_A [(h0, .inr (12, [.ref qo1, .int 0, .ref qo2, .ref qo3, .ref qo4, .ref qo5, .ref qo6, .int 0, .ref qo7, .ref qo8, .ref qo9])), (qo7, .inr (7, [.ref qo43, .ref qo44, .ref qo45, .int 0, .int 0, .ref qo46, .ref qo47, .ref qo48]))] s.heap.size = A at hD  ⊢
  have hA : ∀ q : Nat, s.heap.size ≤ q → A q := fun q h => by rw [← hAe]; exact Or.inr h
  have hP : va_P (dC, dI) vwCl [(h0, .inr (12, [.ref qo1, .int 0, .ref qo2, .ref qo3, .ref qo4, .ref qo5, .ref qo6, .int 0, .ref qo7, .ref qo8, .ref qo9])), (qo7, .inr (7, [.ref qo43, .ref qo44, .ref qo45, .int 0, .int 0, .ref qo46, .ref qo47, .ref qo48]))] s.heap := hP
  have hl := lv_entry ([.ref h0, .int a1, .int a2]) (n := 4) (Nat.le_of_ble_eq_true rfl)
  rw [lg_entry_eq]
  generalize (lg_sl ([.ref h0, .int a1, .int a2]) ++ List.replicate (4 - (lg_sl ([.ref h0, .int a1, .int a2])).length) Slot.unset).toArray = ls at hl ⊢
  have hl : lv_has ls 4 [(0, .ref h0), (1, .int a1), (2, .int a2)] := hl
  obtain ⟨H, hH⟩ : ∃ H : Heap, s.heap = H := ⟨_, rfl⟩
  rw [hH] at hP ⊢
  have hS : va_S A s.heap H [] := by rw [← hH]; exact va_S.rf
  obtain ⟨locs, hlo⟩ : ∃ locs : List Loc, locs = [] := ⟨_, rfl⟩
  rw [← hlo] at hS ⊢
  refine lv_aload_n hx hb dX12_start_0 rfl (lv_at hl 0 rfl) ?_
  refine va_get (D := (dC, dI)) (ci := 12) (v := .ref qo7) (C := RX12) (T := TX12) (N := 11) hx hb hts uV_k1_X12 hown hK hP 0 rfl rfl 8 (by decide) (hts (.fieldLink RX12 53 "ClassMill" "space" "LClassMill$Space;") mw_k1_24) (fun _ h9 => h9) rfl dX12_start_1 ?_
  refine lv_iload_n hx hb dX12_start_4 rfl (lv_at hl 1 rfl) ?_
  have hPc := hP.sub (ws' := [(qo7, .inr (7, [.ref qo43, .ref qo44, .ref qo45, .int 0, .int 0, .ref qo46, .ref qo47, .ref qo48]))]) [1] rfl
  have hDc := hD.sub (ws' := [(qo7, .inr (7, [.ref qo43, .ref qo44, .ref qo45, .int 0, .int 0, .ref qo46, .ref qo47, .ref qo48]))]) [1] (by decide) rfl
  have hKc := hK.sub (tys' := []) [] rfl
  have hFc := va_free (wc := [(qo7, .inr (7, [.ref qo43, .ref qo44, .ref qo45, .int 0, .int 0, .ref qo46, .ref qo47, .ref qo48]))]) hD hS hA [1] rfl
  refine va_callq (va_runV (As := [.int a1]) (rest := []) ⟨hx, hb, hml, hown, hts⟩ (kk_SimageOf l dC dI H.size qo7 a1 qo43 qo44 qo45 qo46 qo47 qo48) (cwV 1 hts gv_k1_8 rfl rfl rfl (by decide +kernel) ⟨Nat.le_of_ble_eq_true rfl, Nat.le_of_ble_eq_true rfl⟩) ⟨fun a U g mk q => by obtain ⟨q0, q1, qP, qK, qD⟩ := q; exact ⟨q0, q1, qP, va_K.moved (u := U) (U := U.calling g mk a) (Vm.Alike.refl U.vm) qK, qD⟩, va_recv hKc hPc (ci := 7) (q0 := 0) rfl rfl, fun U hU hW => ⟨rfl, by rw [hU], by rw [hU]; exact hPc, va_K.moved hW.alike hKc, hDc.weaken (fun _ _ _ _ => trivial)⟩⟩ rfl rfl hl.1 rfl (lv_room (Nat.le_of_ble_eq_true rfl)) dX12_start_5 ⟨Nat.le_of_ble_eq_true rfl, Nat.le_of_ble_eq_true rfl⟩) hS (fun q _ h => hFc q h) hFc ?_
  clear hS
  intro r_1 u t H1 locs ht hvm hw hB hz1 hk1 hS
  obtain ⟨⟩ := u
  obtain ⟨hP1, hK1, hD1⟩ := hB
  rw [ht] at hP1
  have hK1 := va_K.moved hvm.symm hK1
  try dsimp only at hw
  have hPD := va_join (wr := [(h0, .inr (12, [.ref qo1, .int 0, .ref qo2, .ref qo3, .ref qo4, .ref qo5, .ref qo6, .int 0, .ref qo7, .ref qo8, .ref qo9]))]) (w1 := [(qo7, .inr (7, [.ref qo43, .ref qo44, .ref qo45, .int 0, .int 0, .ref qo46, .ref qo47, .ref qo48]))]) hP hD [1] [0] rfl rfl (by decide) (by decide) hk1 hFc hP1 hD1
  clear hP hD
  obtain ⟨hP, hD⟩ := hPD
  replace hK := (hK.sub (tys' := []) [] rfl).app hK1
  clear hPc hDc hKc hFc hP1 hK1 hD1 hz1 hk1 ht hvm
  generalize H1 = H at hP hS ⊢
  replace hP : va_P (dC, dI) vwCl [(h0, .inr (12, [.ref qo1, .int 0, .ref qo2, .ref qo3, .ref qo4, .ref qo5, .ref qo6, .int 0, .ref qo7, .ref qo8, .ref qo9])), (qo7, .inr (7, [.ref qo43, .ref qo44, .ref qo45, .int 0, .int 0, .ref qo46, .ref qo47, .ref qo48]))] H := hP
  replace hD : va_D A [(h0, .inr (12, [.ref qo1, .int 0, .ref qo2, .ref qo3, .ref qo4, .ref qo5, .ref qo6, .int 0, .ref qo7, .ref qo8, .ref qo9])), (qo7, .inr (7, [.ref qo43, .ref qo44, .ref qo45, .int 0, .int 0, .ref qo46, .ref qo47, .ref qo48]))] := hD
  replace hK : va_K (dC, dI) vwCl [] s := hK
  subst hw
  refine W.eq (g2 := F0 m 8 ls [.null]) rfl ?_
  refine lv_astore_nN (lv' := [(3, .null), (0, .ref h0), (1, .int a1), (2, .int a2)]) hx hb dX12_start_8 rfl hl (by decide) rfl (fun ls hl => ?_)
  refine lv_aload_n hx hb dX12_start_9 rfl (lv_at hl 1 rfl) ?_
  refine va_get (D := (dC, dI)) (ci := 12) (v := .ref qo7) (C := RX12) (T := TX12) (N := 11) hx hb hts uV_k1_X12 hown hK hP 0 rfl rfl 8 (by decide) (hts (.fieldLink RX12 53 "ClassMill" "space" "LClassMill$Space;") mw_k1_24) (fun _ h9 => h9) rfl dX12_start_10 ?_
  refine va_get (D := (dC, dI)) (ci := 7) (v := .int 0) (C := RX7) (T := TX7) (N := 8) hx hb hts uV_k1_X7 hown hK hP 1 rfl rfl 4 (by decide) (hts (.fieldLink RX12 165 "ClassMill$Space" "verified" "Z") mw_k1_30) (fun _ h9 => h9) rfl dX12_start_13 ?_
  refine lv_if_eq (tgt := 35) hx hb dX12_start_16 (by decide) (fun c_2 => ?_) (fun c_2 => (show False by revert c_2; decide).elim)
  refine lv_iconst (v := 0) hx hb dX12_start_35 (by decide) ?_
  have hP9 := hP.sub (ws' := []) [] rfl
  have hD9 := hD.sub (ws' := []) [] (by decide) rfl
  have hK9 := hK.sub (tys' := []) [] rfl
  exact W.zret hx hb hr (by decide) (fun t ht hW => ⟨⟨(0), (), rfl, lf_0_62 a1 a2 , by rw [ht]; exact hP9, va_K.moved hW.alike hK9, hD9⟩, hS.F ht⟩) hS.2.2 dX12_start_36
def an_go : Int32 := 0
theorem lf_go_63 (a1 : Int32) (c_1 : a1 ≤ 0) : (0 : Int32) = an_go := by
  first | rfl | (subst_vars; rfl) | (simp_all [an_go]; done) | (subst_vars; simp_all [an_go]; done) | (unfold an_go; (repeat' split) <;> first | rfl | (exfalso; simp_all; done))
theorem lf_go_64 (a1 : Int32) (c_1 : ¬ a1 ≤ 0) : (0 : Int32) = an_go := by
  first | rfl | (subst_vars; rfl) | (simp_all [an_go]; done) | (subst_vars; simp_all [an_go]; done) | (unfold an_go; (repeat' split) <;> first | rfl | (exfalso; simp_all; done))
set_option maxHeartbeats 4000000 in
set_option maxRecDepth 100000 in
/-- kk_go -/
theorem kk_go (l : Launch) (dC : Nat → ClassId) (dI : Nat → Nat → Nat) (sz : Nat) (qo9 : Nat) (a1 : Int32) (qo7 : Nat) (qo66 : Nat) (qo67 : Nat) (qo68 : Nat) (qo69 : Nat) (qo70 : Nat) (qo71 : Nat) (qo72 : Nat) (qo73 : Nat) (qo74 : Nat) (qo75 : Nat)  : Met l yX5_go (.code yX5_go cX5_go 3 (some .int) :: VS_k1) ({ frames := 0, cells := 0, slots := 0, locals := 0 }) (va_Pc [.ref qo9, .int a1] (fun U => U.heap.size = sz ∧ va_P (dC, dI) vwCl [(qo9, .inr (5, [.ref qo7, .int 0, .int (-1), .int 0, .int 0, .int 0, .int 0, .int 0, .ref qo66, .ref qo67, .ref qo68, .ref qo69, .ref qo70, .ref qo71, .ref qo72, .ref qo73, .ref qo74, .int 0, .ref qo75, .int 0, .int 0]))] U.heap ∧ va_K (dC, dI) vwCl [] U ∧ va_D (fun _ => True) [(qo9, .inr (5, [.ref qo7, .int 0, .int (-1), .int 0, .int 0, .int 0, .int 0, .int 0, .ref qo66, .ref qo67, .ref qo68, .ref qo69, .ref qo70, .ref qo71, .ref qo72, .ref qo73, .ref qo74, .int 0, .ref qo75, .int 0, .int 0]))])) (va_Qi (fun (r : Int32) (u : Unit) => match u with | () => r = an_go) (fun (u : Unit) (t : State) => match u with | () => va_P (dC, dI) vwCl [] t.heap ∧ va_K (dC, dI) vwCl [] t ∧ va_D (va_A [(qo9, .inr (5, [.ref qo7, .int 0, .int (-1), .int 0, .int 0, .int 0, .int 0, .int 0, .ref qo66, .ref qo67, .ref qo68, .ref qo69, .ref qo70, .ref qo71, .ref qo72, .ref qo73, .ref qo74, .int 0, .ref qo75, .int 0, .int 0]))] sz) []) (va_A [(qo9, .inr (5, [.ref qo7, .int 0, .int (-1), .int 0, .int 0, .int 0, .int 0, .int 0, .ref qo66, .ref qo67, .ref qo68, .ref qo69, .ref qo70, .ref qo71, .ref qo72, .ref qo73, .ref qo74, .int 0, .ref qo75, .int 0, .int 0]))] sz)) 0 0 (va_A [(qo9, .inr (5, [.ref qo7, .int 0, .int (-1), .int 0, .int 0, .int 0, .int 0, .int 0, .ref qo66, .ref qo67, .ref qo68, .ref qo69, .ref qo70, .ref qo71, .ref qo72, .ref qo73, .ref qo74, .int 0, .ref qo75, .int 0, .int 0]))] sz) := by
  refine Met.ofW (cc := cX5_go) (maxL := 3) (ret := (some .int)) (by decide) rfl ?_
  intro p e s m args below meth c s₁ B hml hv
  obtain ⟨rfl, hsz, hP, hK, hD0⟩ := hv
  have hx := B.exec
  have hb := B.bytes
  have hr := B.returns
  have hts := atoms_spec (ws := (.code yX5_go cX5_go 3 (some .int) :: VS_k1)) B.pre
  replace hts := fun w (h : w ∈ VS_k1) => hts w (List.mem_cons_of_mem _ h)
  have hown : s.vm.findClass RX5 = some m.cls := findClass_of_methodNamed B.named
  have hlocks := B.notSynchronized
  subst hsz
  have hD := hD0.self (sz := s.heap.size)
  generalize hAe : va_A [(qo9, .inr (5, [.ref qo7, .int 0, .int (-1), .int 0, .int 0, .int 0, .int 0, .int 0, .ref qo66, .ref qo67, .ref qo68, .ref qo69, .ref qo70, .ref qo71, .ref qo72, .ref qo73, .ref qo74, .int 0, .ref qo75, .int 0, .int 0]))] s.heap.size = A at hD  ⊢
  have hA : ∀ q : Nat, s.heap.size ≤ q → A q := fun q h => by rw [← hAe]; exact Or.inr h
  have hP : va_P (dC, dI) vwCl [(qo9, .inr (5, [.ref qo7, .int 0, .int (-1), .int 0, .int 0, .int 0, .int 0, .int 0, .ref qo66, .ref qo67, .ref qo68, .ref qo69, .ref qo70, .ref qo71, .ref qo72, .ref qo73, .ref qo74, .int 0, .ref qo75, .int 0, .int 0]))] s.heap := hP
  have hl := lv_entry ([.ref qo9, .int a1]) (n := 3) (Nat.le_of_ble_eq_true rfl)
  rw [lg_entry_eq]
  generalize (lg_sl ([.ref qo9, .int a1]) ++ List.replicate (3 - (lg_sl ([.ref qo9, .int a1])).length) Slot.unset).toArray = ls at hl ⊢
  have hl : lv_has ls 3 [(0, .ref qo9), (1, .int a1)] := hl
  obtain ⟨H, hH⟩ : ∃ H : Heap, s.heap = H := ⟨_, rfl⟩
  rw [hH] at hP ⊢
  have hS : va_S A s.heap H [] := by rw [← hH]; exact va_S.rf
  obtain ⟨locs, hlo⟩ : ∃ locs : List Loc, locs = [] := ⟨_, rfl⟩
  rw [← hlo] at hS ⊢
  refine lv_iconst (v := 0) hx hb dX5_go_0 (by decide) ?_
  refine lv_istore_n (lv' := [(2, .int 0), (0, .ref qo9), (1, .int a1)]) hx hb dX5_go_1 rfl hl (by decide) rfl (fun ls hl => ?_)
  refine lv_iload_n hx hb dX5_go_2 rfl (lv_at hl 0 rfl) ?_
  refine lv_iload_n hx hb dX5_go_3 rfl (lv_at hl 2 rfl) ?_
  refine lv_icmp_ge (tgt := 66) hx hb dX5_go_4 (by decide) (fun c_1 => ?_) (fun c_1 => ?_)
  · have c_1_ := c_1
    refine lv_aload_n hx hb dX5_go_66 rfl (lv_at hl 1 rfl) ?_
    refine lv_dup hx hb dX5_go_67 rfl ?_
    refine va_get (D := (dC, dI)) (ci := 5) (v := .int 0) (C := RX5) (T := TX5) (N := 21) hx hb hts uV_k1_X5 hown hK hP 0 rfl rfl 3 (by decide) (hts (.fieldLink RX5 57 "ClassMill$Machine" "steps" "I") mw_k1_31) (fun _ h9 => h9) rfl dX5_go_68 ?_
    refine lv_iload_n hx hb dX5_go_71 rfl (lv_at hl 0 rfl) ?_
    refine lv_iadd hx hb dX5_go_72 ?_
    refine lv_topi (fun y_2 ey_2 => ?_)
    obtain rfl : y_2 = 0 := ey_2.trans (by decide)
    refine va_put (D := (dC, dI)) (ci := 5) (v := .int 0) (ty := .int) (C := RX5) (T := TX5) (N := 21) hx hb hts uV_k1_X5 tyX5 tyX5_ok nmX5 hown hK hP hD hS 0 rfl rfl 3 (by decide) (hts (.fieldLink RX5 57 "ClassMill$Machine" "steps" "I") mw_k1_31) (fun _ h9 => h9) rfl (by decide +kernel) rfl rfl (Nat.le_of_ble_eq_true rfl) dX5_go_73 ?_
    clear hP hD hS
    intro H locs hP hD hS
    replace hP : va_P (dC, dI) vwCl [(qo9, .inr (5, [.ref qo7, .int 0, .int (-1), .int 0, .int 0, .int 0, .int 0, .int 0, .ref qo66, .ref qo67, .ref qo68, .ref qo69, .ref qo70, .ref qo71, .ref qo72, .ref qo73, .ref qo74, .int 0, .ref qo75, .int 0, .int 0]))] H := hP
    replace hD : va_D A [(qo9, .inr (5, [.ref qo7, .int 0, .int (-1), .int 0, .int 0, .int 0, .int 0, .int 0, .ref qo66, .ref qo67, .ref qo68, .ref qo69, .ref qo70, .ref qo71, .ref qo72, .ref qo73, .ref qo74, .int 0, .ref qo75, .int 0, .int 0]))] := hD
    refine lv_iload_n hx hb dX5_go_76 rfl (lv_at hl 0 rfl) ?_
    have hP9 := hP.sub (ws' := []) [] rfl
    have hD9 := hD.sub (ws' := []) [] (by decide) rfl
    have hK9 := hK.sub (tys' := []) [] rfl
    exact W.iret hx hb hr (fun t ht hW => ⟨⟨(0), (), rfl, lf_go_63 a1 c_1, by rw [ht]; exact hP9, va_K.moved hW.alike hK9, hD9⟩, hS.F ht⟩) hS.2.2 dX5_go_77
  · have c_1_ := c_1
    refine lv_aload_n hx hb dX5_go_7 rfl (lv_at hl 1 rfl) ?_
    refine va_get (D := (dC, dI)) (ci := 5) (v := .int 0) (C := RX5) (T := TX5) (N := 21) hx hb hts uV_k1_X5 hown hK hP 0 rfl rfl 1 (by decide) (hts (.fieldLink RX5 54 "ClassMill$Machine" "state" "I") mw_k1_32) (fun _ h9 => h9) rfl dX5_go_8 ?_
    refine lv_iconst (v := 1) hx hb dX5_go_11 (by decide) ?_
    refine lv_icmp_ne (tgt := 66) hx hb dX5_go_12 (by decide) (fun c_3 => ?_) (fun c_3 => (show False by revert c_3; decide).elim)
    refine lv_aload_n hx hb dX5_go_66 rfl (lv_at hl 1 rfl) ?_
    refine lv_dup hx hb dX5_go_67 rfl ?_
    refine va_get (D := (dC, dI)) (ci := 5) (v := .int 0) (C := RX5) (T := TX5) (N := 21) hx hb hts uV_k1_X5 hown hK hP 0 rfl rfl 3 (by decide) (hts (.fieldLink RX5 57 "ClassMill$Machine" "steps" "I") mw_k1_31) (fun _ h9 => h9) rfl dX5_go_68 ?_
    refine lv_iload_n hx hb dX5_go_71 rfl (lv_at hl 0 rfl) ?_
    refine lv_iadd hx hb dX5_go_72 ?_
    refine lv_topi (fun y_4 ey_4 => ?_)
    obtain rfl : y_4 = 0 := ey_4.trans (by decide)
    refine va_put (D := (dC, dI)) (ci := 5) (v := .int 0) (ty := .int) (C := RX5) (T := TX5) (N := 21) hx hb hts uV_k1_X5 tyX5 tyX5_ok nmX5 hown hK hP hD hS 0 rfl rfl 3 (by decide) (hts (.fieldLink RX5 57 "ClassMill$Machine" "steps" "I") mw_k1_31) (fun _ h9 => h9) rfl (by decide +kernel) rfl rfl (Nat.le_of_ble_eq_true rfl) dX5_go_73 ?_
    clear hP hD hS
    intro H locs hP hD hS
    replace hP : va_P (dC, dI) vwCl [(qo9, .inr (5, [.ref qo7, .int 0, .int (-1), .int 0, .int 0, .int 0, .int 0, .int 0, .ref qo66, .ref qo67, .ref qo68, .ref qo69, .ref qo70, .ref qo71, .ref qo72, .ref qo73, .ref qo74, .int 0, .ref qo75, .int 0, .int 0]))] H := hP
    replace hD : va_D A [(qo9, .inr (5, [.ref qo7, .int 0, .int (-1), .int 0, .int 0, .int 0, .int 0, .int 0, .ref qo66, .ref qo67, .ref qo68, .ref qo69, .ref qo70, .ref qo71, .ref qo72, .ref qo73, .ref qo74, .int 0, .ref qo75, .int 0, .int 0]))] := hD
    refine lv_iload_n hx hb dX5_go_76 rfl (lv_at hl 0 rfl) ?_
    have hP9 := hP.sub (ws' := []) [] rfl
    have hD9 := hD.sub (ws' := []) [] (by decide) rfl
    have hK9 := hK.sub (tys' := []) [] rfl
    exact W.iret hx hb hr (fun t ht hW => ⟨⟨(0), (), rfl, lf_go_64 a1 c_1, by rw [ht]; exact hP9, va_K.moved hW.alike hK9, hD9⟩, hS.F ht⟩) hS.2.2 dX5_go_77
theorem lf_run_65 (a1 : Int32) (c_1 : a1 < 1) : ((-1) : Int32) = an_run a1 := by
  first | rfl | (subst_vars; rfl) | (simp_all [an_run]; done) | (subst_vars; simp_all [an_run]; done) | (unfold an_run; (repeat' split) <;> first | rfl | (exfalso; simp_all; done))
theorem lf_run_66 (a1 : Int32) (c_1 : ¬ a1 < 1) (c_2 : a1 ≤ 20000) : (0 : Int32) = an_run a1 := by
  first | rfl | (subst_vars; rfl) | (simp_all [an_run]; done) | (subst_vars; simp_all [an_run]; done) | (unfold an_run; (repeat' split) <;> first | rfl | (exfalso; simp_all; done))
theorem lf_run_67 (a1 : Int32) (c_1 : ¬ a1 < 1) (c_2 : ¬ a1 ≤ 20000) : ((-1) : Int32) = an_run a1 := by
  first | rfl | (subst_vars; rfl) | (simp_all [an_run]; done) | (subst_vars; simp_all [an_run]; done) | (unfold an_run; (repeat' split) <;> first | rfl | (exfalso; simp_all; done))
set_option maxHeartbeats 4000000 in
set_option maxRecDepth 100000 in
/-- kk_run -/
theorem kk_run (l : Launch) (dC : Nat → ClassId) (dI : Nat → Nat → Nat) (sz : Nat) (h0 : Nat) (a1 : Int32) (qo1 : Nat) (qo2 : Nat) (qo3 : Nat) (qo4 : Nat) (qo5 : Nat) (qo6 : Nat) (qo7 : Nat) (qo8 : Nat) (qo9 : Nat) (qo66 : Nat) (qo67 : Nat) (qo68 : Nat) (qo69 : Nat) (qo70 : Nat) (qo71 : Nat) (qo72 : Nat) (qo73 : Nat) (qo74 : Nat) (qo75 : Nat)  : Met l yX12_run (.code yX12_run cX12_run 2 (some .int) :: VS_k1) ({ frames := 1, cells := 0, slots := 0, locals := 22 }) (va_Pc [.ref h0, .int a1] (fun U => U.heap.size = sz ∧ va_P (dC, dI) vwCl [(h0, .inr (12, [.ref qo1, .int 0, .ref qo2, .ref qo3, .ref qo4, .ref qo5, .ref qo6, .int 0, .ref qo7, .ref qo8, .ref qo9])), (qo9, .inr (5, [.ref qo7, .int 0, .int (-1), .int 0, .int 0, .int 0, .int 0, .int 0, .ref qo66, .ref qo67, .ref qo68, .ref qo69, .ref qo70, .ref qo71, .ref qo72, .ref qo73, .ref qo74, .int 0, .ref qo75, .int 0, .int 0]))] U.heap ∧ va_K (dC, dI) vwCl [] U ∧ va_D (fun _ => True) [(h0, .inr (12, [.ref qo1, .int 0, .ref qo2, .ref qo3, .ref qo4, .ref qo5, .ref qo6, .int 0, .ref qo7, .ref qo8, .ref qo9])), (qo9, .inr (5, [.ref qo7, .int 0, .int (-1), .int 0, .int 0, .int 0, .int 0, .int 0, .ref qo66, .ref qo67, .ref qo68, .ref qo69, .ref qo70, .ref qo71, .ref qo72, .ref qo73, .ref qo74, .int 0, .ref qo75, .int 0, .int 0]))])) (va_Qi (fun (r : Int32) (u : Unit) => match u with | () => r = an_run a1) (fun (u : Unit) (t : State) => match u with | () => va_P (dC, dI) vwCl [] t.heap ∧ va_K (dC, dI) vwCl [] t ∧ va_D (va_A [(h0, .inr (12, [.ref qo1, .int 0, .ref qo2, .ref qo3, .ref qo4, .ref qo5, .ref qo6, .int 0, .ref qo7, .ref qo8, .ref qo9])), (qo9, .inr (5, [.ref qo7, .int 0, .int (-1), .int 0, .int 0, .int 0, .int 0, .int 0, .ref qo66, .ref qo67, .ref qo68, .ref qo69, .ref qo70, .ref qo71, .ref qo72, .ref qo73, .ref qo74, .int 0, .ref qo75, .int 0, .int 0]))] sz) []) (va_A [(h0, .inr (12, [.ref qo1, .int 0, .ref qo2, .ref qo3, .ref qo4, .ref qo5, .ref qo6, .int 0, .ref qo7, .ref qo8, .ref qo9])), (qo9, .inr (5, [.ref qo7, .int 0, .int (-1), .int 0, .int 0, .int 0, .int 0, .int 0, .ref qo66, .ref qo67, .ref qo68, .ref qo69, .ref qo70, .ref qo71, .ref qo72, .ref qo73, .ref qo74, .int 0, .ref qo75, .int 0, .int 0]))] sz)) 0 0 (va_A [(h0, .inr (12, [.ref qo1, .int 0, .ref qo2, .ref qo3, .ref qo4, .ref qo5, .ref qo6, .int 0, .ref qo7, .ref qo8, .ref qo9])), (qo9, .inr (5, [.ref qo7, .int 0, .int (-1), .int 0, .int 0, .int 0, .int 0, .int 0, .ref qo66, .ref qo67, .ref qo68, .ref qo69, .ref qo70, .ref qo71, .ref qo72, .ref qo73, .ref qo74, .int 0, .ref qo75, .int 0, .int 0]))] sz) := by
  refine Met.ofW (cc := cX12_run) (maxL := 2) (ret := (some .int)) (by decide) rfl ?_
  intro p e s m args below meth c s₁ B hml hv
  obtain ⟨rfl, hsz, hP, hK, hD0⟩ := hv
  have hx := B.exec
  have hb := B.bytes
  have hr := B.returns
  have hts := atoms_spec (ws := (.code yX12_run cX12_run 2 (some .int) :: VS_k1)) B.pre
  replace hts := fun w (h : w ∈ VS_k1) => hts w (List.mem_cons_of_mem _ h)
  have hown : s.vm.findClass RX12 = some m.cls := findClass_of_methodNamed B.named
  have hlocks := B.notSynchronized
  subst hsz
  have hD := hD0.self (sz := s.heap.size)
  generalize hAe : va_A [(h0, .inr (12, [.ref qo1, .int 0, .ref qo2, .ref qo3, .ref qo4, .ref qo5, .ref qo6, .int 0, .ref qo7, .ref qo8, .ref qo9])), (qo9, .inr (5, [.ref qo7, .int 0, .int (-1), .int 0, .int 0, .int 0, .int 0, .int 0, .ref qo66, .ref qo67, .ref qo68, .ref qo69, .ref qo70, .ref qo71, .ref qo72, .ref qo73, .ref qo74, .int 0, .ref qo75, .int 0, .int 0]))] s.heap.size = A at hD  ⊢
  have hA : ∀ q : Nat, s.heap.size ≤ q → A q := fun q h => by rw [← hAe]; exact Or.inr h
  have hP : va_P (dC, dI) vwCl [(h0, .inr (12, [.ref qo1, .int 0, .ref qo2, .ref qo3, .ref qo4, .ref qo5, .ref qo6, .int 0, .ref qo7, .ref qo8, .ref qo9])), (qo9, .inr (5, [.ref qo7, .int 0, .int (-1), .int 0, .int 0, .int 0, .int 0, .int 0, .ref qo66, .ref qo67, .ref qo68, .ref qo69, .ref qo70, .ref qo71, .ref qo72, .ref qo73, .ref qo74, .int 0, .ref qo75, .int 0, .int 0]))] s.heap := hP
  have hl := lv_entry ([.ref h0, .int a1]) (n := 2) (Nat.le_of_ble_eq_true rfl)
  rw [lg_entry_eq]
  generalize (lg_sl ([.ref h0, .int a1]) ++ List.replicate (2 - (lg_sl ([.ref h0, .int a1])).length) Slot.unset).toArray = ls at hl ⊢
  have hl : lv_has ls 2 [(0, .ref h0), (1, .int a1)] := hl
  obtain ⟨H, hH⟩ : ∃ H : Heap, s.heap = H := ⟨_, rfl⟩
  rw [hH] at hP ⊢
  have hS : va_S A s.heap H [] := by rw [← hH]; exact va_S.rf
  obtain ⟨locs, hlo⟩ : ∃ locs : List Loc, locs = [] := ⟨_, rfl⟩
  rw [← hlo] at hS ⊢
  refine lv_iload_n hx hb dX12_run_0 rfl (lv_at hl 1 rfl) ?_
  refine lv_iconst (v := 1) hx hb dX12_run_1 (by decide) ?_
  refine lv_icmp_lt (tgt := 12) hx hb dX12_run_2 (by decide) (fun c_1 => ?_) (fun c_1 => ?_)
  · have c_1_ := c_1
    refine lv_iconst (v := (-1)) hx hb dX12_run_12 (by decide) ?_
    refine lv_goto (tgt := 24) hx hb dX12_run_13 (by decide) ?_
    have hP9 := hP.sub (ws' := []) [] rfl
    have hD9 := hD.sub (ws' := []) [] (by decide) rfl
    have hK9 := hK.sub (tys' := []) [] rfl
    exact W.iret hx hb hr (fun t ht hW => ⟨⟨((-1)), (), rfl, lf_run_65 a1 c_1, by rw [ht]; exact hP9, va_K.moved hW.alike hK9, hD9⟩, hS.F ht⟩) hS.2.2 dX12_run_24
  · have c_1_ := c_1
    refine lv_iload_n hx hb dX12_run_5 rfl (lv_at hl 1 rfl) ?_
    refine lv_sipush (v := 20000) hx hb dX12_run_6 (by decide) ?_
    refine lv_icmp_le (tgt := 16) hx hb dX12_run_9 (by decide) (fun c_2 => ?_) (fun c_2 => ?_)
    · have c_2_ := c_2
      refine lv_aload_n hx hb dX12_run_16 rfl (lv_at hl 0 rfl) ?_
      refine va_get (D := (dC, dI)) (ci := 12) (v := .ref qo9) (C := RX12) (T := TX12) (N := 11) hx hb hts uV_k1_X12 hown hK hP 0 rfl rfl 10 (by decide) (hts (.fieldLink RX12 69 "ClassMill" "machine" "LClassMill$Machine;") mw_k1_38) (fun _ h9 => h9) rfl dX12_run_17 ?_
      refine lv_iload_n hx hb dX12_run_20 rfl (lv_at hl 1 rfl) ?_
      have hPc := hP.sub (ws' := [(qo9, .inr (5, [.ref qo7, .int 0, .int (-1), .int 0, .int 0, .int 0, .int 0, .int 0, .ref qo66, .ref qo67, .ref qo68, .ref qo69, .ref qo70, .ref qo71, .ref qo72, .ref qo73, .ref qo74, .int 0, .ref qo75, .int 0, .int 0]))]) [1] rfl
      have hDc := hD.sub (ws' := [(qo9, .inr (5, [.ref qo7, .int 0, .int (-1), .int 0, .int 0, .int 0, .int 0, .int 0, .ref qo66, .ref qo67, .ref qo68, .ref qo69, .ref qo70, .ref qo71, .ref qo72, .ref qo73, .ref qo74, .int 0, .ref qo75, .int 0, .int 0]))]) [1] (by decide) rfl
      have hKc := hK.sub (tys' := []) [] rfl
      have hFc := va_free (wc := [(qo9, .inr (5, [.ref qo7, .int 0, .int (-1), .int 0, .int 0, .int 0, .int 0, .int 0, .ref qo66, .ref qo67, .ref qo68, .ref qo69, .ref qo70, .ref qo71, .ref qo72, .ref qo73, .ref qo74, .int 0, .ref qo75, .int 0, .int 0]))]) hD hS hA [1] rfl
      refine va_calli (va_runV (As := [.int a1]) (rest := []) ⟨hx, hb, hml, hown, hts⟩ (kk_go l dC dI H.size qo9 a1 qo7 qo66 qo67 qo68 qo69 qo70 qo71 qo72 qo73 qo74 qo75) (cwV 1 hts gv_k1_9 rfl rfl rfl (by decide +kernel) ⟨Nat.le_of_ble_eq_true rfl, Nat.le_of_ble_eq_true rfl⟩) ⟨fun a U g mk q => by obtain ⟨q0, q1, qP, qK, qD⟩ := q; exact ⟨q0, q1, qP, va_K.moved (u := U) (U := U.calling g mk a) (Vm.Alike.refl U.vm) qK, qD⟩, va_recv hKc hPc (ci := 5) (q0 := 0) rfl rfl, fun U hU hW => ⟨rfl, by rw [hU], by rw [hU]; exact hPc, va_K.moved hW.alike hKc, hDc.weaken (fun _ _ _ _ => trivial)⟩⟩ rfl rfl hl.1 rfl (lv_room (Nat.le_of_ble_eq_true rfl)) dX12_run_21 ⟨Nat.le_of_ble_eq_true rfl, Nat.le_of_ble_eq_true rfl⟩) hS (fun q _ h => hFc q h) hFc ?_
      clear hS
      intro r_3 u t H1 locs ht hvm hw hB hz1 hk1 hS
      obtain ⟨⟩ := u
      obtain ⟨hP1, hK1, hD1⟩ := hB
      rw [ht] at hP1
      have hK1 := va_K.moved hvm.symm hK1
      try dsimp only at hw
      have hPD := va_join (wr := [(h0, .inr (12, [.ref qo1, .int 0, .ref qo2, .ref qo3, .ref qo4, .ref qo5, .ref qo6, .int 0, .ref qo7, .ref qo8, .ref qo9]))]) (w1 := []) hP hD [1] [0] rfl rfl (by decide) (by decide) hk1 hFc hP1 hD1
      clear hP hD
      obtain ⟨hP, hD⟩ := hPD
      replace hK := (hK.sub (tys' := []) [] rfl).app hK1
      clear hPc hDc hKc hFc hP1 hK1 hD1 hz1 hk1 ht hvm
      generalize H1 = H at hP hS ⊢
      replace hP : va_P (dC, dI) vwCl [(h0, .inr (12, [.ref qo1, .int 0, .ref qo2, .ref qo3, .ref qo4, .ref qo5, .ref qo6, .int 0, .ref qo7, .ref qo8, .ref qo9]))] H := hP
      replace hD : va_D A [(h0, .inr (12, [.ref qo1, .int 0, .ref qo2, .ref qo3, .ref qo4, .ref qo5, .ref qo6, .int 0, .ref qo7, .ref qo8, .ref qo9]))] := hD
      replace hK : va_K (dC, dI) vwCl [] s := hK
      subst hw
      refine W.eq (g2 := F0 m 24 ls [.int 0]) rfl ?_
      have hP9 := hP.sub (ws' := []) [] rfl
      have hD9 := hD.sub (ws' := []) [] (by decide) rfl
      have hK9 := hK.sub (tys' := []) [] rfl
      exact W.iret hx hb hr (fun t ht hW => ⟨⟨(0), (), rfl, lf_run_66 a1 c_1 c_2, by rw [ht]; exact hP9, va_K.moved hW.alike hK9, hD9⟩, hS.F ht⟩) hS.2.2 dX12_run_24
    · have c_2_ := c_2
      refine lv_iconst (v := (-1)) hx hb dX12_run_12 (by decide) ?_
      refine lv_goto (tgt := 24) hx hb dX12_run_13 (by decide) ?_
      have hP9 := hP.sub (ws' := []) [] rfl
      have hD9 := hD.sub (ws' := []) [] (by decide) rfl
      have hK9 := hK.sub (tys' := []) [] rfl
      exact W.iret hx hb hr (fun t ht hW => ⟨⟨((-1)), (), rfl, lf_run_67 a1 c_1 c_2, by rw [ht]; exact hP9, va_K.moved hW.alike hK9, hD9⟩, hS.F ht⟩) hS.2.2 dX12_run_24
def an_tell (a : Int32) : Int32 := if a = 0 then 0 else if a = 1 then -1 else if a = 2 then 0 else if a = 3 then 0 else if a = 4 then 0 else if a = 5 then 0 else if a = 6 then 0 else -1
theorem lf_tell_68 (a1 : Int32) (hs_1 : a1 = 0) : (0 : Int32) = an_tell a1 := by
  first | rfl | (subst_vars; rfl) | (simp_all [an_tell]; done) | (subst_vars; simp_all [an_tell]; done) | (unfold an_tell; (repeat' split) <;> first | rfl | (exfalso; simp_all; done))
theorem lf_tell_69 (a1 : Int32) (hs_1 : ¬ a1 = 0) (hs_2 : a1 = 1) : ((-1) : Int32) = an_tell a1 := by
  first | rfl | (subst_vars; rfl) | (simp_all [an_tell]; done) | (subst_vars; simp_all [an_tell]; done) | (unfold an_tell; (repeat' split) <;> first | rfl | (exfalso; simp_all; done))
theorem lf_tell_70 (a1 : Int32) (hs_1 : ¬ a1 = 0) (hs_2 : ¬ a1 = 1) (hs_3 : a1 = 2) : (0 : Int32) = an_tell a1 := by
  first | rfl | (subst_vars; rfl) | (simp_all [an_tell]; done) | (subst_vars; simp_all [an_tell]; done) | (unfold an_tell; (repeat' split) <;> first | rfl | (exfalso; simp_all; done))
theorem lf_tell_71 (a1 : Int32) (hs_1 : ¬ a1 = 0) (hs_2 : ¬ a1 = 1) (hs_3 : ¬ a1 = 2) (hs_4 : a1 = 3) : (0 : Int32) = an_tell a1 := by
  first | rfl | (subst_vars; rfl) | (simp_all [an_tell]; done) | (subst_vars; simp_all [an_tell]; done) | (unfold an_tell; (repeat' split) <;> first | rfl | (exfalso; simp_all; done))
theorem lf_tell_72 (a1 : Int32) (hs_1 : ¬ a1 = 0) (hs_2 : ¬ a1 = 1) (hs_3 : ¬ a1 = 2) (hs_4 : ¬ a1 = 3) (hs_5 : a1 = 4) : (0 : Int32) = an_tell a1 := by
  first | rfl | (subst_vars; rfl) | (simp_all [an_tell]; done) | (subst_vars; simp_all [an_tell]; done) | (unfold an_tell; (repeat' split) <;> first | rfl | (exfalso; simp_all; done))
theorem lf_tell_73 (a1 : Int32) (hs_1 : ¬ a1 = 0) (hs_2 : ¬ a1 = 1) (hs_3 : ¬ a1 = 2) (hs_4 : ¬ a1 = 3) (hs_5 : ¬ a1 = 4) (hs_6 : a1 = 5) : (0 : Int32) = an_tell a1 := by
  first | rfl | (subst_vars; rfl) | (simp_all [an_tell]; done) | (subst_vars; simp_all [an_tell]; done) | (unfold an_tell; (repeat' split) <;> first | rfl | (exfalso; simp_all; done))
theorem lf_tell_74 (a1 : Int32) (hs_1 : ¬ a1 = 0) (hs_2 : ¬ a1 = 1) (hs_3 : ¬ a1 = 2) (hs_4 : ¬ a1 = 3) (hs_5 : ¬ a1 = 4) (hs_6 : ¬ a1 = 5) (hs_7 : a1 = 6) : (0 : Int32) = an_tell a1 := by
  first | rfl | (subst_vars; rfl) | (simp_all [an_tell]; done) | (subst_vars; simp_all [an_tell]; done) | (unfold an_tell; (repeat' split) <;> first | rfl | (exfalso; simp_all; done))
theorem lf_tell_75 (a1 : Int32) (hs_1 : ¬ a1 = 0) (hs_2 : ¬ a1 = 1) (hs_3 : ¬ a1 = 2) (hs_4 : ¬ a1 = 3) (hs_5 : ¬ a1 = 4) (hs_6 : ¬ a1 = 5) (hs_7 : ¬ a1 = 6) : ((-1) : Int32) = an_tell a1 := by
  first | rfl | (subst_vars; rfl) | (simp_all [an_tell]; done) | (subst_vars; simp_all [an_tell]; done) | (unfold an_tell; (repeat' split) <;> first | rfl | (exfalso; simp_all; done))
set_option maxHeartbeats 4000000 in
set_option maxRecDepth 100000 in
/-- kk_tell -/
theorem kk_tell (l : Launch) (dC : Nat → ClassId) (dI : Nat → Nat → Nat) (sz : Nat) (qo9 : Nat) (a1 : Int32) (qo7 : Nat) (qo66 : Nat) (qo67 : Nat) (qo68 : Nat) (qo69 : Nat) (qo70 : Nat) (qo71 : Nat) (qo72 : Nat) (qo73 : Nat) (qo74 : Nat) (qo75 : Nat)  : Met l yX5_tell (.code yX5_tell cX5_tell 2 (some .int) :: VS_k1) ({ frames := 0, cells := 0, slots := 0, locals := 0 }) (va_Pc [.ref qo9, .int a1] (fun U => U.heap.size = sz ∧ va_P (dC, dI) vwCl [(qo9, .inr (5, [.ref qo7, .int 0, .int (-1), .int 0, .int 0, .int 0, .int 0, .int 0, .ref qo66, .ref qo67, .ref qo68, .ref qo69, .ref qo70, .ref qo71, .ref qo72, .ref qo73, .ref qo74, .int 0, .ref qo75, .int 0, .int 0]))] U.heap ∧ va_K (dC, dI) vwCl [] U ∧ va_D (fun _ => True) [(qo9, .inr (5, [.ref qo7, .int 0, .int (-1), .int 0, .int 0, .int 0, .int 0, .int 0, .ref qo66, .ref qo67, .ref qo68, .ref qo69, .ref qo70, .ref qo71, .ref qo72, .ref qo73, .ref qo74, .int 0, .ref qo75, .int 0, .int 0]))])) (va_Qi (fun (r : Int32) (u : Unit) => match u with | () => r = an_tell a1) (fun (u : Unit) (t : State) => match u with | () => va_P (dC, dI) vwCl [] t.heap ∧ va_K (dC, dI) vwCl [] t ∧ va_D (va_A [(qo9, .inr (5, [.ref qo7, .int 0, .int (-1), .int 0, .int 0, .int 0, .int 0, .int 0, .ref qo66, .ref qo67, .ref qo68, .ref qo69, .ref qo70, .ref qo71, .ref qo72, .ref qo73, .ref qo74, .int 0, .ref qo75, .int 0, .int 0]))] sz) []) (va_A [(qo9, .inr (5, [.ref qo7, .int 0, .int (-1), .int 0, .int 0, .int 0, .int 0, .int 0, .ref qo66, .ref qo67, .ref qo68, .ref qo69, .ref qo70, .ref qo71, .ref qo72, .ref qo73, .ref qo74, .int 0, .ref qo75, .int 0, .int 0]))] sz)) 0 0 (va_A [(qo9, .inr (5, [.ref qo7, .int 0, .int (-1), .int 0, .int 0, .int 0, .int 0, .int 0, .ref qo66, .ref qo67, .ref qo68, .ref qo69, .ref qo70, .ref qo71, .ref qo72, .ref qo73, .ref qo74, .int 0, .ref qo75, .int 0, .int 0]))] sz) := by
  refine Met.ofW (cc := cX5_tell) (maxL := 2) (ret := (some .int)) (by decide) rfl ?_
  intro p e s m args below meth c s₁ B hml hv
  obtain ⟨rfl, hsz, hP, hK, hD0⟩ := hv
  have hx := B.exec
  have hb := B.bytes
  have hr := B.returns
  have hts := atoms_spec (ws := (.code yX5_tell cX5_tell 2 (some .int) :: VS_k1)) B.pre
  replace hts := fun w (h : w ∈ VS_k1) => hts w (List.mem_cons_of_mem _ h)
  have hown : s.vm.findClass RX5 = some m.cls := findClass_of_methodNamed B.named
  have hlocks := B.notSynchronized
  subst hsz
  have hD := hD0.self (sz := s.heap.size)
  generalize hAe : va_A [(qo9, .inr (5, [.ref qo7, .int 0, .int (-1), .int 0, .int 0, .int 0, .int 0, .int 0, .ref qo66, .ref qo67, .ref qo68, .ref qo69, .ref qo70, .ref qo71, .ref qo72, .ref qo73, .ref qo74, .int 0, .ref qo75, .int 0, .int 0]))] s.heap.size = A at hD  ⊢
  have hA : ∀ q : Nat, s.heap.size ≤ q → A q := fun q h => by rw [← hAe]; exact Or.inr h
  have hP : va_P (dC, dI) vwCl [(qo9, .inr (5, [.ref qo7, .int 0, .int (-1), .int 0, .int 0, .int 0, .int 0, .int 0, .ref qo66, .ref qo67, .ref qo68, .ref qo69, .ref qo70, .ref qo71, .ref qo72, .ref qo73, .ref qo74, .int 0, .ref qo75, .int 0, .int 0]))] s.heap := hP
  have hl := lv_entry ([.ref qo9, .int a1]) (n := 2) (Nat.le_of_ble_eq_true rfl)
  rw [lg_entry_eq]
  generalize (lg_sl ([.ref qo9, .int a1]) ++ List.replicate (2 - (lg_sl ([.ref qo9, .int a1])).length) Slot.unset).toArray = ls at hl ⊢
  have hl : lv_has ls 2 [(0, .ref qo9), (1, .int a1)] := hl
  obtain ⟨H, hH⟩ : ∃ H : Heap, s.heap = H := ⟨_, rfl⟩
  rw [hH] at hP ⊢
  have hS : va_S A s.heap H [] := by rw [← hH]; exact va_S.rf
  obtain ⟨locs, hlo⟩ : ∃ locs : List Loc, locs = [] := ⟨_, rfl⟩
  rw [← hlo] at hS ⊢
  refine lv_iload_n hx hb dX5_tell_0 rfl (lv_at hl 1 rfl) ?_
  by_cases hs_1 : a1 = 0
  · refine lv_tableIn (tgt := 44) hx hb dX5_tell_1 (by rw [hs_1]; decide) (by rw [hs_1]; decide) (off := 43) (by rw [hs_1]; rfl) (by decide) ?_
    refine lv_aload_n hx hb dX5_tell_44 rfl (lv_at hl 0 rfl) ?_
    refine va_get (D := (dC, dI)) (ci := 5) (v := .int 0) (C := RX5) (T := TX5) (N := 21) hx hb hts uV_k1_X5 hown hK hP 0 rfl rfl 1 (by decide) (hts (.fieldLink RX5 54 "ClassMill$Machine" "state" "I") mw_k1_32) (fun _ h9 => h9) rfl dX5_tell_45 ?_
    have hP9 := hP.sub (ws' := []) [] rfl
    have hD9 := hD.sub (ws' := []) [] (by decide) rfl
    have hK9 := hK.sub (tys' := []) [] rfl
    exact W.iret hx hb hr (fun t ht hW => ⟨⟨(0), (), rfl, lf_tell_68 a1 hs_1, by rw [ht]; exact hP9, va_K.moved hW.alike hK9, hD9⟩, hS.F ht⟩) hS.2.2 dX5_tell_48
  by_cases hs_2 : a1 = 1
  · refine lv_tableIn (tgt := 49) hx hb dX5_tell_1 (by rw [hs_2]; decide) (by rw [hs_2]; decide) (off := 48) (by rw [hs_2]; rfl) (by decide) ?_
    refine lv_aload_n hx hb dX5_tell_49 rfl (lv_at hl 0 rfl) ?_
    refine va_get (D := (dC, dI)) (ci := 5) (v := .int (-1)) (C := RX5) (T := TX5) (N := 21) hx hb hts uV_k1_X5 hown hK hP 0 rfl rfl 2 (by decide) (hts (.fieldLink RX5 50 "ClassMill$Machine" "gave" "I") mw_k1_39) (fun _ h9 => h9) rfl dX5_tell_50 ?_
    have hP9 := hP.sub (ws' := []) [] rfl
    have hD9 := hD.sub (ws' := []) [] (by decide) rfl
    have hK9 := hK.sub (tys' := []) [] rfl
    exact W.iret hx hb hr (fun t ht hW => ⟨⟨((-1)), (), rfl, lf_tell_69 a1 hs_1 hs_2, by rw [ht]; exact hP9, va_K.moved hW.alike hK9, hD9⟩, hS.F ht⟩) hS.2.2 dX5_tell_53
  by_cases hs_3 : a1 = 2
  · refine lv_tableIn (tgt := 54) hx hb dX5_tell_1 (by rw [hs_3]; decide) (by rw [hs_3]; decide) (off := 53) (by rw [hs_3]; rfl) (by decide) ?_
    refine lv_aload_n hx hb dX5_tell_54 rfl (lv_at hl 0 rfl) ?_
    refine va_get (D := (dC, dI)) (ci := 5) (v := .int 0) (C := RX5) (T := TX5) (N := 21) hx hb hts uV_k1_X5 hown hK hP 0 rfl rfl 3 (by decide) (hts (.fieldLink RX5 57 "ClassMill$Machine" "steps" "I") mw_k1_31) (fun _ h9 => h9) rfl dX5_tell_55 ?_
    have hP9 := hP.sub (ws' := []) [] rfl
    have hD9 := hD.sub (ws' := []) [] (by decide) rfl
    have hK9 := hK.sub (tys' := []) [] rfl
    exact W.iret hx hb hr (fun t ht hW => ⟨⟨(0), (), rfl, lf_tell_70 a1 hs_1 hs_2 hs_3, by rw [ht]; exact hP9, va_K.moved hW.alike hK9, hD9⟩, hS.F ht⟩) hS.2.2 dX5_tell_58
  by_cases hs_4 : a1 = 3
  · refine lv_tableIn (tgt := 59) hx hb dX5_tell_1 (by rw [hs_4]; decide) (by rw [hs_4]; decide) (off := 58) (by rw [hs_4]; rfl) (by decide) ?_
    refine lv_aload_n hx hb dX5_tell_59 rfl (lv_at hl 0 rfl) ?_
    refine va_get (D := (dC, dI)) (ci := 5) (v := .int 0) (C := RX5) (T := TX5) (N := 21) hx hb hts uV_k1_X5 hown hK hP 0 rfl rfl 4 (by decide) (hts (.fieldLink RX5 60 "ClassMill$Machine" "objects" "I") mw_k1_40) (fun _ h9 => h9) rfl dX5_tell_60 ?_
    have hP9 := hP.sub (ws' := []) [] rfl
    have hD9 := hD.sub (ws' := []) [] (by decide) rfl
    have hK9 := hK.sub (tys' := []) [] rfl
    exact W.iret hx hb hr (fun t ht hW => ⟨⟨(0), (), rfl, lf_tell_71 a1 hs_1 hs_2 hs_3 hs_4, by rw [ht]; exact hP9, va_K.moved hW.alike hK9, hD9⟩, hS.F ht⟩) hS.2.2 dX5_tell_63
  by_cases hs_5 : a1 = 4
  · refine lv_tableIn (tgt := 64) hx hb dX5_tell_1 (by rw [hs_5]; decide) (by rw [hs_5]; decide) (off := 63) (by rw [hs_5]; rfl) (by decide) ?_
    refine lv_aload_n hx hb dX5_tell_64 rfl (lv_at hl 0 rfl) ?_
    refine va_get (D := (dC, dI)) (ci := 5) (v := .int 0) (C := RX5) (T := TX5) (N := 21) hx hb hts uV_k1_X5 hown hK hP 0 rfl rfl 5 (by decide) (hts (.fieldLink RX5 63 "ClassMill$Machine" "cells" "I") mw_k1_41) (fun _ h9 => h9) rfl dX5_tell_65 ?_
    have hP9 := hP.sub (ws' := []) [] rfl
    have hD9 := hD.sub (ws' := []) [] (by decide) rfl
    have hK9 := hK.sub (tys' := []) [] rfl
    exact W.iret hx hb hr (fun t ht hW => ⟨⟨(0), (), rfl, lf_tell_72 a1 hs_1 hs_2 hs_3 hs_4 hs_5, by rw [ht]; exact hP9, va_K.moved hW.alike hK9, hD9⟩, hS.F ht⟩) hS.2.2 dX5_tell_68
  by_cases hs_6 : a1 = 5
  · refine lv_tableIn (tgt := 69) hx hb dX5_tell_1 (by rw [hs_6]; decide) (by rw [hs_6]; decide) (off := 68) (by rw [hs_6]; rfl) (by decide) ?_
    refine lv_aload_n hx hb dX5_tell_69 rfl (lv_at hl 0 rfl) ?_
    refine va_get (D := (dC, dI)) (ci := 5) (v := .int 0) (C := RX5) (T := TX5) (N := 21) hx hb hts uV_k1_X5 hown hK hP 0 rfl rfl 6 (by decide) (hts (.fieldLink RX5 66 "ClassMill$Machine" "depth" "I") mw_k1_42) (fun _ h9 => h9) rfl dX5_tell_70 ?_
    have hP9 := hP.sub (ws' := []) [] rfl
    have hD9 := hD.sub (ws' := []) [] (by decide) rfl
    have hK9 := hK.sub (tys' := []) [] rfl
    exact W.iret hx hb hr (fun t ht hW => ⟨⟨(0), (), rfl, lf_tell_73 a1 hs_1 hs_2 hs_3 hs_4 hs_5 hs_6, by rw [ht]; exact hP9, va_K.moved hW.alike hK9, hD9⟩, hS.F ht⟩) hS.2.2 dX5_tell_73
  by_cases hs_7 : a1 = 6
  · refine lv_tableIn (tgt := 74) hx hb dX5_tell_1 (by rw [hs_7]; decide) (by rw [hs_7]; decide) (off := 73) (by rw [hs_7]; rfl) (by decide) ?_
    refine lv_aload_n hx hb dX5_tell_74 rfl (lv_at hl 0 rfl) ?_
    refine va_get (D := (dC, dI)) (ci := 5) (v := .int 0) (C := RX5) (T := TX5) (N := 21) hx hb hts uV_k1_X5 hown hK hP 0 rfl rfl 7 (by decide) (hts (.fieldLink RX5 69 "ClassMill$Machine" "prints" "I") mw_k1_43) (fun _ h9 => h9) rfl dX5_tell_75 ?_
    have hP9 := hP.sub (ws' := []) [] rfl
    have hD9 := hD.sub (ws' := []) [] (by decide) rfl
    have hK9 := hK.sub (tys' := []) [] rfl
    exact W.iret hx hb hr (fun t ht hW => ⟨⟨(0), (), rfl, lf_tell_74 a1 hs_1 hs_2 hs_3 hs_4 hs_5 hs_6 hs_7, by rw [ht]; exact hP9, va_K.moved hW.alike hK9, hD9⟩, hS.F ht⟩) hS.2.2 dX5_tell_78
  refine lv_tableOut (tgt := 79) hx hb dX5_tell_1 (by have a0 := lv_neT hs_1 (a := 0) rfl; have a1 := lv_neT hs_2 (a := 1) rfl; have a2 := lv_neT hs_3 (a := 2) rfl; have a3 := lv_neT hs_4 (a := 3) rfl; have a4 := lv_neT hs_5 (a := 4) rfl; have a5 := lv_neT hs_6 (a := 5) rfl; have a6 := lv_neT hs_7 (a := 6) rfl; omega) (by decide) ?_
  refine lv_iconst (v := (-1)) hx hb dX5_tell_79 (by decide) ?_
  have hP9 := hP.sub (ws' := []) [] rfl
  have hD9 := hD.sub (ws' := []) [] (by decide) rfl
  have hK9 := hK.sub (tys' := []) [] rfl
  exact W.iret hx hb hr (fun t ht hW => ⟨⟨((-1)), (), rfl, lf_tell_75 a1 hs_1 hs_2 hs_3 hs_4 hs_5 hs_6 hs_7, by rw [ht]; exact hP9, va_K.moved hW.alike hK9, hD9⟩, hS.F ht⟩) hS.2.2 dX5_tell_80
theorem lf_m1_76 (a1 : Int32)  : ((-1) : Int32) = an_m1 := by
  first | rfl | (subst_vars; rfl) | (simp_all [an_m1]; done) | (subst_vars; simp_all [an_m1]; done) | (unfold an_m1; (repeat' split) <;> first | rfl | (exfalso; simp_all; done))
set_option maxHeartbeats 4000000 in
set_option maxRecDepth 100000 in
/-- kk_tellTop -/
theorem kk_tellTop (l : Launch) (dC : Nat → ClassId) (dI : Nat → Nat → Nat) (sz : Nat) (qo9 : Nat) (a1 : Int32) (qo7 : Nat) (qo66 : Nat) (qo67 : Nat) (qo68 : Nat) (qo69 : Nat) (qo70 : Nat) (qo71 : Nat) (qo72 : Nat) (qo73 : Nat) (qo74 : Nat) (qo75 : Nat)  : Met l yX5_tellTop (.code yX5_tellTop cX5_tellTop 2 (some .int) :: VS_k1) ({ frames := 0, cells := 0, slots := 0, locals := 0 }) (va_Pc [.ref qo9, .int a1] (fun U => U.heap.size = sz ∧ va_P (dC, dI) vwCl [(qo9, .inr (5, [.ref qo7, .int 0, .int (-1), .int 0, .int 0, .int 0, .int 0, .int 0, .ref qo66, .ref qo67, .ref qo68, .ref qo69, .ref qo70, .ref qo71, .ref qo72, .ref qo73, .ref qo74, .int 0, .ref qo75, .int 0, .int 0]))] U.heap ∧ va_K (dC, dI) vwCl [] U ∧ va_D (fun _ => True) [(qo9, .inr (5, [.ref qo7, .int 0, .int (-1), .int 0, .int 0, .int 0, .int 0, .int 0, .ref qo66, .ref qo67, .ref qo68, .ref qo69, .ref qo70, .ref qo71, .ref qo72, .ref qo73, .ref qo74, .int 0, .ref qo75, .int 0, .int 0]))])) (va_Qi (fun (r : Int32) (u : Unit) => match u with | () => r = an_m1) (fun (u : Unit) (t : State) => match u with | () => va_P (dC, dI) vwCl [] t.heap ∧ va_K (dC, dI) vwCl [] t ∧ va_D (va_A [(qo9, .inr (5, [.ref qo7, .int 0, .int (-1), .int 0, .int 0, .int 0, .int 0, .int 0, .ref qo66, .ref qo67, .ref qo68, .ref qo69, .ref qo70, .ref qo71, .ref qo72, .ref qo73, .ref qo74, .int 0, .ref qo75, .int 0, .int 0]))] sz) []) (va_A [(qo9, .inr (5, [.ref qo7, .int 0, .int (-1), .int 0, .int 0, .int 0, .int 0, .int 0, .ref qo66, .ref qo67, .ref qo68, .ref qo69, .ref qo70, .ref qo71, .ref qo72, .ref qo73, .ref qo74, .int 0, .ref qo75, .int 0, .int 0]))] sz)) 0 0 (va_A [(qo9, .inr (5, [.ref qo7, .int 0, .int (-1), .int 0, .int 0, .int 0, .int 0, .int 0, .ref qo66, .ref qo67, .ref qo68, .ref qo69, .ref qo70, .ref qo71, .ref qo72, .ref qo73, .ref qo74, .int 0, .ref qo75, .int 0, .int 0]))] sz) := by
  refine Met.ofW (cc := cX5_tellTop) (maxL := 2) (ret := (some .int)) (by decide) rfl ?_
  intro p e s m args below meth c s₁ B hml hv
  obtain ⟨rfl, hsz, hP, hK, hD0⟩ := hv
  have hx := B.exec
  have hb := B.bytes
  have hr := B.returns
  have hts := atoms_spec (ws := (.code yX5_tellTop cX5_tellTop 2 (some .int) :: VS_k1)) B.pre
  replace hts := fun w (h : w ∈ VS_k1) => hts w (List.mem_cons_of_mem _ h)
  have hown : s.vm.findClass RX5 = some m.cls := findClass_of_methodNamed B.named
  have hlocks := B.notSynchronized
  subst hsz
  have hD := hD0.self (sz := s.heap.size)
  generalize hAe : va_A [(qo9, .inr (5, [.ref qo7, .int 0, .int (-1), .int 0, .int 0, .int 0, .int 0, .int 0, .ref qo66, .ref qo67, .ref qo68, .ref qo69, .ref qo70, .ref qo71, .ref qo72, .ref qo73, .ref qo74, .int 0, .ref qo75, .int 0, .int 0]))] s.heap.size = A at hD  ⊢
  have hA : ∀ q : Nat, s.heap.size ≤ q → A q := fun q h => by rw [← hAe]; exact Or.inr h
  have hP : va_P (dC, dI) vwCl [(qo9, .inr (5, [.ref qo7, .int 0, .int (-1), .int 0, .int 0, .int 0, .int 0, .int 0, .ref qo66, .ref qo67, .ref qo68, .ref qo69, .ref qo70, .ref qo71, .ref qo72, .ref qo73, .ref qo74, .int 0, .ref qo75, .int 0, .int 0]))] s.heap := hP
  have hl := lv_entry ([.ref qo9, .int a1]) (n := 2) (Nat.le_of_ble_eq_true rfl)
  rw [lg_entry_eq]
  generalize (lg_sl ([.ref qo9, .int a1]) ++ List.replicate (2 - (lg_sl ([.ref qo9, .int a1])).length) Slot.unset).toArray = ls at hl ⊢
  have hl : lv_has ls 2 [(0, .ref qo9), (1, .int a1)] := hl
  obtain ⟨H, hH⟩ : ∃ H : Heap, s.heap = H := ⟨_, rfl⟩
  rw [hH] at hP ⊢
  have hS : va_S A s.heap H [] := by rw [← hH]; exact va_S.rf
  obtain ⟨locs, hlo⟩ : ∃ locs : List Loc, locs = [] := ⟨_, rfl⟩
  rw [← hlo] at hS ⊢
  refine lv_aload_n hx hb dX5_tellTop_0 rfl (lv_at hl 0 rfl) ?_
  refine va_get (D := (dC, dI)) (ci := 5) (v := .int 0) (C := RX5) (T := TX5) (N := 21) hx hb hts uV_k1_X5 hown hK hP 0 rfl rfl 1 (by decide) (hts (.fieldLink RX5 54 "ClassMill$Machine" "state" "I") mw_k1_32) (fun _ h9 => h9) rfl dX5_tellTop_1 ?_
  refine lv_iconst (v := 1) hx hb dX5_tellTop_4 (by decide) ?_
  refine lv_icmp_eq (tgt := 10) hx hb dX5_tellTop_5 (by decide) (fun c_1 => (show False by revert c_1; decide).elim) (fun c_1 => ?_)
  refine lv_iconst (v := (-1)) hx hb dX5_tellTop_8 (by decide) ?_
  have hP9 := hP.sub (ws' := []) [] rfl
  have hD9 := hD.sub (ws' := []) [] (by decide) rfl
  have hK9 := hK.sub (tys' := []) [] rfl
  exact W.iret hx hb hr (fun t ht hW => ⟨⟨((-1)), (), rfl, lf_m1_76 a1 , by rw [ht]; exact hP9, va_K.moved hW.alike hK9, hD9⟩, hS.F ht⟩) hS.2.2 dX5_tellTop_9
theorem lf_0_77 (a1 : Int32) (c_1 : a1 < 0) : (0 : Int32) = an_0 := by
  first | rfl | (subst_vars; rfl) | (simp_all [an_0]; done) | (subst_vars; simp_all [an_0]; done) | (unfold an_0; (repeat' split) <;> first | rfl | (exfalso; simp_all; done))
theorem lf_0_78 (a1 : Int32) (c_1 : ¬ a1 < 0) (c_2 : 0 ≤ a1) : (0 : Int32) = an_0 := by
  first | rfl | (subst_vars; rfl) | (simp_all [an_0]; done) | (subst_vars; simp_all [an_0]; done) | (unfold an_0; (repeat' split) <;> first | rfl | (exfalso; simp_all; done))
set_option maxHeartbeats 4000000 in
set_option maxRecDepth 100000 in
/-- kk_printedAt -/
theorem kk_printedAt (l : Launch) (dC : Nat → ClassId) (dI : Nat → Nat → Nat) (sz : Nat) (qo9 : Nat) (a1 : Int32) (qo7 : Nat) (qo66 : Nat) (qo67 : Nat) (qo68 : Nat) (qo69 : Nat) (qo70 : Nat) (qo71 : Nat) (qo72 : Nat) (qo73 : Nat) (qo74 : Nat) (qo75 : Nat)  : Met l yX5_printedAt (.code yX5_printedAt cX5_printedAt 2 (some .int) :: VS_k1) ({ frames := 0, cells := 0, slots := 0, locals := 0 }) (va_Pc [.ref qo9, .int a1] (fun U => U.heap.size = sz ∧ va_P (dC, dI) vwCl [(qo9, .inr (5, [.ref qo7, .int 0, .int (-1), .int 0, .int 0, .int 0, .int 0, .int 0, .ref qo66, .ref qo67, .ref qo68, .ref qo69, .ref qo70, .ref qo71, .ref qo72, .ref qo73, .ref qo74, .int 0, .ref qo75, .int 0, .int 0]))] U.heap ∧ va_K (dC, dI) vwCl [] U ∧ va_D (fun _ => True) [(qo9, .inr (5, [.ref qo7, .int 0, .int (-1), .int 0, .int 0, .int 0, .int 0, .int 0, .ref qo66, .ref qo67, .ref qo68, .ref qo69, .ref qo70, .ref qo71, .ref qo72, .ref qo73, .ref qo74, .int 0, .ref qo75, .int 0, .int 0]))])) (va_Qi (fun (r : Int32) (u : Unit) => match u with | () => r = an_0) (fun (u : Unit) (t : State) => match u with | () => va_P (dC, dI) vwCl [] t.heap ∧ va_K (dC, dI) vwCl [] t ∧ va_D (va_A [(qo9, .inr (5, [.ref qo7, .int 0, .int (-1), .int 0, .int 0, .int 0, .int 0, .int 0, .ref qo66, .ref qo67, .ref qo68, .ref qo69, .ref qo70, .ref qo71, .ref qo72, .ref qo73, .ref qo74, .int 0, .ref qo75, .int 0, .int 0]))] sz) []) (va_A [(qo9, .inr (5, [.ref qo7, .int 0, .int (-1), .int 0, .int 0, .int 0, .int 0, .int 0, .ref qo66, .ref qo67, .ref qo68, .ref qo69, .ref qo70, .ref qo71, .ref qo72, .ref qo73, .ref qo74, .int 0, .ref qo75, .int 0, .int 0]))] sz)) 0 0 (va_A [(qo9, .inr (5, [.ref qo7, .int 0, .int (-1), .int 0, .int 0, .int 0, .int 0, .int 0, .ref qo66, .ref qo67, .ref qo68, .ref qo69, .ref qo70, .ref qo71, .ref qo72, .ref qo73, .ref qo74, .int 0, .ref qo75, .int 0, .int 0]))] sz) := by
  refine Met.ofW (cc := cX5_printedAt) (maxL := 2) (ret := (some .int)) (by decide) rfl ?_
  intro p e s m args below meth c s₁ B hml hv
  obtain ⟨rfl, hsz, hP, hK, hD0⟩ := hv
  have hx := B.exec
  have hb := B.bytes
  have hr := B.returns
  have hts := atoms_spec (ws := (.code yX5_printedAt cX5_printedAt 2 (some .int) :: VS_k1)) B.pre
  replace hts := fun w (h : w ∈ VS_k1) => hts w (List.mem_cons_of_mem _ h)
  have hown : s.vm.findClass RX5 = some m.cls := findClass_of_methodNamed B.named
  have hlocks := B.notSynchronized
  subst hsz
  have hD := hD0.self (sz := s.heap.size)
  generalize hAe : va_A [(qo9, .inr (5, [.ref qo7, .int 0, .int (-1), .int 0, .int 0, .int 0, .int 0, .int 0, .ref qo66, .ref qo67, .ref qo68, .ref qo69, .ref qo70, .ref qo71, .ref qo72, .ref qo73, .ref qo74, .int 0, .ref qo75, .int 0, .int 0]))] s.heap.size = A at hD  ⊢
  have hA : ∀ q : Nat, s.heap.size ≤ q → A q := fun q h => by rw [← hAe]; exact Or.inr h
  have hP : va_P (dC, dI) vwCl [(qo9, .inr (5, [.ref qo7, .int 0, .int (-1), .int 0, .int 0, .int 0, .int 0, .int 0, .ref qo66, .ref qo67, .ref qo68, .ref qo69, .ref qo70, .ref qo71, .ref qo72, .ref qo73, .ref qo74, .int 0, .ref qo75, .int 0, .int 0]))] s.heap := hP
  have hl := lv_entry ([.ref qo9, .int a1]) (n := 2) (Nat.le_of_ble_eq_true rfl)
  rw [lg_entry_eq]
  generalize (lg_sl ([.ref qo9, .int a1]) ++ List.replicate (2 - (lg_sl ([.ref qo9, .int a1])).length) Slot.unset).toArray = ls at hl ⊢
  have hl : lv_has ls 2 [(0, .ref qo9), (1, .int a1)] := hl
  obtain ⟨H, hH⟩ : ∃ H : Heap, s.heap = H := ⟨_, rfl⟩
  rw [hH] at hP ⊢
  have hS : va_S A s.heap H [] := by rw [← hH]; exact va_S.rf
  obtain ⟨locs, hlo⟩ : ∃ locs : List Loc, locs = [] := ⟨_, rfl⟩
  rw [← hlo] at hS ⊢
  refine lv_iload_n hx hb dX5_printedAt_0 rfl (lv_at hl 1 rfl) ?_
  refine lv_if_lt (tgt := 28) hx hb dX5_printedAt_1 (by decide) (fun c_1 => ?_) (fun c_1 => ?_)
  · have c_1_ := c_1
    refine lv_iconst (v := 0) hx hb dX5_printedAt_28 (by decide) ?_
    have hP9 := hP.sub (ws' := []) [] rfl
    have hD9 := hD.sub (ws' := []) [] (by decide) rfl
    have hK9 := hK.sub (tys' := []) [] rfl
    exact W.iret hx hb hr (fun t ht hW => ⟨⟨(0), (), rfl, lf_0_77 a1 c_1, by rw [ht]; exact hP9, va_K.moved hW.alike hK9, hD9⟩, hS.F ht⟩) hS.2.2 dX5_printedAt_29
  · have c_1_ := c_1
    refine lv_iload_n hx hb dX5_printedAt_4 rfl (lv_at hl 1 rfl) ?_
    refine lv_aload_n hx hb dX5_printedAt_5 rfl (lv_at hl 0 rfl) ?_
    refine va_get (D := (dC, dI)) (ci := 5) (v := .int 0) (C := RX5) (T := TX5) (N := 21) hx hb hts uV_k1_X5 hown hK hP 0 rfl rfl 7 (by decide) (hts (.fieldLink RX5 69 "ClassMill$Machine" "prints" "I") mw_k1_43) (fun _ h9 => h9) rfl dX5_printedAt_6 ?_
    refine lv_icmp_ge (tgt := 28) hx hb dX5_printedAt_9 (by decide) (fun c_2 => ?_) (fun c_2 => ?_)
    · have c_2_ := c_2
      refine lv_iconst (v := 0) hx hb dX5_printedAt_28 (by decide) ?_
      have hP9 := hP.sub (ws' := []) [] rfl
      have hD9 := hD.sub (ws' := []) [] (by decide) rfl
      have hK9 := hK.sub (tys' := []) [] rfl
      exact W.iret hx hb hr (fun t ht hW => ⟨⟨(0), (), rfl, lf_0_78 a1 c_1 c_2, by rw [ht]; exact hP9, va_K.moved hW.alike hK9, hD9⟩, hS.F ht⟩) hS.2.2 dX5_printedAt_29
    · have c_2_ := c_2
      exact absurd (Int32.not_lt.mp c_1) c_2
theorem lf_0_79 (a1 : Int32)  : (0 : Int32) = an_0 := by
  first | rfl | (subst_vars; rfl) | (simp_all [an_0]; done) | (subst_vars; simp_all [an_0]; done) | (unfold an_0; (repeat' split) <;> first | rfl | (exfalso; simp_all; done))
set_option maxHeartbeats 4000000 in
set_option maxRecDepth 100000 in
/-- kk_out -/
theorem kk_out (l : Launch) (dC : Nat → ClassId) (dI : Nat → Nat → Nat) (sz : Nat) (h0 : Nat) (a1 : Int32) (qo1 : Nat) (qo2 : Nat) (qo3 : Nat) (qo4 : Nat) (qo5 : Nat) (qo6 : Nat) (qo7 : Nat) (qo8 : Nat) (qo9 : Nat) (qo66 : Nat) (qo67 : Nat) (qo68 : Nat) (qo69 : Nat) (qo70 : Nat) (qo71 : Nat) (qo72 : Nat) (qo73 : Nat) (qo74 : Nat) (qo75 : Nat)  : Met l yX12_out (.code yX12_out cX12_out 2 (some .int) :: VS_k1) ({ frames := 1, cells := 0, slots := 0, locals := 21 }) (va_Pc [.ref h0, .int a1] (fun U => U.heap.size = sz ∧ va_P (dC, dI) vwCl [(h0, .inr (12, [.ref qo1, .int 0, .ref qo2, .ref qo3, .ref qo4, .ref qo5, .ref qo6, .int 0, .ref qo7, .ref qo8, .ref qo9])), (qo9, .inr (5, [.ref qo7, .int 0, .int (-1), .int 0, .int 0, .int 0, .int 0, .int 0, .ref qo66, .ref qo67, .ref qo68, .ref qo69, .ref qo70, .ref qo71, .ref qo72, .ref qo73, .ref qo74, .int 0, .ref qo75, .int 0, .int 0]))] U.heap ∧ va_K (dC, dI) vwCl [] U ∧ va_D (fun _ => True) [(h0, .inr (12, [.ref qo1, .int 0, .ref qo2, .ref qo3, .ref qo4, .ref qo5, .ref qo6, .int 0, .ref qo7, .ref qo8, .ref qo9])), (qo9, .inr (5, [.ref qo7, .int 0, .int (-1), .int 0, .int 0, .int 0, .int 0, .int 0, .ref qo66, .ref qo67, .ref qo68, .ref qo69, .ref qo70, .ref qo71, .ref qo72, .ref qo73, .ref qo74, .int 0, .ref qo75, .int 0, .int 0]))])) (va_Qi (fun (r : Int32) (u : Unit) => match u with | () => r = an_0) (fun (u : Unit) (t : State) => match u with | () => va_P (dC, dI) vwCl [] t.heap ∧ va_K (dC, dI) vwCl [] t ∧ va_D (va_A [(h0, .inr (12, [.ref qo1, .int 0, .ref qo2, .ref qo3, .ref qo4, .ref qo5, .ref qo6, .int 0, .ref qo7, .ref qo8, .ref qo9])), (qo9, .inr (5, [.ref qo7, .int 0, .int (-1), .int 0, .int 0, .int 0, .int 0, .int 0, .ref qo66, .ref qo67, .ref qo68, .ref qo69, .ref qo70, .ref qo71, .ref qo72, .ref qo73, .ref qo74, .int 0, .ref qo75, .int 0, .int 0]))] sz) []) (va_A [(h0, .inr (12, [.ref qo1, .int 0, .ref qo2, .ref qo3, .ref qo4, .ref qo5, .ref qo6, .int 0, .ref qo7, .ref qo8, .ref qo9])), (qo9, .inr (5, [.ref qo7, .int 0, .int (-1), .int 0, .int 0, .int 0, .int 0, .int 0, .ref qo66, .ref qo67, .ref qo68, .ref qo69, .ref qo70, .ref qo71, .ref qo72, .ref qo73, .ref qo74, .int 0, .ref qo75, .int 0, .int 0]))] sz)) 0 0 (va_A [(h0, .inr (12, [.ref qo1, .int 0, .ref qo2, .ref qo3, .ref qo4, .ref qo5, .ref qo6, .int 0, .ref qo7, .ref qo8, .ref qo9])), (qo9, .inr (5, [.ref qo7, .int 0, .int (-1), .int 0, .int 0, .int 0, .int 0, .int 0, .ref qo66, .ref qo67, .ref qo68, .ref qo69, .ref qo70, .ref qo71, .ref qo72, .ref qo73, .ref qo74, .int 0, .ref qo75, .int 0, .int 0]))] sz) := by
  refine Met.ofW (cc := cX12_out) (maxL := 2) (ret := (some .int)) (by decide) rfl ?_
  intro p e s m args below meth c s₁ B hml hv
  obtain ⟨rfl, hsz, hP, hK, hD0⟩ := hv
  have hx := B.exec
  have hb := B.bytes
  have hr := B.returns
  have hts := atoms_spec (ws := (.code yX12_out cX12_out 2 (some .int) :: VS_k1)) B.pre
  replace hts := fun w (h : w ∈ VS_k1) => hts w (List.mem_cons_of_mem _ h)
  have hown : s.vm.findClass RX12 = some m.cls := findClass_of_methodNamed B.named
  have hlocks := B.notSynchronized
  subst hsz
  have hD := hD0.self (sz := s.heap.size)
  generalize hAe : va_A [(h0, .inr (12, [.ref qo1, .int 0, .ref qo2, .ref qo3, .ref qo4, .ref qo5, .ref qo6, .int 0, .ref qo7, .ref qo8, .ref qo9])), (qo9, .inr (5, [.ref qo7, .int 0, .int (-1), .int 0, .int 0, .int 0, .int 0, .int 0, .ref qo66, .ref qo67, .ref qo68, .ref qo69, .ref qo70, .ref qo71, .ref qo72, .ref qo73, .ref qo74, .int 0, .ref qo75, .int 0, .int 0]))] s.heap.size = A at hD  ⊢
  have hA : ∀ q : Nat, s.heap.size ≤ q → A q := fun q h => by rw [← hAe]; exact Or.inr h
  have hP : va_P (dC, dI) vwCl [(h0, .inr (12, [.ref qo1, .int 0, .ref qo2, .ref qo3, .ref qo4, .ref qo5, .ref qo6, .int 0, .ref qo7, .ref qo8, .ref qo9])), (qo9, .inr (5, [.ref qo7, .int 0, .int (-1), .int 0, .int 0, .int 0, .int 0, .int 0, .ref qo66, .ref qo67, .ref qo68, .ref qo69, .ref qo70, .ref qo71, .ref qo72, .ref qo73, .ref qo74, .int 0, .ref qo75, .int 0, .int 0]))] s.heap := hP
  have hl := lv_entry ([.ref h0, .int a1]) (n := 2) (Nat.le_of_ble_eq_true rfl)
  rw [lg_entry_eq]
  generalize (lg_sl ([.ref h0, .int a1]) ++ List.replicate (2 - (lg_sl ([.ref h0, .int a1])).length) Slot.unset).toArray = ls at hl ⊢
  have hl : lv_has ls 2 [(0, .ref h0), (1, .int a1)] := hl
  obtain ⟨H, hH⟩ : ∃ H : Heap, s.heap = H := ⟨_, rfl⟩
  rw [hH] at hP ⊢
  have hS : va_S A s.heap H [] := by rw [← hH]; exact va_S.rf
  obtain ⟨locs, hlo⟩ : ∃ locs : List Loc, locs = [] := ⟨_, rfl⟩
  rw [← hlo] at hS ⊢
  refine lv_aload_n hx hb dX12_out_0 rfl (lv_at hl 0 rfl) ?_
  refine va_get (D := (dC, dI)) (ci := 12) (v := .ref qo9) (C := RX12) (T := TX12) (N := 11) hx hb hts uV_k1_X12 hown hK hP 0 rfl rfl 10 (by decide) (hts (.fieldLink RX12 69 "ClassMill" "machine" "LClassMill$Machine;") mw_k1_38) (fun _ h9 => h9) rfl dX12_out_1 ?_
  refine lv_iload_n hx hb dX12_out_4 rfl (lv_at hl 1 rfl) ?_
  have hPc := hP.sub (ws' := [(qo9, .inr (5, [.ref qo7, .int 0, .int (-1), .int 0, .int 0, .int 0, .int 0, .int 0, .ref qo66, .ref qo67, .ref qo68, .ref qo69, .ref qo70, .ref qo71, .ref qo72, .ref qo73, .ref qo74, .int 0, .ref qo75, .int 0, .int 0]))]) [1] rfl
  have hDc := hD.sub (ws' := [(qo9, .inr (5, [.ref qo7, .int 0, .int (-1), .int 0, .int 0, .int 0, .int 0, .int 0, .ref qo66, .ref qo67, .ref qo68, .ref qo69, .ref qo70, .ref qo71, .ref qo72, .ref qo73, .ref qo74, .int 0, .ref qo75, .int 0, .int 0]))]) [1] (by decide) rfl
  have hKc := hK.sub (tys' := []) [] rfl
  have hFc := va_free (wc := [(qo9, .inr (5, [.ref qo7, .int 0, .int (-1), .int 0, .int 0, .int 0, .int 0, .int 0, .ref qo66, .ref qo67, .ref qo68, .ref qo69, .ref qo70, .ref qo71, .ref qo72, .ref qo73, .ref qo74, .int 0, .ref qo75, .int 0, .int 0]))]) hD hS hA [1] rfl
  refine va_calli (va_runV (As := [.int a1]) (rest := []) ⟨hx, hb, hml, hown, hts⟩ (kk_printedAt l dC dI H.size qo9 a1 qo7 qo66 qo67 qo68 qo69 qo70 qo71 qo72 qo73 qo74 qo75) (cwV 1 hts gv_k1_10 rfl rfl rfl (by decide +kernel) ⟨Nat.le_of_ble_eq_true rfl, Nat.le_of_ble_eq_true rfl⟩) ⟨fun a U g mk q => by obtain ⟨q0, q1, qP, qK, qD⟩ := q; exact ⟨q0, q1, qP, va_K.moved (u := U) (U := U.calling g mk a) (Vm.Alike.refl U.vm) qK, qD⟩, va_recv hKc hPc (ci := 5) (q0 := 0) rfl rfl, fun U hU hW => ⟨rfl, by rw [hU], by rw [hU]; exact hPc, va_K.moved hW.alike hKc, hDc.weaken (fun _ _ _ _ => trivial)⟩⟩ rfl rfl hl.1 rfl (lv_room (Nat.le_of_ble_eq_true rfl)) dX12_out_5 ⟨Nat.le_of_ble_eq_true rfl, Nat.le_of_ble_eq_true rfl⟩) hS (fun q _ h => hFc q h) hFc ?_
  clear hS
  intro r_1 u t H1 locs ht hvm hw hB hz1 hk1 hS
  obtain ⟨⟩ := u
  obtain ⟨hP1, hK1, hD1⟩ := hB
  rw [ht] at hP1
  have hK1 := va_K.moved hvm.symm hK1
  try dsimp only at hw
  have hPD := va_join (wr := [(h0, .inr (12, [.ref qo1, .int 0, .ref qo2, .ref qo3, .ref qo4, .ref qo5, .ref qo6, .int 0, .ref qo7, .ref qo8, .ref qo9]))]) (w1 := []) hP hD [1] [0] rfl rfl (by decide) (by decide) hk1 hFc hP1 hD1
  clear hP hD
  obtain ⟨hP, hD⟩ := hPD
  replace hK := (hK.sub (tys' := []) [] rfl).app hK1
  clear hPc hDc hKc hFc hP1 hK1 hD1 hz1 hk1 ht hvm
  generalize H1 = H at hP hS ⊢
  replace hP : va_P (dC, dI) vwCl [(h0, .inr (12, [.ref qo1, .int 0, .ref qo2, .ref qo3, .ref qo4, .ref qo5, .ref qo6, .int 0, .ref qo7, .ref qo8, .ref qo9]))] H := hP
  replace hD : va_D A [(h0, .inr (12, [.ref qo1, .int 0, .ref qo2, .ref qo3, .ref qo4, .ref qo5, .ref qo6, .int 0, .ref qo7, .ref qo8, .ref qo9]))] := hD
  replace hK : va_K (dC, dI) vwCl [] s := hK
  subst hw
  refine W.eq (g2 := F0 m 8 ls [.int 0]) rfl ?_
  have hP9 := hP.sub (ws' := []) [] rfl
  have hD9 := hD.sub (ws' := []) [] (by decide) rfl
  have hK9 := hK.sub (tys' := []) [] rfl
  exact W.iret hx hb hr (fun t ht hW => ⟨⟨(0), (), rfl, lf_0_79 a1 , by rw [ht]; exact hP9, va_K.moved hW.alike hK9, hD9⟩, hS.F ht⟩) hS.2.2 dX12_out_8
theorem i32_lt1 {a : Int32} (h : a < 1) (h0 : ¬ a = 0) : a < 0 := by
  have h1 := Int32.lt_iff_toInt_lt.mp h
  rw [show (1 : Int32).toInt = 1 from rfl] at h1
  apply Int32.lt_iff_toInt_lt.mpr
  rw [show (0 : Int32).toInt = 0 from rfl]
  have h2 : a.toInt ≠ 0 := fun q => h0 (Int32.toInt_inj.mp (q.trans (show (0 : Int) = (0 : Int32).toInt from rfl)))
  omega
theorem i32_n0 {a : Int32} (h : ¬ a < 1) : ¬ a < 0 := by
  intro q
  apply h
  have q1 := Int32.lt_iff_toInt_lt.mp q
  rw [show (0 : Int32).toInt = 0 from rfl] at q1
  apply Int32.lt_iff_toInt_lt.mpr
  rw [show (1 : Int32).toInt = 1 from rfl]
  omega
theorem lf_look_80 (a1 : Int32) (hs_1 : a1 = 11) : (0 : Int32) = an_look a1 := by
  subst hs_1; rfl
theorem lf_look_81 (a1 : Int32) (hs_1 : ¬ a1 = 11) (hs_2 : a1 = 12) : (0 : Int32) = an_look a1 := by
  subst hs_2; rfl
theorem lf_look_82 (a1 : Int32) (hs_1 : ¬ a1 = 11) (hs_2 : ¬ a1 = 12) (hs_4 : a1 = 13) : (0 : Int32) = an_look a1 := by
  subst hs_4; rfl
theorem lf_look_83 (a1 : Int32) (hs_1 : ¬ a1 = 11) (hs_2 : ¬ a1 = 12) (hs_4 : ¬ a1 = 13) (c_5 : a1 < 7) : ((an_tell a1) : Int32) = an_look a1 := by
  simp only [an_look, an_tell, hs_1, hs_2, hs_4, if_false]
theorem lf_look_84 (a1 : Int32) (hs_1 : ¬ a1 = 11) (hs_2 : ¬ a1 = 12) (hs_4 : ¬ a1 = 13) (c_5 : ¬ a1 < 7) (c_7 : 10 < a1) : ((an_tell a1) : Int32) = an_look a1 := by
  simp only [an_look, an_tell, hs_1, hs_2, hs_4, if_false]
theorem lf_look_85 (a1 : Int32) (hs_1 : ¬ a1 = 11) (hs_2 : ¬ a1 = 12) (hs_4 : ¬ a1 = 13) (c_5 : ¬ a1 < 7) (c_7 : ¬ 10 < a1) : ((an_m1) : Int32) = an_look a1 := by
  have e0 : ¬ a1 = 0 := fun q => c_5 (by rw [q]; decide)
  have e1 : ¬ a1 = 1 := fun q => c_5 (by rw [q]; decide)
  have e2 : ¬ a1 = 2 := fun q => c_5 (by rw [q]; decide)
  have e3 : ¬ a1 = 3 := fun q => c_5 (by rw [q]; decide)
  have e4 : ¬ a1 = 4 := fun q => c_5 (by rw [q]; decide)
  have e5 : ¬ a1 = 5 := fun q => c_5 (by rw [q]; decide)
  have e6 : ¬ a1 = 6 := fun q => c_5 (by rw [q]; decide)
  simp only [an_look, an_m1, e0, e1, e2, e3, e4, e5, e6, hs_1, hs_2, hs_4, if_false]
set_option maxHeartbeats 4000000 in
set_option maxRecDepth 100000 in
/-- kk_look -/
theorem kk_look (l : Launch) (dC : Nat → ClassId) (dI : Nat → Nat → Nat) (sz : Nat) (h0 : Nat) (a1 : Int32) (qo1 : Nat) (qo2 : Nat) (qo3 : Nat) (qo4 : Nat) (qo5 : Nat) (qo6 : Nat) (qo7 : Nat) (qo8 : Nat) (qo9 : Nat) (qo43 : Nat) (qo44 : Nat) (qo45 : Nat) (qo46 : Nat) (qo47 : Nat) (qo48 : Nat) (qo66 : Nat) (qo67 : Nat) (qo68 : Nat) (qo69 : Nat) (qo70 : Nat) (qo71 : Nat) (qo72 : Nat) (qo73 : Nat) (qo74 : Nat) (qo75 : Nat)  : Met l yX12_look (.code yX12_look cX12_look 2 (some .int) :: VS_k1) ({ frames := 1, cells := 0, slots := 0, locals := 21 }) (va_Pc [.ref h0, .int a1] (fun U => U.heap.size = sz ∧ va_P (dC, dI) vwCl [(h0, .inr (12, [.ref qo1, .int 0, .ref qo2, .ref qo3, .ref qo4, .ref qo5, .ref qo6, .int 0, .ref qo7, .ref qo8, .ref qo9])), (qo7, .inr (7, [.ref qo43, .ref qo44, .ref qo45, .int 0, .int 0, .ref qo46, .ref qo47, .ref qo48])), (qo9, .inr (5, [.ref qo7, .int 0, .int (-1), .int 0, .int 0, .int 0, .int 0, .int 0, .ref qo66, .ref qo67, .ref qo68, .ref qo69, .ref qo70, .ref qo71, .ref qo72, .ref qo73, .ref qo74, .int 0, .ref qo75, .int 0, .int 0]))] U.heap ∧ va_K (dC, dI) vwCl [] U ∧ va_D (fun _ => True) [(h0, .inr (12, [.ref qo1, .int 0, .ref qo2, .ref qo3, .ref qo4, .ref qo5, .ref qo6, .int 0, .ref qo7, .ref qo8, .ref qo9])), (qo7, .inr (7, [.ref qo43, .ref qo44, .ref qo45, .int 0, .int 0, .ref qo46, .ref qo47, .ref qo48])), (qo9, .inr (5, [.ref qo7, .int 0, .int (-1), .int 0, .int 0, .int 0, .int 0, .int 0, .ref qo66, .ref qo67, .ref qo68, .ref qo69, .ref qo70, .ref qo71, .ref qo72, .ref qo73, .ref qo74, .int 0, .ref qo75, .int 0, .int 0]))])) (va_Qi (fun (r : Int32) (u : Unit) => match u with | () => r = an_look a1) (fun (u : Unit) (t : State) => match u with | () => va_P (dC, dI) vwCl [] t.heap ∧ va_K (dC, dI) vwCl [] t ∧ va_D (va_A [(h0, .inr (12, [.ref qo1, .int 0, .ref qo2, .ref qo3, .ref qo4, .ref qo5, .ref qo6, .int 0, .ref qo7, .ref qo8, .ref qo9])), (qo7, .inr (7, [.ref qo43, .ref qo44, .ref qo45, .int 0, .int 0, .ref qo46, .ref qo47, .ref qo48])), (qo9, .inr (5, [.ref qo7, .int 0, .int (-1), .int 0, .int 0, .int 0, .int 0, .int 0, .ref qo66, .ref qo67, .ref qo68, .ref qo69, .ref qo70, .ref qo71, .ref qo72, .ref qo73, .ref qo74, .int 0, .ref qo75, .int 0, .int 0]))] sz) []) (va_A [(h0, .inr (12, [.ref qo1, .int 0, .ref qo2, .ref qo3, .ref qo4, .ref qo5, .ref qo6, .int 0, .ref qo7, .ref qo8, .ref qo9])), (qo7, .inr (7, [.ref qo43, .ref qo44, .ref qo45, .int 0, .int 0, .ref qo46, .ref qo47, .ref qo48])), (qo9, .inr (5, [.ref qo7, .int 0, .int (-1), .int 0, .int 0, .int 0, .int 0, .int 0, .ref qo66, .ref qo67, .ref qo68, .ref qo69, .ref qo70, .ref qo71, .ref qo72, .ref qo73, .ref qo74, .int 0, .ref qo75, .int 0, .int 0]))] sz)) 0 0 (va_A [(h0, .inr (12, [.ref qo1, .int 0, .ref qo2, .ref qo3, .ref qo4, .ref qo5, .ref qo6, .int 0, .ref qo7, .ref qo8, .ref qo9])), (qo7, .inr (7, [.ref qo43, .ref qo44, .ref qo45, .int 0, .int 0, .ref qo46, .ref qo47, .ref qo48])), (qo9, .inr (5, [.ref qo7, .int 0, .int (-1), .int 0, .int 0, .int 0, .int 0, .int 0, .ref qo66, .ref qo67, .ref qo68, .ref qo69, .ref qo70, .ref qo71, .ref qo72, .ref qo73, .ref qo74, .int 0, .ref qo75, .int 0, .int 0]))] sz) := by
  refine Met.ofW (cc := cX12_look) (maxL := 2) (ret := (some .int)) (by decide) rfl ?_
  intro p e s m args below meth c s₁ B hml hv
  obtain ⟨rfl, hsz, hP, hK, hD0⟩ := hv
  have hx := B.exec
  have hb := B.bytes
  have hr := B.returns
  have hts := atoms_spec (ws := (.code yX12_look cX12_look 2 (some .int) :: VS_k1)) B.pre
  replace hts := fun w (h : w ∈ VS_k1) => hts w (List.mem_cons_of_mem _ h)
  have hown : s.vm.findClass RX12 = some m.cls := findClass_of_methodNamed B.named
  have hlocks := B.notSynchronized
  subst hsz
  have hD := hD0.self (sz := s.heap.size)
  generalize hAe : va_A [(h0, .inr (12, [.ref qo1, .int 0, .ref qo2, .ref qo3, .ref qo4, .ref qo5, .ref qo6, .int 0, .ref qo7, .ref qo8, .ref qo9])), (qo7, .inr (7, [.ref qo43, .ref qo44, .ref qo45, .int 0, .int 0, .ref qo46, .ref qo47, .ref qo48])), (qo9, .inr (5, [.ref qo7, .int 0, .int (-1), .int 0, .int 0, .int 0, .int 0, .int 0, .ref qo66, .ref qo67, .ref qo68, .ref qo69, .ref qo70, .ref qo71, .ref qo72, .ref qo73, .ref qo74, .int 0, .ref qo75, .int 0, .int 0]))] s.heap.size = A at hD  ⊢
  have hA : ∀ q : Nat, s.heap.size ≤ q → A q := fun q h => by rw [← hAe]; exact Or.inr h
  have hP : va_P (dC, dI) vwCl [(h0, .inr (12, [.ref qo1, .int 0, .ref qo2, .ref qo3, .ref qo4, .ref qo5, .ref qo6, .int 0, .ref qo7, .ref qo8, .ref qo9])), (qo7, .inr (7, [.ref qo43, .ref qo44, .ref qo45, .int 0, .int 0, .ref qo46, .ref qo47, .ref qo48])), (qo9, .inr (5, [.ref qo7, .int 0, .int (-1), .int 0, .int 0, .int 0, .int 0, .int 0, .ref qo66, .ref qo67, .ref qo68, .ref qo69, .ref qo70, .ref qo71, .ref qo72, .ref qo73, .ref qo74, .int 0, .ref qo75, .int 0, .int 0]))] s.heap := hP
  have hl := lv_entry ([.ref h0, .int a1]) (n := 2) (Nat.le_of_ble_eq_true rfl)
  rw [lg_entry_eq]
  generalize (lg_sl ([.ref h0, .int a1]) ++ List.replicate (2 - (lg_sl ([.ref h0, .int a1])).length) Slot.unset).toArray = ls at hl ⊢
  have hl : lv_has ls 2 [(0, .ref h0), (1, .int a1)] := hl
  obtain ⟨H, hH⟩ : ∃ H : Heap, s.heap = H := ⟨_, rfl⟩
  rw [hH] at hP ⊢
  have hS : va_S A s.heap H [] := by rw [← hH]; exact va_S.rf
  obtain ⟨locs, hlo⟩ : ∃ locs : List Loc, locs = [] := ⟨_, rfl⟩
  rw [← hlo] at hS ⊢
  refine lv_iload_n hx hb dX12_look_0 rfl (lv_at hl 1 rfl) ?_
  by_cases hs_1 : a1 = 11
  · refine lv_tableIn (tgt := 28) hx hb dX12_look_1 (by rw [hs_1]; decide) (by rw [hs_1]; decide) (off := 27) (by rw [hs_1]; rfl) (by decide) ?_
    refine lv_aload_n hx hb dX12_look_28 rfl (lv_at hl 0 rfl) ?_
    refine va_get (D := (dC, dI)) (ci := 12) (v := .ref qo7) (C := RX12) (T := TX12) (N := 11) hx hb hts uV_k1_X12 hown hK hP 0 rfl rfl 8 (by decide) (hts (.fieldLink RX12 53 "ClassMill" "space" "LClassMill$Space;") mw_k1_24) (fun _ h9 => h9) rfl dX12_look_29 ?_
    refine va_get (D := (dC, dI)) (ci := 7) (v := .int 0) (C := RX7) (T := TX7) (N := 8) hx hb hts uV_k1_X7 hown hK hP 1 rfl rfl 3 (by decide) (hts (.fieldLink RX12 199 "ClassMill$Space" "count" "I") mw_k1_56) (fun _ h9 => h9) rfl dX12_look_32 ?_
    have hP9 := hP.sub (ws' := []) [] rfl
    have hD9 := hD.sub (ws' := []) [] (by decide) rfl
    have hK9 := hK.sub (tys' := []) [] rfl
    exact W.iret hx hb hr (fun t ht hW => ⟨⟨(0), (), rfl, lf_look_80 a1 hs_1, by rw [ht]; exact hP9, va_K.moved hW.alike hK9, hD9⟩, hS.F ht⟩) hS.2.2 dX12_look_35
  by_cases hs_2 : a1 = 12
  · refine lv_tableIn (tgt := 36) hx hb dX12_look_1 (by rw [hs_2]; decide) (by rw [hs_2]; decide) (off := 35) (by rw [hs_2]; rfl) (by decide) ?_
    refine lv_aload_n hx hb dX12_look_36 rfl (lv_at hl 0 rfl) ?_
    refine va_get (D := (dC, dI)) (ci := 12) (v := .ref qo7) (C := RX12) (T := TX12) (N := 11) hx hb hts uV_k1_X12 hown hK hP 0 rfl rfl 8 (by decide) (hts (.fieldLink RX12 53 "ClassMill" "space" "LClassMill$Space;") mw_k1_24) (fun _ h9 => h9) rfl dX12_look_37 ?_
    refine va_get (D := (dC, dI)) (ci := 7) (v := .int 0) (C := RX7) (T := TX7) (N := 8) hx hb hts uV_k1_X7 hown hK hP 1 rfl rfl 4 (by decide) (hts (.fieldLink RX12 165 "ClassMill$Space" "verified" "Z") mw_k1_30) (fun _ h9 => h9) rfl dX12_look_40 ?_
    refine lv_if_eq (tgt := 50) hx hb dX12_look_43 (by decide) (fun c_3 => ?_) (fun c_3 => (show False by revert c_3; decide).elim)
    refine lv_iconst (v := 0) hx hb dX12_look_50 (by decide) ?_
    have hP9 := hP.sub (ws' := []) [] rfl
    have hD9 := hD.sub (ws' := []) [] (by decide) rfl
    have hK9 := hK.sub (tys' := []) [] rfl
    exact W.iret hx hb hr (fun t ht hW => ⟨⟨(0), (), rfl, lf_look_81 a1 hs_1 hs_2, by rw [ht]; exact hP9, va_K.moved hW.alike hK9, hD9⟩, hS.F ht⟩) hS.2.2 dX12_look_51
  by_cases hs_4 : a1 = 13
  · refine lv_tableIn (tgt := 52) hx hb dX12_look_1 (by rw [hs_4]; decide) (by rw [hs_4]; decide) (off := 51) (by rw [hs_4]; rfl) (by decide) ?_
    refine lv_aload_n hx hb dX12_look_52 rfl (lv_at hl 0 rfl) ?_
    refine va_get (D := (dC, dI)) (ci := 12) (v := .int 0) (C := RX12) (T := TX12) (N := 11) hx hb hts uV_k1_X12 hown hK hP 0 rfl rfl 1 (by decide) (hts (.fieldLink RX12 73 "ClassMill" "taped" "I") mw_k1_0) (fun _ h9 => h9) rfl dX12_look_53 ?_
    have hP9 := hP.sub (ws' := []) [] rfl
    have hD9 := hD.sub (ws' := []) [] (by decide) rfl
    have hK9 := hK.sub (tys' := []) [] rfl
    exact W.iret hx hb hr (fun t ht hW => ⟨⟨(0), (), rfl, lf_look_82 a1 hs_1 hs_2 hs_4, by rw [ht]; exact hP9, va_K.moved hW.alike hK9, hD9⟩, hS.F ht⟩) hS.2.2 dX12_look_56
  refine lv_tableOut (tgt := 57) hx hb dX12_look_1 (by have a0 := lv_neT hs_1 (a := 11) rfl; have a1 := lv_neT hs_2 (a := 12) rfl; have a2 := lv_neT hs_4 (a := 13) rfl; omega) (by decide) ?_
  refine lv_iload_n hx hb dX12_look_57 rfl (lv_at hl 1 rfl) ?_
  refine lv_bipush (v := 7) hx hb dX12_look_58 (by decide) ?_
  refine lv_icmp_lt (tgt := 80) hx hb dX12_look_60 (by decide) (fun c_5 => ?_) (fun c_5 => ?_)
  · have c_5_ := c_5
    refine lv_aload_n hx hb dX12_look_80 rfl (lv_at hl 0 rfl) ?_
    refine va_get (D := (dC, dI)) (ci := 12) (v := .ref qo9) (C := RX12) (T := TX12) (N := 11) hx hb hts uV_k1_X12 hown hK hP 0 rfl rfl 10 (by decide) (hts (.fieldLink RX12 69 "ClassMill" "machine" "LClassMill$Machine;") mw_k1_38) (fun _ h9 => h9) rfl dX12_look_81 ?_
    refine lv_iload_n hx hb dX12_look_84 rfl (lv_at hl 1 rfl) ?_
    have hPc := hP.sub (ws' := [(qo9, .inr (5, [.ref qo7, .int 0, .int (-1), .int 0, .int 0, .int 0, .int 0, .int 0, .ref qo66, .ref qo67, .ref qo68, .ref qo69, .ref qo70, .ref qo71, .ref qo72, .ref qo73, .ref qo74, .int 0, .ref qo75, .int 0, .int 0]))]) [2] rfl
    have hDc := hD.sub (ws' := [(qo9, .inr (5, [.ref qo7, .int 0, .int (-1), .int 0, .int 0, .int 0, .int 0, .int 0, .ref qo66, .ref qo67, .ref qo68, .ref qo69, .ref qo70, .ref qo71, .ref qo72, .ref qo73, .ref qo74, .int 0, .ref qo75, .int 0, .int 0]))]) [2] (by decide) rfl
    have hKc := hK.sub (tys' := []) [] rfl
    have hFc := va_free (wc := [(qo9, .inr (5, [.ref qo7, .int 0, .int (-1), .int 0, .int 0, .int 0, .int 0, .int 0, .ref qo66, .ref qo67, .ref qo68, .ref qo69, .ref qo70, .ref qo71, .ref qo72, .ref qo73, .ref qo74, .int 0, .ref qo75, .int 0, .int 0]))]) hD hS hA [2] rfl
    refine va_calli (va_runV (As := [.int a1]) (rest := []) ⟨hx, hb, hml, hown, hts⟩ (kk_tell l dC dI H.size qo9 a1 qo7 qo66 qo67 qo68 qo69 qo70 qo71 qo72 qo73 qo74 qo75) (cwV 1 hts gv_k1_11 rfl rfl rfl (by decide +kernel) ⟨Nat.le_of_ble_eq_true rfl, Nat.le_of_ble_eq_true rfl⟩) ⟨fun a U g mk q => by obtain ⟨q0, q1, qP, qK, qD⟩ := q; exact ⟨q0, q1, qP, va_K.moved (u := U) (U := U.calling g mk a) (Vm.Alike.refl U.vm) qK, qD⟩, va_recv hKc hPc (ci := 5) (q0 := 0) rfl rfl, fun U hU hW => ⟨rfl, by rw [hU], by rw [hU]; exact hPc, va_K.moved hW.alike hKc, hDc.weaken (fun _ _ _ _ => trivial)⟩⟩ rfl rfl hl.1 rfl (lv_room (Nat.le_of_ble_eq_true rfl)) dX12_look_85 ⟨Nat.le_of_ble_eq_true rfl, Nat.le_of_ble_eq_true rfl⟩) hS (fun q _ h => hFc q h) hFc ?_
    clear hS
    intro r_6 u t H1 locs ht hvm hw hB hz1 hk1 hS
    obtain ⟨⟩ := u
    obtain ⟨hP1, hK1, hD1⟩ := hB
    rw [ht] at hP1
    have hK1 := va_K.moved hvm.symm hK1
    try dsimp only at hw
    have hPD := va_join (wr := [(h0, .inr (12, [.ref qo1, .int 0, .ref qo2, .ref qo3, .ref qo4, .ref qo5, .ref qo6, .int 0, .ref qo7, .ref qo8, .ref qo9])), (qo7, .inr (7, [.ref qo43, .ref qo44, .ref qo45, .int 0, .int 0, .ref qo46, .ref qo47, .ref qo48]))]) (w1 := []) hP hD [2] [0, 1] rfl rfl (by decide) (by decide) hk1 hFc hP1 hD1
    clear hP hD
    obtain ⟨hP, hD⟩ := hPD
    replace hK := (hK.sub (tys' := []) [] rfl).app hK1
    clear hPc hDc hKc hFc hP1 hK1 hD1 hz1 hk1 ht hvm
    generalize H1 = H at hP hS ⊢
    replace hP : va_P (dC, dI) vwCl [(h0, .inr (12, [.ref qo1, .int 0, .ref qo2, .ref qo3, .ref qo4, .ref qo5, .ref qo6, .int 0, .ref qo7, .ref qo8, .ref qo9])), (qo7, .inr (7, [.ref qo43, .ref qo44, .ref qo45, .int 0, .int 0, .ref qo46, .ref qo47, .ref qo48]))] H := hP
    replace hD : va_D A [(h0, .inr (12, [.ref qo1, .int 0, .ref qo2, .ref qo3, .ref qo4, .ref qo5, .ref qo6, .int 0, .ref qo7, .ref qo8, .ref qo9])), (qo7, .inr (7, [.ref qo43, .ref qo44, .ref qo45, .int 0, .int 0, .ref qo46, .ref qo47, .ref qo48]))] := hD
    replace hK : va_K (dC, dI) vwCl [] s := hK
    subst hw
    have hP9 := hP.sub (ws' := []) [] rfl
    have hD9 := hD.sub (ws' := []) [] (by decide) rfl
    have hK9 := hK.sub (tys' := []) [] rfl
    exact W.iret hx hb hr (fun t ht hW => ⟨⟨((an_tell a1)), (), rfl, lf_look_83 a1 hs_1 hs_2 hs_4 c_5, by rw [ht]; exact hP9, va_K.moved hW.alike hK9, hD9⟩, hS.F ht⟩) hS.2.2 dX12_look_88
  · have c_5_ := c_5
    refine lv_iload_n hx hb dX12_look_63 rfl (lv_at hl 1 rfl) ?_
    refine lv_bipush (v := 10) hx hb dX12_look_64 (by decide) ?_
    refine lv_icmp_gt (tgt := 80) hx hb dX12_look_66 (by decide) (fun c_7 => ?_) (fun c_7 => ?_)
    · have c_7_ := c_7
      refine lv_aload_n hx hb dX12_look_80 rfl (lv_at hl 0 rfl) ?_
      refine va_get (D := (dC, dI)) (ci := 12) (v := .ref qo9) (C := RX12) (T := TX12) (N := 11) hx hb hts uV_k1_X12 hown hK hP 0 rfl rfl 10 (by decide) (hts (.fieldLink RX12 69 "ClassMill" "machine" "LClassMill$Machine;") mw_k1_38) (fun _ h9 => h9) rfl dX12_look_81 ?_
      refine lv_iload_n hx hb dX12_look_84 rfl (lv_at hl 1 rfl) ?_
      have hPc := hP.sub (ws' := [(qo9, .inr (5, [.ref qo7, .int 0, .int (-1), .int 0, .int 0, .int 0, .int 0, .int 0, .ref qo66, .ref qo67, .ref qo68, .ref qo69, .ref qo70, .ref qo71, .ref qo72, .ref qo73, .ref qo74, .int 0, .ref qo75, .int 0, .int 0]))]) [2] rfl
      have hDc := hD.sub (ws' := [(qo9, .inr (5, [.ref qo7, .int 0, .int (-1), .int 0, .int 0, .int 0, .int 0, .int 0, .ref qo66, .ref qo67, .ref qo68, .ref qo69, .ref qo70, .ref qo71, .ref qo72, .ref qo73, .ref qo74, .int 0, .ref qo75, .int 0, .int 0]))]) [2] (by decide) rfl
      have hKc := hK.sub (tys' := []) [] rfl
      have hFc := va_free (wc := [(qo9, .inr (5, [.ref qo7, .int 0, .int (-1), .int 0, .int 0, .int 0, .int 0, .int 0, .ref qo66, .ref qo67, .ref qo68, .ref qo69, .ref qo70, .ref qo71, .ref qo72, .ref qo73, .ref qo74, .int 0, .ref qo75, .int 0, .int 0]))]) hD hS hA [2] rfl
      refine va_calli (va_runV (As := [.int a1]) (rest := []) ⟨hx, hb, hml, hown, hts⟩ (kk_tell l dC dI H.size qo9 a1 qo7 qo66 qo67 qo68 qo69 qo70 qo71 qo72 qo73 qo74 qo75) (cwV 1 hts gv_k1_11 rfl rfl rfl (by decide +kernel) ⟨Nat.le_of_ble_eq_true rfl, Nat.le_of_ble_eq_true rfl⟩) ⟨fun a U g mk q => by obtain ⟨q0, q1, qP, qK, qD⟩ := q; exact ⟨q0, q1, qP, va_K.moved (u := U) (U := U.calling g mk a) (Vm.Alike.refl U.vm) qK, qD⟩, va_recv hKc hPc (ci := 5) (q0 := 0) rfl rfl, fun U hU hW => ⟨rfl, by rw [hU], by rw [hU]; exact hPc, va_K.moved hW.alike hKc, hDc.weaken (fun _ _ _ _ => trivial)⟩⟩ rfl rfl hl.1 rfl (lv_room (Nat.le_of_ble_eq_true rfl)) dX12_look_85 ⟨Nat.le_of_ble_eq_true rfl, Nat.le_of_ble_eq_true rfl⟩) hS (fun q _ h => hFc q h) hFc ?_
      clear hS
      intro r_8 u t H1 locs ht hvm hw hB hz1 hk1 hS
      obtain ⟨⟩ := u
      obtain ⟨hP1, hK1, hD1⟩ := hB
      rw [ht] at hP1
      have hK1 := va_K.moved hvm.symm hK1
      try dsimp only at hw
      have hPD := va_join (wr := [(h0, .inr (12, [.ref qo1, .int 0, .ref qo2, .ref qo3, .ref qo4, .ref qo5, .ref qo6, .int 0, .ref qo7, .ref qo8, .ref qo9])), (qo7, .inr (7, [.ref qo43, .ref qo44, .ref qo45, .int 0, .int 0, .ref qo46, .ref qo47, .ref qo48]))]) (w1 := []) hP hD [2] [0, 1] rfl rfl (by decide) (by decide) hk1 hFc hP1 hD1
      clear hP hD
      obtain ⟨hP, hD⟩ := hPD
      replace hK := (hK.sub (tys' := []) [] rfl).app hK1
      clear hPc hDc hKc hFc hP1 hK1 hD1 hz1 hk1 ht hvm
      generalize H1 = H at hP hS ⊢
      replace hP : va_P (dC, dI) vwCl [(h0, .inr (12, [.ref qo1, .int 0, .ref qo2, .ref qo3, .ref qo4, .ref qo5, .ref qo6, .int 0, .ref qo7, .ref qo8, .ref qo9])), (qo7, .inr (7, [.ref qo43, .ref qo44, .ref qo45, .int 0, .int 0, .ref qo46, .ref qo47, .ref qo48]))] H := hP
      replace hD : va_D A [(h0, .inr (12, [.ref qo1, .int 0, .ref qo2, .ref qo3, .ref qo4, .ref qo5, .ref qo6, .int 0, .ref qo7, .ref qo8, .ref qo9])), (qo7, .inr (7, [.ref qo43, .ref qo44, .ref qo45, .int 0, .int 0, .ref qo46, .ref qo47, .ref qo48]))] := hD
      replace hK : va_K (dC, dI) vwCl [] s := hK
      subst hw
      have hP9 := hP.sub (ws' := []) [] rfl
      have hD9 := hD.sub (ws' := []) [] (by decide) rfl
      have hK9 := hK.sub (tys' := []) [] rfl
      exact W.iret hx hb hr (fun t ht hW => ⟨⟨((an_tell a1)), (), rfl, lf_look_84 a1 hs_1 hs_2 hs_4 c_5 c_7, by rw [ht]; exact hP9, va_K.moved hW.alike hK9, hD9⟩, hS.F ht⟩) hS.2.2 dX12_look_88
    · have c_7_ := c_7
      refine lv_aload_n hx hb dX12_look_69 rfl (lv_at hl 0 rfl) ?_
      refine va_get (D := (dC, dI)) (ci := 12) (v := .ref qo9) (C := RX12) (T := TX12) (N := 11) hx hb hts uV_k1_X12 hown hK hP 0 rfl rfl 10 (by decide) (hts (.fieldLink RX12 69 "ClassMill" "machine" "LClassMill$Machine;") mw_k1_38) (fun _ h9 => h9) rfl dX12_look_70 ?_
      refine lv_iload_n hx hb dX12_look_73 rfl (lv_at hl 1 rfl) ?_
      have hPc := hP.sub (ws' := [(qo9, .inr (5, [.ref qo7, .int 0, .int (-1), .int 0, .int 0, .int 0, .int 0, .int 0, .ref qo66, .ref qo67, .ref qo68, .ref qo69, .ref qo70, .ref qo71, .ref qo72, .ref qo73, .ref qo74, .int 0, .ref qo75, .int 0, .int 0]))]) [2] rfl
      have hDc := hD.sub (ws' := [(qo9, .inr (5, [.ref qo7, .int 0, .int (-1), .int 0, .int 0, .int 0, .int 0, .int 0, .ref qo66, .ref qo67, .ref qo68, .ref qo69, .ref qo70, .ref qo71, .ref qo72, .ref qo73, .ref qo74, .int 0, .ref qo75, .int 0, .int 0]))]) [2] (by decide) rfl
      have hKc := hK.sub (tys' := []) [] rfl
      have hFc := va_free (wc := [(qo9, .inr (5, [.ref qo7, .int 0, .int (-1), .int 0, .int 0, .int 0, .int 0, .int 0, .ref qo66, .ref qo67, .ref qo68, .ref qo69, .ref qo70, .ref qo71, .ref qo72, .ref qo73, .ref qo74, .int 0, .ref qo75, .int 0, .int 0]))]) hD hS hA [2] rfl
      refine va_calli (va_runV (As := [.int a1]) (rest := []) ⟨hx, hb, hml, hown, hts⟩ (kk_tellTop l dC dI H.size qo9 a1 qo7 qo66 qo67 qo68 qo69 qo70 qo71 qo72 qo73 qo74 qo75) (cwV 1 hts gv_k1_12 rfl rfl rfl (by decide +kernel) ⟨Nat.le_of_ble_eq_true rfl, Nat.le_of_ble_eq_true rfl⟩) ⟨fun a U g mk q => by obtain ⟨q0, q1, qP, qK, qD⟩ := q; exact ⟨q0, q1, qP, va_K.moved (u := U) (U := U.calling g mk a) (Vm.Alike.refl U.vm) qK, qD⟩, va_recv hKc hPc (ci := 5) (q0 := 0) rfl rfl, fun U hU hW => ⟨rfl, by rw [hU], by rw [hU]; exact hPc, va_K.moved hW.alike hKc, hDc.weaken (fun _ _ _ _ => trivial)⟩⟩ rfl rfl hl.1 rfl (lv_room (Nat.le_of_ble_eq_true rfl)) dX12_look_74 ⟨Nat.le_of_ble_eq_true rfl, Nat.le_of_ble_eq_true rfl⟩) hS (fun q _ h => hFc q h) hFc ?_
      clear hS
      intro r_9 u t H1 locs ht hvm hw hB hz1 hk1 hS
      obtain ⟨⟩ := u
      obtain ⟨hP1, hK1, hD1⟩ := hB
      rw [ht] at hP1
      have hK1 := va_K.moved hvm.symm hK1
      try dsimp only at hw
      have hPD := va_join (wr := [(h0, .inr (12, [.ref qo1, .int 0, .ref qo2, .ref qo3, .ref qo4, .ref qo5, .ref qo6, .int 0, .ref qo7, .ref qo8, .ref qo9])), (qo7, .inr (7, [.ref qo43, .ref qo44, .ref qo45, .int 0, .int 0, .ref qo46, .ref qo47, .ref qo48]))]) (w1 := []) hP hD [2] [0, 1] rfl rfl (by decide) (by decide) hk1 hFc hP1 hD1
      clear hP hD
      obtain ⟨hP, hD⟩ := hPD
      replace hK := (hK.sub (tys' := []) [] rfl).app hK1
      clear hPc hDc hKc hFc hP1 hK1 hD1 hz1 hk1 ht hvm
      generalize H1 = H at hP hS ⊢
      replace hP : va_P (dC, dI) vwCl [(h0, .inr (12, [.ref qo1, .int 0, .ref qo2, .ref qo3, .ref qo4, .ref qo5, .ref qo6, .int 0, .ref qo7, .ref qo8, .ref qo9])), (qo7, .inr (7, [.ref qo43, .ref qo44, .ref qo45, .int 0, .int 0, .ref qo46, .ref qo47, .ref qo48]))] H := hP
      replace hD : va_D A [(h0, .inr (12, [.ref qo1, .int 0, .ref qo2, .ref qo3, .ref qo4, .ref qo5, .ref qo6, .int 0, .ref qo7, .ref qo8, .ref qo9])), (qo7, .inr (7, [.ref qo43, .ref qo44, .ref qo45, .int 0, .int 0, .ref qo46, .ref qo47, .ref qo48]))] := hD
      replace hK : va_K (dC, dI) vwCl [] s := hK
      subst hw
      refine lv_goto (tgt := 88) hx hb dX12_look_77 (by decide) ?_
      have hP9 := hP.sub (ws' := []) [] rfl
      have hD9 := hD.sub (ws' := []) [] (by decide) rfl
      have hK9 := hK.sub (tys' := []) [] rfl
      exact W.iret hx hb hr (fun t ht hW => ⟨⟨((an_m1)), (), rfl, lf_look_85 a1 hs_1 hs_2 hs_4 c_5 c_7, by rw [ht]; exact hP9, va_K.moved hW.alike hK9, hD9⟩, hS.F ht⟩) hS.2.2 dX12_look_88
theorem kx_8 {a : Int32} (h0 : ¬ a < 0) (h8 : a < 8) : ∃ j : Nat, j < 8 ∧ a = nI j := by
  rcases pk_ix a (n := 8) (by decide) with q | q | ⟨j, hj, rfl⟩
  · exact absurd q h0
  · exact absurd h8 (Int32.not_lt.mpr q)
  · exact ⟨j, hj, rfl⟩
theorem kx_16 {a : Int32} (h0 : ¬ a < 0) (h8 : a < 8) : ¬ (16 : Int32) ≤ a := by
  obtain ⟨j, hj, rfl⟩ := kx_8 h0 h8
  rw [show (16 : Int32) = nI 16 from rfl]
  exact nI_ge (by omega) (by decide)
theorem kx_in {a : Int32} (h0 : ¬ a < 0) (h8 : a < 8) : vp_in a 16 := by
  obtain ⟨j, hj, rfl⟩ := kx_8 h0 h8
  exact vp_in_nI (by omega) (by decide)
theorem kx_sup {a : Int32} (h0 : ¬ a < 0) (h8 : a < 8) {f : Nat → Int32} (hf : ∀ i, i < 16 → f i = kinF i) : f a.toNatClampNeg = an_super a := by
  obtain ⟨j, hj, rfl⟩ := kx_8 h0 h8
  rw [nI_clamp (by omega), hf j (by omega)]
  rcases (show j = 0 ∨ j = 1 ∨ j = 2 ∨ j = 3 ∨ j = 4 ∨ j = 5 ∨ j = 6 ∨ j = 7 by omega) with rfl | rfl | rfl | rfl | rfl | rfl | rfl | rfl <;> rfl
set_option maxHeartbeats 4000000 in
set_option maxRecDepth 100000 in
/-- kk_isClass -/
theorem kk_isClass (l : Launch) (dC : Nat → ClassId) (dI : Nat → Nat → Nat) (sz : Nat) (a1 : Int32) (h0a : ¬ a1 < 0) (h8a : a1 < 8) : Met l yX4_isClass (.code yX4_isClass cX4_isClass 1 (some .boolean) :: VS_k1) ({ frames := 0, cells := 0, slots := 0, locals := 0 }) (va_Pc [.int a1] (fun U => U.heap.size = sz ∧ va_P (dC, dI) vwCl [] U.heap ∧ va_K (dC, dI) vwCl [] U ∧ va_D (fun _ => True) [])) (va_Qi (fun (r : Int32) (u : Unit) => match u with | () => r = 1) (fun (u : Unit) (t : State) => match u with | () => va_P (dC, dI) vwCl [] t.heap ∧ va_K (dC, dI) vwCl [] t ∧ va_D (va_A [] sz) []) (va_A [] sz)) 0 0 (va_A [] sz) := by
  refine Met.ofW (cc := cX4_isClass) (maxL := 1) (ret := (some .boolean)) (by decide) rfl ?_
  intro p e s m args below meth c s₁ B hml hv
  obtain ⟨rfl, hsz, hP, hK, hD0⟩ := hv
  have hx := B.exec
  have hb := B.bytes
  have hr := B.returns
  have hts := atoms_spec (ws := (.code yX4_isClass cX4_isClass 1 (some .boolean) :: VS_k1)) B.pre
  replace hts := fun w (h : w ∈ VS_k1) => hts w (List.mem_cons_of_mem _ h)
  have hown : s.vm.findClass RX4 = some m.cls := findClass_of_methodNamed B.named
  have hlocks := B.notSynchronized
  subst hsz
  have hD := hD0.self (sz := s.heap.size)
  generalize hAe : va_A [] s.heap.size = A at hD  ⊢
  have hA : ∀ q : Nat, s.heap.size ≤ q → A q := fun q h => by rw [← hAe]; exact Or.inr h
  have hP : va_P (dC, dI) vwCl [] s.heap := hP
  have hl := lv_entry ([.int a1]) (n := 1) (Nat.le_of_ble_eq_true rfl)
  rw [lg_entry_eq]
  generalize (lg_sl ([.int a1]) ++ List.replicate (1 - (lg_sl ([.int a1])).length) Slot.unset).toArray = ls at hl ⊢
  have hl : lv_has ls 1 [(0, .int a1)] := hl
  obtain ⟨H, hH⟩ : ∃ H : Heap, s.heap = H := ⟨_, rfl⟩
  rw [hH] at hP ⊢
  have hS : va_S A s.heap H [] := by rw [← hH]; exact va_S.rf
  obtain ⟨locs, hlo⟩ : ∃ locs : List Loc, locs = [] := ⟨_, rfl⟩
  rw [← hlo] at hS ⊢
  refine lv_iload_n hx hb dX4_isClass_0 rfl (lv_at hl 0 rfl) ?_
  refine lv_if_lt (tgt := 14) hx hb dX4_isClass_1 (by decide) (fun c_1 => absurd c_1 h0a) (fun c_1 => ?_)
  refine lv_iload_n hx hb dX4_isClass_4 rfl (lv_at hl 0 rfl) ?_
  refine lv_bipush (v := 16) hx hb dX4_isClass_5 (by decide) ?_
  refine lv_icmp_ge (tgt := 14) hx hb dX4_isClass_7 (by decide) (fun c_2 => absurd c_2 (kx_16 h0a h8a)) (fun c_2 => ?_)
  refine lv_iconst (v := 1) hx hb dX4_isClass_10 (by decide) ?_
  refine lv_goto (tgt := 15) hx hb dX4_isClass_11 (by decide) ?_
  have hP9 := hP.sub (ws' := []) [] rfl
  have hD9 := hD.sub (ws' := []) [] (by decide) rfl
  have hK9 := hK.sub (tys' := []) [] rfl
  exact W.zret hx hb hr (by decide) (fun t ht hW => ⟨⟨(1), (), rfl, rfl, by rw [ht]; exact hP9, va_K.moved hW.alike hK9, hD9⟩, hS.F ht⟩) hS.2.2 dX4_isClass_15
set_option maxHeartbeats 4000000 in
set_option maxRecDepth 100000 in
/-- Kin.above -/
theorem kk_above (l : Launch) (dC : Nat → ClassId) (dI : Nat → Nat → Nat) (sz : Nat) (qo43 : Nat) (a1 : Int32) (qo49 : Nat) (qo50 : Nat) (co14 : ClassId) (fo4 : (Nat → Int32)) (h0a : ¬ a1 < 0) (h8a : a1 < 8) (hkf : ∀ i, i < 16 → fo4 i = kinF i) : Met l yX4_above (.code yX4_above cX4_above 2 (some .int) :: VS_k1) ({ frames := 1, cells := 0, slots := 0, locals := 20 }) (va_Pc [.ref qo43, .int a1] (fun U => U.heap.size = sz ∧ va_P (dC, dI) vwCl [(qo43, .inr (4, [.ref qo49, .ref qo50])), (qo49, .inl (co14, 16, .inl fo4))] U.heap ∧ va_K (dC, dI) vwCl [(co14, .int)] U ∧ va_D (fun _ => True) [(qo43, .inr (4, [.ref qo49, .ref qo50])), (qo49, .inl (co14, 16, .inl fo4))])) (va_Qi (fun (r : Int32) (u : Unit) => match u with | () => r = an_super a1) (fun (u : Unit) (t : State) => match u with | () => va_P (dC, dI) vwCl [] t.heap ∧ va_K (dC, dI) vwCl [] t ∧ va_D (va_A [(qo43, .inr (4, [.ref qo49, .ref qo50])), (qo49, .inl (co14, 16, .inl fo4))] sz) []) (va_A [(qo43, .inr (4, [.ref qo49, .ref qo50])), (qo49, .inl (co14, 16, .inl fo4))] sz)) 0 0 (va_A [(qo43, .inr (4, [.ref qo49, .ref qo50])), (qo49, .inl (co14, 16, .inl fo4))] sz) := by
  refine Met.ofW (cc := cX4_above) (maxL := 2) (ret := (some .int)) (by decide) rfl ?_
  intro p e s m args below meth c s₁ B hml hv
  obtain ⟨rfl, hsz, hP, hK, hD0⟩ := hv
  have hx := B.exec
  have hb := B.bytes
  have hr := B.returns
  have hts := atoms_spec (ws := (.code yX4_above cX4_above 2 (some .int) :: VS_k1)) B.pre
  replace hts := fun w (h : w ∈ VS_k1) => hts w (List.mem_cons_of_mem _ h)
  have hown : s.vm.findClass RX4 = some m.cls := findClass_of_methodNamed B.named
  have hlocks := B.notSynchronized
  subst hsz
  have hD := hD0.self (sz := s.heap.size)
  generalize hAe : va_A [(qo43, .inr (4, [.ref qo49, .ref qo50])), (qo49, .inl (co14, 16, .inl fo4))] s.heap.size = A at hD  ⊢
  have hA : ∀ q : Nat, s.heap.size ≤ q → A q := fun q h => by rw [← hAe]; exact Or.inr h
  have hP : va_P (dC, dI) vwCl [(qo43, .inr (4, [.ref qo49, .ref qo50])), (qo49, .inl (co14, 16, .inl fo4))] s.heap := hP
  have hl := lv_entry ([.ref qo43, .int a1]) (n := 2) (Nat.le_of_ble_eq_true rfl)
  rw [lg_entry_eq]
  generalize (lg_sl ([.ref qo43, .int a1]) ++ List.replicate (2 - (lg_sl ([.ref qo43, .int a1])).length) Slot.unset).toArray = ls at hl ⊢
  have hl : lv_has ls 2 [(0, .ref qo43), (1, .int a1)] := hl
  obtain ⟨H, hH⟩ : ∃ H : Heap, s.heap = H := ⟨_, rfl⟩
  rw [hH] at hP ⊢
  have hS : va_S A s.heap H [] := by rw [← hH]; exact va_S.rf
  obtain ⟨locs, hlo⟩ : ∃ locs : List Loc, locs = [] := ⟨_, rfl⟩
  rw [← hlo] at hS ⊢
  refine lv_iload_n hx hb dX4_above_0 rfl (lv_at hl 1 rfl) ?_
  have hPc := hP.sub (ws' := []) [] rfl
  have hDc := hD.sub (ws' := []) [] (by decide) rfl
  have hKc := hK.sub (tys' := []) [] rfl
  have hFc := va_free (wc := []) hD hS hA [] rfl
  refine va_calli (va_runS (As := [.int a1]) (rest := []) ⟨hx, hb, hml, hown, hts⟩ (kk_isClass l dC dI H.size a1 h0a h8a) (va_cwS 1 hts gv_k1_13 rfl rfl rfl (by decide +kernel) ⟨Nat.le_of_ble_eq_true rfl, Nat.le_of_ble_eq_true rfl⟩) ⟨fun a U g mk q => by obtain ⟨q0, q1, qP, qK, qD⟩ := q; exact ⟨q0, q1, qP, va_K.moved (u := U) (U := U.calling g mk a) (Vm.Alike.refl U.vm) qK, qD⟩, fun U hU hW => ⟨rfl, by rw [hU], by rw [hU]; exact hPc, va_K.moved hW.alike hKc, hDc.weaken (fun _ _ _ _ => trivial)⟩⟩ rfl rfl hl.1 rfl (lv_room (Nat.le_of_ble_eq_true rfl)) dX4_above_1 ⟨Nat.le_of_ble_eq_true rfl, Nat.le_of_ble_eq_true rfl⟩) hS (fun q _ h => hFc q h) hFc ?_
  clear hS
  intro r_1 u t H1 locs ht hvm hw hB hz1 hk1 hS
  obtain ⟨⟩ := u
  obtain ⟨hP1, hK1, hD1⟩ := hB
  rw [ht] at hP1
  have hK1 := va_K.moved hvm.symm hK1
  try dsimp only at hw
  have hPD := va_join (wr := [(qo43, .inr (4, [.ref qo49, .ref qo50])), (qo49, .inl (co14, 16, .inl fo4))]) (w1 := []) hP hD [] [0, 1] rfl rfl (by decide) (by decide) hk1 hFc hP1 hD1
  clear hP hD
  obtain ⟨hP, hD⟩ := hPD
  replace hK := (hK.sub (tys' := [(co14, .int)]) [0] rfl).app hK1
  clear hPc hDc hKc hFc hP1 hK1 hD1 hz1 hk1 ht hvm
  generalize H1 = H at hP hS ⊢
  replace hP : va_P (dC, dI) vwCl [(qo43, .inr (4, [.ref qo49, .ref qo50])), (qo49, .inl (co14, 16, .inl fo4))] H := hP
  replace hD : va_D A [(qo43, .inr (4, [.ref qo49, .ref qo50])), (qo49, .inl (co14, 16, .inl fo4))] := hD
  replace hK : va_K (dC, dI) vwCl [(co14, .int)] s := hK
  subst hw
  refine lv_if_eq (tgt := 16) hx hb dX4_above_4 (by decide) (fun c_2 => (show False by revert c_2; decide).elim) (fun c_2 => ?_)
  refine lv_aload_n hx hb dX4_above_7 rfl (lv_at hl 0 rfl) ?_
  refine va_get (D := (dC, dI)) (ci := 4) (v := .ref qo49) (C := RX4) (T := TX4) (N := 2) hx hb hts uV_k1_X4 hown hK hP 0 rfl rfl 0 (by decide) (hts (.fieldLink RX4 11 "ClassMill$Kin" "above" "[I") mw_k1_61) (fun _ h9 => h9) rfl dX4_above_8 ?_
  refine lv_iload_n hx hb dX4_above_11 rfl (lv_at hl 1 rfl) ?_
  refine va_iald hx hb hK hP 1 0 rfl rfl (i := a1) (kx_in h0a h8a) dX4_above_12 ?_
  refine lv_topi (fun y_3 ey_3 => ?_)
  refine lv_goto (tgt := 17) hx hb dX4_above_13 (by decide) ?_
  have hP9 := hP.sub (ws' := []) [] rfl
  have hD9 := hD.sub (ws' := []) [] (by decide) rfl
  have hK9 := hK.sub (tys' := []) [] rfl
  exact W.iret hx hb hr (fun t ht hW => ⟨⟨y_3, (), rfl, ey_3.trans (kx_sup h0a h8a hkf), by rw [ht]; exact hP9, va_K.moved hW.alike hK9, hD9⟩, hS.F ht⟩) hS.2.2 dX4_above_17
theorem lf_type2_86 (a1 a2 : Int32) (c_1 : a1 < 0) : ((-1) : Int32) = an_type2 a1 a2 := by
  unfold an_type2; rw [if_pos c_1]
theorem lf_type2_87 (a1 a2 : Int32) (c_1 : ¬ a1 < 0) (c_3 : a1 < 8) (c_4 : ¬ a2 = 0) (c_6 : a2 < 1) : ((-1) : Int32) = an_type2 a1 a2 := by
  unfold an_type2; rw [if_neg c_1, if_neg (Int32.not_le.mpr c_3), if_pos (i32_lt1 c_6 c_4)]
theorem lf_type2_88 (a1 a2 : Int32) (c_1 : ¬ a1 < 0) (c_3 : a1 < 8) (c_4 : ¬ a2 = 0) (c_6 : ¬ a2 < 1) (c_7 : 4 < a2) : ((-1) : Int32) = an_type2 a1 a2 := by
  unfold an_type2; rw [if_neg c_1, if_neg (Int32.not_le.mpr c_3), if_neg (i32_n0 c_6), if_neg (Int32.not_le.mpr c_7)]
theorem lf_type2_89 (a1 a2 : Int32) (c_1 : ¬ a1 < 0) (c_3 : a1 < 8) (c_4 : ¬ a2 = 0) (c_6 : ¬ a2 < 1) (c_7 : ¬ 4 < a2) : (0 : Int32) = an_type2 a1 a2 := by
  unfold an_type2; rw [if_neg c_1, if_neg (Int32.not_le.mpr c_3), if_neg (i32_n0 c_6), if_pos (Int32.not_lt.mp c_7), if_neg c_4]
theorem lf_type2_90 (a1 a2 : Int32) (c_1 : ¬ a1 < 0) (c_3 : a1 < 8) (c_4 : a2 = 0) : ((an_super a1) : Int32) = an_type2 a1 a2 := by
  unfold an_type2; rw [if_neg c_1, if_neg (Int32.not_le.mpr c_3)]; subst c_4; rfl
theorem lf_type2_91 (a1 a2 : Int32) (c_1 : ¬ a1 < 0) (c_3 : ¬ a1 < 8) : ((-1) : Int32) = an_type2 a1 a2 := by
  unfold an_type2; rw [if_neg c_1, if_pos (Int32.not_lt.mp c_3)]
set_option maxHeartbeats 4000000 in
set_option maxRecDepth 100000 in
/-- kk_type -/
theorem kk_type (l : Launch) (dC : Nat → ClassId) (dI : Nat → Nat → Nat) (sz : Nat) (h0 : Nat) (a1 : Int32) (a2 : Int32) (qo1 : Nat) (qo2 : Nat) (qo3 : Nat) (qo4 : Nat) (qo5 : Nat) (qo6 : Nat) (qo7 : Nat) (qo8 : Nat) (qo9 : Nat) (qo43 : Nat) (qo44 : Nat) (qo45 : Nat) (qo46 : Nat) (qo47 : Nat) (qo48 : Nat) (qo49 : Nat) (qo50 : Nat) (co14 : ClassId) (fo4 : (Nat → Int32)) (hkf : ∀ i, i < 16 → fo4 i = kinF i) : Met l yX12_type (.code yX12_type cX12_type 4 (some .int) :: VS_k1) ({ frames := 2, cells := 0, slots := 0, locals := 41 }) (va_Pc [.ref h0, .int a1, .int a2] (fun U => U.heap.size = sz ∧ va_P (dC, dI) vwCl [(h0, .inr (12, [.ref qo1, .int 0, .ref qo2, .ref qo3, .ref qo4, .ref qo5, .ref qo6, .int 0, .ref qo7, .ref qo8, .ref qo9])), (qo7, .inr (7, [.ref qo43, .ref qo44, .ref qo45, .int 0, .int 0, .ref qo46, .ref qo47, .ref qo48])), (qo43, .inr (4, [.ref qo49, .ref qo50])), (qo49, .inl (co14, 16, .inl fo4))] U.heap ∧ va_K (dC, dI) vwCl [(co14, .int)] U ∧ va_D (fun _ => True) [(h0, .inr (12, [.ref qo1, .int 0, .ref qo2, .ref qo3, .ref qo4, .ref qo5, .ref qo6, .int 0, .ref qo7, .ref qo8, .ref qo9])), (qo7, .inr (7, [.ref qo43, .ref qo44, .ref qo45, .int 0, .int 0, .ref qo46, .ref qo47, .ref qo48])), (qo43, .inr (4, [.ref qo49, .ref qo50])), (qo49, .inl (co14, 16, .inl fo4))])) (va_Qi (fun (r : Int32) (u : Unit) => match u with | () => r = an_type2 a1 a2) (fun (u : Unit) (t : State) => match u with | () => va_P (dC, dI) vwCl [] t.heap ∧ va_K (dC, dI) vwCl [] t ∧ va_D (va_A [(h0, .inr (12, [.ref qo1, .int 0, .ref qo2, .ref qo3, .ref qo4, .ref qo5, .ref qo6, .int 0, .ref qo7, .ref qo8, .ref qo9])), (qo7, .inr (7, [.ref qo43, .ref qo44, .ref qo45, .int 0, .int 0, .ref qo46, .ref qo47, .ref qo48])), (qo43, .inr (4, [.ref qo49, .ref qo50])), (qo49, .inl (co14, 16, .inl fo4))] sz) []) (va_A [(h0, .inr (12, [.ref qo1, .int 0, .ref qo2, .ref qo3, .ref qo4, .ref qo5, .ref qo6, .int 0, .ref qo7, .ref qo8, .ref qo9])), (qo7, .inr (7, [.ref qo43, .ref qo44, .ref qo45, .int 0, .int 0, .ref qo46, .ref qo47, .ref qo48])), (qo43, .inr (4, [.ref qo49, .ref qo50])), (qo49, .inl (co14, 16, .inl fo4))] sz)) 0 0 (va_A [(h0, .inr (12, [.ref qo1, .int 0, .ref qo2, .ref qo3, .ref qo4, .ref qo5, .ref qo6, .int 0, .ref qo7, .ref qo8, .ref qo9])), (qo7, .inr (7, [.ref qo43, .ref qo44, .ref qo45, .int 0, .int 0, .ref qo46, .ref qo47, .ref qo48])), (qo43, .inr (4, [.ref qo49, .ref qo50])), (qo49, .inl (co14, 16, .inl fo4))] sz) := by
  refine Met.ofW (cc := cX12_type) (maxL := 4) (ret := (some .int)) (by decide) rfl ?_
  intro p e s m args below meth c s₁ B hml hv
  obtain ⟨rfl, hsz, hP, hK, hD0⟩ := hv
  have hx := B.exec
  have hb := B.bytes
  have hr := B.returns
  have hts := atoms_spec (ws := (.code yX12_type cX12_type 4 (some .int) :: VS_k1)) B.pre
  replace hts := fun w (h : w ∈ VS_k1) => hts w (List.mem_cons_of_mem _ h)
  have hown : s.vm.findClass RX12 = some m.cls := findClass_of_methodNamed B.named
  have hlocks := B.notSynchronized
  subst hsz
  have hD := hD0.self (sz := s.heap.size)
  generalize hAe : va_A [(h0, .inr (12, [.ref qo1, .int 0, .ref qo2, .ref qo3, .ref qo4, .ref qo5, .ref qo6, .int 0, .ref qo7, .ref qo8, .ref qo9])), (qo7, .inr (7, [.ref qo43, .ref qo44, .ref qo45, .int 0, .int 0, .ref qo46, .ref qo47, .ref qo48])), (qo43, .inr (4, [.ref qo49, .ref qo50])), (qo49, .inl (co14, 16, .inl fo4))] s.heap.size = A at hD  ⊢
  have hA : ∀ q : Nat, s.heap.size ≤ q → A q := fun q h => by rw [← hAe]; exact Or.inr h
  have hP : va_P (dC, dI) vwCl [(h0, .inr (12, [.ref qo1, .int 0, .ref qo2, .ref qo3, .ref qo4, .ref qo5, .ref qo6, .int 0, .ref qo7, .ref qo8, .ref qo9])), (qo7, .inr (7, [.ref qo43, .ref qo44, .ref qo45, .int 0, .int 0, .ref qo46, .ref qo47, .ref qo48])), (qo43, .inr (4, [.ref qo49, .ref qo50])), (qo49, .inl (co14, 16, .inl fo4))] s.heap := hP
  have hl := lv_entry ([.ref h0, .int a1, .int a2]) (n := 4) (Nat.le_of_ble_eq_true rfl)
  rw [lg_entry_eq]
  generalize (lg_sl ([.ref h0, .int a1, .int a2]) ++ List.replicate (4 - (lg_sl ([.ref h0, .int a1, .int a2])).length) Slot.unset).toArray = ls at hl ⊢
  have hl : lv_has ls 4 [(0, .ref h0), (1, .int a1), (2, .int a2)] := hl
  obtain ⟨H, hH⟩ : ∃ H : Heap, s.heap = H := ⟨_, rfl⟩
  rw [hH] at hP ⊢
  have hS : va_S A s.heap H [] := by rw [← hH]; exact va_S.rf
  obtain ⟨locs, hlo⟩ : ∃ locs : List Loc, locs = [] := ⟨_, rfl⟩
  rw [← hlo] at hS ⊢
  refine lv_iload_n hx hb dX12_type_0 rfl (lv_at hl 1 rfl) ?_
  refine lv_if_lt (tgt := 18) hx hb dX12_type_1 (by decide) (fun c_1 => ?_) (fun c_1 => ?_)
  · have c_1_ := c_1
    refine lv_iconst (v := (-1)) hx hb dX12_type_18 (by decide) ?_
    have hP9 := hP.sub (ws' := []) [] rfl
    have hD9 := hD.sub (ws' := []) [] (by decide) rfl
    have hK9 := hK.sub (tys' := []) [] rfl
    exact W.iret hx hb hr (fun t ht hW => ⟨⟨((-1)), (), rfl, lf_type2_86 a1 a2 c_1, by rw [ht]; exact hP9, va_K.moved hW.alike hK9, hD9⟩, hS.F ht⟩) hS.2.2 dX12_type_19
  · have c_1_ := c_1
    refine lv_iload_n hx hb dX12_type_4 rfl (lv_at hl 1 rfl) ?_
    refine lv_bipush (v := 8) hx hb dX12_type_5 (by decide) ?_
    refine lv_aload_n hx hb dX12_type_7 rfl (lv_at hl 0 rfl) ?_
    refine va_get (D := (dC, dI)) (ci := 12) (v := .ref qo7) (C := RX12) (T := TX12) (N := 11) hx hb hts uV_k1_X12 hown hK hP 0 rfl rfl 8 (by decide) (hts (.fieldLink RX12 53 "ClassMill" "space" "LClassMill$Space;") mw_k1_24) (fun _ h9 => h9) rfl dX12_type_8 ?_
    refine va_get (D := (dC, dI)) (ci := 7) (v := .int 0) (C := RX7) (T := TX7) (N := 8) hx hb hts uV_k1_X7 hown hK hP 1 rfl rfl 3 (by decide) (hts (.fieldLink RX12 199 "ClassMill$Space" "count" "I") mw_k1_56) (fun _ h9 => h9) rfl dX12_type_11 ?_
    refine lv_iadd hx hb dX12_type_14 ?_
    refine lv_topi (fun y_2 ey_2 => ?_)
    obtain rfl : y_2 = 8 := ey_2.trans (by decide)
    refine lv_icmp_lt (tgt := 20) hx hb dX12_type_15 (by decide) (fun c_3 => ?_) (fun c_3 => ?_)
    · have c_3_ := c_3
      refine lv_iload_n hx hb dX12_type_20 rfl (lv_at hl 2 rfl) ?_
      refine lv_if_ne (tgt := 36) hx hb dX12_type_21 (by decide) (fun c_4 => ?_) (fun c_4 => ?_)
      · have c_4_ := c_4
        refine lv_aload_n hx hb dX12_type_36 rfl (lv_at hl 0 rfl) ?_
        refine va_get (D := (dC, dI)) (ci := 12) (v := .ref qo7) (C := RX12) (T := TX12) (N := 11) hx hb hts uV_k1_X12 hown hK hP 0 rfl rfl 8 (by decide) (hts (.fieldLink RX12 53 "ClassMill" "space" "LClassMill$Space;") mw_k1_24) (fun _ h9 => h9) rfl dX12_type_37 ?_
        refine lv_iload_n hx hb dX12_type_40 rfl (lv_at hl 1 rfl) ?_
        have hPc := hP.sub (ws' := [(qo7, .inr (7, [.ref qo43, .ref qo44, .ref qo45, .int 0, .int 0, .ref qo46, .ref qo47, .ref qo48]))]) [1] rfl
        have hDc := hD.sub (ws' := [(qo7, .inr (7, [.ref qo43, .ref qo44, .ref qo45, .int 0, .int 0, .ref qo46, .ref qo47, .ref qo48]))]) [1] (by decide) rfl
        have hKc := hK.sub (tys' := []) [] rfl
        have hFc := va_free (wc := [(qo7, .inr (7, [.ref qo43, .ref qo44, .ref qo45, .int 0, .int 0, .ref qo46, .ref qo47, .ref qo48]))]) hD hS hA [1] rfl
        refine va_callq (va_runV (As := [.int a1]) (rest := []) ⟨hx, hb, hml, hown, hts⟩ (kk_SimageOf l dC dI H.size qo7 a1 qo43 qo44 qo45 qo46 qo47 qo48) (cwV 1 hts gv_k1_8 rfl rfl rfl (by decide +kernel) ⟨Nat.le_of_ble_eq_true rfl, Nat.le_of_ble_eq_true rfl⟩) ⟨fun a U g mk q => by obtain ⟨q0, q1, qP, qK, qD⟩ := q; exact ⟨q0, q1, qP, va_K.moved (u := U) (U := U.calling g mk a) (Vm.Alike.refl U.vm) qK, qD⟩, va_recv hKc hPc (ci := 7) (q0 := 0) rfl rfl, fun U hU hW => ⟨rfl, by rw [hU], by rw [hU]; exact hPc, va_K.moved hW.alike hKc, hDc.weaken (fun _ _ _ _ => trivial)⟩⟩ rfl rfl hl.1 rfl (lv_room (Nat.le_of_ble_eq_true rfl)) dX12_type_41 ⟨Nat.le_of_ble_eq_true rfl, Nat.le_of_ble_eq_true rfl⟩) hS (fun q _ h => hFc q h) hFc ?_
        clear hS
        intro r_5 u t H1 locs ht hvm hw hB hz1 hk1 hS
        obtain ⟨⟩ := u
        obtain ⟨hP1, hK1, hD1⟩ := hB
        rw [ht] at hP1
        have hK1 := va_K.moved hvm.symm hK1
        try dsimp only at hw
        have hPD := va_join (wr := [(h0, .inr (12, [.ref qo1, .int 0, .ref qo2, .ref qo3, .ref qo4, .ref qo5, .ref qo6, .int 0, .ref qo7, .ref qo8, .ref qo9])), (qo43, .inr (4, [.ref qo49, .ref qo50])), (qo49, .inl (co14, 16, .inl fo4))]) (w1 := [(qo7, .inr (7, [.ref qo43, .ref qo44, .ref qo45, .int 0, .int 0, .ref qo46, .ref qo47, .ref qo48]))]) hP hD [1] [0, 2, 3] rfl rfl (by decide) (by decide) hk1 hFc hP1 hD1
        clear hP hD
        obtain ⟨hP, hD⟩ := hPD
        replace hK := (hK.sub (tys' := [(co14, .int)]) [0] rfl).app hK1
        clear hPc hDc hKc hFc hP1 hK1 hD1 hz1 hk1 ht hvm
        generalize H1 = H at hP hS ⊢
        replace hP : va_P (dC, dI) vwCl [(h0, .inr (12, [.ref qo1, .int 0, .ref qo2, .ref qo3, .ref qo4, .ref qo5, .ref qo6, .int 0, .ref qo7, .ref qo8, .ref qo9])), (qo43, .inr (4, [.ref qo49, .ref qo50])), (qo49, .inl (co14, 16, .inl fo4)), (qo7, .inr (7, [.ref qo43, .ref qo44, .ref qo45, .int 0, .int 0, .ref qo46, .ref qo47, .ref qo48]))] H := hP
        replace hD : va_D A [(h0, .inr (12, [.ref qo1, .int 0, .ref qo2, .ref qo3, .ref qo4, .ref qo5, .ref qo6, .int 0, .ref qo7, .ref qo8, .ref qo9])), (qo43, .inr (4, [.ref qo49, .ref qo50])), (qo49, .inl (co14, 16, .inl fo4)), (qo7, .inr (7, [.ref qo43, .ref qo44, .ref qo45, .int 0, .int 0, .ref qo46, .ref qo47, .ref qo48]))] := hD
        replace hK : va_K (dC, dI) vwCl [(co14, .int)] s := hK
        subst hw
        refine W.eq (g2 := F0 m 44 ls [.null]) rfl ?_
        refine lv_astore_nN (lv' := [(3, .null), (0, .ref h0), (1, .int a1), (2, .int a2)]) hx hb dX12_type_44 rfl hl (by decide) rfl (fun ls hl => ?_)
        refine lv_aload_nN hx hb dX12_type_45 rfl (lv_at hl 0 rfl) ?_
        refine lv_ifnonnullN hx hb dX12_type_46 ?_
        refine lv_iload_n hx hb dX12_type_49 rfl (lv_at hl 3 rfl) ?_
        refine lv_iconst (v := 1) hx hb dX12_type_50 (by decide) ?_
        refine lv_icmp_lt (tgt := 63) hx hb dX12_type_51 (by decide) (fun c_6 => ?_) (fun c_6 => ?_)
        · have c_6_ := c_6
          refine lv_iconst (v := (-1)) hx hb dX12_type_63 (by decide) ?_
          have hP9 := hP.sub (ws' := []) [] rfl
          have hD9 := hD.sub (ws' := []) [] (by decide) rfl
          have hK9 := hK.sub (tys' := []) [] rfl
          exact W.iret hx hb hr (fun t ht hW => ⟨⟨((-1)), (), rfl, lf_type2_87 a1 a2 c_1 c_3 c_4 c_6, by rw [ht]; exact hP9, va_K.moved hW.alike hK9, hD9⟩, hS.F ht⟩) hS.2.2 dX12_type_64
        · have c_6_ := c_6
          refine lv_iload_n hx hb dX12_type_54 rfl (lv_at hl 3 rfl) ?_
          refine lv_iconst (v := 4) hx hb dX12_type_55 (by decide) ?_
          refine lv_icmp_gt (tgt := 63) hx hb dX12_type_56 (by decide) (fun c_7 => ?_) (fun c_7 => ?_)
          · have c_7_ := c_7
            refine lv_iconst (v := (-1)) hx hb dX12_type_63 (by decide) ?_
            have hP9 := hP.sub (ws' := []) [] rfl
            have hD9 := hD.sub (ws' := []) [] (by decide) rfl
            have hK9 := hK.sub (tys' := []) [] rfl
            exact W.iret hx hb hr (fun t ht hW => ⟨⟨((-1)), (), rfl, lf_type2_88 a1 a2 c_1 c_3 c_4 c_6 c_7, by rw [ht]; exact hP9, va_K.moved hW.alike hK9, hD9⟩, hS.F ht⟩) hS.2.2 dX12_type_64
          · have c_7_ := c_7
            refine lv_iconst (v := 0) hx hb dX12_type_59 (by decide) ?_
            refine lv_goto (tgt := 64) hx hb dX12_type_60 (by decide) ?_
            have hP9 := hP.sub (ws' := []) [] rfl
            have hD9 := hD.sub (ws' := []) [] (by decide) rfl
            have hK9 := hK.sub (tys' := []) [] rfl
            exact W.iret hx hb hr (fun t ht hW => ⟨⟨(0), (), rfl, lf_type2_89 a1 a2 c_1 c_3 c_4 c_6 c_7, by rw [ht]; exact hP9, va_K.moved hW.alike hK9, hD9⟩, hS.F ht⟩) hS.2.2 dX12_type_64
      · have c_4_ := c_4
        refine lv_aload_n hx hb dX12_type_24 rfl (lv_at hl 0 rfl) ?_
        refine va_get (D := (dC, dI)) (ci := 12) (v := .ref qo7) (C := RX12) (T := TX12) (N := 11) hx hb hts uV_k1_X12 hown hK hP 0 rfl rfl 8 (by decide) (hts (.fieldLink RX12 53 "ClassMill" "space" "LClassMill$Space;") mw_k1_24) (fun _ h9 => h9) rfl dX12_type_25 ?_
        refine va_get (D := (dC, dI)) (ci := 7) (v := .ref qo43) (C := RX7) (T := TX7) (N := 8) hx hb hts uV_k1_X7 hown hK hP 1 rfl rfl 0 (by decide) (hts (.fieldLink RX12 213 "ClassMill$Space" "kin" "LClassMill$Kin;") mw_k1_66) (fun _ h9 => h9) rfl dX12_type_28 ?_
        refine lv_iload_n hx hb dX12_type_31 rfl (lv_at hl 1 rfl) ?_
        have hPc := hP.sub (ws' := [(qo43, .inr (4, [.ref qo49, .ref qo50])), (qo49, .inl (co14, 16, .inl fo4))]) [2, 3] rfl
        have hDc := hD.sub (ws' := [(qo43, .inr (4, [.ref qo49, .ref qo50])), (qo49, .inl (co14, 16, .inl fo4))]) [2, 3] (by decide) rfl
        have hKc := hK.sub (tys' := [(co14, .int)]) [0] rfl
        have hFc := va_free (wc := [(qo43, .inr (4, [.ref qo49, .ref qo50])), (qo49, .inl (co14, 16, .inl fo4))]) hD hS hA [2, 3] rfl
        refine va_calli (va_runV (As := [.int a1]) (rest := []) ⟨hx, hb, hml, hown, hts⟩ (kk_above l dC dI H.size qo43 a1 qo49 qo50 co14 fo4 c_1 c_3 hkf) (cwV 1 hts gv_k1_14 rfl rfl rfl (by decide +kernel) ⟨Nat.le_of_ble_eq_true rfl, Nat.le_of_ble_eq_true rfl⟩) ⟨fun a U g mk q => by obtain ⟨q0, q1, qP, qK, qD⟩ := q; exact ⟨q0, q1, qP, va_K.moved (u := U) (U := U.calling g mk a) (Vm.Alike.refl U.vm) qK, qD⟩, va_recv hKc hPc (ci := 4) (q0 := 0) rfl rfl, fun U hU hW => ⟨rfl, by rw [hU], by rw [hU]; exact hPc, va_K.moved hW.alike hKc, hDc.weaken (fun _ _ _ _ => trivial)⟩⟩ rfl rfl hl.1 rfl (lv_room (Nat.le_of_ble_eq_true rfl)) dX12_type_32 ⟨Nat.le_of_ble_eq_true rfl, Nat.le_of_ble_eq_true rfl⟩) hS (fun q _ h => hFc q h) hFc ?_
        clear hS
        intro r_8 u t H1 locs ht hvm hw hB hz1 hk1 hS
        obtain ⟨⟩ := u
        obtain ⟨hP1, hK1, hD1⟩ := hB
        rw [ht] at hP1
        have hK1 := va_K.moved hvm.symm hK1
        try dsimp only at hw
        have hPD := va_join (wr := [(h0, .inr (12, [.ref qo1, .int 0, .ref qo2, .ref qo3, .ref qo4, .ref qo5, .ref qo6, .int 0, .ref qo7, .ref qo8, .ref qo9])), (qo7, .inr (7, [.ref qo43, .ref qo44, .ref qo45, .int 0, .int 0, .ref qo46, .ref qo47, .ref qo48]))]) (w1 := []) hP hD [2, 3] [0, 1] rfl rfl (by decide) (by decide) hk1 hFc hP1 hD1
        clear hP hD
        obtain ⟨hP, hD⟩ := hPD
        replace hK := (hK.sub (tys' := []) [] rfl).app hK1
        clear hPc hDc hKc hFc hP1 hK1 hD1 hz1 hk1 ht hvm
        generalize H1 = H at hP hS ⊢
        replace hP : va_P (dC, dI) vwCl [(h0, .inr (12, [.ref qo1, .int 0, .ref qo2, .ref qo3, .ref qo4, .ref qo5, .ref qo6, .int 0, .ref qo7, .ref qo8, .ref qo9])), (qo7, .inr (7, [.ref qo43, .ref qo44, .ref qo45, .int 0, .int 0, .ref qo46, .ref qo47, .ref qo48]))] H := hP
        replace hD : va_D A [(h0, .inr (12, [.ref qo1, .int 0, .ref qo2, .ref qo3, .ref qo4, .ref qo5, .ref qo6, .int 0, .ref qo7, .ref qo8, .ref qo9])), (qo7, .inr (7, [.ref qo43, .ref qo44, .ref qo45, .int 0, .int 0, .ref qo46, .ref qo47, .ref qo48]))] := hD
        replace hK : va_K (dC, dI) vwCl [] s := hK
        subst hw
        have hP9 := hP.sub (ws' := []) [] rfl
        have hD9 := hD.sub (ws' := []) [] (by decide) rfl
        have hK9 := hK.sub (tys' := []) [] rfl
        exact W.iret hx hb hr (fun t ht hW => ⟨⟨((an_super a1)), (), rfl, lf_type2_90 a1 a2 c_1 c_3 c_4, by rw [ht]; exact hP9, va_K.moved hW.alike hK9, hD9⟩, hS.F ht⟩) hS.2.2 dX12_type_35
    · have c_3_ := c_3
      refine lv_iconst (v := (-1)) hx hb dX12_type_18 (by decide) ?_
      have hP9 := hP.sub (ws' := []) [] rfl
      have hD9 := hD.sub (ws' := []) [] (by decide) rfl
      have hK9 := hK.sub (tys' := []) [] rfl
      exact W.iret hx hb hr (fun t ht hW => ⟨⟨((-1)), (), rfl, lf_type2_91 a1 a2 c_1 c_3, by rw [ht]; exact hP9, va_K.moved hW.alike hK9, hD9⟩, hS.F ht⟩) hS.2.2 dX12_type_19
set_option maxHeartbeats 4000000 in
set_option maxRecDepth 100000 in
/-- kk_mforget -/
theorem kk_mforget (l : Launch) (dC : Nat → ClassId) (dI : Nat → Nat → Nat) (sz : Nat) (qo9 : Nat) (qo7 : Nat) (qo66 : Nat) (qo67 : Nat) (qo68 : Nat) (qo69 : Nat) (qo70 : Nat) (qo71 : Nat) (qo72 : Nat) (qo73 : Nat) (qo74 : Nat) (qo75 : Nat)  : Met l yX5_forget (.code yX5_forget cX5_forget 1 none :: VS_k1) ({ frames := 0, cells := 0, slots := 0, locals := 0 }) (va_Pc [.ref qo9] (fun U => U.heap.size = sz ∧ va_P (dC, dI) vwCl [(qo9, .inr (5, [.ref qo7, .int 0, .int (-1), .int 0, .int 0, .int 0, .int 0, .int 0, .ref qo66, .ref qo67, .ref qo68, .ref qo69, .ref qo70, .ref qo71, .ref qo72, .ref qo73, .ref qo74, .int 0, .ref qo75, .int 0, .int 0]))] U.heap ∧ va_K (dC, dI) vwCl [] U ∧ va_D (fun _ => True) [(qo9, .inr (5, [.ref qo7, .int 0, .int (-1), .int 0, .int 0, .int 0, .int 0, .int 0, .ref qo66, .ref qo67, .ref qo68, .ref qo69, .ref qo70, .ref qo71, .ref qo72, .ref qo73, .ref qo74, .int 0, .ref qo75, .int 0, .int 0]))])) (va_Qv (fun (u : Unit) => match u with | () => True) (fun (u : Unit) (t : State) => match u with | () => va_P (dC, dI) vwCl [(qo9, .inr (5, [.ref qo7, .int 0, .int (-1), .int 0, .int 0, .int 0, .int 0, .int 0, .ref qo66, .ref qo67, .ref qo68, .ref qo69, .ref qo70, .ref qo71, .ref qo72, .ref qo73, .ref qo74, .int 0, .ref qo75, .int 0, .int 0]))] t.heap ∧ va_K (dC, dI) vwCl [] t ∧ va_D (va_A [(qo9, .inr (5, [.ref qo7, .int 0, .int (-1), .int 0, .int 0, .int 0, .int 0, .int 0, .ref qo66, .ref qo67, .ref qo68, .ref qo69, .ref qo70, .ref qo71, .ref qo72, .ref qo73, .ref qo74, .int 0, .ref qo75, .int 0, .int 0]))] sz) [(qo9, .inr (5, [.ref qo7, .int 0, .int (-1), .int 0, .int 0, .int 0, .int 0, .int 0, .ref qo66, .ref qo67, .ref qo68, .ref qo69, .ref qo70, .ref qo71, .ref qo72, .ref qo73, .ref qo74, .int 0, .ref qo75, .int 0, .int 0]))]) (va_A [(qo9, .inr (5, [.ref qo7, .int 0, .int (-1), .int 0, .int 0, .int 0, .int 0, .int 0, .ref qo66, .ref qo67, .ref qo68, .ref qo69, .ref qo70, .ref qo71, .ref qo72, .ref qo73, .ref qo74, .int 0, .ref qo75, .int 0, .int 0]))] sz)) 0 0 (va_A [(qo9, .inr (5, [.ref qo7, .int 0, .int (-1), .int 0, .int 0, .int 0, .int 0, .int 0, .ref qo66, .ref qo67, .ref qo68, .ref qo69, .ref qo70, .ref qo71, .ref qo72, .ref qo73, .ref qo74, .int 0, .ref qo75, .int 0, .int 0]))] sz) := by
  refine Met.ofW (cc := cX5_forget) (maxL := 1) (ret := none) (by decide) rfl ?_
  intro p e s m args below meth c s₁ B hml hv
  obtain ⟨rfl, hsz, hP, hK, hD0⟩ := hv
  have hx := B.exec
  have hb := B.bytes
  have hr := B.returns
  have hts := atoms_spec (ws := (.code yX5_forget cX5_forget 1 none :: VS_k1)) B.pre
  replace hts := fun w (h : w ∈ VS_k1) => hts w (List.mem_cons_of_mem _ h)
  have hown : s.vm.findClass RX5 = some m.cls := findClass_of_methodNamed B.named
  have hlocks := B.notSynchronized
  subst hsz
  have hD := hD0.self (sz := s.heap.size)
  generalize hAe : va_A [(qo9, .inr (5, [.ref qo7, .int 0, .int (-1), .int 0, .int 0, .int 0, .int 0, .int 0, .ref qo66, .ref qo67, .ref qo68, .ref qo69, .ref qo70, .ref qo71, .ref qo72, .ref qo73, .ref qo74, .int 0, .ref qo75, .int 0, .int 0]))] s.heap.size = A at hD  ⊢
  have hA : ∀ q : Nat, s.heap.size ≤ q → A q := fun q h => by rw [← hAe]; exact Or.inr h
  have hP : va_P (dC, dI) vwCl [(qo9, .inr (5, [.ref qo7, .int 0, .int (-1), .int 0, .int 0, .int 0, .int 0, .int 0, .ref qo66, .ref qo67, .ref qo68, .ref qo69, .ref qo70, .ref qo71, .ref qo72, .ref qo73, .ref qo74, .int 0, .ref qo75, .int 0, .int 0]))] s.heap := hP
  have hl := lv_entry ([.ref qo9]) (n := 1) (Nat.le_of_ble_eq_true rfl)
  rw [lg_entry_eq]
  generalize (lg_sl ([.ref qo9]) ++ List.replicate (1 - (lg_sl ([.ref qo9])).length) Slot.unset).toArray = ls at hl ⊢
  have hl : lv_has ls 1 [(0, .ref qo9)] := hl
  obtain ⟨H, hH⟩ : ∃ H : Heap, s.heap = H := ⟨_, rfl⟩
  rw [hH] at hP ⊢
  have hS : va_S A s.heap H [] := by rw [← hH]; exact va_S.rf
  obtain ⟨locs, hlo⟩ : ∃ locs : List Loc, locs = [] := ⟨_, rfl⟩
  rw [← hlo] at hS ⊢
  refine lv_aload_n hx hb dX5_forget_0 rfl (lv_at hl 0 rfl) ?_
  refine lv_iconst (v := 0) hx hb dX5_forget_1 (by decide) ?_
  refine va_put (D := (dC, dI)) (ci := 5) (v := .int 0) (ty := .int) (C := RX5) (T := TX5) (N := 21) hx hb hts uV_k1_X5 tyX5 tyX5_ok nmX5 hown hK hP hD hS 0 rfl rfl 1 (by decide) (hts (.fieldLink RX5 54 "ClassMill$Machine" "state" "I") mw_k1_32) (fun _ h9 => h9) rfl (by decide +kernel) rfl rfl (Nat.le_of_ble_eq_true rfl) dX5_forget_2 ?_
  clear hP hD hS
  intro H locs hP hD hS
  replace hP : va_P (dC, dI) vwCl [(qo9, .inr (5, [.ref qo7, .int 0, .int (-1), .int 0, .int 0, .int 0, .int 0, .int 0, .ref qo66, .ref qo67, .ref qo68, .ref qo69, .ref qo70, .ref qo71, .ref qo72, .ref qo73, .ref qo74, .int 0, .ref qo75, .int 0, .int 0]))] H := hP
  replace hD : va_D A [(qo9, .inr (5, [.ref qo7, .int 0, .int (-1), .int 0, .int 0, .int 0, .int 0, .int 0, .ref qo66, .ref qo67, .ref qo68, .ref qo69, .ref qo70, .ref qo71, .ref qo72, .ref qo73, .ref qo74, .int 0, .ref qo75, .int 0, .int 0]))] := hD
  refine lv_aload_n hx hb dX5_forget_5 rfl (lv_at hl 0 rfl) ?_
  refine lv_iconst (v := (-1)) hx hb dX5_forget_6 (by decide) ?_
  refine va_put (D := (dC, dI)) (ci := 5) (v := .int (-1)) (ty := .int) (C := RX5) (T := TX5) (N := 21) hx hb hts uV_k1_X5 tyX5 tyX5_ok nmX5 hown hK hP hD hS 0 rfl rfl 2 (by decide) (hts (.fieldLink RX5 50 "ClassMill$Machine" "gave" "I") mw_k1_39) (fun _ h9 => h9) rfl (by decide +kernel) rfl rfl (Nat.le_of_ble_eq_true rfl) dX5_forget_7 ?_
  clear hP hD hS
  intro H locs hP hD hS
  replace hP : va_P (dC, dI) vwCl [(qo9, .inr (5, [.ref qo7, .int 0, .int (-1), .int 0, .int 0, .int 0, .int 0, .int 0, .ref qo66, .ref qo67, .ref qo68, .ref qo69, .ref qo70, .ref qo71, .ref qo72, .ref qo73, .ref qo74, .int 0, .ref qo75, .int 0, .int 0]))] H := hP
  replace hD : va_D A [(qo9, .inr (5, [.ref qo7, .int 0, .int (-1), .int 0, .int 0, .int 0, .int 0, .int 0, .ref qo66, .ref qo67, .ref qo68, .ref qo69, .ref qo70, .ref qo71, .ref qo72, .ref qo73, .ref qo74, .int 0, .ref qo75, .int 0, .int 0]))] := hD
  refine lv_aload_n hx hb dX5_forget_10 rfl (lv_at hl 0 rfl) ?_
  refine lv_iconst (v := 0) hx hb dX5_forget_11 (by decide) ?_
  refine va_put (D := (dC, dI)) (ci := 5) (v := .int 0) (ty := .int) (C := RX5) (T := TX5) (N := 21) hx hb hts uV_k1_X5 tyX5 tyX5_ok nmX5 hown hK hP hD hS 0 rfl rfl 3 (by decide) (hts (.fieldLink RX5 57 "ClassMill$Machine" "steps" "I") mw_k1_31) (fun _ h9 => h9) rfl (by decide +kernel) rfl rfl (Nat.le_of_ble_eq_true rfl) dX5_forget_12 ?_
  clear hP hD hS
  intro H locs hP hD hS
  replace hP : va_P (dC, dI) vwCl [(qo9, .inr (5, [.ref qo7, .int 0, .int (-1), .int 0, .int 0, .int 0, .int 0, .int 0, .ref qo66, .ref qo67, .ref qo68, .ref qo69, .ref qo70, .ref qo71, .ref qo72, .ref qo73, .ref qo74, .int 0, .ref qo75, .int 0, .int 0]))] H := hP
  replace hD : va_D A [(qo9, .inr (5, [.ref qo7, .int 0, .int (-1), .int 0, .int 0, .int 0, .int 0, .int 0, .ref qo66, .ref qo67, .ref qo68, .ref qo69, .ref qo70, .ref qo71, .ref qo72, .ref qo73, .ref qo74, .int 0, .ref qo75, .int 0, .int 0]))] := hD
  refine lv_aload_n hx hb dX5_forget_15 rfl (lv_at hl 0 rfl) ?_
  refine lv_iconst (v := 0) hx hb dX5_forget_16 (by decide) ?_
  refine va_put (D := (dC, dI)) (ci := 5) (v := .int 0) (ty := .int) (C := RX5) (T := TX5) (N := 21) hx hb hts uV_k1_X5 tyX5 tyX5_ok nmX5 hown hK hP hD hS 0 rfl rfl 4 (by decide) (hts (.fieldLink RX5 60 "ClassMill$Machine" "objects" "I") mw_k1_40) (fun _ h9 => h9) rfl (by decide +kernel) rfl rfl (Nat.le_of_ble_eq_true rfl) dX5_forget_17 ?_
  clear hP hD hS
  intro H locs hP hD hS
  replace hP : va_P (dC, dI) vwCl [(qo9, .inr (5, [.ref qo7, .int 0, .int (-1), .int 0, .int 0, .int 0, .int 0, .int 0, .ref qo66, .ref qo67, .ref qo68, .ref qo69, .ref qo70, .ref qo71, .ref qo72, .ref qo73, .ref qo74, .int 0, .ref qo75, .int 0, .int 0]))] H := hP
  replace hD : va_D A [(qo9, .inr (5, [.ref qo7, .int 0, .int (-1), .int 0, .int 0, .int 0, .int 0, .int 0, .ref qo66, .ref qo67, .ref qo68, .ref qo69, .ref qo70, .ref qo71, .ref qo72, .ref qo73, .ref qo74, .int 0, .ref qo75, .int 0, .int 0]))] := hD
  refine lv_aload_n hx hb dX5_forget_20 rfl (lv_at hl 0 rfl) ?_
  refine lv_iconst (v := 0) hx hb dX5_forget_21 (by decide) ?_
  refine va_put (D := (dC, dI)) (ci := 5) (v := .int 0) (ty := .int) (C := RX5) (T := TX5) (N := 21) hx hb hts uV_k1_X5 tyX5 tyX5_ok nmX5 hown hK hP hD hS 0 rfl rfl 5 (by decide) (hts (.fieldLink RX5 63 "ClassMill$Machine" "cells" "I") mw_k1_41) (fun _ h9 => h9) rfl (by decide +kernel) rfl rfl (Nat.le_of_ble_eq_true rfl) dX5_forget_22 ?_
  clear hP hD hS
  intro H locs hP hD hS
  replace hP : va_P (dC, dI) vwCl [(qo9, .inr (5, [.ref qo7, .int 0, .int (-1), .int 0, .int 0, .int 0, .int 0, .int 0, .ref qo66, .ref qo67, .ref qo68, .ref qo69, .ref qo70, .ref qo71, .ref qo72, .ref qo73, .ref qo74, .int 0, .ref qo75, .int 0, .int 0]))] H := hP
  replace hD : va_D A [(qo9, .inr (5, [.ref qo7, .int 0, .int (-1), .int 0, .int 0, .int 0, .int 0, .int 0, .ref qo66, .ref qo67, .ref qo68, .ref qo69, .ref qo70, .ref qo71, .ref qo72, .ref qo73, .ref qo74, .int 0, .ref qo75, .int 0, .int 0]))] := hD
  refine lv_aload_n hx hb dX5_forget_25 rfl (lv_at hl 0 rfl) ?_
  refine lv_iconst (v := 0) hx hb dX5_forget_26 (by decide) ?_
  refine va_put (D := (dC, dI)) (ci := 5) (v := .int 0) (ty := .int) (C := RX5) (T := TX5) (N := 21) hx hb hts uV_k1_X5 tyX5 tyX5_ok nmX5 hown hK hP hD hS 0 rfl rfl 6 (by decide) (hts (.fieldLink RX5 66 "ClassMill$Machine" "depth" "I") mw_k1_42) (fun _ h9 => h9) rfl (by decide +kernel) rfl rfl (Nat.le_of_ble_eq_true rfl) dX5_forget_27 ?_
  clear hP hD hS
  intro H locs hP hD hS
  replace hP : va_P (dC, dI) vwCl [(qo9, .inr (5, [.ref qo7, .int 0, .int (-1), .int 0, .int 0, .int 0, .int 0, .int 0, .ref qo66, .ref qo67, .ref qo68, .ref qo69, .ref qo70, .ref qo71, .ref qo72, .ref qo73, .ref qo74, .int 0, .ref qo75, .int 0, .int 0]))] H := hP
  replace hD : va_D A [(qo9, .inr (5, [.ref qo7, .int 0, .int (-1), .int 0, .int 0, .int 0, .int 0, .int 0, .ref qo66, .ref qo67, .ref qo68, .ref qo69, .ref qo70, .ref qo71, .ref qo72, .ref qo73, .ref qo74, .int 0, .ref qo75, .int 0, .int 0]))] := hD
  refine lv_aload_n hx hb dX5_forget_30 rfl (lv_at hl 0 rfl) ?_
  refine lv_iconst (v := 0) hx hb dX5_forget_31 (by decide) ?_
  refine va_put (D := (dC, dI)) (ci := 5) (v := .int 0) (ty := .int) (C := RX5) (T := TX5) (N := 21) hx hb hts uV_k1_X5 tyX5 tyX5_ok nmX5 hown hK hP hD hS 0 rfl rfl 7 (by decide) (hts (.fieldLink RX5 69 "ClassMill$Machine" "prints" "I") mw_k1_43) (fun _ h9 => h9) rfl (by decide +kernel) rfl rfl (Nat.le_of_ble_eq_true rfl) dX5_forget_32 ?_
  clear hP hD hS
  intro H locs hP hD hS
  replace hP : va_P (dC, dI) vwCl [(qo9, .inr (5, [.ref qo7, .int 0, .int (-1), .int 0, .int 0, .int 0, .int 0, .int 0, .ref qo66, .ref qo67, .ref qo68, .ref qo69, .ref qo70, .ref qo71, .ref qo72, .ref qo73, .ref qo74, .int 0, .ref qo75, .int 0, .int 0]))] H := hP
  replace hD : va_D A [(qo9, .inr (5, [.ref qo7, .int 0, .int (-1), .int 0, .int 0, .int 0, .int 0, .int 0, .ref qo66, .ref qo67, .ref qo68, .ref qo69, .ref qo70, .ref qo71, .ref qo72, .ref qo73, .ref qo74, .int 0, .ref qo75, .int 0, .int 0]))] := hD
  have hP9 := hP.sub (ws' := [(qo9, .inr (5, [.ref qo7, .int 0, .int (-1), .int 0, .int 0, .int 0, .int 0, .int 0, .ref qo66, .ref qo67, .ref qo68, .ref qo69, .ref qo70, .ref qo71, .ref qo72, .ref qo73, .ref qo74, .int 0, .ref qo75, .int 0, .int 0]))]) [0] rfl
  have hD9 := hD.sub (ws' := [(qo9, .inr (5, [.ref qo7, .int 0, .int (-1), .int 0, .int 0, .int 0, .int 0, .int 0, .ref qo66, .ref qo67, .ref qo68, .ref qo69, .ref qo70, .ref qo71, .ref qo72, .ref qo73, .ref qo74, .int 0, .ref qo75, .int 0, .int 0]))]) [0] (by decide) rfl
  have hK9 := hK.sub (tys' := []) [] rfl
  exact W.vret hx hb hr (fun t ht hW => ⟨⟨(), rfl, trivial, by rw [ht]; exact hP9, va_K.moved hW.alike hK9, hD9⟩, hS.F ht⟩) hS.2.2 dX5_forget_35
set_option maxHeartbeats 4000000 in
set_option maxRecDepth 100000 in
/-- kk_sforget -/
theorem kk_sforget (l : Launch) (dC : Nat → ClassId) (dI : Nat → Nat → Nat) (sz : Nat) (qo7 : Nat) (qo43 : Nat) (qo44 : Nat) (qo45 : Nat) (qo46 : Nat) (qo47 : Nat) (qo48 : Nat) (qo49 : Nat) (qo50 : Nat) (co14 : ClassId) (fo4 : (Nat → Int32)) (co15 : ClassId) (go2 : (Nat → Int32))  : Met l yX7_forget (.code yX7_forget cX7_forget 1 none :: VS_k1) ({ frames := 2, cells := 0, slots := 0, locals := 44 }) (va_Pc [.ref qo7] (fun U => U.heap.size = sz ∧ va_P (dC, dI) vwCl [(qo7, .inr (7, [.ref qo43, .ref qo44, .ref qo45, .int 0, .int 0, .ref qo46, .ref qo47, .ref qo48])), (qo43, .inr (4, [.ref qo49, .ref qo50])), (qo49, .inl (co14, 16, .inl fo4)), (qo50, .inl (co15, 256, .inl go2))] U.heap ∧ va_K (dC, dI) vwCl [(co14, .int), (co15, .boolean)] U ∧ va_D (fun _ => True) [(qo7, .inr (7, [.ref qo43, .ref qo44, .ref qo45, .int 0, .int 0, .ref qo46, .ref qo47, .ref qo48])), (qo43, .inr (4, [.ref qo49, .ref qo50])), (qo49, .inl (co14, 16, .inl fo4)), (qo50, .inl (co15, 256, .inl go2))])) (va_Qv (fun (u : Unit) => match u with | () => True) (fun (u : Unit) (t : State) => match u with | () => va_P (dC, dI) vwCl [(qo7, .inr (7, [.ref qo43, .ref qo44, .ref qo45, .int 0, .int 0, .ref qo46, .ref qo47, .ref qo48]))] t.heap ∧ va_K (dC, dI) vwCl [] t ∧ va_D (va_A [(qo7, .inr (7, [.ref qo43, .ref qo44, .ref qo45, .int 0, .int 0, .ref qo46, .ref qo47, .ref qo48])), (qo43, .inr (4, [.ref qo49, .ref qo50])), (qo49, .inl (co14, 16, .inl fo4)), (qo50, .inl (co15, 256, .inl go2))] sz) [(qo7, .inr (7, [.ref qo43, .ref qo44, .ref qo45, .int 0, .int 0, .ref qo46, .ref qo47, .ref qo48]))]) (va_A [(qo7, .inr (7, [.ref qo43, .ref qo44, .ref qo45, .int 0, .int 0, .ref qo46, .ref qo47, .ref qo48])), (qo43, .inr (4, [.ref qo49, .ref qo50])), (qo49, .inl (co14, 16, .inl fo4)), (qo50, .inl (co15, 256, .inl go2))] sz)) 0 0 (va_A [(qo7, .inr (7, [.ref qo43, .ref qo44, .ref qo45, .int 0, .int 0, .ref qo46, .ref qo47, .ref qo48])), (qo43, .inr (4, [.ref qo49, .ref qo50])), (qo49, .inl (co14, 16, .inl fo4)), (qo50, .inl (co15, 256, .inl go2))] sz) := by
  refine Met.ofW (cc := cX7_forget) (maxL := 1) (ret := none) (by decide) rfl ?_
  intro p e s m args below meth c s₁ B hml hv
  obtain ⟨rfl, hsz, hP, hK, hD0⟩ := hv
  have hx := B.exec
  have hb := B.bytes
  have hr := B.returns
  have hts := atoms_spec (ws := (.code yX7_forget cX7_forget 1 none :: VS_k1)) B.pre
  replace hts := fun w (h : w ∈ VS_k1) => hts w (List.mem_cons_of_mem _ h)
  have hown : s.vm.findClass RX7 = some m.cls := findClass_of_methodNamed B.named
  have hlocks := B.notSynchronized
  subst hsz
  have hD := hD0.self (sz := s.heap.size)
  generalize hAe : va_A [(qo7, .inr (7, [.ref qo43, .ref qo44, .ref qo45, .int 0, .int 0, .ref qo46, .ref qo47, .ref qo48])), (qo43, .inr (4, [.ref qo49, .ref qo50])), (qo49, .inl (co14, 16, .inl fo4)), (qo50, .inl (co15, 256, .inl go2))] s.heap.size = A at hD  ⊢
  have hA : ∀ q : Nat, s.heap.size ≤ q → A q := fun q h => by rw [← hAe]; exact Or.inr h
  have hP : va_P (dC, dI) vwCl [(qo7, .inr (7, [.ref qo43, .ref qo44, .ref qo45, .int 0, .int 0, .ref qo46, .ref qo47, .ref qo48])), (qo43, .inr (4, [.ref qo49, .ref qo50])), (qo49, .inl (co14, 16, .inl fo4)), (qo50, .inl (co15, 256, .inl go2))] s.heap := hP
  have hl := lv_entry ([.ref qo7]) (n := 1) (Nat.le_of_ble_eq_true rfl)
  rw [lg_entry_eq]
  generalize (lg_sl ([.ref qo7]) ++ List.replicate (1 - (lg_sl ([.ref qo7])).length) Slot.unset).toArray = ls at hl ⊢
  have hl : lv_has ls 1 [(0, .ref qo7)] := hl
  obtain ⟨H, hH⟩ : ∃ H : Heap, s.heap = H := ⟨_, rfl⟩
  rw [hH] at hP ⊢
  have hS : va_S A s.heap H [] := by rw [← hH]; exact va_S.rf
  obtain ⟨locs, hlo⟩ : ∃ locs : List Loc, locs = [] := ⟨_, rfl⟩
  rw [← hlo] at hS ⊢
  refine lv_aload_n hx hb dX7_forget_0 rfl (lv_at hl 0 rfl) ?_
  refine lv_iconst (v := 0) hx hb dX7_forget_1 (by decide) ?_
  refine va_put (D := (dC, dI)) (ci := 7) (v := .int 0) (ty := .int) (C := RX7) (T := TX7) (N := 8) hx hb hts uV_k1_X7 tyX7 tyX7_ok nmX7 hown hK hP hD hS 0 rfl rfl 3 (by decide) (hts (.fieldLink RX7 41 "ClassMill$Space" "count" "I") mw_k1_14) (fun _ h9 => h9) rfl (by decide +kernel) rfl rfl (Nat.le_of_ble_eq_true rfl) dX7_forget_2 ?_
  clear hP hD hS
  intro H locs hP hD hS
  replace hP : va_P (dC, dI) vwCl [(qo7, .inr (7, [.ref qo43, .ref qo44, .ref qo45, .int 0, .int 0, .ref qo46, .ref qo47, .ref qo48])), (qo43, .inr (4, [.ref qo49, .ref qo50])), (qo49, .inl (co14, 16, .inl fo4)), (qo50, .inl (co15, 256, .inl go2))] H := hP
  replace hD : va_D A [(qo7, .inr (7, [.ref qo43, .ref qo44, .ref qo45, .int 0, .int 0, .ref qo46, .ref qo47, .ref qo48])), (qo43, .inr (4, [.ref qo49, .ref qo50])), (qo49, .inl (co14, 16, .inl fo4)), (qo50, .inl (co15, 256, .inl go2))] := hD
  refine lv_aload_n hx hb dX7_forget_5 rfl (lv_at hl 0 rfl) ?_
  refine lv_iconst (v := 0) hx hb dX7_forget_6 (by decide) ?_
  refine va_put (D := (dC, dI)) (ci := 7) (v := .int 0) (ty := .boolean) (C := RX7) (T := TX7) (N := 8) hx hb hts uV_k1_X7 tyX7 tyX7_ok nmX7 hown hK hP hD hS 0 rfl rfl 4 (by decide) (hts (.fieldLink RX7 45 "ClassMill$Space" "verified" "Z") mw_k1_70) (fun _ h9 => h9) rfl (by decide +kernel) rfl rfl (Nat.le_of_ble_eq_true rfl) dX7_forget_7 ?_
  clear hP hD hS
  intro H locs hP hD hS
  replace hP : va_P (dC, dI) vwCl [(qo7, .inr (7, [.ref qo43, .ref qo44, .ref qo45, .int 0, .int 0, .ref qo46, .ref qo47, .ref qo48])), (qo43, .inr (4, [.ref qo49, .ref qo50])), (qo49, .inl (co14, 16, .inl fo4)), (qo50, .inl (co15, 256, .inl go2))] H := hP
  replace hD : va_D A [(qo7, .inr (7, [.ref qo43, .ref qo44, .ref qo45, .int 0, .int 0, .ref qo46, .ref qo47, .ref qo48])), (qo43, .inr (4, [.ref qo49, .ref qo50])), (qo49, .inl (co14, 16, .inl fo4)), (qo50, .inl (co15, 256, .inl go2))] := hD
  refine lv_aload_n hx hb dX7_forget_10 rfl (lv_at hl 0 rfl) ?_
  refine va_get (D := (dC, dI)) (ci := 7) (v := .ref qo43) (C := RX7) (T := TX7) (N := 8) hx hb hts uV_k1_X7 hown hK hP 0 rfl rfl 0 (by decide) (hts (.fieldLink RX7 16 "ClassMill$Space" "kin" "LClassMill$Kin;") mw_k1_71) (fun _ h9 => h9) rfl dX7_forget_11 ?_
  have hPc := hP.sub (ws' := [(qo43, .inr (4, [.ref qo49, .ref qo50])), (qo49, .inl (co14, 16, .inl fo4)), (qo50, .inl (co15, 256, .inl go2))]) [1, 2, 3] rfl
  have hDc := hD.sub (ws' := [(qo43, .inr (4, [.ref qo49, .ref qo50])), (qo49, .inl (co14, 16, .inl fo4)), (qo50, .inl (co15, 256, .inl go2))]) [1, 2, 3] (by decide) rfl
  have hKc := hK.sub (tys' := [(co14, .int), (co15, .boolean)]) [0, 1] rfl
  have hFc := va_free (wc := [(qo43, .inr (4, [.ref qo49, .ref qo50])), (qo49, .inl (co14, 16, .inl fo4)), (qo50, .inl (co15, 256, .inl go2))]) hD hS hA [1, 2, 3] rfl
  refine va_callv (va_runV (As := []) (rest := []) ⟨hx, hb, hml, hown, hts⟩ (ct_kforget l dC dI H.size qo43 qo49 qo50 co14 co15 fo4 go2) (cwV 0 hts gv_k1_15 rfl rfl rfl (by decide +kernel) ⟨Nat.le_of_ble_eq_true rfl, Nat.le_of_ble_eq_true rfl⟩) ⟨fun a U g mk q => by obtain ⟨q0, q1, qP, qK, qD⟩ := q; exact ⟨q0, q1, qP, va_K.moved (u := U) (U := U.calling g mk a) (Vm.Alike.refl U.vm) qK, qD⟩, va_recv hKc hPc (ci := 4) (q0 := 0) rfl rfl, fun U hU hW => ⟨rfl, by rw [hU], by rw [hU]; exact hPc, va_K.moved hW.alike hKc, hDc.weaken (fun _ _ _ _ => trivial)⟩⟩ rfl rfl hl.1 rfl (lv_room (Nat.le_of_ble_eq_true rfl)) dX7_forget_14 ⟨Nat.le_of_ble_eq_true rfl, Nat.le_of_ble_eq_true rfl⟩) hS (fun q _ h => hFc q h) hFc ?_
  clear hS
  intro u t H1 locs ht hvm hw hB hz1 hk1 hS
  obtain ⟨f_1, g_2⟩ := u
  obtain ⟨hP1, hK1, hD1⟩ := hB
  rw [ht] at hP1
  have hK1 := va_K.moved hvm.symm hK1
  try dsimp only at hw
  have hPD := va_join (wr := [(qo7, .inr (7, [.ref qo43, .ref qo44, .ref qo45, .int 0, .int 0, .ref qo46, .ref qo47, .ref qo48]))]) (w1 := [(qo43, .inr (4, [.ref qo49, .ref qo50])), (qo49, .inl (co14, 16, .inl f_1)), (qo50, .inl (co15, 256, .inl g_2))]) hP hD [1, 2, 3] [0] rfl rfl (by decide) (by decide) hk1 hFc hP1 hD1
  clear hP hD
  obtain ⟨hP, hD⟩ := hPD
  replace hK := (hK.sub (tys' := []) [] rfl).app hK1
  clear hPc hDc hKc hFc hP1 hK1 hD1 hz1 hk1 ht hvm
  generalize H1 = H at hP hS ⊢
  replace hP : va_P (dC, dI) vwCl [(qo7, .inr (7, [.ref qo43, .ref qo44, .ref qo45, .int 0, .int 0, .ref qo46, .ref qo47, .ref qo48])), (qo43, .inr (4, [.ref qo49, .ref qo50])), (qo49, .inl (co14, 16, .inl f_1)), (qo50, .inl (co15, 256, .inl g_2))] H := hP
  replace hD : va_D A [(qo7, .inr (7, [.ref qo43, .ref qo44, .ref qo45, .int 0, .int 0, .ref qo46, .ref qo47, .ref qo48])), (qo43, .inr (4, [.ref qo49, .ref qo50])), (qo49, .inl (co14, 16, .inl f_1)), (qo50, .inl (co15, 256, .inl g_2))] := hD
  replace hK : va_K (dC, dI) vwCl [(co14, .int), (co15, .boolean)] s := hK
  have hP9 := hP.sub (ws' := [(qo7, .inr (7, [.ref qo43, .ref qo44, .ref qo45, .int 0, .int 0, .ref qo46, .ref qo47, .ref qo48]))]) [0] rfl
  have hD9 := hD.sub (ws' := [(qo7, .inr (7, [.ref qo43, .ref qo44, .ref qo45, .int 0, .int 0, .ref qo46, .ref qo47, .ref qo48]))]) [0] (by decide) rfl
  have hK9 := hK.sub (tys' := []) [] rfl
  exact W.vret hx hb hr (fun t ht hW => ⟨⟨(), rfl, trivial, by rw [ht]; exact hP9, va_K.moved hW.alike hK9, hD9⟩, hS.F ht⟩) hS.2.2 dX7_forget_17
set_option maxHeartbeats 4000000 in
set_option maxRecDepth 100000 in
/-- kk_clear -/
theorem kk_clear (l : Launch) (dC : Nat → ClassId) (dI : Nat → Nat → Nat) (sz : Nat) (h0 : Nat) (qo1 : Nat) (qo2 : Nat) (qo3 : Nat) (qo4 : Nat) (qo5 : Nat) (qo6 : Nat) (qo7 : Nat) (qo8 : Nat) (qo9 : Nat) (qo43 : Nat) (qo44 : Nat) (qo45 : Nat) (qo46 : Nat) (qo47 : Nat) (qo48 : Nat) (qo49 : Nat) (qo50 : Nat) (co14 : ClassId) (fo4 : (Nat → Int32)) (co15 : ClassId) (go2 : (Nat → Int32)) (qo66 : Nat) (qo67 : Nat) (qo68 : Nat) (qo69 : Nat) (qo70 : Nat) (qo71 : Nat) (qo72 : Nat) (qo73 : Nat) (qo74 : Nat) (qo75 : Nat)  : Met l yX12_clear (.code yX12_clear cX12_clear 1 none :: VS_k1) ({ frames := 3, cells := 0, slots := 0, locals := 64 }) (va_Pc [.ref h0] (fun U => U.heap.size = sz ∧ va_P (dC, dI) vwCl [(h0, .inr (12, [.ref qo1, .int 0, .ref qo2, .ref qo3, .ref qo4, .ref qo5, .ref qo6, .int 0, .ref qo7, .ref qo8, .ref qo9])), (qo7, .inr (7, [.ref qo43, .ref qo44, .ref qo45, .int 0, .int 0, .ref qo46, .ref qo47, .ref qo48])), (qo43, .inr (4, [.ref qo49, .ref qo50])), (qo49, .inl (co14, 16, .inl fo4)), (qo50, .inl (co15, 256, .inl go2)), (qo9, .inr (5, [.ref qo7, .int 0, .int (-1), .int 0, .int 0, .int 0, .int 0, .int 0, .ref qo66, .ref qo67, .ref qo68, .ref qo69, .ref qo70, .ref qo71, .ref qo72, .ref qo73, .ref qo74, .int 0, .ref qo75, .int 0, .int 0]))] U.heap ∧ va_K (dC, dI) vwCl [(co14, .int), (co15, .boolean)] U ∧ va_D (fun _ => True) [(h0, .inr (12, [.ref qo1, .int 0, .ref qo2, .ref qo3, .ref qo4, .ref qo5, .ref qo6, .int 0, .ref qo7, .ref qo8, .ref qo9])), (qo7, .inr (7, [.ref qo43, .ref qo44, .ref qo45, .int 0, .int 0, .ref qo46, .ref qo47, .ref qo48])), (qo43, .inr (4, [.ref qo49, .ref qo50])), (qo49, .inl (co14, 16, .inl fo4)), (qo50, .inl (co15, 256, .inl go2)), (qo9, .inr (5, [.ref qo7, .int 0, .int (-1), .int 0, .int 0, .int 0, .int 0, .int 0, .ref qo66, .ref qo67, .ref qo68, .ref qo69, .ref qo70, .ref qo71, .ref qo72, .ref qo73, .ref qo74, .int 0, .ref qo75, .int 0, .int 0]))])) (va_Qv (fun (u : Unit) => match u with | () => True) (fun (u : Unit) (t : State) => match u with | () => va_P (dC, dI) vwCl [(h0, .inr (12, [.ref qo1, .int 0, .ref qo2, .ref qo3, .ref qo4, .ref qo5, .ref qo6, .int 0, .ref qo7, .ref qo8, .ref qo9]))] t.heap ∧ va_K (dC, dI) vwCl [] t ∧ va_D (va_A [(h0, .inr (12, [.ref qo1, .int 0, .ref qo2, .ref qo3, .ref qo4, .ref qo5, .ref qo6, .int 0, .ref qo7, .ref qo8, .ref qo9])), (qo7, .inr (7, [.ref qo43, .ref qo44, .ref qo45, .int 0, .int 0, .ref qo46, .ref qo47, .ref qo48])), (qo43, .inr (4, [.ref qo49, .ref qo50])), (qo49, .inl (co14, 16, .inl fo4)), (qo50, .inl (co15, 256, .inl go2)), (qo9, .inr (5, [.ref qo7, .int 0, .int (-1), .int 0, .int 0, .int 0, .int 0, .int 0, .ref qo66, .ref qo67, .ref qo68, .ref qo69, .ref qo70, .ref qo71, .ref qo72, .ref qo73, .ref qo74, .int 0, .ref qo75, .int 0, .int 0]))] sz) [(h0, .inr (12, [.ref qo1, .int 0, .ref qo2, .ref qo3, .ref qo4, .ref qo5, .ref qo6, .int 0, .ref qo7, .ref qo8, .ref qo9]))]) (va_A [(h0, .inr (12, [.ref qo1, .int 0, .ref qo2, .ref qo3, .ref qo4, .ref qo5, .ref qo6, .int 0, .ref qo7, .ref qo8, .ref qo9])), (qo7, .inr (7, [.ref qo43, .ref qo44, .ref qo45, .int 0, .int 0, .ref qo46, .ref qo47, .ref qo48])), (qo43, .inr (4, [.ref qo49, .ref qo50])), (qo49, .inl (co14, 16, .inl fo4)), (qo50, .inl (co15, 256, .inl go2)), (qo9, .inr (5, [.ref qo7, .int 0, .int (-1), .int 0, .int 0, .int 0, .int 0, .int 0, .ref qo66, .ref qo67, .ref qo68, .ref qo69, .ref qo70, .ref qo71, .ref qo72, .ref qo73, .ref qo74, .int 0, .ref qo75, .int 0, .int 0]))] sz)) 0 0 (va_A [(h0, .inr (12, [.ref qo1, .int 0, .ref qo2, .ref qo3, .ref qo4, .ref qo5, .ref qo6, .int 0, .ref qo7, .ref qo8, .ref qo9])), (qo7, .inr (7, [.ref qo43, .ref qo44, .ref qo45, .int 0, .int 0, .ref qo46, .ref qo47, .ref qo48])), (qo43, .inr (4, [.ref qo49, .ref qo50])), (qo49, .inl (co14, 16, .inl fo4)), (qo50, .inl (co15, 256, .inl go2)), (qo9, .inr (5, [.ref qo7, .int 0, .int (-1), .int 0, .int 0, .int 0, .int 0, .int 0, .ref qo66, .ref qo67, .ref qo68, .ref qo69, .ref qo70, .ref qo71, .ref qo72, .ref qo73, .ref qo74, .int 0, .ref qo75, .int 0, .int 0]))] sz) := by
  refine Met.ofW (cc := cX12_clear) (maxL := 1) (ret := none) (by decide) rfl ?_
  intro p e s m args below meth c s₁ B hml hv
  obtain ⟨rfl, hsz, hP, hK, hD0⟩ := hv
  have hx := B.exec
  have hb := B.bytes
  have hr := B.returns
  have hts := atoms_spec (ws := (.code yX12_clear cX12_clear 1 none :: VS_k1)) B.pre
  replace hts := fun w (h : w ∈ VS_k1) => hts w (List.mem_cons_of_mem _ h)
  have hown : s.vm.findClass RX12 = some m.cls := findClass_of_methodNamed B.named
  have hlocks := B.notSynchronized
  subst hsz
  have hD := hD0.self (sz := s.heap.size)
  generalize hAe : va_A [(h0, .inr (12, [.ref qo1, .int 0, .ref qo2, .ref qo3, .ref qo4, .ref qo5, .ref qo6, .int 0, .ref qo7, .ref qo8, .ref qo9])), (qo7, .inr (7, [.ref qo43, .ref qo44, .ref qo45, .int 0, .int 0, .ref qo46, .ref qo47, .ref qo48])), (qo43, .inr (4, [.ref qo49, .ref qo50])), (qo49, .inl (co14, 16, .inl fo4)), (qo50, .inl (co15, 256, .inl go2)), (qo9, .inr (5, [.ref qo7, .int 0, .int (-1), .int 0, .int 0, .int 0, .int 0, .int 0, .ref qo66, .ref qo67, .ref qo68, .ref qo69, .ref qo70, .ref qo71, .ref qo72, .ref qo73, .ref qo74, .int 0, .ref qo75, .int 0, .int 0]))] s.heap.size = A at hD  ⊢
  have hA : ∀ q : Nat, s.heap.size ≤ q → A q := fun q h => by rw [← hAe]; exact Or.inr h
  have hP : va_P (dC, dI) vwCl [(h0, .inr (12, [.ref qo1, .int 0, .ref qo2, .ref qo3, .ref qo4, .ref qo5, .ref qo6, .int 0, .ref qo7, .ref qo8, .ref qo9])), (qo7, .inr (7, [.ref qo43, .ref qo44, .ref qo45, .int 0, .int 0, .ref qo46, .ref qo47, .ref qo48])), (qo43, .inr (4, [.ref qo49, .ref qo50])), (qo49, .inl (co14, 16, .inl fo4)), (qo50, .inl (co15, 256, .inl go2)), (qo9, .inr (5, [.ref qo7, .int 0, .int (-1), .int 0, .int 0, .int 0, .int 0, .int 0, .ref qo66, .ref qo67, .ref qo68, .ref qo69, .ref qo70, .ref qo71, .ref qo72, .ref qo73, .ref qo74, .int 0, .ref qo75, .int 0, .int 0]))] s.heap := hP
  have hl := lv_entry ([.ref h0]) (n := 1) (Nat.le_of_ble_eq_true rfl)
  rw [lg_entry_eq]
  generalize (lg_sl ([.ref h0]) ++ List.replicate (1 - (lg_sl ([.ref h0])).length) Slot.unset).toArray = ls at hl ⊢
  have hl : lv_has ls 1 [(0, .ref h0)] := hl
  obtain ⟨H, hH⟩ : ∃ H : Heap, s.heap = H := ⟨_, rfl⟩
  rw [hH] at hP ⊢
  have hS : va_S A s.heap H [] := by rw [← hH]; exact va_S.rf
  obtain ⟨locs, hlo⟩ : ∃ locs : List Loc, locs = [] := ⟨_, rfl⟩
  rw [← hlo] at hS ⊢
  refine lv_aload_n hx hb dX12_clear_0 rfl (lv_at hl 0 rfl) ?_
  refine va_get (D := (dC, dI)) (ci := 12) (v := .ref qo7) (C := RX12) (T := TX12) (N := 11) hx hb hts uV_k1_X12 hown hK hP 0 rfl rfl 8 (by decide) (hts (.fieldLink RX12 53 "ClassMill" "space" "LClassMill$Space;") mw_k1_24) (fun _ h9 => h9) rfl dX12_clear_1 ?_
  have hPc := hP.sub (ws' := [(qo7, .inr (7, [.ref qo43, .ref qo44, .ref qo45, .int 0, .int 0, .ref qo46, .ref qo47, .ref qo48])), (qo43, .inr (4, [.ref qo49, .ref qo50])), (qo49, .inl (co14, 16, .inl fo4)), (qo50, .inl (co15, 256, .inl go2))]) [1, 2, 3, 4] rfl
  have hDc := hD.sub (ws' := [(qo7, .inr (7, [.ref qo43, .ref qo44, .ref qo45, .int 0, .int 0, .ref qo46, .ref qo47, .ref qo48])), (qo43, .inr (4, [.ref qo49, .ref qo50])), (qo49, .inl (co14, 16, .inl fo4)), (qo50, .inl (co15, 256, .inl go2))]) [1, 2, 3, 4] (by decide) rfl
  have hKc := hK.sub (tys' := [(co14, .int), (co15, .boolean)]) [0, 1] rfl
  have hFc := va_free (wc := [(qo7, .inr (7, [.ref qo43, .ref qo44, .ref qo45, .int 0, .int 0, .ref qo46, .ref qo47, .ref qo48])), (qo43, .inr (4, [.ref qo49, .ref qo50])), (qo49, .inl (co14, 16, .inl fo4)), (qo50, .inl (co15, 256, .inl go2))]) hD hS hA [1, 2, 3, 4] rfl
  refine va_callv (va_runV (As := []) (rest := []) ⟨hx, hb, hml, hown, hts⟩ (kk_sforget l dC dI H.size qo7 qo43 qo44 qo45 qo46 qo47 qo48 qo49 qo50 co14 fo4 co15 go2) (cwV 0 hts gv_k1_16 rfl rfl rfl (by decide +kernel) ⟨Nat.le_of_ble_eq_true rfl, Nat.le_of_ble_eq_true rfl⟩) ⟨fun a U g mk q => by obtain ⟨q0, q1, qP, qK, qD⟩ := q; exact ⟨q0, q1, qP, va_K.moved (u := U) (U := U.calling g mk a) (Vm.Alike.refl U.vm) qK, qD⟩, va_recv hKc hPc (ci := 7) (q0 := 0) rfl rfl, fun U hU hW => ⟨rfl, by rw [hU], by rw [hU]; exact hPc, va_K.moved hW.alike hKc, hDc.weaken (fun _ _ _ _ => trivial)⟩⟩ rfl rfl hl.1 rfl (lv_room (Nat.le_of_ble_eq_true rfl)) dX12_clear_4 ⟨Nat.le_of_ble_eq_true rfl, Nat.le_of_ble_eq_true rfl⟩) hS (fun q _ h => hFc q h) hFc ?_
  clear hS
  intro u t H1 locs ht hvm hw hB hz1 hk1 hS
  obtain ⟨⟩ := u
  obtain ⟨hP1, hK1, hD1⟩ := hB
  rw [ht] at hP1
  have hK1 := va_K.moved hvm.symm hK1
  try dsimp only at hw
  have hPD := va_join (wr := [(h0, .inr (12, [.ref qo1, .int 0, .ref qo2, .ref qo3, .ref qo4, .ref qo5, .ref qo6, .int 0, .ref qo7, .ref qo8, .ref qo9])), (qo9, .inr (5, [.ref qo7, .int 0, .int (-1), .int 0, .int 0, .int 0, .int 0, .int 0, .ref qo66, .ref qo67, .ref qo68, .ref qo69, .ref qo70, .ref qo71, .ref qo72, .ref qo73, .ref qo74, .int 0, .ref qo75, .int 0, .int 0]))]) (w1 := [(qo7, .inr (7, [.ref qo43, .ref qo44, .ref qo45, .int 0, .int 0, .ref qo46, .ref qo47, .ref qo48]))]) hP hD [1, 2, 3, 4] [0, 5] rfl rfl (by decide) (by decide) hk1 hFc hP1 hD1
  clear hP hD
  obtain ⟨hP, hD⟩ := hPD
  replace hK := (hK.sub (tys' := []) [] rfl).app hK1
  clear hPc hDc hKc hFc hP1 hK1 hD1 hz1 hk1 ht hvm
  generalize H1 = H at hP hS ⊢
  replace hP : va_P (dC, dI) vwCl [(h0, .inr (12, [.ref qo1, .int 0, .ref qo2, .ref qo3, .ref qo4, .ref qo5, .ref qo6, .int 0, .ref qo7, .ref qo8, .ref qo9])), (qo9, .inr (5, [.ref qo7, .int 0, .int (-1), .int 0, .int 0, .int 0, .int 0, .int 0, .ref qo66, .ref qo67, .ref qo68, .ref qo69, .ref qo70, .ref qo71, .ref qo72, .ref qo73, .ref qo74, .int 0, .ref qo75, .int 0, .int 0])), (qo7, .inr (7, [.ref qo43, .ref qo44, .ref qo45, .int 0, .int 0, .ref qo46, .ref qo47, .ref qo48]))] H := hP
  replace hD : va_D A [(h0, .inr (12, [.ref qo1, .int 0, .ref qo2, .ref qo3, .ref qo4, .ref qo5, .ref qo6, .int 0, .ref qo7, .ref qo8, .ref qo9])), (qo9, .inr (5, [.ref qo7, .int 0, .int (-1), .int 0, .int 0, .int 0, .int 0, .int 0, .ref qo66, .ref qo67, .ref qo68, .ref qo69, .ref qo70, .ref qo71, .ref qo72, .ref qo73, .ref qo74, .int 0, .ref qo75, .int 0, .int 0])), (qo7, .inr (7, [.ref qo43, .ref qo44, .ref qo45, .int 0, .int 0, .ref qo46, .ref qo47, .ref qo48]))] := hD
  replace hK : va_K (dC, dI) vwCl [] s := hK
  refine lv_aload_n hx hb dX12_clear_7 rfl (lv_at hl 0 rfl) ?_
  refine va_get (D := (dC, dI)) (ci := 12) (v := .ref qo9) (C := RX12) (T := TX12) (N := 11) hx hb hts uV_k1_X12 hown hK hP 0 rfl rfl 10 (by decide) (hts (.fieldLink RX12 69 "ClassMill" "machine" "LClassMill$Machine;") mw_k1_38) (fun _ h9 => h9) rfl dX12_clear_8 ?_
  have hPc := hP.sub (ws' := [(qo9, .inr (5, [.ref qo7, .int 0, .int (-1), .int 0, .int 0, .int 0, .int 0, .int 0, .ref qo66, .ref qo67, .ref qo68, .ref qo69, .ref qo70, .ref qo71, .ref qo72, .ref qo73, .ref qo74, .int 0, .ref qo75, .int 0, .int 0]))]) [1] rfl
  have hDc := hD.sub (ws' := [(qo9, .inr (5, [.ref qo7, .int 0, .int (-1), .int 0, .int 0, .int 0, .int 0, .int 0, .ref qo66, .ref qo67, .ref qo68, .ref qo69, .ref qo70, .ref qo71, .ref qo72, .ref qo73, .ref qo74, .int 0, .ref qo75, .int 0, .int 0]))]) [1] (by decide) rfl
  have hKc := hK.sub (tys' := []) [] rfl
  have hFc := va_free (wc := [(qo9, .inr (5, [.ref qo7, .int 0, .int (-1), .int 0, .int 0, .int 0, .int 0, .int 0, .ref qo66, .ref qo67, .ref qo68, .ref qo69, .ref qo70, .ref qo71, .ref qo72, .ref qo73, .ref qo74, .int 0, .ref qo75, .int 0, .int 0]))]) hD hS hA [1] rfl
  refine va_callv (va_runV (As := []) (rest := []) ⟨hx, hb, hml, hown, hts⟩ (kk_mforget l dC dI H.size qo9 qo7 qo66 qo67 qo68 qo69 qo70 qo71 qo72 qo73 qo74 qo75) (cwV 0 hts gv_k1_17 rfl rfl rfl (by decide +kernel) ⟨Nat.le_of_ble_eq_true rfl, Nat.le_of_ble_eq_true rfl⟩) ⟨fun a U g mk q => by obtain ⟨q0, q1, qP, qK, qD⟩ := q; exact ⟨q0, q1, qP, va_K.moved (u := U) (U := U.calling g mk a) (Vm.Alike.refl U.vm) qK, qD⟩, va_recv hKc hPc (ci := 5) (q0 := 0) rfl rfl, fun U hU hW => ⟨rfl, by rw [hU], by rw [hU]; exact hPc, va_K.moved hW.alike hKc, hDc.weaken (fun _ _ _ _ => trivial)⟩⟩ rfl rfl hl.1 rfl (lv_room (Nat.le_of_ble_eq_true rfl)) dX12_clear_11 ⟨Nat.le_of_ble_eq_true rfl, Nat.le_of_ble_eq_true rfl⟩) hS (fun q _ h => hFc q h) hFc ?_
  clear hS
  intro u t H1 locs ht hvm hw hB hz1 hk1 hS
  obtain ⟨⟩ := u
  obtain ⟨hP1, hK1, hD1⟩ := hB
  rw [ht] at hP1
  have hK1 := va_K.moved hvm.symm hK1
  try dsimp only at hw
  have hPD := va_join (wr := [(h0, .inr (12, [.ref qo1, .int 0, .ref qo2, .ref qo3, .ref qo4, .ref qo5, .ref qo6, .int 0, .ref qo7, .ref qo8, .ref qo9])), (qo7, .inr (7, [.ref qo43, .ref qo44, .ref qo45, .int 0, .int 0, .ref qo46, .ref qo47, .ref qo48]))]) (w1 := [(qo9, .inr (5, [.ref qo7, .int 0, .int (-1), .int 0, .int 0, .int 0, .int 0, .int 0, .ref qo66, .ref qo67, .ref qo68, .ref qo69, .ref qo70, .ref qo71, .ref qo72, .ref qo73, .ref qo74, .int 0, .ref qo75, .int 0, .int 0]))]) hP hD [1] [0, 2] rfl rfl (by decide) (by decide) hk1 hFc hP1 hD1
  clear hP hD
  obtain ⟨hP, hD⟩ := hPD
  replace hK := (hK.sub (tys' := []) [] rfl).app hK1
  clear hPc hDc hKc hFc hP1 hK1 hD1 hz1 hk1 ht hvm
  generalize H1 = H at hP hS ⊢
  replace hP : va_P (dC, dI) vwCl [(h0, .inr (12, [.ref qo1, .int 0, .ref qo2, .ref qo3, .ref qo4, .ref qo5, .ref qo6, .int 0, .ref qo7, .ref qo8, .ref qo9])), (qo7, .inr (7, [.ref qo43, .ref qo44, .ref qo45, .int 0, .int 0, .ref qo46, .ref qo47, .ref qo48])), (qo9, .inr (5, [.ref qo7, .int 0, .int (-1), .int 0, .int 0, .int 0, .int 0, .int 0, .ref qo66, .ref qo67, .ref qo68, .ref qo69, .ref qo70, .ref qo71, .ref qo72, .ref qo73, .ref qo74, .int 0, .ref qo75, .int 0, .int 0]))] H := hP
  replace hD : va_D A [(h0, .inr (12, [.ref qo1, .int 0, .ref qo2, .ref qo3, .ref qo4, .ref qo5, .ref qo6, .int 0, .ref qo7, .ref qo8, .ref qo9])), (qo7, .inr (7, [.ref qo43, .ref qo44, .ref qo45, .int 0, .int 0, .ref qo46, .ref qo47, .ref qo48])), (qo9, .inr (5, [.ref qo7, .int 0, .int (-1), .int 0, .int 0, .int 0, .int 0, .int 0, .ref qo66, .ref qo67, .ref qo68, .ref qo69, .ref qo70, .ref qo71, .ref qo72, .ref qo73, .ref qo74, .int 0, .ref qo75, .int 0, .int 0]))] := hD
  replace hK : va_K (dC, dI) vwCl [] s := hK
  have hP9 := hP.sub (ws' := [(h0, .inr (12, [.ref qo1, .int 0, .ref qo2, .ref qo3, .ref qo4, .ref qo5, .ref qo6, .int 0, .ref qo7, .ref qo8, .ref qo9]))]) [0] rfl
  have hD9 := hD.sub (ws' := [(h0, .inr (12, [.ref qo1, .int 0, .ref qo2, .ref qo3, .ref qo4, .ref qo5, .ref qo6, .int 0, .ref qo7, .ref qo8, .ref qo9]))]) [0] (by decide) rfl
  have hK9 := hK.sub (tys' := []) [] rfl
  exact W.vret hx hb hr (fun t ht hW => ⟨⟨(), rfl, trivial, by rw [ht]; exact hP9, va_K.moved hW.alike hK9, hD9⟩, hS.F ht⟩) hS.2.2 dX12_clear_14
set_option maxHeartbeats 4000000 in
set_option maxRecDepth 100000 in
/-- kk_proveHeads -/
theorem kk_proveHeads (l : Launch) (dC : Nat → ClassId) (dI : Nat → Nat → Nat) (sz : Nat) (qo8 : Nat) (qo7 : Nat) (qo43 : Nat) (qo57 : Nat) (qo58 : Nat) (qo59 : Nat) (qo60 : Nat) (qo61 : Nat) (qo62 : Nat) (qo63 : Nat) (qo64 : Nat) (qo65 : Nat) (qo44 : Nat) (qo45 : Nat) (qo46 : Nat) (qo47 : Nat) (qo48 : Nat)  : Met l yX11_proveHeads (.code yX11_proveHeads cX11_proveHeads 3 (some .int) :: VS_k1) ({ frames := 0, cells := 0, slots := 0, locals := 0 }) (va_Pc [.ref qo8] (fun U => U.heap.size = sz ∧ va_P (dC, dI) vwCl [(qo8, .inr (11, [.ref qo7, .ref qo43, .int (-1), .int (-1), .int (-1), .ref qo57, .int 0, .int 0, .ref qo58, .ref qo59, .ref qo60, .ref qo61, .ref qo62, .ref qo63, .ref qo64, .ref qo65, .int 0, .int 0, .int 0, .int 0, .int 0])), (qo7, .inr (7, [.ref qo43, .ref qo44, .ref qo45, .int 0, .int 0, .ref qo46, .ref qo47, .ref qo48]))] U.heap ∧ va_K (dC, dI) vwCl [] U ∧ va_D (fun _ => True) [(qo8, .inr (11, [.ref qo7, .ref qo43, .int (-1), .int (-1), .int (-1), .ref qo57, .int 0, .int 0, .ref qo58, .ref qo59, .ref qo60, .ref qo61, .ref qo62, .ref qo63, .ref qo64, .ref qo65, .int 0, .int 0, .int 0, .int 0, .int 0])), (qo7, .inr (7, [.ref qo43, .ref qo44, .ref qo45, .int 0, .int 0, .ref qo46, .ref qo47, .ref qo48]))])) (va_Qi (fun (r : Int32) (u : Unit) => match u with | () => r = 0) (fun (u : Unit) (t : State) => match u with | () => va_P (dC, dI) vwCl [(qo8, .inr (11, [.ref qo7, .ref qo43, .int (-1), .int (-1), .int (-1), .ref qo57, .int 0, .int 0, .ref qo58, .ref qo59, .ref qo60, .ref qo61, .ref qo62, .ref qo63, .ref qo64, .ref qo65, .int 0, .int 0, .int 0, .int 0, .int 0])), (qo7, .inr (7, [.ref qo43, .ref qo44, .ref qo45, .int 0, .int 0, .ref qo46, .ref qo47, .ref qo48]))] t.heap ∧ va_K (dC, dI) vwCl [] t ∧ va_D (va_A [(qo8, .inr (11, [.ref qo7, .ref qo43, .int (-1), .int (-1), .int (-1), .ref qo57, .int 0, .int 0, .ref qo58, .ref qo59, .ref qo60, .ref qo61, .ref qo62, .ref qo63, .ref qo64, .ref qo65, .int 0, .int 0, .int 0, .int 0, .int 0])), (qo7, .inr (7, [.ref qo43, .ref qo44, .ref qo45, .int 0, .int 0, .ref qo46, .ref qo47, .ref qo48]))] sz) [(qo8, .inr (11, [.ref qo7, .ref qo43, .int (-1), .int (-1), .int (-1), .ref qo57, .int 0, .int 0, .ref qo58, .ref qo59, .ref qo60, .ref qo61, .ref qo62, .ref qo63, .ref qo64, .ref qo65, .int 0, .int 0, .int 0, .int 0, .int 0])), (qo7, .inr (7, [.ref qo43, .ref qo44, .ref qo45, .int 0, .int 0, .ref qo46, .ref qo47, .ref qo48]))]) (va_A [(qo8, .inr (11, [.ref qo7, .ref qo43, .int (-1), .int (-1), .int (-1), .ref qo57, .int 0, .int 0, .ref qo58, .ref qo59, .ref qo60, .ref qo61, .ref qo62, .ref qo63, .ref qo64, .ref qo65, .int 0, .int 0, .int 0, .int 0, .int 0])), (qo7, .inr (7, [.ref qo43, .ref qo44, .ref qo45, .int 0, .int 0, .ref qo46, .ref qo47, .ref qo48]))] sz)) 0 0 (va_A [(qo8, .inr (11, [.ref qo7, .ref qo43, .int (-1), .int (-1), .int (-1), .ref qo57, .int 0, .int 0, .ref qo58, .ref qo59, .ref qo60, .ref qo61, .ref qo62, .ref qo63, .ref qo64, .ref qo65, .int 0, .int 0, .int 0, .int 0, .int 0])), (qo7, .inr (7, [.ref qo43, .ref qo44, .ref qo45, .int 0, .int 0, .ref qo46, .ref qo47, .ref qo48]))] sz) := by
  refine Met.ofW (cc := cX11_proveHeads) (maxL := 3) (ret := (some .int)) (by decide) rfl ?_
  intro p e s m args below meth c s₁ B hml hv
  obtain ⟨rfl, hsz, hP, hK, hD0⟩ := hv
  have hx := B.exec
  have hb := B.bytes
  have hr := B.returns
  have hts := atoms_spec (ws := (.code yX11_proveHeads cX11_proveHeads 3 (some .int) :: VS_k1)) B.pre
  replace hts := fun w (h : w ∈ VS_k1) => hts w (List.mem_cons_of_mem _ h)
  have hown : s.vm.findClass RX11 = some m.cls := findClass_of_methodNamed B.named
  have hlocks := B.notSynchronized
  subst hsz
  have hD := hD0.self (sz := s.heap.size)
  generalize hAe : va_A [(qo8, .inr (11, [.ref qo7, .ref qo43, .int (-1), .int (-1), .int (-1), .ref qo57, .int 0, .int 0, .ref qo58, .ref qo59, .ref qo60, .ref qo61, .ref qo62, .ref qo63, .ref qo64, .ref qo65, .int 0, .int 0, .int 0, .int 0, .int 0])), (qo7, .inr (7, [.ref qo43, .ref qo44, .ref qo45, .int 0, .int 0, .ref qo46, .ref qo47, .ref qo48]))] s.heap.size = A at hD  ⊢
  have hA : ∀ q : Nat, s.heap.size ≤ q → A q := fun q h => by rw [← hAe]; exact Or.inr h
  have hP : va_P (dC, dI) vwCl [(qo8, .inr (11, [.ref qo7, .ref qo43, .int (-1), .int (-1), .int (-1), .ref qo57, .int 0, .int 0, .ref qo58, .ref qo59, .ref qo60, .ref qo61, .ref qo62, .ref qo63, .ref qo64, .ref qo65, .int 0, .int 0, .int 0, .int 0, .int 0])), (qo7, .inr (7, [.ref qo43, .ref qo44, .ref qo45, .int 0, .int 0, .ref qo46, .ref qo47, .ref qo48]))] s.heap := hP
  have hl := lv_entry ([.ref qo8]) (n := 3) (Nat.le_of_ble_eq_true rfl)
  rw [lg_entry_eq]
  generalize (lg_sl ([.ref qo8]) ++ List.replicate (3 - (lg_sl ([.ref qo8])).length) Slot.unset).toArray = ls at hl ⊢
  have hl : lv_has ls 3 [(0, .ref qo8)] := hl
  obtain ⟨H, hH⟩ : ∃ H : Heap, s.heap = H := ⟨_, rfl⟩
  rw [hH] at hP ⊢
  have hS : va_S A s.heap H [] := by rw [← hH]; exact va_S.rf
  obtain ⟨locs, hlo⟩ : ∃ locs : List Loc, locs = [] := ⟨_, rfl⟩
  rw [← hlo] at hS ⊢
  refine lv_bipush (v := 8) hx hb dX11_proveHeads_0 (by decide) ?_
  refine lv_istore_n (lv' := [(1, .int 8), (0, .ref qo8)]) hx hb dX11_proveHeads_2 rfl hl (by decide) rfl (fun ls hl => ?_)
  refine lv_iload_n hx hb dX11_proveHeads_3 rfl (lv_at hl 0 rfl) ?_
  refine lv_bipush (v := 8) hx hb dX11_proveHeads_4 (by decide) ?_
  refine lv_aload_n hx hb dX11_proveHeads_6 rfl (lv_at hl 1 rfl) ?_
  refine va_get (D := (dC, dI)) (ci := 11) (v := .ref qo7) (C := RX11) (T := TX11) (N := 21) hx hb hts uV_k1_X11 hown hK hP 0 rfl rfl 0 (by decide) (hts (.fieldLink RX11 50 "ClassMill$Verifier" "space" "LClassMill$Space;") mw_k1_80) (fun _ h9 => h9) rfl dX11_proveHeads_7 ?_
  refine va_get (D := (dC, dI)) (ci := 7) (v := .int 0) (C := RX7) (T := TX7) (N := 8) hx hb hts uV_k1_X7 hown hK hP 1 rfl rfl 3 (by decide) (hts (.fieldLink RX11 68 "ClassMill$Space" "count" "I") mw_k1_81) (fun _ h9 => h9) rfl dX11_proveHeads_10 ?_
  refine lv_iadd hx hb dX11_proveHeads_13 ?_
  refine lv_topi (fun y_1 ey_1 => ?_)
  obtain rfl : y_1 = 8 := ey_1.trans (by decide)
  refine lv_icmp_ge (tgt := 100) hx hb dX11_proveHeads_14 (by decide) (fun c_2 => ?_) (fun c_2 => (show False by revert c_2; decide).elim)
  refine lv_iconst (v := 0) hx hb dX11_proveHeads_100 (by decide) ?_
  have hP9 := hP.sub (ws' := [(qo8, .inr (11, [.ref qo7, .ref qo43, .int (-1), .int (-1), .int (-1), .ref qo57, .int 0, .int 0, .ref qo58, .ref qo59, .ref qo60, .ref qo61, .ref qo62, .ref qo63, .ref qo64, .ref qo65, .int 0, .int 0, .int 0, .int 0, .int 0])), (qo7, .inr (7, [.ref qo43, .ref qo44, .ref qo45, .int 0, .int 0, .ref qo46, .ref qo47, .ref qo48]))]) [0, 1] rfl
  have hD9 := hD.sub (ws' := [(qo8, .inr (11, [.ref qo7, .ref qo43, .int (-1), .int (-1), .int (-1), .ref qo57, .int 0, .int 0, .ref qo58, .ref qo59, .ref qo60, .ref qo61, .ref qo62, .ref qo63, .ref qo64, .ref qo65, .int 0, .int 0, .int 0, .int 0, .int 0])), (qo7, .inr (7, [.ref qo43, .ref qo44, .ref qo45, .int 0, .int 0, .ref qo46, .ref qo47, .ref qo48]))]) [0, 1] (by decide) rfl
  have hK9 := hK.sub (tys' := []) [] rfl
  exact W.iret hx hb hr (fun t ht hW => ⟨⟨(0), (), rfl, rfl, by rw [ht]; exact hP9, va_K.moved hW.alike hK9, hD9⟩, hS.F ht⟩) hS.2.2 dX11_proveHeads_101
set_option maxHeartbeats 4000000 in
set_option maxRecDepth 100000 in
/-- kk_proveMethods -/
theorem kk_proveMethods (l : Launch) (dC : Nat → ClassId) (dI : Nat → Nat → Nat) (sz : Nat) (qo8 : Nat) (qo7 : Nat) (qo43 : Nat) (qo57 : Nat) (qo58 : Nat) (qo59 : Nat) (qo60 : Nat) (qo61 : Nat) (qo62 : Nat) (qo63 : Nat) (qo64 : Nat) (qo65 : Nat) (qo44 : Nat) (qo45 : Nat) (qo46 : Nat) (qo47 : Nat) (qo48 : Nat)  : Met l yX11_proveMethods (.code yX11_proveMethods cX11_proveMethods 4 (some .int) :: VS_k1) ({ frames := 0, cells := 0, slots := 0, locals := 0 }) (va_Pc [.ref qo8] (fun U => U.heap.size = sz ∧ va_P (dC, dI) vwCl [(qo8, .inr (11, [.ref qo7, .ref qo43, .int (-1), .int (-1), .int (-1), .ref qo57, .int 0, .int 0, .ref qo58, .ref qo59, .ref qo60, .ref qo61, .ref qo62, .ref qo63, .ref qo64, .ref qo65, .int 0, .int 0, .int 0, .int 0, .int 0])), (qo7, .inr (7, [.ref qo43, .ref qo44, .ref qo45, .int 0, .int 0, .ref qo46, .ref qo47, .ref qo48]))] U.heap ∧ va_K (dC, dI) vwCl [] U ∧ va_D (fun _ => True) [(qo8, .inr (11, [.ref qo7, .ref qo43, .int (-1), .int (-1), .int (-1), .ref qo57, .int 0, .int 0, .ref qo58, .ref qo59, .ref qo60, .ref qo61, .ref qo62, .ref qo63, .ref qo64, .ref qo65, .int 0, .int 0, .int 0, .int 0, .int 0])), (qo7, .inr (7, [.ref qo43, .ref qo44, .ref qo45, .int 0, .int 0, .ref qo46, .ref qo47, .ref qo48]))])) (va_Qi (fun (r : Int32) (u : Unit) => match u with | () => r = 0) (fun (u : Unit) (t : State) => match u with | () => va_P (dC, dI) vwCl [(qo8, .inr (11, [.ref qo7, .ref qo43, .int (-1), .int (-1), .int (-1), .ref qo57, .int 0, .int 0, .ref qo58, .ref qo59, .ref qo60, .ref qo61, .ref qo62, .ref qo63, .ref qo64, .ref qo65, .int 0, .int 0, .int 0, .int 0, .int 0])), (qo7, .inr (7, [.ref qo43, .ref qo44, .ref qo45, .int 0, .int 0, .ref qo46, .ref qo47, .ref qo48]))] t.heap ∧ va_K (dC, dI) vwCl [] t ∧ va_D (va_A [(qo8, .inr (11, [.ref qo7, .ref qo43, .int (-1), .int (-1), .int (-1), .ref qo57, .int 0, .int 0, .ref qo58, .ref qo59, .ref qo60, .ref qo61, .ref qo62, .ref qo63, .ref qo64, .ref qo65, .int 0, .int 0, .int 0, .int 0, .int 0])), (qo7, .inr (7, [.ref qo43, .ref qo44, .ref qo45, .int 0, .int 0, .ref qo46, .ref qo47, .ref qo48]))] sz) [(qo8, .inr (11, [.ref qo7, .ref qo43, .int (-1), .int (-1), .int (-1), .ref qo57, .int 0, .int 0, .ref qo58, .ref qo59, .ref qo60, .ref qo61, .ref qo62, .ref qo63, .ref qo64, .ref qo65, .int 0, .int 0, .int 0, .int 0, .int 0])), (qo7, .inr (7, [.ref qo43, .ref qo44, .ref qo45, .int 0, .int 0, .ref qo46, .ref qo47, .ref qo48]))]) (va_A [(qo8, .inr (11, [.ref qo7, .ref qo43, .int (-1), .int (-1), .int (-1), .ref qo57, .int 0, .int 0, .ref qo58, .ref qo59, .ref qo60, .ref qo61, .ref qo62, .ref qo63, .ref qo64, .ref qo65, .int 0, .int 0, .int 0, .int 0, .int 0])), (qo7, .inr (7, [.ref qo43, .ref qo44, .ref qo45, .int 0, .int 0, .ref qo46, .ref qo47, .ref qo48]))] sz)) 0 0 (va_A [(qo8, .inr (11, [.ref qo7, .ref qo43, .int (-1), .int (-1), .int (-1), .ref qo57, .int 0, .int 0, .ref qo58, .ref qo59, .ref qo60, .ref qo61, .ref qo62, .ref qo63, .ref qo64, .ref qo65, .int 0, .int 0, .int 0, .int 0, .int 0])), (qo7, .inr (7, [.ref qo43, .ref qo44, .ref qo45, .int 0, .int 0, .ref qo46, .ref qo47, .ref qo48]))] sz) := by
  refine Met.ofW (cc := cX11_proveMethods) (maxL := 4) (ret := (some .int)) (by decide) rfl ?_
  intro p e s m args below meth c s₁ B hml hv
  obtain ⟨rfl, hsz, hP, hK, hD0⟩ := hv
  have hx := B.exec
  have hb := B.bytes
  have hr := B.returns
  have hts := atoms_spec (ws := (.code yX11_proveMethods cX11_proveMethods 4 (some .int) :: VS_k1)) B.pre
  replace hts := fun w (h : w ∈ VS_k1) => hts w (List.mem_cons_of_mem _ h)
  have hown : s.vm.findClass RX11 = some m.cls := findClass_of_methodNamed B.named
  have hlocks := B.notSynchronized
  subst hsz
  have hD := hD0.self (sz := s.heap.size)
  generalize hAe : va_A [(qo8, .inr (11, [.ref qo7, .ref qo43, .int (-1), .int (-1), .int (-1), .ref qo57, .int 0, .int 0, .ref qo58, .ref qo59, .ref qo60, .ref qo61, .ref qo62, .ref qo63, .ref qo64, .ref qo65, .int 0, .int 0, .int 0, .int 0, .int 0])), (qo7, .inr (7, [.ref qo43, .ref qo44, .ref qo45, .int 0, .int 0, .ref qo46, .ref qo47, .ref qo48]))] s.heap.size = A at hD  ⊢
  have hA : ∀ q : Nat, s.heap.size ≤ q → A q := fun q h => by rw [← hAe]; exact Or.inr h
  have hP : va_P (dC, dI) vwCl [(qo8, .inr (11, [.ref qo7, .ref qo43, .int (-1), .int (-1), .int (-1), .ref qo57, .int 0, .int 0, .ref qo58, .ref qo59, .ref qo60, .ref qo61, .ref qo62, .ref qo63, .ref qo64, .ref qo65, .int 0, .int 0, .int 0, .int 0, .int 0])), (qo7, .inr (7, [.ref qo43, .ref qo44, .ref qo45, .int 0, .int 0, .ref qo46, .ref qo47, .ref qo48]))] s.heap := hP
  have hl := lv_entry ([.ref qo8]) (n := 4) (Nat.le_of_ble_eq_true rfl)
  rw [lg_entry_eq]
  generalize (lg_sl ([.ref qo8]) ++ List.replicate (4 - (lg_sl ([.ref qo8])).length) Slot.unset).toArray = ls at hl ⊢
  have hl : lv_has ls 4 [(0, .ref qo8)] := hl
  obtain ⟨H, hH⟩ : ∃ H : Heap, s.heap = H := ⟨_, rfl⟩
  rw [hH] at hP ⊢
  have hS : va_S A s.heap H [] := by rw [← hH]; exact va_S.rf
  obtain ⟨locs, hlo⟩ : ∃ locs : List Loc, locs = [] := ⟨_, rfl⟩
  rw [← hlo] at hS ⊢
  refine lv_bipush (v := 8) hx hb dX11_proveMethods_0 (by decide) ?_
  refine lv_istore_n (lv' := [(1, .int 8), (0, .ref qo8)]) hx hb dX11_proveMethods_2 rfl hl (by decide) rfl (fun ls hl => ?_)
  refine lv_iload_n hx hb dX11_proveMethods_3 rfl (lv_at hl 0 rfl) ?_
  refine lv_bipush (v := 8) hx hb dX11_proveMethods_4 (by decide) ?_
  refine lv_aload_n hx hb dX11_proveMethods_6 rfl (lv_at hl 1 rfl) ?_
  refine va_get (D := (dC, dI)) (ci := 11) (v := .ref qo7) (C := RX11) (T := TX11) (N := 21) hx hb hts uV_k1_X11 hown hK hP 0 rfl rfl 0 (by decide) (hts (.fieldLink RX11 50 "ClassMill$Verifier" "space" "LClassMill$Space;") mw_k1_80) (fun _ h9 => h9) rfl dX11_proveMethods_7 ?_
  refine va_get (D := (dC, dI)) (ci := 7) (v := .int 0) (C := RX7) (T := TX7) (N := 8) hx hb hts uV_k1_X7 hown hK hP 1 rfl rfl 3 (by decide) (hts (.fieldLink RX11 68 "ClassMill$Space" "count" "I") mw_k1_81) (fun _ h9 => h9) rfl dX11_proveMethods_10 ?_
  refine lv_iadd hx hb dX11_proveMethods_13 ?_
  refine lv_topi (fun y_1 ey_1 => ?_)
  obtain rfl : y_1 = 8 := ey_1.trans (by decide)
  refine lv_icmp_ge (tgt := 147) hx hb dX11_proveMethods_14 (by decide) (fun c_2 => ?_) (fun c_2 => (show False by revert c_2; decide).elim)
  refine lv_iconst (v := 0) hx hb dX11_proveMethods_147 (by decide) ?_
  have hP9 := hP.sub (ws' := [(qo8, .inr (11, [.ref qo7, .ref qo43, .int (-1), .int (-1), .int (-1), .ref qo57, .int 0, .int 0, .ref qo58, .ref qo59, .ref qo60, .ref qo61, .ref qo62, .ref qo63, .ref qo64, .ref qo65, .int 0, .int 0, .int 0, .int 0, .int 0])), (qo7, .inr (7, [.ref qo43, .ref qo44, .ref qo45, .int 0, .int 0, .ref qo46, .ref qo47, .ref qo48]))]) [0, 1] rfl
  have hD9 := hD.sub (ws' := [(qo8, .inr (11, [.ref qo7, .ref qo43, .int (-1), .int (-1), .int (-1), .ref qo57, .int 0, .int 0, .ref qo58, .ref qo59, .ref qo60, .ref qo61, .ref qo62, .ref qo63, .ref qo64, .ref qo65, .int 0, .int 0, .int 0, .int 0, .int 0])), (qo7, .inr (7, [.ref qo43, .ref qo44, .ref qo45, .int 0, .int 0, .ref qo46, .ref qo47, .ref qo48]))]) [0, 1] (by decide) rfl
  have hK9 := hK.sub (tys' := []) [] rfl
  exact W.iret hx hb hr (fun t ht hW => ⟨⟨(0), (), rfl, rfl, by rw [ht]; exact hP9, va_K.moved hW.alike hK9, hD9⟩, hS.F ht⟩) hS.2.2 dX11_proveMethods_148
set_option maxHeartbeats 4000000 in
set_option maxRecDepth 100000 in
/-- kk_SimageOf1 -/
theorem kk_SimageOf1 (l : Launch) (dC : Nat → ClassId) (dI : Nat → Nat → Nat) (sz : Nat) (qo7 : Nat) (a1 : Int32) (qo43 : Nat) (qo44 : Nat) (qo45 : Nat) (qo46 : Nat) (qo47 : Nat) (qo48 : Nat)  : Met l yX7_imageOf (.code yX7_imageOf cX7_imageOf 2 (some (.object "ClassMill$Image")) :: VS_k1) ({ frames := 0, cells := 0, slots := 0, locals := 0 }) (va_Pc [.ref qo7, .int a1] (fun U => U.heap.size = sz ∧ va_P (dC, dI) vwCl [(qo7, .inr (7, [.ref qo43, .ref qo44, .ref qo45, .int 0, .int 1, .ref qo46, .ref qo47, .ref qo48]))] U.heap ∧ va_K (dC, dI) vwCl [] U ∧ va_D (fun _ => True) [(qo7, .inr (7, [.ref qo43, .ref qo44, .ref qo45, .int 0, .int 1, .ref qo46, .ref qo47, .ref qo48]))])) (va_Qq (fun (r : Option Nat) (u : Unit) => match u with | () => r = none) (fun (u : Unit) (t : State) => match u with | () => va_P (dC, dI) vwCl [(qo7, .inr (7, [.ref qo43, .ref qo44, .ref qo45, .int 0, .int 1, .ref qo46, .ref qo47, .ref qo48]))] t.heap ∧ va_K (dC, dI) vwCl [] t ∧ va_D (va_A [(qo7, .inr (7, [.ref qo43, .ref qo44, .ref qo45, .int 0, .int 1, .ref qo46, .ref qo47, .ref qo48]))] sz) [(qo7, .inr (7, [.ref qo43, .ref qo44, .ref qo45, .int 0, .int 1, .ref qo46, .ref qo47, .ref qo48]))]) (va_A [(qo7, .inr (7, [.ref qo43, .ref qo44, .ref qo45, .int 0, .int 1, .ref qo46, .ref qo47, .ref qo48]))] sz)) 0 0 (va_A [(qo7, .inr (7, [.ref qo43, .ref qo44, .ref qo45, .int 0, .int 1, .ref qo46, .ref qo47, .ref qo48]))] sz) := by
  refine Met.ofW (cc := cX7_imageOf) (maxL := 2) (ret := (some (.object "ClassMill$Image"))) (by decide) rfl ?_
  intro p e s m args below meth c s₁ B hml hv
  obtain ⟨rfl, hsz, hP, hK, hD0⟩ := hv
  have hx := B.exec
  have hb := B.bytes
  have hr := B.returns
  have hts := atoms_spec (ws := (.code yX7_imageOf cX7_imageOf 2 (some (.object "ClassMill$Image")) :: VS_k1)) B.pre
  replace hts := fun w (h : w ∈ VS_k1) => hts w (List.mem_cons_of_mem _ h)
  have hown : s.vm.findClass RX7 = some m.cls := findClass_of_methodNamed B.named
  have hlocks := B.notSynchronized
  subst hsz
  have hD := hD0.self (sz := s.heap.size)
  generalize hAe : va_A [(qo7, .inr (7, [.ref qo43, .ref qo44, .ref qo45, .int 0, .int 1, .ref qo46, .ref qo47, .ref qo48]))] s.heap.size = A at hD  ⊢
  have hA : ∀ q : Nat, s.heap.size ≤ q → A q := fun q h => by rw [← hAe]; exact Or.inr h
  have hP : va_P (dC, dI) vwCl [(qo7, .inr (7, [.ref qo43, .ref qo44, .ref qo45, .int 0, .int 1, .ref qo46, .ref qo47, .ref qo48]))] s.heap := hP
  have hl := lv_entry ([.ref qo7, .int a1]) (n := 2) (Nat.le_of_ble_eq_true rfl)
  rw [lg_entry_eq]
  generalize (lg_sl ([.ref qo7, .int a1]) ++ List.replicate (2 - (lg_sl ([.ref qo7, .int a1])).length) Slot.unset).toArray = ls at hl ⊢
  have hl : lv_has ls 2 [(0, .ref qo7), (1, .int a1)] := hl
  obtain ⟨H, hH⟩ : ∃ H : Heap, s.heap = H := ⟨_, rfl⟩
  rw [hH] at hP ⊢
  have hS : va_S A s.heap H [] := by rw [← hH]; exact va_S.rf
  obtain ⟨locs, hlo⟩ : ∃ locs : List Loc, locs = [] := ⟨_, rfl⟩
  rw [← hlo] at hS ⊢
  refine lv_iload_n hx hb dX7_imageOf_0 rfl (lv_at hl 1 rfl) ?_
  refine lv_bipush (v := 8) hx hb dX7_imageOf_1 (by decide) ?_
  refine lv_icmp_lt (tgt := 29) hx hb dX7_imageOf_3 (by decide) (fun c_1 => ?_) (fun c_1 => ?_)
  · have c_1_ := c_1
    refine lv_null hx hb dX7_imageOf_29 ?_
    have hP9 := hP.sub (ws' := [(qo7, .inr (7, [.ref qo43, .ref qo44, .ref qo45, .int 0, .int 1, .ref qo46, .ref qo47, .ref qo48]))]) [0] rfl
    have hD9 := hD.sub (ws' := [(qo7, .inr (7, [.ref qo43, .ref qo44, .ref qo45, .int 0, .int 1, .ref qo46, .ref qo47, .ref qo48]))]) [0] (by decide) rfl
    have hK9 := hK.sub (tys' := []) [] rfl
    exact W.aret hx hb hr (Or.inl ⟨_, rfl⟩) (Or.inl rfl) (fun t ht hW => ⟨⟨none, (), rfl, rfl, by rw [ht]; exact hP9, va_K.moved hW.alike hK9, hD9⟩, hS.F ht⟩) hS.2.2 dX7_imageOf_30
  · have c_1_ := c_1
    refine lv_iload_n hx hb dX7_imageOf_6 rfl (lv_at hl 1 rfl) ?_
    refine lv_bipush (v := 8) hx hb dX7_imageOf_7 (by decide) ?_
    refine lv_aload_n hx hb dX7_imageOf_9 rfl (lv_at hl 0 rfl) ?_
    refine va_get (D := (dC, dI)) (ci := 7) (v := .int 0) (C := RX7) (T := TX7) (N := 8) hx hb hts uV_k1_X7 hown hK hP 0 rfl rfl 3 (by decide) (hts (.fieldLink RX7 41 "ClassMill$Space" "count" "I") mw_k1_14) (fun _ h9 => h9) rfl dX7_imageOf_10 ?_
    refine lv_iadd hx hb dX7_imageOf_13 ?_
    refine lv_topi (fun y_2 ey_2 => ?_)
    obtain rfl : y_2 = 8 := ey_2.trans (by decide)
    refine lv_icmp_ge (tgt := 29) hx hb dX7_imageOf_14 (by decide) (fun c_3 => ?_) (fun c_3 => ?_)
    · have c_3_ := c_3
      refine lv_null hx hb dX7_imageOf_29 ?_
      have hP9 := hP.sub (ws' := [(qo7, .inr (7, [.ref qo43, .ref qo44, .ref qo45, .int 0, .int 1, .ref qo46, .ref qo47, .ref qo48]))]) [0] rfl
      have hD9 := hD.sub (ws' := [(qo7, .inr (7, [.ref qo43, .ref qo44, .ref qo45, .int 0, .int 1, .ref qo46, .ref qo47, .ref qo48]))]) [0] (by decide) rfl
      have hK9 := hK.sub (tys' := []) [] rfl
      exact W.aret hx hb hr (Or.inl ⟨_, rfl⟩) (Or.inl rfl) (fun t ht hW => ⟨⟨none, (), rfl, rfl, by rw [ht]; exact hP9, va_K.moved hW.alike hK9, hD9⟩, hS.F ht⟩) hS.2.2 dX7_imageOf_30
    · have c_3_ := c_3
      refine lv_aload_n hx hb dX7_imageOf_17 rfl (lv_at hl 0 rfl) ?_
      exact absurd (Int32.not_lt.mp c_1) c_3
set_option maxHeartbeats 4000000 in
set_option maxRecDepth 100000 in
/-- kk_cellsAbove -/
theorem kk_cellsAbove (l : Launch) (dC : Nat → ClassId) (dI : Nat → Nat → Nat) (sz : Nat) (qo7 : Nat) (a1 : Int32) (qo43 : Nat) (qo44 : Nat) (qo45 : Nat) (qo46 : Nat) (qo47 : Nat) (qo48 : Nat)  : Met l yX7_cellsAbove (.code yX7_cellsAbove cX7_cellsAbove 6 (some .int) :: VS_k1) ({ frames := 1, cells := 0, slots := 0, locals := 21 }) (va_Pc [.ref qo7, .int a1] (fun U => U.heap.size = sz ∧ va_P (dC, dI) vwCl [(qo7, .inr (7, [.ref qo43, .ref qo44, .ref qo45, .int 0, .int 1, .ref qo46, .ref qo47, .ref qo48]))] U.heap ∧ va_K (dC, dI) vwCl [] U ∧ va_D (fun _ => True) [(qo7, .inr (7, [.ref qo43, .ref qo44, .ref qo45, .int 0, .int 1, .ref qo46, .ref qo47, .ref qo48]))])) (va_Qi (fun (r : Int32) (u : Unit) => match u with | () => r = 0) (fun (u : Unit) (t : State) => match u with | () => va_P (dC, dI) vwCl [(qo7, .inr (7, [.ref qo43, .ref qo44, .ref qo45, .int 0, .int 1, .ref qo46, .ref qo47, .ref qo48]))] t.heap ∧ va_K (dC, dI) vwCl [] t ∧ va_D (va_A [(qo7, .inr (7, [.ref qo43, .ref qo44, .ref qo45, .int 0, .int 1, .ref qo46, .ref qo47, .ref qo48]))] sz) [(qo7, .inr (7, [.ref qo43, .ref qo44, .ref qo45, .int 0, .int 1, .ref qo46, .ref qo47, .ref qo48]))]) (va_A [(qo7, .inr (7, [.ref qo43, .ref qo44, .ref qo45, .int 0, .int 1, .ref qo46, .ref qo47, .ref qo48]))] sz)) 0 0 (va_A [(qo7, .inr (7, [.ref qo43, .ref qo44, .ref qo45, .int 0, .int 1, .ref qo46, .ref qo47, .ref qo48]))] sz) := by
  refine Met.ofW (cc := cX7_cellsAbove) (maxL := 6) (ret := (some .int)) (by decide) rfl ?_
  intro p e s m args below meth c s₁ B hml hv
  obtain ⟨rfl, hsz, hP, hK, hD0⟩ := hv
  have hx := B.exec
  have hb := B.bytes
  have hr := B.returns
  have hts := atoms_spec (ws := (.code yX7_cellsAbove cX7_cellsAbove 6 (some .int) :: VS_k1)) B.pre
  replace hts := fun w (h : w ∈ VS_k1) => hts w (List.mem_cons_of_mem _ h)
  have hown : s.vm.findClass RX7 = some m.cls := findClass_of_methodNamed B.named
  have hlocks := B.notSynchronized
  subst hsz
  have hD := hD0.self (sz := s.heap.size)
  generalize hAe : va_A [(qo7, .inr (7, [.ref qo43, .ref qo44, .ref qo45, .int 0, .int 1, .ref qo46, .ref qo47, .ref qo48]))] s.heap.size = A at hD  ⊢
  have hA : ∀ q : Nat, s.heap.size ≤ q → A q := fun q h => by rw [← hAe]; exact Or.inr h
  have hP : va_P (dC, dI) vwCl [(qo7, .inr (7, [.ref qo43, .ref qo44, .ref qo45, .int 0, .int 1, .ref qo46, .ref qo47, .ref qo48]))] s.heap := hP
  have hl := lv_entry ([.ref qo7, .int a1]) (n := 6) (Nat.le_of_ble_eq_true rfl)
  rw [lg_entry_eq]
  generalize (lg_sl ([.ref qo7, .int a1]) ++ List.replicate (6 - (lg_sl ([.ref qo7, .int a1])).length) Slot.unset).toArray = ls at hl ⊢
  have hl : lv_has ls 6 [(0, .ref qo7), (1, .int a1)] := hl
  obtain ⟨H, hH⟩ : ∃ H : Heap, s.heap = H := ⟨_, rfl⟩
  rw [hH] at hP ⊢
  have hS : va_S A s.heap H [] := by rw [← hH]; exact va_S.rf
  obtain ⟨locs, hlo⟩ : ∃ locs : List Loc, locs = [] := ⟨_, rfl⟩
  rw [← hlo] at hS ⊢
  refine lv_iconst (v := 0) hx hb dX7_cellsAbove_0 (by decide) ?_
  refine lv_istore_n (lv' := [(2, .int 0), (0, .ref qo7), (1, .int a1)]) hx hb dX7_cellsAbove_1 rfl hl (by decide) rfl (fun ls hl => ?_)
  refine lv_iload_n hx hb dX7_cellsAbove_2 rfl (lv_at hl 2 rfl) ?_
  refine lv_istore_n (lv' := [(3, .int a1), (2, .int 0), (0, .ref qo7), (1, .int a1)]) hx hb dX7_cellsAbove_3 rfl hl (by decide) rfl (fun ls hl => ?_)
  refine lv_iconst (v := 0) hx hb dX7_cellsAbove_4 (by decide) ?_
  refine lv_istore (lv' := [(4, .int 0), (3, .int a1), (2, .int 0), (0, .ref qo7), (1, .int a1)]) hx hb dX7_cellsAbove_5 hl (by decide) rfl (fun ls hl => ?_)
  refine lv_iload hx hb dX7_cellsAbove_7 (lv_at hl 0 rfl) ?_
  refine lv_bipush (v := 16) hx hb dX7_cellsAbove_9 (by decide) ?_
  refine lv_icmp_ge (tgt := 51) hx hb dX7_cellsAbove_11 (by decide) (fun c_1 => (show False by revert c_1; decide).elim) (fun c_1 => ?_)
  refine lv_aload_n hx hb dX7_cellsAbove_14 rfl (lv_at hl 3 rfl) ?_
  refine lv_iload_n hx hb dX7_cellsAbove_15 rfl (lv_at hl 1 rfl) ?_
  have hPc := hP.sub (ws' := [(qo7, .inr (7, [.ref qo43, .ref qo44, .ref qo45, .int 0, .int 1, .ref qo46, .ref qo47, .ref qo48]))]) [0] rfl
  have hDc := hD.sub (ws' := [(qo7, .inr (7, [.ref qo43, .ref qo44, .ref qo45, .int 0, .int 1, .ref qo46, .ref qo47, .ref qo48]))]) [0] (by decide) rfl
  have hKc := hK.sub (tys' := []) [] rfl
  have hFc := va_free (wc := [(qo7, .inr (7, [.ref qo43, .ref qo44, .ref qo45, .int 0, .int 1, .ref qo46, .ref qo47, .ref qo48]))]) hD hS hA [0] rfl
  refine va_callq (va_runV (As := [.int a1]) (rest := []) ⟨hx, hb, hml, hown, hts⟩ (kk_SimageOf1 l dC dI H.size qo7 a1 qo43 qo44 qo45 qo46 qo47 qo48) (cwV 1 hts gv_k1_18 rfl rfl rfl (by decide +kernel) ⟨Nat.le_of_ble_eq_true rfl, Nat.le_of_ble_eq_true rfl⟩) ⟨fun a U g mk q => by obtain ⟨q0, q1, qP, qK, qD⟩ := q; exact ⟨q0, q1, qP, va_K.moved (u := U) (U := U.calling g mk a) (Vm.Alike.refl U.vm) qK, qD⟩, va_recv hKc hPc (ci := 7) (q0 := 0) rfl rfl, fun U hU hW => ⟨rfl, by rw [hU], by rw [hU]; exact hPc, va_K.moved hW.alike hKc, hDc.weaken (fun _ _ _ _ => trivial)⟩⟩ rfl rfl hl.1 rfl (lv_room (Nat.le_of_ble_eq_true rfl)) dX7_cellsAbove_16 ⟨Nat.le_of_ble_eq_true rfl, Nat.le_of_ble_eq_true rfl⟩) hS (fun q _ h => hFc q h) hFc ?_
  clear hS
  intro r_2 u t H1 locs ht hvm hw hB hz1 hk1 hS
  obtain ⟨⟩ := u
  obtain ⟨hP1, hK1, hD1⟩ := hB
  rw [ht] at hP1
  have hK1 := va_K.moved hvm.symm hK1
  try dsimp only at hw
  have hPD := va_join (wr := []) (w1 := [(qo7, .inr (7, [.ref qo43, .ref qo44, .ref qo45, .int 0, .int 1, .ref qo46, .ref qo47, .ref qo48]))]) hP hD [0] [] rfl rfl (by decide) (by decide) hk1 hFc hP1 hD1
  clear hP hD
  obtain ⟨hP, hD⟩ := hPD
  replace hK := (hK.sub (tys' := []) [] rfl).app hK1
  clear hPc hDc hKc hFc hP1 hK1 hD1 hz1 hk1 ht hvm
  generalize H1 = H at hP hS ⊢
  replace hP : va_P (dC, dI) vwCl [(qo7, .inr (7, [.ref qo43, .ref qo44, .ref qo45, .int 0, .int 1, .ref qo46, .ref qo47, .ref qo48]))] H := hP
  replace hD : va_D A [(qo7, .inr (7, [.ref qo43, .ref qo44, .ref qo45, .int 0, .int 1, .ref qo46, .ref qo47, .ref qo48]))] := hD
  replace hK : va_K (dC, dI) vwCl [] s := hK
  subst hw
  refine W.eq (g2 := F0 m 19 ls [.null]) rfl ?_
  refine lv_astoreN (lv' := [(5, .null), (4, .int 0), (3, .int a1), (2, .int 0), (0, .ref qo7), (1, .int a1)]) hx hb dX7_cellsAbove_19 hl (by decide) rfl (fun ls hl => ?_)
  refine lv_aloadN hx hb dX7_cellsAbove_21 (lv_at hl 0 rfl) ?_
  refine lv_ifnonnullN hx hb dX7_cellsAbove_23 ?_
  refine lv_iload_n hx hb dX7_cellsAbove_26 rfl (lv_at hl 3 rfl) ?_
  have hP9 := hP.sub (ws' := [(qo7, .inr (7, [.ref qo43, .ref qo44, .ref qo45, .int 0, .int 1, .ref qo46, .ref qo47, .ref qo48]))]) [0] rfl
  have hD9 := hD.sub (ws' := [(qo7, .inr (7, [.ref qo43, .ref qo44, .ref qo45, .int 0, .int 1, .ref qo46, .ref qo47, .ref qo48]))]) [0] (by decide) rfl
  have hK9 := hK.sub (tys' := []) [] rfl
  exact W.iret hx hb hr (fun t ht hW => ⟨⟨(0), (), rfl, rfl, by rw [ht]; exact hP9, va_K.moved hW.alike hK9, hD9⟩, hS.F ht⟩) hS.2.2 dX7_cellsAbove_27
set_option maxHeartbeats 4000000 in
set_option maxRecDepth 100000 in
/-- kk_linkAll -/
theorem kk_linkAll (l : Launch) (dC : Nat → ClassId) (dI : Nat → Nat → Nat) (sz : Nat) (qo7 : Nat) (qo43 : Nat) (qo44 : Nat) (qo45 : Nat) (qo46 : Nat) (qo47 : Nat) (qo48 : Nat) (co16 : ClassId)  : Met l yX7_linkAll (.code yX7_linkAll cX7_linkAll 3 none :: VS_k1) ({ frames := 2, cells := 0, slots := 0, locals := 46 }) (va_Pc [.ref qo7] (fun U => U.heap.size = sz ∧ va_P (dC, dI) vwCl [(qo7, .inr (7, [.ref qo43, .ref qo44, .ref qo45, .int 0, .int 1, .ref qo46, .ref qo47, .ref qo48])), (qo47, .inl (co16, 16, .inl (fun _ => 0)))] U.heap ∧ va_K (dC, dI) vwCl [(co16, .int)] U ∧ va_D (fun _ => True) [(qo7, .inr (7, [.ref qo43, .ref qo44, .ref qo45, .int 0, .int 1, .ref qo46, .ref qo47, .ref qo48])), (qo47, .inl (co16, 16, .inl (fun _ => 0)))])) (va_Qv (fun (u : Unit) => match u with | () => True) (fun (u : Unit) (t : State) => match u with | () => va_P (dC, dI) vwCl [(qo7, .inr (7, [.ref qo43, .ref qo44, .ref qo45, .int 0, .int 1, .ref qo46, .ref qo47, .ref qo48]))] t.heap ∧ va_K (dC, dI) vwCl [] t ∧ va_D (va_A [(qo7, .inr (7, [.ref qo43, .ref qo44, .ref qo45, .int 0, .int 1, .ref qo46, .ref qo47, .ref qo48])), (qo47, .inl (co16, 16, .inl (fun _ => 0)))] sz) [(qo7, .inr (7, [.ref qo43, .ref qo44, .ref qo45, .int 0, .int 1, .ref qo46, .ref qo47, .ref qo48]))]) (va_A [(qo7, .inr (7, [.ref qo43, .ref qo44, .ref qo45, .int 0, .int 1, .ref qo46, .ref qo47, .ref qo48])), (qo47, .inl (co16, 16, .inl (fun _ => 0)))] sz)) 0 0 (va_A [(qo7, .inr (7, [.ref qo43, .ref qo44, .ref qo45, .int 0, .int 1, .ref qo46, .ref qo47, .ref qo48])), (qo47, .inl (co16, 16, .inl (fun _ => 0)))] sz) := by
  refine Met.ofW (cc := cX7_linkAll) (maxL := 3) (ret := none) (by decide) rfl ?_
  intro p e s m args below meth c s₁ B hml hv
  obtain ⟨rfl, hsz, hP, hK, hD0⟩ := hv
  have hx := B.exec
  have hb := B.bytes
  have hr := B.returns
  have hts := atoms_spec (ws := (.code yX7_linkAll cX7_linkAll 3 none :: VS_k1)) B.pre
  replace hts := fun w (h : w ∈ VS_k1) => hts w (List.mem_cons_of_mem _ h)
  have hown : s.vm.findClass RX7 = some m.cls := findClass_of_methodNamed B.named
  have hlocks := B.notSynchronized
  subst hsz
  have hD := hD0.self (sz := s.heap.size)
  generalize hAe : va_A [(qo7, .inr (7, [.ref qo43, .ref qo44, .ref qo45, .int 0, .int 1, .ref qo46, .ref qo47, .ref qo48])), (qo47, .inl (co16, 16, .inl (fun _ => 0)))] s.heap.size = A at hD  ⊢
  have hA : ∀ q : Nat, s.heap.size ≤ q → A q := fun q h => by rw [← hAe]; exact Or.inr h
  have hP : va_P (dC, dI) vwCl [(qo7, .inr (7, [.ref qo43, .ref qo44, .ref qo45, .int 0, .int 1, .ref qo46, .ref qo47, .ref qo48])), (qo47, .inl (co16, 16, .inl (fun _ => 0)))] s.heap := hP
  have hl := lv_entry ([.ref qo7]) (n := 3) (Nat.le_of_ble_eq_true rfl)
  rw [lg_entry_eq]
  generalize (lg_sl ([.ref qo7]) ++ List.replicate (3 - (lg_sl ([.ref qo7])).length) Slot.unset).toArray = ls at hl ⊢
  have hl : lv_has ls 3 [(0, .ref qo7)] := hl
  obtain ⟨H, hH⟩ : ∃ H : Heap, s.heap = H := ⟨_, rfl⟩
  rw [hH] at hP ⊢
  have hS : va_S A s.heap H [] := by rw [← hH]; exact va_S.rf
  obtain ⟨locs, hlo⟩ : ∃ locs : List Loc, locs = [] := ⟨_, rfl⟩
  rw [← hlo] at hS ⊢
  refine lv_iconst (v := 0) hx hb dX7_linkAll_0 (by decide) ?_
  refine lv_istore_n (lv' := [(1, .int 0), (0, .ref qo7)]) hx hb dX7_linkAll_1 rfl hl (by decide) rfl (fun ls hl => ?_)
  refine lv_iload_n hx hb dX7_linkAll_2 rfl (lv_at hl 0 rfl) ?_
  refine lv_bipush (v := 8) hx hb dX7_linkAll_3 (by decide) ?_
  refine lv_aload_n hx hb dX7_linkAll_5 rfl (lv_at hl 1 rfl) ?_
  refine va_get (D := (dC, dI)) (ci := 7) (v := .int 0) (C := RX7) (T := TX7) (N := 8) hx hb hts uV_k1_X7 hown hK hP 0 rfl rfl 3 (by decide) (hts (.fieldLink RX7 41 "ClassMill$Space" "count" "I") mw_k1_14) (fun _ h9 => h9) rfl dX7_linkAll_6 ?_
  refine lv_iadd hx hb dX7_linkAll_9 ?_
  refine lv_topi (fun y_1 ey_1 => ?_)
  obtain rfl : y_1 = 8 := ey_1.trans (by decide)
  refine lv_icmp_ge (tgt := 30) hx hb dX7_linkAll_10 (by decide) (fun c_2 => (show False by revert c_2; decide).elim) (fun c_2 => ?_)
  refine lv_aload_n hx hb dX7_linkAll_13 rfl (lv_at hl 1 rfl) ?_
  refine va_get (D := (dC, dI)) (ci := 7) (v := .ref qo47) (C := RX7) (T := TX7) (N := 8) hx hb hts uV_k1_X7 hown hK hP 0 rfl rfl 6 (by decide) (hts (.fieldLink RX7 35 "ClassMill$Space" "cells" "[I") mw_k1_86) (fun _ h9 => h9) rfl dX7_linkAll_14 ?_
  refine lv_iload_n hx hb dX7_linkAll_17 rfl (lv_at hl 0 rfl) ?_
  refine lv_aload_n hx hb dX7_linkAll_18 rfl (lv_at hl 1 rfl) ?_
  refine lv_iload_n hx hb dX7_linkAll_19 rfl (lv_at hl 0 rfl) ?_
  have hPc := hP.sub (ws' := [(qo7, .inr (7, [.ref qo43, .ref qo44, .ref qo45, .int 0, .int 1, .ref qo46, .ref qo47, .ref qo48]))]) [0] rfl
  have hDc := hD.sub (ws' := [(qo7, .inr (7, [.ref qo43, .ref qo44, .ref qo45, .int 0, .int 1, .ref qo46, .ref qo47, .ref qo48]))]) [0] (by decide) rfl
  have hKc := hK.sub (tys' := []) [] rfl
  have hFc := va_free (wc := [(qo7, .inr (7, [.ref qo43, .ref qo44, .ref qo45, .int 0, .int 1, .ref qo46, .ref qo47, .ref qo48]))]) hD hS hA [0] rfl
  refine va_calli (va_runV (As := [.int 0]) (rest := [.int 0, .ref qo47]) ⟨hx, hb, hml, hown, hts⟩ (kk_cellsAbove l dC dI H.size qo7 0 qo43 qo44 qo45 qo46 qo47 qo48) (cwV 1 hts gv_k1_19 rfl rfl rfl (by decide +kernel) ⟨Nat.le_of_ble_eq_true rfl, Nat.le_of_ble_eq_true rfl⟩) ⟨fun a U g mk q => by obtain ⟨q0, q1, qP, qK, qD⟩ := q; exact ⟨q0, q1, qP, va_K.moved (u := U) (U := U.calling g mk a) (Vm.Alike.refl U.vm) qK, qD⟩, va_recv hKc hPc (ci := 7) (q0 := 0) rfl rfl, fun U hU hW => ⟨rfl, by rw [hU], by rw [hU]; exact hPc, va_K.moved hW.alike hKc, hDc.weaken (fun _ _ _ _ => trivial)⟩⟩ rfl rfl hl.1 rfl (lv_room (Nat.le_of_ble_eq_true rfl)) dX7_linkAll_20 ⟨Nat.le_of_ble_eq_true rfl, Nat.le_of_ble_eq_true rfl⟩) hS (fun q _ h => hFc q h) hFc ?_
  clear hS
  intro r_3 u t H1 locs ht hvm hw hB hz1 hk1 hS
  obtain ⟨⟩ := u
  obtain ⟨hP1, hK1, hD1⟩ := hB
  rw [ht] at hP1
  have hK1 := va_K.moved hvm.symm hK1
  try dsimp only at hw
  have hPD := va_join (wr := [(qo47, .inl (co16, 16, .inl (fun _ => 0)))]) (w1 := [(qo7, .inr (7, [.ref qo43, .ref qo44, .ref qo45, .int 0, .int 1, .ref qo46, .ref qo47, .ref qo48]))]) hP hD [0] [1] rfl rfl (by decide) (by decide) hk1 hFc hP1 hD1
  clear hP hD
  obtain ⟨hP, hD⟩ := hPD
  replace hK := (hK.sub (tys' := [(co16, .int)]) [0] rfl).app hK1
  clear hPc hDc hKc hFc hP1 hK1 hD1 hz1 hk1 ht hvm
  generalize H1 = H at hP hS ⊢
  replace hP : va_P (dC, dI) vwCl [(qo47, .inl (co16, 16, .inl (fun _ => 0))), (qo7, .inr (7, [.ref qo43, .ref qo44, .ref qo45, .int 0, .int 1, .ref qo46, .ref qo47, .ref qo48]))] H := hP
  replace hD : va_D A [(qo47, .inl (co16, 16, .inl (fun _ => 0))), (qo7, .inr (7, [.ref qo43, .ref qo44, .ref qo45, .int 0, .int 1, .ref qo46, .ref qo47, .ref qo48]))] := hD
  replace hK : va_K (dC, dI) vwCl [(co16, .int)] s := hK
  subst hw
  refine va_iast hx hb hK hP hD hS 0 0 rfl rfl (i := 0) (x := 0) (by unfold vp_in; decide) dX7_linkAll_23 ?_
  clear hP hD hS
  intro H locs hP hD hS
  obtain ⟨f_4, ef_4⟩ : ∃ zf : Nat → Int32, zf = upd (fun _ => 0) (0 : Int32).toNatClampNeg 0 := ⟨_, rfl⟩
  rw [← ef_4] at hP hD
  replace hP : va_P (dC, dI) vwCl [(qo47, .inl (co16, 16, .inl f_4)), (qo7, .inr (7, [.ref qo43, .ref qo44, .ref qo45, .int 0, .int 1, .ref qo46, .ref qo47, .ref qo48]))] H := hP
  replace hD : va_D A [(qo47, .inl (co16, 16, .inl f_4)), (qo7, .inr (7, [.ref qo43, .ref qo44, .ref qo45, .int 0, .int 1, .ref qo46, .ref qo47, .ref qo48]))] := hD
  refine lv_iinc (v := 1) (lv' := [(1, .int 1), (0, .ref qo7)]) hx hb dX7_linkAll_24 hl (k := 0) rfl (by decide) (by decide) rfl (fun ls hl => ?_)
  refine lv_goto (tgt := 2) hx hb dX7_linkAll_27 (by decide) ?_
  refine lv_iload_n hx hb dX7_linkAll_2 rfl (lv_at hl 0 rfl) ?_
  refine lv_bipush (v := 8) hx hb dX7_linkAll_3 (by decide) ?_
  refine lv_aload_n hx hb dX7_linkAll_5 rfl (lv_at hl 1 rfl) ?_
  refine va_get (D := (dC, dI)) (ci := 7) (v := .int 0) (C := RX7) (T := TX7) (N := 8) hx hb hts uV_k1_X7 hown hK hP 1 rfl rfl 3 (by decide) (hts (.fieldLink RX7 41 "ClassMill$Space" "count" "I") mw_k1_14) (fun _ h9 => h9) rfl dX7_linkAll_6 ?_
  refine lv_iadd hx hb dX7_linkAll_9 ?_
  refine lv_topi (fun y_5 ey_5 => ?_)
  obtain rfl : y_5 = 8 := ey_5.trans (by decide)
  refine lv_icmp_ge (tgt := 30) hx hb dX7_linkAll_10 (by decide) (fun c_6 => (show False by revert c_6; decide).elim) (fun c_6 => ?_)
  refine lv_aload_n hx hb dX7_linkAll_13 rfl (lv_at hl 1 rfl) ?_
  refine va_get (D := (dC, dI)) (ci := 7) (v := .ref qo47) (C := RX7) (T := TX7) (N := 8) hx hb hts uV_k1_X7 hown hK hP 1 rfl rfl 6 (by decide) (hts (.fieldLink RX7 35 "ClassMill$Space" "cells" "[I") mw_k1_86) (fun _ h9 => h9) rfl dX7_linkAll_14 ?_
  refine lv_iload_n hx hb dX7_linkAll_17 rfl (lv_at hl 0 rfl) ?_
  refine lv_aload_n hx hb dX7_linkAll_18 rfl (lv_at hl 1 rfl) ?_
  refine lv_iload_n hx hb dX7_linkAll_19 rfl (lv_at hl 0 rfl) ?_
  have hPc := hP.sub (ws' := [(qo7, .inr (7, [.ref qo43, .ref qo44, .ref qo45, .int 0, .int 1, .ref qo46, .ref qo47, .ref qo48]))]) [1] rfl
  have hDc := hD.sub (ws' := [(qo7, .inr (7, [.ref qo43, .ref qo44, .ref qo45, .int 0, .int 1, .ref qo46, .ref qo47, .ref qo48]))]) [1] (by decide) rfl
  have hKc := hK.sub (tys' := []) [] rfl
  have hFc := va_free (wc := [(qo7, .inr (7, [.ref qo43, .ref qo44, .ref qo45, .int 0, .int 1, .ref qo46, .ref qo47, .ref qo48]))]) hD hS hA [1] rfl
  refine va_calli (va_runV (As := [.int 1]) (rest := [.int 1, .ref qo47]) ⟨hx, hb, hml, hown, hts⟩ (kk_cellsAbove l dC dI H.size qo7 1 qo43 qo44 qo45 qo46 qo47 qo48) (cwV 1 hts gv_k1_19 rfl rfl rfl (by decide +kernel) ⟨Nat.le_of_ble_eq_true rfl, Nat.le_of_ble_eq_true rfl⟩) ⟨fun a U g mk q => by obtain ⟨q0, q1, qP, qK, qD⟩ := q; exact ⟨q0, q1, qP, va_K.moved (u := U) (U := U.calling g mk a) (Vm.Alike.refl U.vm) qK, qD⟩, va_recv hKc hPc (ci := 7) (q0 := 0) rfl rfl, fun U hU hW => ⟨rfl, by rw [hU], by rw [hU]; exact hPc, va_K.moved hW.alike hKc, hDc.weaken (fun _ _ _ _ => trivial)⟩⟩ rfl rfl hl.1 rfl (lv_room (Nat.le_of_ble_eq_true rfl)) dX7_linkAll_20 ⟨Nat.le_of_ble_eq_true rfl, Nat.le_of_ble_eq_true rfl⟩) hS (fun q _ h => hFc q h) hFc ?_
  clear hS
  intro r_7 u t H1 locs ht hvm hw hB hz1 hk1 hS
  obtain ⟨⟩ := u
  obtain ⟨hP1, hK1, hD1⟩ := hB
  rw [ht] at hP1
  have hK1 := va_K.moved hvm.symm hK1
  try dsimp only at hw
  have hPD := va_join (wr := [(qo47, .inl (co16, 16, .inl f_4))]) (w1 := [(qo7, .inr (7, [.ref qo43, .ref qo44, .ref qo45, .int 0, .int 1, .ref qo46, .ref qo47, .ref qo48]))]) hP hD [1] [0] rfl rfl (by decide) (by decide) hk1 hFc hP1 hD1
  clear hP hD
  obtain ⟨hP, hD⟩ := hPD
  replace hK := (hK.sub (tys' := [(co16, .int)]) [0] rfl).app hK1
  clear hPc hDc hKc hFc hP1 hK1 hD1 hz1 hk1 ht hvm
  generalize H1 = H at hP hS ⊢
  replace hP : va_P (dC, dI) vwCl [(qo47, .inl (co16, 16, .inl f_4)), (qo7, .inr (7, [.ref qo43, .ref qo44, .ref qo45, .int 0, .int 1, .ref qo46, .ref qo47, .ref qo48]))] H := hP
  replace hD : va_D A [(qo47, .inl (co16, 16, .inl f_4)), (qo7, .inr (7, [.ref qo43, .ref qo44, .ref qo45, .int 0, .int 1, .ref qo46, .ref qo47, .ref qo48]))] := hD
  replace hK : va_K (dC, dI) vwCl [(co16, .int)] s := hK
  subst hw
  refine va_iast hx hb hK hP hD hS 0 0 rfl rfl (i := 1) (x := 0) (by unfold vp_in; decide) dX7_linkAll_23 ?_
  clear hP hD hS
  intro H locs hP hD hS
  obtain ⟨f_8, ef_8⟩ : ∃ zf : Nat → Int32, zf = upd f_4 (1 : Int32).toNatClampNeg 0 := ⟨_, rfl⟩
  rw [← ef_8] at hP hD
  replace hP : va_P (dC, dI) vwCl [(qo47, .inl (co16, 16, .inl f_8)), (qo7, .inr (7, [.ref qo43, .ref qo44, .ref qo45, .int 0, .int 1, .ref qo46, .ref qo47, .ref qo48]))] H := hP
  replace hD : va_D A [(qo47, .inl (co16, 16, .inl f_8)), (qo7, .inr (7, [.ref qo43, .ref qo44, .ref qo45, .int 0, .int 1, .ref qo46, .ref qo47, .ref qo48]))] := hD
  refine lv_iinc (v := 2) (lv' := [(1, .int 2), (0, .ref qo7)]) hx hb dX7_linkAll_24 hl (k := 0) rfl (by decide) (by decide) rfl (fun ls hl => ?_)
  refine lv_goto (tgt := 2) hx hb dX7_linkAll_27 (by decide) ?_
  refine lv_iload_n hx hb dX7_linkAll_2 rfl (lv_at hl 0 rfl) ?_
  refine lv_bipush (v := 8) hx hb dX7_linkAll_3 (by decide) ?_
  refine lv_aload_n hx hb dX7_linkAll_5 rfl (lv_at hl 1 rfl) ?_
  refine va_get (D := (dC, dI)) (ci := 7) (v := .int 0) (C := RX7) (T := TX7) (N := 8) hx hb hts uV_k1_X7 hown hK hP 1 rfl rfl 3 (by decide) (hts (.fieldLink RX7 41 "ClassMill$Space" "count" "I") mw_k1_14) (fun _ h9 => h9) rfl dX7_linkAll_6 ?_
  refine lv_iadd hx hb dX7_linkAll_9 ?_
  refine lv_topi (fun y_9 ey_9 => ?_)
  obtain rfl : y_9 = 8 := ey_9.trans (by decide)
  refine lv_icmp_ge (tgt := 30) hx hb dX7_linkAll_10 (by decide) (fun c_10 => (show False by revert c_10; decide).elim) (fun c_10 => ?_)
  refine lv_aload_n hx hb dX7_linkAll_13 rfl (lv_at hl 1 rfl) ?_
  refine va_get (D := (dC, dI)) (ci := 7) (v := .ref qo47) (C := RX7) (T := TX7) (N := 8) hx hb hts uV_k1_X7 hown hK hP 1 rfl rfl 6 (by decide) (hts (.fieldLink RX7 35 "ClassMill$Space" "cells" "[I") mw_k1_86) (fun _ h9 => h9) rfl dX7_linkAll_14 ?_
  refine lv_iload_n hx hb dX7_linkAll_17 rfl (lv_at hl 0 rfl) ?_
  refine lv_aload_n hx hb dX7_linkAll_18 rfl (lv_at hl 1 rfl) ?_
  refine lv_iload_n hx hb dX7_linkAll_19 rfl (lv_at hl 0 rfl) ?_
  have hPc := hP.sub (ws' := [(qo7, .inr (7, [.ref qo43, .ref qo44, .ref qo45, .int 0, .int 1, .ref qo46, .ref qo47, .ref qo48]))]) [1] rfl
  have hDc := hD.sub (ws' := [(qo7, .inr (7, [.ref qo43, .ref qo44, .ref qo45, .int 0, .int 1, .ref qo46, .ref qo47, .ref qo48]))]) [1] (by decide) rfl
  have hKc := hK.sub (tys' := []) [] rfl
  have hFc := va_free (wc := [(qo7, .inr (7, [.ref qo43, .ref qo44, .ref qo45, .int 0, .int 1, .ref qo46, .ref qo47, .ref qo48]))]) hD hS hA [1] rfl
  refine va_calli (va_runV (As := [.int 2]) (rest := [.int 2, .ref qo47]) ⟨hx, hb, hml, hown, hts⟩ (kk_cellsAbove l dC dI H.size qo7 2 qo43 qo44 qo45 qo46 qo47 qo48) (cwV 1 hts gv_k1_19 rfl rfl rfl (by decide +kernel) ⟨Nat.le_of_ble_eq_true rfl, Nat.le_of_ble_eq_true rfl⟩) ⟨fun a U g mk q => by obtain ⟨q0, q1, qP, qK, qD⟩ := q; exact ⟨q0, q1, qP, va_K.moved (u := U) (U := U.calling g mk a) (Vm.Alike.refl U.vm) qK, qD⟩, va_recv hKc hPc (ci := 7) (q0 := 0) rfl rfl, fun U hU hW => ⟨rfl, by rw [hU], by rw [hU]; exact hPc, va_K.moved hW.alike hKc, hDc.weaken (fun _ _ _ _ => trivial)⟩⟩ rfl rfl hl.1 rfl (lv_room (Nat.le_of_ble_eq_true rfl)) dX7_linkAll_20 ⟨Nat.le_of_ble_eq_true rfl, Nat.le_of_ble_eq_true rfl⟩) hS (fun q _ h => hFc q h) hFc ?_
  clear hS
  intro r_11 u t H1 locs ht hvm hw hB hz1 hk1 hS
  obtain ⟨⟩ := u
  obtain ⟨hP1, hK1, hD1⟩ := hB
  rw [ht] at hP1
  have hK1 := va_K.moved hvm.symm hK1
  try dsimp only at hw
  have hPD := va_join (wr := [(qo47, .inl (co16, 16, .inl f_8))]) (w1 := [(qo7, .inr (7, [.ref qo43, .ref qo44, .ref qo45, .int 0, .int 1, .ref qo46, .ref qo47, .ref qo48]))]) hP hD [1] [0] rfl rfl (by decide) (by decide) hk1 hFc hP1 hD1
  clear hP hD
  obtain ⟨hP, hD⟩ := hPD
  replace hK := (hK.sub (tys' := [(co16, .int)]) [0] rfl).app hK1
  clear hPc hDc hKc hFc hP1 hK1 hD1 hz1 hk1 ht hvm
  generalize H1 = H at hP hS ⊢
  replace hP : va_P (dC, dI) vwCl [(qo47, .inl (co16, 16, .inl f_8)), (qo7, .inr (7, [.ref qo43, .ref qo44, .ref qo45, .int 0, .int 1, .ref qo46, .ref qo47, .ref qo48]))] H := hP
  replace hD : va_D A [(qo47, .inl (co16, 16, .inl f_8)), (qo7, .inr (7, [.ref qo43, .ref qo44, .ref qo45, .int 0, .int 1, .ref qo46, .ref qo47, .ref qo48]))] := hD
  replace hK : va_K (dC, dI) vwCl [(co16, .int)] s := hK
  subst hw
  refine va_iast hx hb hK hP hD hS 0 0 rfl rfl (i := 2) (x := 0) (by unfold vp_in; decide) dX7_linkAll_23 ?_
  clear hP hD hS
  intro H locs hP hD hS
  obtain ⟨f_12, ef_12⟩ : ∃ zf : Nat → Int32, zf = upd f_8 (2 : Int32).toNatClampNeg 0 := ⟨_, rfl⟩
  rw [← ef_12] at hP hD
  replace hP : va_P (dC, dI) vwCl [(qo47, .inl (co16, 16, .inl f_12)), (qo7, .inr (7, [.ref qo43, .ref qo44, .ref qo45, .int 0, .int 1, .ref qo46, .ref qo47, .ref qo48]))] H := hP
  replace hD : va_D A [(qo47, .inl (co16, 16, .inl f_12)), (qo7, .inr (7, [.ref qo43, .ref qo44, .ref qo45, .int 0, .int 1, .ref qo46, .ref qo47, .ref qo48]))] := hD
  refine lv_iinc (v := 3) (lv' := [(1, .int 3), (0, .ref qo7)]) hx hb dX7_linkAll_24 hl (k := 0) rfl (by decide) (by decide) rfl (fun ls hl => ?_)
  refine lv_goto (tgt := 2) hx hb dX7_linkAll_27 (by decide) ?_
  refine lv_iload_n hx hb dX7_linkAll_2 rfl (lv_at hl 0 rfl) ?_
  refine lv_bipush (v := 8) hx hb dX7_linkAll_3 (by decide) ?_
  refine lv_aload_n hx hb dX7_linkAll_5 rfl (lv_at hl 1 rfl) ?_
  refine va_get (D := (dC, dI)) (ci := 7) (v := .int 0) (C := RX7) (T := TX7) (N := 8) hx hb hts uV_k1_X7 hown hK hP 1 rfl rfl 3 (by decide) (hts (.fieldLink RX7 41 "ClassMill$Space" "count" "I") mw_k1_14) (fun _ h9 => h9) rfl dX7_linkAll_6 ?_
  refine lv_iadd hx hb dX7_linkAll_9 ?_
  refine lv_topi (fun y_13 ey_13 => ?_)
  obtain rfl : y_13 = 8 := ey_13.trans (by decide)
  refine lv_icmp_ge (tgt := 30) hx hb dX7_linkAll_10 (by decide) (fun c_14 => (show False by revert c_14; decide).elim) (fun c_14 => ?_)
  refine lv_aload_n hx hb dX7_linkAll_13 rfl (lv_at hl 1 rfl) ?_
  refine va_get (D := (dC, dI)) (ci := 7) (v := .ref qo47) (C := RX7) (T := TX7) (N := 8) hx hb hts uV_k1_X7 hown hK hP 1 rfl rfl 6 (by decide) (hts (.fieldLink RX7 35 "ClassMill$Space" "cells" "[I") mw_k1_86) (fun _ h9 => h9) rfl dX7_linkAll_14 ?_
  refine lv_iload_n hx hb dX7_linkAll_17 rfl (lv_at hl 0 rfl) ?_
  refine lv_aload_n hx hb dX7_linkAll_18 rfl (lv_at hl 1 rfl) ?_
  refine lv_iload_n hx hb dX7_linkAll_19 rfl (lv_at hl 0 rfl) ?_
  have hPc := hP.sub (ws' := [(qo7, .inr (7, [.ref qo43, .ref qo44, .ref qo45, .int 0, .int 1, .ref qo46, .ref qo47, .ref qo48]))]) [1] rfl
  have hDc := hD.sub (ws' := [(qo7, .inr (7, [.ref qo43, .ref qo44, .ref qo45, .int 0, .int 1, .ref qo46, .ref qo47, .ref qo48]))]) [1] (by decide) rfl
  have hKc := hK.sub (tys' := []) [] rfl
  have hFc := va_free (wc := [(qo7, .inr (7, [.ref qo43, .ref qo44, .ref qo45, .int 0, .int 1, .ref qo46, .ref qo47, .ref qo48]))]) hD hS hA [1] rfl
  refine va_calli (va_runV (As := [.int 3]) (rest := [.int 3, .ref qo47]) ⟨hx, hb, hml, hown, hts⟩ (kk_cellsAbove l dC dI H.size qo7 3 qo43 qo44 qo45 qo46 qo47 qo48) (cwV 1 hts gv_k1_19 rfl rfl rfl (by decide +kernel) ⟨Nat.le_of_ble_eq_true rfl, Nat.le_of_ble_eq_true rfl⟩) ⟨fun a U g mk q => by obtain ⟨q0, q1, qP, qK, qD⟩ := q; exact ⟨q0, q1, qP, va_K.moved (u := U) (U := U.calling g mk a) (Vm.Alike.refl U.vm) qK, qD⟩, va_recv hKc hPc (ci := 7) (q0 := 0) rfl rfl, fun U hU hW => ⟨rfl, by rw [hU], by rw [hU]; exact hPc, va_K.moved hW.alike hKc, hDc.weaken (fun _ _ _ _ => trivial)⟩⟩ rfl rfl hl.1 rfl (lv_room (Nat.le_of_ble_eq_true rfl)) dX7_linkAll_20 ⟨Nat.le_of_ble_eq_true rfl, Nat.le_of_ble_eq_true rfl⟩) hS (fun q _ h => hFc q h) hFc ?_
  clear hS
  intro r_15 u t H1 locs ht hvm hw hB hz1 hk1 hS
  obtain ⟨⟩ := u
  obtain ⟨hP1, hK1, hD1⟩ := hB
  rw [ht] at hP1
  have hK1 := va_K.moved hvm.symm hK1
  try dsimp only at hw
  have hPD := va_join (wr := [(qo47, .inl (co16, 16, .inl f_12))]) (w1 := [(qo7, .inr (7, [.ref qo43, .ref qo44, .ref qo45, .int 0, .int 1, .ref qo46, .ref qo47, .ref qo48]))]) hP hD [1] [0] rfl rfl (by decide) (by decide) hk1 hFc hP1 hD1
  clear hP hD
  obtain ⟨hP, hD⟩ := hPD
  replace hK := (hK.sub (tys' := [(co16, .int)]) [0] rfl).app hK1
  clear hPc hDc hKc hFc hP1 hK1 hD1 hz1 hk1 ht hvm
  generalize H1 = H at hP hS ⊢
  replace hP : va_P (dC, dI) vwCl [(qo47, .inl (co16, 16, .inl f_12)), (qo7, .inr (7, [.ref qo43, .ref qo44, .ref qo45, .int 0, .int 1, .ref qo46, .ref qo47, .ref qo48]))] H := hP
  replace hD : va_D A [(qo47, .inl (co16, 16, .inl f_12)), (qo7, .inr (7, [.ref qo43, .ref qo44, .ref qo45, .int 0, .int 1, .ref qo46, .ref qo47, .ref qo48]))] := hD
  replace hK : va_K (dC, dI) vwCl [(co16, .int)] s := hK
  subst hw
  refine va_iast hx hb hK hP hD hS 0 0 rfl rfl (i := 3) (x := 0) (by unfold vp_in; decide) dX7_linkAll_23 ?_
  clear hP hD hS
  intro H locs hP hD hS
  obtain ⟨f_16, ef_16⟩ : ∃ zf : Nat → Int32, zf = upd f_12 (3 : Int32).toNatClampNeg 0 := ⟨_, rfl⟩
  rw [← ef_16] at hP hD
  replace hP : va_P (dC, dI) vwCl [(qo47, .inl (co16, 16, .inl f_16)), (qo7, .inr (7, [.ref qo43, .ref qo44, .ref qo45, .int 0, .int 1, .ref qo46, .ref qo47, .ref qo48]))] H := hP
  replace hD : va_D A [(qo47, .inl (co16, 16, .inl f_16)), (qo7, .inr (7, [.ref qo43, .ref qo44, .ref qo45, .int 0, .int 1, .ref qo46, .ref qo47, .ref qo48]))] := hD
  refine lv_iinc (v := 4) (lv' := [(1, .int 4), (0, .ref qo7)]) hx hb dX7_linkAll_24 hl (k := 0) rfl (by decide) (by decide) rfl (fun ls hl => ?_)
  refine lv_goto (tgt := 2) hx hb dX7_linkAll_27 (by decide) ?_
  refine lv_iload_n hx hb dX7_linkAll_2 rfl (lv_at hl 0 rfl) ?_
  refine lv_bipush (v := 8) hx hb dX7_linkAll_3 (by decide) ?_
  refine lv_aload_n hx hb dX7_linkAll_5 rfl (lv_at hl 1 rfl) ?_
  refine va_get (D := (dC, dI)) (ci := 7) (v := .int 0) (C := RX7) (T := TX7) (N := 8) hx hb hts uV_k1_X7 hown hK hP 1 rfl rfl 3 (by decide) (hts (.fieldLink RX7 41 "ClassMill$Space" "count" "I") mw_k1_14) (fun _ h9 => h9) rfl dX7_linkAll_6 ?_
  refine lv_iadd hx hb dX7_linkAll_9 ?_
  refine lv_topi (fun y_17 ey_17 => ?_)
  obtain rfl : y_17 = 8 := ey_17.trans (by decide)
  refine lv_icmp_ge (tgt := 30) hx hb dX7_linkAll_10 (by decide) (fun c_18 => (show False by revert c_18; decide).elim) (fun c_18 => ?_)
  refine lv_aload_n hx hb dX7_linkAll_13 rfl (lv_at hl 1 rfl) ?_
  refine va_get (D := (dC, dI)) (ci := 7) (v := .ref qo47) (C := RX7) (T := TX7) (N := 8) hx hb hts uV_k1_X7 hown hK hP 1 rfl rfl 6 (by decide) (hts (.fieldLink RX7 35 "ClassMill$Space" "cells" "[I") mw_k1_86) (fun _ h9 => h9) rfl dX7_linkAll_14 ?_
  refine lv_iload_n hx hb dX7_linkAll_17 rfl (lv_at hl 0 rfl) ?_
  refine lv_aload_n hx hb dX7_linkAll_18 rfl (lv_at hl 1 rfl) ?_
  refine lv_iload_n hx hb dX7_linkAll_19 rfl (lv_at hl 0 rfl) ?_
  have hPc := hP.sub (ws' := [(qo7, .inr (7, [.ref qo43, .ref qo44, .ref qo45, .int 0, .int 1, .ref qo46, .ref qo47, .ref qo48]))]) [1] rfl
  have hDc := hD.sub (ws' := [(qo7, .inr (7, [.ref qo43, .ref qo44, .ref qo45, .int 0, .int 1, .ref qo46, .ref qo47, .ref qo48]))]) [1] (by decide) rfl
  have hKc := hK.sub (tys' := []) [] rfl
  have hFc := va_free (wc := [(qo7, .inr (7, [.ref qo43, .ref qo44, .ref qo45, .int 0, .int 1, .ref qo46, .ref qo47, .ref qo48]))]) hD hS hA [1] rfl
  refine va_calli (va_runV (As := [.int 4]) (rest := [.int 4, .ref qo47]) ⟨hx, hb, hml, hown, hts⟩ (kk_cellsAbove l dC dI H.size qo7 4 qo43 qo44 qo45 qo46 qo47 qo48) (cwV 1 hts gv_k1_19 rfl rfl rfl (by decide +kernel) ⟨Nat.le_of_ble_eq_true rfl, Nat.le_of_ble_eq_true rfl⟩) ⟨fun a U g mk q => by obtain ⟨q0, q1, qP, qK, qD⟩ := q; exact ⟨q0, q1, qP, va_K.moved (u := U) (U := U.calling g mk a) (Vm.Alike.refl U.vm) qK, qD⟩, va_recv hKc hPc (ci := 7) (q0 := 0) rfl rfl, fun U hU hW => ⟨rfl, by rw [hU], by rw [hU]; exact hPc, va_K.moved hW.alike hKc, hDc.weaken (fun _ _ _ _ => trivial)⟩⟩ rfl rfl hl.1 rfl (lv_room (Nat.le_of_ble_eq_true rfl)) dX7_linkAll_20 ⟨Nat.le_of_ble_eq_true rfl, Nat.le_of_ble_eq_true rfl⟩) hS (fun q _ h => hFc q h) hFc ?_
  clear hS
  intro r_19 u t H1 locs ht hvm hw hB hz1 hk1 hS
  obtain ⟨⟩ := u
  obtain ⟨hP1, hK1, hD1⟩ := hB
  rw [ht] at hP1
  have hK1 := va_K.moved hvm.symm hK1
  try dsimp only at hw
  have hPD := va_join (wr := [(qo47, .inl (co16, 16, .inl f_16))]) (w1 := [(qo7, .inr (7, [.ref qo43, .ref qo44, .ref qo45, .int 0, .int 1, .ref qo46, .ref qo47, .ref qo48]))]) hP hD [1] [0] rfl rfl (by decide) (by decide) hk1 hFc hP1 hD1
  clear hP hD
  obtain ⟨hP, hD⟩ := hPD
  replace hK := (hK.sub (tys' := [(co16, .int)]) [0] rfl).app hK1
  clear hPc hDc hKc hFc hP1 hK1 hD1 hz1 hk1 ht hvm
  generalize H1 = H at hP hS ⊢
  replace hP : va_P (dC, dI) vwCl [(qo47, .inl (co16, 16, .inl f_16)), (qo7, .inr (7, [.ref qo43, .ref qo44, .ref qo45, .int 0, .int 1, .ref qo46, .ref qo47, .ref qo48]))] H := hP
  replace hD : va_D A [(qo47, .inl (co16, 16, .inl f_16)), (qo7, .inr (7, [.ref qo43, .ref qo44, .ref qo45, .int 0, .int 1, .ref qo46, .ref qo47, .ref qo48]))] := hD
  replace hK : va_K (dC, dI) vwCl [(co16, .int)] s := hK
  subst hw
  refine va_iast hx hb hK hP hD hS 0 0 rfl rfl (i := 4) (x := 0) (by unfold vp_in; decide) dX7_linkAll_23 ?_
  clear hP hD hS
  intro H locs hP hD hS
  obtain ⟨f_20, ef_20⟩ : ∃ zf : Nat → Int32, zf = upd f_16 (4 : Int32).toNatClampNeg 0 := ⟨_, rfl⟩
  rw [← ef_20] at hP hD
  replace hP : va_P (dC, dI) vwCl [(qo47, .inl (co16, 16, .inl f_20)), (qo7, .inr (7, [.ref qo43, .ref qo44, .ref qo45, .int 0, .int 1, .ref qo46, .ref qo47, .ref qo48]))] H := hP
  replace hD : va_D A [(qo47, .inl (co16, 16, .inl f_20)), (qo7, .inr (7, [.ref qo43, .ref qo44, .ref qo45, .int 0, .int 1, .ref qo46, .ref qo47, .ref qo48]))] := hD
  refine lv_iinc (v := 5) (lv' := [(1, .int 5), (0, .ref qo7)]) hx hb dX7_linkAll_24 hl (k := 0) rfl (by decide) (by decide) rfl (fun ls hl => ?_)
  refine lv_goto (tgt := 2) hx hb dX7_linkAll_27 (by decide) ?_
  refine lv_iload_n hx hb dX7_linkAll_2 rfl (lv_at hl 0 rfl) ?_
  refine lv_bipush (v := 8) hx hb dX7_linkAll_3 (by decide) ?_
  refine lv_aload_n hx hb dX7_linkAll_5 rfl (lv_at hl 1 rfl) ?_
  refine va_get (D := (dC, dI)) (ci := 7) (v := .int 0) (C := RX7) (T := TX7) (N := 8) hx hb hts uV_k1_X7 hown hK hP 1 rfl rfl 3 (by decide) (hts (.fieldLink RX7 41 "ClassMill$Space" "count" "I") mw_k1_14) (fun _ h9 => h9) rfl dX7_linkAll_6 ?_
  refine lv_iadd hx hb dX7_linkAll_9 ?_
  refine lv_topi (fun y_21 ey_21 => ?_)
  obtain rfl : y_21 = 8 := ey_21.trans (by decide)
  refine lv_icmp_ge (tgt := 30) hx hb dX7_linkAll_10 (by decide) (fun c_22 => (show False by revert c_22; decide).elim) (fun c_22 => ?_)
  refine lv_aload_n hx hb dX7_linkAll_13 rfl (lv_at hl 1 rfl) ?_
  refine va_get (D := (dC, dI)) (ci := 7) (v := .ref qo47) (C := RX7) (T := TX7) (N := 8) hx hb hts uV_k1_X7 hown hK hP 1 rfl rfl 6 (by decide) (hts (.fieldLink RX7 35 "ClassMill$Space" "cells" "[I") mw_k1_86) (fun _ h9 => h9) rfl dX7_linkAll_14 ?_
  refine lv_iload_n hx hb dX7_linkAll_17 rfl (lv_at hl 0 rfl) ?_
  refine lv_aload_n hx hb dX7_linkAll_18 rfl (lv_at hl 1 rfl) ?_
  refine lv_iload_n hx hb dX7_linkAll_19 rfl (lv_at hl 0 rfl) ?_
  have hPc := hP.sub (ws' := [(qo7, .inr (7, [.ref qo43, .ref qo44, .ref qo45, .int 0, .int 1, .ref qo46, .ref qo47, .ref qo48]))]) [1] rfl
  have hDc := hD.sub (ws' := [(qo7, .inr (7, [.ref qo43, .ref qo44, .ref qo45, .int 0, .int 1, .ref qo46, .ref qo47, .ref qo48]))]) [1] (by decide) rfl
  have hKc := hK.sub (tys' := []) [] rfl
  have hFc := va_free (wc := [(qo7, .inr (7, [.ref qo43, .ref qo44, .ref qo45, .int 0, .int 1, .ref qo46, .ref qo47, .ref qo48]))]) hD hS hA [1] rfl
  refine va_calli (va_runV (As := [.int 5]) (rest := [.int 5, .ref qo47]) ⟨hx, hb, hml, hown, hts⟩ (kk_cellsAbove l dC dI H.size qo7 5 qo43 qo44 qo45 qo46 qo47 qo48) (cwV 1 hts gv_k1_19 rfl rfl rfl (by decide +kernel) ⟨Nat.le_of_ble_eq_true rfl, Nat.le_of_ble_eq_true rfl⟩) ⟨fun a U g mk q => by obtain ⟨q0, q1, qP, qK, qD⟩ := q; exact ⟨q0, q1, qP, va_K.moved (u := U) (U := U.calling g mk a) (Vm.Alike.refl U.vm) qK, qD⟩, va_recv hKc hPc (ci := 7) (q0 := 0) rfl rfl, fun U hU hW => ⟨rfl, by rw [hU], by rw [hU]; exact hPc, va_K.moved hW.alike hKc, hDc.weaken (fun _ _ _ _ => trivial)⟩⟩ rfl rfl hl.1 rfl (lv_room (Nat.le_of_ble_eq_true rfl)) dX7_linkAll_20 ⟨Nat.le_of_ble_eq_true rfl, Nat.le_of_ble_eq_true rfl⟩) hS (fun q _ h => hFc q h) hFc ?_
  clear hS
  intro r_23 u t H1 locs ht hvm hw hB hz1 hk1 hS
  obtain ⟨⟩ := u
  obtain ⟨hP1, hK1, hD1⟩ := hB
  rw [ht] at hP1
  have hK1 := va_K.moved hvm.symm hK1
  try dsimp only at hw
  have hPD := va_join (wr := [(qo47, .inl (co16, 16, .inl f_20))]) (w1 := [(qo7, .inr (7, [.ref qo43, .ref qo44, .ref qo45, .int 0, .int 1, .ref qo46, .ref qo47, .ref qo48]))]) hP hD [1] [0] rfl rfl (by decide) (by decide) hk1 hFc hP1 hD1
  clear hP hD
  obtain ⟨hP, hD⟩ := hPD
  replace hK := (hK.sub (tys' := [(co16, .int)]) [0] rfl).app hK1
  clear hPc hDc hKc hFc hP1 hK1 hD1 hz1 hk1 ht hvm
  generalize H1 = H at hP hS ⊢
  replace hP : va_P (dC, dI) vwCl [(qo47, .inl (co16, 16, .inl f_20)), (qo7, .inr (7, [.ref qo43, .ref qo44, .ref qo45, .int 0, .int 1, .ref qo46, .ref qo47, .ref qo48]))] H := hP
  replace hD : va_D A [(qo47, .inl (co16, 16, .inl f_20)), (qo7, .inr (7, [.ref qo43, .ref qo44, .ref qo45, .int 0, .int 1, .ref qo46, .ref qo47, .ref qo48]))] := hD
  replace hK : va_K (dC, dI) vwCl [(co16, .int)] s := hK
  subst hw
  refine va_iast hx hb hK hP hD hS 0 0 rfl rfl (i := 5) (x := 0) (by unfold vp_in; decide) dX7_linkAll_23 ?_
  clear hP hD hS
  intro H locs hP hD hS
  obtain ⟨f_24, ef_24⟩ : ∃ zf : Nat → Int32, zf = upd f_20 (5 : Int32).toNatClampNeg 0 := ⟨_, rfl⟩
  rw [← ef_24] at hP hD
  replace hP : va_P (dC, dI) vwCl [(qo47, .inl (co16, 16, .inl f_24)), (qo7, .inr (7, [.ref qo43, .ref qo44, .ref qo45, .int 0, .int 1, .ref qo46, .ref qo47, .ref qo48]))] H := hP
  replace hD : va_D A [(qo47, .inl (co16, 16, .inl f_24)), (qo7, .inr (7, [.ref qo43, .ref qo44, .ref qo45, .int 0, .int 1, .ref qo46, .ref qo47, .ref qo48]))] := hD
  refine lv_iinc (v := 6) (lv' := [(1, .int 6), (0, .ref qo7)]) hx hb dX7_linkAll_24 hl (k := 0) rfl (by decide) (by decide) rfl (fun ls hl => ?_)
  refine lv_goto (tgt := 2) hx hb dX7_linkAll_27 (by decide) ?_
  refine lv_iload_n hx hb dX7_linkAll_2 rfl (lv_at hl 0 rfl) ?_
  refine lv_bipush (v := 8) hx hb dX7_linkAll_3 (by decide) ?_
  refine lv_aload_n hx hb dX7_linkAll_5 rfl (lv_at hl 1 rfl) ?_
  refine va_get (D := (dC, dI)) (ci := 7) (v := .int 0) (C := RX7) (T := TX7) (N := 8) hx hb hts uV_k1_X7 hown hK hP 1 rfl rfl 3 (by decide) (hts (.fieldLink RX7 41 "ClassMill$Space" "count" "I") mw_k1_14) (fun _ h9 => h9) rfl dX7_linkAll_6 ?_
  refine lv_iadd hx hb dX7_linkAll_9 ?_
  refine lv_topi (fun y_25 ey_25 => ?_)
  obtain rfl : y_25 = 8 := ey_25.trans (by decide)
  refine lv_icmp_ge (tgt := 30) hx hb dX7_linkAll_10 (by decide) (fun c_26 => (show False by revert c_26; decide).elim) (fun c_26 => ?_)
  refine lv_aload_n hx hb dX7_linkAll_13 rfl (lv_at hl 1 rfl) ?_
  refine va_get (D := (dC, dI)) (ci := 7) (v := .ref qo47) (C := RX7) (T := TX7) (N := 8) hx hb hts uV_k1_X7 hown hK hP 1 rfl rfl 6 (by decide) (hts (.fieldLink RX7 35 "ClassMill$Space" "cells" "[I") mw_k1_86) (fun _ h9 => h9) rfl dX7_linkAll_14 ?_
  refine lv_iload_n hx hb dX7_linkAll_17 rfl (lv_at hl 0 rfl) ?_
  refine lv_aload_n hx hb dX7_linkAll_18 rfl (lv_at hl 1 rfl) ?_
  refine lv_iload_n hx hb dX7_linkAll_19 rfl (lv_at hl 0 rfl) ?_
  have hPc := hP.sub (ws' := [(qo7, .inr (7, [.ref qo43, .ref qo44, .ref qo45, .int 0, .int 1, .ref qo46, .ref qo47, .ref qo48]))]) [1] rfl
  have hDc := hD.sub (ws' := [(qo7, .inr (7, [.ref qo43, .ref qo44, .ref qo45, .int 0, .int 1, .ref qo46, .ref qo47, .ref qo48]))]) [1] (by decide) rfl
  have hKc := hK.sub (tys' := []) [] rfl
  have hFc := va_free (wc := [(qo7, .inr (7, [.ref qo43, .ref qo44, .ref qo45, .int 0, .int 1, .ref qo46, .ref qo47, .ref qo48]))]) hD hS hA [1] rfl
  refine va_calli (va_runV (As := [.int 6]) (rest := [.int 6, .ref qo47]) ⟨hx, hb, hml, hown, hts⟩ (kk_cellsAbove l dC dI H.size qo7 6 qo43 qo44 qo45 qo46 qo47 qo48) (cwV 1 hts gv_k1_19 rfl rfl rfl (by decide +kernel) ⟨Nat.le_of_ble_eq_true rfl, Nat.le_of_ble_eq_true rfl⟩) ⟨fun a U g mk q => by obtain ⟨q0, q1, qP, qK, qD⟩ := q; exact ⟨q0, q1, qP, va_K.moved (u := U) (U := U.calling g mk a) (Vm.Alike.refl U.vm) qK, qD⟩, va_recv hKc hPc (ci := 7) (q0 := 0) rfl rfl, fun U hU hW => ⟨rfl, by rw [hU], by rw [hU]; exact hPc, va_K.moved hW.alike hKc, hDc.weaken (fun _ _ _ _ => trivial)⟩⟩ rfl rfl hl.1 rfl (lv_room (Nat.le_of_ble_eq_true rfl)) dX7_linkAll_20 ⟨Nat.le_of_ble_eq_true rfl, Nat.le_of_ble_eq_true rfl⟩) hS (fun q _ h => hFc q h) hFc ?_
  clear hS
  intro r_27 u t H1 locs ht hvm hw hB hz1 hk1 hS
  obtain ⟨⟩ := u
  obtain ⟨hP1, hK1, hD1⟩ := hB
  rw [ht] at hP1
  have hK1 := va_K.moved hvm.symm hK1
  try dsimp only at hw
  have hPD := va_join (wr := [(qo47, .inl (co16, 16, .inl f_24))]) (w1 := [(qo7, .inr (7, [.ref qo43, .ref qo44, .ref qo45, .int 0, .int 1, .ref qo46, .ref qo47, .ref qo48]))]) hP hD [1] [0] rfl rfl (by decide) (by decide) hk1 hFc hP1 hD1
  clear hP hD
  obtain ⟨hP, hD⟩ := hPD
  replace hK := (hK.sub (tys' := [(co16, .int)]) [0] rfl).app hK1
  clear hPc hDc hKc hFc hP1 hK1 hD1 hz1 hk1 ht hvm
  generalize H1 = H at hP hS ⊢
  replace hP : va_P (dC, dI) vwCl [(qo47, .inl (co16, 16, .inl f_24)), (qo7, .inr (7, [.ref qo43, .ref qo44, .ref qo45, .int 0, .int 1, .ref qo46, .ref qo47, .ref qo48]))] H := hP
  replace hD : va_D A [(qo47, .inl (co16, 16, .inl f_24)), (qo7, .inr (7, [.ref qo43, .ref qo44, .ref qo45, .int 0, .int 1, .ref qo46, .ref qo47, .ref qo48]))] := hD
  replace hK : va_K (dC, dI) vwCl [(co16, .int)] s := hK
  subst hw
  refine va_iast hx hb hK hP hD hS 0 0 rfl rfl (i := 6) (x := 0) (by unfold vp_in; decide) dX7_linkAll_23 ?_
  clear hP hD hS
  intro H locs hP hD hS
  obtain ⟨f_28, ef_28⟩ : ∃ zf : Nat → Int32, zf = upd f_24 (6 : Int32).toNatClampNeg 0 := ⟨_, rfl⟩
  rw [← ef_28] at hP hD
  replace hP : va_P (dC, dI) vwCl [(qo47, .inl (co16, 16, .inl f_28)), (qo7, .inr (7, [.ref qo43, .ref qo44, .ref qo45, .int 0, .int 1, .ref qo46, .ref qo47, .ref qo48]))] H := hP
  replace hD : va_D A [(qo47, .inl (co16, 16, .inl f_28)), (qo7, .inr (7, [.ref qo43, .ref qo44, .ref qo45, .int 0, .int 1, .ref qo46, .ref qo47, .ref qo48]))] := hD
  refine lv_iinc (v := 7) (lv' := [(1, .int 7), (0, .ref qo7)]) hx hb dX7_linkAll_24 hl (k := 0) rfl (by decide) (by decide) rfl (fun ls hl => ?_)
  refine lv_goto (tgt := 2) hx hb dX7_linkAll_27 (by decide) ?_
  refine lv_iload_n hx hb dX7_linkAll_2 rfl (lv_at hl 0 rfl) ?_
  refine lv_bipush (v := 8) hx hb dX7_linkAll_3 (by decide) ?_
  refine lv_aload_n hx hb dX7_linkAll_5 rfl (lv_at hl 1 rfl) ?_
  refine va_get (D := (dC, dI)) (ci := 7) (v := .int 0) (C := RX7) (T := TX7) (N := 8) hx hb hts uV_k1_X7 hown hK hP 1 rfl rfl 3 (by decide) (hts (.fieldLink RX7 41 "ClassMill$Space" "count" "I") mw_k1_14) (fun _ h9 => h9) rfl dX7_linkAll_6 ?_
  refine lv_iadd hx hb dX7_linkAll_9 ?_
  refine lv_topi (fun y_29 ey_29 => ?_)
  obtain rfl : y_29 = 8 := ey_29.trans (by decide)
  refine lv_icmp_ge (tgt := 30) hx hb dX7_linkAll_10 (by decide) (fun c_30 => (show False by revert c_30; decide).elim) (fun c_30 => ?_)
  refine lv_aload_n hx hb dX7_linkAll_13 rfl (lv_at hl 1 rfl) ?_
  refine va_get (D := (dC, dI)) (ci := 7) (v := .ref qo47) (C := RX7) (T := TX7) (N := 8) hx hb hts uV_k1_X7 hown hK hP 1 rfl rfl 6 (by decide) (hts (.fieldLink RX7 35 "ClassMill$Space" "cells" "[I") mw_k1_86) (fun _ h9 => h9) rfl dX7_linkAll_14 ?_
  refine lv_iload_n hx hb dX7_linkAll_17 rfl (lv_at hl 0 rfl) ?_
  refine lv_aload_n hx hb dX7_linkAll_18 rfl (lv_at hl 1 rfl) ?_
  refine lv_iload_n hx hb dX7_linkAll_19 rfl (lv_at hl 0 rfl) ?_
  have hPc := hP.sub (ws' := [(qo7, .inr (7, [.ref qo43, .ref qo44, .ref qo45, .int 0, .int 1, .ref qo46, .ref qo47, .ref qo48]))]) [1] rfl
  have hDc := hD.sub (ws' := [(qo7, .inr (7, [.ref qo43, .ref qo44, .ref qo45, .int 0, .int 1, .ref qo46, .ref qo47, .ref qo48]))]) [1] (by decide) rfl
  have hKc := hK.sub (tys' := []) [] rfl
  have hFc := va_free (wc := [(qo7, .inr (7, [.ref qo43, .ref qo44, .ref qo45, .int 0, .int 1, .ref qo46, .ref qo47, .ref qo48]))]) hD hS hA [1] rfl
  refine va_calli (va_runV (As := [.int 7]) (rest := [.int 7, .ref qo47]) ⟨hx, hb, hml, hown, hts⟩ (kk_cellsAbove l dC dI H.size qo7 7 qo43 qo44 qo45 qo46 qo47 qo48) (cwV 1 hts gv_k1_19 rfl rfl rfl (by decide +kernel) ⟨Nat.le_of_ble_eq_true rfl, Nat.le_of_ble_eq_true rfl⟩) ⟨fun a U g mk q => by obtain ⟨q0, q1, qP, qK, qD⟩ := q; exact ⟨q0, q1, qP, va_K.moved (u := U) (U := U.calling g mk a) (Vm.Alike.refl U.vm) qK, qD⟩, va_recv hKc hPc (ci := 7) (q0 := 0) rfl rfl, fun U hU hW => ⟨rfl, by rw [hU], by rw [hU]; exact hPc, va_K.moved hW.alike hKc, hDc.weaken (fun _ _ _ _ => trivial)⟩⟩ rfl rfl hl.1 rfl (lv_room (Nat.le_of_ble_eq_true rfl)) dX7_linkAll_20 ⟨Nat.le_of_ble_eq_true rfl, Nat.le_of_ble_eq_true rfl⟩) hS (fun q _ h => hFc q h) hFc ?_
  clear hS
  intro r_31 u t H1 locs ht hvm hw hB hz1 hk1 hS
  obtain ⟨⟩ := u
  obtain ⟨hP1, hK1, hD1⟩ := hB
  rw [ht] at hP1
  have hK1 := va_K.moved hvm.symm hK1
  try dsimp only at hw
  have hPD := va_join (wr := [(qo47, .inl (co16, 16, .inl f_28))]) (w1 := [(qo7, .inr (7, [.ref qo43, .ref qo44, .ref qo45, .int 0, .int 1, .ref qo46, .ref qo47, .ref qo48]))]) hP hD [1] [0] rfl rfl (by decide) (by decide) hk1 hFc hP1 hD1
  clear hP hD
  obtain ⟨hP, hD⟩ := hPD
  replace hK := (hK.sub (tys' := [(co16, .int)]) [0] rfl).app hK1
  clear hPc hDc hKc hFc hP1 hK1 hD1 hz1 hk1 ht hvm
  generalize H1 = H at hP hS ⊢
  replace hP : va_P (dC, dI) vwCl [(qo47, .inl (co16, 16, .inl f_28)), (qo7, .inr (7, [.ref qo43, .ref qo44, .ref qo45, .int 0, .int 1, .ref qo46, .ref qo47, .ref qo48]))] H := hP
  replace hD : va_D A [(qo47, .inl (co16, 16, .inl f_28)), (qo7, .inr (7, [.ref qo43, .ref qo44, .ref qo45, .int 0, .int 1, .ref qo46, .ref qo47, .ref qo48]))] := hD
  replace hK : va_K (dC, dI) vwCl [(co16, .int)] s := hK
  subst hw
  refine va_iast hx hb hK hP hD hS 0 0 rfl rfl (i := 7) (x := 0) (by unfold vp_in; decide) dX7_linkAll_23 ?_
  clear hP hD hS
  intro H locs hP hD hS
  obtain ⟨f_32, ef_32⟩ : ∃ zf : Nat → Int32, zf = upd f_28 (7 : Int32).toNatClampNeg 0 := ⟨_, rfl⟩
  rw [← ef_32] at hP hD
  replace hP : va_P (dC, dI) vwCl [(qo47, .inl (co16, 16, .inl f_32)), (qo7, .inr (7, [.ref qo43, .ref qo44, .ref qo45, .int 0, .int 1, .ref qo46, .ref qo47, .ref qo48]))] H := hP
  replace hD : va_D A [(qo47, .inl (co16, 16, .inl f_32)), (qo7, .inr (7, [.ref qo43, .ref qo44, .ref qo45, .int 0, .int 1, .ref qo46, .ref qo47, .ref qo48]))] := hD
  refine lv_iinc (v := 8) (lv' := [(1, .int 8), (0, .ref qo7)]) hx hb dX7_linkAll_24 hl (k := 0) rfl (by decide) (by decide) rfl (fun ls hl => ?_)
  refine lv_goto (tgt := 2) hx hb dX7_linkAll_27 (by decide) ?_
  refine lv_iload_n hx hb dX7_linkAll_2 rfl (lv_at hl 0 rfl) ?_
  refine lv_bipush (v := 8) hx hb dX7_linkAll_3 (by decide) ?_
  refine lv_aload_n hx hb dX7_linkAll_5 rfl (lv_at hl 1 rfl) ?_
  refine va_get (D := (dC, dI)) (ci := 7) (v := .int 0) (C := RX7) (T := TX7) (N := 8) hx hb hts uV_k1_X7 hown hK hP 1 rfl rfl 3 (by decide) (hts (.fieldLink RX7 41 "ClassMill$Space" "count" "I") mw_k1_14) (fun _ h9 => h9) rfl dX7_linkAll_6 ?_
  refine lv_iadd hx hb dX7_linkAll_9 ?_
  refine lv_topi (fun y_33 ey_33 => ?_)
  obtain rfl : y_33 = 8 := ey_33.trans (by decide)
  refine lv_icmp_ge (tgt := 30) hx hb dX7_linkAll_10 (by decide) (fun c_34 => ?_) (fun c_34 => (show False by revert c_34; decide).elim)
  refine lv_iconst (v := 0) hx hb dX7_linkAll_30 (by decide) ?_
  refine lv_istore_n (lv' := [(1, .int 0), (0, .ref qo7)]) hx hb dX7_linkAll_31 rfl hl (by decide) rfl (fun ls hl => ?_)
  refine lv_iload_n hx hb dX7_linkAll_32 rfl (lv_at hl 0 rfl) ?_
  refine lv_aload_n hx hb dX7_linkAll_33 rfl (lv_at hl 1 rfl) ?_
  refine va_get (D := (dC, dI)) (ci := 7) (v := .int 0) (C := RX7) (T := TX7) (N := 8) hx hb hts uV_k1_X7 hown hK hP 1 rfl rfl 3 (by decide) (hts (.fieldLink RX7 41 "ClassMill$Space" "count" "I") mw_k1_14) (fun _ h9 => h9) rfl dX7_linkAll_34 ?_
  refine lv_icmp_ge (tgt := 95) hx hb dX7_linkAll_37 (by decide) (fun c_35 => ?_) (fun c_35 => (show False by revert c_35; decide).elim)
  have hP9 := hP.sub (ws' := [(qo7, .inr (7, [.ref qo43, .ref qo44, .ref qo45, .int 0, .int 1, .ref qo46, .ref qo47, .ref qo48]))]) [1] rfl
  have hD9 := hD.sub (ws' := [(qo7, .inr (7, [.ref qo43, .ref qo44, .ref qo45, .int 0, .int 1, .ref qo46, .ref qo47, .ref qo48]))]) [1] (by decide) rfl
  have hK9 := hK.sub (tys' := []) [] rfl
  exact W.vret hx hb hr (fun t ht hW => ⟨⟨(), rfl, trivial, by rw [ht]; exact hP9, va_K.moved hW.alike hK9, hD9⟩, hS.F ht⟩) hS.2.2 dX7_linkAll_95

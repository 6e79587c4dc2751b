set_option maxHeartbeats 4000000 in
set_option maxRecDepth 100000 in
/-- kk_verify -/
theorem kk_verify (l : Launch) (dC : Nat → ClassId) (dI : Nat → Nat → Nat) (sz : Nat) (h0 : Nat) (qo1 : Nat) (qo2 : Nat) (qo3 : Nat) (qo4 : Nat) (qo5 : Nat) (qo6 : Nat) (qo7 : Nat) (qo8 : Nat) (qo9 : Nat) (qo43 : Nat) (qo57 : Nat) (qo58 : Nat) (qo59 : Nat) (qo60 : Nat) (qo61 : Nat) (qo62 : Nat) (qo63 : Nat) (qo64 : Nat) (qo65 : Nat) (qo44 : Nat) (qo45 : Nat) (qo46 : Nat) (qo47 : Nat) (qo48 : Nat) (co16 : ClassId)  : Met l yX12_verify (.code yX12_verify cX12_verify 2 (some .int) :: VS_k1) ({ frames := 3, cells := 0, slots := 0, locals := 68 }) (va_Pc [.ref h0] (fun U => U.heap.size = sz ∧ va_P (dC, dI) vwCl [(h0, .inr (12, [.ref qo1, .int 0, .ref qo2, .ref qo3, .ref qo4, .ref qo5, .ref qo6, .int 0, .ref qo7, .ref qo8, .ref qo9])), (qo8, .inr (11, [.ref qo7, .ref qo43, .int (-1), .int (-1), .int (-1), .ref qo57, .int 0, .int 0, .ref qo58, .ref qo59, .ref qo60, .ref qo61, .ref qo62, .ref qo63, .ref qo64, .ref qo65, .int 0, .int 0, .int 0, .int 0, .int 0])), (qo7, .inr (7, [.ref qo43, .ref qo44, .ref qo45, .int 0, .int 0, .ref qo46, .ref qo47, .ref qo48])), (qo47, .inl (co16, 16, .inl (fun _ => 0)))] U.heap ∧ va_K (dC, dI) vwCl [(co16, .int)] U ∧ va_D (fun _ => True) [(h0, .inr (12, [.ref qo1, .int 0, .ref qo2, .ref qo3, .ref qo4, .ref qo5, .ref qo6, .int 0, .ref qo7, .ref qo8, .ref qo9])), (qo8, .inr (11, [.ref qo7, .ref qo43, .int (-1), .int (-1), .int (-1), .ref qo57, .int 0, .int 0, .ref qo58, .ref qo59, .ref qo60, .ref qo61, .ref qo62, .ref qo63, .ref qo64, .ref qo65, .int 0, .int 0, .int 0, .int 0, .int 0])), (qo7, .inr (7, [.ref qo43, .ref qo44, .ref qo45, .int 0, .int 0, .ref qo46, .ref qo47, .ref qo48])), (qo47, .inl (co16, 16, .inl (fun _ => 0)))])) (va_Qi (fun (r : Int32) (u : Unit) => match u with | () => r = 0) (fun (u : Unit) (t : State) => match u with | () => va_P (dC, dI) vwCl [] t.heap ∧ va_K (dC, dI) vwCl [] t ∧ va_D (va_A [(h0, .inr (12, [.ref qo1, .int 0, .ref qo2, .ref qo3, .ref qo4, .ref qo5, .ref qo6, .int 0, .ref qo7, .ref qo8, .ref qo9])), (qo8, .inr (11, [.ref qo7, .ref qo43, .int (-1), .int (-1), .int (-1), .ref qo57, .int 0, .int 0, .ref qo58, .ref qo59, .ref qo60, .ref qo61, .ref qo62, .ref qo63, .ref qo64, .ref qo65, .int 0, .int 0, .int 0, .int 0, .int 0])), (qo7, .inr (7, [.ref qo43, .ref qo44, .ref qo45, .int 0, .int 0, .ref qo46, .ref qo47, .ref qo48])), (qo47, .inl (co16, 16, .inl (fun _ => 0)))] sz) []) (va_A [(h0, .inr (12, [.ref qo1, .int 0, .ref qo2, .ref qo3, .ref qo4, .ref qo5, .ref qo6, .int 0, .ref qo7, .ref qo8, .ref qo9])), (qo8, .inr (11, [.ref qo7, .ref qo43, .int (-1), .int (-1), .int (-1), .ref qo57, .int 0, .int 0, .ref qo58, .ref qo59, .ref qo60, .ref qo61, .ref qo62, .ref qo63, .ref qo64, .ref qo65, .int 0, .int 0, .int 0, .int 0, .int 0])), (qo7, .inr (7, [.ref qo43, .ref qo44, .ref qo45, .int 0, .int 0, .ref qo46, .ref qo47, .ref qo48])), (qo47, .inl (co16, 16, .inl (fun _ => 0)))] sz)) 0 0 (va_A [(h0, .inr (12, [.ref qo1, .int 0, .ref qo2, .ref qo3, .ref qo4, .ref qo5, .ref qo6, .int 0, .ref qo7, .ref qo8, .ref qo9])), (qo8, .inr (11, [.ref qo7, .ref qo43, .int (-1), .int (-1), .int (-1), .ref qo57, .int 0, .int 0, .ref qo58, .ref qo59, .ref qo60, .ref qo61, .ref qo62, .ref qo63, .ref qo64, .ref qo65, .int 0, .int 0, .int 0, .int 0, .int 0])), (qo7, .inr (7, [.ref qo43, .ref qo44, .ref qo45, .int 0, .int 0, .ref qo46, .ref qo47, .ref qo48])), (qo47, .inl (co16, 16, .inl (fun _ => 0)))] sz) := by
  refine Met.ofW (cc := cX12_verify) (maxL := 2) (ret := (some .int)) (by decide) rfl ?_
  intro p e s m args below meth c s₁ B hml hv
  obtain ⟨rfl, hsz, hP, hK, hD0⟩ := hv
  have hx := B.exec
  have hb := B.bytes
  have hr := B.returns
  have hts := atoms_spec (ws := (.code yX12_verify cX12_verify 2 (some .int) :: VS_k1)) B.pre
  replace hts := fun w (h : w ∈ VS_k1) => hts w (List.mem_cons_of_mem _ h)
  have hown : s.vm.findClass RX12 = some m.cls := findClass_of_methodNamed B.named
  have hlocks := B.notSynchronized
  subst hsz
  have hD := hD0.self (sz := s.heap.size)
  generalize hAe : va_A [(h0, .inr (12, [.ref qo1, .int 0, .ref qo2, .ref qo3, .ref qo4, .ref qo5, .ref qo6, .int 0, .ref qo7, .ref qo8, .ref qo9])), (qo8, .inr (11, [.ref qo7, .ref qo43, .int (-1), .int (-1), .int (-1), .ref qo57, .int 0, .int 0, .ref qo58, .ref qo59, .ref qo60, .ref qo61, .ref qo62, .ref qo63, .ref qo64, .ref qo65, .int 0, .int 0, .int 0, .int 0, .int 0])), (qo7, .inr (7, [.ref qo43, .ref qo44, .ref qo45, .int 0, .int 0, .ref qo46, .ref qo47, .ref qo48])), (qo47, .inl (co16, 16, .inl (fun _ => 0)))] s.heap.size = A at hD  ⊢
  have hA : ∀ q : Nat, s.heap.size ≤ q → A q := fun q h => by rw [← hAe]; exact Or.inr h
  have hP : va_P (dC, dI) vwCl [(h0, .inr (12, [.ref qo1, .int 0, .ref qo2, .ref qo3, .ref qo4, .ref qo5, .ref qo6, .int 0, .ref qo7, .ref qo8, .ref qo9])), (qo8, .inr (11, [.ref qo7, .ref qo43, .int (-1), .int (-1), .int (-1), .ref qo57, .int 0, .int 0, .ref qo58, .ref qo59, .ref qo60, .ref qo61, .ref qo62, .ref qo63, .ref qo64, .ref qo65, .int 0, .int 0, .int 0, .int 0, .int 0])), (qo7, .inr (7, [.ref qo43, .ref qo44, .ref qo45, .int 0, .int 0, .ref qo46, .ref qo47, .ref qo48])), (qo47, .inl (co16, 16, .inl (fun _ => 0)))] s.heap := hP
  have hl := lv_entry ([.ref h0]) (n := 2) (Nat.le_of_ble_eq_true rfl)
  rw [lg_entry_eq]
  generalize (lg_sl ([.ref h0]) ++ List.replicate (2 - (lg_sl ([.ref h0])).length) Slot.unset).toArray = ls at hl ⊢
  have hl : lv_has ls 2 [(0, .ref h0)] := hl
  obtain ⟨H, hH⟩ : ∃ H : Heap, s.heap = H := ⟨_, rfl⟩
  rw [hH] at hP ⊢
  have hS : va_S A s.heap H [] := by rw [← hH]; exact va_S.rf
  obtain ⟨locs, hlo⟩ : ∃ locs : List Loc, locs = [] := ⟨_, rfl⟩
  rw [← hlo] at hS ⊢
  refine lv_aload_n hx hb dX12_verify_0 rfl (lv_at hl 0 rfl) ?_
  refine va_get (D := (dC, dI)) (ci := 12) (v := .ref qo8) (C := RX12) (T := TX12) (N := 11) hx hb hts uV_k1_X12 hown hK hP 0 rfl rfl 9 (by decide) (hts (.fieldLink RX12 62 "ClassMill" "verifier" "LClassMill$Verifier;") mw_k1_25) (fun _ h9 => h9) rfl dX12_verify_1 ?_
  have hPc := hP.sub (ws' := [(qo8, .inr (11, [.ref qo7, .ref qo43, .int (-1), .int (-1), .int (-1), .ref qo57, .int 0, .int 0, .ref qo58, .ref qo59, .ref qo60, .ref qo61, .ref qo62, .ref qo63, .ref qo64, .ref qo65, .int 0, .int 0, .int 0, .int 0, .int 0])), (qo7, .inr (7, [.ref qo43, .ref qo44, .ref qo45, .int 0, .int 0, .ref qo46, .ref qo47, .ref qo48]))]) [1, 2] rfl
  have hDc := hD.sub (ws' := [(qo8, .inr (11, [.ref qo7, .ref qo43, .int (-1), .int (-1), .int (-1), .ref qo57, .int 0, .int 0, .ref qo58, .ref qo59, .ref qo60, .ref qo61, .ref qo62, .ref qo63, .ref qo64, .ref qo65, .int 0, .int 0, .int 0, .int 0, .int 0])), (qo7, .inr (7, [.ref qo43, .ref qo44, .ref qo45, .int 0, .int 0, .ref qo46, .ref qo47, .ref qo48]))]) [1, 2] (by decide) rfl
  have hKc := hK.sub (tys' := []) [] rfl
  have hFc := va_free (wc := [(qo8, .inr (11, [.ref qo7, .ref qo43, .int (-1), .int (-1), .int (-1), .ref qo57, .int 0, .int 0, .ref qo58, .ref qo59, .ref qo60, .ref qo61, .ref qo62, .ref qo63, .ref qo64, .ref qo65, .int 0, .int 0, .int 0, .int 0, .int 0])), (qo7, .inr (7, [.ref qo43, .ref qo44, .ref qo45, .int 0, .int 0, .ref qo46, .ref qo47, .ref qo48]))]) hD hS hA [1, 2] rfl
  refine va_calli (va_runV (As := []) (rest := []) ⟨hx, hb, hml, hown, hts⟩ (kk_proveHeads l dC dI H.size qo8 qo7 qo43 qo57 qo58 qo59 qo60 qo61 qo62 qo63 qo64 qo65 qo44 qo45 qo46 qo47 qo48) (cwV 0 hts gv_k1_20 rfl rfl rfl (by decide +kernel) ⟨Nat.le_of_ble_eq_true rfl, Nat.le_of_ble_eq_true rfl⟩) ⟨fun a U g mk q => by obtain ⟨q0, q1, qP, qK, qD⟩ := q; exact ⟨q0, q1, qP, va_K.moved (u := U) (U := U.calling g mk a) (Vm.Alike.refl U.vm) qK, qD⟩, va_recv hKc hPc (ci := 11) (q0 := 0) rfl rfl, fun U hU hW => ⟨rfl, by rw [hU], by rw [hU]; exact hPc, va_K.moved hW.alike hKc, hDc.weaken (fun _ _ _ _ => trivial)⟩⟩ rfl rfl hl.1 rfl (lv_room (Nat.le_of_ble_eq_true rfl)) dX12_verify_4 ⟨Nat.le_of_ble_eq_true rfl, Nat.le_of_ble_eq_true rfl⟩) hS (fun q _ h => hFc q h) hFc ?_
  clear hS
  intro r_1 u t H1 locs ht hvm hw hB hz1 hk1 hS
  obtain ⟨⟩ := u
  obtain ⟨hP1, hK1, hD1⟩ := hB
  rw [ht] at hP1
  have hK1 := va_K.moved hvm.symm hK1
  try dsimp only at hw
  have hPD := va_join (wr := [(h0, .inr (12, [.ref qo1, .int 0, .ref qo2, .ref qo3, .ref qo4, .ref qo5, .ref qo6, .int 0, .ref qo7, .ref qo8, .ref qo9])), (qo47, .inl (co16, 16, .inl (fun _ => 0)))]) (w1 := [(qo8, .inr (11, [.ref qo7, .ref qo43, .int (-1), .int (-1), .int (-1), .ref qo57, .int 0, .int 0, .ref qo58, .ref qo59, .ref qo60, .ref qo61, .ref qo62, .ref qo63, .ref qo64, .ref qo65, .int 0, .int 0, .int 0, .int 0, .int 0])), (qo7, .inr (7, [.ref qo43, .ref qo44, .ref qo45, .int 0, .int 0, .ref qo46, .ref qo47, .ref qo48]))]) hP hD [1, 2] [0, 3] rfl rfl (by decide) (by decide) hk1 hFc hP1 hD1
  clear hP hD
  obtain ⟨hP, hD⟩ := hPD
  replace hK := (hK.sub (tys' := [(co16, .int)]) [0] rfl).app hK1
  clear hPc hDc hKc hFc hP1 hK1 hD1 hz1 hk1 ht hvm
  generalize H1 = H at hP hS ⊢
  replace hP : va_P (dC, dI) vwCl [(h0, .inr (12, [.ref qo1, .int 0, .ref qo2, .ref qo3, .ref qo4, .ref qo5, .ref qo6, .int 0, .ref qo7, .ref qo8, .ref qo9])), (qo47, .inl (co16, 16, .inl (fun _ => 0))), (qo8, .inr (11, [.ref qo7, .ref qo43, .int (-1), .int (-1), .int (-1), .ref qo57, .int 0, .int 0, .ref qo58, .ref qo59, .ref qo60, .ref qo61, .ref qo62, .ref qo63, .ref qo64, .ref qo65, .int 0, .int 0, .int 0, .int 0, .int 0])), (qo7, .inr (7, [.ref qo43, .ref qo44, .ref qo45, .int 0, .int 0, .ref qo46, .ref qo47, .ref qo48]))] H := hP
  replace hD : va_D A [(h0, .inr (12, [.ref qo1, .int 0, .ref qo2, .ref qo3, .ref qo4, .ref qo5, .ref qo6, .int 0, .ref qo7, .ref qo8, .ref qo9])), (qo47, .inl (co16, 16, .inl (fun _ => 0))), (qo8, .inr (11, [.ref qo7, .ref qo43, .int (-1), .int (-1), .int (-1), .ref qo57, .int 0, .int 0, .ref qo58, .ref qo59, .ref qo60, .ref qo61, .ref qo62, .ref qo63, .ref qo64, .ref qo65, .int 0, .int 0, .int 0, .int 0, .int 0])), (qo7, .inr (7, [.ref qo43, .ref qo44, .ref qo45, .int 0, .int 0, .ref qo46, .ref qo47, .ref qo48]))] := hD
  replace hK : va_K (dC, dI) vwCl [(co16, .int)] s := hK
  subst hw
  refine lv_istore_n (lv' := [(1, .int 0), (0, .ref h0)]) hx hb dX12_verify_7 rfl hl (by decide) rfl (fun ls hl => ?_)
  refine lv_iload_n hx hb dX12_verify_8 rfl (lv_at hl 0 rfl) ?_
  refine lv_if_ne (tgt := 20) hx hb dX12_verify_9 (by decide) (fun c_2 => (show False by revert c_2; decide).elim) (fun c_2 => ?_)
  refine lv_aload_n hx hb dX12_verify_12 rfl (lv_at hl 1 rfl) ?_
  refine va_get (D := (dC, dI)) (ci := 12) (v := .ref qo8) (C := RX12) (T := TX12) (N := 11) hx hb hts uV_k1_X12 hown hK hP 0 rfl rfl 9 (by decide) (hts (.fieldLink RX12 62 "ClassMill" "verifier" "LClassMill$Verifier;") mw_k1_25) (fun _ h9 => h9) rfl dX12_verify_13 ?_
  have hPc := hP.sub (ws' := [(qo8, .inr (11, [.ref qo7, .ref qo43, .int (-1), .int (-1), .int (-1), .ref qo57, .int 0, .int 0, .ref qo58, .ref qo59, .ref qo60, .ref qo61, .ref qo62, .ref qo63, .ref qo64, .ref qo65, .int 0, .int 0, .int 0, .int 0, .int 0])), (qo7, .inr (7, [.ref qo43, .ref qo44, .ref qo45, .int 0, .int 0, .ref qo46, .ref qo47, .ref qo48]))]) [2, 3] rfl
  have hDc := hD.sub (ws' := [(qo8, .inr (11, [.ref qo7, .ref qo43, .int (-1), .int (-1), .int (-1), .ref qo57, .int 0, .int 0, .ref qo58, .ref qo59, .ref qo60, .ref qo61, .ref qo62, .ref qo63, .ref qo64, .ref qo65, .int 0, .int 0, .int 0, .int 0, .int 0])), (qo7, .inr (7, [.ref qo43, .ref qo44, .ref qo45, .int 0, .int 0, .ref qo46, .ref qo47, .ref qo48]))]) [2, 3] (by decide) rfl
  have hKc := hK.sub (tys' := []) [] rfl
  have hFc := va_free (wc := [(qo8, .inr (11, [.ref qo7, .ref qo43, .int (-1), .int (-1), .int (-1), .ref qo57, .int 0, .int 0, .ref qo58, .ref qo59, .ref qo60, .ref qo61, .ref qo62, .ref qo63, .ref qo64, .ref qo65, .int 0, .int 0, .int 0, .int 0, .int 0])), (qo7, .inr (7, [.ref qo43, .ref qo44, .ref qo45, .int 0, .int 0, .ref qo46, .ref qo47, .ref qo48]))]) hD hS hA [2, 3] rfl
  refine va_calli (va_runV (As := []) (rest := []) ⟨hx, hb, hml, hown, hts⟩ (kk_proveMethods l dC dI H.size qo8 qo7 qo43 qo57 qo58 qo59 qo60 qo61 qo62 qo63 qo64 qo65 qo44 qo45 qo46 qo47 qo48) (cwV 0 hts gv_k1_21 rfl rfl rfl (by decide +kernel) ⟨Nat.le_of_ble_eq_true rfl, Nat.le_of_ble_eq_true rfl⟩) ⟨fun a U g mk q => by obtain ⟨q0, q1, qP, qK, qD⟩ := q; exact ⟨q0, q1, qP, va_K.moved (u := U) (U := U.calling g mk a) (Vm.Alike.refl U.vm) qK, qD⟩, va_recv hKc hPc (ci := 11) (q0 := 0) rfl rfl, fun U hU hW => ⟨rfl, by rw [hU], by rw [hU]; exact hPc, va_K.moved hW.alike hKc, hDc.weaken (fun _ _ _ _ => trivial)⟩⟩ rfl rfl hl.1 rfl (lv_room (Nat.le_of_ble_eq_true rfl)) dX12_verify_16 ⟨Nat.le_of_ble_eq_true rfl, Nat.le_of_ble_eq_true rfl⟩) hS (fun q _ h => hFc q h) hFc ?_
  clear hS
  intro r_3 u t H1 locs ht hvm hw hB hz1 hk1 hS
  obtain ⟨⟩ := u
  obtain ⟨hP1, hK1, hD1⟩ := hB
  rw [ht] at hP1
  have hK1 := va_K.moved hvm.symm hK1
  try dsimp only at hw
  have hPD := va_join (wr := [(h0, .inr (12, [.ref qo1, .int 0, .ref qo2, .ref qo3, .ref qo4, .ref qo5, .ref qo6, .int 0, .ref qo7, .ref qo8, .ref qo9])), (qo47, .inl (co16, 16, .inl (fun _ => 0)))]) (w1 := [(qo8, .inr (11, [.ref qo7, .ref qo43, .int (-1), .int (-1), .int (-1), .ref qo57, .int 0, .int 0, .ref qo58, .ref qo59, .ref qo60, .ref qo61, .ref qo62, .ref qo63, .ref qo64, .ref qo65, .int 0, .int 0, .int 0, .int 0, .int 0])), (qo7, .inr (7, [.ref qo43, .ref qo44, .ref qo45, .int 0, .int 0, .ref qo46, .ref qo47, .ref qo48]))]) hP hD [2, 3] [0, 1] rfl rfl (by decide) (by decide) hk1 hFc hP1 hD1
  clear hP hD
  obtain ⟨hP, hD⟩ := hPD
  replace hK := (hK.sub (tys' := [(co16, .int)]) [0] rfl).app hK1
  clear hPc hDc hKc hFc hP1 hK1 hD1 hz1 hk1 ht hvm
  generalize H1 = H at hP hS ⊢
  replace hP : va_P (dC, dI) vwCl [(h0, .inr (12, [.ref qo1, .int 0, .ref qo2, .ref qo3, .ref qo4, .ref qo5, .ref qo6, .int 0, .ref qo7, .ref qo8, .ref qo9])), (qo47, .inl (co16, 16, .inl (fun _ => 0))), (qo8, .inr (11, [.ref qo7, .ref qo43, .int (-1), .int (-1), .int (-1), .ref qo57, .int 0, .int 0, .ref qo58, .ref qo59, .ref qo60, .ref qo61, .ref qo62, .ref qo63, .ref qo64, .ref qo65, .int 0, .int 0, .int 0, .int 0, .int 0])), (qo7, .inr (7, [.ref qo43, .ref qo44, .ref qo45, .int 0, .int 0, .ref qo46, .ref qo47, .ref qo48]))] H := hP
  replace hD : va_D A [(h0, .inr (12, [.ref qo1, .int 0, .ref qo2, .ref qo3, .ref qo4, .ref qo5, .ref qo6, .int 0, .ref qo7, .ref qo8, .ref qo9])), (qo47, .inl (co16, 16, .inl (fun _ => 0))), (qo8, .inr (11, [.ref qo7, .ref qo43, .int (-1), .int (-1), .int (-1), .ref qo57, .int 0, .int 0, .ref qo58, .ref qo59, .ref qo60, .ref qo61, .ref qo62, .ref qo63, .ref qo64, .ref qo65, .int 0, .int 0, .int 0, .int 0, .int 0])), (qo7, .inr (7, [.ref qo43, .ref qo44, .ref qo45, .int 0, .int 0, .ref qo46, .ref qo47, .ref qo48]))] := hD
  replace hK : va_K (dC, dI) vwCl [(co16, .int)] s := hK
  subst hw
  refine lv_istore_n (lv' := [(1, .int 0), (0, .ref h0)]) hx hb dX12_verify_19 rfl hl (by decide) rfl (fun ls hl => ?_)
  refine lv_aload_n hx hb dX12_verify_20 rfl (lv_at hl 1 rfl) ?_
  refine va_get (D := (dC, dI)) (ci := 12) (v := .ref qo7) (C := RX12) (T := TX12) (N := 11) hx hb hts uV_k1_X12 hown hK hP 0 rfl rfl 8 (by decide) (hts (.fieldLink RX12 53 "ClassMill" "space" "LClassMill$Space;") mw_k1_24) (fun _ h9 => h9) rfl dX12_verify_21 ?_
  refine lv_iload_n hx hb dX12_verify_24 rfl (lv_at hl 0 rfl) ?_
  refine lv_if_ne (tgt := 32) hx hb dX12_verify_25 (by decide) (fun c_4 => (show False by revert c_4; decide).elim) (fun c_4 => ?_)
  refine lv_iconst (v := 1) hx hb dX12_verify_28 (by decide) ?_
  refine lv_goto (tgt := 33) hx hb dX12_verify_29 (by decide) ?_
  refine va_put (D := (dC, dI)) (ci := 7) (v := .int 1) (ty := .boolean) (C := RX7) (T := TX7) (N := 8) hx hb hts uV_k1_X7 tyX7 tyX7_ok nmX7 hown hK hP hD hS 3 rfl rfl 4 (by decide) (hts (.fieldLink RX12 165 "ClassMill$Space" "verified" "Z") mw_k1_30) (fun _ h9 => h9) rfl (by decide +kernel) rfl rfl (Nat.le_of_ble_eq_true rfl) dX12_verify_33 ?_
  clear hP hD hS
  intro H locs hP hD hS
  replace hP : va_P (dC, dI) vwCl [(h0, .inr (12, [.ref qo1, .int 0, .ref qo2, .ref qo3, .ref qo4, .ref qo5, .ref qo6, .int 0, .ref qo7, .ref qo8, .ref qo9])), (qo47, .inl (co16, 16, .inl (fun _ => 0))), (qo8, .inr (11, [.ref qo7, .ref qo43, .int (-1), .int (-1), .int (-1), .ref qo57, .int 0, .int 0, .ref qo58, .ref qo59, .ref qo60, .ref qo61, .ref qo62, .ref qo63, .ref qo64, .ref qo65, .int 0, .int 0, .int 0, .int 0, .int 0])), (qo7, .inr (7, [.ref qo43, .ref qo44, .ref qo45, .int 0, .int 1, .ref qo46, .ref qo47, .ref qo48]))] H := hP
  replace hD : va_D A [(h0, .inr (12, [.ref qo1, .int 0, .ref qo2, .ref qo3, .ref qo4, .ref qo5, .ref qo6, .int 0, .ref qo7, .ref qo8, .ref qo9])), (qo47, .inl (co16, 16, .inl (fun _ => 0))), (qo8, .inr (11, [.ref qo7, .ref qo43, .int (-1), .int (-1), .int (-1), .ref qo57, .int 0, .int 0, .ref qo58, .ref qo59, .ref qo60, .ref qo61, .ref qo62, .ref qo63, .ref qo64, .ref qo65, .int 0, .int 0, .int 0, .int 0, .int 0])), (qo7, .inr (7, [.ref qo43, .ref qo44, .ref qo45, .int 0, .int 1, .ref qo46, .ref qo47, .ref qo48]))] := hD
  refine lv_aload_n hx hb dX12_verify_36 rfl (lv_at hl 1 rfl) ?_
  refine va_get (D := (dC, dI)) (ci := 12) (v := .ref qo7) (C := RX12) (T := TX12) (N := 11) hx hb hts uV_k1_X12 hown hK hP 0 rfl rfl 8 (by decide) (hts (.fieldLink RX12 53 "ClassMill" "space" "LClassMill$Space;") mw_k1_24) (fun _ h9 => h9) rfl dX12_verify_37 ?_
  refine va_get (D := (dC, dI)) (ci := 7) (v := .int 1) (C := RX7) (T := TX7) (N := 8) hx hb hts uV_k1_X7 hown hK hP 3 rfl rfl 4 (by decide) (hts (.fieldLink RX12 165 "ClassMill$Space" "verified" "Z") mw_k1_30) (fun _ h9 => h9) rfl dX12_verify_40 ?_
  refine lv_if_eq (tgt := 53) hx hb dX12_verify_43 (by decide) (fun c_5 => (show False by revert c_5; decide).elim) (fun c_5 => ?_)
  refine lv_aload_n hx hb dX12_verify_46 rfl (lv_at hl 1 rfl) ?_
  refine va_get (D := (dC, dI)) (ci := 12) (v := .ref qo7) (C := RX12) (T := TX12) (N := 11) hx hb hts uV_k1_X12 hown hK hP 0 rfl rfl 8 (by decide) (hts (.fieldLink RX12 53 "ClassMill" "space" "LClassMill$Space;") mw_k1_24) (fun _ h9 => h9) rfl dX12_verify_47 ?_
  have hPc := hP.sub (ws' := [(qo7, .inr (7, [.ref qo43, .ref qo44, .ref qo45, .int 0, .int 1, .ref qo46, .ref qo47, .ref qo48])), (qo47, .inl (co16, 16, .inl (fun _ => 0)))]) [3, 1] rfl
  have hDc := hD.sub (ws' := [(qo7, .inr (7, [.ref qo43, .ref qo44, .ref qo45, .int 0, .int 1, .ref qo46, .ref qo47, .ref qo48])), (qo47, .inl (co16, 16, .inl (fun _ => 0)))]) [3, 1] (by decide) rfl
  have hKc := hK.sub (tys' := [(co16, .int)]) [0] rfl
  have hFc := va_free (wc := [(qo7, .inr (7, [.ref qo43, .ref qo44, .ref qo45, .int 0, .int 1, .ref qo46, .ref qo47, .ref qo48])), (qo47, .inl (co16, 16, .inl (fun _ => 0)))]) hD hS hA [3, 1] rfl
  refine va_callv (va_runV (As := []) (rest := []) ⟨hx, hb, hml, hown, hts⟩ (kk_linkAll l dC dI H.size qo7 qo43 qo44 qo45 qo46 qo47 qo48 co16) (cwV 0 hts gv_k1_22 rfl rfl rfl (by decide +kernel) ⟨Nat.le_of_ble_eq_true rfl, Nat.le_of_ble_eq_true rfl⟩) ⟨fun a U g mk q => by obtain ⟨q0, q1, qP, qK, qD⟩ := q; exact ⟨q0, q1, qP, va_K.moved (u := U) (U := U.calling g mk a) (Vm.Alike.refl U.vm) qK, qD⟩, va_recv hKc hPc (ci := 7) (q0 := 0) rfl rfl, fun U hU hW => ⟨rfl, by rw [hU], by rw [hU]; exact hPc, va_K.moved hW.alike hKc, hDc.weaken (fun _ _ _ _ => trivial)⟩⟩ rfl rfl hl.1 rfl (lv_room (Nat.le_of_ble_eq_true rfl)) dX12_verify_50 ⟨Nat.le_of_ble_eq_true rfl, Nat.le_of_ble_eq_true rfl⟩) hS (fun q _ h => hFc q h) hFc ?_
  clear hS
  intro u t H1 locs ht hvm hw hB hz1 hk1 hS
  obtain ⟨⟩ := u
  obtain ⟨hP1, hK1, hD1⟩ := hB
  rw [ht] at hP1
  have hK1 := va_K.moved hvm.symm hK1
  try dsimp only at hw
  have hPD := va_join (wr := [(h0, .inr (12, [.ref qo1, .int 0, .ref qo2, .ref qo3, .ref qo4, .ref qo5, .ref qo6, .int 0, .ref qo7, .ref qo8, .ref qo9])), (qo8, .inr (11, [.ref qo7, .ref qo43, .int (-1), .int (-1), .int (-1), .ref qo57, .int 0, .int 0, .ref qo58, .ref qo59, .ref qo60, .ref qo61, .ref qo62, .ref qo63, .ref qo64, .ref qo65, .int 0, .int 0, .int 0, .int 0, .int 0]))]) (w1 := [(qo7, .inr (7, [.ref qo43, .ref qo44, .ref qo45, .int 0, .int 1, .ref qo46, .ref qo47, .ref qo48]))]) hP hD [3, 1] [0, 2] rfl rfl (by decide) (by decide) hk1 hFc hP1 hD1
  clear hP hD
  obtain ⟨hP, hD⟩ := hPD
  replace hK := (hK.sub (tys' := []) [] rfl).app hK1
  clear hPc hDc hKc hFc hP1 hK1 hD1 hz1 hk1 ht hvm
  generalize H1 = H at hP hS ⊢
  replace hP : va_P (dC, dI) vwCl [(h0, .inr (12, [.ref qo1, .int 0, .ref qo2, .ref qo3, .ref qo4, .ref qo5, .ref qo6, .int 0, .ref qo7, .ref qo8, .ref qo9])), (qo8, .inr (11, [.ref qo7, .ref qo43, .int (-1), .int (-1), .int (-1), .ref qo57, .int 0, .int 0, .ref qo58, .ref qo59, .ref qo60, .ref qo61, .ref qo62, .ref qo63, .ref qo64, .ref qo65, .int 0, .int 0, .int 0, .int 0, .int 0])), (qo7, .inr (7, [.ref qo43, .ref qo44, .ref qo45, .int 0, .int 1, .ref qo46, .ref qo47, .ref qo48]))] H := hP
  replace hD : va_D A [(h0, .inr (12, [.ref qo1, .int 0, .ref qo2, .ref qo3, .ref qo4, .ref qo5, .ref qo6, .int 0, .ref qo7, .ref qo8, .ref qo9])), (qo8, .inr (11, [.ref qo7, .ref qo43, .int (-1), .int (-1), .int (-1), .ref qo57, .int 0, .int 0, .ref qo58, .ref qo59, .ref qo60, .ref qo61, .ref qo62, .ref qo63, .ref qo64, .ref qo65, .int 0, .int 0, .int 0, .int 0, .int 0])), (qo7, .inr (7, [.ref qo43, .ref qo44, .ref qo45, .int 0, .int 1, .ref qo46, .ref qo47, .ref qo48]))] := hD
  replace hK : va_K (dC, dI) vwCl [] s := hK
  refine lv_iload_n hx hb dX12_verify_53 rfl (lv_at hl 0 rfl) ?_
  have hP9 := hP.sub (ws' := []) [] rfl
  have hD9 := hD.sub (ws' := []) [] (by decide) rfl
  have hK9 := hK.sub (tys' := []) [] rfl
  exact W.iret hx hb hr (fun t ht hW => ⟨⟨(0), (), rfl, rfl, by rw [ht]; exact hP9, va_K.moved hW.alike hK9, hD9⟩, hS.F ht⟩) hS.2.2 dX12_verify_54
set_option maxHeartbeats 4000000 in
set_option maxRecDepth 100000 in
/-- ks_Image_next2 -/
theorem ks_Image_next2 (l : Launch) (dC : Nat → ClassId) (dI : Nat → Nat → Nat) (sz : Nat) (qo45 : Nat) (qo1 : Nat) (qo52 : Nat) (qo53 : Nat) (qo54 : Nat) (qo55 : Nat) (qo56 : Nat)  : Met l yX3_next (.code yX3_next cX3_next 1 (some .int) :: VS_k1) ({ frames := 0, cells := 0, slots := 0, locals := 0 }) (va_Pc [.ref qo45] (fun U => U.heap.size = sz ∧ va_P (dC, dI) vwCl [(qo45, .inr (3, [.ref qo1, .int 0, .int 0, .int (-1), .ref qo52, .ref qo53, .ref qo54, .int 0, .int 0, .int 0, .int 0, .ref qo55, .int 0, .ref qo56]))] U.heap ∧ va_K (dC, dI) vwCl [] U ∧ va_D (fun _ => True) [(qo45, .inr (3, [.ref qo1, .int 0, .int 0, .int (-1), .ref qo52, .ref qo53, .ref qo54, .int 0, .int 0, .int 0, .int 0, .ref qo55, .int 0, .ref qo56]))])) (va_Qi (fun (r : Int32) (u : Unit) => match u with | () => r = 0) (fun (u : Unit) (t : State) => match u with | () => va_P (dC, dI) vwCl [(qo45, .inr (3, [.ref qo1, .int 0, .int 0, .int 0, .ref qo52, .ref qo53, .ref qo54, .int 0, .int 0, .int 0, .int 0, .ref qo55, .int 0, .ref qo56]))] t.heap ∧ va_K (dC, dI) vwCl [] t ∧ va_D (va_A [(qo45, .inr (3, [.ref qo1, .int 0, .int 0, .int (-1), .ref qo52, .ref qo53, .ref qo54, .int 0, .int 0, .int 0, .int 0, .ref qo55, .int 0, .ref qo56]))] sz) [(qo45, .inr (3, [.ref qo1, .int 0, .int 0, .int 0, .ref qo52, .ref qo53, .ref qo54, .int 0, .int 0, .int 0, .int 0, .ref qo55, .int 0, .ref qo56]))]) (va_A [(qo45, .inr (3, [.ref qo1, .int 0, .int 0, .int (-1), .ref qo52, .ref qo53, .ref qo54, .int 0, .int 0, .int 0, .int 0, .ref qo55, .int 0, .ref qo56]))] sz)) 0 0 (va_A [(qo45, .inr (3, [.ref qo1, .int 0, .int 0, .int (-1), .ref qo52, .ref qo53, .ref qo54, .int 0, .int 0, .int 0, .int 0, .ref qo55, .int 0, .ref qo56]))] sz) := by
  refine Met.ofW (cc := cX3_next) (maxL := 1) (ret := (some .int)) (by decide) rfl ?_
  intro p e s m args below meth c s₁ B hml hv
  obtain ⟨rfl, hsz, hP, hK, hD0⟩ := hv
  have hx := B.exec
  have hb := B.bytes
  have hr := B.returns
  have hts := atoms_spec (ws := (.code yX3_next cX3_next 1 (some .int) :: VS_k1)) B.pre
  replace hts := fun w (h : w ∈ VS_k1) => hts w (List.mem_cons_of_mem _ h)
  have hown : s.vm.findClass RX3 = some m.cls := findClass_of_methodNamed B.named
  have hlocks := B.notSynchronized
  subst hsz
  have hD := hD0.self (sz := s.heap.size)
  generalize hAe : va_A [(qo45, .inr (3, [.ref qo1, .int 0, .int 0, .int (-1), .ref qo52, .ref qo53, .ref qo54, .int 0, .int 0, .int 0, .int 0, .ref qo55, .int 0, .ref qo56]))] s.heap.size = A at hD  ⊢
  have hA : ∀ q : Nat, s.heap.size ≤ q → A q := fun q h => by rw [← hAe]; exact Or.inr h
  have hP : va_P (dC, dI) vwCl [(qo45, .inr (3, [.ref qo1, .int 0, .int 0, .int (-1), .ref qo52, .ref qo53, .ref qo54, .int 0, .int 0, .int 0, .int 0, .ref qo55, .int 0, .ref qo56]))] s.heap := hP
  have hl := lv_entry ([.ref qo45]) (n := 1) (Nat.le_of_ble_eq_true rfl)
  rw [lg_entry_eq]
  generalize (lg_sl ([.ref qo45]) ++ List.replicate (1 - (lg_sl ([.ref qo45])).length) Slot.unset).toArray = ls at hl ⊢
  have hl : lv_has ls 1 [(0, .ref qo45)] := hl
  obtain ⟨H, hH⟩ : ∃ H : Heap, s.heap = H := ⟨_, rfl⟩
  rw [hH] at hP ⊢
  have hS : va_S A s.heap H [] := by rw [← hH]; exact va_S.rf
  obtain ⟨locs, hlo⟩ : ∃ locs : List Loc, locs = [] := ⟨_, rfl⟩
  rw [← hlo] at hS ⊢
  refine lv_aload_n hx hb dX3_next_0 rfl (lv_at hl 0 rfl) ?_
  refine va_get (D := (dC, dI)) (ci := 3) (v := .int 0) (C := RX3) (T := TX3) (N := 14) hx hb hts uV_k1_X3 hown hK hP 0 rfl rfl 2 (by decide) (hts (.fieldLink RX3 43 "ClassMill$Image" "pos" "I") mw_k1_100) (fun _ h9 => h9) rfl dX3_next_1 ?_
  refine lv_aload_n hx hb dX3_next_4 rfl (lv_at hl 0 rfl) ?_
  refine va_get (D := (dC, dI)) (ci := 3) (v := .int 0) (C := RX3) (T := TX3) (N := 14) hx hb hts uV_k1_X3 hown hK hP 0 rfl rfl 1 (by decide) (hts (.fieldLink RX3 39 "ClassMill$Image" "size" "I") mw_k1_101) (fun _ h9 => h9) rfl dX3_next_5 ?_
  refine lv_icmp_lt (tgt := 36) hx hb dX3_next_8 (by decide) (fun c_1 => (show False by revert c_1; decide).elim) (fun c_1 => ?_)
  refine lv_aload_n hx hb dX3_next_11 rfl (lv_at hl 0 rfl) ?_
  refine lv_aload_n hx hb dX3_next_12 rfl (lv_at hl 0 rfl) ?_
  refine va_get (D := (dC, dI)) (ci := 3) (v := .int (-1)) (C := RX3) (T := TX3) (N := 14) hx hb hts uV_k1_X3 hown hK hP 0 rfl rfl 3 (by decide) (hts (.fieldLink RX3 46 "ClassMill$Image" "form" "I") mw_k1_102) (fun _ h9 => h9) rfl dX3_next_13 ?_
  refine lv_iconst (v := (-1)) hx hb dX3_next_16 (by decide) ?_
  refine lv_icmp_ne (tgt := 27) hx hb dX3_next_17 (by decide) (fun c_2 => (show False by revert c_2; decide).elim) (fun c_2 => ?_)
  refine lv_aload_n hx hb dX3_next_20 rfl (lv_at hl 0 rfl) ?_
  refine va_get (D := (dC, dI)) (ci := 3) (v := .int 0) (C := RX3) (T := TX3) (N := 14) hx hb hts uV_k1_X3 hown hK hP 0 rfl rfl 1 (by decide) (hts (.fieldLink RX3 39 "ClassMill$Image" "size" "I") mw_k1_101) (fun _ h9 => h9) rfl dX3_next_21 ?_
  refine lv_goto (tgt := 31) hx hb dX3_next_24 (by decide) ?_
  refine va_put (D := (dC, dI)) (ci := 3) (v := .int 0) (ty := .int) (C := RX3) (T := TX3) (N := 14) hx hb hts uV_k1_X3 tyX3 tyX3_ok nmX3 hown hK hP hD hS 0 rfl rfl 3 (by decide) (hts (.fieldLink RX3 46 "ClassMill$Image" "form" "I") mw_k1_102) (fun _ h9 => h9) rfl (by decide +kernel) rfl rfl (Nat.le_of_ble_eq_true rfl) dX3_next_31 ?_
  clear hP hD hS
  intro H locs hP hD hS
  replace hP : va_P (dC, dI) vwCl [(qo45, .inr (3, [.ref qo1, .int 0, .int 0, .int 0, .ref qo52, .ref qo53, .ref qo54, .int 0, .int 0, .int 0, .int 0, .ref qo55, .int 0, .ref qo56]))] H := hP
  replace hD : va_D A [(qo45, .inr (3, [.ref qo1, .int 0, .int 0, .int 0, .ref qo52, .ref qo53, .ref qo54, .int 0, .int 0, .int 0, .int 0, .ref qo55, .int 0, .ref qo56]))] := hD
  refine lv_iconst (v := 0) hx hb dX3_next_34 (by decide) ?_
  have hP9 := hP.sub (ws' := [(qo45, .inr (3, [.ref qo1, .int 0, .int 0, .int 0, .ref qo52, .ref qo53, .ref qo54, .int 0, .int 0, .int 0, .int 0, .ref qo55, .int 0, .ref qo56]))]) [0] rfl
  have hD9 := hD.sub (ws' := [(qo45, .inr (3, [.ref qo1, .int 0, .int 0, .int 0, .ref qo52, .ref qo53, .ref qo54, .int 0, .int 0, .int 0, .int 0, .ref qo55, .int 0, .ref qo56]))]) [0] (by decide) rfl
  have hK9 := hK.sub (tys' := []) [] rfl
  exact W.iret hx hb hr (fun t ht hW => ⟨⟨(0), (), rfl, rfl, by rw [ht]; exact hP9, va_K.moved hW.alike hK9, hD9⟩, hS.F ht⟩) hS.2.2 dX3_next_35
set_option maxHeartbeats 4000000 in
set_option maxRecDepth 100000 in
/-- ks_Image_bad3 -/
theorem ks_Image_bad3 (l : Launch) (dC : Nat → ClassId) (dI : Nat → Nat → Nat) (sz : Nat) (qo45 : Nat) (qo1 : Nat) (qo52 : Nat) (qo53 : Nat) (qo54 : Nat) (qo55 : Nat) (qo56 : Nat)  : Met l yX3_bad (.code yX3_bad cX3_bad 2 none :: VS_k1) ({ frames := 0, cells := 0, slots := 0, locals := 0 }) (va_Pc [.ref qo45, .int (-1)] (fun U => U.heap.size = sz ∧ va_P (dC, dI) vwCl [(qo45, .inr (3, [.ref qo1, .int 0, .int 0, .int 0, .ref qo52, .ref qo53, .ref qo54, .int 0, .int 0, .int 0, .int 0, .ref qo55, .int 0, .ref qo56]))] U.heap ∧ va_K (dC, dI) vwCl [] U ∧ va_D (fun _ => True) [(qo45, .inr (3, [.ref qo1, .int 0, .int 0, .int 0, .ref qo52, .ref qo53, .ref qo54, .int 0, .int 0, .int 0, .int 0, .ref qo55, .int 0, .ref qo56]))])) (va_Qv (fun (u : Unit) => match u with | () => True) (fun (u : Unit) (t : State) => match u with | () => va_P (dC, dI) vwCl [(qo45, .inr (3, [.ref qo1, .int 0, .int 0, .int 0, .ref qo52, .ref qo53, .ref qo54, .int 0, .int 0, .int 0, .int 0, .ref qo55, .int 0, .ref qo56]))] t.heap ∧ va_K (dC, dI) vwCl [] t ∧ va_D (va_A [(qo45, .inr (3, [.ref qo1, .int 0, .int 0, .int 0, .ref qo52, .ref qo53, .ref qo54, .int 0, .int 0, .int 0, .int 0, .ref qo55, .int 0, .ref qo56]))] sz) [(qo45, .inr (3, [.ref qo1, .int 0, .int 0, .int 0, .ref qo52, .ref qo53, .ref qo54, .int 0, .int 0, .int 0, .int 0, .ref qo55, .int 0, .ref qo56]))]) (va_A [(qo45, .inr (3, [.ref qo1, .int 0, .int 0, .int 0, .ref qo52, .ref qo53, .ref qo54, .int 0, .int 0, .int 0, .int 0, .ref qo55, .int 0, .ref qo56]))] sz)) 0 0 (va_A [(qo45, .inr (3, [.ref qo1, .int 0, .int 0, .int 0, .ref qo52, .ref qo53, .ref qo54, .int 0, .int 0, .int 0, .int 0, .ref qo55, .int 0, .ref qo56]))] sz) := by
  refine Met.ofW (cc := cX3_bad) (maxL := 2) (ret := none) (by decide) rfl ?_
  intro p e s m args below meth c s₁ B hml hv
  obtain ⟨rfl, hsz, hP, hK, hD0⟩ := hv
  have hx := B.exec
  have hb := B.bytes
  have hr := B.returns
  have hts := atoms_spec (ws := (.code yX3_bad cX3_bad 2 none :: VS_k1)) B.pre
  replace hts := fun w (h : w ∈ VS_k1) => hts w (List.mem_cons_of_mem _ h)
  have hown : s.vm.findClass RX3 = some m.cls := findClass_of_methodNamed B.named
  have hlocks := B.notSynchronized
  subst hsz
  have hD := hD0.self (sz := s.heap.size)
  generalize hAe : va_A [(qo45, .inr (3, [.ref qo1, .int 0, .int 0, .int 0, .ref qo52, .ref qo53, .ref qo54, .int 0, .int 0, .int 0, .int 0, .ref qo55, .int 0, .ref qo56]))] s.heap.size = A at hD  ⊢
  have hA : ∀ q : Nat, s.heap.size ≤ q → A q := fun q h => by rw [← hAe]; exact Or.inr h
  have hP : va_P (dC, dI) vwCl [(qo45, .inr (3, [.ref qo1, .int 0, .int 0, .int 0, .ref qo52, .ref qo53, .ref qo54, .int 0, .int 0, .int 0, .int 0, .ref qo55, .int 0, .ref qo56]))] s.heap := hP
  have hl := lv_entry ([.ref qo45, .int (-1)]) (n := 2) (Nat.le_of_ble_eq_true rfl)
  rw [lg_entry_eq]
  generalize (lg_sl ([.ref qo45, .int (-1)]) ++ List.replicate (2 - (lg_sl ([.ref qo45, .int (-1)])).length) Slot.unset).toArray = ls at hl ⊢
  have hl : lv_has ls 2 [(0, .ref qo45), (1, .int (-1))] := hl
  obtain ⟨H, hH⟩ : ∃ H : Heap, s.heap = H := ⟨_, rfl⟩
  rw [hH] at hP ⊢
  have hS : va_S A s.heap H [] := by rw [← hH]; exact va_S.rf
  obtain ⟨locs, hlo⟩ : ∃ locs : List Loc, locs = [] := ⟨_, rfl⟩
  rw [← hlo] at hS ⊢
  refine lv_aload_n hx hb dX3_bad_0 rfl (lv_at hl 0 rfl) ?_
  refine va_get (D := (dC, dI)) (ci := 3) (v := .int 0) (C := RX3) (T := TX3) (N := 14) hx hb hts uV_k1_X3 hown hK hP 0 rfl rfl 3 (by decide) (hts (.fieldLink RX3 46 "ClassMill$Image" "form" "I") mw_k1_102) (fun _ h9 => h9) rfl dX3_bad_1 ?_
  refine lv_iconst (v := (-1)) hx hb dX3_bad_4 (by decide) ?_
  refine lv_icmp_ne (tgt := 13) hx hb dX3_bad_5 (by decide) (fun c_1 => ?_) (fun c_1 => (show False by revert c_1; decide).elim)
  have hP9 := hP.sub (ws' := [(qo45, .inr (3, [.ref qo1, .int 0, .int 0, .int 0, .ref qo52, .ref qo53, .ref qo54, .int 0, .int 0, .int 0, .int 0, .ref qo55, .int 0, .ref qo56]))]) [0] rfl
  have hD9 := hD.sub (ws' := [(qo45, .inr (3, [.ref qo1, .int 0, .int 0, .int 0, .ref qo52, .ref qo53, .ref qo54, .int 0, .int 0, .int 0, .int 0, .ref qo55, .int 0, .ref qo56]))]) [0] (by decide) rfl
  have hK9 := hK.sub (tys' := []) [] rfl
  exact W.vret hx hb hr (fun t ht hW => ⟨⟨(), rfl, trivial, by rw [ht]; exact hP9, va_K.moved hW.alike hK9, hD9⟩, hS.F ht⟩) hS.2.2 dX3_bad_13
set_option maxHeartbeats 4000000 in
set_option maxRecDepth 100000 in
/-- ks_Image_nextUpTo1 -/
theorem ks_Image_nextUpTo1 (l : Launch) (dC : Nat → ClassId) (dI : Nat → Nat → Nat) (sz : Nat) (qo45 : Nat) (qo1 : Nat) (qo52 : Nat) (qo53 : Nat) (qo54 : Nat) (qo55 : Nat) (qo56 : Nat)  : Met l yX3_nextUpTo (.code yX3_nextUpTo cX3_nextUpTo 4 (some .int) :: VS_k1) ({ frames := 1, cells := 0, slots := 0, locals := 21 }) (va_Pc [.ref qo45, .int 74, .int 74] (fun U => U.heap.size = sz ∧ va_P (dC, dI) vwCl [(qo45, .inr (3, [.ref qo1, .int 0, .int 0, .int (-1), .ref qo52, .ref qo53, .ref qo54, .int 0, .int 0, .int 0, .int 0, .ref qo55, .int 0, .ref qo56]))] U.heap ∧ va_K (dC, dI) vwCl [] U ∧ va_D (fun _ => True) [(qo45, .inr (3, [.ref qo1, .int 0, .int 0, .int (-1), .ref qo52, .ref qo53, .ref qo54, .int 0, .int 0, .int 0, .int 0, .ref qo55, .int 0, .ref qo56]))])) (va_Qi (fun (r : Int32) (u : Unit) => match u with | () => r = 0) (fun (u : Unit) (t : State) => match u with | () => va_P (dC, dI) vwCl [(qo45, .inr (3, [.ref qo1, .int 0, .int 0, .int 0, .ref qo52, .ref qo53, .ref qo54, .int 0, .int 0, .int 0, .int 0, .ref qo55, .int 0, .ref qo56]))] t.heap ∧ va_K (dC, dI) vwCl [] t ∧ va_D (va_A [(qo45, .inr (3, [.ref qo1, .int 0, .int 0, .int (-1), .ref qo52, .ref qo53, .ref qo54, .int 0, .int 0, .int 0, .int 0, .ref qo55, .int 0, .ref qo56]))] sz) [(qo45, .inr (3, [.ref qo1, .int 0, .int 0, .int 0, .ref qo52, .ref qo53, .ref qo54, .int 0, .int 0, .int 0, .int 0, .ref qo55, .int 0, .ref qo56]))]) (va_A [(qo45, .inr (3, [.ref qo1, .int 0, .int 0, .int (-1), .ref qo52, .ref qo53, .ref qo54, .int 0, .int 0, .int 0, .int 0, .ref qo55, .int 0, .ref qo56]))] sz)) 0 0 (va_A [(qo45, .inr (3, [.ref qo1, .int 0, .int 0, .int (-1), .ref qo52, .ref qo53, .ref qo54, .int 0, .int 0, .int 0, .int 0, .ref qo55, .int 0, .ref qo56]))] sz) := by
  refine Met.ofW (cc := cX3_nextUpTo) (maxL := 4) (ret := (some .int)) (by decide) rfl ?_
  intro p e s m args below meth c s₁ B hml hv
  obtain ⟨rfl, hsz, hP, hK, hD0⟩ := hv
  have hx := B.exec
  have hb := B.bytes
  have hr := B.returns
  have hts := atoms_spec (ws := (.code yX3_nextUpTo cX3_nextUpTo 4 (some .int) :: VS_k1)) B.pre
  replace hts := fun w (h : w ∈ VS_k1) => hts w (List.mem_cons_of_mem _ h)
  have hown : s.vm.findClass RX3 = some m.cls := findClass_of_methodNamed B.named
  have hlocks := B.notSynchronized
  subst hsz
  have hD := hD0.self (sz := s.heap.size)
  generalize hAe : va_A [(qo45, .inr (3, [.ref qo1, .int 0, .int 0, .int (-1), .ref qo52, .ref qo53, .ref qo54, .int 0, .int 0, .int 0, .int 0, .ref qo55, .int 0, .ref qo56]))] s.heap.size = A at hD  ⊢
  have hA : ∀ q : Nat, s.heap.size ≤ q → A q := fun q h => by rw [← hAe]; exact Or.inr h
  have hP : va_P (dC, dI) vwCl [(qo45, .inr (3, [.ref qo1, .int 0, .int 0, .int (-1), .ref qo52, .ref qo53, .ref qo54, .int 0, .int 0, .int 0, .int 0, .ref qo55, .int 0, .ref qo56]))] s.heap := hP
  have hl := lv_entry ([.ref qo45, .int 74, .int 74]) (n := 4) (Nat.le_of_ble_eq_true rfl)
  rw [lg_entry_eq]
  generalize (lg_sl ([.ref qo45, .int 74, .int 74]) ++ List.replicate (4 - (lg_sl ([.ref qo45, .int 74, .int 74])).length) Slot.unset).toArray = ls at hl ⊢
  have hl : lv_has ls 4 [(0, .ref qo45), (1, .int 74), (2, .int 74)] := hl
  obtain ⟨H, hH⟩ : ∃ H : Heap, s.heap = H := ⟨_, rfl⟩
  rw [hH] at hP ⊢
  have hS : va_S A s.heap H [] := by rw [← hH]; exact va_S.rf
  obtain ⟨locs, hlo⟩ : ∃ locs : List Loc, locs = [] := ⟨_, rfl⟩
  rw [← hlo] at hS ⊢
  refine lv_aload_n hx hb dX3_nextUpTo_0 rfl (lv_at hl 0 rfl) ?_
  have hPc := hP.sub (ws' := [(qo45, .inr (3, [.ref qo1, .int 0, .int 0, .int (-1), .ref qo52, .ref qo53, .ref qo54, .int 0, .int 0, .int 0, .int 0, .ref qo55, .int 0, .ref qo56]))]) [0] rfl
  have hDc := hD.sub (ws' := [(qo45, .inr (3, [.ref qo1, .int 0, .int 0, .int (-1), .ref qo52, .ref qo53, .ref qo54, .int 0, .int 0, .int 0, .int 0, .ref qo55, .int 0, .ref qo56]))]) [0] (by decide) rfl
  have hKc := hK.sub (tys' := []) [] rfl
  have hFc := va_free (wc := [(qo45, .inr (3, [.ref qo1, .int 0, .int 0, .int (-1), .ref qo52, .ref qo53, .ref qo54, .int 0, .int 0, .int 0, .int 0, .ref qo55, .int 0, .ref qo56]))]) hD hS hA [0] rfl
  refine va_calli (va_runV (As := []) (rest := []) ⟨hx, hb, hml, hown, hts⟩ (ks_Image_next2 l dC dI H.size qo45 qo1 qo52 qo53 qo54 qo55 qo56) (cwV 0 hts gv_k1_23 rfl rfl rfl (by decide +kernel) ⟨Nat.le_of_ble_eq_true rfl, Nat.le_of_ble_eq_true rfl⟩) ⟨fun a U g mk q => by obtain ⟨q0, q1, qP, qK, qD⟩ := q; exact ⟨q0, q1, qP, va_K.moved (u := U) (U := U.calling g mk a) (Vm.Alike.refl U.vm) qK, qD⟩, va_recv hKc hPc (ci := 3) (q0 := 0) rfl rfl, fun U hU hW => ⟨rfl, by rw [hU], by rw [hU]; exact hPc, va_K.moved hW.alike hKc, hDc.weaken (fun _ _ _ _ => trivial)⟩⟩ rfl rfl hl.1 rfl (lv_room (Nat.le_of_ble_eq_true rfl)) dX3_nextUpTo_1 ⟨Nat.le_of_ble_eq_true rfl, Nat.le_of_ble_eq_true rfl⟩) hS (fun q _ h => hFc q h) hFc ?_
  clear hS
  intro r_1 u t H1 locs ht hvm hw hB hz1 hk1 hS
  obtain ⟨⟩ := u
  obtain ⟨hP1, hK1, hD1⟩ := hB
  rw [ht] at hP1
  have hK1 := va_K.moved hvm.symm hK1
  try dsimp only at hw
  have hPD := va_join (wr := []) (w1 := [(qo45, .inr (3, [.ref qo1, .int 0, .int 0, .int 0, .ref qo52, .ref qo53, .ref qo54, .int 0, .int 0, .int 0, .int 0, .ref qo55, .int 0, .ref qo56]))]) hP hD [0] [] rfl rfl (by decide) (by decide) hk1 hFc hP1 hD1
  clear hP hD
  obtain ⟨hP, hD⟩ := hPD
  replace hK := (hK.sub (tys' := []) [] rfl).app hK1
  clear hPc hDc hKc hFc hP1 hK1 hD1 hz1 hk1 ht hvm
  generalize H1 = H at hP hS ⊢
  replace hP : va_P (dC, dI) vwCl [(qo45, .inr (3, [.ref qo1, .int 0, .int 0, .int 0, .ref qo52, .ref qo53, .ref qo54, .int 0, .int 0, .int 0, .int 0, .ref qo55, .int 0, .ref qo56]))] H := hP
  replace hD : va_D A [(qo45, .inr (3, [.ref qo1, .int 0, .int 0, .int 0, .ref qo52, .ref qo53, .ref qo54, .int 0, .int 0, .int 0, .int 0, .ref qo55, .int 0, .ref qo56]))] := hD
  replace hK : va_K (dC, dI) vwCl [] s := hK
  subst hw
  refine lv_istore_n (lv' := [(3, .int 0), (0, .ref qo45), (1, .int 74), (2, .int 74)]) hx hb dX3_nextUpTo_4 rfl hl (by decide) rfl (fun ls hl => ?_)
  refine lv_iload_n hx hb dX3_nextUpTo_5 rfl (lv_at hl 0 rfl) ?_
  refine lv_iload_n hx hb dX3_nextUpTo_6 rfl (lv_at hl 2 rfl) ?_
  refine lv_icmp_lt (tgt := 15) hx hb dX3_nextUpTo_7 (by decide) (fun c_2 => ?_) (fun c_2 => (show False by revert c_2; decide).elim)
  refine lv_aload_n hx hb dX3_nextUpTo_15 rfl (lv_at hl 1 rfl) ?_
  refine lv_aload_n hx hb dX3_nextUpTo_16 rfl (lv_at hl 1 rfl) ?_
  refine va_get (D := (dC, dI)) (ci := 3) (v := .int 0) (C := RX3) (T := TX3) (N := 14) hx hb hts uV_k1_X3 hown hK hP 0 rfl rfl 2 (by decide) (hts (.fieldLink RX3 43 "ClassMill$Image" "pos" "I") mw_k1_100) (fun _ h9 => h9) rfl dX3_nextUpTo_17 ?_
  refine lv_iconst (v := 1) hx hb dX3_nextUpTo_20 (by decide) ?_
  refine lv_isub hx hb dX3_nextUpTo_21 ?_
  refine lv_topi (fun y_3 ey_3 => ?_)
  obtain rfl : y_3 = (-1) := ey_3.trans (by decide)
  have hPc := hP.sub (ws' := [(qo45, .inr (3, [.ref qo1, .int 0, .int 0, .int 0, .ref qo52, .ref qo53, .ref qo54, .int 0, .int 0, .int 0, .int 0, .ref qo55, .int 0, .ref qo56]))]) [0] rfl
  have hDc := hD.sub (ws' := [(qo45, .inr (3, [.ref qo1, .int 0, .int 0, .int 0, .ref qo52, .ref qo53, .ref qo54, .int 0, .int 0, .int 0, .int 0, .ref qo55, .int 0, .ref qo56]))]) [0] (by decide) rfl
  have hKc := hK.sub (tys' := []) [] rfl
  have hFc := va_free (wc := [(qo45, .inr (3, [.ref qo1, .int 0, .int 0, .int 0, .ref qo52, .ref qo53, .ref qo54, .int 0, .int 0, .int 0, .int 0, .ref qo55, .int 0, .ref qo56]))]) hD hS hA [0] rfl
  refine va_callv (va_runV (As := [.int (-1)]) (rest := []) ⟨hx, hb, hml, hown, hts⟩ (ks_Image_bad3 l dC dI H.size qo45 qo1 qo52 qo53 qo54 qo55 qo56) (cwV 1 hts gv_k1_24 rfl rfl rfl (by decide +kernel) ⟨Nat.le_of_ble_eq_true rfl, Nat.le_of_ble_eq_true rfl⟩) ⟨fun a U g mk q => by obtain ⟨q0, q1, qP, qK, qD⟩ := q; exact ⟨q0, q1, qP, va_K.moved (u := U) (U := U.calling g mk a) (Vm.Alike.refl U.vm) qK, qD⟩, va_recv hKc hPc (ci := 3) (q0 := 0) rfl rfl, fun U hU hW => ⟨rfl, by rw [hU], by rw [hU]; exact hPc, va_K.moved hW.alike hKc, hDc.weaken (fun _ _ _ _ => trivial)⟩⟩ rfl rfl hl.1 rfl (lv_room (Nat.le_of_ble_eq_true rfl)) dX3_nextUpTo_22 ⟨Nat.le_of_ble_eq_true rfl, Nat.le_of_ble_eq_true rfl⟩) hS (fun q _ h => hFc q h) hFc ?_
  clear hS
  intro u t H1 locs ht hvm hw hB hz1 hk1 hS
  obtain ⟨⟩ := u
  obtain ⟨hP1, hK1, hD1⟩ := hB
  rw [ht] at hP1
  have hK1 := va_K.moved hvm.symm hK1
  try dsimp only at hw
  have hPD := va_join (wr := []) (w1 := [(qo45, .inr (3, [.ref qo1, .int 0, .int 0, .int 0, .ref qo52, .ref qo53, .ref qo54, .int 0, .int 0, .int 0, .int 0, .ref qo55, .int 0, .ref qo56]))]) hP hD [0] [] rfl rfl (by decide) (by decide) hk1 hFc hP1 hD1
  clear hP hD
  obtain ⟨hP, hD⟩ := hPD
  replace hK := (hK.sub (tys' := []) [] rfl).app hK1
  clear hPc hDc hKc hFc hP1 hK1 hD1 hz1 hk1 ht hvm
  generalize H1 = H at hP hS ⊢
  replace hP : va_P (dC, dI) vwCl [(qo45, .inr (3, [.ref qo1, .int 0, .int 0, .int 0, .ref qo52, .ref qo53, .ref qo54, .int 0, .int 0, .int 0, .int 0, .ref qo55, .int 0, .ref qo56]))] H := hP
  replace hD : va_D A [(qo45, .inr (3, [.ref qo1, .int 0, .int 0, .int 0, .ref qo52, .ref qo53, .ref qo54, .int 0, .int 0, .int 0, .int 0, .ref qo55, .int 0, .ref qo56]))] := hD
  replace hK : va_K (dC, dI) vwCl [] s := hK
  refine lv_iload_n hx hb dX3_nextUpTo_25 rfl (lv_at hl 0 rfl) ?_
  have hP9 := hP.sub (ws' := [(qo45, .inr (3, [.ref qo1, .int 0, .int 0, .int 0, .ref qo52, .ref qo53, .ref qo54, .int 0, .int 0, .int 0, .int 0, .ref qo55, .int 0, .ref qo56]))]) [0] rfl
  have hD9 := hD.sub (ws' := [(qo45, .inr (3, [.ref qo1, .int 0, .int 0, .int 0, .ref qo52, .ref qo53, .ref qo54, .int 0, .int 0, .int 0, .int 0, .ref qo55, .int 0, .ref qo56]))]) [0] (by decide) rfl
  have hK9 := hK.sub (tys' := []) [] rfl
  exact W.iret hx hb hr (fun t ht hW => ⟨⟨(0), (), rfl, rfl, by rw [ht]; exact hP9, va_K.moved hW.alike hK9, hD9⟩, hS.F ht⟩) hS.2.2 dX3_nextUpTo_26
set_option maxHeartbeats 4000000 in
set_option maxRecDepth 100000 in
/-- ks_Image_next5 -/
theorem ks_Image_next5 (l : Launch) (dC : Nat → ClassId) (dI : Nat → Nat → Nat) (sz : Nat) (qo45 : Nat) (qo1 : Nat) (qo52 : Nat) (qo53 : Nat) (qo54 : Nat) (qo55 : Nat) (qo56 : Nat)  : Met l yX3_next (.code yX3_next cX3_next 1 (some .int) :: VS_k1) ({ frames := 0, cells := 0, slots := 0, locals := 0 }) (va_Pc [.ref qo45] (fun U => U.heap.size = sz ∧ va_P (dC, dI) vwCl [(qo45, .inr (3, [.ref qo1, .int 0, .int 0, .int 0, .ref qo52, .ref qo53, .ref qo54, .int 0, .int 0, .int 0, .int 0, .ref qo55, .int 0, .ref qo56]))] U.heap ∧ va_K (dC, dI) vwCl [] U ∧ va_D (fun _ => True) [(qo45, .inr (3, [.ref qo1, .int 0, .int 0, .int 0, .ref qo52, .ref qo53, .ref qo54, .int 0, .int 0, .int 0, .int 0, .ref qo55, .int 0, .ref qo56]))])) (va_Qi (fun (r : Int32) (u : Unit) => match u with | () => r = 0) (fun (u : Unit) (t : State) => match u with | () => va_P (dC, dI) vwCl [(qo45, .inr (3, [.ref qo1, .int 0, .int 0, .int 0, .ref qo52, .ref qo53, .ref qo54, .int 0, .int 0, .int 0, .int 0, .ref qo55, .int 0, .ref qo56]))] t.heap ∧ va_K (dC, dI) vwCl [] t ∧ va_D (va_A [(qo45, .inr (3, [.ref qo1, .int 0, .int 0, .int 0, .ref qo52, .ref qo53, .ref qo54, .int 0, .int 0, .int 0, .int 0, .ref qo55, .int 0, .ref qo56]))] sz) [(qo45, .inr (3, [.ref qo1, .int 0, .int 0, .int 0, .ref qo52, .ref qo53, .ref qo54, .int 0, .int 0, .int 0, .int 0, .ref qo55, .int 0, .ref qo56]))]) (va_A [(qo45, .inr (3, [.ref qo1, .int 0, .int 0, .int 0, .ref qo52, .ref qo53, .ref qo54, .int 0, .int 0, .int 0, .int 0, .ref qo55, .int 0, .ref qo56]))] sz)) 0 0 (va_A [(qo45, .inr (3, [.ref qo1, .int 0, .int 0, .int 0, .ref qo52, .ref qo53, .ref qo54, .int 0, .int 0, .int 0, .int 0, .ref qo55, .int 0, .ref qo56]))] sz) := by
  refine Met.ofW (cc := cX3_next) (maxL := 1) (ret := (some .int)) (by decide) rfl ?_
  intro p e s m args below meth c s₁ B hml hv
  obtain ⟨rfl, hsz, hP, hK, hD0⟩ := hv
  have hx := B.exec
  have hb := B.bytes
  have hr := B.returns
  have hts := atoms_spec (ws := (.code yX3_next cX3_next 1 (some .int) :: VS_k1)) B.pre
  replace hts := fun w (h : w ∈ VS_k1) => hts w (List.mem_cons_of_mem _ h)
  have hown : s.vm.findClass RX3 = some m.cls := findClass_of_methodNamed B.named
  have hlocks := B.notSynchronized
  subst hsz
  have hD := hD0.self (sz := s.heap.size)
  generalize hAe : va_A [(qo45, .inr (3, [.ref qo1, .int 0, .int 0, .int 0, .ref qo52, .ref qo53, .ref qo54, .int 0, .int 0, .int 0, .int 0, .ref qo55, .int 0, .ref qo56]))] s.heap.size = A at hD  ⊢
  have hA : ∀ q : Nat, s.heap.size ≤ q → A q := fun q h => by rw [← hAe]; exact Or.inr h
  have hP : va_P (dC, dI) vwCl [(qo45, .inr (3, [.ref qo1, .int 0, .int 0, .int 0, .ref qo52, .ref qo53, .ref qo54, .int 0, .int 0, .int 0, .int 0, .ref qo55, .int 0, .ref qo56]))] s.heap := hP
  have hl := lv_entry ([.ref qo45]) (n := 1) (Nat.le_of_ble_eq_true rfl)
  rw [lg_entry_eq]
  generalize (lg_sl ([.ref qo45]) ++ List.replicate (1 - (lg_sl ([.ref qo45])).length) Slot.unset).toArray = ls at hl ⊢
  have hl : lv_has ls 1 [(0, .ref qo45)] := hl
  obtain ⟨H, hH⟩ : ∃ H : Heap, s.heap = H := ⟨_, rfl⟩
  rw [hH] at hP ⊢
  have hS : va_S A s.heap H [] := by rw [← hH]; exact va_S.rf
  obtain ⟨locs, hlo⟩ : ∃ locs : List Loc, locs = [] := ⟨_, rfl⟩
  rw [← hlo] at hS ⊢
  refine lv_aload_n hx hb dX3_next_0 rfl (lv_at hl 0 rfl) ?_
  refine va_get (D := (dC, dI)) (ci := 3) (v := .int 0) (C := RX3) (T := TX3) (N := 14) hx hb hts uV_k1_X3 hown hK hP 0 rfl rfl 2 (by decide) (hts (.fieldLink RX3 43 "ClassMill$Image" "pos" "I") mw_k1_100) (fun _ h9 => h9) rfl dX3_next_1 ?_
  refine lv_aload_n hx hb dX3_next_4 rfl (lv_at hl 0 rfl) ?_
  refine va_get (D := (dC, dI)) (ci := 3) (v := .int 0) (C := RX3) (T := TX3) (N := 14) hx hb hts uV_k1_X3 hown hK hP 0 rfl rfl 1 (by decide) (hts (.fieldLink RX3 39 "ClassMill$Image" "size" "I") mw_k1_101) (fun _ h9 => h9) rfl dX3_next_5 ?_
  refine lv_icmp_lt (tgt := 36) hx hb dX3_next_8 (by decide) (fun c_1 => (show False by revert c_1; decide).elim) (fun c_1 => ?_)
  refine lv_aload_n hx hb dX3_next_11 rfl (lv_at hl 0 rfl) ?_
  refine lv_aload_n hx hb dX3_next_12 rfl (lv_at hl 0 rfl) ?_
  refine va_get (D := (dC, dI)) (ci := 3) (v := .int 0) (C := RX3) (T := TX3) (N := 14) hx hb hts uV_k1_X3 hown hK hP 0 rfl rfl 3 (by decide) (hts (.fieldLink RX3 46 "ClassMill$Image" "form" "I") mw_k1_102) (fun _ h9 => h9) rfl dX3_next_13 ?_
  refine lv_iconst (v := (-1)) hx hb dX3_next_16 (by decide) ?_
  refine lv_icmp_ne (tgt := 27) hx hb dX3_next_17 (by decide) (fun c_2 => ?_) (fun c_2 => (show False by revert c_2; decide).elim)
  refine lv_aload_n hx hb dX3_next_27 rfl (lv_at hl 0 rfl) ?_
  refine va_get (D := (dC, dI)) (ci := 3) (v := .int 0) (C := RX3) (T := TX3) (N := 14) hx hb hts uV_k1_X3 hown hK hP 0 rfl rfl 3 (by decide) (hts (.fieldLink RX3 46 "ClassMill$Image" "form" "I") mw_k1_102) (fun _ h9 => h9) rfl dX3_next_28 ?_
  refine va_put (D := (dC, dI)) (ci := 3) (v := .int 0) (ty := .int) (C := RX3) (T := TX3) (N := 14) hx hb hts uV_k1_X3 tyX3 tyX3_ok nmX3 hown hK hP hD hS 0 rfl rfl 3 (by decide) (hts (.fieldLink RX3 46 "ClassMill$Image" "form" "I") mw_k1_102) (fun _ h9 => h9) rfl (by decide +kernel) rfl rfl (Nat.le_of_ble_eq_true rfl) dX3_next_31 ?_
  clear hP hD hS
  intro H locs hP hD hS
  replace hP : va_P (dC, dI) vwCl [(qo45, .inr (3, [.ref qo1, .int 0, .int 0, .int 0, .ref qo52, .ref qo53, .ref qo54, .int 0, .int 0, .int 0, .int 0, .ref qo55, .int 0, .ref qo56]))] H := hP
  replace hD : va_D A [(qo45, .inr (3, [.ref qo1, .int 0, .int 0, .int 0, .ref qo52, .ref qo53, .ref qo54, .int 0, .int 0, .int 0, .int 0, .ref qo55, .int 0, .ref qo56]))] := hD
  refine lv_iconst (v := 0) hx hb dX3_next_34 (by decide) ?_
  have hP9 := hP.sub (ws' := [(qo45, .inr (3, [.ref qo1, .int 0, .int 0, .int 0, .ref qo52, .ref qo53, .ref qo54, .int 0, .int 0, .int 0, .int 0, .ref qo55, .int 0, .ref qo56]))]) [0] rfl
  have hD9 := hD.sub (ws' := [(qo45, .inr (3, [.ref qo1, .int 0, .int 0, .int 0, .ref qo52, .ref qo53, .ref qo54, .int 0, .int 0, .int 0, .int 0, .ref qo55, .int 0, .ref qo56]))]) [0] (by decide) rfl
  have hK9 := hK.sub (tys' := []) [] rfl
  exact W.iret hx hb hr (fun t ht hW => ⟨⟨(0), (), rfl, rfl, by rw [ht]; exact hP9, va_K.moved hW.alike hK9, hD9⟩, hS.F ht⟩) hS.2.2 dX3_next_35
set_option maxHeartbeats 4000000 in
set_option maxRecDepth 100000 in
/-- ks_Image_nextUpTo4 -/
theorem ks_Image_nextUpTo4 (l : Launch) (dC : Nat → ClassId) (dI : Nat → Nat → Nat) (sz : Nat) (qo45 : Nat) (qo1 : Nat) (qo52 : Nat) (qo53 : Nat) (qo54 : Nat) (qo55 : Nat) (qo56 : Nat)  : Met l yX3_nextUpTo (.code yX3_nextUpTo cX3_nextUpTo 4 (some .int) :: VS_k1) ({ frames := 1, cells := 0, slots := 0, locals := 21 }) (va_Pc [.ref qo45, .int 77, .int 77] (fun U => U.heap.size = sz ∧ va_P (dC, dI) vwCl [(qo45, .inr (3, [.ref qo1, .int 0, .int 0, .int 0, .ref qo52, .ref qo53, .ref qo54, .int 0, .int 0, .int 0, .int 0, .ref qo55, .int 0, .ref qo56]))] U.heap ∧ va_K (dC, dI) vwCl [] U ∧ va_D (fun _ => True) [(qo45, .inr (3, [.ref qo1, .int 0, .int 0, .int 0, .ref qo52, .ref qo53, .ref qo54, .int 0, .int 0, .int 0, .int 0, .ref qo55, .int 0, .ref qo56]))])) (va_Qi (fun (r : Int32) (u : Unit) => match u with | () => r = 0) (fun (u : Unit) (t : State) => match u with | () => va_P (dC, dI) vwCl [(qo45, .inr (3, [.ref qo1, .int 0, .int 0, .int 0, .ref qo52, .ref qo53, .ref qo54, .int 0, .int 0, .int 0, .int 0, .ref qo55, .int 0, .ref qo56]))] t.heap ∧ va_K (dC, dI) vwCl [] t ∧ va_D (va_A [(qo45, .inr (3, [.ref qo1, .int 0, .int 0, .int 0, .ref qo52, .ref qo53, .ref qo54, .int 0, .int 0, .int 0, .int 0, .ref qo55, .int 0, .ref qo56]))] sz) [(qo45, .inr (3, [.ref qo1, .int 0, .int 0, .int 0, .ref qo52, .ref qo53, .ref qo54, .int 0, .int 0, .int 0, .int 0, .ref qo55, .int 0, .ref qo56]))]) (va_A [(qo45, .inr (3, [.ref qo1, .int 0, .int 0, .int 0, .ref qo52, .ref qo53, .ref qo54, .int 0, .int 0, .int 0, .int 0, .ref qo55, .int 0, .ref qo56]))] sz)) 0 0 (va_A [(qo45, .inr (3, [.ref qo1, .int 0, .int 0, .int 0, .ref qo52, .ref qo53, .ref qo54, .int 0, .int 0, .int 0, .int 0, .ref qo55, .int 0, .ref qo56]))] sz) := by
  refine Met.ofW (cc := cX3_nextUpTo) (maxL := 4) (ret := (some .int)) (by decide) rfl ?_
  intro p e s m args below meth c s₁ B hml hv
  obtain ⟨rfl, hsz, hP, hK, hD0⟩ := hv
  have hx := B.exec
  have hb := B.bytes
  have hr := B.returns
  have hts := atoms_spec (ws := (.code yX3_nextUpTo cX3_nextUpTo 4 (some .int) :: VS_k1)) B.pre
  replace hts := fun w (h : w ∈ VS_k1) => hts w (List.mem_cons_of_mem _ h)
  have hown : s.vm.findClass RX3 = some m.cls := findClass_of_methodNamed B.named
  have hlocks := B.notSynchronized
  subst hsz
  have hD := hD0.self (sz := s.heap.size)
  generalize hAe : va_A [(qo45, .inr (3, [.ref qo1, .int 0, .int 0, .int 0, .ref qo52, .ref qo53, .ref qo54, .int 0, .int 0, .int 0, .int 0, .ref qo55, .int 0, .ref qo56]))] s.heap.size = A at hD  ⊢
  have hA : ∀ q : Nat, s.heap.size ≤ q → A q := fun q h => by rw [← hAe]; exact Or.inr h
  have hP : va_P (dC, dI) vwCl [(qo45, .inr (3, [.ref qo1, .int 0, .int 0, .int 0, .ref qo52, .ref qo53, .ref qo54, .int 0, .int 0, .int 0, .int 0, .ref qo55, .int 0, .ref qo56]))] s.heap := hP
  have hl := lv_entry ([.ref qo45, .int 77, .int 77]) (n := 4) (Nat.le_of_ble_eq_true rfl)
  rw [lg_entry_eq]
  generalize (lg_sl ([.ref qo45, .int 77, .int 77]) ++ List.replicate (4 - (lg_sl ([.ref qo45, .int 77, .int 77])).length) Slot.unset).toArray = ls at hl ⊢
  have hl : lv_has ls 4 [(0, .ref qo45), (1, .int 77), (2, .int 77)] := hl
  obtain ⟨H, hH⟩ : ∃ H : Heap, s.heap = H := ⟨_, rfl⟩
  rw [hH] at hP ⊢
  have hS : va_S A s.heap H [] := by rw [← hH]; exact va_S.rf
  obtain ⟨locs, hlo⟩ : ∃ locs : List Loc, locs = [] := ⟨_, rfl⟩
  rw [← hlo] at hS ⊢
  refine lv_aload_n hx hb dX3_nextUpTo_0 rfl (lv_at hl 0 rfl) ?_
  have hPc := hP.sub (ws' := [(qo45, .inr (3, [.ref qo1, .int 0, .int 0, .int 0, .ref qo52, .ref qo53, .ref qo54, .int 0, .int 0, .int 0, .int 0, .ref qo55, .int 0, .ref qo56]))]) [0] rfl
  have hDc := hD.sub (ws' := [(qo45, .inr (3, [.ref qo1, .int 0, .int 0, .int 0, .ref qo52, .ref qo53, .ref qo54, .int 0, .int 0, .int 0, .int 0, .ref qo55, .int 0, .ref qo56]))]) [0] (by decide) rfl
  have hKc := hK.sub (tys' := []) [] rfl
  have hFc := va_free (wc := [(qo45, .inr (3, [.ref qo1, .int 0, .int 0, .int 0, .ref qo52, .ref qo53, .ref qo54, .int 0, .int 0, .int 0, .int 0, .ref qo55, .int 0, .ref qo56]))]) hD hS hA [0] rfl
  refine va_calli (va_runV (As := []) (rest := []) ⟨hx, hb, hml, hown, hts⟩ (ks_Image_next5 l dC dI H.size qo45 qo1 qo52 qo53 qo54 qo55 qo56) (cwV 0 hts gv_k1_26 rfl rfl rfl (by decide +kernel) ⟨Nat.le_of_ble_eq_true rfl, Nat.le_of_ble_eq_true rfl⟩) ⟨fun a U g mk q => by obtain ⟨q0, q1, qP, qK, qD⟩ := q; exact ⟨q0, q1, qP, va_K.moved (u := U) (U := U.calling g mk a) (Vm.Alike.refl U.vm) qK, qD⟩, va_recv hKc hPc (ci := 3) (q0 := 0) rfl rfl, fun U hU hW => ⟨rfl, by rw [hU], by rw [hU]; exact hPc, va_K.moved hW.alike hKc, hDc.weaken (fun _ _ _ _ => trivial)⟩⟩ rfl rfl hl.1 rfl (lv_room (Nat.le_of_ble_eq_true rfl)) dX3_nextUpTo_1 ⟨Nat.le_of_ble_eq_true rfl, Nat.le_of_ble_eq_true rfl⟩) hS (fun q _ h => hFc q h) hFc ?_
  clear hS
  intro r_1 u t H1 locs ht hvm hw hB hz1 hk1 hS
  obtain ⟨⟩ := u
  obtain ⟨hP1, hK1, hD1⟩ := hB
  rw [ht] at hP1
  have hK1 := va_K.moved hvm.symm hK1
  try dsimp only at hw
  have hPD := va_join (wr := []) (w1 := [(qo45, .inr (3, [.ref qo1, .int 0, .int 0, .int 0, .ref qo52, .ref qo53, .ref qo54, .int 0, .int 0, .int 0, .int 0, .ref qo55, .int 0, .ref qo56]))]) hP hD [0] [] rfl rfl (by decide) (by decide) hk1 hFc hP1 hD1
  clear hP hD
  obtain ⟨hP, hD⟩ := hPD
  replace hK := (hK.sub (tys' := []) [] rfl).app hK1
  clear hPc hDc hKc hFc hP1 hK1 hD1 hz1 hk1 ht hvm
  generalize H1 = H at hP hS ⊢
  replace hP : va_P (dC, dI) vwCl [(qo45, .inr (3, [.ref qo1, .int 0, .int 0, .int 0, .ref qo52, .ref qo53, .ref qo54, .int 0, .int 0, .int 0, .int 0, .ref qo55, .int 0, .ref qo56]))] H := hP
  replace hD : va_D A [(qo45, .inr (3, [.ref qo1, .int 0, .int 0, .int 0, .ref qo52, .ref qo53, .ref qo54, .int 0, .int 0, .int 0, .int 0, .ref qo55, .int 0, .ref qo56]))] := hD
  replace hK : va_K (dC, dI) vwCl [] s := hK
  subst hw
  refine lv_istore_n (lv' := [(3, .int 0), (0, .ref qo45), (1, .int 77), (2, .int 77)]) hx hb dX3_nextUpTo_4 rfl hl (by decide) rfl (fun ls hl => ?_)
  refine lv_iload_n hx hb dX3_nextUpTo_5 rfl (lv_at hl 0 rfl) ?_
  refine lv_iload_n hx hb dX3_nextUpTo_6 rfl (lv_at hl 2 rfl) ?_
  refine lv_icmp_lt (tgt := 15) hx hb dX3_nextUpTo_7 (by decide) (fun c_2 => ?_) (fun c_2 => (show False by revert c_2; decide).elim)
  refine lv_aload_n hx hb dX3_nextUpTo_15 rfl (lv_at hl 1 rfl) ?_
  refine lv_aload_n hx hb dX3_nextUpTo_16 rfl (lv_at hl 1 rfl) ?_
  refine va_get (D := (dC, dI)) (ci := 3) (v := .int 0) (C := RX3) (T := TX3) (N := 14) hx hb hts uV_k1_X3 hown hK hP 0 rfl rfl 2 (by decide) (hts (.fieldLink RX3 43 "ClassMill$Image" "pos" "I") mw_k1_100) (fun _ h9 => h9) rfl dX3_nextUpTo_17 ?_
  refine lv_iconst (v := 1) hx hb dX3_nextUpTo_20 (by decide) ?_
  refine lv_isub hx hb dX3_nextUpTo_21 ?_
  refine lv_topi (fun y_3 ey_3 => ?_)
  obtain rfl : y_3 = (-1) := ey_3.trans (by decide)
  have hPc := hP.sub (ws' := [(qo45, .inr (3, [.ref qo1, .int 0, .int 0, .int 0, .ref qo52, .ref qo53, .ref qo54, .int 0, .int 0, .int 0, .int 0, .ref qo55, .int 0, .ref qo56]))]) [0] rfl
  have hDc := hD.sub (ws' := [(qo45, .inr (3, [.ref qo1, .int 0, .int 0, .int 0, .ref qo52, .ref qo53, .ref qo54, .int 0, .int 0, .int 0, .int 0, .ref qo55, .int 0, .ref qo56]))]) [0] (by decide) rfl
  have hKc := hK.sub (tys' := []) [] rfl
  have hFc := va_free (wc := [(qo45, .inr (3, [.ref qo1, .int 0, .int 0, .int 0, .ref qo52, .ref qo53, .ref qo54, .int 0, .int 0, .int 0, .int 0, .ref qo55, .int 0, .ref qo56]))]) hD hS hA [0] rfl
  refine va_callv (va_runV (As := [.int (-1)]) (rest := []) ⟨hx, hb, hml, hown, hts⟩ (ks_Image_bad3 l dC dI H.size qo45 qo1 qo52 qo53 qo54 qo55 qo56) (cwV 1 hts gv_k1_24 rfl rfl rfl (by decide +kernel) ⟨Nat.le_of_ble_eq_true rfl, Nat.le_of_ble_eq_true rfl⟩) ⟨fun a U g mk q => by obtain ⟨q0, q1, qP, qK, qD⟩ := q; exact ⟨q0, q1, qP, va_K.moved (u := U) (U := U.calling g mk a) (Vm.Alike.refl U.vm) qK, qD⟩, va_recv hKc hPc (ci := 3) (q0 := 0) rfl rfl, fun U hU hW => ⟨rfl, by rw [hU], by rw [hU]; exact hPc, va_K.moved hW.alike hKc, hDc.weaken (fun _ _ _ _ => trivial)⟩⟩ rfl rfl hl.1 rfl (lv_room (Nat.le_of_ble_eq_true rfl)) dX3_nextUpTo_22 ⟨Nat.le_of_ble_eq_true rfl, Nat.le_of_ble_eq_true rfl⟩) hS (fun q _ h => hFc q h) hFc ?_
  clear hS
  intro u t H1 locs ht hvm hw hB hz1 hk1 hS
  obtain ⟨⟩ := u
  obtain ⟨hP1, hK1, hD1⟩ := hB
  rw [ht] at hP1
  have hK1 := va_K.moved hvm.symm hK1
  try dsimp only at hw
  have hPD := va_join (wr := []) (w1 := [(qo45, .inr (3, [.ref qo1, .int 0, .int 0, .int 0, .ref qo52, .ref qo53, .ref qo54, .int 0, .int 0, .int 0, .int 0, .ref qo55, .int 0, .ref qo56]))]) hP hD [0] [] rfl rfl (by decide) (by decide) hk1 hFc hP1 hD1
  clear hP hD
  obtain ⟨hP, hD⟩ := hPD
  replace hK := (hK.sub (tys' := []) [] rfl).app hK1
  clear hPc hDc hKc hFc hP1 hK1 hD1 hz1 hk1 ht hvm
  generalize H1 = H at hP hS ⊢
  replace hP : va_P (dC, dI) vwCl [(qo45, .inr (3, [.ref qo1, .int 0, .int 0, .int 0, .ref qo52, .ref qo53, .ref qo54, .int 0, .int 0, .int 0, .int 0, .ref qo55, .int 0, .ref qo56]))] H := hP
  replace hD : va_D A [(qo45, .inr (3, [.ref qo1, .int 0, .int 0, .int 0, .ref qo52, .ref qo53, .ref qo54, .int 0, .int 0, .int 0, .int 0, .ref qo55, .int 0, .ref qo56]))] := hD
  replace hK : va_K (dC, dI) vwCl [] s := hK
  refine lv_iload_n hx hb dX3_nextUpTo_25 rfl (lv_at hl 0 rfl) ?_
  have hP9 := hP.sub (ws' := [(qo45, .inr (3, [.ref qo1, .int 0, .int 0, .int 0, .ref qo52, .ref qo53, .ref qo54, .int 0, .int 0, .int 0, .int 0, .ref qo55, .int 0, .ref qo56]))]) [0] rfl
  have hD9 := hD.sub (ws' := [(qo45, .inr (3, [.ref qo1, .int 0, .int 0, .int 0, .ref qo52, .ref qo53, .ref qo54, .int 0, .int 0, .int 0, .int 0, .ref qo55, .int 0, .ref qo56]))]) [0] (by decide) rfl
  have hK9 := hK.sub (tys' := []) [] rfl
  exact W.iret hx hb hr (fun t ht hW => ⟨⟨(0), (), rfl, rfl, by rw [ht]; exact hP9, va_K.moved hW.alike hK9, hD9⟩, hS.F ht⟩) hS.2.2 dX3_nextUpTo_26
set_option maxHeartbeats 4000000 in
set_option maxRecDepth 100000 in
/-- ks_Image_readConstants0 -/
theorem ks_Image_readConstants0 (l : Launch) (dC : Nat → ClassId) (dI : Nat → Nat → Nat) (sz : Nat) (qo45 : Nat) (qo1 : Nat) (qo52 : Nat) (qo53 : Nat) (qo54 : Nat) (qo55 : Nat) (qo56 : Nat)  : Met l yX3_readConstants (.code yX3_readConstants cX3_readConstants 2 none :: VS_k1) ({ frames := 2, cells := 0, slots := 0, locals := 44 }) (va_Pc [.ref qo45] (fun U => U.heap.size = sz ∧ va_P (dC, dI) vwCl [(qo45, .inr (3, [.ref qo1, .int 0, .int 0, .int (-1), .ref qo52, .ref qo53, .ref qo54, .int 0, .int 0, .int 0, .int 0, .ref qo55, .int 0, .ref qo56]))] U.heap ∧ va_K (dC, dI) vwCl [] U ∧ va_D (fun _ => True) [(qo45, .inr (3, [.ref qo1, .int 0, .int 0, .int (-1), .ref qo52, .ref qo53, .ref qo54, .int 0, .int 0, .int 0, .int 0, .ref qo55, .int 0, .ref qo56]))])) (va_Qv (fun (u : Unit) => match u with | () => True) (fun (u : Unit) (t : State) => match u with | () => va_P (dC, dI) vwCl [(qo45, .inr (3, [.ref qo1, .int 0, .int 0, .int 0, .ref qo52, .ref qo53, .ref qo54, .int 0, .int 0, .int 0, .int 0, .ref qo55, .int 0, .ref qo56]))] t.heap ∧ va_K (dC, dI) vwCl [] t ∧ va_D (va_A [(qo45, .inr (3, [.ref qo1, .int 0, .int 0, .int (-1), .ref qo52, .ref qo53, .ref qo54, .int 0, .int 0, .int 0, .int 0, .ref qo55, .int 0, .ref qo56]))] sz) [(qo45, .inr (3, [.ref qo1, .int 0, .int 0, .int 0, .ref qo52, .ref qo53, .ref qo54, .int 0, .int 0, .int 0, .int 0, .ref qo55, .int 0, .ref qo56]))]) (va_A [(qo45, .inr (3, [.ref qo1, .int 0, .int 0, .int (-1), .ref qo52, .ref qo53, .ref qo54, .int 0, .int 0, .int 0, .int 0, .ref qo55, .int 0, .ref qo56]))] sz)) 0 0 (va_A [(qo45, .inr (3, [.ref qo1, .int 0, .int 0, .int (-1), .ref qo52, .ref qo53, .ref qo54, .int 0, .int 0, .int 0, .int 0, .ref qo55, .int 0, .ref qo56]))] sz) := by
  refine Met.ofW (cc := cX3_readConstants) (maxL := 2) (ret := none) (by decide) rfl ?_
  intro p e s m args below meth c s₁ B hml hv
  obtain ⟨rfl, hsz, hP, hK, hD0⟩ := hv
  have hx := B.exec
  have hb := B.bytes
  have hr := B.returns
  have hts := atoms_spec (ws := (.code yX3_readConstants cX3_readConstants 2 none :: VS_k1)) B.pre
  replace hts := fun w (h : w ∈ VS_k1) => hts w (List.mem_cons_of_mem _ h)
  have hown : s.vm.findClass RX3 = some m.cls := findClass_of_methodNamed B.named
  have hlocks := B.notSynchronized
  subst hsz
  have hD := hD0.self (sz := s.heap.size)
  generalize hAe : va_A [(qo45, .inr (3, [.ref qo1, .int 0, .int 0, .int (-1), .ref qo52, .ref qo53, .ref qo54, .int 0, .int 0, .int 0, .int 0, .ref qo55, .int 0, .ref qo56]))] s.heap.size = A at hD  ⊢
  have hA : ∀ q : Nat, s.heap.size ≤ q → A q := fun q h => by rw [← hAe]; exact Or.inr h
  have hP : va_P (dC, dI) vwCl [(qo45, .inr (3, [.ref qo1, .int 0, .int 0, .int (-1), .ref qo52, .ref qo53, .ref qo54, .int 0, .int 0, .int 0, .int 0, .ref qo55, .int 0, .ref qo56]))] s.heap := hP
  have hl := lv_entry ([.ref qo45]) (n := 2) (Nat.le_of_ble_eq_true rfl)
  rw [lg_entry_eq]
  generalize (lg_sl ([.ref qo45]) ++ List.replicate (2 - (lg_sl ([.ref qo45])).length) Slot.unset).toArray = ls at hl ⊢
  have hl : lv_has ls 2 [(0, .ref qo45)] := hl
  obtain ⟨H, hH⟩ : ∃ H : Heap, s.heap = H := ⟨_, rfl⟩
  rw [hH] at hP ⊢
  have hS : va_S A s.heap H [] := by rw [← hH]; exact va_S.rf
  obtain ⟨locs, hlo⟩ : ∃ locs : List Loc, locs = [] := ⟨_, rfl⟩
  rw [← hlo] at hS ⊢
  refine lv_aload_n hx hb dX3_readConstants_0 rfl (lv_at hl 0 rfl) ?_
  refine lv_bipush (v := 74) hx hb dX3_readConstants_1 (by decide) ?_
  refine lv_bipush (v := 74) hx hb dX3_readConstants_3 (by decide) ?_
  have hPc := hP.sub (ws' := [(qo45, .inr (3, [.ref qo1, .int 0, .int 0, .int (-1), .ref qo52, .ref qo53, .ref qo54, .int 0, .int 0, .int 0, .int 0, .ref qo55, .int 0, .ref qo56]))]) [0] rfl
  have hDc := hD.sub (ws' := [(qo45, .inr (3, [.ref qo1, .int 0, .int 0, .int (-1), .ref qo52, .ref qo53, .ref qo54, .int 0, .int 0, .int 0, .int 0, .ref qo55, .int 0, .ref qo56]))]) [0] (by decide) rfl
  have hKc := hK.sub (tys' := []) [] rfl
  have hFc := va_free (wc := [(qo45, .inr (3, [.ref qo1, .int 0, .int 0, .int (-1), .ref qo52, .ref qo53, .ref qo54, .int 0, .int 0, .int 0, .int 0, .ref qo55, .int 0, .ref qo56]))]) hD hS hA [0] rfl
  refine va_calli (va_runV (As := [.int 74, .int 74]) (rest := []) ⟨hx, hb, hml, hown, hts⟩ (ks_Image_nextUpTo1 l dC dI H.size qo45 qo1 qo52 qo53 qo54 qo55 qo56) (cwV 2 hts gv_k1_25 rfl rfl rfl (by decide +kernel) ⟨Nat.le_of_ble_eq_true rfl, Nat.le_of_ble_eq_true rfl⟩) ⟨fun a U g mk q => by obtain ⟨q0, q1, qP, qK, qD⟩ := q; exact ⟨q0, q1, qP, va_K.moved (u := U) (U := U.calling g mk a) (Vm.Alike.refl U.vm) qK, qD⟩, va_recv hKc hPc (ci := 3) (q0 := 0) rfl rfl, fun U hU hW => ⟨rfl, by rw [hU], by rw [hU]; exact hPc, va_K.moved hW.alike hKc, hDc.weaken (fun _ _ _ _ => trivial)⟩⟩ rfl rfl hl.1 rfl (lv_room (Nat.le_of_ble_eq_true rfl)) dX3_readConstants_5 ⟨Nat.le_of_ble_eq_true rfl, Nat.le_of_ble_eq_true rfl⟩) hS (fun q _ h => hFc q h) hFc ?_
  clear hS
  intro r_1 u t H1 locs ht hvm hw hB hz1 hk1 hS
  obtain ⟨⟩ := u
  obtain ⟨hP1, hK1, hD1⟩ := hB
  rw [ht] at hP1
  have hK1 := va_K.moved hvm.symm hK1
  try dsimp only at hw
  have hPD := va_join (wr := []) (w1 := [(qo45, .inr (3, [.ref qo1, .int 0, .int 0, .int 0, .ref qo52, .ref qo53, .ref qo54, .int 0, .int 0, .int 0, .int 0, .ref qo55, .int 0, .ref qo56]))]) hP hD [0] [] rfl rfl (by decide) (by decide) hk1 hFc hP1 hD1
  clear hP hD
  obtain ⟨hP, hD⟩ := hPD
  replace hK := (hK.sub (tys' := []) [] rfl).app hK1
  clear hPc hDc hKc hFc hP1 hK1 hD1 hz1 hk1 ht hvm
  generalize H1 = H at hP hS ⊢
  replace hP : va_P (dC, dI) vwCl [(qo45, .inr (3, [.ref qo1, .int 0, .int 0, .int 0, .ref qo52, .ref qo53, .ref qo54, .int 0, .int 0, .int 0, .int 0, .ref qo55, .int 0, .ref qo56]))] H := hP
  replace hD : va_D A [(qo45, .inr (3, [.ref qo1, .int 0, .int 0, .int 0, .ref qo52, .ref qo53, .ref qo54, .int 0, .int 0, .int 0, .int 0, .ref qo55, .int 0, .ref qo56]))] := hD
  replace hK : va_K (dC, dI) vwCl [] s := hK
  subst hw
  refine lv_pop hx hb dX3_readConstants_8 rfl ?_
  refine lv_aload_n hx hb dX3_readConstants_9 rfl (lv_at hl 0 rfl) ?_
  refine lv_bipush (v := 77) hx hb dX3_readConstants_10 (by decide) ?_
  refine lv_bipush (v := 77) hx hb dX3_readConstants_12 (by decide) ?_
  have hPc := hP.sub (ws' := [(qo45, .inr (3, [.ref qo1, .int 0, .int 0, .int 0, .ref qo52, .ref qo53, .ref qo54, .int 0, .int 0, .int 0, .int 0, .ref qo55, .int 0, .ref qo56]))]) [0] rfl
  have hDc := hD.sub (ws' := [(qo45, .inr (3, [.ref qo1, .int 0, .int 0, .int 0, .ref qo52, .ref qo53, .ref qo54, .int 0, .int 0, .int 0, .int 0, .ref qo55, .int 0, .ref qo56]))]) [0] (by decide) rfl
  have hKc := hK.sub (tys' := []) [] rfl
  have hFc := va_free (wc := [(qo45, .inr (3, [.ref qo1, .int 0, .int 0, .int 0, .ref qo52, .ref qo53, .ref qo54, .int 0, .int 0, .int 0, .int 0, .ref qo55, .int 0, .ref qo56]))]) hD hS hA [0] rfl
  refine va_calli (va_runV (As := [.int 77, .int 77]) (rest := []) ⟨hx, hb, hml, hown, hts⟩ (ks_Image_nextUpTo4 l dC dI H.size qo45 qo1 qo52 qo53 qo54 qo55 qo56) (cwV 2 hts gv_k1_27 rfl rfl rfl (by decide +kernel) ⟨Nat.le_of_ble_eq_true rfl, Nat.le_of_ble_eq_true rfl⟩) ⟨fun a U g mk q => by obtain ⟨q0, q1, qP, qK, qD⟩ := q; exact ⟨q0, q1, qP, va_K.moved (u := U) (U := U.calling g mk a) (Vm.Alike.refl U.vm) qK, qD⟩, va_recv hKc hPc (ci := 3) (q0 := 0) rfl rfl, fun U hU hW => ⟨rfl, by rw [hU], by rw [hU]; exact hPc, va_K.moved hW.alike hKc, hDc.weaken (fun _ _ _ _ => trivial)⟩⟩ rfl rfl hl.1 rfl (lv_room (Nat.le_of_ble_eq_true rfl)) dX3_readConstants_14 ⟨Nat.le_of_ble_eq_true rfl, Nat.le_of_ble_eq_true rfl⟩) hS (fun q _ h => hFc q h) hFc ?_
  clear hS
  intro r_2 u t H1 locs ht hvm hw hB hz1 hk1 hS
  obtain ⟨⟩ := u
  obtain ⟨hP1, hK1, hD1⟩ := hB
  rw [ht] at hP1
  have hK1 := va_K.moved hvm.symm hK1
  try dsimp only at hw
  have hPD := va_join (wr := []) (w1 := [(qo45, .inr (3, [.ref qo1, .int 0, .int 0, .int 0, .ref qo52, .ref qo53, .ref qo54, .int 0, .int 0, .int 0, .int 0, .ref qo55, .int 0, .ref qo56]))]) hP hD [0] [] rfl rfl (by decide) (by decide) hk1 hFc hP1 hD1
  clear hP hD
  obtain ⟨hP, hD⟩ := hPD
  replace hK := (hK.sub (tys' := []) [] rfl).app hK1
  clear hPc hDc hKc hFc hP1 hK1 hD1 hz1 hk1 ht hvm
  generalize H1 = H at hP hS ⊢
  replace hP : va_P (dC, dI) vwCl [(qo45, .inr (3, [.ref qo1, .int 0, .int 0, .int 0, .ref qo52, .ref qo53, .ref qo54, .int 0, .int 0, .int 0, .int 0, .ref qo55, .int 0, .ref qo56]))] H := hP
  replace hD : va_D A [(qo45, .inr (3, [.ref qo1, .int 0, .int 0, .int 0, .ref qo52, .ref qo53, .ref qo54, .int 0, .int 0, .int 0, .int 0, .ref qo55, .int 0, .ref qo56]))] := hD
  replace hK : va_K (dC, dI) vwCl [] s := hK
  subst hw
  refine lv_pop hx hb dX3_readConstants_17 rfl ?_
  refine lv_aload_n hx hb dX3_readConstants_18 rfl (lv_at hl 0 rfl) ?_
  refine lv_aload_n hx hb dX3_readConstants_19 rfl (lv_at hl 0 rfl) ?_
  have hPc := hP.sub (ws' := [(qo45, .inr (3, [.ref qo1, .int 0, .int 0, .int 0, .ref qo52, .ref qo53, .ref qo54, .int 0, .int 0, .int 0, .int 0, .ref qo55, .int 0, .ref qo56]))]) [0] rfl
  have hDc := hD.sub (ws' := [(qo45, .inr (3, [.ref qo1, .int 0, .int 0, .int 0, .ref qo52, .ref qo53, .ref qo54, .int 0, .int 0, .int 0, .int 0, .ref qo55, .int 0, .ref qo56]))]) [0] (by decide) rfl
  have hKc := hK.sub (tys' := []) [] rfl
  have hFc := va_free (wc := [(qo45, .inr (3, [.ref qo1, .int 0, .int 0, .int 0, .ref qo52, .ref qo53, .ref qo54, .int 0, .int 0, .int 0, .int 0, .ref qo55, .int 0, .ref qo56]))]) hD hS hA [0] rfl
  refine va_calli (va_runV (As := []) (rest := [.ref qo45]) ⟨hx, hb, hml, hown, hts⟩ (ks_Image_next5 l dC dI H.size qo45 qo1 qo52 qo53 qo54 qo55 qo56) (cwV 0 hts gv_k1_26 rfl rfl rfl (by decide +kernel) ⟨Nat.le_of_ble_eq_true rfl, Nat.le_of_ble_eq_true rfl⟩) ⟨fun a U g mk q => by obtain ⟨q0, q1, qP, qK, qD⟩ := q; exact ⟨q0, q1, qP, va_K.moved (u := U) (U := U.calling g mk a) (Vm.Alike.refl U.vm) qK, qD⟩, va_recv hKc hPc (ci := 3) (q0 := 0) rfl rfl, fun U hU hW => ⟨rfl, by rw [hU], by rw [hU]; exact hPc, va_K.moved hW.alike hKc, hDc.weaken (fun _ _ _ _ => trivial)⟩⟩ rfl rfl hl.1 rfl (lv_room (Nat.le_of_ble_eq_true rfl)) dX3_readConstants_20 ⟨Nat.le_of_ble_eq_true rfl, Nat.le_of_ble_eq_true rfl⟩) hS (fun q _ h => hFc q h) hFc ?_
  clear hS
  intro r_3 u t H1 locs ht hvm hw hB hz1 hk1 hS
  obtain ⟨⟩ := u
  obtain ⟨hP1, hK1, hD1⟩ := hB
  rw [ht] at hP1
  have hK1 := va_K.moved hvm.symm hK1
  try dsimp only at hw
  have hPD := va_join (wr := []) (w1 := [(qo45, .inr (3, [.ref qo1, .int 0, .int 0, .int 0, .ref qo52, .ref qo53, .ref qo54, .int 0, .int 0, .int 0, .int 0, .ref qo55, .int 0, .ref qo56]))]) hP hD [0] [] rfl rfl (by decide) (by decide) hk1 hFc hP1 hD1
  clear hP hD
  obtain ⟨hP, hD⟩ := hPD
  replace hK := (hK.sub (tys' := []) [] rfl).app hK1
  clear hPc hDc hKc hFc hP1 hK1 hD1 hz1 hk1 ht hvm
  generalize H1 = H at hP hS ⊢
  replace hP : va_P (dC, dI) vwCl [(qo45, .inr (3, [.ref qo1, .int 0, .int 0, .int 0, .ref qo52, .ref qo53, .ref qo54, .int 0, .int 0, .int 0, .int 0, .ref qo55, .int 0, .ref qo56]))] H := hP
  replace hD : va_D A [(qo45, .inr (3, [.ref qo1, .int 0, .int 0, .int 0, .ref qo52, .ref qo53, .ref qo54, .int 0, .int 0, .int 0, .int 0, .ref qo55, .int 0, .ref qo56]))] := hD
  replace hK : va_K (dC, dI) vwCl [] s := hK
  subst hw
  refine va_put (D := (dC, dI)) (ci := 3) (v := .int 0) (ty := .int) (C := RX3) (T := TX3) (N := 14) hx hb hts uV_k1_X3 tyX3 tyX3_ok nmX3 hown hK hP hD hS 0 rfl rfl 7 (by decide) (hts (.fieldLink RX3 90 "ClassMill$Image" "constants" "I") mw_k1_116) (fun _ h9 => h9) rfl (by decide +kernel) rfl rfl (Nat.le_of_ble_eq_true rfl) dX3_readConstants_23 ?_
  clear hP hD hS
  intro H locs hP hD hS
  replace hP : va_P (dC, dI) vwCl [(qo45, .inr (3, [.ref qo1, .int 0, .int 0, .int 0, .ref qo52, .ref qo53, .ref qo54, .int 0, .int 0, .int 0, .int 0, .ref qo55, .int 0, .ref qo56]))] H := hP
  replace hD : va_D A [(qo45, .inr (3, [.ref qo1, .int 0, .int 0, .int 0, .ref qo52, .ref qo53, .ref qo54, .int 0, .int 0, .int 0, .int 0, .ref qo55, .int 0, .ref qo56]))] := hD
  refine lv_iconst (v := 1) hx hb dX3_readConstants_26 (by decide) ?_
  refine lv_istore_n (lv' := [(1, .int 1), (0, .ref qo45)]) hx hb dX3_readConstants_27 rfl hl (by decide) rfl (fun ls hl => ?_)
  refine lv_iload_n hx hb dX3_readConstants_28 rfl (lv_at hl 0 rfl) ?_
  refine lv_aload_n hx hb dX3_readConstants_29 rfl (lv_at hl 1 rfl) ?_
  refine va_get (D := (dC, dI)) (ci := 3) (v := .int 0) (C := RX3) (T := TX3) (N := 14) hx hb hts uV_k1_X3 hown hK hP 0 rfl rfl 7 (by decide) (hts (.fieldLink RX3 90 "ClassMill$Image" "constants" "I") mw_k1_116) (fun _ h9 => h9) rfl dX3_readConstants_30 ?_
  refine lv_icmp_gt (tgt := 55) hx hb dX3_readConstants_33 (by decide) (fun c_4 => ?_) (fun c_4 => (show False by revert c_4; decide).elim)
  refine lv_iconst (v := 1) hx hb dX3_readConstants_55 (by decide) ?_
  refine lv_istore_n (lv' := [(1, .int 1), (0, .ref qo45)]) hx hb dX3_readConstants_56 rfl hl (by decide) rfl (fun ls hl => ?_)
  refine lv_iload_n hx hb dX3_readConstants_57 rfl (lv_at hl 0 rfl) ?_
  refine lv_aload_n hx hb dX3_readConstants_58 rfl (lv_at hl 1 rfl) ?_
  refine va_get (D := (dC, dI)) (ci := 3) (v := .int 0) (C := RX3) (T := TX3) (N := 14) hx hb hts uV_k1_X3 hown hK hP 0 rfl rfl 7 (by decide) (hts (.fieldLink RX3 90 "ClassMill$Image" "constants" "I") mw_k1_116) (fun _ h9 => h9) rfl dX3_readConstants_59 ?_
  refine lv_icmp_gt (tgt := 84) hx hb dX3_readConstants_62 (by decide) (fun c_5 => ?_) (fun c_5 => (show False by revert c_5; decide).elim)
  have hP9 := hP.sub (ws' := [(qo45, .inr (3, [.ref qo1, .int 0, .int 0, .int 0, .ref qo52, .ref qo53, .ref qo54, .int 0, .int 0, .int 0, .int 0, .ref qo55, .int 0, .ref qo56]))]) [0] rfl
  have hD9 := hD.sub (ws' := [(qo45, .inr (3, [.ref qo1, .int 0, .int 0, .int 0, .ref qo52, .ref qo53, .ref qo54, .int 0, .int 0, .int 0, .int 0, .ref qo55, .int 0, .ref qo56]))]) [0] (by decide) rfl
  have hK9 := hK.sub (tys' := []) [] rfl
  exact W.vret hx hb hr (fun t ht hW => ⟨⟨(), rfl, trivial, by rw [ht]; exact hP9, va_K.moved hW.alike hK9, hD9⟩, hS.F ht⟩) hS.2.2 dX3_readConstants_84
set_option maxHeartbeats 4000000 in
set_option maxRecDepth 100000 in
/-- ks_Image_partOf7 -/
theorem ks_Image_partOf7 (l : Launch) (dC : Nat → ClassId) (dI : Nat → Nat → Nat) (sz : Nat) (qo45 : Nat) (qo1 : Nat) (qo52 : Nat) (qo53 : Nat) (qo54 : Nat) (qo55 : Nat) (qo56 : Nat)  : Met l yX3_partOf (.code yX3_partOf cX3_partOf 3 (some .int) :: VS_k1) ({ frames := 0, cells := 0, slots := 0, locals := 0 }) (va_Pc [.ref qo45, .int 0, .int 0] (fun U => U.heap.size = sz ∧ va_P (dC, dI) vwCl [(qo45, .inr (3, [.ref qo1, .int 0, .int 0, .int 0, .ref qo52, .ref qo53, .ref qo54, .int 0, .int 0, .int 0, .int 0, .ref qo55, .int 0, .ref qo56]))] U.heap ∧ va_K (dC, dI) vwCl [] U ∧ va_D (fun _ => True) [(qo45, .inr (3, [.ref qo1, .int 0, .int 0, .int 0, .ref qo52, .ref qo53, .ref qo54, .int 0, .int 0, .int 0, .int 0, .ref qo55, .int 0, .ref qo56]))])) (va_Qi (fun (r : Int32) (u : Unit) => match u with | () => r = 0) (fun (u : Unit) (t : State) => match u with | () => va_P (dC, dI) vwCl [(qo45, .inr (3, [.ref qo1, .int 0, .int 0, .int 0, .ref qo52, .ref qo53, .ref qo54, .int 0, .int 0, .int 0, .int 0, .ref qo55, .int 0, .ref qo56]))] t.heap ∧ va_K (dC, dI) vwCl [] t ∧ va_D (va_A [(qo45, .inr (3, [.ref qo1, .int 0, .int 0, .int 0, .ref qo52, .ref qo53, .ref qo54, .int 0, .int 0, .int 0, .int 0, .ref qo55, .int 0, .ref qo56]))] sz) [(qo45, .inr (3, [.ref qo1, .int 0, .int 0, .int 0, .ref qo52, .ref qo53, .ref qo54, .int 0, .int 0, .int 0, .int 0, .ref qo55, .int 0, .ref qo56]))]) (va_A [(qo45, .inr (3, [.ref qo1, .int 0, .int 0, .int 0, .ref qo52, .ref qo53, .ref qo54, .int 0, .int 0, .int 0, .int 0, .ref qo55, .int 0, .ref qo56]))] sz)) 0 0 (va_A [(qo45, .inr (3, [.ref qo1, .int 0, .int 0, .int 0, .ref qo52, .ref qo53, .ref qo54, .int 0, .int 0, .int 0, .int 0, .ref qo55, .int 0, .ref qo56]))] sz) := by
  refine Met.ofW (cc := cX3_partOf) (maxL := 3) (ret := (some .int)) (by decide) rfl ?_
  intro p e s m args below meth c s₁ B hml hv
  obtain ⟨rfl, hsz, hP, hK, hD0⟩ := hv
  have hx := B.exec
  have hb := B.bytes
  have hr := B.returns
  have hts := atoms_spec (ws := (.code yX3_partOf cX3_partOf 3 (some .int) :: VS_k1)) B.pre
  replace hts := fun w (h : w ∈ VS_k1) => hts w (List.mem_cons_of_mem _ h)
  have hown : s.vm.findClass RX3 = some m.cls := findClass_of_methodNamed B.named
  have hlocks := B.notSynchronized
  subst hsz
  have hD := hD0.self (sz := s.heap.size)
  generalize hAe : va_A [(qo45, .inr (3, [.ref qo1, .int 0, .int 0, .int 0, .ref qo52, .ref qo53, .ref qo54, .int 0, .int 0, .int 0, .int 0, .ref qo55, .int 0, .ref qo56]))] s.heap.size = A at hD  ⊢
  have hA : ∀ q : Nat, s.heap.size ≤ q → A q := fun q h => by rw [← hAe]; exact Or.inr h
  have hP : va_P (dC, dI) vwCl [(qo45, .inr (3, [.ref qo1, .int 0, .int 0, .int 0, .ref qo52, .ref qo53, .ref qo54, .int 0, .int 0, .int 0, .int 0, .ref qo55, .int 0, .ref qo56]))] s.heap := hP
  have hl := lv_entry ([.ref qo45, .int 0, .int 0]) (n := 3) (Nat.le_of_ble_eq_true rfl)
  rw [lg_entry_eq]
  generalize (lg_sl ([.ref qo45, .int 0, .int 0]) ++ List.replicate (3 - (lg_sl ([.ref qo45, .int 0, .int 0])).length) Slot.unset).toArray = ls at hl ⊢
  have hl : lv_has ls 3 [(0, .ref qo45), (1, .int 0), (2, .int 0)] := hl
  obtain ⟨H, hH⟩ : ∃ H : Heap, s.heap = H := ⟨_, rfl⟩
  rw [hH] at hP ⊢
  have hS : va_S A s.heap H [] := by rw [← hH]; exact va_S.rf
  obtain ⟨locs, hlo⟩ : ∃ locs : List Loc, locs = [] := ⟨_, rfl⟩
  rw [← hlo] at hS ⊢
  refine lv_iload_n hx hb dX3_partOf_0 rfl (lv_at hl 1 rfl) ?_
  refine lv_iconst (v := 1) hx hb dX3_partOf_1 (by decide) ?_
  refine lv_icmp_lt (tgt := 37) hx hb dX3_partOf_2 (by decide) (fun c_1 => ?_) (fun c_1 => (show False by revert c_1; decide).elim)
  refine lv_iconst (v := 0) hx hb dX3_partOf_37 (by decide) ?_
  have hP9 := hP.sub (ws' := [(qo45, .inr (3, [.ref qo1, .int 0, .int 0, .int 0, .ref qo52, .ref qo53, .ref qo54, .int 0, .int 0, .int 0, .int 0, .ref qo55, .int 0, .ref qo56]))]) [0] rfl
  have hD9 := hD.sub (ws' := [(qo45, .inr (3, [.ref qo1, .int 0, .int 0, .int 0, .ref qo52, .ref qo53, .ref qo54, .int 0, .int 0, .int 0, .int 0, .ref qo55, .int 0, .ref qo56]))]) [0] (by decide) rfl
  have hK9 := hK.sub (tys' := []) [] rfl
  exact W.iret hx hb hr (fun t ht hW => ⟨⟨(0), (), rfl, rfl, by rw [ht]; exact hP9, va_K.moved hW.alike hK9, hD9⟩, hS.F ht⟩) hS.2.2 dX3_partOf_38
set_option maxHeartbeats 4000000 in
set_option maxRecDepth 100000 in
/-- ks_Image_tagOf8 -/
theorem ks_Image_tagOf8 (l : Launch) (dC : Nat → ClassId) (dI : Nat → Nat → Nat) (sz : Nat) (qo45 : Nat) (qo1 : Nat) (qo52 : Nat) (qo53 : Nat) (qo54 : Nat) (qo55 : Nat) (qo56 : Nat)  : Met l yX3_tagOf (.code yX3_tagOf cX3_tagOf 2 (some .int) :: VS_k1) ({ frames := 0, cells := 0, slots := 0, locals := 0 }) (va_Pc [.ref qo45, .int 0] (fun U => U.heap.size = sz ∧ va_P (dC, dI) vwCl [(qo45, .inr (3, [.ref qo1, .int 0, .int 0, .int 0, .ref qo52, .ref qo53, .ref qo54, .int 0, .int 0, .int 0, .int 0, .ref qo55, .int 0, .ref qo56]))] U.heap ∧ va_K (dC, dI) vwCl [] U ∧ va_D (fun _ => True) [(qo45, .inr (3, [.ref qo1, .int 0, .int 0, .int 0, .ref qo52, .ref qo53, .ref qo54, .int 0, .int 0, .int 0, .int 0, .ref qo55, .int 0, .ref qo56]))])) (va_Qi (fun (r : Int32) (u : Unit) => match u with | () => r = 0) (fun (u : Unit) (t : State) => match u with | () => va_P (dC, dI) vwCl [(qo45, .inr (3, [.ref qo1, .int 0, .int 0, .int 0, .ref qo52, .ref qo53, .ref qo54, .int 0, .int 0, .int 0, .int 0, .ref qo55, .int 0, .ref qo56]))] t.heap ∧ va_K (dC, dI) vwCl [] t ∧ va_D (va_A [(qo45, .inr (3, [.ref qo1, .int 0, .int 0, .int 0, .ref qo52, .ref qo53, .ref qo54, .int 0, .int 0, .int 0, .int 0, .ref qo55, .int 0, .ref qo56]))] sz) [(qo45, .inr (3, [.ref qo1, .int 0, .int 0, .int 0, .ref qo52, .ref qo53, .ref qo54, .int 0, .int 0, .int 0, .int 0, .ref qo55, .int 0, .ref qo56]))]) (va_A [(qo45, .inr (3, [.ref qo1, .int 0, .int 0, .int 0, .ref qo52, .ref qo53, .ref qo54, .int 0, .int 0, .int 0, .int 0, .ref qo55, .int 0, .ref qo56]))] sz)) 0 0 (va_A [(qo45, .inr (3, [.ref qo1, .int 0, .int 0, .int 0, .ref qo52, .ref qo53, .ref qo54, .int 0, .int 0, .int 0, .int 0, .ref qo55, .int 0, .ref qo56]))] sz) := by
  refine Met.ofW (cc := cX3_tagOf) (maxL := 2) (ret := (some .int)) (by decide) rfl ?_
  intro p e s m args below meth c s₁ B hml hv
  obtain ⟨rfl, hsz, hP, hK, hD0⟩ := hv
  have hx := B.exec
  have hb := B.bytes
  have hr := B.returns
  have hts := atoms_spec (ws := (.code yX3_tagOf cX3_tagOf 2 (some .int) :: VS_k1)) B.pre
  replace hts := fun w (h : w ∈ VS_k1) => hts w (List.mem_cons_of_mem _ h)
  have hown : s.vm.findClass RX3 = some m.cls := findClass_of_methodNamed B.named
  have hlocks := B.notSynchronized
  subst hsz
  have hD := hD0.self (sz := s.heap.size)
  generalize hAe : va_A [(qo45, .inr (3, [.ref qo1, .int 0, .int 0, .int 0, .ref qo52, .ref qo53, .ref qo54, .int 0, .int 0, .int 0, .int 0, .ref qo55, .int 0, .ref qo56]))] s.heap.size = A at hD  ⊢
  have hA : ∀ q : Nat, s.heap.size ≤ q → A q := fun q h => by rw [← hAe]; exact Or.inr h
  have hP : va_P (dC, dI) vwCl [(qo45, .inr (3, [.ref qo1, .int 0, .int 0, .int 0, .ref qo52, .ref qo53, .ref qo54, .int 0, .int 0, .int 0, .int 0, .ref qo55, .int 0, .ref qo56]))] s.heap := hP
  have hl := lv_entry ([.ref qo45, .int 0]) (n := 2) (Nat.le_of_ble_eq_true rfl)
  rw [lg_entry_eq]
  generalize (lg_sl ([.ref qo45, .int 0]) ++ List.replicate (2 - (lg_sl ([.ref qo45, .int 0])).length) Slot.unset).toArray = ls at hl ⊢
  have hl : lv_has ls 2 [(0, .ref qo45), (1, .int 0)] := hl
  obtain ⟨H, hH⟩ : ∃ H : Heap, s.heap = H := ⟨_, rfl⟩
  rw [hH] at hP ⊢
  have hS : va_S A s.heap H [] := by rw [← hH]; exact va_S.rf
  obtain ⟨locs, hlo⟩ : ∃ locs : List Loc, locs = [] := ⟨_, rfl⟩
  rw [← hlo] at hS ⊢
  refine lv_iload_n hx hb dX3_tagOf_0 rfl (lv_at hl 1 rfl) ?_
  refine lv_iconst (v := 1) hx hb dX3_tagOf_1 (by decide) ?_
  refine lv_icmp_lt (tgt := 31) hx hb dX3_tagOf_2 (by decide) (fun c_1 => ?_) (fun c_1 => (show False by revert c_1; decide).elim)
  refine lv_iconst (v := 0) hx hb dX3_tagOf_31 (by decide) ?_
  have hP9 := hP.sub (ws' := [(qo45, .inr (3, [.ref qo1, .int 0, .int 0, .int 0, .ref qo52, .ref qo53, .ref qo54, .int 0, .int 0, .int 0, .int 0, .ref qo55, .int 0, .ref qo56]))]) [0] rfl
  have hD9 := hD.sub (ws' := [(qo45, .inr (3, [.ref qo1, .int 0, .int 0, .int 0, .ref qo52, .ref qo53, .ref qo54, .int 0, .int 0, .int 0, .int 0, .ref qo55, .int 0, .ref qo56]))]) [0] (by decide) rfl
  have hK9 := hK.sub (tys' := []) [] rfl
  exact W.iret hx hb hr (fun t ht hW => ⟨⟨(0), (), rfl, rfl, by rw [ht]; exact hP9, va_K.moved hW.alike hK9, hD9⟩, hS.F ht⟩) hS.2.2 dX3_tagOf_32
set_option maxHeartbeats 4000000 in
set_option maxRecDepth 100000 in
/-- ks_Image_nextPlainClass6 -/
theorem ks_Image_nextPlainClass6 (l : Launch) (dC : Nat → ClassId) (dI : Nat → Nat → Nat) (sz : Nat) (qo45 : Nat) (qo1 : Nat) (qo52 : Nat) (qo53 : Nat) (qo54 : Nat) (qo55 : Nat) (qo56 : Nat)  : Met l yX3_nextPlainClass (.code yX3_nextPlainClass cX3_nextPlainClass 3 (some .int) :: VS_k1) ({ frames := 1, cells := 0, slots := 0, locals := 22 }) (va_Pc [.ref qo45] (fun U => U.heap.size = sz ∧ va_P (dC, dI) vwCl [(qo45, .inr (3, [.ref qo1, .int 0, .int 0, .int 0, .ref qo52, .ref qo53, .ref qo54, .int 0, .int 0, .int 0, .int 0, .ref qo55, .int 0, .ref qo56]))] U.heap ∧ va_K (dC, dI) vwCl [] U ∧ va_D (fun _ => True) [(qo45, .inr (3, [.ref qo1, .int 0, .int 0, .int 0, .ref qo52, .ref qo53, .ref qo54, .int 0, .int 0, .int 0, .int 0, .ref qo55, .int 0, .ref qo56]))])) (va_Qi (fun (r : Int32) (u : Unit) => match u with | () => r = 0) (fun (u : Unit) (t : State) => match u with | () => va_P (dC, dI) vwCl [(qo45, .inr (3, [.ref qo1, .int 0, .int 0, .int 0, .ref qo52, .ref qo53, .ref qo54, .int 0, .int 0, .int 0, .int 0, .ref qo55, .int 0, .ref qo56]))] t.heap ∧ va_K (dC, dI) vwCl [] t ∧ va_D (va_A [(qo45, .inr (3, [.ref qo1, .int 0, .int 0, .int 0, .ref qo52, .ref qo53, .ref qo54, .int 0, .int 0, .int 0, .int 0, .ref qo55, .int 0, .ref qo56]))] sz) [(qo45, .inr (3, [.ref qo1, .int 0, .int 0, .int 0, .ref qo52, .ref qo53, .ref qo54, .int 0, .int 0, .int 0, .int 0, .ref qo55, .int 0, .ref qo56]))]) (va_A [(qo45, .inr (3, [.ref qo1, .int 0, .int 0, .int 0, .ref qo52, .ref qo53, .ref qo54, .int 0, .int 0, .int 0, .int 0, .ref qo55, .int 0, .ref qo56]))] sz)) 0 0 (va_A [(qo45, .inr (3, [.ref qo1, .int 0, .int 0, .int 0, .ref qo52, .ref qo53, .ref qo54, .int 0, .int 0, .int 0, .int 0, .ref qo55, .int 0, .ref qo56]))] sz) := by
  refine Met.ofW (cc := cX3_nextPlainClass) (maxL := 3) (ret := (some .int)) (by decide) rfl ?_
  intro p e s m args below meth c s₁ B hml hv
  obtain ⟨rfl, hsz, hP, hK, hD0⟩ := hv
  have hx := B.exec
  have hb := B.bytes
  have hr := B.returns
  have hts := atoms_spec (ws := (.code yX3_nextPlainClass cX3_nextPlainClass 3 (some .int) :: VS_k1)) B.pre
  replace hts := fun w (h : w ∈ VS_k1) => hts w (List.mem_cons_of_mem _ h)
  have hown : s.vm.findClass RX3 = some m.cls := findClass_of_methodNamed B.named
  have hlocks := B.notSynchronized
  subst hsz
  have hD := hD0.self (sz := s.heap.size)
  generalize hAe : va_A [(qo45, .inr (3, [.ref qo1, .int 0, .int 0, .int 0, .ref qo52, .ref qo53, .ref qo54, .int 0, .int 0, .int 0, .int 0, .ref qo55, .int 0, .ref qo56]))] s.heap.size = A at hD  ⊢
  have hA : ∀ q : Nat, s.heap.size ≤ q → A q := fun q h => by rw [← hAe]; exact Or.inr h
  have hP : va_P (dC, dI) vwCl [(qo45, .inr (3, [.ref qo1, .int 0, .int 0, .int 0, .ref qo52, .ref qo53, .ref qo54, .int 0, .int 0, .int 0, .int 0, .ref qo55, .int 0, .ref qo56]))] s.heap := hP
  have hl := lv_entry ([.ref qo45]) (n := 3) (Nat.le_of_ble_eq_true rfl)
  rw [lg_entry_eq]
  generalize (lg_sl ([.ref qo45]) ++ List.replicate (3 - (lg_sl ([.ref qo45])).length) Slot.unset).toArray = ls at hl ⊢
  have hl : lv_has ls 3 [(0, .ref qo45)] := hl
  obtain ⟨H, hH⟩ : ∃ H : Heap, s.heap = H := ⟨_, rfl⟩
  rw [hH] at hP ⊢
  have hS : va_S A s.heap H [] := by rw [← hH]; exact va_S.rf
  obtain ⟨locs, hlo⟩ : ∃ locs : List Loc, locs = [] := ⟨_, rfl⟩
  rw [← hlo] at hS ⊢
  refine lv_aload_n hx hb dX3_nextPlainClass_0 rfl (lv_at hl 0 rfl) ?_
  have hPc := hP.sub (ws' := [(qo45, .inr (3, [.ref qo1, .int 0, .int 0, .int 0, .ref qo52, .ref qo53, .ref qo54, .int 0, .int 0, .int 0, .int 0, .ref qo55, .int 0, .ref qo56]))]) [0] rfl
  have hDc := hD.sub (ws' := [(qo45, .inr (3, [.ref qo1, .int 0, .int 0, .int 0, .ref qo52, .ref qo53, .ref qo54, .int 0, .int 0, .int 0, .int 0, .ref qo55, .int 0, .ref qo56]))]) [0] (by decide) rfl
  have hKc := hK.sub (tys' := []) [] rfl
  have hFc := va_free (wc := [(qo45, .inr (3, [.ref qo1, .int 0, .int 0, .int 0, .ref qo52, .ref qo53, .ref qo54, .int 0, .int 0, .int 0, .int 0, .ref qo55, .int 0, .ref qo56]))]) hD hS hA [0] rfl
  refine va_calli (va_runV (As := []) (rest := []) ⟨hx, hb, hml, hown, hts⟩ (ks_Image_next5 l dC dI H.size qo45 qo1 qo52 qo53 qo54 qo55 qo56) (cwV 0 hts gv_k1_26 rfl rfl rfl (by decide +kernel) ⟨Nat.le_of_ble_eq_true rfl, Nat.le_of_ble_eq_true rfl⟩) ⟨fun a U g mk q => by obtain ⟨q0, q1, qP, qK, qD⟩ := q; exact ⟨q0, q1, qP, va_K.moved (u := U) (U := U.calling g mk a) (Vm.Alike.refl U.vm) qK, qD⟩, va_recv hKc hPc (ci := 3) (q0 := 0) rfl rfl, fun U hU hW => ⟨rfl, by rw [hU], by rw [hU]; exact hPc, va_K.moved hW.alike hKc, hDc.weaken (fun _ _ _ _ => trivial)⟩⟩ rfl rfl hl.1 rfl (lv_room (Nat.le_of_ble_eq_true rfl)) dX3_nextPlainClass_1 ⟨Nat.le_of_ble_eq_true rfl, Nat.le_of_ble_eq_true rfl⟩) hS (fun q _ h => hFc q h) hFc ?_
  clear hS
  intro r_1 u t H1 locs ht hvm hw hB hz1 hk1 hS
  obtain ⟨⟩ := u
  obtain ⟨hP1, hK1, hD1⟩ := hB
  rw [ht] at hP1
  have hK1 := va_K.moved hvm.symm hK1
  try dsimp only at hw
  have hPD := va_join (wr := []) (w1 := [(qo45, .inr (3, [.ref qo1, .int 0, .int 0, .int 0, .ref qo52, .ref qo53, .ref qo54, .int 0, .int 0, .int 0, .int 0, .ref qo55, .int 0, .ref qo56]))]) hP hD [0] [] rfl rfl (by decide) (by decide) hk1 hFc hP1 hD1
  clear hP hD
  obtain ⟨hP, hD⟩ := hPD
  replace hK := (hK.sub (tys' := []) [] rfl).app hK1
  clear hPc hDc hKc hFc hP1 hK1 hD1 hz1 hk1 ht hvm
  generalize H1 = H at hP hS ⊢
  replace hP : va_P (dC, dI) vwCl [(qo45, .inr (3, [.ref qo1, .int 0, .int 0, .int 0, .ref qo52, .ref qo53, .ref qo54, .int 0, .int 0, .int 0, .int 0, .ref qo55, .int 0, .ref qo56]))] H := hP
  replace hD : va_D A [(qo45, .inr (3, [.ref qo1, .int 0, .int 0, .int 0, .ref qo52, .ref qo53, .ref qo54, .int 0, .int 0, .int 0, .int 0, .ref qo55, .int 0, .ref qo56]))] := hD
  replace hK : va_K (dC, dI) vwCl [] s := hK
  subst hw
  refine lv_istore_n (lv' := [(1, .int 0), (0, .ref qo45)]) hx hb dX3_nextPlainClass_4 rfl hl (by decide) rfl (fun ls hl => ?_)
  refine lv_aload_n hx hb dX3_nextPlainClass_5 rfl (lv_at hl 1 rfl) ?_
  refine lv_iload_n hx hb dX3_nextPlainClass_6 rfl (lv_at hl 0 rfl) ?_
  refine lv_iconst (v := 0) hx hb dX3_nextPlainClass_7 (by decide) ?_
  have hPc := hP.sub (ws' := [(qo45, .inr (3, [.ref qo1, .int 0, .int 0, .int 0, .ref qo52, .ref qo53, .ref qo54, .int 0, .int 0, .int 0, .int 0, .ref qo55, .int 0, .ref qo56]))]) [0] rfl
  have hDc := hD.sub (ws' := [(qo45, .inr (3, [.ref qo1, .int 0, .int 0, .int 0, .ref qo52, .ref qo53, .ref qo54, .int 0, .int 0, .int 0, .int 0, .ref qo55, .int 0, .ref qo56]))]) [0] (by decide) rfl
  have hKc := hK.sub (tys' := []) [] rfl
  have hFc := va_free (wc := [(qo45, .inr (3, [.ref qo1, .int 0, .int 0, .int 0, .ref qo52, .ref qo53, .ref qo54, .int 0, .int 0, .int 0, .int 0, .ref qo55, .int 0, .ref qo56]))]) hD hS hA [0] rfl
  refine va_calli (va_runV (As := [.int 0, .int 0]) (rest := []) ⟨hx, hb, hml, hown, hts⟩ (ks_Image_partOf7 l dC dI H.size qo45 qo1 qo52 qo53 qo54 qo55 qo56) (cwV 2 hts gv_k1_29 rfl rfl rfl (by decide +kernel) ⟨Nat.le_of_ble_eq_true rfl, Nat.le_of_ble_eq_true rfl⟩) ⟨fun a U g mk q => by obtain ⟨q0, q1, qP, qK, qD⟩ := q; exact ⟨q0, q1, qP, va_K.moved (u := U) (U := U.calling g mk a) (Vm.Alike.refl U.vm) qK, qD⟩, va_recv hKc hPc (ci := 3) (q0 := 0) rfl rfl, fun U hU hW => ⟨rfl, by rw [hU], by rw [hU]; exact hPc, va_K.moved hW.alike hKc, hDc.weaken (fun _ _ _ _ => trivial)⟩⟩ rfl rfl hl.1 rfl (lv_room (Nat.le_of_ble_eq_true rfl)) dX3_nextPlainClass_8 ⟨Nat.le_of_ble_eq_true rfl, Nat.le_of_ble_eq_true rfl⟩) hS (fun q _ h => hFc q h) hFc ?_
  clear hS
  intro r_2 u t H1 locs ht hvm hw hB hz1 hk1 hS
  obtain ⟨⟩ := u
  obtain ⟨hP1, hK1, hD1⟩ := hB
  rw [ht] at hP1
  have hK1 := va_K.moved hvm.symm hK1
  try dsimp only at hw
  have hPD := va_join (wr := []) (w1 := [(qo45, .inr (3, [.ref qo1, .int 0, .int 0, .int 0, .ref qo52, .ref qo53, .ref qo54, .int 0, .int 0, .int 0, .int 0, .ref qo55, .int 0, .ref qo56]))]) hP hD [0] [] rfl rfl (by decide) (by decide) hk1 hFc hP1 hD1
  clear hP hD
  obtain ⟨hP, hD⟩ := hPD
  replace hK := (hK.sub (tys' := []) [] rfl).app hK1
  clear hPc hDc hKc hFc hP1 hK1 hD1 hz1 hk1 ht hvm
  generalize H1 = H at hP hS ⊢
  replace hP : va_P (dC, dI) vwCl [(qo45, .inr (3, [.ref qo1, .int 0, .int 0, .int 0, .ref qo52, .ref qo53, .ref qo54, .int 0, .int 0, .int 0, .int 0, .ref qo55, .int 0, .ref qo56]))] H := hP
  replace hD : va_D A [(qo45, .inr (3, [.ref qo1, .int 0, .int 0, .int 0, .ref qo52, .ref qo53, .ref qo54, .int 0, .int 0, .int 0, .int 0, .ref qo55, .int 0, .ref qo56]))] := hD
  replace hK : va_K (dC, dI) vwCl [] s := hK
  subst hw
  refine lv_istore_n (lv' := [(2, .int 0), (1, .int 0), (0, .ref qo45)]) hx hb dX3_nextPlainClass_11 rfl hl (by decide) rfl (fun ls hl => ?_)
  refine lv_aload_n hx hb dX3_nextPlainClass_12 rfl (lv_at hl 2 rfl) ?_
  refine lv_iload_n hx hb dX3_nextPlainClass_13 rfl (lv_at hl 1 rfl) ?_
  have hPc := hP.sub (ws' := [(qo45, .inr (3, [.ref qo1, .int 0, .int 0, .int 0, .ref qo52, .ref qo53, .ref qo54, .int 0, .int 0, .int 0, .int 0, .ref qo55, .int 0, .ref qo56]))]) [0] rfl
  have hDc := hD.sub (ws' := [(qo45, .inr (3, [.ref qo1, .int 0, .int 0, .int 0, .ref qo52, .ref qo53, .ref qo54, .int 0, .int 0, .int 0, .int 0, .ref qo55, .int 0, .ref qo56]))]) [0] (by decide) rfl
  have hKc := hK.sub (tys' := []) [] rfl
  have hFc := va_free (wc := [(qo45, .inr (3, [.ref qo1, .int 0, .int 0, .int 0, .ref qo52, .ref qo53, .ref qo54, .int 0, .int 0, .int 0, .int 0, .ref qo55, .int 0, .ref qo56]))]) hD hS hA [0] rfl
  refine va_calli (va_runV (As := [.int 0]) (rest := []) ⟨hx, hb, hml, hown, hts⟩ (ks_Image_tagOf8 l dC dI H.size qo45 qo1 qo52 qo53 qo54 qo55 qo56) (cwV 1 hts gv_k1_30 rfl rfl rfl (by decide +kernel) ⟨Nat.le_of_ble_eq_true rfl, Nat.le_of_ble_eq_true rfl⟩) ⟨fun a U g mk q => by obtain ⟨q0, q1, qP, qK, qD⟩ := q; exact ⟨q0, q1, qP, va_K.moved (u := U) (U := U.calling g mk a) (Vm.Alike.refl U.vm) qK, qD⟩, va_recv hKc hPc (ci := 3) (q0 := 0) rfl rfl, fun U hU hW => ⟨rfl, by rw [hU], by rw [hU]; exact hPc, va_K.moved hW.alike hKc, hDc.weaken (fun _ _ _ _ => trivial)⟩⟩ rfl rfl hl.1 rfl (lv_room (Nat.le_of_ble_eq_true rfl)) dX3_nextPlainClass_14 ⟨Nat.le_of_ble_eq_true rfl, Nat.le_of_ble_eq_true rfl⟩) hS (fun q _ h => hFc q h) hFc ?_
  clear hS
  intro r_3 u t H1 locs ht hvm hw hB hz1 hk1 hS
  obtain ⟨⟩ := u
  obtain ⟨hP1, hK1, hD1⟩ := hB
  rw [ht] at hP1
  have hK1 := va_K.moved hvm.symm hK1
  try dsimp only at hw
  have hPD := va_join (wr := []) (w1 := [(qo45, .inr (3, [.ref qo1, .int 0, .int 0, .int 0, .ref qo52, .ref qo53, .ref qo54, .int 0, .int 0, .int 0, .int 0, .ref qo55, .int 0, .ref qo56]))]) hP hD [0] [] rfl rfl (by decide) (by decide) hk1 hFc hP1 hD1
  clear hP hD
  obtain ⟨hP, hD⟩ := hPD
  replace hK := (hK.sub (tys' := []) [] rfl).app hK1
  clear hPc hDc hKc hFc hP1 hK1 hD1 hz1 hk1 ht hvm
  generalize H1 = H at hP hS ⊢
  replace hP : va_P (dC, dI) vwCl [(qo45, .inr (3, [.ref qo1, .int 0, .int 0, .int 0, .ref qo52, .ref qo53, .ref qo54, .int 0, .int 0, .int 0, .int 0, .ref qo55, .int 0, .ref qo56]))] H := hP
  replace hD : va_D A [(qo45, .inr (3, [.ref qo1, .int 0, .int 0, .int 0, .ref qo52, .ref qo53, .ref qo54, .int 0, .int 0, .int 0, .int 0, .ref qo55, .int 0, .ref qo56]))] := hD
  replace hK : va_K (dC, dI) vwCl [] s := hK
  subst hw
  refine lv_iconst (v := 3) hx hb dX3_nextPlainClass_17 (by decide) ?_
  refine lv_icmp_ne (tgt := 29) hx hb dX3_nextPlainClass_18 (by decide) (fun c_4 => ?_) (fun c_4 => (show False by revert c_4; decide).elim)
  refine lv_aload_n hx hb dX3_nextPlainClass_29 rfl (lv_at hl 2 rfl) ?_
  refine lv_aload_n hx hb dX3_nextPlainClass_30 rfl (lv_at hl 2 rfl) ?_
  refine va_get (D := (dC, dI)) (ci := 3) (v := .int 0) (C := RX3) (T := TX3) (N := 14) hx hb hts uV_k1_X3 hown hK hP 0 rfl rfl 2 (by decide) (hts (.fieldLink RX3 43 "ClassMill$Image" "pos" "I") mw_k1_100) (fun _ h9 => h9) rfl dX3_nextPlainClass_31 ?_
  refine lv_iconst (v := 1) hx hb dX3_nextPlainClass_34 (by decide) ?_
  refine lv_isub hx hb dX3_nextPlainClass_35 ?_
  refine lv_topi (fun y_5 ey_5 => ?_)
  obtain rfl : y_5 = (-1) := ey_5.trans (by decide)
  have hPc := hP.sub (ws' := [(qo45, .inr (3, [.ref qo1, .int 0, .int 0, .int 0, .ref qo52, .ref qo53, .ref qo54, .int 0, .int 0, .int 0, .int 0, .ref qo55, .int 0, .ref qo56]))]) [0] rfl
  have hDc := hD.sub (ws' := [(qo45, .inr (3, [.ref qo1, .int 0, .int 0, .int 0, .ref qo52, .ref qo53, .ref qo54, .int 0, .int 0, .int 0, .int 0, .ref qo55, .int 0, .ref qo56]))]) [0] (by decide) rfl
  have hKc := hK.sub (tys' := []) [] rfl
  have hFc := va_free (wc := [(qo45, .inr (3, [.ref qo1, .int 0, .int 0, .int 0, .ref qo52, .ref qo53, .ref qo54, .int 0, .int 0, .int 0, .int 0, .ref qo55, .int 0, .ref qo56]))]) hD hS hA [0] rfl
  refine va_callv (va_runV (As := [.int (-1)]) (rest := []) ⟨hx, hb, hml, hown, hts⟩ (ks_Image_bad3 l dC dI H.size qo45 qo1 qo52 qo53 qo54 qo55 qo56) (cwV 1 hts gv_k1_24 rfl rfl rfl (by decide +kernel) ⟨Nat.le_of_ble_eq_true rfl, Nat.le_of_ble_eq_true rfl⟩) ⟨fun a U g mk q => by obtain ⟨q0, q1, qP, qK, qD⟩ := q; exact ⟨q0, q1, qP, va_K.moved (u := U) (U := U.calling g mk a) (Vm.Alike.refl U.vm) qK, qD⟩, va_recv hKc hPc (ci := 3) (q0 := 0) rfl rfl, fun U hU hW => ⟨rfl, by rw [hU], by rw [hU]; exact hPc, va_K.moved hW.alike hKc, hDc.weaken (fun _ _ _ _ => trivial)⟩⟩ rfl rfl hl.1 rfl (lv_room (Nat.le_of_ble_eq_true rfl)) dX3_nextPlainClass_36 ⟨Nat.le_of_ble_eq_true rfl, Nat.le_of_ble_eq_true rfl⟩) hS (fun q _ h => hFc q h) hFc ?_
  clear hS
  intro u t H1 locs ht hvm hw hB hz1 hk1 hS
  obtain ⟨⟩ := u
  obtain ⟨hP1, hK1, hD1⟩ := hB
  rw [ht] at hP1
  have hK1 := va_K.moved hvm.symm hK1
  try dsimp only at hw
  have hPD := va_join (wr := []) (w1 := [(qo45, .inr (3, [.ref qo1, .int 0, .int 0, .int 0, .ref qo52, .ref qo53, .ref qo54, .int 0, .int 0, .int 0, .int 0, .ref qo55, .int 0, .ref qo56]))]) hP hD [0] [] rfl rfl (by decide) (by decide) hk1 hFc hP1 hD1
  clear hP hD
  obtain ⟨hP, hD⟩ := hPD
  replace hK := (hK.sub (tys' := []) [] rfl).app hK1
  clear hPc hDc hKc hFc hP1 hK1 hD1 hz1 hk1 ht hvm
  generalize H1 = H at hP hS ⊢
  replace hP : va_P (dC, dI) vwCl [(qo45, .inr (3, [.ref qo1, .int 0, .int 0, .int 0, .ref qo52, .ref qo53, .ref qo54, .int 0, .int 0, .int 0, .int 0, .ref qo55, .int 0, .ref qo56]))] H := hP
  replace hD : va_D A [(qo45, .inr (3, [.ref qo1, .int 0, .int 0, .int 0, .ref qo52, .ref qo53, .ref qo54, .int 0, .int 0, .int 0, .int 0, .ref qo55, .int 0, .ref qo56]))] := hD
  replace hK : va_K (dC, dI) vwCl [] s := hK
  refine lv_iload_n hx hb dX3_nextPlainClass_39 rfl (lv_at hl 0 rfl) ?_
  have hP9 := hP.sub (ws' := [(qo45, .inr (3, [.ref qo1, .int 0, .int 0, .int 0, .ref qo52, .ref qo53, .ref qo54, .int 0, .int 0, .int 0, .int 0, .ref qo55, .int 0, .ref qo56]))]) [0] rfl
  have hD9 := hD.sub (ws' := [(qo45, .inr (3, [.ref qo1, .int 0, .int 0, .int 0, .ref qo52, .ref qo53, .ref qo54, .int 0, .int 0, .int 0, .int 0, .ref qo55, .int 0, .ref qo56]))]) [0] (by decide) rfl
  have hK9 := hK.sub (tys' := []) [] rfl
  exact W.iret hx hb hr (fun t ht hW => ⟨⟨(0), (), rfl, rfl, by rw [ht]; exact hP9, va_K.moved hW.alike hK9, hD9⟩, hS.F ht⟩) hS.2.2 dX3_nextPlainClass_40
set_option maxHeartbeats 4000000 in
set_option maxRecDepth 100000 in
/-- ks_Image_nextUpTo10 -/
theorem ks_Image_nextUpTo10 (l : Launch) (dC : Nat → ClassId) (dI : Nat → Nat → Nat) (sz : Nat) (qo45 : Nat) (qo1 : Nat) (qo52 : Nat) (qo53 : Nat) (qo54 : Nat) (qo55 : Nat) (qo56 : Nat)  : Met l yX3_nextUpTo (.code yX3_nextUpTo cX3_nextUpTo 4 (some .int) :: VS_k1) ({ frames := 1, cells := 0, slots := 0, locals := 20 }) (va_Pc [.ref qo45, .int 0, .int 12] (fun U => U.heap.size = sz ∧ va_P (dC, dI) vwCl [(qo45, .inr (3, [.ref qo1, .int 0, .int 0, .int 0, .ref qo52, .ref qo53, .ref qo54, .int 0, .int 0, .int 0, .int 0, .ref qo55, .int 0, .ref qo56]))] U.heap ∧ va_K (dC, dI) vwCl [] U ∧ va_D (fun _ => True) [(qo45, .inr (3, [.ref qo1, .int 0, .int 0, .int 0, .ref qo52, .ref qo53, .ref qo54, .int 0, .int 0, .int 0, .int 0, .ref qo55, .int 0, .ref qo56]))])) (va_Qi (fun (r : Int32) (u : Unit) => match u with | () => r = 0) (fun (u : Unit) (t : State) => match u with | () => va_P (dC, dI) vwCl [(qo45, .inr (3, [.ref qo1, .int 0, .int 0, .int 0, .ref qo52, .ref qo53, .ref qo54, .int 0, .int 0, .int 0, .int 0, .ref qo55, .int 0, .ref qo56]))] t.heap ∧ va_K (dC, dI) vwCl [] t ∧ va_D (va_A [(qo45, .inr (3, [.ref qo1, .int 0, .int 0, .int 0, .ref qo52, .ref qo53, .ref qo54, .int 0, .int 0, .int 0, .int 0, .ref qo55, .int 0, .ref qo56]))] sz) [(qo45, .inr (3, [.ref qo1, .int 0, .int 0, .int 0, .ref qo52, .ref qo53, .ref qo54, .int 0, .int 0, .int 0, .int 0, .ref qo55, .int 0, .ref qo56]))]) (va_A [(qo45, .inr (3, [.ref qo1, .int 0, .int 0, .int 0, .ref qo52, .ref qo53, .ref qo54, .int 0, .int 0, .int 0, .int 0, .ref qo55, .int 0, .ref qo56]))] sz)) 0 0 (va_A [(qo45, .inr (3, [.ref qo1, .int 0, .int 0, .int 0, .ref qo52, .ref qo53, .ref qo54, .int 0, .int 0, .int 0, .int 0, .ref qo55, .int 0, .ref qo56]))] sz) := by
  refine Met.ofW (cc := cX3_nextUpTo) (maxL := 4) (ret := (some .int)) (by decide) rfl ?_
  intro p e s m args below meth c s₁ B hml hv
  obtain ⟨rfl, hsz, hP, hK, hD0⟩ := hv
  have hx := B.exec
  have hb := B.bytes
  have hr := B.returns
  have hts := atoms_spec (ws := (.code yX3_nextUpTo cX3_nextUpTo 4 (some .int) :: VS_k1)) B.pre
  replace hts := fun w (h : w ∈ VS_k1) => hts w (List.mem_cons_of_mem _ h)
  have hown : s.vm.findClass RX3 = some m.cls := findClass_of_methodNamed B.named
  have hlocks := B.notSynchronized
  subst hsz
  have hD := hD0.self (sz := s.heap.size)
  generalize hAe : va_A [(qo45, .inr (3, [.ref qo1, .int 0, .int 0, .int 0, .ref qo52, .ref qo53, .ref qo54, .int 0, .int 0, .int 0, .int 0, .ref qo55, .int 0, .ref qo56]))] s.heap.size = A at hD  ⊢
  have hA : ∀ q : Nat, s.heap.size ≤ q → A q := fun q h => by rw [← hAe]; exact Or.inr h
  have hP : va_P (dC, dI) vwCl [(qo45, .inr (3, [.ref qo1, .int 0, .int 0, .int 0, .ref qo52, .ref qo53, .ref qo54, .int 0, .int 0, .int 0, .int 0, .ref qo55, .int 0, .ref qo56]))] s.heap := hP
  have hl := lv_entry ([.ref qo45, .int 0, .int 12]) (n := 4) (Nat.le_of_ble_eq_true rfl)
  rw [lg_entry_eq]
  generalize (lg_sl ([.ref qo45, .int 0, .int 12]) ++ List.replicate (4 - (lg_sl ([.ref qo45, .int 0, .int 12])).length) Slot.unset).toArray = ls at hl ⊢
  have hl : lv_has ls 4 [(0, .ref qo45), (1, .int 0), (2, .int 12)] := hl
  obtain ⟨H, hH⟩ : ∃ H : Heap, s.heap = H := ⟨_, rfl⟩
  rw [hH] at hP ⊢
  have hS : va_S A s.heap H [] := by rw [← hH]; exact va_S.rf
  obtain ⟨locs, hlo⟩ : ∃ locs : List Loc, locs = [] := ⟨_, rfl⟩
  rw [← hlo] at hS ⊢
  refine lv_aload_n hx hb dX3_nextUpTo_0 rfl (lv_at hl 0 rfl) ?_
  have hPc := hP.sub (ws' := [(qo45, .inr (3, [.ref qo1, .int 0, .int 0, .int 0, .ref qo52, .ref qo53, .ref qo54, .int 0, .int 0, .int 0, .int 0, .ref qo55, .int 0, .ref qo56]))]) [0] rfl
  have hDc := hD.sub (ws' := [(qo45, .inr (3, [.ref qo1, .int 0, .int 0, .int 0, .ref qo52, .ref qo53, .ref qo54, .int 0, .int 0, .int 0, .int 0, .ref qo55, .int 0, .ref qo56]))]) [0] (by decide) rfl
  have hKc := hK.sub (tys' := []) [] rfl
  have hFc := va_free (wc := [(qo45, .inr (3, [.ref qo1, .int 0, .int 0, .int 0, .ref qo52, .ref qo53, .ref qo54, .int 0, .int 0, .int 0, .int 0, .ref qo55, .int 0, .ref qo56]))]) hD hS hA [0] rfl
  refine va_calli (va_runV (As := []) (rest := []) ⟨hx, hb, hml, hown, hts⟩ (ks_Image_next5 l dC dI H.size qo45 qo1 qo52 qo53 qo54 qo55 qo56) (cwV 0 hts gv_k1_26 rfl rfl rfl (by decide +kernel) ⟨Nat.le_of_ble_eq_true rfl, Nat.le_of_ble_eq_true rfl⟩) ⟨fun a U g mk q => by obtain ⟨q0, q1, qP, qK, qD⟩ := q; exact ⟨q0, q1, qP, va_K.moved (u := U) (U := U.calling g mk a) (Vm.Alike.refl U.vm) qK, qD⟩, va_recv hKc hPc (ci := 3) (q0 := 0) rfl rfl, fun U hU hW => ⟨rfl, by rw [hU], by rw [hU]; exact hPc, va_K.moved hW.alike hKc, hDc.weaken (fun _ _ _ _ => trivial)⟩⟩ rfl rfl hl.1 rfl (lv_room (Nat.le_of_ble_eq_true rfl)) dX3_nextUpTo_1 ⟨Nat.le_of_ble_eq_true rfl, Nat.le_of_ble_eq_true rfl⟩) hS (fun q _ h => hFc q h) hFc ?_
  clear hS
  intro r_1 u t H1 locs ht hvm hw hB hz1 hk1 hS
  obtain ⟨⟩ := u
  obtain ⟨hP1, hK1, hD1⟩ := hB
  rw [ht] at hP1
  have hK1 := va_K.moved hvm.symm hK1
  try dsimp only at hw
  have hPD := va_join (wr := []) (w1 := [(qo45, .inr (3, [.ref qo1, .int 0, .int 0, .int 0, .ref qo52, .ref qo53, .ref qo54, .int 0, .int 0, .int 0, .int 0, .ref qo55, .int 0, .ref qo56]))]) hP hD [0] [] rfl rfl (by decide) (by decide) hk1 hFc hP1 hD1
  clear hP hD
  obtain ⟨hP, hD⟩ := hPD
  replace hK := (hK.sub (tys' := []) [] rfl).app hK1
  clear hPc hDc hKc hFc hP1 hK1 hD1 hz1 hk1 ht hvm
  generalize H1 = H at hP hS ⊢
  replace hP : va_P (dC, dI) vwCl [(qo45, .inr (3, [.ref qo1, .int 0, .int 0, .int 0, .ref qo52, .ref qo53, .ref qo54, .int 0, .int 0, .int 0, .int 0, .ref qo55, .int 0, .ref qo56]))] H := hP
  replace hD : va_D A [(qo45, .inr (3, [.ref qo1, .int 0, .int 0, .int 0, .ref qo52, .ref qo53, .ref qo54, .int 0, .int 0, .int 0, .int 0, .ref qo55, .int 0, .ref qo56]))] := hD
  replace hK : va_K (dC, dI) vwCl [] s := hK
  subst hw
  refine lv_istore_n (lv' := [(3, .int 0), (0, .ref qo45), (1, .int 0), (2, .int 12)]) hx hb dX3_nextUpTo_4 rfl hl (by decide) rfl (fun ls hl => ?_)
  refine lv_iload_n hx hb dX3_nextUpTo_5 rfl (lv_at hl 0 rfl) ?_
  refine lv_iload_n hx hb dX3_nextUpTo_6 rfl (lv_at hl 2 rfl) ?_
  refine lv_icmp_lt (tgt := 15) hx hb dX3_nextUpTo_7 (by decide) (fun c_2 => (show False by revert c_2; decide).elim) (fun c_2 => ?_)
  refine lv_iload_n hx hb dX3_nextUpTo_10 rfl (lv_at hl 0 rfl) ?_
  refine lv_iload_n hx hb dX3_nextUpTo_11 rfl (lv_at hl 3 rfl) ?_
  refine lv_icmp_le (tgt := 25) hx hb dX3_nextUpTo_12 (by decide) (fun c_3 => ?_) (fun c_3 => (show False by revert c_3; decide).elim)
  refine lv_iload_n hx hb dX3_nextUpTo_25 rfl (lv_at hl 0 rfl) ?_
  have hP9 := hP.sub (ws' := [(qo45, .inr (3, [.ref qo1, .int 0, .int 0, .int 0, .ref qo52, .ref qo53, .ref qo54, .int 0, .int 0, .int 0, .int 0, .ref qo55, .int 0, .ref qo56]))]) [0] rfl
  have hD9 := hD.sub (ws' := [(qo45, .inr (3, [.ref qo1, .int 0, .int 0, .int 0, .ref qo52, .ref qo53, .ref qo54, .int 0, .int 0, .int 0, .int 0, .ref qo55, .int 0, .ref qo56]))]) [0] (by decide) rfl
  have hK9 := hK.sub (tys' := []) [] rfl
  exact W.iret hx hb hr (fun t ht hW => ⟨⟨(0), (), rfl, rfl, by rw [ht]; exact hP9, va_K.moved hW.alike hK9, hD9⟩, hS.F ht⟩) hS.2.2 dX3_nextUpTo_26
set_option maxHeartbeats 4000000 in
set_option maxRecDepth 100000 in
/-- ks_Image_readFields9 -/
theorem ks_Image_readFields9 (l : Launch) (dC : Nat → ClassId) (dI : Nat → Nat → Nat) (sz : Nat) (qo45 : Nat) (qo1 : Nat) (qo52 : Nat) (qo53 : Nat) (qo54 : Nat) (qo55 : Nat) (qo56 : Nat)  : Met l yX3_readFields (.code yX3_readFields cX3_readFields 4 none :: VS_k1) ({ frames := 2, cells := 0, slots := 0, locals := 43 }) (va_Pc [.ref qo45] (fun U => U.heap.size = sz ∧ va_P (dC, dI) vwCl [(qo45, .inr (3, [.ref qo1, .int 0, .int 0, .int 0, .ref qo52, .ref qo53, .ref qo54, .int 0, .int 0, .int 0, .int 0, .ref qo55, .int 0, .ref qo56]))] U.heap ∧ va_K (dC, dI) vwCl [] U ∧ va_D (fun _ => True) [(qo45, .inr (3, [.ref qo1, .int 0, .int 0, .int 0, .ref qo52, .ref qo53, .ref qo54, .int 0, .int 0, .int 0, .int 0, .ref qo55, .int 0, .ref qo56]))])) (va_Qv (fun (u : Unit) => match u with | () => True) (fun (u : Unit) (t : State) => match u with | () => va_P (dC, dI) vwCl [(qo45, .inr (3, [.ref qo1, .int 0, .int 0, .int 0, .ref qo52, .ref qo53, .ref qo54, .int 0, .int 0, .int 0, .int 0, .ref qo55, .int 0, .ref qo56]))] t.heap ∧ va_K (dC, dI) vwCl [] t ∧ va_D (va_A [(qo45, .inr (3, [.ref qo1, .int 0, .int 0, .int 0, .ref qo52, .ref qo53, .ref qo54, .int 0, .int 0, .int 0, .int 0, .ref qo55, .int 0, .ref qo56]))] sz) [(qo45, .inr (3, [.ref qo1, .int 0, .int 0, .int 0, .ref qo52, .ref qo53, .ref qo54, .int 0, .int 0, .int 0, .int 0, .ref qo55, .int 0, .ref qo56]))]) (va_A [(qo45, .inr (3, [.ref qo1, .int 0, .int 0, .int 0, .ref qo52, .ref qo53, .ref qo54, .int 0, .int 0, .int 0, .int 0, .ref qo55, .int 0, .ref qo56]))] sz)) 0 0 (va_A [(qo45, .inr (3, [.ref qo1, .int 0, .int 0, .int 0, .ref qo52, .ref qo53, .ref qo54, .int 0, .int 0, .int 0, .int 0, .ref qo55, .int 0, .ref qo56]))] sz) := by
  refine Met.ofW (cc := cX3_readFields) (maxL := 4) (ret := none) (by decide) rfl ?_
  intro p e s m args below meth c s₁ B hml hv
  obtain ⟨rfl, hsz, hP, hK, hD0⟩ := hv
  have hx := B.exec
  have hb := B.bytes
  have hr := B.returns
  have hts := atoms_spec (ws := (.code yX3_readFields cX3_readFields 4 none :: VS_k1)) B.pre
  replace hts := fun w (h : w ∈ VS_k1) => hts w (List.mem_cons_of_mem _ h)
  have hown : s.vm.findClass RX3 = some m.cls := findClass_of_methodNamed B.named
  have hlocks := B.notSynchronized
  subst hsz
  have hD := hD0.self (sz := s.heap.size)
  generalize hAe : va_A [(qo45, .inr (3, [.ref qo1, .int 0, .int 0, .int 0, .ref qo52, .ref qo53, .ref qo54, .int 0, .int 0, .int 0, .int 0, .ref qo55, .int 0, .ref qo56]))] s.heap.size = A at hD  ⊢
  have hA : ∀ q : Nat, s.heap.size ≤ q → A q := fun q h => by rw [← hAe]; exact Or.inr h
  have hP : va_P (dC, dI) vwCl [(qo45, .inr (3, [.ref qo1, .int 0, .int 0, .int 0, .ref qo52, .ref qo53, .ref qo54, .int 0, .int 0, .int 0, .int 0, .ref qo55, .int 0, .ref qo56]))] s.heap := hP
  have hl := lv_entry ([.ref qo45]) (n := 4) (Nat.le_of_ble_eq_true rfl)
  rw [lg_entry_eq]
  generalize (lg_sl ([.ref qo45]) ++ List.replicate (4 - (lg_sl ([.ref qo45])).length) Slot.unset).toArray = ls at hl ⊢
  have hl : lv_has ls 4 [(0, .ref qo45)] := hl
  obtain ⟨H, hH⟩ : ∃ H : Heap, s.heap = H := ⟨_, rfl⟩
  rw [hH] at hP ⊢
  have hS : va_S A s.heap H [] := by rw [← hH]; exact va_S.rf
  obtain ⟨locs, hlo⟩ : ∃ locs : List Loc, locs = [] := ⟨_, rfl⟩
  rw [← hlo] at hS ⊢
  refine lv_aload_n hx hb dX3_readFields_0 rfl (lv_at hl 0 rfl) ?_
  refine lv_iconst (v := 0) hx hb dX3_readFields_1 (by decide) ?_
  refine lv_bipush (v := 12) hx hb dX3_readFields_2 (by decide) ?_
  have hPc := hP.sub (ws' := [(qo45, .inr (3, [.ref qo1, .int 0, .int 0, .int 0, .ref qo52, .ref qo53, .ref qo54, .int 0, .int 0, .int 0, .int 0, .ref qo55, .int 0, .ref qo56]))]) [0] rfl
  have hDc := hD.sub (ws' := [(qo45, .inr (3, [.ref qo1, .int 0, .int 0, .int 0, .ref qo52, .ref qo53, .ref qo54, .int 0, .int 0, .int 0, .int 0, .ref qo55, .int 0, .ref qo56]))]) [0] (by decide) rfl
  have hKc := hK.sub (tys' := []) [] rfl
  have hFc := va_free (wc := [(qo45, .inr (3, [.ref qo1, .int 0, .int 0, .int 0, .ref qo52, .ref qo53, .ref qo54, .int 0, .int 0, .int 0, .int 0, .ref qo55, .int 0, .ref qo56]))]) hD hS hA [0] rfl
  refine va_calli (va_runV (As := [.int 0, .int 12]) (rest := []) ⟨hx, hb, hml, hown, hts⟩ (ks_Image_nextUpTo10 l dC dI H.size qo45 qo1 qo52 qo53 qo54 qo55 qo56) (cwV 2 hts gv_k1_32 rfl rfl rfl (by decide +kernel) ⟨Nat.le_of_ble_eq_true rfl, Nat.le_of_ble_eq_true rfl⟩) ⟨fun a U g mk q => by obtain ⟨q0, q1, qP, qK, qD⟩ := q; exact ⟨q0, q1, qP, va_K.moved (u := U) (U := U.calling g mk a) (Vm.Alike.refl U.vm) qK, qD⟩, va_recv hKc hPc (ci := 3) (q0 := 0) rfl rfl, fun U hU hW => ⟨rfl, by rw [hU], by rw [hU]; exact hPc, va_K.moved hW.alike hKc, hDc.weaken (fun _ _ _ _ => trivial)⟩⟩ rfl rfl hl.1 rfl (lv_room (Nat.le_of_ble_eq_true rfl)) dX3_readFields_4 ⟨Nat.le_of_ble_eq_true rfl, Nat.le_of_ble_eq_true rfl⟩) hS (fun q _ h => hFc q h) hFc ?_
  clear hS
  intro r_1 u t H1 locs ht hvm hw hB hz1 hk1 hS
  obtain ⟨⟩ := u
  obtain ⟨hP1, hK1, hD1⟩ := hB
  rw [ht] at hP1
  have hK1 := va_K.moved hvm.symm hK1
  try dsimp only at hw
  have hPD := va_join (wr := []) (w1 := [(qo45, .inr (3, [.ref qo1, .int 0, .int 0, .int 0, .ref qo52, .ref qo53, .ref qo54, .int 0, .int 0, .int 0, .int 0, .ref qo55, .int 0, .ref qo56]))]) hP hD [0] [] rfl rfl (by decide) (by decide) hk1 hFc hP1 hD1
  clear hP hD
  obtain ⟨hP, hD⟩ := hPD
  replace hK := (hK.sub (tys' := []) [] rfl).app hK1
  clear hPc hDc hKc hFc hP1 hK1 hD1 hz1 hk1 ht hvm
  generalize H1 = H at hP hS ⊢
  replace hP : va_P (dC, dI) vwCl [(qo45, .inr (3, [.ref qo1, .int 0, .int 0, .int 0, .ref qo52, .ref qo53, .ref qo54, .int 0, .int 0, .int 0, .int 0, .ref qo55, .int 0, .ref qo56]))] H := hP
  replace hD : va_D A [(qo45, .inr (3, [.ref qo1, .int 0, .int 0, .int 0, .ref qo52, .ref qo53, .ref qo54, .int 0, .int 0, .int 0, .int 0, .ref qo55, .int 0, .ref qo56]))] := hD
  replace hK : va_K (dC, dI) vwCl [] s := hK
  subst hw
  refine lv_istore_n (lv' := [(1, .int 0), (0, .ref qo45)]) hx hb dX3_readFields_7 rfl hl (by decide) rfl (fun ls hl => ?_)
  refine lv_iconst (v := 0) hx hb dX3_readFields_8 (by decide) ?_
  refine lv_istore_n (lv' := [(2, .int 0), (1, .int 0), (0, .ref qo45)]) hx hb dX3_readFields_9 rfl hl (by decide) rfl (fun ls hl => ?_)
  refine lv_iload_n hx hb dX3_readFields_10 rfl (lv_at hl 0 rfl) ?_
  refine lv_iload_n hx hb dX3_readFields_11 rfl (lv_at hl 1 rfl) ?_
  refine lv_icmp_ge (tgt := 85) hx hb dX3_readFields_12 (by decide) (fun c_2 => ?_) (fun c_2 => (show False by revert c_2; decide).elim)
  have hP9 := hP.sub (ws' := [(qo45, .inr (3, [.ref qo1, .int 0, .int 0, .int 0, .ref qo52, .ref qo53, .ref qo54, .int 0, .int 0, .int 0, .int 0, .ref qo55, .int 0, .ref qo56]))]) [0] rfl
  have hD9 := hD.sub (ws' := [(qo45, .inr (3, [.ref qo1, .int 0, .int 0, .int 0, .ref qo52, .ref qo53, .ref qo54, .int 0, .int 0, .int 0, .int 0, .ref qo55, .int 0, .ref qo56]))]) [0] (by decide) rfl
  have hK9 := hK.sub (tys' := []) [] rfl
  exact W.vret hx hb hr (fun t ht hW => ⟨⟨(), rfl, trivial, by rw [ht]; exact hP9, va_K.moved hW.alike hK9, hD9⟩, hS.F ht⟩) hS.2.2 dX3_readFields_85
set_option maxHeartbeats 4000000 in
set_option maxRecDepth 100000 in
/-- kk_read -/
theorem kk_read (l : Launch) (dC : Nat → ClassId) (dI : Nat → Nat → Nat) (sz : Nat) (qo45 : Nat) (qo1 : Nat) (qo51 : Nat) (qo52 : Nat) (qo53 : Nat) (qo54 : Nat) (qo55 : Nat) (qo56 : Nat) (co1 : ClassId)  : Met l yX3_read (.code yX3_read cX3_read 5 (some .int) :: VS_k1) ({ frames := 3, cells := 0, slots := 0, locals := 66 }) (va_Pc [.ref qo45, .ref qo1, .int 0] (fun U => U.heap.size = sz ∧ va_P (dC, dI) vwCl [(qo45, .inr (3, [.ref qo51, .int 0, .int 0, .int 0, .ref qo52, .ref qo53, .ref qo54, .int 0, .int 0, .int 0, .int 0, .ref qo55, .int 0, .ref qo56])), (qo1, .inl (co1, 6000, .inl (fun _ => 0)))] U.heap ∧ va_K (dC, dI) vwCl [(co1, .byte)] U ∧ va_D (fun _ => True) [(qo45, .inr (3, [.ref qo51, .int 0, .int 0, .int 0, .ref qo52, .ref qo53, .ref qo54, .int 0, .int 0, .int 0, .int 0, .ref qo55, .int 0, .ref qo56])), (qo1, .inl (co1, 6000, .inl (fun _ => 0)))])) (va_Qi (fun (r : Int32) (u : Unit) => match u with | () => r = 0) (fun (u : Unit) (t : State) => match u with | () => va_P (dC, dI) vwCl [] t.heap ∧ va_K (dC, dI) vwCl [] t ∧ va_D (va_A [(qo45, .inr (3, [.ref qo51, .int 0, .int 0, .int 0, .ref qo52, .ref qo53, .ref qo54, .int 0, .int 0, .int 0, .int 0, .ref qo55, .int 0, .ref qo56])), (qo1, .inl (co1, 6000, .inl (fun _ => 0)))] sz) []) (va_A [(qo45, .inr (3, [.ref qo51, .int 0, .int 0, .int 0, .ref qo52, .ref qo53, .ref qo54, .int 0, .int 0, .int 0, .int 0, .ref qo55, .int 0, .ref qo56])), (qo1, .inl (co1, 6000, .inl (fun _ => 0)))] sz)) 0 0 (va_A [(qo45, .inr (3, [.ref qo51, .int 0, .int 0, .int 0, .ref qo52, .ref qo53, .ref qo54, .int 0, .int 0, .int 0, .int 0, .ref qo55, .int 0, .ref qo56])), (qo1, .inl (co1, 6000, .inl (fun _ => 0)))] sz) := by
  refine Met.ofW (cc := cX3_read) (maxL := 5) (ret := (some .int)) (by decide) rfl ?_
  intro p e s m args below meth c s₁ B hml hv
  obtain ⟨rfl, hsz, hP, hK, hD0⟩ := hv
  have hx := B.exec
  have hb := B.bytes
  have hr := B.returns
  have hts := atoms_spec (ws := (.code yX3_read cX3_read 5 (some .int) :: VS_k1)) B.pre
  replace hts := fun w (h : w ∈ VS_k1) => hts w (List.mem_cons_of_mem _ h)
  have hown : s.vm.findClass RX3 = some m.cls := findClass_of_methodNamed B.named
  have hlocks := B.notSynchronized
  subst hsz
  have hD := hD0.self (sz := s.heap.size)
  generalize hAe : va_A [(qo45, .inr (3, [.ref qo51, .int 0, .int 0, .int 0, .ref qo52, .ref qo53, .ref qo54, .int 0, .int 0, .int 0, .int 0, .ref qo55, .int 0, .ref qo56])), (qo1, .inl (co1, 6000, .inl (fun _ => 0)))] s.heap.size = A at hD  ⊢
  have hA : ∀ q : Nat, s.heap.size ≤ q → A q := fun q h => by rw [← hAe]; exact Or.inr h
  have hP : va_P (dC, dI) vwCl [(qo45, .inr (3, [.ref qo51, .int 0, .int 0, .int 0, .ref qo52, .ref qo53, .ref qo54, .int 0, .int 0, .int 0, .int 0, .ref qo55, .int 0, .ref qo56])), (qo1, .inl (co1, 6000, .inl (fun _ => 0)))] s.heap := hP
  have hl := lv_entry ([.ref qo45, .ref qo1, .int 0]) (n := 5) (Nat.le_of_ble_eq_true rfl)
  rw [lg_entry_eq]
  generalize (lg_sl ([.ref qo45, .ref qo1, .int 0]) ++ List.replicate (5 - (lg_sl ([.ref qo45, .ref qo1, .int 0])).length) Slot.unset).toArray = ls at hl ⊢
  have hl : lv_has ls 5 [(0, .ref qo45), (1, .ref qo1), (2, .int 0)] := hl
  obtain ⟨H, hH⟩ : ∃ H : Heap, s.heap = H := ⟨_, rfl⟩
  rw [hH] at hP ⊢
  have hS : va_S A s.heap H [] := by rw [← hH]; exact va_S.rf
  obtain ⟨locs, hlo⟩ : ∃ locs : List Loc, locs = [] := ⟨_, rfl⟩
  rw [← hlo] at hS ⊢
  refine lv_aload_n hx hb dX3_read_0 rfl (lv_at hl 0 rfl) ?_
  refine lv_aload_n hx hb dX3_read_1 rfl (lv_at hl 1 rfl) ?_
  refine va_put (D := (dC, dI)) (ci := 3) (v := .ref qo1) (ty := .array .byte) (C := RX3) (T := TX3) (N := 14) hx hb hts uV_k1_X3 tyX3 tyX3_ok nmX3 hown hK hP hD hS 0 rfl rfl 0 (by decide) (hts (.fieldLink RX3 9 "ClassMill$Image" "bytes" "[B") mw_k1_137) (fun _ h9 => h9) rfl (by decide +kernel) rfl rfl (Nat.le_of_ble_eq_true rfl) dX3_read_2 ?_
  clear hP hD hS
  intro H locs hP hD hS
  replace hP : va_P (dC, dI) vwCl [(qo45, .inr (3, [.ref qo1, .int 0, .int 0, .int 0, .ref qo52, .ref qo53, .ref qo54, .int 0, .int 0, .int 0, .int 0, .ref qo55, .int 0, .ref qo56])), (qo1, .inl (co1, 6000, .inl (fun _ => 0)))] H := hP
  replace hD : va_D A [(qo45, .inr (3, [.ref qo1, .int 0, .int 0, .int 0, .ref qo52, .ref qo53, .ref qo54, .int 0, .int 0, .int 0, .int 0, .ref qo55, .int 0, .ref qo56])), (qo1, .inl (co1, 6000, .inl (fun _ => 0)))] := hD
  refine lv_aload_n hx hb dX3_read_5 rfl (lv_at hl 0 rfl) ?_
  refine lv_iload_n hx hb dX3_read_6 rfl (lv_at hl 2 rfl) ?_
  refine lv_aload_n hx hb dX3_read_7 rfl (lv_at hl 1 rfl) ?_
  refine va_alen (v := 6000) hx hb hK hP 1 0 rfl rfl rfl dX3_read_8 ?_
  refine va_mmin hx hb (by rw [hml]; exact hl.1.symm) hown (hts (.methodLink RX3 33 yJ9_min_7cf53) mw_k1_138) (hts (.static yJ9_min_7cf53) mw_k1_139) (hts (.initialized "java/lang/Math") mw_k1_140) (hts (.code yJ9_min_7cf53 cJ9_min_7cf53 2 (some .int)) mw_k1_141) (Nat.le_of_ble_eq_true rfl) (Nat.le_of_ble_eq_true rfl) (Nat.le_of_ble_eq_true rfl) (Nat.le_of_ble_eq_true rfl) dX3_read_9 ?_
  rw [if_neg (by decide)]
  refine W.eq (g2 := F0 m 12 ls [.int 0, .ref qo45]) rfl ?_
  refine va_put (D := (dC, dI)) (ci := 3) (v := .int 0) (ty := .int) (C := RX3) (T := TX3) (N := 14) hx hb hts uV_k1_X3 tyX3 tyX3_ok nmX3 hown hK hP hD hS 0 rfl rfl 1 (by decide) (hts (.fieldLink RX3 39 "ClassMill$Image" "size" "I") mw_k1_101) (fun _ h9 => h9) rfl (by decide +kernel) rfl rfl (Nat.le_of_ble_eq_true rfl) dX3_read_12 ?_
  clear hP hD hS
  intro H locs hP hD hS
  replace hP : va_P (dC, dI) vwCl [(qo45, .inr (3, [.ref qo1, .int 0, .int 0, .int 0, .ref qo52, .ref qo53, .ref qo54, .int 0, .int 0, .int 0, .int 0, .ref qo55, .int 0, .ref qo56])), (qo1, .inl (co1, 6000, .inl (fun _ => 0)))] H := hP
  replace hD : va_D A [(qo45, .inr (3, [.ref qo1, .int 0, .int 0, .int 0, .ref qo52, .ref qo53, .ref qo54, .int 0, .int 0, .int 0, .int 0, .ref qo55, .int 0, .ref qo56])), (qo1, .inl (co1, 6000, .inl (fun _ => 0)))] := hD
  refine lv_aload_n hx hb dX3_read_15 rfl (lv_at hl 0 rfl) ?_
  refine lv_iconst (v := 0) hx hb dX3_read_16 (by decide) ?_
  refine va_put (D := (dC, dI)) (ci := 3) (v := .int 0) (ty := .int) (C := RX3) (T := TX3) (N := 14) hx hb hts uV_k1_X3 tyX3 tyX3_ok nmX3 hown hK hP hD hS 0 rfl rfl 2 (by decide) (hts (.fieldLink RX3 43 "ClassMill$Image" "pos" "I") mw_k1_100) (fun _ h9 => h9) rfl (by decide +kernel) rfl rfl (Nat.le_of_ble_eq_true rfl) dX3_read_17 ?_
  clear hP hD hS
  intro H locs hP hD hS
  replace hP : va_P (dC, dI) vwCl [(qo45, .inr (3, [.ref qo1, .int 0, .int 0, .int 0, .ref qo52, .ref qo53, .ref qo54, .int 0, .int 0, .int 0, .int 0, .ref qo55, .int 0, .ref qo56])), (qo1, .inl (co1, 6000, .inl (fun _ => 0)))] H := hP
  replace hD : va_D A [(qo45, .inr (3, [.ref qo1, .int 0, .int 0, .int 0, .ref qo52, .ref qo53, .ref qo54, .int 0, .int 0, .int 0, .int 0, .ref qo55, .int 0, .ref qo56])), (qo1, .inl (co1, 6000, .inl (fun _ => 0)))] := hD
  refine lv_aload_n hx hb dX3_read_20 rfl (lv_at hl 0 rfl) ?_
  refine lv_iconst (v := (-1)) hx hb dX3_read_21 (by decide) ?_
  refine va_put (D := (dC, dI)) (ci := 3) (v := .int (-1)) (ty := .int) (C := RX3) (T := TX3) (N := 14) hx hb hts uV_k1_X3 tyX3 tyX3_ok nmX3 hown hK hP hD hS 0 rfl rfl 3 (by decide) (hts (.fieldLink RX3 46 "ClassMill$Image" "form" "I") mw_k1_102) (fun _ h9 => h9) rfl (by decide +kernel) rfl rfl (Nat.le_of_ble_eq_true rfl) dX3_read_22 ?_
  clear hP hD hS
  intro H locs hP hD hS
  replace hP : va_P (dC, dI) vwCl [(qo45, .inr (3, [.ref qo1, .int 0, .int 0, .int (-1), .ref qo52, .ref qo53, .ref qo54, .int 0, .int 0, .int 0, .int 0, .ref qo55, .int 0, .ref qo56])), (qo1, .inl (co1, 6000, .inl (fun _ => 0)))] H := hP
  replace hD : va_D A [(qo45, .inr (3, [.ref qo1, .int 0, .int 0, .int (-1), .ref qo52, .ref qo53, .ref qo54, .int 0, .int 0, .int 0, .int 0, .ref qo55, .int 0, .ref qo56])), (qo1, .inl (co1, 6000, .inl (fun _ => 0)))] := hD
  refine lv_aload_n hx hb dX3_read_25 rfl (lv_at hl 0 rfl) ?_
  refine lv_iconst (v := 0) hx hb dX3_read_26 (by decide) ?_
  refine va_put (D := (dC, dI)) (ci := 3) (v := .int 0) (ty := .int) (C := RX3) (T := TX3) (N := 14) hx hb hts uV_k1_X3 tyX3 tyX3_ok nmX3 hown hK hP hD hS 0 rfl rfl 10 (by decide) (hts (.fieldLink RX3 49 "ClassMill$Image" "fields" "I") mw_k1_142) (fun _ h9 => h9) rfl (by decide +kernel) rfl rfl (Nat.le_of_ble_eq_true rfl) dX3_read_27 ?_
  clear hP hD hS
  intro H locs hP hD hS
  replace hP : va_P (dC, dI) vwCl [(qo45, .inr (3, [.ref qo1, .int 0, .int 0, .int (-1), .ref qo52, .ref qo53, .ref qo54, .int 0, .int 0, .int 0, .int 0, .ref qo55, .int 0, .ref qo56])), (qo1, .inl (co1, 6000, .inl (fun _ => 0)))] H := hP
  replace hD : va_D A [(qo45, .inr (3, [.ref qo1, .int 0, .int 0, .int (-1), .ref qo52, .ref qo53, .ref qo54, .int 0, .int 0, .int 0, .int 0, .ref qo55, .int 0, .ref qo56])), (qo1, .inl (co1, 6000, .inl (fun _ => 0)))] := hD
  refine lv_aload_n hx hb dX3_read_30 rfl (lv_at hl 0 rfl) ?_
  refine lv_iconst (v := 0) hx hb dX3_read_31 (by decide) ?_
  refine va_put (D := (dC, dI)) (ci := 3) (v := .int 0) (ty := .int) (C := RX3) (T := TX3) (N := 14) hx hb hts uV_k1_X3 tyX3 tyX3_ok nmX3 hown hK hP hD hS 0 rfl rfl 12 (by decide) (hts (.fieldLink RX3 52 "ClassMill$Image" "methods" "I") mw_k1_143) (fun _ h9 => h9) rfl (by decide +kernel) rfl rfl (Nat.le_of_ble_eq_true rfl) dX3_read_32 ?_
  clear hP hD hS
  intro H locs hP hD hS
  replace hP : va_P (dC, dI) vwCl [(qo45, .inr (3, [.ref qo1, .int 0, .int 0, .int (-1), .ref qo52, .ref qo53, .ref qo54, .int 0, .int 0, .int 0, .int 0, .ref qo55, .int 0, .ref qo56])), (qo1, .inl (co1, 6000, .inl (fun _ => 0)))] H := hP
  replace hD : va_D A [(qo45, .inr (3, [.ref qo1, .int 0, .int 0, .int (-1), .ref qo52, .ref qo53, .ref qo54, .int 0, .int 0, .int 0, .int 0, .ref qo55, .int 0, .ref qo56])), (qo1, .inl (co1, 6000, .inl (fun _ => 0)))] := hD
  refine lv_aload_n hx hb dX3_read_35 rfl (lv_at hl 0 rfl) ?_
  have hPc := hP.sub (ws' := [(qo45, .inr (3, [.ref qo1, .int 0, .int 0, .int (-1), .ref qo52, .ref qo53, .ref qo54, .int 0, .int 0, .int 0, .int 0, .ref qo55, .int 0, .ref qo56]))]) [0] rfl
  have hDc := hD.sub (ws' := [(qo45, .inr (3, [.ref qo1, .int 0, .int 0, .int (-1), .ref qo52, .ref qo53, .ref qo54, .int 0, .int 0, .int 0, .int 0, .ref qo55, .int 0, .ref qo56]))]) [0] (by decide) rfl
  have hKc := hK.sub (tys' := []) [] rfl
  have hFc := va_free (wc := [(qo45, .inr (3, [.ref qo1, .int 0, .int 0, .int (-1), .ref qo52, .ref qo53, .ref qo54, .int 0, .int 0, .int 0, .int 0, .ref qo55, .int 0, .ref qo56]))]) hD hS hA [0] rfl
  refine va_callv (va_runV (As := []) (rest := []) ⟨hx, hb, hml, hown, hts⟩ (ks_Image_readConstants0 l dC dI H.size qo45 qo1 qo52 qo53 qo54 qo55 qo56) (cwV 0 hts gv_k1_28 rfl rfl rfl (by decide +kernel) ⟨Nat.le_of_ble_eq_true rfl, Nat.le_of_ble_eq_true rfl⟩) ⟨fun a U g mk q => by obtain ⟨q0, q1, qP, qK, qD⟩ := q; exact ⟨q0, q1, qP, va_K.moved (u := U) (U := U.calling g mk a) (Vm.Alike.refl U.vm) qK, qD⟩, va_recv hKc hPc (ci := 3) (q0 := 0) rfl rfl, fun U hU hW => ⟨rfl, by rw [hU], by rw [hU]; exact hPc, va_K.moved hW.alike hKc, hDc.weaken (fun _ _ _ _ => trivial)⟩⟩ rfl rfl hl.1 rfl (lv_room (Nat.le_of_ble_eq_true rfl)) dX3_read_36 ⟨Nat.le_of_ble_eq_true rfl, Nat.le_of_ble_eq_true rfl⟩) hS (fun q _ h => hFc q h) hFc ?_
  clear hS
  intro u t H1 locs ht hvm hw hB hz1 hk1 hS
  obtain ⟨⟩ := u
  obtain ⟨hP1, hK1, hD1⟩ := hB
  rw [ht] at hP1
  have hK1 := va_K.moved hvm.symm hK1
  try dsimp only at hw
  have hPD := va_join (wr := [(qo1, .inl (co1, 6000, .inl (fun _ => 0)))]) (w1 := [(qo45, .inr (3, [.ref qo1, .int 0, .int 0, .int 0, .ref qo52, .ref qo53, .ref qo54, .int 0, .int 0, .int 0, .int 0, .ref qo55, .int 0, .ref qo56]))]) hP hD [0] [1] rfl rfl (by decide) (by decide) hk1 hFc hP1 hD1
  clear hP hD
  obtain ⟨hP, hD⟩ := hPD
  replace hK := (hK.sub (tys' := [(co1, .byte)]) [0] rfl).app hK1
  clear hPc hDc hKc hFc hP1 hK1 hD1 hz1 hk1 ht hvm
  generalize H1 = H at hP hS ⊢
  replace hP : va_P (dC, dI) vwCl [(qo1, .inl (co1, 6000, .inl (fun _ => 0))), (qo45, .inr (3, [.ref qo1, .int 0, .int 0, .int 0, .ref qo52, .ref qo53, .ref qo54, .int 0, .int 0, .int 0, .int 0, .ref qo55, .int 0, .ref qo56]))] H := hP
  replace hD : va_D A [(qo1, .inl (co1, 6000, .inl (fun _ => 0))), (qo45, .inr (3, [.ref qo1, .int 0, .int 0, .int 0, .ref qo52, .ref qo53, .ref qo54, .int 0, .int 0, .int 0, .int 0, .ref qo55, .int 0, .ref qo56]))] := hD
  replace hK : va_K (dC, dI) vwCl [(co1, .byte)] s := hK
  refine lv_aload_n hx hb dX3_read_39 rfl (lv_at hl 0 rfl) ?_
  refine lv_aload_n hx hb dX3_read_40 rfl (lv_at hl 0 rfl) ?_
  have hPc := hP.sub (ws' := [(qo45, .inr (3, [.ref qo1, .int 0, .int 0, .int 0, .ref qo52, .ref qo53, .ref qo54, .int 0, .int 0, .int 0, .int 0, .ref qo55, .int 0, .ref qo56]))]) [1] rfl
  have hDc := hD.sub (ws' := [(qo45, .inr (3, [.ref qo1, .int 0, .int 0, .int 0, .ref qo52, .ref qo53, .ref qo54, .int 0, .int 0, .int 0, .int 0, .ref qo55, .int 0, .ref qo56]))]) [1] (by decide) rfl
  have hKc := hK.sub (tys' := []) [] rfl
  have hFc := va_free (wc := [(qo45, .inr (3, [.ref qo1, .int 0, .int 0, .int 0, .ref qo52, .ref qo53, .ref qo54, .int 0, .int 0, .int 0, .int 0, .ref qo55, .int 0, .ref qo56]))]) hD hS hA [1] rfl
  refine va_calli (va_runV (As := []) (rest := [.ref qo45]) ⟨hx, hb, hml, hown, hts⟩ (ks_Image_nextPlainClass6 l dC dI H.size qo45 qo1 qo52 qo53 qo54 qo55 qo56) (cwV 0 hts gv_k1_31 rfl rfl rfl (by decide +kernel) ⟨Nat.le_of_ble_eq_true rfl, Nat.le_of_ble_eq_true rfl⟩) ⟨fun a U g mk q => by obtain ⟨q0, q1, qP, qK, qD⟩ := q; exact ⟨q0, q1, qP, va_K.moved (u := U) (U := U.calling g mk a) (Vm.Alike.refl U.vm) qK, qD⟩, va_recv hKc hPc (ci := 3) (q0 := 0) rfl rfl, fun U hU hW => ⟨rfl, by rw [hU], by rw [hU]; exact hPc, va_K.moved hW.alike hKc, hDc.weaken (fun _ _ _ _ => trivial)⟩⟩ rfl rfl hl.1 rfl (lv_room (Nat.le_of_ble_eq_true rfl)) dX3_read_41 ⟨Nat.le_of_ble_eq_true rfl, Nat.le_of_ble_eq_true rfl⟩) hS (fun q _ h => hFc q h) hFc ?_
  clear hS
  intro r_1 u t H1 locs ht hvm hw hB hz1 hk1 hS
  obtain ⟨⟩ := u
  obtain ⟨hP1, hK1, hD1⟩ := hB
  rw [ht] at hP1
  have hK1 := va_K.moved hvm.symm hK1
  try dsimp only at hw
  have hPD := va_join (wr := [(qo1, .inl (co1, 6000, .inl (fun _ => 0)))]) (w1 := [(qo45, .inr (3, [.ref qo1, .int 0, .int 0, .int 0, .ref qo52, .ref qo53, .ref qo54, .int 0, .int 0, .int 0, .int 0, .ref qo55, .int 0, .ref qo56]))]) hP hD [1] [0] rfl rfl (by decide) (by decide) hk1 hFc hP1 hD1
  clear hP hD
  obtain ⟨hP, hD⟩ := hPD
  replace hK := (hK.sub (tys' := [(co1, .byte)]) [0] rfl).app hK1
  clear hPc hDc hKc hFc hP1 hK1 hD1 hz1 hk1 ht hvm
  generalize H1 = H at hP hS ⊢
  replace hP : va_P (dC, dI) vwCl [(qo1, .inl (co1, 6000, .inl (fun _ => 0))), (qo45, .inr (3, [.ref qo1, .int 0, .int 0, .int 0, .ref qo52, .ref qo53, .ref qo54, .int 0, .int 0, .int 0, .int 0, .ref qo55, .int 0, .ref qo56]))] H := hP
  replace hD : va_D A [(qo1, .inl (co1, 6000, .inl (fun _ => 0))), (qo45, .inr (3, [.ref qo1, .int 0, .int 0, .int 0, .ref qo52, .ref qo53, .ref qo54, .int 0, .int 0, .int 0, .int 0, .ref qo55, .int 0, .ref qo56]))] := hD
  replace hK : va_K (dC, dI) vwCl [(co1, .byte)] s := hK
  subst hw
  refine va_put (D := (dC, dI)) (ci := 3) (v := .int 0) (ty := .int) (C := RX3) (T := TX3) (N := 14) hx hb hts uV_k1_X3 tyX3 tyX3_ok nmX3 hown hK hP hD hS 1 rfl rfl 8 (by decide) (hts (.fieldLink RX3 62 "ClassMill$Image" "selfText" "I") mw_k1_144) (fun _ h9 => h9) rfl (by decide +kernel) rfl rfl (Nat.le_of_ble_eq_true rfl) dX3_read_44 ?_
  clear hP hD hS
  intro H locs hP hD hS
  replace hP : va_P (dC, dI) vwCl [(qo1, .inl (co1, 6000, .inl (fun _ => 0))), (qo45, .inr (3, [.ref qo1, .int 0, .int 0, .int 0, .ref qo52, .ref qo53, .ref qo54, .int 0, .int 0, .int 0, .int 0, .ref qo55, .int 0, .ref qo56]))] H := hP
  replace hD : va_D A [(qo1, .inl (co1, 6000, .inl (fun _ => 0))), (qo45, .inr (3, [.ref qo1, .int 0, .int 0, .int 0, .ref qo52, .ref qo53, .ref qo54, .int 0, .int 0, .int 0, .int 0, .ref qo55, .int 0, .ref qo56]))] := hD
  refine lv_aload_n hx hb dX3_read_47 rfl (lv_at hl 0 rfl) ?_
  refine lv_aload_n hx hb dX3_read_48 rfl (lv_at hl 0 rfl) ?_
  have hPc := hP.sub (ws' := [(qo45, .inr (3, [.ref qo1, .int 0, .int 0, .int 0, .ref qo52, .ref qo53, .ref qo54, .int 0, .int 0, .int 0, .int 0, .ref qo55, .int 0, .ref qo56]))]) [1] rfl
  have hDc := hD.sub (ws' := [(qo45, .inr (3, [.ref qo1, .int 0, .int 0, .int 0, .ref qo52, .ref qo53, .ref qo54, .int 0, .int 0, .int 0, .int 0, .ref qo55, .int 0, .ref qo56]))]) [1] (by decide) rfl
  have hKc := hK.sub (tys' := []) [] rfl
  have hFc := va_free (wc := [(qo45, .inr (3, [.ref qo1, .int 0, .int 0, .int 0, .ref qo52, .ref qo53, .ref qo54, .int 0, .int 0, .int 0, .int 0, .ref qo55, .int 0, .ref qo56]))]) hD hS hA [1] rfl
  refine va_calli (va_runV (As := []) (rest := [.ref qo45]) ⟨hx, hb, hml, hown, hts⟩ (ks_Image_nextPlainClass6 l dC dI H.size qo45 qo1 qo52 qo53 qo54 qo55 qo56) (cwV 0 hts gv_k1_31 rfl rfl rfl (by decide +kernel) ⟨Nat.le_of_ble_eq_true rfl, Nat.le_of_ble_eq_true rfl⟩) ⟨fun a U g mk q => by obtain ⟨q0, q1, qP, qK, qD⟩ := q; exact ⟨q0, q1, qP, va_K.moved (u := U) (U := U.calling g mk a) (Vm.Alike.refl U.vm) qK, qD⟩, va_recv hKc hPc (ci := 3) (q0 := 0) rfl rfl, fun U hU hW => ⟨rfl, by rw [hU], by rw [hU]; exact hPc, va_K.moved hW.alike hKc, hDc.weaken (fun _ _ _ _ => trivial)⟩⟩ rfl rfl hl.1 rfl (lv_room (Nat.le_of_ble_eq_true rfl)) dX3_read_49 ⟨Nat.le_of_ble_eq_true rfl, Nat.le_of_ble_eq_true rfl⟩) hS (fun q _ h => hFc q h) hFc ?_
  clear hS
  intro r_2 u t H1 locs ht hvm hw hB hz1 hk1 hS
  obtain ⟨⟩ := u
  obtain ⟨hP1, hK1, hD1⟩ := hB
  rw [ht] at hP1
  have hK1 := va_K.moved hvm.symm hK1
  try dsimp only at hw
  have hPD := va_join (wr := [(qo1, .inl (co1, 6000, .inl (fun _ => 0)))]) (w1 := [(qo45, .inr (3, [.ref qo1, .int 0, .int 0, .int 0, .ref qo52, .ref qo53, .ref qo54, .int 0, .int 0, .int 0, .int 0, .ref qo55, .int 0, .ref qo56]))]) hP hD [1] [0] rfl rfl (by decide) (by decide) hk1 hFc hP1 hD1
  clear hP hD
  obtain ⟨hP, hD⟩ := hPD
  replace hK := (hK.sub (tys' := [(co1, .byte)]) [0] rfl).app hK1
  clear hPc hDc hKc hFc hP1 hK1 hD1 hz1 hk1 ht hvm
  generalize H1 = H at hP hS ⊢
  replace hP : va_P (dC, dI) vwCl [(qo1, .inl (co1, 6000, .inl (fun _ => 0))), (qo45, .inr (3, [.ref qo1, .int 0, .int 0, .int 0, .ref qo52, .ref qo53, .ref qo54, .int 0, .int 0, .int 0, .int 0, .ref qo55, .int 0, .ref qo56]))] H := hP
  replace hD : va_D A [(qo1, .inl (co1, 6000, .inl (fun _ => 0))), (qo45, .inr (3, [.ref qo1, .int 0, .int 0, .int 0, .ref qo52, .ref qo53, .ref qo54, .int 0, .int 0, .int 0, .int 0, .ref qo55, .int 0, .ref qo56]))] := hD
  replace hK : va_K (dC, dI) vwCl [(co1, .byte)] s := hK
  subst hw
  refine va_put (D := (dC, dI)) (ci := 3) (v := .int 0) (ty := .int) (C := RX3) (T := TX3) (N := 14) hx hb hts uV_k1_X3 tyX3 tyX3_ok nmX3 hown hK hP hD hS 1 rfl rfl 9 (by decide) (hts (.fieldLink RX3 65 "ClassMill$Image" "aboveText" "I") mw_k1_145) (fun _ h9 => h9) rfl (by decide +kernel) rfl rfl (Nat.le_of_ble_eq_true rfl) dX3_read_52 ?_
  clear hP hD hS
  intro H locs hP hD hS
  replace hP : va_P (dC, dI) vwCl [(qo1, .inl (co1, 6000, .inl (fun _ => 0))), (qo45, .inr (3, [.ref qo1, .int 0, .int 0, .int 0, .ref qo52, .ref qo53, .ref qo54, .int 0, .int 0, .int 0, .int 0, .ref qo55, .int 0, .ref qo56]))] H := hP
  replace hD : va_D A [(qo1, .inl (co1, 6000, .inl (fun _ => 0))), (qo45, .inr (3, [.ref qo1, .int 0, .int 0, .int 0, .ref qo52, .ref qo53, .ref qo54, .int 0, .int 0, .int 0, .int 0, .ref qo55, .int 0, .ref qo56]))] := hD
  refine lv_aload_n hx hb dX3_read_55 rfl (lv_at hl 0 rfl) ?_
  have hPc := hP.sub (ws' := [(qo45, .inr (3, [.ref qo1, .int 0, .int 0, .int 0, .ref qo52, .ref qo53, .ref qo54, .int 0, .int 0, .int 0, .int 0, .ref qo55, .int 0, .ref qo56]))]) [1] rfl
  have hDc := hD.sub (ws' := [(qo45, .inr (3, [.ref qo1, .int 0, .int 0, .int 0, .ref qo52, .ref qo53, .ref qo54, .int 0, .int 0, .int 0, .int 0, .ref qo55, .int 0, .ref qo56]))]) [1] (by decide) rfl
  have hKc := hK.sub (tys' := []) [] rfl
  have hFc := va_free (wc := [(qo45, .inr (3, [.ref qo1, .int 0, .int 0, .int 0, .ref qo52, .ref qo53, .ref qo54, .int 0, .int 0, .int 0, .int 0, .ref qo55, .int 0, .ref qo56]))]) hD hS hA [1] rfl
  refine va_callv (va_runV (As := []) (rest := []) ⟨hx, hb, hml, hown, hts⟩ (ks_Image_readFields9 l dC dI H.size qo45 qo1 qo52 qo53 qo54 qo55 qo56) (cwV 0 hts gv_k1_33 rfl rfl rfl (by decide +kernel) ⟨Nat.le_of_ble_eq_true rfl, Nat.le_of_ble_eq_true rfl⟩) ⟨fun a U g mk q => by obtain ⟨q0, q1, qP, qK, qD⟩ := q; exact ⟨q0, q1, qP, va_K.moved (u := U) (U := U.calling g mk a) (Vm.Alike.refl U.vm) qK, qD⟩, va_recv hKc hPc (ci := 3) (q0 := 0) rfl rfl, fun U hU hW => ⟨rfl, by rw [hU], by rw [hU]; exact hPc, va_K.moved hW.alike hKc, hDc.weaken (fun _ _ _ _ => trivial)⟩⟩ rfl rfl hl.1 rfl (lv_room (Nat.le_of_ble_eq_true rfl)) dX3_read_56 ⟨Nat.le_of_ble_eq_true rfl, Nat.le_of_ble_eq_true rfl⟩) hS (fun q _ h => hFc q h) hFc ?_
  clear hS
  intro u t H1 locs ht hvm hw hB hz1 hk1 hS
  obtain ⟨⟩ := u
  obtain ⟨hP1, hK1, hD1⟩ := hB
  rw [ht] at hP1
  have hK1 := va_K.moved hvm.symm hK1
  try dsimp only at hw
  have hPD := va_join (wr := [(qo1, .inl (co1, 6000, .inl (fun _ => 0)))]) (w1 := [(qo45, .inr (3, [.ref qo1, .int 0, .int 0, .int 0, .ref qo52, .ref qo53, .ref qo54, .int 0, .int 0, .int 0, .int 0, .ref qo55, .int 0, .ref qo56]))]) hP hD [1] [0] rfl rfl (by decide) (by decide) hk1 hFc hP1 hD1
  clear hP hD
  obtain ⟨hP, hD⟩ := hPD
  replace hK := (hK.sub (tys' := [(co1, .byte)]) [0] rfl).app hK1
  clear hPc hDc hKc hFc hP1 hK1 hD1 hz1 hk1 ht hvm
  generalize H1 = H at hP hS ⊢
  replace hP : va_P (dC, dI) vwCl [(qo1, .inl (co1, 6000, .inl (fun _ => 0))), (qo45, .inr (3, [.ref qo1, .int 0, .int 0, .int 0, .ref qo52, .ref qo53, .ref qo54, .int 0, .int 0, .int 0, .int 0, .ref qo55, .int 0, .ref qo56]))] H := hP
  replace hD : va_D A [(qo1, .inl (co1, 6000, .inl (fun _ => 0))), (qo45, .inr (3, [.ref qo1, .int 0, .int 0, .int 0, .ref qo52, .ref qo53, .ref qo54, .int 0, .int 0, .int 0, .int 0, .ref qo55, .int 0, .ref qo56]))] := hD
  replace hK : va_K (dC, dI) vwCl [(co1, .byte)] s := hK
  refine lv_aload_n hx hb dX3_read_59 rfl (lv_at hl 0 rfl) ?_
  refine lv_iconst (v := 0) hx hb dX3_read_60 (by decide) ?_
  refine lv_bipush (v := 12) hx hb dX3_read_61 (by decide) ?_
  have hPc := hP.sub (ws' := [(qo45, .inr (3, [.ref qo1, .int 0, .int 0, .int 0, .ref qo52, .ref qo53, .ref qo54, .int 0, .int 0, .int 0, .int 0, .ref qo55, .int 0, .ref qo56]))]) [1] rfl
  have hDc := hD.sub (ws' := [(qo45, .inr (3, [.ref qo1, .int 0, .int 0, .int 0, .ref qo52, .ref qo53, .ref qo54, .int 0, .int 0, .int 0, .int 0, .ref qo55, .int 0, .ref qo56]))]) [1] (by decide) rfl
  have hKc := hK.sub (tys' := []) [] rfl
  have hFc := va_free (wc := [(qo45, .inr (3, [.ref qo1, .int 0, .int 0, .int 0, .ref qo52, .ref qo53, .ref qo54, .int 0, .int 0, .int 0, .int 0, .ref qo55, .int 0, .ref qo56]))]) hD hS hA [1] rfl
  refine va_calli (va_runV (As := [.int 0, .int 12]) (rest := []) ⟨hx, hb, hml, hown, hts⟩ (ks_Image_nextUpTo10 l dC dI H.size qo45 qo1 qo52 qo53 qo54 qo55 qo56) (cwV 2 hts gv_k1_32 rfl rfl rfl (by decide +kernel) ⟨Nat.le_of_ble_eq_true rfl, Nat.le_of_ble_eq_true rfl⟩) ⟨fun a U g mk q => by obtain ⟨q0, q1, qP, qK, qD⟩ := q; exact ⟨q0, q1, qP, va_K.moved (u := U) (U := U.calling g mk a) (Vm.Alike.refl U.vm) qK, qD⟩, va_recv hKc hPc (ci := 3) (q0 := 0) rfl rfl, fun U hU hW => ⟨rfl, by rw [hU], by rw [hU]; exact hPc, va_K.moved hW.alike hKc, hDc.weaken (fun _ _ _ _ => trivial)⟩⟩ rfl rfl hl.1 rfl (lv_room (Nat.le_of_ble_eq_true rfl)) dX3_read_63 ⟨Nat.le_of_ble_eq_true rfl, Nat.le_of_ble_eq_true rfl⟩) hS (fun q _ h => hFc q h) hFc ?_
  clear hS
  intro r_3 u t H1 locs ht hvm hw hB hz1 hk1 hS
  obtain ⟨⟩ := u
  obtain ⟨hP1, hK1, hD1⟩ := hB
  rw [ht] at hP1
  have hK1 := va_K.moved hvm.symm hK1
  try dsimp only at hw
  have hPD := va_join (wr := [(qo1, .inl (co1, 6000, .inl (fun _ => 0)))]) (w1 := [(qo45, .inr (3, [.ref qo1, .int 0, .int 0, .int 0, .ref qo52, .ref qo53, .ref qo54, .int 0, .int 0, .int 0, .int 0, .ref qo55, .int 0, .ref qo56]))]) hP hD [1] [0] rfl rfl (by decide) (by decide) hk1 hFc hP1 hD1
  clear hP hD
  obtain ⟨hP, hD⟩ := hPD
  replace hK := (hK.sub (tys' := [(co1, .byte)]) [0] rfl).app hK1
  clear hPc hDc hKc hFc hP1 hK1 hD1 hz1 hk1 ht hvm
  generalize H1 = H at hP hS ⊢
  replace hP : va_P (dC, dI) vwCl [(qo1, .inl (co1, 6000, .inl (fun _ => 0))), (qo45, .inr (3, [.ref qo1, .int 0, .int 0, .int 0, .ref qo52, .ref qo53, .ref qo54, .int 0, .int 0, .int 0, .int 0, .ref qo55, .int 0, .ref qo56]))] H := hP
  replace hD : va_D A [(qo1, .inl (co1, 6000, .inl (fun _ => 0))), (qo45, .inr (3, [.ref qo1, .int 0, .int 0, .int 0, .ref qo52, .ref qo53, .ref qo54, .int 0, .int 0, .int 0, .int 0, .ref qo55, .int 0, .ref qo56]))] := hD
  replace hK : va_K (dC, dI) vwCl [(co1, .byte)] s := hK
  subst hw
  refine lv_istore_n (lv' := [(3, .int 0), (0, .ref qo45), (1, .ref qo1), (2, .int 0)]) hx hb dX3_read_66 rfl hl (by decide) rfl (fun ls hl => ?_)
  refine lv_iconst (v := 0) hx hb dX3_read_67 (by decide) ?_
  refine lv_istore (lv' := [(4, .int 0), (3, .int 0), (0, .ref qo45), (1, .ref qo1), (2, .int 0)]) hx hb dX3_read_68 hl (by decide) rfl (fun ls hl => ?_)
  refine lv_iload hx hb dX3_read_70 (lv_at hl 0 rfl) ?_
  refine lv_iload_n hx hb dX3_read_72 rfl (lv_at hl 1 rfl) ?_
  refine lv_icmp_ge (tgt := 109) hx hb dX3_read_73 (by decide) (fun c_4 => ?_) (fun c_4 => (show False by revert c_4; decide).elim)
  refine lv_aload_n hx hb dX3_read_109 rfl (lv_at hl 2 rfl) ?_
  refine va_get (D := (dC, dI)) (ci := 3) (v := .int 0) (C := RX3) (T := TX3) (N := 14) hx hb hts uV_k1_X3 hown hK hP 1 rfl rfl 2 (by decide) (hts (.fieldLink RX3 43 "ClassMill$Image" "pos" "I") mw_k1_100) (fun _ h9 => h9) rfl dX3_read_110 ?_
  refine lv_aload_n hx hb dX3_read_113 rfl (lv_at hl 2 rfl) ?_
  refine va_get (D := (dC, dI)) (ci := 3) (v := .int 0) (C := RX3) (T := TX3) (N := 14) hx hb hts uV_k1_X3 hown hK hP 1 rfl rfl 1 (by decide) (hts (.fieldLink RX3 39 "ClassMill$Image" "size" "I") mw_k1_101) (fun _ h9 => h9) rfl dX3_read_114 ?_
  refine lv_icmp_ge (tgt := 128) hx hb dX3_read_117 (by decide) (fun c_5 => ?_) (fun c_5 => (show False by revert c_5; decide).elim)
  refine lv_aload_n hx hb dX3_read_128 rfl (lv_at hl 2 rfl) ?_
  refine va_get (D := (dC, dI)) (ci := 3) (v := .int 0) (C := RX3) (T := TX3) (N := 14) hx hb hts uV_k1_X3 hown hK hP 1 rfl rfl 3 (by decide) (hts (.fieldLink RX3 46 "ClassMill$Image" "form" "I") mw_k1_102) (fun _ h9 => h9) rfl dX3_read_129 ?_
  have hP9 := hP.sub (ws' := []) [] rfl
  have hD9 := hD.sub (ws' := []) [] (by decide) rfl
  have hK9 := hK.sub (tys' := []) [] rfl
  exact W.iret hx hb hr (fun t ht hW => ⟨⟨(0), (), rfl, rfl, by rw [ht]; exact hP9, va_K.moved hW.alike hK9, hD9⟩, hS.F ht⟩) hS.2.2 dX3_read_132
set_option maxHeartbeats 4000000 in
set_option maxRecDepth 100000 in
/-- kk_bring -/
theorem kk_bring (l : Launch) (dC : Nat → ClassId) (dI : Nat → Nat → Nat) (sz : Nat) (qo7 : Nat) (qo1 : Nat) (qo43 : Nat) (qo44 : Nat) (qo45 : Nat) (qo46 : Nat) (qo47 : Nat) (qo48 : Nat) (qo51 : Nat) (qo52 : Nat) (qo53 : Nat) (qo54 : Nat) (qo55 : Nat) (qo56 : Nat) (co1 : ClassId)  : Met l yX7_bring (.code yX7_bring cX7_bring 5 (some .int) :: VS_k1) ({ frames := 4, cells := 0, slots := 0, locals := 90 }) (va_Pc [.ref qo7, .ref qo1, .int 0] (fun U => U.heap.size = sz ∧ va_P (dC, dI) vwCl [(qo7, .inr (7, [.ref qo43, .ref qo44, .ref qo45, .int 0, .int 0, .ref qo46, .ref qo47, .ref qo48])), (qo45, .inr (3, [.ref qo51, .int 0, .int 0, .int 0, .ref qo52, .ref qo53, .ref qo54, .int 0, .int 0, .int 0, .int 0, .ref qo55, .int 0, .ref qo56])), (qo1, .inl (co1, 6000, .inl (fun _ => 0)))] U.heap ∧ va_K (dC, dI) vwCl [(co1, .byte)] U ∧ va_D (fun _ => True) [(qo7, .inr (7, [.ref qo43, .ref qo44, .ref qo45, .int 0, .int 0, .ref qo46, .ref qo47, .ref qo48])), (qo45, .inr (3, [.ref qo51, .int 0, .int 0, .int 0, .ref qo52, .ref qo53, .ref qo54, .int 0, .int 0, .int 0, .int 0, .ref qo55, .int 0, .ref qo56])), (qo1, .inl (co1, 6000, .inl (fun _ => 0)))])) (va_Qi (fun (r : Int32) (u : Unit) => match u with | () => r = (-2)) (fun (u : Unit) (t : State) => match u with | () => va_P (dC, dI) vwCl [] t.heap ∧ va_K (dC, dI) vwCl [] t ∧ va_D (va_A [(qo7, .inr (7, [.ref qo43, .ref qo44, .ref qo45, .int 0, .int 0, .ref qo46, .ref qo47, .ref qo48])), (qo45, .inr (3, [.ref qo51, .int 0, .int 0, .int 0, .ref qo52, .ref qo53, .ref qo54, .int 0, .int 0, .int 0, .int 0, .ref qo55, .int 0, .ref qo56])), (qo1, .inl (co1, 6000, .inl (fun _ => 0)))] sz) []) (va_A [(qo7, .inr (7, [.ref qo43, .ref qo44, .ref qo45, .int 0, .int 0, .ref qo46, .ref qo47, .ref qo48])), (qo45, .inr (3, [.ref qo51, .int 0, .int 0, .int 0, .ref qo52, .ref qo53, .ref qo54, .int 0, .int 0, .int 0, .int 0, .ref qo55, .int 0, .ref qo56])), (qo1, .inl (co1, 6000, .inl (fun _ => 0)))] sz)) 0 0 (va_A [(qo7, .inr (7, [.ref qo43, .ref qo44, .ref qo45, .int 0, .int 0, .ref qo46, .ref qo47, .ref qo48])), (qo45, .inr (3, [.ref qo51, .int 0, .int 0, .int 0, .ref qo52, .ref qo53, .ref qo54, .int 0, .int 0, .int 0, .int 0, .ref qo55, .int 0, .ref qo56])), (qo1, .inl (co1, 6000, .inl (fun _ => 0)))] sz) := by
  refine Met.ofW (cc := cX7_bring) (maxL := 5) (ret := (some .int)) (by decide) rfl ?_
  intro p e s m args below meth c s₁ B hml hv
  obtain ⟨rfl, hsz, hP, hK, hD0⟩ := hv
  have hx := B.exec
  have hb := B.bytes
  have hr := B.returns
  have hts := atoms_spec (ws := (.code yX7_bring cX7_bring 5 (some .int) :: VS_k1)) B.pre
  replace hts := fun w (h : w ∈ VS_k1) => hts w (List.mem_cons_of_mem _ h)
  have hown : s.vm.findClass RX7 = some m.cls := findClass_of_methodNamed B.named
  have hlocks := B.notSynchronized
  subst hsz
  have hD := hD0.self (sz := s.heap.size)
  generalize hAe : va_A [(qo7, .inr (7, [.ref qo43, .ref qo44, .ref qo45, .int 0, .int 0, .ref qo46, .ref qo47, .ref qo48])), (qo45, .inr (3, [.ref qo51, .int 0, .int 0, .int 0, .ref qo52, .ref qo53, .ref qo54, .int 0, .int 0, .int 0, .int 0, .ref qo55, .int 0, .ref qo56])), (qo1, .inl (co1, 6000, .inl (fun _ => 0)))] s.heap.size = A at hD  ⊢
  have hA : ∀ q : Nat, s.heap.size ≤ q → A q := fun q h => by rw [← hAe]; exact Or.inr h
  have hP : va_P (dC, dI) vwCl [(qo7, .inr (7, [.ref qo43, .ref qo44, .ref qo45, .int 0, .int 0, .ref qo46, .ref qo47, .ref qo48])), (qo45, .inr (3, [.ref qo51, .int 0, .int 0, .int 0, .ref qo52, .ref qo53, .ref qo54, .int 0, .int 0, .int 0, .int 0, .ref qo55, .int 0, .ref qo56])), (qo1, .inl (co1, 6000, .inl (fun _ => 0)))] s.heap := hP
  have hl := lv_entry ([.ref qo7, .ref qo1, .int 0]) (n := 5) (Nat.le_of_ble_eq_true rfl)
  rw [lg_entry_eq]
  generalize (lg_sl ([.ref qo7, .ref qo1, .int 0]) ++ List.replicate (5 - (lg_sl ([.ref qo7, .ref qo1, .int 0])).length) Slot.unset).toArray = ls at hl ⊢
  have hl : lv_has ls 5 [(0, .ref qo7), (1, .ref qo1), (2, .int 0)] := hl
  obtain ⟨H, hH⟩ : ∃ H : Heap, s.heap = H := ⟨_, rfl⟩
  rw [hH] at hP ⊢
  have hS : va_S A s.heap H [] := by rw [← hH]; exact va_S.rf
  obtain ⟨locs, hlo⟩ : ∃ locs : List Loc, locs = [] := ⟨_, rfl⟩
  rw [← hlo] at hS ⊢
  refine lv_aload_n hx hb dX7_bring_0 rfl (lv_at hl 0 rfl) ?_
  refine va_get (D := (dC, dI)) (ci := 7) (v := .ref qo45) (C := RX7) (T := TX7) (N := 8) hx hb hts uV_k1_X7 hown hK hP 0 rfl rfl 2 (by decide) (hts (.fieldLink RX7 27 "ClassMill$Space" "spare" "LClassMill$Image;") mw_k1_150) (fun _ h9 => h9) rfl dX7_bring_1 ?_
  refine lv_aload_n hx hb dX7_bring_4 rfl (lv_at hl 1 rfl) ?_
  refine lv_iload_n hx hb dX7_bring_5 rfl (lv_at hl 2 rfl) ?_
  have hPc := hP.sub (ws' := [(qo45, .inr (3, [.ref qo51, .int 0, .int 0, .int 0, .ref qo52, .ref qo53, .ref qo54, .int 0, .int 0, .int 0, .int 0, .ref qo55, .int 0, .ref qo56])), (qo1, .inl (co1, 6000, .inl (fun _ => 0)))]) [1, 2] rfl
  have hDc := hD.sub (ws' := [(qo45, .inr (3, [.ref qo51, .int 0, .int 0, .int 0, .ref qo52, .ref qo53, .ref qo54, .int 0, .int 0, .int 0, .int 0, .ref qo55, .int 0, .ref qo56])), (qo1, .inl (co1, 6000, .inl (fun _ => 0)))]) [1, 2] (by decide) rfl
  have hKc := hK.sub (tys' := [(co1, .byte)]) [0] rfl
  have hFc := va_free (wc := [(qo45, .inr (3, [.ref qo51, .int 0, .int 0, .int 0, .ref qo52, .ref qo53, .ref qo54, .int 0, .int 0, .int 0, .int 0, .ref qo55, .int 0, .ref qo56])), (qo1, .inl (co1, 6000, .inl (fun _ => 0)))]) hD hS hA [1, 2] rfl
  refine va_calli (va_runV (As := [.ref qo1, .int 0]) (rest := []) ⟨hx, hb, hml, hown, hts⟩ (kk_read l dC dI H.size qo45 qo1 qo51 qo52 qo53 qo54 qo55 qo56 co1) (cwV 2 hts gv_k1_34 rfl rfl rfl (by decide +kernel) ⟨Nat.le_of_ble_eq_true rfl, Nat.le_of_ble_eq_true rfl⟩) ⟨fun a U g mk q => by obtain ⟨q0, q1, qP, qK, qD⟩ := q; exact ⟨q0, q1, qP, va_K.moved (u := U) (U := U.calling g mk a) (Vm.Alike.refl U.vm) qK, qD⟩, va_recv hKc hPc (ci := 3) (q0 := 0) rfl rfl, fun U hU hW => ⟨rfl, by rw [hU], by rw [hU]; exact hPc, va_K.moved hW.alike hKc, hDc.weaken (fun _ _ _ _ => trivial)⟩⟩ rfl rfl hl.1 rfl (lv_room (Nat.le_of_ble_eq_true rfl)) dX7_bring_6 ⟨Nat.le_of_ble_eq_true rfl, Nat.le_of_ble_eq_true rfl⟩) hS (fun q _ h => hFc q h) hFc ?_
  clear hS
  intro r_1 u t H1 locs ht hvm hw hB hz1 hk1 hS
  obtain ⟨⟩ := u
  obtain ⟨hP1, hK1, hD1⟩ := hB
  rw [ht] at hP1
  have hK1 := va_K.moved hvm.symm hK1
  try dsimp only at hw
  have hPD := va_join (wr := [(qo7, .inr (7, [.ref qo43, .ref qo44, .ref qo45, .int 0, .int 0, .ref qo46, .ref qo47, .ref qo48]))]) (w1 := []) hP hD [1, 2] [0] rfl rfl (by decide) (by decide) hk1 hFc hP1 hD1
  clear hP hD
  obtain ⟨hP, hD⟩ := hPD
  replace hK := (hK.sub (tys' := []) [] rfl).app hK1
  clear hPc hDc hKc hFc hP1 hK1 hD1 hz1 hk1 ht hvm
  generalize H1 = H at hP hS ⊢
  replace hP : va_P (dC, dI) vwCl [(qo7, .inr (7, [.ref qo43, .ref qo44, .ref qo45, .int 0, .int 0, .ref qo46, .ref qo47, .ref qo48]))] H := hP
  replace hD : va_D A [(qo7, .inr (7, [.ref qo43, .ref qo44, .ref qo45, .int 0, .int 0, .ref qo46, .ref qo47, .ref qo48]))] := hD
  replace hK : va_K (dC, dI) vwCl [] s := hK
  subst hw
  refine lv_istore_n (lv' := [(3, .int 0), (0, .ref qo7), (1, .ref qo1), (2, .int 0)]) hx hb dX7_bring_9 rfl hl (by decide) rfl (fun ls hl => ?_)
  refine lv_iload_n hx hb dX7_bring_10 rfl (lv_at hl 0 rfl) ?_
  refine lv_iconst (v := (-1)) hx hb dX7_bring_11 (by decide) ?_
  refine lv_icmp_eq (tgt := 20) hx hb dX7_bring_12 (by decide) (fun c_2 => (show False by revert c_2; decide).elim) (fun c_2 => ?_)
  refine lv_bipush (v := (-2)) hx hb dX7_bring_15 (by decide) ?_
  refine lv_iload_n hx hb dX7_bring_17 rfl (lv_at hl 0 rfl) ?_
  refine lv_isub hx hb dX7_bring_18 ?_
  refine lv_topi (fun y_3 ey_3 => ?_)
  obtain rfl : y_3 = (-2) := ey_3.trans (by decide)
  have hP9 := hP.sub (ws' := []) [] rfl
  have hD9 := hD.sub (ws' := []) [] (by decide) rfl
  have hK9 := hK.sub (tys' := []) [] rfl
  exact W.iret hx hb hr (fun t ht hW => ⟨⟨(-2), (), rfl, rfl, by rw [ht]; exact hP9, va_K.moved hW.alike hK9, hD9⟩, hS.F ht⟩) hS.2.2 dX7_bring_19
set_option maxHeartbeats 4000000 in
set_option maxRecDepth 100000 in
/-- kk_load -/
theorem kk_load (l : Launch) (dC : Nat → ClassId) (dI : Nat → Nat → Nat) (sz : Nat) (h0 : Nat) (qo1 : Nat) (qo2 : Nat) (qo3 : Nat) (qo4 : Nat) (qo5 : Nat) (qo6 : Nat) (qo7 : Nat) (qo8 : Nat) (qo9 : Nat) (qo43 : Nat) (qo44 : Nat) (qo45 : Nat) (qo46 : Nat) (qo47 : Nat) (qo48 : Nat) (qo51 : Nat) (qo52 : Nat) (qo53 : Nat) (qo54 : Nat) (qo55 : Nat) (qo56 : Nat) (co1 : ClassId)  : Met l yX12_load (.code yX12_load cX12_load 2 (some .int) :: VS_k1) ({ frames := 5, cells := 0, slots := 0, locals := 114 }) (va_Pc [.ref h0] (fun U => U.heap.size = sz ∧ va_P (dC, dI) vwCl [(h0, .inr (12, [.ref qo1, .int 0, .ref qo2, .ref qo3, .ref qo4, .ref qo5, .ref qo6, .int 0, .ref qo7, .ref qo8, .ref qo9])), (qo7, .inr (7, [.ref qo43, .ref qo44, .ref qo45, .int 0, .int 0, .ref qo46, .ref qo47, .ref qo48])), (qo45, .inr (3, [.ref qo51, .int 0, .int 0, .int 0, .ref qo52, .ref qo53, .ref qo54, .int 0, .int 0, .int 0, .int 0, .ref qo55, .int 0, .ref qo56])), (qo1, .inl (co1, 6000, .inl (fun _ => 0)))] U.heap ∧ va_K (dC, dI) vwCl [(co1, .byte)] U ∧ va_D (fun _ => True) [(h0, .inr (12, [.ref qo1, .int 0, .ref qo2, .ref qo3, .ref qo4, .ref qo5, .ref qo6, .int 0, .ref qo7, .ref qo8, .ref qo9])), (qo7, .inr (7, [.ref qo43, .ref qo44, .ref qo45, .int 0, .int 0, .ref qo46, .ref qo47, .ref qo48])), (qo45, .inr (3, [.ref qo51, .int 0, .int 0, .int 0, .ref qo52, .ref qo53, .ref qo54, .int 0, .int 0, .int 0, .int 0, .ref qo55, .int 0, .ref qo56])), (qo1, .inl (co1, 6000, .inl (fun _ => 0)))])) (va_Qi (fun (r : Int32) (u : Unit) => match u with | () => r = (-2)) (fun (u : Unit) (t : State) => match u with | () => va_P (dC, dI) vwCl [] t.heap ∧ va_K (dC, dI) vwCl [] t ∧ va_D (va_A [(h0, .inr (12, [.ref qo1, .int 0, .ref qo2, .ref qo3, .ref qo4, .ref qo5, .ref qo6, .int 0, .ref qo7, .ref qo8, .ref qo9])), (qo7, .inr (7, [.ref qo43, .ref qo44, .ref qo45, .int 0, .int 0, .ref qo46, .ref qo47, .ref qo48])), (qo45, .inr (3, [.ref qo51, .int 0, .int 0, .int 0, .ref qo52, .ref qo53, .ref qo54, .int 0, .int 0, .int 0, .int 0, .ref qo55, .int 0, .ref qo56])), (qo1, .inl (co1, 6000, .inl (fun _ => 0)))] sz) []) (va_A [(h0, .inr (12, [.ref qo1, .int 0, .ref qo2, .ref qo3, .ref qo4, .ref qo5, .ref qo6, .int 0, .ref qo7, .ref qo8, .ref qo9])), (qo7, .inr (7, [.ref qo43, .ref qo44, .ref qo45, .int 0, .int 0, .ref qo46, .ref qo47, .ref qo48])), (qo45, .inr (3, [.ref qo51, .int 0, .int 0, .int 0, .ref qo52, .ref qo53, .ref qo54, .int 0, .int 0, .int 0, .int 0, .ref qo55, .int 0, .ref qo56])), (qo1, .inl (co1, 6000, .inl (fun _ => 0)))] sz)) 0 0 (va_A [(h0, .inr (12, [.ref qo1, .int 0, .ref qo2, .ref qo3, .ref qo4, .ref qo5, .ref qo6, .int 0, .ref qo7, .ref qo8, .ref qo9])), (qo7, .inr (7, [.ref qo43, .ref qo44, .ref qo45, .int 0, .int 0, .ref qo46, .ref qo47, .ref qo48])), (qo45, .inr (3, [.ref qo51, .int 0, .int 0, .int 0, .ref qo52, .ref qo53, .ref qo54, .int 0, .int 0, .int 0, .int 0, .ref qo55, .int 0, .ref qo56])), (qo1, .inl (co1, 6000, .inl (fun _ => 0)))] sz) := by
  refine Met.ofW (cc := cX12_load) (maxL := 2) (ret := (some .int)) (by decide) rfl ?_
  intro p e s m args below meth c s₁ B hml hv
  obtain ⟨rfl, hsz, hP, hK, hD0⟩ := hv
  have hx := B.exec
  have hb := B.bytes
  have hr := B.returns
  have hts := atoms_spec (ws := (.code yX12_load cX12_load 2 (some .int) :: VS_k1)) B.pre
  replace hts := fun w (h : w ∈ VS_k1) => hts w (List.mem_cons_of_mem _ h)
  have hown : s.vm.findClass RX12 = some m.cls := findClass_of_methodNamed B.named
  have hlocks := B.notSynchronized
  subst hsz
  have hD := hD0.self (sz := s.heap.size)
  generalize hAe : va_A [(h0, .inr (12, [.ref qo1, .int 0, .ref qo2, .ref qo3, .ref qo4, .ref qo5, .ref qo6, .int 0, .ref qo7, .ref qo8, .ref qo9])), (qo7, .inr (7, [.ref qo43, .ref qo44, .ref qo45, .int 0, .int 0, .ref qo46, .ref qo47, .ref qo48])), (qo45, .inr (3, [.ref qo51, .int 0, .int 0, .int 0, .ref qo52, .ref qo53, .ref qo54, .int 0, .int 0, .int 0, .int 0, .ref qo55, .int 0, .ref qo56])), (qo1, .inl (co1, 6000, .inl (fun _ => 0)))] s.heap.size = A at hD  ⊢
  have hA : ∀ q : Nat, s.heap.size ≤ q → A q := fun q h => by rw [← hAe]; exact Or.inr h
  have hP : va_P (dC, dI) vwCl [(h0, .inr (12, [.ref qo1, .int 0, .ref qo2, .ref qo3, .ref qo4, .ref qo5, .ref qo6, .int 0, .ref qo7, .ref qo8, .ref qo9])), (qo7, .inr (7, [.ref qo43, .ref qo44, .ref qo45, .int 0, .int 0, .ref qo46, .ref qo47, .ref qo48])), (qo45, .inr (3, [.ref qo51, .int 0, .int 0, .int 0, .ref qo52, .ref qo53, .ref qo54, .int 0, .int 0, .int 0, .int 0, .ref qo55, .int 0, .ref qo56])), (qo1, .inl (co1, 6000, .inl (fun _ => 0)))] s.heap := hP
  have hl := lv_entry ([.ref h0]) (n := 2) (Nat.le_of_ble_eq_true rfl)
  rw [lg_entry_eq]
  generalize (lg_sl ([.ref h0]) ++ List.replicate (2 - (lg_sl ([.ref h0])).length) Slot.unset).toArray = ls at hl ⊢
  have hl : lv_has ls 2 [(0, .ref h0)] := hl
  obtain ⟨H, hH⟩ : ∃ H : Heap, s.heap = H := ⟨_, rfl⟩
  rw [hH] at hP ⊢
  have hS : va_S A s.heap H [] := by rw [← hH]; exact va_S.rf
  obtain ⟨locs, hlo⟩ : ∃ locs : List Loc, locs = [] := ⟨_, rfl⟩
  rw [← hlo] at hS ⊢
  refine lv_aload_n hx hb dX12_load_0 rfl (lv_at hl 0 rfl) ?_
  refine va_get (D := (dC, dI)) (ci := 12) (v := .ref qo7) (C := RX12) (T := TX12) (N := 11) hx hb hts uV_k1_X12 hown hK hP 0 rfl rfl 8 (by decide) (hts (.fieldLink RX12 53 "ClassMill" "space" "LClassMill$Space;") mw_k1_24) (fun _ h9 => h9) rfl dX12_load_1 ?_
  refine lv_aload_n hx hb dX12_load_4 rfl (lv_at hl 0 rfl) ?_
  refine va_get (D := (dC, dI)) (ci := 12) (v := .ref qo1) (C := RX12) (T := TX12) (N := 11) hx hb hts uV_k1_X12 hown hK hP 0 rfl rfl 0 (by decide) (hts (.fieldLink RX12 9 "ClassMill" "tape" "[B") mw_k1_1) (fun _ h9 => h9) rfl dX12_load_5 ?_
  refine lv_aload_n hx hb dX12_load_8 rfl (lv_at hl 0 rfl) ?_
  refine va_get (D := (dC, dI)) (ci := 12) (v := .int 0) (C := RX12) (T := TX12) (N := 11) hx hb hts uV_k1_X12 hown hK hP 0 rfl rfl 1 (by decide) (hts (.fieldLink RX12 73 "ClassMill" "taped" "I") mw_k1_0) (fun _ h9 => h9) rfl dX12_load_9 ?_
  have hPc := hP.sub (ws' := [(qo7, .inr (7, [.ref qo43, .ref qo44, .ref qo45, .int 0, .int 0, .ref qo46, .ref qo47, .ref qo48])), (qo45, .inr (3, [.ref qo51, .int 0, .int 0, .int 0, .ref qo52, .ref qo53, .ref qo54, .int 0, .int 0, .int 0, .int 0, .ref qo55, .int 0, .ref qo56])), (qo1, .inl (co1, 6000, .inl (fun _ => 0)))]) [1, 2, 3] rfl
  have hDc := hD.sub (ws' := [(qo7, .inr (7, [.ref qo43, .ref qo44, .ref qo45, .int 0, .int 0, .ref qo46, .ref qo47, .ref qo48])), (qo45, .inr (3, [.ref qo51, .int 0, .int 0, .int 0, .ref qo52, .ref qo53, .ref qo54, .int 0, .int 0, .int 0, .int 0, .ref qo55, .int 0, .ref qo56])), (qo1, .inl (co1, 6000, .inl (fun _ => 0)))]) [1, 2, 3] (by decide) rfl
  have hKc := hK.sub (tys' := [(co1, .byte)]) [0] rfl
  have hFc := va_free (wc := [(qo7, .inr (7, [.ref qo43, .ref qo44, .ref qo45, .int 0, .int 0, .ref qo46, .ref qo47, .ref qo48])), (qo45, .inr (3, [.ref qo51, .int 0, .int 0, .int 0, .ref qo52, .ref qo53, .ref qo54, .int 0, .int 0, .int 0, .int 0, .ref qo55, .int 0, .ref qo56])), (qo1, .inl (co1, 6000, .inl (fun _ => 0)))]) hD hS hA [1, 2, 3] rfl
  refine va_calli (va_runV (As := [.ref qo1, .int 0]) (rest := []) ⟨hx, hb, hml, hown, hts⟩ (kk_bring l dC dI H.size qo7 qo1 qo43 qo44 qo45 qo46 qo47 qo48 qo51 qo52 qo53 qo54 qo55 qo56 co1) (cwV 2 hts gv_k1_35 rfl rfl rfl (by decide +kernel) ⟨Nat.le_of_ble_eq_true rfl, Nat.le_of_ble_eq_true rfl⟩) ⟨fun a U g mk q => by obtain ⟨q0, q1, qP, qK, qD⟩ := q; exact ⟨q0, q1, qP, va_K.moved (u := U) (U := U.calling g mk a) (Vm.Alike.refl U.vm) qK, qD⟩, va_recv hKc hPc (ci := 7) (q0 := 0) rfl rfl, fun U hU hW => ⟨rfl, by rw [hU], by rw [hU]; exact hPc, va_K.moved hW.alike hKc, hDc.weaken (fun _ _ _ _ => trivial)⟩⟩ rfl rfl hl.1 rfl (lv_room (Nat.le_of_ble_eq_true rfl)) dX12_load_12 ⟨Nat.le_of_ble_eq_true rfl, Nat.le_of_ble_eq_true rfl⟩) hS (fun q _ h => hFc q h) hFc ?_
  clear hS
  intro r_1 u t H1 locs ht hvm hw hB hz1 hk1 hS
  obtain ⟨⟩ := u
  obtain ⟨hP1, hK1, hD1⟩ := hB
  rw [ht] at hP1
  have hK1 := va_K.moved hvm.symm hK1
  try dsimp only at hw
  have hPD := va_join (wr := [(h0, .inr (12, [.ref qo1, .int 0, .ref qo2, .ref qo3, .ref qo4, .ref qo5, .ref qo6, .int 0, .ref qo7, .ref qo8, .ref qo9]))]) (w1 := []) hP hD [1, 2, 3] [0] rfl rfl (by decide) (by decide) hk1 hFc hP1 hD1
  clear hP hD
  obtain ⟨hP, hD⟩ := hPD
  replace hK := (hK.sub (tys' := []) [] rfl).app hK1
  clear hPc hDc hKc hFc hP1 hK1 hD1 hz1 hk1 ht hvm
  generalize H1 = H at hP hS ⊢
  replace hP : va_P (dC, dI) vwCl [(h0, .inr (12, [.ref qo1, .int 0, .ref qo2, .ref qo3, .ref qo4, .ref qo5, .ref qo6, .int 0, .ref qo7, .ref qo8, .ref qo9]))] H := hP
  replace hD : va_D A [(h0, .inr (12, [.ref qo1, .int 0, .ref qo2, .ref qo3, .ref qo4, .ref qo5, .ref qo6, .int 0, .ref qo7, .ref qo8, .ref qo9]))] := hD
  replace hK : va_K (dC, dI) vwCl [] s := hK
  subst hw
  refine lv_istore_n (lv' := [(1, .int (-2)), (0, .ref h0)]) hx hb dX12_load_15 rfl hl (by decide) rfl (fun ls hl => ?_)
  refine lv_aload_n hx hb dX12_load_16 rfl (lv_at hl 1 rfl) ?_
  refine lv_iconst (v := 0) hx hb dX12_load_17 (by decide) ?_
  refine va_put (D := (dC, dI)) (ci := 12) (v := .int 0) (ty := .int) (C := RX12) (T := TX12) (N := 11) hx hb hts uV_k1_X12 tyX12 tyX12_ok nmX12 hown hK hP hD hS 0 rfl rfl 1 (by decide) (hts (.fieldLink RX12 73 "ClassMill" "taped" "I") mw_k1_0) (fun _ h9 => h9) rfl (by decide +kernel) rfl rfl (Nat.le_of_ble_eq_true rfl) dX12_load_18 ?_
  clear hP hD hS
  intro H locs hP hD hS
  replace hP : va_P (dC, dI) vwCl [(h0, .inr (12, [.ref qo1, .int 0, .ref qo2, .ref qo3, .ref qo4, .ref qo5, .ref qo6, .int 0, .ref qo7, .ref qo8, .ref qo9]))] H := hP
  replace hD : va_D A [(h0, .inr (12, [.ref qo1, .int 0, .ref qo2, .ref qo3, .ref qo4, .ref qo5, .ref qo6, .int 0, .ref qo7, .ref qo8, .ref qo9]))] := hD
  refine lv_iload_n hx hb dX12_load_21 rfl (lv_at hl 0 rfl) ?_
  refine lv_if_lt (tgt := 32) hx hb dX12_load_22 (by decide) (fun c_2 => ?_) (fun c_2 => (show False by revert c_2; decide).elim)
  refine lv_iload_n hx hb dX12_load_32 rfl (lv_at hl 0 rfl) ?_
  have hP9 := hP.sub (ws' := []) [] rfl
  have hD9 := hD.sub (ws' := []) [] (by decide) rfl
  have hK9 := hK.sub (tys' := []) [] rfl
  exact W.iret hx hb hr (fun t ht hW => ⟨⟨(-2), (), rfl, rfl, by rw [ht]; exact hP9, va_K.moved hW.alike hK9, hD9⟩, hS.F ht⟩) hS.2.2 dX12_load_33
set_option maxHeartbeats 4000000 in
set_option maxRecDepth 100000 in
/-- kk_addToken -/
theorem kk_addToken (l : Launch) (dC : Nat → ClassId) (dI : Nat → Nat → Nat) (sz : Nat) (qo2 : Nat) (qo10 : Nat) (qo11 : Nat) (qo12 : Nat) (qo13 : Nat) (qo14 : Nat) (qo15 : Nat) (qo16 : Nat) (qo17 : Nat) (co2 : ClassId) (co3 : ClassId) (co4 : ClassId)  : Met l yX9_addToken (.code yX9_addToken cX9_addToken 4 none :: VS_k1) ({ frames := 0, cells := 0, slots := 0, locals := 0 }) (va_Pc [.ref qo2, .int 0, .int 0, .int 0] (fun U => U.heap.size = sz ∧ va_P (dC, dI) vwCl [(qo2, .inr (9, [.ref qo10, .ref qo11, .ref qo12, .int 0, .ref qo13, .ref qo14, .ref qo15, .ref qo16, .ref qo17, .int 32, .int 0, .int 0, .int (-1)])), (qo10, .inl (co2, 3001, .inl (fun _ => 0))), (qo11, .inl (co3, 3001, .inl (fun _ => 0))), (qo12, .inl (co4, 3001, .inl (fun _ => 0)))] U.heap ∧ va_K (dC, dI) vwCl [(co2, .int), (co3, .int), (co4, .int)] U ∧ va_D (fun _ => True) [(qo2, .inr (9, [.ref qo10, .ref qo11, .ref qo12, .int 0, .ref qo13, .ref qo14, .ref qo15, .ref qo16, .ref qo17, .int 32, .int 0, .int 0, .int (-1)])), (qo10, .inl (co2, 3001, .inl (fun _ => 0))), (qo11, .inl (co3, 3001, .inl (fun _ => 0))), (qo12, .inl (co4, 3001, .inl (fun _ => 0)))])) (va_Qv (fun (u : (Nat → Int32) × (Nat → Int32) × (Nat → Int32)) => match u with | (fo1, fo2, fo3) => fo1 0 = 0 ∧ fo2 0 = 0) (fun (u : (Nat → Int32) × (Nat → Int32) × (Nat → Int32)) (t : State) => match u with | (fo1, fo2, fo3) => va_P (dC, dI) vwCl [(qo2, .inr (9, [.ref qo10, .ref qo11, .ref qo12, .int 1, .ref qo13, .ref qo14, .ref qo15, .ref qo16, .ref qo17, .int 32, .int 0, .int 0, .int (-1)])), (qo10, .inl (co2, 3001, .inl fo1)), (qo11, .inl (co3, 3001, .inl fo2)), (qo12, .inl (co4, 3001, .inl fo3))] t.heap ∧ va_K (dC, dI) vwCl [(co2, .int), (co3, .int), (co4, .int)] t ∧ va_D (va_A [(qo2, .inr (9, [.ref qo10, .ref qo11, .ref qo12, .int 0, .ref qo13, .ref qo14, .ref qo15, .ref qo16, .ref qo17, .int 32, .int 0, .int 0, .int (-1)])), (qo10, .inl (co2, 3001, .inl (fun _ => 0))), (qo11, .inl (co3, 3001, .inl (fun _ => 0))), (qo12, .inl (co4, 3001, .inl (fun _ => 0)))] sz) [(qo2, .inr (9, [.ref qo10, .ref qo11, .ref qo12, .int 1, .ref qo13, .ref qo14, .ref qo15, .ref qo16, .ref qo17, .int 32, .int 0, .int 0, .int (-1)])), (qo10, .inl (co2, 3001, .inl fo1)), (qo11, .inl (co3, 3001, .inl fo2)), (qo12, .inl (co4, 3001, .inl fo3))]) (va_A [(qo2, .inr (9, [.ref qo10, .ref qo11, .ref qo12, .int 0, .ref qo13, .ref qo14, .ref qo15, .ref qo16, .ref qo17, .int 32, .int 0, .int 0, .int (-1)])), (qo10, .inl (co2, 3001, .inl (fun _ => 0))), (qo11, .inl (co3, 3001, .inl (fun _ => 0))), (qo12, .inl (co4, 3001, .inl (fun _ => 0)))] sz)) 0 0 (va_A [(qo2, .inr (9, [.ref qo10, .ref qo11, .ref qo12, .int 0, .ref qo13, .ref qo14, .ref qo15, .ref qo16, .ref qo17, .int 32, .int 0, .int 0, .int (-1)])), (qo10, .inl (co2, 3001, .inl (fun _ => 0))), (qo11, .inl (co3, 3001, .inl (fun _ => 0))), (qo12, .inl (co4, 3001, .inl (fun _ => 0)))] sz) := by
  refine Met.ofW (cc := cX9_addToken) (maxL := 4) (ret := none) (by decide) rfl ?_
  intro p e s m args below meth c s₁ B hml hv
  obtain ⟨rfl, hsz, hP, hK, hD0⟩ := hv
  have hx := B.exec
  have hb := B.bytes
  have hr := B.returns
  have hts := atoms_spec (ws := (.code yX9_addToken cX9_addToken 4 none :: VS_k1)) B.pre
  replace hts := fun w (h : w ∈ VS_k1) => hts w (List.mem_cons_of_mem _ h)
  have hown : s.vm.findClass RX9 = some m.cls := findClass_of_methodNamed B.named
  have hlocks := B.notSynchronized
  subst hsz
  have hD := hD0.self (sz := s.heap.size)
  generalize hAe : va_A [(qo2, .inr (9, [.ref qo10, .ref qo11, .ref qo12, .int 0, .ref qo13, .ref qo14, .ref qo15, .ref qo16, .ref qo17, .int 32, .int 0, .int 0, .int (-1)])), (qo10, .inl (co2, 3001, .inl (fun _ => 0))), (qo11, .inl (co3, 3001, .inl (fun _ => 0))), (qo12, .inl (co4, 3001, .inl (fun _ => 0)))] s.heap.size = A at hD  ⊢
  have hA : ∀ q : Nat, s.heap.size ≤ q → A q := fun q h => by rw [← hAe]; exact Or.inr h
  have hP : va_P (dC, dI) vwCl [(qo2, .inr (9, [.ref qo10, .ref qo11, .ref qo12, .int 0, .ref qo13, .ref qo14, .ref qo15, .ref qo16, .ref qo17, .int 32, .int 0, .int 0, .int (-1)])), (qo10, .inl (co2, 3001, .inl (fun _ => 0))), (qo11, .inl (co3, 3001, .inl (fun _ => 0))), (qo12, .inl (co4, 3001, .inl (fun _ => 0)))] s.heap := hP
  have hl := lv_entry ([.ref qo2, .int 0, .int 0, .int 0]) (n := 4) (Nat.le_of_ble_eq_true rfl)
  rw [lg_entry_eq]
  generalize (lg_sl ([.ref qo2, .int 0, .int 0, .int 0]) ++ List.replicate (4 - (lg_sl ([.ref qo2, .int 0, .int 0, .int 0])).length) Slot.unset).toArray = ls at hl ⊢
  have hl : lv_has ls 4 [(0, .ref qo2), (1, .int 0), (2, .int 0), (3, .int 0)] := hl
  obtain ⟨H, hH⟩ : ∃ H : Heap, s.heap = H := ⟨_, rfl⟩
  rw [hH] at hP ⊢
  have hS : va_S A s.heap H [] := by rw [← hH]; exact va_S.rf
  obtain ⟨locs, hlo⟩ : ∃ locs : List Loc, locs = [] := ⟨_, rfl⟩
  rw [← hlo] at hS ⊢
  refine lv_aload_n hx hb dX9_addToken_0 rfl (lv_at hl 0 rfl) ?_
  refine va_get (D := (dC, dI)) (ci := 9) (v := .int 0) (C := RX9) (T := TX9) (N := 13) hx hb hts uV_k1_X9 hown hK hP 0 rfl rfl 3 (by decide) (hts (.fieldLink RX9 83 "ClassMill$Text" "count" "I") mw_k1_155) (fun _ h9 => h9) rfl dX9_addToken_1 ?_
  refine lv_aload_n hx hb dX9_addToken_4 rfl (lv_at hl 0 rfl) ?_
  refine va_get (D := (dC, dI)) (ci := 9) (v := .ref qo10) (C := RX9) (T := TX9) (N := 13) hx hb hts uV_k1_X9 hown hK hP 0 rfl rfl 0 (by decide) (hts (.fieldLink RX9 15 "ClassMill$Text" "kinds" "[I") mw_k1_156) (fun _ h9 => h9) rfl dX9_addToken_5 ?_
  refine va_alen (v := 3001) hx hb hK hP 1 0 rfl rfl rfl dX9_addToken_8 ?_
  refine lv_icmp_ge (tgt := 52) hx hb dX9_addToken_9 (by decide) (fun c_1 => (show False by revert c_1; decide).elim) (fun c_1 => ?_)
  refine lv_aload_n hx hb dX9_addToken_12 rfl (lv_at hl 0 rfl) ?_
  refine va_get (D := (dC, dI)) (ci := 9) (v := .ref qo10) (C := RX9) (T := TX9) (N := 13) hx hb hts uV_k1_X9 hown hK hP 0 rfl rfl 0 (by decide) (hts (.fieldLink RX9 15 "ClassMill$Text" "kinds" "[I") mw_k1_156) (fun _ h9 => h9) rfl dX9_addToken_13 ?_
  refine lv_aload_n hx hb dX9_addToken_16 rfl (lv_at hl 0 rfl) ?_
  refine va_get (D := (dC, dI)) (ci := 9) (v := .int 0) (C := RX9) (T := TX9) (N := 13) hx hb hts uV_k1_X9 hown hK hP 0 rfl rfl 3 (by decide) (hts (.fieldLink RX9 83 "ClassMill$Text" "count" "I") mw_k1_155) (fun _ h9 => h9) rfl dX9_addToken_17 ?_
  refine lv_iload_n hx hb dX9_addToken_20 rfl (lv_at hl 1 rfl) ?_
  refine va_iast hx hb hK hP hD hS 1 0 rfl rfl (i := 0) (x := 0) (by unfold vp_in; decide) dX9_addToken_21 ?_
  clear hP hD hS
  intro H locs hP hD hS
  obtain ⟨f_2, ef_2⟩ : ∃ zf : Nat → Int32, zf = upd (fun _ => 0) (0 : Int32).toNatClampNeg 0 := ⟨_, rfl⟩
  rw [← ef_2] at hP hD
  replace hP : va_P (dC, dI) vwCl [(qo2, .inr (9, [.ref qo10, .ref qo11, .ref qo12, .int 0, .ref qo13, .ref qo14, .ref qo15, .ref qo16, .ref qo17, .int 32, .int 0, .int 0, .int (-1)])), (qo10, .inl (co2, 3001, .inl f_2)), (qo11, .inl (co3, 3001, .inl (fun _ => 0))), (qo12, .inl (co4, 3001, .inl (fun _ => 0)))] H := hP
  replace hD : va_D A [(qo2, .inr (9, [.ref qo10, .ref qo11, .ref qo12, .int 0, .ref qo13, .ref qo14, .ref qo15, .ref qo16, .ref qo17, .int 32, .int 0, .int 0, .int (-1)])), (qo10, .inl (co2, 3001, .inl f_2)), (qo11, .inl (co3, 3001, .inl (fun _ => 0))), (qo12, .inl (co4, 3001, .inl (fun _ => 0)))] := hD
  refine lv_aload_n hx hb dX9_addToken_22 rfl (lv_at hl 0 rfl) ?_
  refine va_get (D := (dC, dI)) (ci := 9) (v := .ref qo11) (C := RX9) (T := TX9) (N := 13) hx hb hts uV_k1_X9 hown hK hP 0 rfl rfl 1 (by decide) (hts (.fieldLink RX9 19 "ClassMill$Text" "places" "[I") mw_k1_157) (fun _ h9 => h9) rfl dX9_addToken_23 ?_
  refine lv_aload_n hx hb dX9_addToken_26 rfl (lv_at hl 0 rfl) ?_
  refine va_get (D := (dC, dI)) (ci := 9) (v := .int 0) (C := RX9) (T := TX9) (N := 13) hx hb hts uV_k1_X9 hown hK hP 0 rfl rfl 3 (by decide) (hts (.fieldLink RX9 83 "ClassMill$Text" "count" "I") mw_k1_155) (fun _ h9 => h9) rfl dX9_addToken_27 ?_
  refine lv_iload_n hx hb dX9_addToken_30 rfl (lv_at hl 2 rfl) ?_
  refine va_iast hx hb hK hP hD hS 2 1 rfl rfl (i := 0) (x := 0) (by unfold vp_in; decide) dX9_addToken_31 ?_
  clear hP hD hS
  intro H locs hP hD hS
  obtain ⟨f_3, ef_3⟩ : ∃ zf : Nat → Int32, zf = upd (fun _ => 0) (0 : Int32).toNatClampNeg 0 := ⟨_, rfl⟩
  rw [← ef_3] at hP hD
  replace hP : va_P (dC, dI) vwCl [(qo2, .inr (9, [.ref qo10, .ref qo11, .ref qo12, .int 0, .ref qo13, .ref qo14, .ref qo15, .ref qo16, .ref qo17, .int 32, .int 0, .int 0, .int (-1)])), (qo10, .inl (co2, 3001, .inl f_2)), (qo11, .inl (co3, 3001, .inl f_3)), (qo12, .inl (co4, 3001, .inl (fun _ => 0)))] H := hP
  replace hD : va_D A [(qo2, .inr (9, [.ref qo10, .ref qo11, .ref qo12, .int 0, .ref qo13, .ref qo14, .ref qo15, .ref qo16, .ref qo17, .int 32, .int 0, .int 0, .int (-1)])), (qo10, .inl (co2, 3001, .inl f_2)), (qo11, .inl (co3, 3001, .inl f_3)), (qo12, .inl (co4, 3001, .inl (fun _ => 0)))] := hD
  refine lv_aload_n hx hb dX9_addToken_32 rfl (lv_at hl 0 rfl) ?_
  refine va_get (D := (dC, dI)) (ci := 9) (v := .ref qo12) (C := RX9) (T := TX9) (N := 13) hx hb hts uV_k1_X9 hown hK hP 0 rfl rfl 2 (by decide) (hts (.fieldLink RX9 22 "ClassMill$Text" "values" "[I") mw_k1_158) (fun _ h9 => h9) rfl dX9_addToken_33 ?_
  refine lv_aload_n hx hb dX9_addToken_36 rfl (lv_at hl 0 rfl) ?_
  refine va_get (D := (dC, dI)) (ci := 9) (v := .int 0) (C := RX9) (T := TX9) (N := 13) hx hb hts uV_k1_X9 hown hK hP 0 rfl rfl 3 (by decide) (hts (.fieldLink RX9 83 "ClassMill$Text" "count" "I") mw_k1_155) (fun _ h9 => h9) rfl dX9_addToken_37 ?_
  refine lv_iload_n hx hb dX9_addToken_40 rfl (lv_at hl 3 rfl) ?_
  refine va_iast hx hb hK hP hD hS 3 2 rfl rfl (i := 0) (x := 0) (by unfold vp_in; decide) dX9_addToken_41 ?_
  clear hP hD hS
  intro H locs hP hD hS
  obtain ⟨f_4, ef_4⟩ : ∃ zf : Nat → Int32, zf = upd (fun _ => 0) (0 : Int32).toNatClampNeg 0 := ⟨_, rfl⟩
  rw [← ef_4] at hP hD
  replace hP : va_P (dC, dI) vwCl [(qo2, .inr (9, [.ref qo10, .ref qo11, .ref qo12, .int 0, .ref qo13, .ref qo14, .ref qo15, .ref qo16, .ref qo17, .int 32, .int 0, .int 0, .int (-1)])), (qo10, .inl (co2, 3001, .inl f_2)), (qo11, .inl (co3, 3001, .inl f_3)), (qo12, .inl (co4, 3001, .inl f_4))] H := hP
  replace hD : va_D A [(qo2, .inr (9, [.ref qo10, .ref qo11, .ref qo12, .int 0, .ref qo13, .ref qo14, .ref qo15, .ref qo16, .ref qo17, .int 32, .int 0, .int 0, .int (-1)])), (qo10, .inl (co2, 3001, .inl f_2)), (qo11, .inl (co3, 3001, .inl f_3)), (qo12, .inl (co4, 3001, .inl f_4))] := hD
  refine lv_aload_n hx hb dX9_addToken_42 rfl (lv_at hl 0 rfl) ?_
  refine lv_dup hx hb dX9_addToken_43 rfl ?_
  refine va_get (D := (dC, dI)) (ci := 9) (v := .int 0) (C := RX9) (T := TX9) (N := 13) hx hb hts uV_k1_X9 hown hK hP 0 rfl rfl 3 (by decide) (hts (.fieldLink RX9 83 "ClassMill$Text" "count" "I") mw_k1_155) (fun _ h9 => h9) rfl dX9_addToken_44 ?_
  refine lv_iconst (v := 1) hx hb dX9_addToken_47 (by decide) ?_
  refine lv_iadd hx hb dX9_addToken_48 ?_
  refine lv_topi (fun y_5 ey_5 => ?_)
  obtain rfl : y_5 = 1 := ey_5.trans (by decide)
  refine va_put (D := (dC, dI)) (ci := 9) (v := .int 1) (ty := .int) (C := RX9) (T := TX9) (N := 13) hx hb hts uV_k1_X9 tyX9 tyX9_ok nmX9 hown hK hP hD hS 0 rfl rfl 3 (by decide) (hts (.fieldLink RX9 83 "ClassMill$Text" "count" "I") mw_k1_155) (fun _ h9 => h9) rfl (by decide +kernel) rfl rfl (Nat.le_of_ble_eq_true rfl) dX9_addToken_49 ?_
  clear hP hD hS
  intro H locs hP hD hS
  replace hP : va_P (dC, dI) vwCl [(qo2, .inr (9, [.ref qo10, .ref qo11, .ref qo12, .int 1, .ref qo13, .ref qo14, .ref qo15, .ref qo16, .ref qo17, .int 32, .int 0, .int 0, .int (-1)])), (qo10, .inl (co2, 3001, .inl f_2)), (qo11, .inl (co3, 3001, .inl f_3)), (qo12, .inl (co4, 3001, .inl f_4))] H := hP
  replace hD : va_D A [(qo2, .inr (9, [.ref qo10, .ref qo11, .ref qo12, .int 1, .ref qo13, .ref qo14, .ref qo15, .ref qo16, .ref qo17, .int 32, .int 0, .int 0, .int (-1)])), (qo10, .inl (co2, 3001, .inl f_2)), (qo11, .inl (co3, 3001, .inl f_3)), (qo12, .inl (co4, 3001, .inl f_4))] := hD
  have hP9 := hP.sub (ws' := [(qo2, .inr (9, [.ref qo10, .ref qo11, .ref qo12, .int 1, .ref qo13, .ref qo14, .ref qo15, .ref qo16, .ref qo17, .int 32, .int 0, .int 0, .int (-1)])), (qo10, .inl (co2, 3001, .inl f_2)), (qo11, .inl (co3, 3001, .inl f_3)), (qo12, .inl (co4, 3001, .inl f_4))]) [0, 1, 2, 3] rfl
  have hD9 := hD.sub (ws' := [(qo2, .inr (9, [.ref qo10, .ref qo11, .ref qo12, .int 1, .ref qo13, .ref qo14, .ref qo15, .ref qo16, .ref qo17, .int 32, .int 0, .int 0, .int (-1)])), (qo10, .inl (co2, 3001, .inl f_2)), (qo11, .inl (co3, 3001, .inl f_3)), (qo12, .inl (co4, 3001, .inl f_4))]) [0, 1, 2, 3] (by decide) rfl
  have hK9 := hK.sub (tys' := [(co2, .int), (co3, .int), (co4, .int)]) [0, 1, 2] rfl
  exact W.vret hx hb hr (fun t ht hW => ⟨⟨(f_2, f_3, f_4), rfl, ⟨by rw [ef_2]; rfl, by rw [ef_3]; rfl⟩, by rw [ht]; exact hP9, va_K.moved hW.alike hK9, hD9⟩, hS.F ht⟩) hS.2.2 dX9_addToken_52
set_option maxHeartbeats 4000000 in
set_option maxRecDepth 100000 in
/-- kk_behindBlanks -/
theorem kk_behindBlanks (l : Launch) (dC : Nat → ClassId) (dI : Nat → Nat → Nat) (sz : Nat) (qo1 : Nat)  : Met l yX9_behindBlanks (.code yX9_behindBlanks cX9_behindBlanks 6 (some .int) :: VS_k1) ({ frames := 0, cells := 0, slots := 0, locals := 0 }) (va_Pc [.ref qo1, .int 0, .int 0] (fun U => U.heap.size = sz ∧ va_P (dC, dI) vwCl [] U.heap ∧ va_K (dC, dI) vwCl [] U ∧ va_D (fun _ => True) [])) (va_Qi (fun (r : Int32) (u : Unit) => match u with | () => r = 0) (fun (u : Unit) (t : State) => match u with | () => va_P (dC, dI) vwCl [] t.heap ∧ va_K (dC, dI) vwCl [] t ∧ va_D (va_A [] sz) []) (va_A [] sz)) 0 0 (va_A [] sz) := by
  refine Met.ofW (cc := cX9_behindBlanks) (maxL := 6) (ret := (some .int)) (by decide) rfl ?_
  intro p e s m args below meth c s₁ B hml hv
  obtain ⟨rfl, hsz, hP, hK, hD0⟩ := hv
  have hx := B.exec
  have hb := B.bytes
  have hr := B.returns
  have hts := atoms_spec (ws := (.code yX9_behindBlanks cX9_behindBlanks 6 (some .int) :: VS_k1)) B.pre
  replace hts := fun w (h : w ∈ VS_k1) => hts w (List.mem_cons_of_mem _ h)
  have hown : s.vm.findClass RX9 = some m.cls := findClass_of_methodNamed B.named
  have hlocks := B.notSynchronized
  subst hsz
  have hD := hD0.self (sz := s.heap.size)
  generalize hAe : va_A [] s.heap.size = A at hD  ⊢
  have hA : ∀ q : Nat, s.heap.size ≤ q → A q := fun q h => by rw [← hAe]; exact Or.inr h
  have hP : va_P (dC, dI) vwCl [] s.heap := hP
  have hl := lv_entry ([.ref qo1, .int 0, .int 0]) (n := 6) (Nat.le_of_ble_eq_true rfl)
  rw [lg_entry_eq]
  generalize (lg_sl ([.ref qo1, .int 0, .int 0]) ++ List.replicate (6 - (lg_sl ([.ref qo1, .int 0, .int 0])).length) Slot.unset).toArray = ls at hl ⊢
  have hl : lv_has ls 6 [(0, .ref qo1), (1, .int 0), (2, .int 0)] := hl
  obtain ⟨H, hH⟩ : ∃ H : Heap, s.heap = H := ⟨_, rfl⟩
  rw [hH] at hP ⊢
  have hS : va_S A s.heap H [] := by rw [← hH]; exact va_S.rf
  obtain ⟨locs, hlo⟩ : ∃ locs : List Loc, locs = [] := ⟨_, rfl⟩
  rw [← hlo] at hS ⊢
  refine lv_iload_n hx hb dX9_behindBlanks_0 rfl (lv_at hl 2 rfl) ?_
  refine lv_istore_n (lv' := [(3, .int 0), (0, .ref qo1), (1, .int 0), (2, .int 0)]) hx hb dX9_behindBlanks_1 rfl hl (by decide) rfl (fun ls hl => ?_)
  refine lv_iconst (v := 0) hx hb dX9_behindBlanks_2 (by decide) ?_
  refine lv_istore (lv' := [(4, .int 0), (3, .int 0), (0, .ref qo1), (1, .int 0), (2, .int 0)]) hx hb dX9_behindBlanks_3 hl (by decide) rfl (fun ls hl => ?_)
  refine lv_iload_n hx hb dX9_behindBlanks_5 rfl (lv_at hl 1 rfl) ?_
  refine lv_iload_n hx hb dX9_behindBlanks_6 rfl (lv_at hl 3 rfl) ?_
  refine lv_icmp_ge (tgt := 78) hx hb dX9_behindBlanks_7 (by decide) (fun c_1 => ?_) (fun c_1 => (show False by revert c_1; decide).elim)
  refine lv_iload_n hx hb dX9_behindBlanks_78 rfl (lv_at hl 1 rfl) ?_
  have hP9 := hP.sub (ws' := []) [] rfl
  have hD9 := hD.sub (ws' := []) [] (by decide) rfl
  have hK9 := hK.sub (tys' := []) [] rfl
  exact W.iret hx hb hr (fun t ht hW => ⟨⟨(0), (), rfl, rfl, by rw [ht]; exact hP9, va_K.moved hW.alike hK9, hD9⟩, hS.F ht⟩) hS.2.2 dX9_behindBlanks_79
set_option maxHeartbeats 4000000 in
set_option maxRecDepth 100000 in
/-- kk_scan -/
theorem kk_scan (l : Launch) (dC : Nat → ClassId) (dI : Nat → Nat → Nat) (sz : Nat) (qo2 : Nat) (qo1 : Nat) (qo10 : Nat) (qo11 : Nat) (qo12 : Nat) (qo13 : Nat) (qo14 : Nat) (qo15 : Nat) (qo16 : Nat) (qo17 : Nat) (ko1 : Nat) (co2 : ClassId) (co3 : ClassId) (co4 : ClassId) (co5 : ClassId) (fo1 : (Nat → Int32)) (co6 : ClassId) (fo2 : (Nat → Int32))  : Met l yX9_scan (.code yX9_scan cX9_scan 6 none :: VS_k1) ({ frames := 2, cells := 0, slots := 0, locals := 60 }) (va_Pc [.ref qo2, .ref qo1, .int 0] (fun U => U.heap.size = sz ∧ va_P (dC, dI) vwCl [(qo2, .inr (9, [.ref qo10, .ref qo11, .ref qo12, .int 0, .ref qo13, .ref qo14, .ref qo15, .ref qo16, .ref qo17, .int (nI ko1), .int 0, .int 0, .int (-1)])), (qo10, .inl (co2, 3001, .inl (fun _ => 0))), (qo11, .inl (co3, 3001, .inl (fun _ => 0))), (qo12, .inl (co4, 3001, .inl (fun _ => 0))), (qo16, .inl (co5, 64, .inl fo1)), (qo17, .inl (co6, 64, .inl fo2))] U.heap ∧ va_K (dC, dI) vwCl [(co2, .int), (co3, .int), (co4, .int), (co5, .int), (co6, .int)] U ∧ va_D (fun _ => True) [(qo2, .inr (9, [.ref qo10, .ref qo11, .ref qo12, .int 0, .ref qo13, .ref qo14, .ref qo15, .ref qo16, .ref qo17, .int (nI ko1), .int 0, .int 0, .int (-1)])), (qo10, .inl (co2, 3001, .inl (fun _ => 0))), (qo11, .inl (co3, 3001, .inl (fun _ => 0))), (qo12, .inl (co4, 3001, .inl (fun _ => 0))), (qo16, .inl (co5, 64, .inl fo1)), (qo17, .inl (co6, 64, .inl fo2))])) (va_Qv (fun (u : (Nat → Int32) × (Nat → Int32)) => match u with | (fo3, fo4) => fo3 0 = 0 ∧ fo4 0 = 0) (fun (u : (Nat → Int32) × (Nat → Int32)) (t : State) => match u with | (fo3, fo4) => va_P (dC, dI) vwCl [(qo2, .inr (9, [.ref qo10, .ref qo11, .ref qo12, .int 1, .ref qo13, .ref qo14, .ref qo15, .ref qo16, .ref qo17, .int 32, .int 0, .int 0, .int (-1)])), (qo10, .inl (co2, 3001, .inl fo3)), (qo11, .inl (co3, 3001, .inl fo4))] t.heap ∧ va_K (dC, dI) vwCl [(co2, .int), (co3, .int)] t ∧ va_D (va_A [(qo2, .inr (9, [.ref qo10, .ref qo11, .ref qo12, .int 0, .ref qo13, .ref qo14, .ref qo15, .ref qo16, .ref qo17, .int (nI ko1), .int 0, .int 0, .int (-1)])), (qo10, .inl (co2, 3001, .inl (fun _ => 0))), (qo11, .inl (co3, 3001, .inl (fun _ => 0))), (qo12, .inl (co4, 3001, .inl (fun _ => 0))), (qo16, .inl (co5, 64, .inl fo1)), (qo17, .inl (co6, 64, .inl fo2))] sz) [(qo2, .inr (9, [.ref qo10, .ref qo11, .ref qo12, .int 1, .ref qo13, .ref qo14, .ref qo15, .ref qo16, .ref qo17, .int 32, .int 0, .int 0, .int (-1)])), (qo10, .inl (co2, 3001, .inl fo3)), (qo11, .inl (co3, 3001, .inl fo4))]) (va_A [(qo2, .inr (9, [.ref qo10, .ref qo11, .ref qo12, .int 0, .ref qo13, .ref qo14, .ref qo15, .ref qo16, .ref qo17, .int (nI ko1), .int 0, .int 0, .int (-1)])), (qo10, .inl (co2, 3001, .inl (fun _ => 0))), (qo11, .inl (co3, 3001, .inl (fun _ => 0))), (qo12, .inl (co4, 3001, .inl (fun _ => 0))), (qo16, .inl (co5, 64, .inl fo1)), (qo17, .inl (co6, 64, .inl fo2))] sz)) 0 0 (va_A [(qo2, .inr (9, [.ref qo10, .ref qo11, .ref qo12, .int 0, .ref qo13, .ref qo14, .ref qo15, .ref qo16, .ref qo17, .int (nI ko1), .int 0, .int 0, .int (-1)])), (qo10, .inl (co2, 3001, .inl (fun _ => 0))), (qo11, .inl (co3, 3001, .inl (fun _ => 0))), (qo12, .inl (co4, 3001, .inl (fun _ => 0))), (qo16, .inl (co5, 64, .inl fo1)), (qo17, .inl (co6, 64, .inl fo2))] sz) := by
  refine Met.ofW (cc := cX9_scan) (maxL := 6) (ret := none) (by decide) rfl ?_
  intro p e s m args below meth c s₁ B hml hv
  obtain ⟨rfl, hsz, hP, hK, hD0⟩ := hv
  have hx := B.exec
  have hb := B.bytes
  have hr := B.returns
  have hts := atoms_spec (ws := (.code yX9_scan cX9_scan 6 none :: VS_k1)) B.pre
  replace hts := fun w (h : w ∈ VS_k1) => hts w (List.mem_cons_of_mem _ h)
  have hown : s.vm.findClass RX9 = some m.cls := findClass_of_methodNamed B.named
  have hlocks := B.notSynchronized
  subst hsz
  have hD := hD0.self (sz := s.heap.size)
  generalize hAe : va_A [(qo2, .inr (9, [.ref qo10, .ref qo11, .ref qo12, .int 0, .ref qo13, .ref qo14, .ref qo15, .ref qo16, .ref qo17, .int (nI ko1), .int 0, .int 0, .int (-1)])), (qo10, .inl (co2, 3001, .inl (fun _ => 0))), (qo11, .inl (co3, 3001, .inl (fun _ => 0))), (qo12, .inl (co4, 3001, .inl (fun _ => 0))), (qo16, .inl (co5, 64, .inl fo1)), (qo17, .inl (co6, 64, .inl fo2))] s.heap.size = A at hD  ⊢
  have hA : ∀ q : Nat, s.heap.size ≤ q → A q := fun q h => by rw [← hAe]; exact Or.inr h
  have hP : va_P (dC, dI) vwCl [(qo2, .inr (9, [.ref qo10, .ref qo11, .ref qo12, .int 0, .ref qo13, .ref qo14, .ref qo15, .ref qo16, .ref qo17, .int (nI ko1), .int 0, .int 0, .int (-1)])), (qo10, .inl (co2, 3001, .inl (fun _ => 0))), (qo11, .inl (co3, 3001, .inl (fun _ => 0))), (qo12, .inl (co4, 3001, .inl (fun _ => 0))), (qo16, .inl (co5, 64, .inl fo1)), (qo17, .inl (co6, 64, .inl fo2))] s.heap := hP
  have hl := lv_entry ([.ref qo2, .ref qo1, .int 0]) (n := 6) (Nat.le_of_ble_eq_true rfl)
  rw [lg_entry_eq]
  generalize (lg_sl ([.ref qo2, .ref qo1, .int 0]) ++ List.replicate (6 - (lg_sl ([.ref qo2, .ref qo1, .int 0])).length) Slot.unset).toArray = ls at hl ⊢
  have hl : lv_has ls 6 [(0, .ref qo2), (1, .ref qo1), (2, .int 0)] := hl
  obtain ⟨H, hH⟩ : ∃ H : Heap, s.heap = H := ⟨_, rfl⟩
  rw [hH] at hP ⊢
  have hS : va_S A s.heap H [] := by rw [← hH]; exact va_S.rf
  obtain ⟨locs, hlo⟩ : ∃ locs : List Loc, locs = [] := ⟨_, rfl⟩
  rw [← hlo] at hS ⊢
  refine lv_aload_n hx hb dX9_scan_0 rfl (lv_at hl 0 rfl) ?_
  refine lv_bipush (v := 32) hx hb dX9_scan_1 (by decide) ?_
  refine va_put (D := (dC, dI)) (ci := 9) (v := .int 32) (ty := .int) (C := RX9) (T := TX9) (N := 13) hx hb hts uV_k1_X9 tyX9 tyX9_ok nmX9 hown hK hP hD hS 0 rfl rfl 9 (by decide) (hts (.fieldLink RX9 73 "ClassMill$Text" "names" "I") mw_k1_167) (fun _ h9 => h9) rfl (by decide +kernel) rfl rfl (Nat.le_of_ble_eq_true rfl) dX9_scan_3 ?_
  clear hP hD hS
  intro H locs hP hD hS
  replace hP : va_P (dC, dI) vwCl [(qo2, .inr (9, [.ref qo10, .ref qo11, .ref qo12, .int 0, .ref qo13, .ref qo14, .ref qo15, .ref qo16, .ref qo17, .int 32, .int 0, .int 0, .int (-1)])), (qo10, .inl (co2, 3001, .inl (fun _ => 0))), (qo11, .inl (co3, 3001, .inl (fun _ => 0))), (qo12, .inl (co4, 3001, .inl (fun _ => 0))), (qo16, .inl (co5, 64, .inl fo1)), (qo17, .inl (co6, 64, .inl fo2))] H := hP
  replace hD : va_D A [(qo2, .inr (9, [.ref qo10, .ref qo11, .ref qo12, .int 0, .ref qo13, .ref qo14, .ref qo15, .ref qo16, .ref qo17, .int 32, .int 0, .int 0, .int (-1)])), (qo10, .inl (co2, 3001, .inl (fun _ => 0))), (qo11, .inl (co3, 3001, .inl (fun _ => 0))), (qo12, .inl (co4, 3001, .inl (fun _ => 0))), (qo16, .inl (co5, 64, .inl fo1)), (qo17, .inl (co6, 64, .inl fo2))] := hD
  refine lv_aload_n hx hb dX9_scan_6 rfl (lv_at hl 0 rfl) ?_
  refine va_get (D := (dC, dI)) (ci := 9) (v := .ref qo17) (C := RX9) (T := TX9) (N := 13) hx hb hts uV_k1_X9 hown hK hP 0 rfl rfl 8 (by decide) (hts (.fieldLink RX9 38 "ClassMill$Text" "knownBucket" "[I") mw_k1_168) (fun _ h9 => h9) rfl dX9_scan_7 ?_
  refine lv_iconst (v := 0) hx hb dX9_scan_10 (by decide) ?_
  refine lv_aload_n hx hb dX9_scan_11 rfl (lv_at hl 0 rfl) ?_
  refine va_get (D := (dC, dI)) (ci := 9) (v := .ref qo16) (C := RX9) (T := TX9) (N := 13) hx hb hts uV_k1_X9 hown hK hP 0 rfl rfl 7 (by decide) (hts (.fieldLink RX9 35 "ClassMill$Text" "bucket" "[I") mw_k1_169) (fun _ h9 => h9) rfl dX9_scan_12 ?_
  refine lv_iconst (v := 0) hx hb dX9_scan_15 (by decide) ?_
  refine lv_bipush (v := 64) hx hb dX9_scan_16 (by decide) ?_
  refine va_copyi hx hb (by rw [hml]; exact hl.1.symm) hown (hts (.methodLink RX9 67 arraycopyName) mw_k1_170) (hts (.native arraycopyName) mw_k1_171) (hts (.static arraycopyName) mw_k1_172) (hts (.initialized "java/lang/System") mw_k1_173) hK hP hD hS 5 4 4 3 rfl rfl rfl rfl rfl (sp := 0) (dp := 0) (n := 64) (by decide) (by decide) (by decide) (by decide) (by decide) (fun _ _ => rfl) (Nat.le_of_ble_eq_true rfl) (Nat.le_of_ble_eq_true rfl) dX9_scan_18 ?_
  clear hP hD hS
  intro H locs hP hD hS
  obtain ⟨fkn, efkn⟩ : ∃ zf : Nat → Int32, zf = va_cpy fo2 fo1 (0 : Int32).toNatClampNeg (0 : Int32).toNatClampNeg (64 : Int32).toNatClampNeg := ⟨_, rfl⟩
  rw [← efkn] at hP hD
  replace hP : va_P (dC, dI) vwCl [(qo2, .inr (9, [.ref qo10, .ref qo11, .ref qo12, .int 0, .ref qo13, .ref qo14, .ref qo15, .ref qo16, .ref qo17, .int 32, .int 0, .int 0, .int (-1)])), (qo10, .inl (co2, 3001, .inl (fun _ => 0))), (qo11, .inl (co3, 3001, .inl (fun _ => 0))), (qo12, .inl (co4, 3001, .inl (fun _ => 0))), (qo16, .inl (co5, 64, .inl fkn)), (qo17, .inl (co6, 64, .inl fo2))] H := hP
  replace hD : va_D A [(qo2, .inr (9, [.ref qo10, .ref qo11, .ref qo12, .int 0, .ref qo13, .ref qo14, .ref qo15, .ref qo16, .ref qo17, .int 32, .int 0, .int 0, .int (-1)])), (qo10, .inl (co2, 3001, .inl (fun _ => 0))), (qo11, .inl (co3, 3001, .inl (fun _ => 0))), (qo12, .inl (co4, 3001, .inl (fun _ => 0))), (qo16, .inl (co5, 64, .inl fkn)), (qo17, .inl (co6, 64, .inl fo2))] := hD
  refine lv_aload_n hx hb dX9_scan_21 rfl (lv_at hl 0 rfl) ?_
  refine lv_iconst (v := 0) hx hb dX9_scan_22 (by decide) ?_
  refine va_put (D := (dC, dI)) (ci := 9) (v := .int 0) (ty := .int) (C := RX9) (T := TX9) (N := 13) hx hb hts uV_k1_X9 tyX9 tyX9_ok nmX9 hown hK hP hD hS 0 rfl rfl 3 (by decide) (hts (.fieldLink RX9 83 "ClassMill$Text" "count" "I") mw_k1_155) (fun _ h9 => h9) rfl (by decide +kernel) rfl rfl (Nat.le_of_ble_eq_true rfl) dX9_scan_23 ?_
  clear hP hD hS
  intro H locs hP hD hS
  replace hP : va_P (dC, dI) vwCl [(qo2, .inr (9, [.ref qo10, .ref qo11, .ref qo12, .int 0, .ref qo13, .ref qo14, .ref qo15, .ref qo16, .ref qo17, .int 32, .int 0, .int 0, .int (-1)])), (qo10, .inl (co2, 3001, .inl (fun _ => 0))), (qo11, .inl (co3, 3001, .inl (fun _ => 0))), (qo12, .inl (co4, 3001, .inl (fun _ => 0))), (qo16, .inl (co5, 64, .inl fkn)), (qo17, .inl (co6, 64, .inl fo2))] H := hP
  replace hD : va_D A [(qo2, .inr (9, [.ref qo10, .ref qo11, .ref qo12, .int 0, .ref qo13, .ref qo14, .ref qo15, .ref qo16, .ref qo17, .int 32, .int 0, .int 0, .int (-1)])), (qo10, .inl (co2, 3001, .inl (fun _ => 0))), (qo11, .inl (co3, 3001, .inl (fun _ => 0))), (qo12, .inl (co4, 3001, .inl (fun _ => 0))), (qo16, .inl (co5, 64, .inl fkn)), (qo17, .inl (co6, 64, .inl fo2))] := hD
  refine lv_aload_n hx hb dX9_scan_26 rfl (lv_at hl 0 rfl) ?_
  refine lv_iconst (v := 0) hx hb dX9_scan_27 (by decide) ?_
  refine va_put (D := (dC, dI)) (ci := 9) (v := .int 0) (ty := .int) (C := RX9) (T := TX9) (N := 13) hx hb hts uV_k1_X9 tyX9 tyX9_ok nmX9 hown hK hP hD hS 0 rfl rfl 10 (by decide) (hts (.fieldLink RX9 86 "ClassMill$Text" "pos" "I") mw_k1_174) (fun _ h9 => h9) rfl (by decide +kernel) rfl rfl (Nat.le_of_ble_eq_true rfl) dX9_scan_28 ?_
  clear hP hD hS
  intro H locs hP hD hS
  replace hP : va_P (dC, dI) vwCl [(qo2, .inr (9, [.ref qo10, .ref qo11, .ref qo12, .int 0, .ref qo13, .ref qo14, .ref qo15, .ref qo16, .ref qo17, .int 32, .int 0, .int 0, .int (-1)])), (qo10, .inl (co2, 3001, .inl (fun _ => 0))), (qo11, .inl (co3, 3001, .inl (fun _ => 0))), (qo12, .inl (co4, 3001, .inl (fun _ => 0))), (qo16, .inl (co5, 64, .inl fkn)), (qo17, .inl (co6, 64, .inl fo2))] H := hP
  replace hD : va_D A [(qo2, .inr (9, [.ref qo10, .ref qo11, .ref qo12, .int 0, .ref qo13, .ref qo14, .ref qo15, .ref qo16, .ref qo17, .int 32, .int 0, .int 0, .int (-1)])), (qo10, .inl (co2, 3001, .inl (fun _ => 0))), (qo11, .inl (co3, 3001, .inl (fun _ => 0))), (qo12, .inl (co4, 3001, .inl (fun _ => 0))), (qo16, .inl (co5, 64, .inl fkn)), (qo17, .inl (co6, 64, .inl fo2))] := hD
  refine lv_aload_n hx hb dX9_scan_31 rfl (lv_at hl 0 rfl) ?_
  refine lv_iconst (v := 0) hx hb dX9_scan_32 (by decide) ?_
  refine va_put (D := (dC, dI)) (ci := 9) (v := .int 0) (ty := .int) (C := RX9) (T := TX9) (N := 13) hx hb hts uV_k1_X9 tyX9 tyX9_ok nmX9 hown hK hP hD hS 0 rfl rfl 11 (by decide) (hts (.fieldLink RX9 80 "ClassMill$Text" "fault" "I") mw_k1_175) (fun _ h9 => h9) rfl (by decide +kernel) rfl rfl (Nat.le_of_ble_eq_true rfl) dX9_scan_33 ?_
  clear hP hD hS
  intro H locs hP hD hS
  replace hP : va_P (dC, dI) vwCl [(qo2, .inr (9, [.ref qo10, .ref qo11, .ref qo12, .int 0, .ref qo13, .ref qo14, .ref qo15, .ref qo16, .ref qo17, .int 32, .int 0, .int 0, .int (-1)])), (qo10, .inl (co2, 3001, .inl (fun _ => 0))), (qo11, .inl (co3, 3001, .inl (fun _ => 0))), (qo12, .inl (co4, 3001, .inl (fun _ => 0))), (qo16, .inl (co5, 64, .inl fkn)), (qo17, .inl (co6, 64, .inl fo2))] H := hP
  replace hD : va_D A [(qo2, .inr (9, [.ref qo10, .ref qo11, .ref qo12, .int 0, .ref qo13, .ref qo14, .ref qo15, .ref qo16, .ref qo17, .int 32, .int 0, .int 0, .int (-1)])), (qo10, .inl (co2, 3001, .inl (fun _ => 0))), (qo11, .inl (co3, 3001, .inl (fun _ => 0))), (qo12, .inl (co4, 3001, .inl (fun _ => 0))), (qo16, .inl (co5, 64, .inl fkn)), (qo17, .inl (co6, 64, .inl fo2))] := hD
  refine lv_aload_n hx hb dX9_scan_36 rfl (lv_at hl 0 rfl) ?_
  refine lv_iconst (v := (-1)) hx hb dX9_scan_37 (by decide) ?_
  refine va_put (D := (dC, dI)) (ci := 9) (v := .int (-1)) (ty := .int) (C := RX9) (T := TX9) (N := 13) hx hb hts uV_k1_X9 tyX9 tyX9_ok nmX9 hown hK hP hD hS 0 rfl rfl 12 (by decide) (hts (.fieldLink RX9 41 "ClassMill$Text" "place" "I") mw_k1_176) (fun _ h9 => h9) rfl (by decide +kernel) rfl rfl (Nat.le_of_ble_eq_true rfl) dX9_scan_38 ?_
  clear hP hD hS
  intro H locs hP hD hS
  replace hP : va_P (dC, dI) vwCl [(qo2, .inr (9, [.ref qo10, .ref qo11, .ref qo12, .int 0, .ref qo13, .ref qo14, .ref qo15, .ref qo16, .ref qo17, .int 32, .int 0, .int 0, .int (-1)])), (qo10, .inl (co2, 3001, .inl (fun _ => 0))), (qo11, .inl (co3, 3001, .inl (fun _ => 0))), (qo12, .inl (co4, 3001, .inl (fun _ => 0))), (qo16, .inl (co5, 64, .inl fkn)), (qo17, .inl (co6, 64, .inl fo2))] H := hP
  replace hD : va_D A [(qo2, .inr (9, [.ref qo10, .ref qo11, .ref qo12, .int 0, .ref qo13, .ref qo14, .ref qo15, .ref qo16, .ref qo17, .int 32, .int 0, .int 0, .int (-1)])), (qo10, .inl (co2, 3001, .inl (fun _ => 0))), (qo11, .inl (co3, 3001, .inl (fun _ => 0))), (qo12, .inl (co4, 3001, .inl (fun _ => 0))), (qo16, .inl (co5, 64, .inl fkn)), (qo17, .inl (co6, 64, .inl fo2))] := hD
  refine lv_aload_n hx hb dX9_scan_41 rfl (lv_at hl 1 rfl) ?_
  refine lv_iload_n hx hb dX9_scan_42 rfl (lv_at hl 2 rfl) ?_
  refine lv_iconst (v := 0) hx hb dX9_scan_43 (by decide) ?_
  have hPc := hP.sub (ws' := []) [] rfl
  have hDc := hD.sub (ws' := []) [] (by decide) rfl
  have hKc := hK.sub (tys' := []) [] rfl
  have hFc := va_free (wc := []) hD hS hA [] rfl
  refine va_calli (va_runS (As := [.ref qo1, .int 0, .int 0]) (rest := []) ⟨hx, hb, hml, hown, hts⟩ (kk_behindBlanks l dC dI H.size qo1) (va_cwS 3 hts gv_k1_36 rfl rfl rfl (by decide +kernel) ⟨Nat.le_of_ble_eq_true rfl, Nat.le_of_ble_eq_true rfl⟩) ⟨fun a U g mk q => by obtain ⟨q0, q1, qP, qK, qD⟩ := q; exact ⟨q0, q1, qP, va_K.moved (u := U) (U := U.calling g mk a) (Vm.Alike.refl U.vm) qK, qD⟩, fun U hU hW => ⟨rfl, by rw [hU], by rw [hU]; exact hPc, va_K.moved hW.alike hKc, hDc.weaken (fun _ _ _ _ => trivial)⟩⟩ rfl rfl hl.1 rfl (lv_room (Nat.le_of_ble_eq_true rfl)) dX9_scan_44 ⟨Nat.le_of_ble_eq_true rfl, Nat.le_of_ble_eq_true rfl⟩) hS (fun q _ h => hFc q h) hFc ?_
  clear hS
  intro r_1 u t H1 locs ht hvm hw hB hz1 hk1 hS
  obtain ⟨⟩ := u
  obtain ⟨hP1, hK1, hD1⟩ := hB
  rw [ht] at hP1
  have hK1 := va_K.moved hvm.symm hK1
  try dsimp only at hw
  have hPD := va_join (wr := [(qo2, .inr (9, [.ref qo10, .ref qo11, .ref qo12, .int 0, .ref qo13, .ref qo14, .ref qo15, .ref qo16, .ref qo17, .int 32, .int 0, .int 0, .int (-1)])), (qo10, .inl (co2, 3001, .inl (fun _ => 0))), (qo11, .inl (co3, 3001, .inl (fun _ => 0))), (qo12, .inl (co4, 3001, .inl (fun _ => 0))), (qo16, .inl (co5, 64, .inl fkn)), (qo17, .inl (co6, 64, .inl fo2))]) (w1 := []) hP hD [] [0, 1, 2, 3, 4, 5] rfl rfl (by decide) (by decide) hk1 hFc hP1 hD1
  clear hP hD
  obtain ⟨hP, hD⟩ := hPD
  replace hK := (hK.sub (tys' := [(co2, .int), (co3, .int), (co4, .int), (co5, .int), (co6, .int)]) [0, 1, 2, 3, 4] rfl).app hK1
  clear hPc hDc hKc hFc hP1 hK1 hD1 hz1 hk1 ht hvm
  generalize H1 = H at hP hS ⊢
  replace hP : va_P (dC, dI) vwCl [(qo2, .inr (9, [.ref qo10, .ref qo11, .ref qo12, .int 0, .ref qo13, .ref qo14, .ref qo15, .ref qo16, .ref qo17, .int 32, .int 0, .int 0, .int (-1)])), (qo10, .inl (co2, 3001, .inl (fun _ => 0))), (qo11, .inl (co3, 3001, .inl (fun _ => 0))), (qo12, .inl (co4, 3001, .inl (fun _ => 0))), (qo16, .inl (co5, 64, .inl fkn)), (qo17, .inl (co6, 64, .inl fo2))] H := hP
  replace hD : va_D A [(qo2, .inr (9, [.ref qo10, .ref qo11, .ref qo12, .int 0, .ref qo13, .ref qo14, .ref qo15, .ref qo16, .ref qo17, .int 32, .int 0, .int 0, .int (-1)])), (qo10, .inl (co2, 3001, .inl (fun _ => 0))), (qo11, .inl (co3, 3001, .inl (fun _ => 0))), (qo12, .inl (co4, 3001, .inl (fun _ => 0))), (qo16, .inl (co5, 64, .inl fkn)), (qo17, .inl (co6, 64, .inl fo2))] := hD
  replace hK : va_K (dC, dI) vwCl [(co2, .int), (co3, .int), (co4, .int), (co5, .int), (co6, .int)] s := hK
  subst hw
  refine lv_istore_n (lv' := [(3, .int 0), (0, .ref qo2), (1, .ref qo1), (2, .int 0)]) hx hb dX9_scan_47 rfl hl (by decide) rfl (fun ls hl => ?_)
  refine lv_iconst (v := 0) hx hb dX9_scan_48 (by decide) ?_
  refine lv_istore (lv' := [(4, .int 0), (3, .int 0), (0, .ref qo2), (1, .ref qo1), (2, .int 0)]) hx hb dX9_scan_49 hl (by decide) rfl (fun ls hl => ?_)
  refine lv_iload hx hb dX9_scan_51 (lv_at hl 0 rfl) ?_
  refine lv_sipush (v := 3000) hx hb dX9_scan_53 (by decide) ?_
  refine lv_icmp_ge (tgt := 102) hx hb dX9_scan_56 (by decide) (fun c_2 => (show False by revert c_2; decide).elim) (fun c_2 => ?_)
  refine lv_iload_n hx hb dX9_scan_59 rfl (lv_at hl 1 rfl) ?_
  refine lv_iload_n hx hb dX9_scan_60 rfl (lv_at hl 4 rfl) ?_
  refine lv_icmp_ge (tgt := 102) hx hb dX9_scan_61 (by decide) (fun c_3 => ?_) (fun c_3 => (show False by revert c_3; decide).elim)
  refine lv_aload_n hx hb dX9_scan_102 rfl (lv_at hl 2 rfl) ?_
  refine lv_iconst (v := 0) hx hb dX9_scan_103 (by decide) ?_
  refine lv_iload_n hx hb dX9_scan_104 rfl (lv_at hl 4 rfl) ?_
  refine lv_iconst (v := 0) hx hb dX9_scan_105 (by decide) ?_
  have hPc := hP.sub (ws' := [(qo2, .inr (9, [.ref qo10, .ref qo11, .ref qo12, .int 0, .ref qo13, .ref qo14, .ref qo15, .ref qo16, .ref qo17, .int 32, .int 0, .int 0, .int (-1)])), (qo10, .inl (co2, 3001, .inl (fun _ => 0))), (qo11, .inl (co3, 3001, .inl (fun _ => 0))), (qo12, .inl (co4, 3001, .inl (fun _ => 0)))]) [0, 1, 2, 3] rfl
  have hDc := hD.sub (ws' := [(qo2, .inr (9, [.ref qo10, .ref qo11, .ref qo12, .int 0, .ref qo13, .ref qo14, .ref qo15, .ref qo16, .ref qo17, .int 32, .int 0, .int 0, .int (-1)])), (qo10, .inl (co2, 3001, .inl (fun _ => 0))), (qo11, .inl (co3, 3001, .inl (fun _ => 0))), (qo12, .inl (co4, 3001, .inl (fun _ => 0)))]) [0, 1, 2, 3] (by decide) rfl
  have hKc := hK.sub (tys' := [(co2, .int), (co3, .int), (co4, .int)]) [0, 1, 2] rfl
  have hFc := va_free (wc := [(qo2, .inr (9, [.ref qo10, .ref qo11, .ref qo12, .int 0, .ref qo13, .ref qo14, .ref qo15, .ref qo16, .ref qo17, .int 32, .int 0, .int 0, .int (-1)])), (qo10, .inl (co2, 3001, .inl (fun _ => 0))), (qo11, .inl (co3, 3001, .inl (fun _ => 0))), (qo12, .inl (co4, 3001, .inl (fun _ => 0)))]) hD hS hA [0, 1, 2, 3] rfl
  refine va_callv (va_runV (As := [.int 0, .int 0, .int 0]) (rest := []) ⟨hx, hb, hml, hown, hts⟩ (kk_addToken l dC dI H.size qo2 qo10 qo11 qo12 qo13 qo14 qo15 qo16 qo17 co2 co3 co4) (cwV 3 hts gv_k1_37 rfl rfl rfl (by decide +kernel) ⟨Nat.le_of_ble_eq_true rfl, Nat.le_of_ble_eq_true rfl⟩) ⟨fun a U g mk q => by obtain ⟨q0, q1, qP, qK, qD⟩ := q; exact ⟨q0, q1, qP, va_K.moved (u := U) (U := U.calling g mk a) (Vm.Alike.refl U.vm) qK, qD⟩, va_recv hKc hPc (ci := 9) (q0 := 0) rfl rfl, fun U hU hW => ⟨rfl, by rw [hU], by rw [hU]; exact hPc, va_K.moved hW.alike hKc, hDc.weaken (fun _ _ _ _ => trivial)⟩⟩ rfl rfl hl.1 rfl (lv_room (Nat.le_of_ble_eq_true rfl)) dX9_scan_106 ⟨Nat.le_of_ble_eq_true rfl, Nat.le_of_ble_eq_true rfl⟩) hS (fun q _ h => hFc q h) hFc ?_
  clear hS
  intro u t H1 locs ht hvm hw hB hz1 hk1 hS
  obtain ⟨f_4, f_5, f_6⟩ := u
  obtain ⟨hP1, hK1, hD1⟩ := hB
  rw [ht] at hP1
  have hK1 := va_K.moved hvm.symm hK1
  try dsimp only at hw
  have hPD := va_join (wr := [(qo16, .inl (co5, 64, .inl fkn)), (qo17, .inl (co6, 64, .inl fo2))]) (w1 := [(qo2, .inr (9, [.ref qo10, .ref qo11, .ref qo12, .int 1, .ref qo13, .ref qo14, .ref qo15, .ref qo16, .ref qo17, .int 32, .int 0, .int 0, .int (-1)])), (qo10, .inl (co2, 3001, .inl f_4)), (qo11, .inl (co3, 3001, .inl f_5)), (qo12, .inl (co4, 3001, .inl f_6))]) hP hD [0, 1, 2, 3] [4, 5] rfl rfl (by decide) (by decide) hk1 hFc hP1 hD1
  clear hP hD
  obtain ⟨hP, hD⟩ := hPD
  replace hK := (hK.sub (tys' := [(co5, .int), (co6, .int)]) [3, 4] rfl).app hK1
  clear hPc hDc hKc hFc hP1 hK1 hD1 hz1 hk1 ht hvm
  generalize H1 = H at hP hS ⊢
  replace hP : va_P (dC, dI) vwCl [(qo16, .inl (co5, 64, .inl fkn)), (qo17, .inl (co6, 64, .inl fo2)), (qo2, .inr (9, [.ref qo10, .ref qo11, .ref qo12, .int 1, .ref qo13, .ref qo14, .ref qo15, .ref qo16, .ref qo17, .int 32, .int 0, .int 0, .int (-1)])), (qo10, .inl (co2, 3001, .inl f_4)), (qo11, .inl (co3, 3001, .inl f_5)), (qo12, .inl (co4, 3001, .inl f_6))] H := hP
  replace hD : va_D A [(qo16, .inl (co5, 64, .inl fkn)), (qo17, .inl (co6, 64, .inl fo2)), (qo2, .inr (9, [.ref qo10, .ref qo11, .ref qo12, .int 1, .ref qo13, .ref qo14, .ref qo15, .ref qo16, .ref qo17, .int 32, .int 0, .int 0, .int (-1)])), (qo10, .inl (co2, 3001, .inl f_4)), (qo11, .inl (co3, 3001, .inl f_5)), (qo12, .inl (co4, 3001, .inl f_6))] := hD
  replace hK : va_K (dC, dI) vwCl [(co5, .int), (co6, .int), (co2, .int), (co3, .int), (co4, .int)] s := hK
  have hk0 := hw
  have hP9 := hP.sub (ws' := [(qo2, .inr (9, [.ref qo10, .ref qo11, .ref qo12, .int 1, .ref qo13, .ref qo14, .ref qo15, .ref qo16, .ref qo17, .int 32, .int 0, .int 0, .int (-1)])), (qo10, .inl (co2, 3001, .inl f_4)), (qo11, .inl (co3, 3001, .inl f_5))]) [2, 3, 4] rfl
  have hD9 := hD.sub (ws' := [(qo2, .inr (9, [.ref qo10, .ref qo11, .ref qo12, .int 1, .ref qo13, .ref qo14, .ref qo15, .ref qo16, .ref qo17, .int 32, .int 0, .int 0, .int (-1)])), (qo10, .inl (co2, 3001, .inl f_4)), (qo11, .inl (co3, 3001, .inl f_5))]) [2, 3, 4] (by decide) rfl
  have hK9 := hK.sub (tys' := [(co2, .int), (co3, .int)]) [2, 3] rfl
  exact W.vret hx hb hr (fun t ht hW => ⟨⟨(f_4, f_5), rfl, hk0, by rw [ht]; exact hP9, va_K.moved hW.alike hK9, hD9⟩, hS.F ht⟩) hS.2.2 dX9_scan_109
set_option maxHeartbeats 4000000 in
set_option maxRecDepth 100000 in
/-- kk_hforget -/
theorem kk_hforget (l : Launch) (dC : Nat → ClassId) (dI : Nat → Nat → Nat) (sz : Nat) (qo4 : Nat) (qo2 : Nat) (qo18 : Nat) (qo19 : Nat) (qo20 : Nat) (qo21 : Nat) (qo22 : Nat) (qo23 : Nat) (qo24 : Nat) (qo25 : Nat) (qo26 : Nat) (qo27 : Nat) (qo28 : Nat) (qo29 : Nat) (qo30 : Nat) (qo31 : Nat) (qo32 : Nat) (qo33 : Nat) (qo34 : Nat) (qo35 : Nat) (co8 : ClassId) (co9 : ClassId) (qo36 : Nat) (qo37 : Nat) (co12 : ClassId) (fo3 : (Nat → Int32)) (co13 : ClassId) (go1 : (Nat → Int32))  : Met l yX2_forget (.code yX2_forget cX2_forget 1 none :: VS_k1) ({ frames := 2, cells := 0, slots := 0, locals := 44 }) (va_Pc [.ref qo4] (fun U => U.heap.size = sz ∧ va_P (dC, dI) vwCl [(qo4, .inr (2, [.ref qo2, .ref qo18, .int 0, .ref qo19, .ref qo20, .ref qo21, .ref qo22, .ref qo23, .ref qo24, .ref qo25, .ref qo26, .ref qo27, .ref qo28, .ref qo29, .ref qo30, .ref qo31, .ref qo32, .ref qo33, .ref qo34, .ref qo35, .int 0])), (qo21, .inl (co8, 8, .inl (fun _ => 0))), (qo25, .inl (co9, 8, .inl (fun _ => 0))), (qo18, .inr (4, [.ref qo36, .ref qo37])), (qo36, .inl (co12, 16, .inl fo3)), (qo37, .inl (co13, 256, .inl go1))] U.heap ∧ va_K (dC, dI) vwCl [(co8, .int), (co9, .int), (co12, .int), (co13, .boolean)] U ∧ va_D (fun _ => True) [(qo4, .inr (2, [.ref qo2, .ref qo18, .int 0, .ref qo19, .ref qo20, .ref qo21, .ref qo22, .ref qo23, .ref qo24, .ref qo25, .ref qo26, .ref qo27, .ref qo28, .ref qo29, .ref qo30, .ref qo31, .ref qo32, .ref qo33, .ref qo34, .ref qo35, .int 0])), (qo21, .inl (co8, 8, .inl (fun _ => 0))), (qo25, .inl (co9, 8, .inl (fun _ => 0))), (qo18, .inr (4, [.ref qo36, .ref qo37])), (qo36, .inl (co12, 16, .inl fo3)), (qo37, .inl (co13, 256, .inl go1))])) (va_Qv (fun (u : Unit) => match u with | () => True) (fun (u : Unit) (t : State) => match u with | () => va_P (dC, dI) vwCl [(qo4, .inr (2, [.ref qo2, .ref qo18, .int 0, .ref qo19, .ref qo20, .ref qo21, .ref qo22, .ref qo23, .ref qo24, .ref qo25, .ref qo26, .ref qo27, .ref qo28, .ref qo29, .ref qo30, .ref qo31, .ref qo32, .ref qo33, .ref qo34, .ref qo35, .int 0]))] t.heap ∧ va_K (dC, dI) vwCl [] t ∧ va_D (va_A [(qo4, .inr (2, [.ref qo2, .ref qo18, .int 0, .ref qo19, .ref qo20, .ref qo21, .ref qo22, .ref qo23, .ref qo24, .ref qo25, .ref qo26, .ref qo27, .ref qo28, .ref qo29, .ref qo30, .ref qo31, .ref qo32, .ref qo33, .ref qo34, .ref qo35, .int 0])), (qo21, .inl (co8, 8, .inl (fun _ => 0))), (qo25, .inl (co9, 8, .inl (fun _ => 0))), (qo18, .inr (4, [.ref qo36, .ref qo37])), (qo36, .inl (co12, 16, .inl fo3)), (qo37, .inl (co13, 256, .inl go1))] sz) [(qo4, .inr (2, [.ref qo2, .ref qo18, .int 0, .ref qo19, .ref qo20, .ref qo21, .ref qo22, .ref qo23, .ref qo24, .ref qo25, .ref qo26, .ref qo27, .ref qo28, .ref qo29, .ref qo30, .ref qo31, .ref qo32, .ref qo33, .ref qo34, .ref qo35, .int 0]))]) (va_A [(qo4, .inr (2, [.ref qo2, .ref qo18, .int 0, .ref qo19, .ref qo20, .ref qo21, .ref qo22, .ref qo23, .ref qo24, .ref qo25, .ref qo26, .ref qo27, .ref qo28, .ref qo29, .ref qo30, .ref qo31, .ref qo32, .ref qo33, .ref qo34, .ref qo35, .int 0])), (qo21, .inl (co8, 8, .inl (fun _ => 0))), (qo25, .inl (co9, 8, .inl (fun _ => 0))), (qo18, .inr (4, [.ref qo36, .ref qo37])), (qo36, .inl (co12, 16, .inl fo3)), (qo37, .inl (co13, 256, .inl go1))] sz)) 0 0 (va_A [(qo4, .inr (2, [.ref qo2, .ref qo18, .int 0, .ref qo19, .ref qo20, .ref qo21, .ref qo22, .ref qo23, .ref qo24, .ref qo25, .ref qo26, .ref qo27, .ref qo28, .ref qo29, .ref qo30, .ref qo31, .ref qo32, .ref qo33, .ref qo34, .ref qo35, .int 0])), (qo21, .inl (co8, 8, .inl (fun _ => 0))), (qo25, .inl (co9, 8, .inl (fun _ => 0))), (qo18, .inr (4, [.ref qo36, .ref qo37])), (qo36, .inl (co12, 16, .inl fo3)), (qo37, .inl (co13, 256, .inl go1))] sz) := by
  refine Met.ofW (cc := cX2_forget) (maxL := 1) (ret := none) (by decide) rfl ?_
  intro p e s m args below meth c s₁ B hml hv
  obtain ⟨rfl, hsz, hP, hK, hD0⟩ := hv
  have hx := B.exec
  have hb := B.bytes
  have hr := B.returns
  have hts := atoms_spec (ws := (.code yX2_forget cX2_forget 1 none :: VS_k1)) B.pre
  replace hts := fun w (h : w ∈ VS_k1) => hts w (List.mem_cons_of_mem _ h)
  have hown : s.vm.findClass RX2 = some m.cls := findClass_of_methodNamed B.named
  have hlocks := B.notSynchronized
  subst hsz
  have hD := hD0.self (sz := s.heap.size)
  generalize hAe : va_A [(qo4, .inr (2, [.ref qo2, .ref qo18, .int 0, .ref qo19, .ref qo20, .ref qo21, .ref qo22, .ref qo23, .ref qo24, .ref qo25, .ref qo26, .ref qo27, .ref qo28, .ref qo29, .ref qo30, .ref qo31, .ref qo32, .ref qo33, .ref qo34, .ref qo35, .int 0])), (qo21, .inl (co8, 8, .inl (fun _ => 0))), (qo25, .inl (co9, 8, .inl (fun _ => 0))), (qo18, .inr (4, [.ref qo36, .ref qo37])), (qo36, .inl (co12, 16, .inl fo3)), (qo37, .inl (co13, 256, .inl go1))] s.heap.size = A at hD  ⊢
  have hA : ∀ q : Nat, s.heap.size ≤ q → A q := fun q h => by rw [← hAe]; exact Or.inr h
  have hP : va_P (dC, dI) vwCl [(qo4, .inr (2, [.ref qo2, .ref qo18, .int 0, .ref qo19, .ref qo20, .ref qo21, .ref qo22, .ref qo23, .ref qo24, .ref qo25, .ref qo26, .ref qo27, .ref qo28, .ref qo29, .ref qo30, .ref qo31, .ref qo32, .ref qo33, .ref qo34, .ref qo35, .int 0])), (qo21, .inl (co8, 8, .inl (fun _ => 0))), (qo25, .inl (co9, 8, .inl (fun _ => 0))), (qo18, .inr (4, [.ref qo36, .ref qo37])), (qo36, .inl (co12, 16, .inl fo3)), (qo37, .inl (co13, 256, .inl go1))] s.heap := hP
  have hl := lv_entry ([.ref qo4]) (n := 1) (Nat.le_of_ble_eq_true rfl)
  rw [lg_entry_eq]
  generalize (lg_sl ([.ref qo4]) ++ List.replicate (1 - (lg_sl ([.ref qo4])).length) Slot.unset).toArray = ls at hl ⊢
  have hl : lv_has ls 1 [(0, .ref qo4)] := hl
  obtain ⟨H, hH⟩ : ∃ H : Heap, s.heap = H := ⟨_, rfl⟩
  rw [hH] at hP ⊢
  have hS : va_S A s.heap H [] := by rw [← hH]; exact va_S.rf
  obtain ⟨locs, hlo⟩ : ∃ locs : List Loc, locs = [] := ⟨_, rfl⟩
  rw [← hlo] at hS ⊢
  refine lv_aload_n hx hb dX2_forget_0 rfl (lv_at hl 0 rfl) ?_
  refine lv_iconst (v := 0) hx hb dX2_forget_1 (by decide) ?_
  refine va_put (D := (dC, dI)) (ci := 2) (v := .int 0) (ty := .int) (C := RX2) (T := TX2) (N := 21) hx hb hts uV_k1_X2 tyX2 tyX2_ok nmX2 hown hK hP hD hS 0 rfl rfl 2 (by decide) (hts (.fieldLink RX2 78 "ClassMill$Heads" "classes" "I") mw_k1_181) (fun _ h9 => h9) rfl (by decide +kernel) rfl rfl (Nat.le_of_ble_eq_true rfl) dX2_forget_2 ?_
  clear hP hD hS
  intro H locs hP hD hS
  replace hP : va_P (dC, dI) vwCl [(qo4, .inr (2, [.ref qo2, .ref qo18, .int 0, .ref qo19, .ref qo20, .ref qo21, .ref qo22, .ref qo23, .ref qo24, .ref qo25, .ref qo26, .ref qo27, .ref qo28, .ref qo29, .ref qo30, .ref qo31, .ref qo32, .ref qo33, .ref qo34, .ref qo35, .int 0])), (qo21, .inl (co8, 8, .inl (fun _ => 0))), (qo25, .inl (co9, 8, .inl (fun _ => 0))), (qo18, .inr (4, [.ref qo36, .ref qo37])), (qo36, .inl (co12, 16, .inl fo3)), (qo37, .inl (co13, 256, .inl go1))] H := hP
  replace hD : va_D A [(qo4, .inr (2, [.ref qo2, .ref qo18, .int 0, .ref qo19, .ref qo20, .ref qo21, .ref qo22, .ref qo23, .ref qo24, .ref qo25, .ref qo26, .ref qo27, .ref qo28, .ref qo29, .ref qo30, .ref qo31, .ref qo32, .ref qo33, .ref qo34, .ref qo35, .int 0])), (qo21, .inl (co8, 8, .inl (fun _ => 0))), (qo25, .inl (co9, 8, .inl (fun _ => 0))), (qo18, .inr (4, [.ref qo36, .ref qo37])), (qo36, .inl (co12, 16, .inl fo3)), (qo37, .inl (co13, 256, .inl go1))] := hD
  refine lv_aload_n hx hb dX2_forget_5 rfl (lv_at hl 0 rfl) ?_
  refine va_get (D := (dC, dI)) (ci := 2) (v := .ref qo21) (C := RX2) (T := TX2) (N := 21) hx hb hts uV_k1_X2 hown hK hP 0 rfl rfl 5 (by decide) (hts (.fieldLink RX2 27 "ClassMill$Heads" "fields" "[I") mw_k1_182) (fun _ h9 => h9) rfl dX2_forget_6 ?_
  refine lv_iconst (v := 0) hx hb dX2_forget_9 (by decide) ?_
  have hPc := hP.sub (ws' := [(qo21, .inl (co8, 8, .inl (fun _ => 0)))]) [1] rfl
  have hDc := hD.sub (ws' := [(qo21, .inl (co8, 8, .inl (fun _ => 0)))]) [1] (by decide) rfl
  have hKc := hK.sub (tys' := [(co8, .int)]) [0] rfl
  have hFc := va_free (wc := [(qo21, .inl (co8, 8, .inl (fun _ => 0)))]) hD hS hA [1] rfl
  refine va_callv (va_runS (As := [.ref qo21, .int 0]) (rest := []) ⟨hx, hb, hml, hown, hts⟩ (ct_fill l dC dI H.size qo21 8 co8 ((fun _ => 0)) 0 (by decide)) (va_cwS 2 hts gv_k1_38 rfl rfl rfl (by decide +kernel) ⟨Nat.le_of_ble_eq_true rfl, Nat.le_of_ble_eq_true rfl⟩) ⟨fun a U g mk q => by obtain ⟨q0, q1, qP, qK, qD⟩ := q; exact ⟨q0, q1, qP, va_K.moved (u := U) (U := U.calling g mk a) (Vm.Alike.refl U.vm) qK, qD⟩, fun U hU hW => ⟨rfl, by rw [hU], by rw [hU]; exact hPc, va_K.moved hW.alike hKc, hDc.weaken (fun _ _ _ _ => trivial)⟩⟩ rfl rfl hl.1 rfl (lv_room (Nat.le_of_ble_eq_true rfl)) dX2_forget_10 ⟨Nat.le_of_ble_eq_true rfl, Nat.le_of_ble_eq_true rfl⟩) hS (fun q _ h => hFc q h) hFc ?_
  clear hS
  intro u t H1 locs ht hvm hw hB hz1 hk1 hS
  obtain ⟨f_1, rfl⟩ : ∃ z, z = u := ⟨_, rfl⟩
  obtain ⟨hP1, hK1, hD1⟩ := hB
  rw [ht] at hP1
  have hK1 := va_K.moved hvm.symm hK1
  try dsimp only at hw
  have hPD := va_join (wr := [(qo4, .inr (2, [.ref qo2, .ref qo18, .int 0, .ref qo19, .ref qo20, .ref qo21, .ref qo22, .ref qo23, .ref qo24, .ref qo25, .ref qo26, .ref qo27, .ref qo28, .ref qo29, .ref qo30, .ref qo31, .ref qo32, .ref qo33, .ref qo34, .ref qo35, .int 0])), (qo25, .inl (co9, 8, .inl (fun _ => 0))), (qo18, .inr (4, [.ref qo36, .ref qo37])), (qo36, .inl (co12, 16, .inl fo3)), (qo37, .inl (co13, 256, .inl go1))]) (w1 := [(qo21, .inl (co8, 8, .inl f_1))]) hP hD [1] [0, 2, 3, 4, 5] rfl rfl (by decide) (by decide) hk1 hFc hP1 hD1
  clear hP hD
  obtain ⟨hP, hD⟩ := hPD
  replace hK := (hK.sub (tys' := [(co9, .int), (co12, .int), (co13, .boolean)]) [1, 2, 3] rfl).app hK1
  clear hPc hDc hKc hFc hP1 hK1 hD1 hz1 hk1 ht hvm
  generalize H1 = H at hP hS ⊢
  replace hP : va_P (dC, dI) vwCl [(qo4, .inr (2, [.ref qo2, .ref qo18, .int 0, .ref qo19, .ref qo20, .ref qo21, .ref qo22, .ref qo23, .ref qo24, .ref qo25, .ref qo26, .ref qo27, .ref qo28, .ref qo29, .ref qo30, .ref qo31, .ref qo32, .ref qo33, .ref qo34, .ref qo35, .int 0])), (qo25, .inl (co9, 8, .inl (fun _ => 0))), (qo18, .inr (4, [.ref qo36, .ref qo37])), (qo36, .inl (co12, 16, .inl fo3)), (qo37, .inl (co13, 256, .inl go1)), (qo21, .inl (co8, 8, .inl f_1))] H := hP
  replace hD : va_D A [(qo4, .inr (2, [.ref qo2, .ref qo18, .int 0, .ref qo19, .ref qo20, .ref qo21, .ref qo22, .ref qo23, .ref qo24, .ref qo25, .ref qo26, .ref qo27, .ref qo28, .ref qo29, .ref qo30, .ref qo31, .ref qo32, .ref qo33, .ref qo34, .ref qo35, .int 0])), (qo25, .inl (co9, 8, .inl (fun _ => 0))), (qo18, .inr (4, [.ref qo36, .ref qo37])), (qo36, .inl (co12, 16, .inl fo3)), (qo37, .inl (co13, 256, .inl go1)), (qo21, .inl (co8, 8, .inl f_1))] := hD
  replace hK : va_K (dC, dI) vwCl [(co9, .int), (co12, .int), (co13, .boolean), (co8, .int)] s := hK
  refine lv_aload_n hx hb dX2_forget_13 rfl (lv_at hl 0 rfl) ?_
  refine va_get (D := (dC, dI)) (ci := 2) (v := .ref qo25) (C := RX2) (T := TX2) (N := 21) hx hb hts uV_k1_X2 hown hK hP 0 rfl rfl 9 (by decide) (hts (.fieldLink RX2 39 "ClassMill$Heads" "methods" "[I") mw_k1_183) (fun _ h9 => h9) rfl dX2_forget_14 ?_
  refine lv_iconst (v := 0) hx hb dX2_forget_17 (by decide) ?_
  have hPc := hP.sub (ws' := [(qo25, .inl (co9, 8, .inl (fun _ => 0)))]) [1] rfl
  have hDc := hD.sub (ws' := [(qo25, .inl (co9, 8, .inl (fun _ => 0)))]) [1] (by decide) rfl
  have hKc := hK.sub (tys' := [(co9, .int)]) [0] rfl
  have hFc := va_free (wc := [(qo25, .inl (co9, 8, .inl (fun _ => 0)))]) hD hS hA [1] rfl
  refine va_callv (va_runS (As := [.ref qo25, .int 0]) (rest := []) ⟨hx, hb, hml, hown, hts⟩ (ct_fill l dC dI H.size qo25 8 co9 ((fun _ => 0)) 0 (by decide)) (va_cwS 2 hts gv_k1_38 rfl rfl rfl (by decide +kernel) ⟨Nat.le_of_ble_eq_true rfl, Nat.le_of_ble_eq_true rfl⟩) ⟨fun a U g mk q => by obtain ⟨q0, q1, qP, qK, qD⟩ := q; exact ⟨q0, q1, qP, va_K.moved (u := U) (U := U.calling g mk a) (Vm.Alike.refl U.vm) qK, qD⟩, fun U hU hW => ⟨rfl, by rw [hU], by rw [hU]; exact hPc, va_K.moved hW.alike hKc, hDc.weaken (fun _ _ _ _ => trivial)⟩⟩ rfl rfl hl.1 rfl (lv_room (Nat.le_of_ble_eq_true rfl)) dX2_forget_18 ⟨Nat.le_of_ble_eq_true rfl, Nat.le_of_ble_eq_true rfl⟩) hS (fun q _ h => hFc q h) hFc ?_
  clear hS
  intro u t H1 locs ht hvm hw hB hz1 hk1 hS
  obtain ⟨f_2, rfl⟩ : ∃ z, z = u := ⟨_, rfl⟩
  obtain ⟨hP1, hK1, hD1⟩ := hB
  rw [ht] at hP1
  have hK1 := va_K.moved hvm.symm hK1
  try dsimp only at hw
  have hPD := va_join (wr := [(qo4, .inr (2, [.ref qo2, .ref qo18, .int 0, .ref qo19, .ref qo20, .ref qo21, .ref qo22, .ref qo23, .ref qo24, .ref qo25, .ref qo26, .ref qo27, .ref qo28, .ref qo29, .ref qo30, .ref qo31, .ref qo32, .ref qo33, .ref qo34, .ref qo35, .int 0])), (qo18, .inr (4, [.ref qo36, .ref qo37])), (qo36, .inl (co12, 16, .inl fo3)), (qo37, .inl (co13, 256, .inl go1)), (qo21, .inl (co8, 8, .inl f_1))]) (w1 := [(qo25, .inl (co9, 8, .inl f_2))]) hP hD [1] [0, 2, 3, 4, 5] rfl rfl (by decide) (by decide) hk1 hFc hP1 hD1
  clear hP hD
  obtain ⟨hP, hD⟩ := hPD
  replace hK := (hK.sub (tys' := [(co12, .int), (co13, .boolean), (co8, .int)]) [1, 2, 3] rfl).app hK1
  clear hPc hDc hKc hFc hP1 hK1 hD1 hz1 hk1 ht hvm
  generalize H1 = H at hP hS ⊢
  replace hP : va_P (dC, dI) vwCl [(qo4, .inr (2, [.ref qo2, .ref qo18, .int 0, .ref qo19, .ref qo20, .ref qo21, .ref qo22, .ref qo23, .ref qo24, .ref qo25, .ref qo26, .ref qo27, .ref qo28, .ref qo29, .ref qo30, .ref qo31, .ref qo32, .ref qo33, .ref qo34, .ref qo35, .int 0])), (qo18, .inr (4, [.ref qo36, .ref qo37])), (qo36, .inl (co12, 16, .inl fo3)), (qo37, .inl (co13, 256, .inl go1)), (qo21, .inl (co8, 8, .inl f_1)), (qo25, .inl (co9, 8, .inl f_2))] H := hP
  replace hD : va_D A [(qo4, .inr (2, [.ref qo2, .ref qo18, .int 0, .ref qo19, .ref qo20, .ref qo21, .ref qo22, .ref qo23, .ref qo24, .ref qo25, .ref qo26, .ref qo27, .ref qo28, .ref qo29, .ref qo30, .ref qo31, .ref qo32, .ref qo33, .ref qo34, .ref qo35, .int 0])), (qo18, .inr (4, [.ref qo36, .ref qo37])), (qo36, .inl (co12, 16, .inl fo3)), (qo37, .inl (co13, 256, .inl go1)), (qo21, .inl (co8, 8, .inl f_1)), (qo25, .inl (co9, 8, .inl f_2))] := hD
  replace hK : va_K (dC, dI) vwCl [(co12, .int), (co13, .boolean), (co8, .int), (co9, .int)] s := hK
  refine lv_aload_n hx hb dX2_forget_21 rfl (lv_at hl 0 rfl) ?_
  refine va_get (D := (dC, dI)) (ci := 2) (v := .ref qo18) (C := RX2) (T := TX2) (N := 21) hx hb hts uV_k1_X2 hown hK hP 0 rfl rfl 1 (by decide) (hts (.fieldLink RX2 14 "ClassMill$Heads" "kin" "LClassMill$Kin;") mw_k1_184) (fun _ h9 => h9) rfl dX2_forget_22 ?_
  have hPc := hP.sub (ws' := [(qo18, .inr (4, [.ref qo36, .ref qo37])), (qo36, .inl (co12, 16, .inl fo3)), (qo37, .inl (co13, 256, .inl go1))]) [1, 2, 3] rfl
  have hDc := hD.sub (ws' := [(qo18, .inr (4, [.ref qo36, .ref qo37])), (qo36, .inl (co12, 16, .inl fo3)), (qo37, .inl (co13, 256, .inl go1))]) [1, 2, 3] (by decide) rfl
  have hKc := hK.sub (tys' := [(co12, .int), (co13, .boolean)]) [0, 1] rfl
  have hFc := va_free (wc := [(qo18, .inr (4, [.ref qo36, .ref qo37])), (qo36, .inl (co12, 16, .inl fo3)), (qo37, .inl (co13, 256, .inl go1))]) hD hS hA [1, 2, 3] rfl
  refine va_callv (va_runV (As := []) (rest := []) ⟨hx, hb, hml, hown, hts⟩ (ct_kforget l dC dI H.size qo18 qo36 qo37 co12 co13 fo3 go1) (cwV 0 hts gv_k1_39 rfl rfl rfl (by decide +kernel) ⟨Nat.le_of_ble_eq_true rfl, Nat.le_of_ble_eq_true rfl⟩) ⟨fun a U g mk q => by obtain ⟨q0, q1, qP, qK, qD⟩ := q; exact ⟨q0, q1, qP, va_K.moved (u := U) (U := U.calling g mk a) (Vm.Alike.refl U.vm) qK, qD⟩, va_recv hKc hPc (ci := 4) (q0 := 0) rfl rfl, fun U hU hW => ⟨rfl, by rw [hU], by rw [hU]; exact hPc, va_K.moved hW.alike hKc, hDc.weaken (fun _ _ _ _ => trivial)⟩⟩ rfl rfl hl.1 rfl (lv_room (Nat.le_of_ble_eq_true rfl)) dX2_forget_25 ⟨Nat.le_of_ble_eq_true rfl, Nat.le_of_ble_eq_true rfl⟩) hS (fun q _ h => hFc q h) hFc ?_
  clear hS
  intro u t H1 locs ht hvm hw hB hz1 hk1 hS
  obtain ⟨f_3, g_4⟩ := u
  obtain ⟨hP1, hK1, hD1⟩ := hB
  rw [ht] at hP1
  have hK1 := va_K.moved hvm.symm hK1
  try dsimp only at hw
  have hPD := va_join (wr := [(qo4, .inr (2, [.ref qo2, .ref qo18, .int 0, .ref qo19, .ref qo20, .ref qo21, .ref qo22, .ref qo23, .ref qo24, .ref qo25, .ref qo26, .ref qo27, .ref qo28, .ref qo29, .ref qo30, .ref qo31, .ref qo32, .ref qo33, .ref qo34, .ref qo35, .int 0])), (qo21, .inl (co8, 8, .inl f_1)), (qo25, .inl (co9, 8, .inl f_2))]) (w1 := [(qo18, .inr (4, [.ref qo36, .ref qo37])), (qo36, .inl (co12, 16, .inl f_3)), (qo37, .inl (co13, 256, .inl g_4))]) hP hD [1, 2, 3] [0, 4, 5] rfl rfl (by decide) (by decide) hk1 hFc hP1 hD1
  clear hP hD
  obtain ⟨hP, hD⟩ := hPD
  replace hK := (hK.sub (tys' := [(co8, .int), (co9, .int)]) [2, 3] rfl).app hK1
  clear hPc hDc hKc hFc hP1 hK1 hD1 hz1 hk1 ht hvm
  generalize H1 = H at hP hS ⊢
  replace hP : va_P (dC, dI) vwCl [(qo4, .inr (2, [.ref qo2, .ref qo18, .int 0, .ref qo19, .ref qo20, .ref qo21, .ref qo22, .ref qo23, .ref qo24, .ref qo25, .ref qo26, .ref qo27, .ref qo28, .ref qo29, .ref qo30, .ref qo31, .ref qo32, .ref qo33, .ref qo34, .ref qo35, .int 0])), (qo21, .inl (co8, 8, .inl f_1)), (qo25, .inl (co9, 8, .inl f_2)), (qo18, .inr (4, [.ref qo36, .ref qo37])), (qo36, .inl (co12, 16, .inl f_3)), (qo37, .inl (co13, 256, .inl g_4))] H := hP
  replace hD : va_D A [(qo4, .inr (2, [.ref qo2, .ref qo18, .int 0, .ref qo19, .ref qo20, .ref qo21, .ref qo22, .ref qo23, .ref qo24, .ref qo25, .ref qo26, .ref qo27, .ref qo28, .ref qo29, .ref qo30, .ref qo31, .ref qo32, .ref qo33, .ref qo34, .ref qo35, .int 0])), (qo21, .inl (co8, 8, .inl f_1)), (qo25, .inl (co9, 8, .inl f_2)), (qo18, .inr (4, [.ref qo36, .ref qo37])), (qo36, .inl (co12, 16, .inl f_3)), (qo37, .inl (co13, 256, .inl g_4))] := hD
  replace hK : va_K (dC, dI) vwCl [(co8, .int), (co9, .int), (co12, .int), (co13, .boolean)] s := hK
  have hP9 := hP.sub (ws' := [(qo4, .inr (2, [.ref qo2, .ref qo18, .int 0, .ref qo19, .ref qo20, .ref qo21, .ref qo22, .ref qo23, .ref qo24, .ref qo25, .ref qo26, .ref qo27, .ref qo28, .ref qo29, .ref qo30, .ref qo31, .ref qo32, .ref qo33, .ref qo34, .ref qo35, .int 0]))]) [0] rfl
  have hD9 := hD.sub (ws' := [(qo4, .inr (2, [.ref qo2, .ref qo18, .int 0, .ref qo19, .ref qo20, .ref qo21, .ref qo22, .ref qo23, .ref qo24, .ref qo25, .ref qo26, .ref qo27, .ref qo28, .ref qo29, .ref qo30, .ref qo31, .ref qo32, .ref qo33, .ref qo34, .ref qo35, .int 0]))]) [0] (by decide) rfl
  have hK9 := hK.sub (tys' := []) [] rfl
  exact W.vret hx hb hr (fun t ht hW => ⟨⟨(), rfl, trivial, by rw [ht]; exact hP9, va_K.moved hW.alike hK9, hD9⟩, hS.F ht⟩) hS.2.2 dX2_forget_28

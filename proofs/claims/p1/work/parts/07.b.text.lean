set_option maxHeartbeats 4000000 in
set_option maxRecDepth 100000 in
/-- Text.bucketOf: one of 64 -/
theorem ct_bucket (l : Launch) (dC : Nat → ClassId) (dI : Nat → Nat → Nat) (sz : Nat) (ql a b : Nat) (cl : ClassId) (f : Nat → Int32) (ha : a < 6400) (hb1 : 1 ≤ a + b) (hb2 : a + b ≤ 6400) : Met l yX9_bucketOf wsX9_bucketOf ({ frames := 0, cells := 0, slots := 0, locals := 0 }) (va_Pc [.ref ql, .int (nI a), .int (nI b)] (fun U => U.heap.size = sz ∧ va_P (dC, dI) vwCl [(ql, .inl (cl, 6400, .inl f))] U.heap ∧ va_K (dC, dI) vwCl [(cl, .byte)] U ∧ va_D (fun _ => True) [(ql, .inl (cl, 6400, .inl f))])) (va_Qi (fun (r : Int32) (u : Unit) => match u with | () => ∃ j : Nat, j < 64 ∧ r = nI j) (fun (u : Unit) (t : State) => match u with | () => va_P (dC, dI) vwCl [(ql, .inl (cl, 6400, .inl f))] t.heap ∧ va_K (dC, dI) vwCl [(cl, .byte)] t ∧ va_D (va_A [(ql, .inl (cl, 6400, .inl f))] sz) [(ql, .inl (cl, 6400, .inl f))]) (va_A [(ql, .inl (cl, 6400, .inl f))] sz)) 0 0 (va_A [(ql, .inl (cl, 6400, .inl f))] sz) := by
  refine Met.ofW (cc := cX9_bucketOf) (maxL := 3) (ret := (some .int)) (by decide) rfl ?_
  intro p e s m args below meth c s₁ B hml hv
  obtain ⟨rfl, hsz, hP, hK, hD0⟩ := hv
  have hx := B.exec
  have hb := B.bytes
  have hr := B.returns
  have hts := atoms_spec (ws := wsX9_bucketOf) B.pre
  have hown : s.vm.findClass RX9 = some m.cls := findClass_of_methodNamed B.named
  have hlocks := B.notSynchronized
  subst hsz
  have hD := hD0.self (sz := s.heap.size)
  generalize hAe : va_A [(ql, .inl (cl, 6400, .inl f))] s.heap.size = A at hD  ⊢
  have hA : ∀ q : Nat, s.heap.size ≤ q → A q := fun q h => by rw [← hAe]; exact Or.inr h
  have hP : va_P (dC, dI) vwCl [(ql, .inl (cl, 6400, .inl f))] s.heap := hP
  have hl := lv_entry ([.ref ql, .int (nI a), .int (nI b)]) (n := 3) (Nat.le_of_ble_eq_true rfl)
  rw [lg_entry_eq]
  generalize (lg_sl ([.ref ql, .int (nI a), .int (nI b)]) ++ List.replicate (3 - (lg_sl ([.ref ql, .int (nI a), .int (nI b)])).length) Slot.unset).toArray = ls at hl ⊢
  have hl : lv_has ls 3 [(0, .ref ql), (1, .int (nI a)), (2, .int (nI b))] := hl
  obtain ⟨H, hH⟩ : ∃ H : Heap, s.heap = H := ⟨_, rfl⟩
  rw [hH] at hP ⊢
  have hS : va_S A s.heap H [] := by rw [← hH]; exact va_S.rf
  obtain ⟨locs, hlo⟩ : ∃ locs : List Loc, locs = [] := ⟨_, rfl⟩
  rw [← hlo] at hS ⊢
  refine lv_aload_n hx hb dX9_bucketOf_0 rfl (lv_at hl 0 rfl) ?_
  refine lv_iload_n hx hb dX9_bucketOf_1 rfl (lv_at hl 1 rfl) ?_
  refine va_bald hx hb hK hP 0 0 rfl rfl (i := (nI a)) (vp_in_nI ha (by decide)) dX9_bucketOf_2 ?_
  refine lv_topi (fun y_1 ey_1 => ?_)
  refine lv_iconst (v := 5) hx hb dX9_bucketOf_3 (by decide) ?_
  refine lv_imul hx hb dX9_bucketOf_4 ?_
  refine lv_topi (fun y_2 ey_2 => ?_)
  refine lv_aload_n hx hb dX9_bucketOf_5 rfl (lv_at hl 0 rfl) ?_
  refine lv_iload_n hx hb dX9_bucketOf_6 rfl (lv_at hl 1 rfl) ?_
  refine lv_iload_n hx hb dX9_bucketOf_7 rfl (lv_at hl 2 rfl) ?_
  refine lv_iadd hx hb dX9_bucketOf_8 ?_
  refine lv_topi (fun y_3 ey_3 => ?_)
  refine lv_iconst (v := 1) hx hb dX9_bucketOf_9 (by decide) ?_
  have hy : y_3 = nI (a + b) := by rw [ey_3, nI_add]
  refine lv_isub hx hb dX9_bucketOf_10 ?_
  refine lv_topi (fun y_4 ey_4 => ?_)
  have hy2 : y_4 = nI (a + b - 1) := by rw [ey_4, hy, show a + b = (a + b - 1) + 1 by omega, nI_pred, show a + b - 1 + 1 - 1 = a + b - 1 by omega]
  refine va_bald hx hb hK hP 0 0 rfl rfl (i := y_4) (by rw [hy2]; exact vp_in_nI (by omega) (by decide)) dX9_bucketOf_11 ?_
  refine lv_topi (fun y_5 ey_5 => ?_)
  refine lv_iconst (v := 3) hx hb dX9_bucketOf_12 (by decide) ?_
  refine lv_imul hx hb dX9_bucketOf_13 ?_
  refine lv_topi (fun y_6 ey_6 => ?_)
  refine lv_iadd hx hb dX9_bucketOf_14 ?_
  refine lv_topi (fun y_7 ey_7 => ?_)
  refine lv_iload_n hx hb dX9_bucketOf_15 rfl (lv_at hl 2 rfl) ?_
  refine lv_iadd hx hb dX9_bucketOf_16 ?_
  refine lv_topi (fun y_8 ey_8 => ?_)
  refine lv_bipush (v := 63) hx hb dX9_bucketOf_17 (by decide) ?_
  refine lv_iand hx hb dX9_bucketOf_19 ?_
  refine lv_topi (fun y_9 ey_9 => ?_)
  obtain ⟨j, hj, ej⟩ : ∃ j : Nat, j < 64 ∧ y_9 = nI j := by rw [ey_9]; exact pk_andE _ 6 rfl
  have hP9 := hP.sub (ws' := [(ql, .inl (cl, 6400, .inl f))]) [0] rfl
  have hD9 := hD.sub (ws' := [(ql, .inl (cl, 6400, .inl f))]) [0] (by decide) rfl
  have hK9 := hK.sub (tys' := [(cl, .byte)]) [0] rfl
  exact W.iret hx hb hr (fun t ht hW => ⟨⟨y_9, (), rfl, ⟨j, hj, ej⟩, by rw [ht]; exact hP9, va_K.moved hW.alike hK9, hD9⟩, hS.F ht⟩) hS.2.2 dX9_bucketOf_20
set_option maxHeartbeats 4000000 in
set_option maxRecDepth 100000 in
/-- Text.closeName: one name more, it ends at ee -/
theorem ct_close (l : Launch) (dC : Nat → ClassId) (dI : Nat → Nat → Nat) (sz : Nat) (h0 qki qpl qva qle qna qsb qbu qkb : Nat) (yc yp yf yl : Int32) (k a ee : Nat) (cle cna csb cbu : ClassId) (fle fna fsb fbu : Nat → Int32) (hk : k < 1740) (hae : a ≤ ee) (ha : a < 6400) (he1 : 1 ≤ ee) (he2 : ee ≤ 6400) (hfa : fna k = nI a) : Met l yX9_closeName wsX9_closeName ({ frames := 1, cells := 0, slots := 0, locals := 22 }) (va_Pc [.ref h0, .int (nI ee)] (fun U => U.heap.size = sz ∧ va_P (dC, dI) vwCl [(h0, .inr (9, [.ref qki, .ref qpl, .ref qva, .int yc, .ref qle, .ref qna, .ref qsb, .ref qbu, .ref qkb, .int (nI k), .int yp, .int yf, .int yl])), (qle, .inl (cle, 6400, .inl fle)), (qna, .inl (cna, 1741, .inl fna)), (qsb, .inl (csb, 1740, .inl fsb)), (qbu, .inl (cbu, 64, .inl fbu))] U.heap ∧ va_K (dC, dI) vwCl [(cle, .byte), (cna, .int), (csb, .int), (cbu, .int)] U ∧ va_D (fun _ => True) [(h0, .inr (9, [.ref qki, .ref qpl, .ref qva, .int yc, .ref qle, .ref qna, .ref qsb, .ref qbu, .ref qkb, .int (nI k), .int yp, .int yf, .int yl])), (qle, .inl (cle, 6400, .inl fle)), (qna, .inl (cna, 1741, .inl fna)), (qsb, .inl (csb, 1740, .inl fsb)), (qbu, .inl (cbu, 64, .inl fbu))])) (va_Qv (fun (u : (Nat → Int32) × (Nat → Int32) × (Nat → Int32)) => match u with | (fo1, fo2, fo3) => fo1 (k + 1) = nI ee) (fun (u : (Nat → Int32) × (Nat → Int32) × (Nat → Int32)) (t : State) => match u with | (fo1, fo2, fo3) => va_P (dC, dI) vwCl [(h0, .inr (9, [.ref qki, .ref qpl, .ref qva, .int yc, .ref qle, .ref qna, .ref qsb, .ref qbu, .ref qkb, .int (nI (k + 1)), .int yp, .int yf, .int yl])), (qle, .inl (cle, 6400, .inl fle)), (qna, .inl (cna, 1741, .inl fo1)), (qsb, .inl (csb, 1740, .inl fo2)), (qbu, .inl (cbu, 64, .inl fo3))] t.heap ∧ va_K (dC, dI) vwCl [(cle, .byte), (cna, .int), (csb, .int), (cbu, .int)] t ∧ va_D (va_A [(h0, .inr (9, [.ref qki, .ref qpl, .ref qva, .int yc, .ref qle, .ref qna, .ref qsb, .ref qbu, .ref qkb, .int (nI k), .int yp, .int yf, .int yl])), (qle, .inl (cle, 6400, .inl fle)), (qna, .inl (cna, 1741, .inl fna)), (qsb, .inl (csb, 1740, .inl fsb)), (qbu, .inl (cbu, 64, .inl fbu))] sz) [(h0, .inr (9, [.ref qki, .ref qpl, .ref qva, .int yc, .ref qle, .ref qna, .ref qsb, .ref qbu, .ref qkb, .int (nI (k + 1)), .int yp, .int yf, .int yl])), (qle, .inl (cle, 6400, .inl fle)), (qna, .inl (cna, 1741, .inl fo1)), (qsb, .inl (csb, 1740, .inl fo2)), (qbu, .inl (cbu, 64, .inl fo3))]) (va_A [(h0, .inr (9, [.ref qki, .ref qpl, .ref qva, .int yc, .ref qle, .ref qna, .ref qsb, .ref qbu, .ref qkb, .int (nI k), .int yp, .int yf, .int yl])), (qle, .inl (cle, 6400, .inl fle)), (qna, .inl (cna, 1741, .inl fna)), (qsb, .inl (csb, 1740, .inl fsb)), (qbu, .inl (cbu, 64, .inl fbu))] sz)) 0 0 (va_A [(h0, .inr (9, [.ref qki, .ref qpl, .ref qva, .int yc, .ref qle, .ref qna, .ref qsb, .ref qbu, .ref qkb, .int (nI k), .int yp, .int yf, .int yl])), (qle, .inl (cle, 6400, .inl fle)), (qna, .inl (cna, 1741, .inl fna)), (qsb, .inl (csb, 1740, .inl fsb)), (qbu, .inl (cbu, 64, .inl fbu))] sz) := by
  refine Met.ofW (cc := cX9_closeName) (maxL := 4) (ret := none) (by decide) rfl ?_
  intro p e s m args below meth c s₁ B hml hv
  obtain ⟨rfl, hsz, hP, hK, hD0⟩ := hv
  have hx := B.exec
  have hb := B.bytes
  have hr := B.returns
  have hts := atoms_spec (ws := wsX9_closeName) B.pre
  have hown : s.vm.findClass RX9 = some m.cls := findClass_of_methodNamed B.named
  have hlocks := B.notSynchronized
  subst hsz
  have hD := hD0.self (sz := s.heap.size)
  generalize hAe : va_A [(h0, .inr (9, [.ref qki, .ref qpl, .ref qva, .int yc, .ref qle, .ref qna, .ref qsb, .ref qbu, .ref qkb, .int (nI k), .int yp, .int yf, .int yl])), (qle, .inl (cle, 6400, .inl fle)), (qna, .inl (cna, 1741, .inl fna)), (qsb, .inl (csb, 1740, .inl fsb)), (qbu, .inl (cbu, 64, .inl fbu))] s.heap.size = A at hD  ⊢
  have hA : ∀ q : Nat, s.heap.size ≤ q → A q := fun q h => by rw [← hAe]; exact Or.inr h
  have hP : va_P (dC, dI) vwCl [(h0, .inr (9, [.ref qki, .ref qpl, .ref qva, .int yc, .ref qle, .ref qna, .ref qsb, .ref qbu, .ref qkb, .int (nI k), .int yp, .int yf, .int yl])), (qle, .inl (cle, 6400, .inl fle)), (qna, .inl (cna, 1741, .inl fna)), (qsb, .inl (csb, 1740, .inl fsb)), (qbu, .inl (cbu, 64, .inl fbu))] s.heap := hP
  have hl := lv_entry ([.ref h0, .int (nI ee)]) (n := 4) (Nat.le_of_ble_eq_true rfl)
  rw [lg_entry_eq]
  generalize (lg_sl ([.ref h0, .int (nI ee)]) ++ List.replicate (4 - (lg_sl ([.ref h0, .int (nI ee)])).length) Slot.unset).toArray = ls at hl ⊢
  have hl : lv_has ls 4 [(0, .ref h0), (1, .int (nI ee))] := hl
  obtain ⟨H, hH⟩ : ∃ H : Heap, s.heap = H := ⟨_, rfl⟩
  rw [hH] at hP ⊢
  have hS : va_S A s.heap H [] := by rw [← hH]; exact va_S.rf
  obtain ⟨locs, hlo⟩ : ∃ locs : List Loc, locs = [] := ⟨_, rfl⟩
  rw [← hlo] at hS ⊢
  refine lv_aload_n hx hb dX9_closeName_0 rfl (lv_at hl 0 rfl) ?_
  refine va_get (D := (dC, dI)) (ci := 9) (v := .ref qna) (C := RX9) (T := TX9) (N := 13) hx hb hts uX9_closeName_X9 hown hK hP 0 rfl rfl 5 (by decide) (hts (.fieldLink RX9 29 "ClassMill$Text" "nameAt" "[I") (by decide +kernel)) (fun _ h9 => h9) rfl dX9_closeName_1 ?_
  refine lv_aload_n hx hb dX9_closeName_4 rfl (lv_at hl 0 rfl) ?_
  refine va_get (D := (dC, dI)) (ci := 9) (v := .int (nI k)) (C := RX9) (T := TX9) (N := 13) hx hb hts uX9_closeName_X9 hown hK hP 0 rfl rfl 9 (by decide) (hts (.fieldLink RX9 73 "ClassMill$Text" "names" "I") (by decide +kernel)) (fun _ h9 => h9) rfl dX9_closeName_5 ?_
  refine va_iald hx hb hK hP 2 1 rfl rfl (i := (nI k)) (vp_in_nI (by omega) (by decide)) dX9_closeName_8 ?_
  refine lv_topi (fun y_1 ey_1 => ?_)
  obtain rfl : y_1 = nI a := by rw [ey_1, nI_clamp (by omega)]; exact hfa
  refine lv_istore_n (lv' := [(2, .int (nI a)), (0, .ref h0), (1, .int (nI ee))]) hx hb dX9_closeName_9 rfl hl (by decide) rfl (fun ls hl => ?_)
  refine lv_aload_n hx hb dX9_closeName_10 rfl (lv_at hl 1 rfl) ?_
  refine va_get (D := (dC, dI)) (ci := 9) (v := .ref qle) (C := RX9) (T := TX9) (N := 13) hx hb hts uX9_closeName_X9 hown hK hP 0 rfl rfl 4 (by decide) (hts (.fieldLink RX9 25 "ClassMill$Text" "letters" "[B") (by decide +kernel)) (fun _ h9 => h9) rfl dX9_closeName_11 ?_
  refine lv_iload_n hx hb dX9_closeName_14 rfl (lv_at hl 0 rfl) ?_
  refine lv_iload_n hx hb dX9_closeName_15 rfl (lv_at hl 2 rfl) ?_
  refine lv_iload_n hx hb dX9_closeName_16 rfl (lv_at hl 0 rfl) ?_
  refine lv_isub hx hb dX9_closeName_17 ?_
  refine lv_topi (fun y_2 ey_2 => ?_)
  obtain rfl : y_2 = nI (ee - a) := by rw [ey_2, pk_sub hae]
  have hPc := hP.sub (ws' := [(qle, .inl (cle, 6400, .inl fle))]) [1] rfl
  have hDc := hD.sub (ws' := [(qle, .inl (cle, 6400, .inl fle))]) [1] (by decide) rfl
  have hKc := hK.sub (tys' := [(cle, .byte)]) [0] rfl
  have hFc := va_free (wc := [(qle, .inl (cle, 6400, .inl fle))]) hD hS hA [1] rfl
  refine va_calli (va_runS (As := [.ref qle, .int (nI a), .int (nI (ee - a))]) (rest := []) ⟨hx, hb, hml, hown, hts⟩ (ct_bucket l dC dI H.size qle a (ee - a) cle fle ha (by omega) (by omega)) (va_cwS 3 hts gX9_closeName_X9_bucketOf rfl rfl rfl (by decide +kernel) ⟨Nat.le_of_ble_eq_true rfl, Nat.le_of_ble_eq_true rfl⟩) ⟨fun a U g mk q => by obtain ⟨q0, q1, qP, qK, qD⟩ := q; exact ⟨q0, q1, qP, va_K.moved (u := U) (U := U.calling g mk a) (Vm.Alike.refl U.vm) qK, qD⟩, fun U hU hW => ⟨rfl, by rw [hU], by rw [hU]; exact hPc, va_K.moved hW.alike hKc, hDc.weaken (fun _ _ _ _ => trivial)⟩⟩ rfl rfl hl.1 rfl (lv_room (Nat.le_of_ble_eq_true rfl)) dX9_closeName_18 ⟨Nat.le_of_ble_eq_true rfl, Nat.le_of_ble_eq_true rfl⟩) hS (fun q _ h => hFc q h) hFc ?_
  clear hS
  intro r_3 u t H1 locs ht hvm hw hB hz1 hk1 hS
  obtain ⟨⟩ := u
  obtain ⟨hP1, hK1, hD1⟩ := hB
  rw [ht] at hP1
  have hK1 := va_K.moved hvm.symm hK1
  try dsimp only at hw
  have hPD := va_join (wr := [(h0, .inr (9, [.ref qki, .ref qpl, .ref qva, .int yc, .ref qle, .ref qna, .ref qsb, .ref qbu, .ref qkb, .int (nI k), .int yp, .int yf, .int yl])), (qna, .inl (cna, 1741, .inl fna)), (qsb, .inl (csb, 1740, .inl fsb)), (qbu, .inl (cbu, 64, .inl fbu))]) (w1 := [(qle, .inl (cle, 6400, .inl fle))]) hP hD [1] [0, 2, 3, 4] rfl rfl (by decide) (by decide) hk1 hFc hP1 hD1
  clear hP hD
  obtain ⟨hP, hD⟩ := hPD
  replace hK := (hK.sub (tys' := [(cna, .int), (csb, .int), (cbu, .int)]) [1, 2, 3] rfl).app hK1
  clear hPc hDc hKc hFc hP1 hK1 hD1 hz1 hk1 ht hvm
  generalize H1 = H at hP hS ⊢
  replace hP : va_P (dC, dI) vwCl [(h0, .inr (9, [.ref qki, .ref qpl, .ref qva, .int yc, .ref qle, .ref qna, .ref qsb, .ref qbu, .ref qkb, .int (nI k), .int yp, .int yf, .int yl])), (qna, .inl (cna, 1741, .inl fna)), (qsb, .inl (csb, 1740, .inl fsb)), (qbu, .inl (cbu, 64, .inl fbu)), (qle, .inl (cle, 6400, .inl fle))] H := hP
  replace hD : va_D A [(h0, .inr (9, [.ref qki, .ref qpl, .ref qva, .int yc, .ref qle, .ref qna, .ref qsb, .ref qbu, .ref qkb, .int (nI k), .int yp, .int yf, .int yl])), (qna, .inl (cna, 1741, .inl fna)), (qsb, .inl (csb, 1740, .inl fsb)), (qbu, .inl (cbu, 64, .inl fbu)), (qle, .inl (cle, 6400, .inl fle))] := hD
  replace hK : va_K (dC, dI) vwCl [(cna, .int), (csb, .int), (cbu, .int), (cle, .byte)] s := hK
  obtain ⟨j, hj, rfl⟩ := hw
  replace hP := hP.sub (ws' := [(h0, .inr (9, [.ref qki, .ref qpl, .ref qva, .int yc, .ref qle, .ref qna, .ref qsb, .ref qbu, .ref qkb, .int (nI k), .int yp, .int yf, .int yl])), (qle, .inl (cle, 6400, .inl fle)), (qna, .inl (cna, 1741, .inl fna)), (qsb, .inl (csb, 1740, .inl fsb)), (qbu, .inl (cbu, 64, .inl fbu))]) [0, 4, 1, 2, 3] rfl
  replace hD := hD.sub (ws' := [(h0, .inr (9, [.ref qki, .ref qpl, .ref qva, .int yc, .ref qle, .ref qna, .ref qsb, .ref qbu, .ref qkb, .int (nI k), .int yp, .int yf, .int yl])), (qle, .inl (cle, 6400, .inl fle)), (qna, .inl (cna, 1741, .inl fna)), (qsb, .inl (csb, 1740, .inl fsb)), (qbu, .inl (cbu, 64, .inl fbu))]) [0, 4, 1, 2, 3] (by decide) rfl
  replace hK := hK.sub (tys' := [(cle, .byte), (cna, .int), (csb, .int), (cbu, .int)]) [3, 0, 1, 2] rfl
  refine lv_istore_n (lv' := [(3, .int (nI j)), (2, .int (nI a)), (0, .ref h0), (1, .int (nI ee))]) hx hb dX9_closeName_21 rfl hl (by decide) rfl (fun ls hl => ?_)
  refine lv_aload_n hx hb dX9_closeName_22 rfl (lv_at hl 2 rfl) ?_
  refine va_get (D := (dC, dI)) (ci := 9) (v := .ref qsb) (C := RX9) (T := TX9) (N := 13) hx hb hts uX9_closeName_X9 hown hK hP 0 rfl rfl 6 (by decide) (hts (.fieldLink RX9 32 "ClassMill$Text" "sameBucket" "[I") (by decide +kernel)) (fun _ h9 => h9) rfl dX9_closeName_23 ?_
  refine lv_aload_n hx hb dX9_closeName_26 rfl (lv_at hl 2 rfl) ?_
  refine va_get (D := (dC, dI)) (ci := 9) (v := .int (nI k)) (C := RX9) (T := TX9) (N := 13) hx hb hts uX9_closeName_X9 hown hK hP 0 rfl rfl 9 (by decide) (hts (.fieldLink RX9 73 "ClassMill$Text" "names" "I") (by decide +kernel)) (fun _ h9 => h9) rfl dX9_closeName_27 ?_
  refine lv_aload_n hx hb dX9_closeName_30 rfl (lv_at hl 2 rfl) ?_
  refine va_get (D := (dC, dI)) (ci := 9) (v := .ref qbu) (C := RX9) (T := TX9) (N := 13) hx hb hts uX9_closeName_X9 hown hK hP 0 rfl rfl 7 (by decide) (hts (.fieldLink RX9 35 "ClassMill$Text" "bucket" "[I") (by decide +kernel)) (fun _ h9 => h9) rfl dX9_closeName_31 ?_
  refine lv_iload_n hx hb dX9_closeName_34 rfl (lv_at hl 0 rfl) ?_
  refine va_iald hx hb hK hP 4 3 rfl rfl (i := (nI j)) (vp_in_nI hj (by decide)) dX9_closeName_35 ?_
  refine lv_topi (fun y_4 ey_4 => ?_)
  refine va_iast hx hb hK hP hD hS 3 2 rfl rfl (i := (nI k)) (x := y_4) (vp_in_nI hk (by decide)) dX9_closeName_36 ?_
  clear hP hD hS
  intro H locs hP hD hS
  obtain ⟨f_5, ef_5⟩ : ∃ zf : Nat → Int32, zf = upd fsb ((nI k) : Int32).toNatClampNeg y_4 := ⟨_, rfl⟩
  rw [← ef_5] at hP hD
  replace hP : va_P (dC, dI) vwCl [(h0, .inr (9, [.ref qki, .ref qpl, .ref qva, .int yc, .ref qle, .ref qna, .ref qsb, .ref qbu, .ref qkb, .int (nI k), .int yp, .int yf, .int yl])), (qle, .inl (cle, 6400, .inl fle)), (qna, .inl (cna, 1741, .inl fna)), (qsb, .inl (csb, 1740, .inl f_5)), (qbu, .inl (cbu, 64, .inl fbu))] H := hP
  replace hD : va_D A [(h0, .inr (9, [.ref qki, .ref qpl, .ref qva, .int yc, .ref qle, .ref qna, .ref qsb, .ref qbu, .ref qkb, .int (nI k), .int yp, .int yf, .int yl])), (qle, .inl (cle, 6400, .inl fle)), (qna, .inl (cna, 1741, .inl fna)), (qsb, .inl (csb, 1740, .inl f_5)), (qbu, .inl (cbu, 64, .inl fbu))] := hD
  refine lv_aload_n hx hb dX9_closeName_37 rfl (lv_at hl 2 rfl) ?_
  refine va_get (D := (dC, dI)) (ci := 9) (v := .ref qbu) (C := RX9) (T := TX9) (N := 13) hx hb hts uX9_closeName_X9 hown hK hP 0 rfl rfl 7 (by decide) (hts (.fieldLink RX9 35 "ClassMill$Text" "bucket" "[I") (by decide +kernel)) (fun _ h9 => h9) rfl dX9_closeName_38 ?_
  refine lv_iload_n hx hb dX9_closeName_41 rfl (lv_at hl 0 rfl) ?_
  refine lv_aload_n hx hb dX9_closeName_42 rfl (lv_at hl 2 rfl) ?_
  refine va_get (D := (dC, dI)) (ci := 9) (v := .int (nI k)) (C := RX9) (T := TX9) (N := 13) hx hb hts uX9_closeName_X9 hown hK hP 0 rfl rfl 9 (by decide) (hts (.fieldLink RX9 73 "ClassMill$Text" "names" "I") (by decide +kernel)) (fun _ h9 => h9) rfl dX9_closeName_43 ?_
  refine va_iast hx hb hK hP hD hS 4 3 rfl rfl (i := (nI j)) (x := (nI k)) (vp_in_nI hj (by decide)) dX9_closeName_46 ?_
  clear hP hD hS
  intro H locs hP hD hS
  obtain ⟨f_6, ef_6⟩ : ∃ zf : Nat → Int32, zf = upd fbu ((nI j) : Int32).toNatClampNeg (nI k) := ⟨_, rfl⟩
  rw [← ef_6] at hP hD
  replace hP : va_P (dC, dI) vwCl [(h0, .inr (9, [.ref qki, .ref qpl, .ref qva, .int yc, .ref qle, .ref qna, .ref qsb, .ref qbu, .ref qkb, .int (nI k), .int yp, .int yf, .int yl])), (qle, .inl (cle, 6400, .inl fle)), (qna, .inl (cna, 1741, .inl fna)), (qsb, .inl (csb, 1740, .inl f_5)), (qbu, .inl (cbu, 64, .inl f_6))] H := hP
  replace hD : va_D A [(h0, .inr (9, [.ref qki, .ref qpl, .ref qva, .int yc, .ref qle, .ref qna, .ref qsb, .ref qbu, .ref qkb, .int (nI k), .int yp, .int yf, .int yl])), (qle, .inl (cle, 6400, .inl fle)), (qna, .inl (cna, 1741, .inl fna)), (qsb, .inl (csb, 1740, .inl f_5)), (qbu, .inl (cbu, 64, .inl f_6))] := hD
  refine lv_aload_n hx hb dX9_closeName_47 rfl (lv_at hl 2 rfl) ?_
  refine lv_dup hx hb dX9_closeName_48 rfl ?_
  refine va_get (D := (dC, dI)) (ci := 9) (v := .int (nI k)) (C := RX9) (T := TX9) (N := 13) hx hb hts uX9_closeName_X9 hown hK hP 0 rfl rfl 9 (by decide) (hts (.fieldLink RX9 73 "ClassMill$Text" "names" "I") (by decide +kernel)) (fun _ h9 => h9) rfl dX9_closeName_49 ?_
  refine lv_iconst (v := 1) hx hb dX9_closeName_52 (by decide) ?_
  refine lv_iadd hx hb dX9_closeName_53 ?_
  refine lv_topi (fun y_7 ey_7 => ?_)
  obtain rfl : y_7 = nI (k + 1) := by rw [ey_7, nI_1]
  refine va_put (D := (dC, dI)) (ci := 9) (v := .int (nI (k + 1))) (ty := .int) (C := RX9) (T := TX9) (N := 13) hx hb hts uX9_closeName_X9 tyX9 tyX9_ok nmX9 hown hK hP hD hS 0 rfl rfl 9 (by decide) (hts (.fieldLink RX9 73 "ClassMill$Text" "names" "I") (by decide +kernel)) (fun _ h9 => h9) rfl (by decide +kernel) rfl rfl (Nat.le_of_ble_eq_true rfl) dX9_closeName_54 ?_
  clear hP hD hS
  intro H locs hP hD hS
  replace hP : va_P (dC, dI) vwCl [(h0, .inr (9, [.ref qki, .ref qpl, .ref qva, .int yc, .ref qle, .ref qna, .ref qsb, .ref qbu, .ref qkb, .int (nI (k + 1)), .int yp, .int yf, .int yl])), (qle, .inl (cle, 6400, .inl fle)), (qna, .inl (cna, 1741, .inl fna)), (qsb, .inl (csb, 1740, .inl f_5)), (qbu, .inl (cbu, 64, .inl f_6))] H := hP
  replace hD : va_D A [(h0, .inr (9, [.ref qki, .ref qpl, .ref qva, .int yc, .ref qle, .ref qna, .ref qsb, .ref qbu, .ref qkb, .int (nI (k + 1)), .int yp, .int yf, .int yl])), (qle, .inl (cle, 6400, .inl fle)), (qna, .inl (cna, 1741, .inl fna)), (qsb, .inl (csb, 1740, .inl f_5)), (qbu, .inl (cbu, 64, .inl f_6))] := hD
  refine lv_aload_n hx hb dX9_closeName_57 rfl (lv_at hl 2 rfl) ?_
  refine va_get (D := (dC, dI)) (ci := 9) (v := .ref qna) (C := RX9) (T := TX9) (N := 13) hx hb hts uX9_closeName_X9 hown hK hP 0 rfl rfl 5 (by decide) (hts (.fieldLink RX9 29 "ClassMill$Text" "nameAt" "[I") (by decide +kernel)) (fun _ h9 => h9) rfl dX9_closeName_58 ?_
  refine lv_aload_n hx hb dX9_closeName_61 rfl (lv_at hl 2 rfl) ?_
  refine va_get (D := (dC, dI)) (ci := 9) (v := .int (nI (k + 1))) (C := RX9) (T := TX9) (N := 13) hx hb hts uX9_closeName_X9 hown hK hP 0 rfl rfl 9 (by decide) (hts (.fieldLink RX9 73 "ClassMill$Text" "names" "I") (by decide +kernel)) (fun _ h9 => h9) rfl dX9_closeName_62 ?_
  refine lv_iload_n hx hb dX9_closeName_65 rfl (lv_at hl 3 rfl) ?_
  refine va_iast hx hb hK hP hD hS 2 1 rfl rfl (i := (nI (k + 1))) (x := (nI ee)) (vp_in_nI (by omega) (by decide)) dX9_closeName_66 ?_
  clear hP hD hS
  intro H locs hP hD hS
  obtain ⟨f_8, ef_8⟩ : ∃ zf : Nat → Int32, zf = upd fna ((nI (k + 1)) : Int32).toNatClampNeg (nI ee) := ⟨_, rfl⟩
  rw [← ef_8] at hP hD
  replace hP : va_P (dC, dI) vwCl [(h0, .inr (9, [.ref qki, .ref qpl, .ref qva, .int yc, .ref qle, .ref qna, .ref qsb, .ref qbu, .ref qkb, .int (nI (k + 1)), .int yp, .int yf, .int yl])), (qle, .inl (cle, 6400, .inl fle)), (qna, .inl (cna, 1741, .inl f_8)), (qsb, .inl (csb, 1740, .inl f_5)), (qbu, .inl (cbu, 64, .inl f_6))] H := hP
  replace hD : va_D A [(h0, .inr (9, [.ref qki, .ref qpl, .ref qva, .int yc, .ref qle, .ref qna, .ref qsb, .ref qbu, .ref qkb, .int (nI (k + 1)), .int yp, .int yf, .int yl])), (qle, .inl (cle, 6400, .inl fle)), (qna, .inl (cna, 1741, .inl f_8)), (qsb, .inl (csb, 1740, .inl f_5)), (qbu, .inl (cbu, 64, .inl f_6))] := hD
  have hP9 := hP.sub (ws' := [(h0, .inr (9, [.ref qki, .ref qpl, .ref qva, .int yc, .ref qle, .ref qna, .ref qsb, .ref qbu, .ref qkb, .int (nI (k + 1)), .int yp, .int yf, .int yl])), (qle, .inl (cle, 6400, .inl fle)), (qna, .inl (cna, 1741, .inl f_8)), (qsb, .inl (csb, 1740, .inl f_5)), (qbu, .inl (cbu, 64, .inl f_6))]) [0, 1, 2, 3, 4] rfl
  have hD9 := hD.sub (ws' := [(h0, .inr (9, [.ref qki, .ref qpl, .ref qva, .int yc, .ref qle, .ref qna, .ref qsb, .ref qbu, .ref qkb, .int (nI (k + 1)), .int yp, .int yf, .int yl])), (qle, .inl (cle, 6400, .inl fle)), (qna, .inl (cna, 1741, .inl f_8)), (qsb, .inl (csb, 1740, .inl f_5)), (qbu, .inl (cbu, 64, .inl f_6))]) [0, 1, 2, 3, 4] (by decide) rfl
  have hK9 := hK.sub (tys' := [(cle, .byte), (cna, .int), (csb, .int), (cbu, .int)]) [0, 1, 2, 3] rfl
  exact W.vret hx hb hr (fun t ht hW => ⟨⟨(f_8, f_5, f_6), rfl, by rw [ef_8, nI_clamp (by omega)]; exact pk_us, by rw [ht]; exact hP9, va_K.moved hW.alike hK9, hD9⟩, hS.F ht⟩) hS.2.2 dX9_closeName_67
set_option maxHeartbeats 4000000 in
set_option maxRecDepth 100000 in
theorem lp_text {p : Program} {l : Launch} {e0 : Env} {s : State} {m : MethodId} {args : Array Value} {below : List Frame} {meth : Method} {c : Code} {Q : State → Prop} {A : Nat → Prop} {dC : Nat → ClassId} {dI : Nat → Nat → Nat} (hx : p.tables.exec = Jvm.exec) (hb : c.code = cX9_init) (hml : c.maxLocals = 3) (hown : s.vm.findClass RX9 = some m.cls) (hts : ∀ w ∈ wsX9_init, w.before args s = true) (hA : ∀ q : Nat, s.heap.size ≤ q → A q) {h0 qki qpl qva qle qna qsb qbu qkb : Nat} {yc yp yf yl : Int32} {cki cpl cva ckb cle cna csb cbu : ClassId} {fki fpl fva fkb : Nat → Int32} {tn : Nat} {ft : Nat → Int32} {ak av : Nat} {tx : String} (htn : tn ≤ 1000) (hc0 : ¬ ((ft 0 &&& 255).toUInt32 % 65536).toInt32 = 32) (hZW : pz_W tn ft ak av A s s.heap) (hZR : vk_R RX9 51 tx ak s) (hK : va_K (dC, dI) vwCl [(cki, .int), (cpl, .int), (cva, .int), (ckb, .int), (cle, .byte), (cna, .int), (csb, .int), (cbu, .int)] s) (kk : ∀ (k a ee : Nat) (fle fna fsb fbu : Nat → Int32) (H : Heap) (locs : List Loc) (ls : Array Slot), va_P (dC, dI) vwCl [(qki, .inl (cki, 3001, .inl fki)), (qpl, .inl (cpl, 3001, .inl fpl)), (qva, .inl (cva, 3001, .inl fva)), (qkb, .inl (ckb, 64, .inl fkb)), (h0, .inr (9, [.ref qki, .ref qpl, .ref qva, .int yc, .ref qle, .ref qna, .ref qsb, .ref qbu, .ref qkb, .int (nI k), .int yp, .int yf, .int yl])), (qle, .inl (cle, 6400, .inl fle)), (qna, .inl (cna, 1741, .inl fna)), (qsb, .inl (csb, 1740, .inl fsb)), (qbu, .inl (cbu, 64, .inl fbu))] H → va_D A [(qki, .inl (cki, 3001, .inl fki)), (qpl, .inl (cpl, 3001, .inl fpl)), (qva, .inl (cva, 3001, .inl fva)), (qkb, .inl (ckb, 64, .inl fkb)), (h0, .inr (9, [.ref qki, .ref qpl, .ref qva, .int yc, .ref qle, .ref qna, .ref qsb, .ref qbu, .ref qkb, .int (nI k), .int yp, .int yf, .int yl])), (qle, .inl (cle, 6400, .inl fle)), (qna, .inl (cna, 1741, .inl fna)), (qsb, .inl (csb, 1740, .inl fsb)), (qbu, .inl (cbu, 64, .inl fbu))] → va_S A s.heap H locs → lv_has ls 3 [(0, .ref h0)] → W p l e0 ({ frames := 10, cells := 8, slots := 19012, locals := 400 } : Room) s m args below meth c H locs 8 19012 Q (F0 m 141 ls [])) : ∀ (n : Nat) (k a ee j : Nat) (fle fna fsb fbu : Nat → Int32), j ≤ tn → tn - j < n → k ≤ j → ee ≤ j → a ≤ ee → (1 ≤ j → 1 ≤ ee) → fna k = nI a → ∀ (H : Heap) (locs : List Loc) (ls : Array Slot), va_P (dC, dI) vwCl [(qki, .inl (cki, 3001, .inl fki)), (qpl, .inl (cpl, 3001, .inl fpl)), (qva, .inl (cva, 3001, .inl fva)), (qkb, .inl (ckb, 64, .inl fkb)), (h0, .inr (9, [.ref qki, .ref qpl, .ref qva, .int yc, .ref qle, .ref qna, .ref qsb, .ref qbu, .ref qkb, .int (nI k), .int yp, .int yf, .int yl])), (qle, .inl (cle, 6400, .inl fle)), (qna, .inl (cna, 1741, .inl fna)), (qsb, .inl (csb, 1740, .inl fsb)), (qbu, .inl (cbu, 64, .inl fbu))] H → va_D A [(qki, .inl (cki, 3001, .inl fki)), (qpl, .inl (cpl, 3001, .inl fpl)), (qva, .inl (cva, 3001, .inl fva)), (qkb, .inl (ckb, 64, .inl fkb)), (h0, .inr (9, [.ref qki, .ref qpl, .ref qva, .int yc, .ref qle, .ref qna, .ref qsb, .ref qbu, .ref qkb, .int (nI k), .int yp, .int yf, .int yl])), (qle, .inl (cle, 6400, .inl fle)), (qna, .inl (cna, 1741, .inl fna)), (qsb, .inl (csb, 1740, .inl fsb)), (qbu, .inl (cbu, 64, .inl fbu))] → va_S A s.heap H locs → lv_has ls 3 [(2, .int (nI j)), (1, .int (nI ee)), (0, .ref h0)] → W p l e0 ({ frames := 10, cells := 8, slots := 19012, locals := 400 } : Room) s m args below meth c H locs 8 19012 Q (F0 m 91 ls []) := by
  intro n
  induction n with
  | zero => intro k a ee j fle fna fsb fbu h1 h2; exact absurd h2 (by omega)
  | succ n ih =>
    intro k a ee j fle fna fsb fbu hj hn hkj hej hae hje hfa H locs ls hP hD hS hl
    refine lv_iload_n hx hb dX9_init_91 rfl (lv_at hl 0 rfl) ?_
    refine va_ldcS hx hb hown hZR dX9_init_92 ?_
    have hPc := hP.sub (ws' := []) [] rfl
    have hDc := hD.sub (ws' := []) [] (by decide) rfl
    have hKc := hK.sub (tys' := []) [] rfl
    have hFc := va_free (wc := []) hD hS hA [] rfl
    refine va_calli (va_runV (As := []) (rest := [.int (nI j)]) ⟨hx, hb, hml, hown, hts⟩ (ct_slen l dC dI H.size tn ft ak av) (cwV 0 hts gX9_init_J0_length_8abf5 rfl rfl rfl (by decide +kernel) ⟨Nat.le_of_ble_eq_true rfl, Nat.le_of_ble_eq_true rfl⟩) ⟨fun a U g mk q => by obtain ⟨q0, q1, qP, qK, qD, qhZW⟩ := q; exact ⟨q0, q1, qP, va_K.moved (u := U) (U := U.calling g mk a) (Vm.Alike.refl U.vm) qK, qD, pz_W.moved (u := U) (U := U.calling g mk a) (Vm.Alike.refl U.vm) qhZW⟩, pz_recv hZW hS, fun U hU hW => ⟨rfl, by rw [hU], by rw [hU]; exact hPc, va_K.moved hW.alike hKc, hDc.weaken (fun _ _ _ _ => trivial), by rw [hU]; exact ((pz_W.moved hW.alike hZW).kept hS.2.1).narrow hFc⟩⟩ rfl rfl hl.1 rfl (lv_room (Nat.le_of_ble_eq_true rfl)) dX9_init_94 ⟨Nat.le_of_ble_eq_true rfl, Nat.le_of_ble_eq_true rfl⟩) hS (fun q _ h => hFc q h) hFc ?_
    clear hS
    intro r_1 u t H1 locs ht hvm hw hB hz1 hk1 hS
    obtain ⟨⟩ := u
    obtain ⟨hP1, hK1, hD1⟩ := hB
    rw [ht] at hP1
    try dsimp only at hw
    have hPD := va_join (wr := [(qki, .inl (cki, 3001, .inl fki)), (qpl, .inl (cpl, 3001, .inl fpl)), (qva, .inl (cva, 3001, .inl fva)), (qkb, .inl (ckb, 64, .inl fkb)), (h0, .inr (9, [.ref qki, .ref qpl, .ref qva, .int yc, .ref qle, .ref qna, .ref qsb, .ref qbu, .ref qkb, .int (nI k), .int yp, .int yf, .int yl])), (qle, .inl (cle, 6400, .inl fle)), (qna, .inl (cna, 1741, .inl fna)), (qsb, .inl (csb, 1740, .inl fsb)), (qbu, .inl (cbu, 64, .inl fbu))]) (w1 := []) hP hD [] [0, 1, 2, 3, 4, 5, 6, 7, 8] rfl rfl (by decide) (by decide) hk1 hFc hP1 hD1
    clear hP hD
    obtain ⟨hP, hD⟩ := hPD
    clear hPc hDc hKc hFc hP1 hK1 hD1 hz1 hk1 ht hvm
    generalize H1 = H at hP hS ⊢
    replace hP : va_P (dC, dI) vwCl [(qki, .inl (cki, 3001, .inl fki)), (qpl, .inl (cpl, 3001, .inl fpl)), (qva, .inl (cva, 3001, .inl fva)), (qkb, .inl (ckb, 64, .inl fkb)), (h0, .inr (9, [.ref qki, .ref qpl, .ref qva, .int yc, .ref qle, .ref qna, .ref qsb, .ref qbu, .ref qkb, .int (nI k), .int yp, .int yf, .int yl])), (qle, .inl (cle, 6400, .inl fle)), (qna, .inl (cna, 1741, .inl fna)), (qsb, .inl (csb, 1740, .inl fsb)), (qbu, .inl (cbu, 64, .inl fbu))] H := hP
    replace hD : va_D A [(qki, .inl (cki, 3001, .inl fki)), (qpl, .inl (cpl, 3001, .inl fpl)), (qva, .inl (cva, 3001, .inl fva)), (qkb, .inl (ckb, 64, .inl fkb)), (h0, .inr (9, [.ref qki, .ref qpl, .ref qva, .int yc, .ref qle, .ref qna, .ref qsb, .ref qbu, .ref qkb, .int (nI k), .int yp, .int yf, .int yl])), (qle, .inl (cle, 6400, .inl fle)), (qna, .inl (cna, 1741, .inl fna)), (qsb, .inl (csb, 1740, .inl fsb)), (qbu, .inl (cbu, 64, .inl fbu))] := hD
    subst hw
    refine lv_icmp_ge (tgt := 141) hx hb dX9_init_97 (by decide) (fun c_1 => kk k a ee fle fna fsb fbu H locs ls hP hD hS (lv_sub hl [2] rfl)) (fun c_1 => ?_)
    have hjn : j < tn := by
      rcases Nat.lt_or_ge j tn with q | q
      · exact q
      · exact absurd (nI_le q (by omega)) c_1
    refine va_ldcS hx hb hown hZR dX9_init_100 ?_
    refine lv_iload_n hx hb dX9_init_102 rfl (lv_at hl 0 rfl) ?_
    have hPc := hP.sub (ws' := []) [] rfl
    have hDc := hD.sub (ws' := []) [] (by decide) rfl
    have hKc := hK.sub (tys' := []) [] rfl
    have hFc := va_free (wc := []) hD hS hA [] rfl
    refine va_calli (va_runV (As := [.int (nI j)]) (rest := []) ⟨hx, hb, hml, hown, hts⟩ (ct_charAt l dC dI H.size tn ft ak av j hjn (by omega)) (cwV 1 hts gX9_init_J0_charAt_5068e rfl rfl rfl (by decide +kernel) ⟨Nat.le_of_ble_eq_true rfl, Nat.le_of_ble_eq_true rfl⟩) ⟨fun a U g mk q => by obtain ⟨q0, q1, qP, qK, qD, qhZW⟩ := q; exact ⟨q0, q1, qP, va_K.moved (u := U) (U := U.calling g mk a) (Vm.Alike.refl U.vm) qK, qD, pz_W.moved (u := U) (U := U.calling g mk a) (Vm.Alike.refl U.vm) qhZW⟩, pz_recv hZW hS, fun U hU hW => ⟨rfl, by rw [hU], by rw [hU]; exact hPc, va_K.moved hW.alike hKc, hDc.weaken (fun _ _ _ _ => trivial), by rw [hU]; exact ((pz_W.moved hW.alike hZW).kept hS.2.1).narrow hFc⟩⟩ rfl rfl hl.1 rfl (lv_room (Nat.le_of_ble_eq_true rfl)) dX9_init_103 ⟨Nat.le_of_ble_eq_true rfl, Nat.le_of_ble_eq_true rfl⟩) hS (fun q _ h => hFc q h) hFc ?_
    clear hS
    intro r_2 u t H1 locs ht hvm hw hB hz1 hk1 hS
    obtain ⟨⟩ := u
    obtain ⟨hP1, hK1, hD1⟩ := hB
    rw [ht] at hP1
    try dsimp only at hw
    have hPD := va_join (wr := [(qki, .inl (cki, 3001, .inl fki)), (qpl, .inl (cpl, 3001, .inl fpl)), (qva, .inl (cva, 3001, .inl fva)), (qkb, .inl (ckb, 64, .inl fkb)), (h0, .inr (9, [.ref qki, .ref qpl, .ref qva, .int yc, .ref qle, .ref qna, .ref qsb, .ref qbu, .ref qkb, .int (nI k), .int yp, .int yf, .int yl])), (qle, .inl (cle, 6400, .inl fle)), (qna, .inl (cna, 1741, .inl fna)), (qsb, .inl (csb, 1740, .inl fsb)), (qbu, .inl (cbu, 64, .inl fbu))]) (w1 := []) hP hD [] [0, 1, 2, 3, 4, 5, 6, 7, 8] rfl rfl (by decide) (by decide) hk1 hFc hP1 hD1
    clear hP hD
    obtain ⟨hP, hD⟩ := hPD
    clear hPc hDc hKc hFc hP1 hK1 hD1 hz1 hk1 ht hvm
    generalize H1 = H at hP hS ⊢
    replace hP : va_P (dC, dI) vwCl [(qki, .inl (cki, 3001, .inl fki)), (qpl, .inl (cpl, 3001, .inl fpl)), (qva, .inl (cva, 3001, .inl fva)), (qkb, .inl (ckb, 64, .inl fkb)), (h0, .inr (9, [.ref qki, .ref qpl, .ref qva, .int yc, .ref qle, .ref qna, .ref qsb, .ref qbu, .ref qkb, .int (nI k), .int yp, .int yf, .int yl])), (qle, .inl (cle, 6400, .inl fle)), (qna, .inl (cna, 1741, .inl fna)), (qsb, .inl (csb, 1740, .inl fsb)), (qbu, .inl (cbu, 64, .inl fbu))] H := hP
    replace hD : va_D A [(qki, .inl (cki, 3001, .inl fki)), (qpl, .inl (cpl, 3001, .inl fpl)), (qva, .inl (cva, 3001, .inl fva)), (qkb, .inl (ckb, 64, .inl fkb)), (h0, .inr (9, [.ref qki, .ref qpl, .ref qva, .int yc, .ref qle, .ref qna, .ref qsb, .ref qbu, .ref qkb, .int (nI k), .int yp, .int yf, .int yl])), (qle, .inl (cle, 6400, .inl fle)), (qna, .inl (cna, 1741, .inl fna)), (qsb, .inl (csb, 1740, .inl fsb)), (qbu, .inl (cbu, 64, .inl fbu))] := hD
    refine lv_bipush (v := 32) hx hb dX9_init_106 (by decide) ?_
    refine lv_icmp_ne (tgt := 119) hx hb dX9_init_108 (by decide) (fun c_2 => ?_) (fun c_2 => ?_)
    · have hgo : True := trivial
      refine lv_aload_n hx hb dX9_init_119 rfl (lv_at hl 2 rfl) ?_
      refine va_get (D := (dC, dI)) (ci := 9) (v := .ref qle) (C := RX9) (T := TX9) (N := 13) hx hb hts uX9_init_X9 hown hK hP 4 rfl rfl 4 (by decide) (hts (.fieldLink RX9 25 "ClassMill$Text" "letters" "[B") (by decide +kernel)) (fun _ h9 => h9) rfl dX9_init_120 ?_
      refine lv_iload_n hx hb dX9_init_123 rfl (lv_at hl 1 rfl) ?_
      refine va_ldcS hx hb hown hZR dX9_init_124 ?_
      refine lv_iload_n hx hb dX9_init_126 rfl (lv_at hl 0 rfl) ?_
      have hPc := hP.sub (ws' := []) [] rfl
      have hDc := hD.sub (ws' := []) [] (by decide) rfl
      have hKc := hK.sub (tys' := []) [] rfl
      have hFc := va_free (wc := []) hD hS hA [] rfl
      refine va_calli (va_runV (As := [.int (nI j)]) (rest := [.int (nI ee), .ref qle]) ⟨hx, hb, hml, hown, hts⟩ (ct_charAt l dC dI H.size tn ft ak av j hjn (by omega)) (cwV 1 hts gX9_init_J0_charAt_5068e rfl rfl rfl (by decide +kernel) ⟨Nat.le_of_ble_eq_true rfl, Nat.le_of_ble_eq_true rfl⟩) ⟨fun a U g mk q => by obtain ⟨q0, q1, qP, qK, qD, qhZW⟩ := q; exact ⟨q0, q1, qP, va_K.moved (u := U) (U := U.calling g mk a) (Vm.Alike.refl U.vm) qK, qD, pz_W.moved (u := U) (U := U.calling g mk a) (Vm.Alike.refl U.vm) qhZW⟩, pz_recv hZW hS, fun U hU hW => ⟨rfl, by rw [hU], by rw [hU]; exact hPc, va_K.moved hW.alike hKc, hDc.weaken (fun _ _ _ _ => trivial), by rw [hU]; exact ((pz_W.moved hW.alike hZW).kept hS.2.1).narrow hFc⟩⟩ rfl rfl hl.1 rfl (lv_room (Nat.le_of_ble_eq_true rfl)) dX9_init_127 ⟨Nat.le_of_ble_eq_true rfl, Nat.le_of_ble_eq_true rfl⟩) hS (fun q _ h => hFc q h) hFc ?_
      clear hS
      intro r_3 u t H1 locs ht hvm hw hB hz1 hk1 hS
      obtain ⟨⟩ := u
      obtain ⟨hP1, hK1, hD1⟩ := hB
      rw [ht] at hP1
      try dsimp only at hw
      have hPD := va_join (wr := [(qki, .inl (cki, 3001, .inl fki)), (qpl, .inl (cpl, 3001, .inl fpl)), (qva, .inl (cva, 3001, .inl fva)), (qkb, .inl (ckb, 64, .inl fkb)), (h0, .inr (9, [.ref qki, .ref qpl, .ref qva, .int yc, .ref qle, .ref qna, .ref qsb, .ref qbu, .ref qkb, .int (nI k), .int yp, .int yf, .int yl])), (qle, .inl (cle, 6400, .inl fle)), (qna, .inl (cna, 1741, .inl fna)), (qsb, .inl (csb, 1740, .inl fsb)), (qbu, .inl (cbu, 64, .inl fbu))]) (w1 := []) hP hD [] [0, 1, 2, 3, 4, 5, 6, 7, 8] rfl rfl (by decide) (by decide) hk1 hFc hP1 hD1
      clear hP hD
      obtain ⟨hP, hD⟩ := hPD
      clear hPc hDc hKc hFc hP1 hK1 hD1 hz1 hk1 ht hvm
      generalize H1 = H at hP hS ⊢
      replace hP : va_P (dC, dI) vwCl [(qki, .inl (cki, 3001, .inl fki)), (qpl, .inl (cpl, 3001, .inl fpl)), (qva, .inl (cva, 3001, .inl fva)), (qkb, .inl (ckb, 64, .inl fkb)), (h0, .inr (9, [.ref qki, .ref qpl, .ref qva, .int yc, .ref qle, .ref qna, .ref qsb, .ref qbu, .ref qkb, .int (nI k), .int yp, .int yf, .int yl])), (qle, .inl (cle, 6400, .inl fle)), (qna, .inl (cna, 1741, .inl fna)), (qsb, .inl (csb, 1740, .inl fsb)), (qbu, .inl (cbu, 64, .inl fbu))] H := hP
      replace hD : va_D A [(qki, .inl (cki, 3001, .inl fki)), (qpl, .inl (cpl, 3001, .inl fpl)), (qva, .inl (cva, 3001, .inl fva)), (qkb, .inl (ckb, 64, .inl fkb)), (h0, .inr (9, [.ref qki, .ref qpl, .ref qva, .int yc, .ref qle, .ref qna, .ref qsb, .ref qbu, .ref qkb, .int (nI k), .int yp, .int yf, .int yl])), (qle, .inl (cle, 6400, .inl fle)), (qna, .inl (cna, 1741, .inl fna)), (qsb, .inl (csb, 1740, .inl fsb)), (qbu, .inl (cbu, 64, .inl fbu))] := hD
      obtain ⟨yb, eyb⟩ : ∃ zy : Int32, zy = (r_3 : Int32).toInt8.toInt32 := ⟨_, rfl⟩
      refine lv_i2b (v := yb) hx hb dX9_init_130 eyb.symm ?_
      refine va_bast hx hb hK hP hD hS 5 4 rfl rfl (i := (nI ee)) (x := yb) (vp_in_nI (by omega) (by decide)) dX9_init_131 ?_
      clear hP hD hS
      intro H locs hP hD hS
      obtain ⟨f_4, ef_4⟩ : ∃ zf : Nat → Int32, zf = upd fle ((nI ee) : Int32).toNatClampNeg (vp_nar .byte yb) := ⟨_, rfl⟩
      rw [← ef_4] at hP hD
      replace hP : va_P (dC, dI) vwCl [(qki, .inl (cki, 3001, .inl fki)), (qpl, .inl (cpl, 3001, .inl fpl)), (qva, .inl (cva, 3001, .inl fva)), (qkb, .inl (ckb, 64, .inl fkb)), (h0, .inr (9, [.ref qki, .ref qpl, .ref qva, .int yc, .ref qle, .ref qna, .ref qsb, .ref qbu, .ref qkb, .int (nI k), .int yp, .int yf, .int yl])), (qle, .inl (cle, 6400, .inl f_4)), (qna, .inl (cna, 1741, .inl fna)), (qsb, .inl (csb, 1740, .inl fsb)), (qbu, .inl (cbu, 64, .inl fbu))] H := hP
      replace hD : va_D A [(qki, .inl (cki, 3001, .inl fki)), (qpl, .inl (cpl, 3001, .inl fpl)), (qva, .inl (cva, 3001, .inl fva)), (qkb, .inl (ckb, 64, .inl fkb)), (h0, .inr (9, [.ref qki, .ref qpl, .ref qva, .int yc, .ref qle, .ref qna, .ref qsb, .ref qbu, .ref qkb, .int (nI k), .int yp, .int yf, .int yl])), (qle, .inl (cle, 6400, .inl f_4)), (qna, .inl (cna, 1741, .inl fna)), (qsb, .inl (csb, 1740, .inl fsb)), (qbu, .inl (cbu, 64, .inl fbu))] := hD
      obtain ⟨y_5, ey_5⟩ : ∃ zy : Int32, zy = (nI ee) + 1 := ⟨_, rfl⟩
      refine lv_iinc (v := y_5) (lv' := [(1, .int y_5), (2, .int (nI j)), (0, .ref h0)]) hx hb dX9_init_132 hl (k := 1) rfl (by rw [ey_5]; rfl) (by decide) rfl (fun ls hl => ?_)
      obtain rfl : y_5 = nI (ee + 1) := by rw [ey_5, nI_1]
      obtain ⟨y_6, ey_6⟩ : ∃ zy : Int32, zy = (nI j) + 1 := ⟨_, rfl⟩
      refine lv_iinc (v := y_6) (lv' := [(2, .int y_6), (1, .int (nI (ee + 1))), (0, .ref h0)]) hx hb dX9_init_135 hl (k := 1) rfl (by rw [ey_6]; rfl) (by decide) rfl (fun ls hl => ?_)
      obtain rfl : y_6 = nI (j + 1) := by rw [ey_6, nI_1]
      refine lv_goto (tgt := 91) hx hb dX9_init_138 (by decide) ?_
      exact ih k a (ee + 1) (j + 1) f_4 fna fsb fbu (by omega) (by omega) (by omega) (by omega) (by omega) (fun _ => by omega) hfa H locs ls hP hD hS (lv_sub hl [0, 1, 2] rfl)
    · have hj1 : 1 ≤ j := by
        rcases Nat.eq_zero_or_pos j with q | q
        · subst q; exact absurd (hw.symm.trans c_2) hc0
        · exact q
      refine lv_aload_n hx hb dX9_init_111 rfl (lv_at hl 2 rfl) ?_
      refine lv_iload_n hx hb dX9_init_112 rfl (lv_at hl 1 rfl) ?_
      have hPc := hP.sub (ws' := [(h0, .inr (9, [.ref qki, .ref qpl, .ref qva, .int yc, .ref qle, .ref qna, .ref qsb, .ref qbu, .ref qkb, .int (nI k), .int yp, .int yf, .int yl])), (qle, .inl (cle, 6400, .inl fle)), (qna, .inl (cna, 1741, .inl fna)), (qsb, .inl (csb, 1740, .inl fsb)), (qbu, .inl (cbu, 64, .inl fbu))]) [4, 5, 6, 7, 8] rfl
      have hDc := hD.sub (ws' := [(h0, .inr (9, [.ref qki, .ref qpl, .ref qva, .int yc, .ref qle, .ref qna, .ref qsb, .ref qbu, .ref qkb, .int (nI k), .int yp, .int yf, .int yl])), (qle, .inl (cle, 6400, .inl fle)), (qna, .inl (cna, 1741, .inl fna)), (qsb, .inl (csb, 1740, .inl fsb)), (qbu, .inl (cbu, 64, .inl fbu))]) [4, 5, 6, 7, 8] (by decide) rfl
      have hKc := hK.sub (tys' := [(cle, .byte), (cna, .int), (csb, .int), (cbu, .int)]) [4, 5, 6, 7] rfl
      have hFc := va_free (wc := [(h0, .inr (9, [.ref qki, .ref qpl, .ref qva, .int yc, .ref qle, .ref qna, .ref qsb, .ref qbu, .ref qkb, .int (nI k), .int yp, .int yf, .int yl])), (qle, .inl (cle, 6400, .inl fle)), (qna, .inl (cna, 1741, .inl fna)), (qsb, .inl (csb, 1740, .inl fsb)), (qbu, .inl (cbu, 64, .inl fbu))]) hD hS hA [4, 5, 6, 7, 8] rfl
      refine va_callv (va_runV (As := [.int (nI ee)]) (rest := []) ⟨hx, hb, hml, hown, hts⟩ (ct_close l dC dI H.size h0 qki qpl qva qle qna qsb qbu qkb yc yp yf yl k a ee cle cna csb cbu fle fna fsb fbu (by omega) hae (by omega) (hje hj1) (by omega) hfa) (cwV 1 hts gX9_init_X9_closeName rfl rfl rfl (by decide +kernel) ⟨Nat.le_of_ble_eq_true rfl, Nat.le_of_ble_eq_true rfl⟩) ⟨fun a U g mk q => by obtain ⟨q0, q1, qP, qK, qD⟩ := q; exact ⟨q0, q1, qP, va_K.moved (u := U) (U := U.calling g mk a) (Vm.Alike.refl U.vm) qK, qD⟩, va_recv hKc hPc (ci := 9) (q0 := 0) rfl rfl, fun U hU hW => ⟨rfl, by rw [hU], by rw [hU]; exact hPc, va_K.moved hW.alike hKc, hDc.weaken (fun _ _ _ _ => trivial)⟩⟩ rfl rfl hl.1 rfl (lv_room (Nat.le_of_ble_eq_true rfl)) dX9_init_113 ⟨Nat.le_of_ble_eq_true rfl, Nat.le_of_ble_eq_true rfl⟩) hS (fun q _ h => hFc q h) hFc ?_
      clear hS
      intro u t H1 locs ht hvm hw hB hz1 hk1 hS
      obtain ⟨f_7, f_8, f_9⟩ := u
      obtain ⟨hP1, hK1, hD1⟩ := hB
      rw [ht] at hP1
      have hK1 := va_K.moved hvm.symm hK1
      try dsimp only at hw
      have hPD := va_join (wr := [(qki, .inl (cki, 3001, .inl fki)), (qpl, .inl (cpl, 3001, .inl fpl)), (qva, .inl (cva, 3001, .inl fva)), (qkb, .inl (ckb, 64, .inl fkb))]) (w1 := [(h0, .inr (9, [.ref qki, .ref qpl, .ref qva, .int yc, .ref qle, .ref qna, .ref qsb, .ref qbu, .ref qkb, .int (nI (k + 1)), .int yp, .int yf, .int yl])), (qle, .inl (cle, 6400, .inl fle)), (qna, .inl (cna, 1741, .inl f_7)), (qsb, .inl (csb, 1740, .inl f_8)), (qbu, .inl (cbu, 64, .inl f_9))]) hP hD [4, 5, 6, 7, 8] [0, 1, 2, 3] rfl rfl (by decide) (by decide) hk1 hFc hP1 hD1
      clear hP hD
      obtain ⟨hP, hD⟩ := hPD
      replace hK := (hK.sub (tys' := [(cki, .int), (cpl, .int), (cva, .int), (ckb, .int)]) [0, 1, 2, 3] rfl).app hK1
      clear hPc hDc hKc hFc hP1 hK1 hD1 hz1 hk1 ht hvm
      generalize H1 = H at hP hS ⊢
      replace hP : va_P (dC, dI) vwCl [(qki, .inl (cki, 3001, .inl fki)), (qpl, .inl (cpl, 3001, .inl fpl)), (qva, .inl (cva, 3001, .inl fva)), (qkb, .inl (ckb, 64, .inl fkb)), (h0, .inr (9, [.ref qki, .ref qpl, .ref qva, .int yc, .ref qle, .ref qna, .ref qsb, .ref qbu, .ref qkb, .int (nI (k + 1)), .int yp, .int yf, .int yl])), (qle, .inl (cle, 6400, .inl fle)), (qna, .inl (cna, 1741, .inl f_7)), (qsb, .inl (csb, 1740, .inl f_8)), (qbu, .inl (cbu, 64, .inl f_9))] H := hP
      replace hD : va_D A [(qki, .inl (cki, 3001, .inl fki)), (qpl, .inl (cpl, 3001, .inl fpl)), (qva, .inl (cva, 3001, .inl fva)), (qkb, .inl (ckb, 64, .inl fkb)), (h0, .inr (9, [.ref qki, .ref qpl, .ref qva, .int yc, .ref qle, .ref qna, .ref qsb, .ref qbu, .ref qkb, .int (nI (k + 1)), .int yp, .int yf, .int yl])), (qle, .inl (cle, 6400, .inl fle)), (qna, .inl (cna, 1741, .inl f_7)), (qsb, .inl (csb, 1740, .inl f_8)), (qbu, .inl (cbu, 64, .inl f_9))] := hD
      replace hK : va_K (dC, dI) vwCl [(cki, .int), (cpl, .int), (cva, .int), (ckb, .int), (cle, .byte), (cna, .int), (csb, .int), (cbu, .int)] s := hK
      have hfa2 := hw
      refine lv_goto (tgt := 135) hx hb dX9_init_116 (by decide) ?_
      obtain ⟨y_10, ey_10⟩ : ∃ zy : Int32, zy = (nI j) + 1 := ⟨_, rfl⟩
      refine lv_iinc (v := y_10) (lv' := [(2, .int y_10), (1, .int (nI ee)), (0, .ref h0)]) hx hb dX9_init_135 hl (k := 0) rfl (by rw [ey_10]; rfl) (by decide) rfl (fun ls hl => ?_)
      obtain rfl : y_10 = nI (j + 1) := by rw [ey_10, nI_1]
      refine lv_goto (tgt := 91) hx hb dX9_init_138 (by decide) ?_
      exact ih (k + 1) ee ee (j + 1) fle f_7 f_8 f_9 (by omega) (by omega) (by omega) (by omega) (Nat.le_refl ee) (fun _ => hje hj1) hfa2 H locs ls hP hD hS (lv_sub hl [0, 1, 2] rfl)
set_option maxHeartbeats 4000000 in
set_option maxRecDepth 100000 in
/-- Text() -/
theorem ct_text (l : Launch) (dC : Nat → ClassId) (dI : Nat → Nat → Nat) (sz : Nat) (h0 : Nat) (tn : Nat) (ft : Nat → Int32) (ak av : Nat) (tx : String) (htn : tn ≤ 1000) (hc0 : ¬ ((ft 0 &&& 255).toUInt32 % 65536).toInt32 = 32) : Met l yX9_init wsX9_init ({ frames := 10, cells := 8, slots := 19012, locals := 400 }) (va_Pc [.ref h0] (fun U => U.heap.size = sz ∧ va_P (dC, dI) vwCl [(h0, .inr (9, [.null, .null, .null, .int 0, .null, .null, .null, .null, .null, .int 0, .int 0, .int 0, .int 0]))] U.heap ∧ va_K (dC, dI) vwCl [] U ∧ va_D (fun _ => True) [(h0, .inr (9, [.null, .null, .null, .int 0, .null, .null, .null, .null, .null, .int 0, .int 0, .int 0, .int 0]))] ∧ pz_W tn ft ak av (va_A [(h0, .inr (9, [.null, .null, .null, .int 0, .null, .null, .null, .null, .null, .int 0, .int 0, .int 0, .int 0]))] sz) U U.heap ∧ vk_R RX9 51 tx ak U)) (va_Qv (fun (u : Nat × Nat × Nat × Nat × Nat × Nat × Nat × Nat × Nat × ClassId × ClassId × ClassId × ClassId × (Nat → Int32) × ClassId × (Nat → Int32)) => match u with | (qo1, qo2, qo3, qo4, qo5, qo6, qo7, qo8, ko1, co1, co2, co3, co4, fo1, co5, fo2) => True) (fun (u : Nat × Nat × Nat × Nat × Nat × Nat × Nat × Nat × Nat × ClassId × ClassId × ClassId × ClassId × (Nat → Int32) × ClassId × (Nat → Int32)) (t : State) => match u with | (qo1, qo2, qo3, qo4, qo5, qo6, qo7, qo8, ko1, co1, co2, co3, co4, fo1, co5, fo2) => va_P (dC, dI) vwCl [(h0, .inr (9, [.ref qo1, .ref qo2, .ref qo3, .int 0, .ref qo4, .ref qo5, .ref qo6, .ref qo7, .ref qo8, .int (nI ko1), .int 0, .int 0, .int (-1)])), (qo1, .inl (co1, 3001, .inl (fun _ => 0))), (qo2, .inl (co2, 3001, .inl (fun _ => 0))), (qo3, .inl (co3, 3001, .inl (fun _ => 0))), (qo7, .inl (co4, 64, .inl fo1)), (qo8, .inl (co5, 64, .inl fo2))] t.heap ∧ va_K (dC, dI) vwCl [(co1, .int), (co2, .int), (co3, .int), (co4, .int), (co5, .int)] t ∧ va_D (va_A [(h0, .inr (9, [.null, .null, .null, .int 0, .null, .null, .null, .null, .null, .int 0, .int 0, .int 0, .int 0]))] sz) [(h0, .inr (9, [.ref qo1, .ref qo2, .ref qo3, .int 0, .ref qo4, .ref qo5, .ref qo6, .ref qo7, .ref qo8, .int (nI ko1), .int 0, .int 0, .int (-1)])), (qo1, .inl (co1, 3001, .inl (fun _ => 0))), (qo2, .inl (co2, 3001, .inl (fun _ => 0))), (qo3, .inl (co3, 3001, .inl (fun _ => 0))), (qo7, .inl (co4, 64, .inl fo1)), (qo8, .inl (co5, 64, .inl fo2))]) (va_A [(h0, .inr (9, [.null, .null, .null, .int 0, .null, .null, .null, .null, .null, .int 0, .int 0, .int 0, .int 0]))] sz)) 8 19012 (va_A [(h0, .inr (9, [.null, .null, .null, .int 0, .null, .null, .null, .null, .null, .int 0, .int 0, .int 0, .int 0]))] sz) := by
  refine Met.ofW (cc := cX9_init) (maxL := 3) (ret := none) (by decide) rfl ?_
  intro p e s m args below meth c s₁ B hml hv
  obtain ⟨rfl, hsz, hP, hK, hD0, hZW, hZR⟩ := hv
  have hx := B.exec
  have hb := B.bytes
  have hr := B.returns
  have hts := atoms_spec (ws := wsX9_init) B.pre
  have hown : s.vm.findClass RX9 = some m.cls := findClass_of_methodNamed B.named
  have hlocks := B.notSynchronized
  have hin : meth.name = "<init>" := (name_of_methodNamed B.named B.method).1
  subst hsz
  have hD := hD0.self (sz := s.heap.size)
  generalize hAe : va_A [(h0, .inr (9, [.null, .null, .null, .int 0, .null, .null, .null, .null, .null, .int 0, .int 0, .int 0, .int 0]))] s.heap.size = A at hD hZW ⊢
  have hA : ∀ q : Nat, s.heap.size ≤ q → A q := fun q h => by rw [← hAe]; exact Or.inr h
  have hP : va_P (dC, dI) vwCl [(h0, .inr (9, [.null, .null, .null, .int 0, .null, .null, .null, .null, .null, .int 0, .int 0, .int 0, .int 0]))] s.heap := hP
  have hl := lv_entry ([.ref h0]) (n := 3) (Nat.le_of_ble_eq_true rfl)
  rw [lg_entry_eq]
  generalize (lg_sl ([.ref h0]) ++ List.replicate (3 - (lg_sl ([.ref h0])).length) Slot.unset).toArray = ls at hl ⊢
  have hl : lv_has ls 3 [(0, .ref h0)] := hl
  obtain ⟨H, hH⟩ : ∃ H : Heap, s.heap = H := ⟨_, rfl⟩
  rw [hH] at hP ⊢
  have hS : va_S A s.heap H [] := by rw [← hH]; exact va_S.rf
  obtain ⟨locs, hlo⟩ : ∃ locs : List Loc, locs = [] := ⟨_, rfl⟩
  rw [← hlo] at hS ⊢
  refine lv_aload_n hx hb dX9_init_0 rfl (lv_at hl 0 rfl) ?_
  refine W.objInit hx hb hown (hts (.methodLink RX9 9 objectInit) (by decide +kernel)) (hts (.instanceMethod objectInit) (by decide +kernel)) (hts (.code objectInit ⟨#[0xb1]⟩ 1 none) (by decide +kernel)) rfl (by rw [hml]; exact hl.1) rfl dX9_init_1 (Nat.le_of_ble_eq_true rfl) (Nat.le_of_ble_eq_true rfl) ?_
  refine W.eq (g2 := F0 m 4 ls []) rfl ?_
  refine lv_aload_n hx hb dX9_init_4 rfl (lv_at hl 0 rfl) ?_
  refine lv_sipush (v := 3001) hx hb dX9_init_5 (by decide) ?_
  refine va_newa (atype := .int) (ty := .int) (N' := 3001) (a0 := (3001, .inl (fun _ => 0))) hx hb (hts (.arrayClass .int) (by decide +kernel)) rfl hK hP hD hS hA (fun _ => rfl) (by decide) (by decide) (by decide) (Nat.le_of_ble_eq_true rfl) (Nat.le_of_ble_eq_true rfl) dX9_init_8 ?_
  clear hK hP hD hS
  intro q_1 cq_1 H hK hP hD hS
  refine W.widen (k := 1) (n := 3001) (Nat.le_of_ble_eq_true rfl) (Nat.le_of_ble_eq_true rfl) ?_
  replace hK : va_K (dC, dI) vwCl [(cq_1, .int)] s := hK
  replace hP : va_P (dC, dI) vwCl [(h0, .inr (9, [.null, .null, .null, .int 0, .null, .null, .null, .null, .null, .int 0, .int 0, .int 0, .int 0])), (q_1, .inl (cq_1, 3001, .inl (fun _ => 0)))] H := hP
  replace hD : va_D A [(h0, .inr (9, [.null, .null, .null, .int 0, .null, .null, .null, .null, .null, .int 0, .int 0, .int 0, .int 0])), (q_1, .inl (cq_1, 3001, .inl (fun _ => 0)))] := hD
  refine va_putF (D := (dC, dI)) (ci := 9) (v := .ref q_1) (ty := .array .int) (C := RX9) (T := TX9) (N := 13) hx hb hts uX9_init_X9 tyX9 tyX9_ok nmX9 hown hK hP hD hS 0 rfl rfl 0 (by decide) (hts (.fieldLink RX9 15 "ClassMill$Text" "kinds" "[I") (by decide +kernel)) (fun _ h9 => h9) rfl hin rfl (by decide +kernel) rfl rfl (Nat.le_of_ble_eq_true rfl) dX9_init_10 ?_
  clear hP hD hS
  intro H locs hP hD hS
  replace hP : va_P (dC, dI) vwCl [(h0, .inr (9, [.ref q_1, .null, .null, .int 0, .null, .null, .null, .null, .null, .int 0, .int 0, .int 0, .int 0])), (q_1, .inl (cq_1, 3001, .inl (fun _ => 0)))] H := hP
  replace hD : va_D A [(h0, .inr (9, [.ref q_1, .null, .null, .int 0, .null, .null, .null, .null, .null, .int 0, .int 0, .int 0, .int 0])), (q_1, .inl (cq_1, 3001, .inl (fun _ => 0)))] := hD
  refine lv_aload_n hx hb dX9_init_13 rfl (lv_at hl 0 rfl) ?_
  refine lv_sipush (v := 3001) hx hb dX9_init_14 (by decide) ?_
  refine va_newa (atype := .int) (ty := .int) (N' := 3001) (a0 := (3001, .inl (fun _ => 0))) hx hb (hts (.arrayClass .int) (by decide +kernel)) rfl hK hP hD hS hA (fun _ => rfl) (by decide) (by decide) (by decide) (Nat.le_of_ble_eq_true rfl) (Nat.le_of_ble_eq_true rfl) dX9_init_17 ?_
  clear hK hP hD hS
  intro q_2 cq_2 H hK hP hD hS
  refine W.widen (k := 2) (n := 6002) (Nat.le_of_ble_eq_true rfl) (Nat.le_of_ble_eq_true rfl) ?_
  replace hK : va_K (dC, dI) vwCl [(cq_1, .int), (cq_2, .int)] s := hK
  replace hP : va_P (dC, dI) vwCl [(h0, .inr (9, [.ref q_1, .null, .null, .int 0, .null, .null, .null, .null, .null, .int 0, .int 0, .int 0, .int 0])), (q_1, .inl (cq_1, 3001, .inl (fun _ => 0))), (q_2, .inl (cq_2, 3001, .inl (fun _ => 0)))] H := hP
  replace hD : va_D A [(h0, .inr (9, [.ref q_1, .null, .null, .int 0, .null, .null, .null, .null, .null, .int 0, .int 0, .int 0, .int 0])), (q_1, .inl (cq_1, 3001, .inl (fun _ => 0))), (q_2, .inl (cq_2, 3001, .inl (fun _ => 0)))] := hD
  refine va_putF (D := (dC, dI)) (ci := 9) (v := .ref q_2) (ty := .array .int) (C := RX9) (T := TX9) (N := 13) hx hb hts uX9_init_X9 tyX9 tyX9_ok nmX9 hown hK hP hD hS 0 rfl rfl 1 (by decide) (hts (.fieldLink RX9 19 "ClassMill$Text" "places" "[I") (by decide +kernel)) (fun _ h9 => h9) rfl hin rfl (by decide +kernel) rfl rfl (Nat.le_of_ble_eq_true rfl) dX9_init_19 ?_
  clear hP hD hS
  intro H locs hP hD hS
  replace hP : va_P (dC, dI) vwCl [(h0, .inr (9, [.ref q_1, .ref q_2, .null, .int 0, .null, .null, .null, .null, .null, .int 0, .int 0, .int 0, .int 0])), (q_1, .inl (cq_1, 3001, .inl (fun _ => 0))), (q_2, .inl (cq_2, 3001, .inl (fun _ => 0)))] H := hP
  replace hD : va_D A [(h0, .inr (9, [.ref q_1, .ref q_2, .null, .int 0, .null, .null, .null, .null, .null, .int 0, .int 0, .int 0, .int 0])), (q_1, .inl (cq_1, 3001, .inl (fun _ => 0))), (q_2, .inl (cq_2, 3001, .inl (fun _ => 0)))] := hD
  refine lv_aload_n hx hb dX9_init_22 rfl (lv_at hl 0 rfl) ?_
  refine lv_sipush (v := 3001) hx hb dX9_init_23 (by decide) ?_
  refine va_newa (atype := .int) (ty := .int) (N' := 3001) (a0 := (3001, .inl (fun _ => 0))) hx hb (hts (.arrayClass .int) (by decide +kernel)) rfl hK hP hD hS hA (fun _ => rfl) (by decide) (by decide) (by decide) (Nat.le_of_ble_eq_true rfl) (Nat.le_of_ble_eq_true rfl) dX9_init_26 ?_
  clear hK hP hD hS
  intro q_3 cq_3 H hK hP hD hS
  refine W.widen (k := 3) (n := 9003) (Nat.le_of_ble_eq_true rfl) (Nat.le_of_ble_eq_true rfl) ?_
  replace hK : va_K (dC, dI) vwCl [(cq_1, .int), (cq_2, .int), (cq_3, .int)] s := hK
  replace hP : va_P (dC, dI) vwCl [(h0, .inr (9, [.ref q_1, .ref q_2, .null, .int 0, .null, .null, .null, .null, .null, .int 0, .int 0, .int 0, .int 0])), (q_1, .inl (cq_1, 3001, .inl (fun _ => 0))), (q_2, .inl (cq_2, 3001, .inl (fun _ => 0))), (q_3, .inl (cq_3, 3001, .inl (fun _ => 0)))] H := hP
  replace hD : va_D A [(h0, .inr (9, [.ref q_1, .ref q_2, .null, .int 0, .null, .null, .null, .null, .null, .int 0, .int 0, .int 0, .int 0])), (q_1, .inl (cq_1, 3001, .inl (fun _ => 0))), (q_2, .inl (cq_2, 3001, .inl (fun _ => 0))), (q_3, .inl (cq_3, 3001, .inl (fun _ => 0)))] := hD
  refine va_putF (D := (dC, dI)) (ci := 9) (v := .ref q_3) (ty := .array .int) (C := RX9) (T := TX9) (N := 13) hx hb hts uX9_init_X9 tyX9 tyX9_ok nmX9 hown hK hP hD hS 0 rfl rfl 2 (by decide) (hts (.fieldLink RX9 22 "ClassMill$Text" "values" "[I") (by decide +kernel)) (fun _ h9 => h9) rfl hin rfl (by decide +kernel) rfl rfl (Nat.le_of_ble_eq_true rfl) dX9_init_28 ?_
  clear hP hD hS
  intro H locs hP hD hS
  replace hP : va_P (dC, dI) vwCl [(h0, .inr (9, [.ref q_1, .ref q_2, .ref q_3, .int 0, .null, .null, .null, .null, .null, .int 0, .int 0, .int 0, .int 0])), (q_1, .inl (cq_1, 3001, .inl (fun _ => 0))), (q_2, .inl (cq_2, 3001, .inl (fun _ => 0))), (q_3, .inl (cq_3, 3001, .inl (fun _ => 0)))] H := hP
  replace hD : va_D A [(h0, .inr (9, [.ref q_1, .ref q_2, .ref q_3, .int 0, .null, .null, .null, .null, .null, .int 0, .int 0, .int 0, .int 0])), (q_1, .inl (cq_1, 3001, .inl (fun _ => 0))), (q_2, .inl (cq_2, 3001, .inl (fun _ => 0))), (q_3, .inl (cq_3, 3001, .inl (fun _ => 0)))] := hD
  refine lv_aload_n hx hb dX9_init_31 rfl (lv_at hl 0 rfl) ?_
  refine lv_sipush (v := 6400) hx hb dX9_init_32 (by decide) ?_
  refine va_newa (atype := .byte) (ty := .byte) (N' := 6400) (a0 := (6400, .inl (fun _ => 0))) hx hb (hts (.arrayClass .byte) (by decide +kernel)) rfl hK hP hD hS hA (fun _ => rfl) (by decide) (by decide) (by decide) (Nat.le_of_ble_eq_true rfl) (Nat.le_of_ble_eq_true rfl) dX9_init_35 ?_
  clear hK hP hD hS
  intro q_4 cq_4 H hK hP hD hS
  refine W.widen (k := 4) (n := 15403) (Nat.le_of_ble_eq_true rfl) (Nat.le_of_ble_eq_true rfl) ?_
  replace hK : va_K (dC, dI) vwCl [(cq_1, .int), (cq_2, .int), (cq_3, .int), (cq_4, .byte)] s := hK
  replace hP : va_P (dC, dI) vwCl [(h0, .inr (9, [.ref q_1, .ref q_2, .ref q_3, .int 0, .null, .null, .null, .null, .null, .int 0, .int 0, .int 0, .int 0])), (q_1, .inl (cq_1, 3001, .inl (fun _ => 0))), (q_2, .inl (cq_2, 3001, .inl (fun _ => 0))), (q_3, .inl (cq_3, 3001, .inl (fun _ => 0))), (q_4, .inl (cq_4, 6400, .inl (fun _ => 0)))] H := hP
  replace hD : va_D A [(h0, .inr (9, [.ref q_1, .ref q_2, .ref q_3, .int 0, .null, .null, .null, .null, .null, .int 0, .int 0, .int 0, .int 0])), (q_1, .inl (cq_1, 3001, .inl (fun _ => 0))), (q_2, .inl (cq_2, 3001, .inl (fun _ => 0))), (q_3, .inl (cq_3, 3001, .inl (fun _ => 0))), (q_4, .inl (cq_4, 6400, .inl (fun _ => 0)))] := hD
  refine va_putF (D := (dC, dI)) (ci := 9) (v := .ref q_4) (ty := .array .byte) (C := RX9) (T := TX9) (N := 13) hx hb hts uX9_init_X9 tyX9 tyX9_ok nmX9 hown hK hP hD hS 0 rfl rfl 4 (by decide) (hts (.fieldLink RX9 25 "ClassMill$Text" "letters" "[B") (by decide +kernel)) (fun _ h9 => h9) rfl hin rfl (by decide +kernel) rfl rfl (Nat.le_of_ble_eq_true rfl) dX9_init_37 ?_
  clear hP hD hS
  intro H locs hP hD hS
  replace hP : va_P (dC, dI) vwCl [(h0, .inr (9, [.ref q_1, .ref q_2, .ref q_3, .int 0, .ref q_4, .null, .null, .null, .null, .int 0, .int 0, .int 0, .int 0])), (q_1, .inl (cq_1, 3001, .inl (fun _ => 0))), (q_2, .inl (cq_2, 3001, .inl (fun _ => 0))), (q_3, .inl (cq_3, 3001, .inl (fun _ => 0))), (q_4, .inl (cq_4, 6400, .inl (fun _ => 0)))] H := hP
  replace hD : va_D A [(h0, .inr (9, [.ref q_1, .ref q_2, .ref q_3, .int 0, .ref q_4, .null, .null, .null, .null, .int 0, .int 0, .int 0, .int 0])), (q_1, .inl (cq_1, 3001, .inl (fun _ => 0))), (q_2, .inl (cq_2, 3001, .inl (fun _ => 0))), (q_3, .inl (cq_3, 3001, .inl (fun _ => 0))), (q_4, .inl (cq_4, 6400, .inl (fun _ => 0)))] := hD
  refine lv_aload_n hx hb dX9_init_40 rfl (lv_at hl 0 rfl) ?_
  refine lv_sipush (v := 1741) hx hb dX9_init_41 (by decide) ?_
  refine va_newa (atype := .int) (ty := .int) (N' := 1741) (a0 := (1741, .inl (fun _ => 0))) hx hb (hts (.arrayClass .int) (by decide +kernel)) rfl hK hP hD hS hA (fun _ => rfl) (by decide) (by decide) (by decide) (Nat.le_of_ble_eq_true rfl) (Nat.le_of_ble_eq_true rfl) dX9_init_44 ?_
  clear hK hP hD hS
  intro q_5 cq_5 H hK hP hD hS
  refine W.widen (k := 5) (n := 17144) (Nat.le_of_ble_eq_true rfl) (Nat.le_of_ble_eq_true rfl) ?_
  replace hK : va_K (dC, dI) vwCl [(cq_1, .int), (cq_2, .int), (cq_3, .int), (cq_4, .byte), (cq_5, .int)] s := hK
  replace hP : va_P (dC, dI) vwCl [(h0, .inr (9, [.ref q_1, .ref q_2, .ref q_3, .int 0, .ref q_4, .null, .null, .null, .null, .int 0, .int 0, .int 0, .int 0])), (q_1, .inl (cq_1, 3001, .inl (fun _ => 0))), (q_2, .inl (cq_2, 3001, .inl (fun _ => 0))), (q_3, .inl (cq_3, 3001, .inl (fun _ => 0))), (q_4, .inl (cq_4, 6400, .inl (fun _ => 0))), (q_5, .inl (cq_5, 1741, .inl (fun _ => 0)))] H := hP
  replace hD : va_D A [(h0, .inr (9, [.ref q_1, .ref q_2, .ref q_3, .int 0, .ref q_4, .null, .null, .null, .null, .int 0, .int 0, .int 0, .int 0])), (q_1, .inl (cq_1, 3001, .inl (fun _ => 0))), (q_2, .inl (cq_2, 3001, .inl (fun _ => 0))), (q_3, .inl (cq_3, 3001, .inl (fun _ => 0))), (q_4, .inl (cq_4, 6400, .inl (fun _ => 0))), (q_5, .inl (cq_5, 1741, .inl (fun _ => 0)))] := hD
  refine va_putF (D := (dC, dI)) (ci := 9) (v := .ref q_5) (ty := .array .int) (C := RX9) (T := TX9) (N := 13) hx hb hts uX9_init_X9 tyX9 tyX9_ok nmX9 hown hK hP hD hS 0 rfl rfl 5 (by decide) (hts (.fieldLink RX9 29 "ClassMill$Text" "nameAt" "[I") (by decide +kernel)) (fun _ h9 => h9) rfl hin rfl (by decide +kernel) rfl rfl (Nat.le_of_ble_eq_true rfl) dX9_init_46 ?_
  clear hP hD hS
  intro H locs hP hD hS
  replace hP : va_P (dC, dI) vwCl [(h0, .inr (9, [.ref q_1, .ref q_2, .ref q_3, .int 0, .ref q_4, .ref q_5, .null, .null, .null, .int 0, .int 0, .int 0, .int 0])), (q_1, .inl (cq_1, 3001, .inl (fun _ => 0))), (q_2, .inl (cq_2, 3001, .inl (fun _ => 0))), (q_3, .inl (cq_3, 3001, .inl (fun _ => 0))), (q_4, .inl (cq_4, 6400, .inl (fun _ => 0))), (q_5, .inl (cq_5, 1741, .inl (fun _ => 0)))] H := hP
  replace hD : va_D A [(h0, .inr (9, [.ref q_1, .ref q_2, .ref q_3, .int 0, .ref q_4, .ref q_5, .null, .null, .null, .int 0, .int 0, .int 0, .int 0])), (q_1, .inl (cq_1, 3001, .inl (fun _ => 0))), (q_2, .inl (cq_2, 3001, .inl (fun _ => 0))), (q_3, .inl (cq_3, 3001, .inl (fun _ => 0))), (q_4, .inl (cq_4, 6400, .inl (fun _ => 0))), (q_5, .inl (cq_5, 1741, .inl (fun _ => 0)))] := hD
  refine lv_aload_n hx hb dX9_init_49 rfl (lv_at hl 0 rfl) ?_
  refine lv_sipush (v := 1740) hx hb dX9_init_50 (by decide) ?_
  refine va_newa (atype := .int) (ty := .int) (N' := 1740) (a0 := (1740, .inl (fun _ => 0))) hx hb (hts (.arrayClass .int) (by decide +kernel)) rfl hK hP hD hS hA (fun _ => rfl) (by decide) (by decide) (by decide) (Nat.le_of_ble_eq_true rfl) (Nat.le_of_ble_eq_true rfl) dX9_init_53 ?_
  clear hK hP hD hS
  intro q_6 cq_6 H hK hP hD hS
  refine W.widen (k := 6) (n := 18884) (Nat.le_of_ble_eq_true rfl) (Nat.le_of_ble_eq_true rfl) ?_
  replace hK : va_K (dC, dI) vwCl [(cq_1, .int), (cq_2, .int), (cq_3, .int), (cq_4, .byte), (cq_5, .int), (cq_6, .int)] s := hK
  replace hP : va_P (dC, dI) vwCl [(h0, .inr (9, [.ref q_1, .ref q_2, .ref q_3, .int 0, .ref q_4, .ref q_5, .null, .null, .null, .int 0, .int 0, .int 0, .int 0])), (q_1, .inl (cq_1, 3001, .inl (fun _ => 0))), (q_2, .inl (cq_2, 3001, .inl (fun _ => 0))), (q_3, .inl (cq_3, 3001, .inl (fun _ => 0))), (q_4, .inl (cq_4, 6400, .inl (fun _ => 0))), (q_5, .inl (cq_5, 1741, .inl (fun _ => 0))), (q_6, .inl (cq_6, 1740, .inl (fun _ => 0)))] H := hP
  replace hD : va_D A [(h0, .inr (9, [.ref q_1, .ref q_2, .ref q_3, .int 0, .ref q_4, .ref q_5, .null, .null, .null, .int 0, .int 0, .int 0, .int 0])), (q_1, .inl (cq_1, 3001, .inl (fun _ => 0))), (q_2, .inl (cq_2, 3001, .inl (fun _ => 0))), (q_3, .inl (cq_3, 3001, .inl (fun _ => 0))), (q_4, .inl (cq_4, 6400, .inl (fun _ => 0))), (q_5, .inl (cq_5, 1741, .inl (fun _ => 0))), (q_6, .inl (cq_6, 1740, .inl (fun _ => 0)))] := hD
  refine va_putF (D := (dC, dI)) (ci := 9) (v := .ref q_6) (ty := .array .int) (C := RX9) (T := TX9) (N := 13) hx hb hts uX9_init_X9 tyX9 tyX9_ok nmX9 hown hK hP hD hS 0 rfl rfl 6 (by decide) (hts (.fieldLink RX9 32 "ClassMill$Text" "sameBucket" "[I") (by decide +kernel)) (fun _ h9 => h9) rfl hin rfl (by decide +kernel) rfl rfl (Nat.le_of_ble_eq_true rfl) dX9_init_55 ?_
  clear hP hD hS
  intro H locs hP hD hS
  replace hP : va_P (dC, dI) vwCl [(h0, .inr (9, [.ref q_1, .ref q_2, .ref q_3, .int 0, .ref q_4, .ref q_5, .ref q_6, .null, .null, .int 0, .int 0, .int 0, .int 0])), (q_1, .inl (cq_1, 3001, .inl (fun _ => 0))), (q_2, .inl (cq_2, 3001, .inl (fun _ => 0))), (q_3, .inl (cq_3, 3001, .inl (fun _ => 0))), (q_4, .inl (cq_4, 6400, .inl (fun _ => 0))), (q_5, .inl (cq_5, 1741, .inl (fun _ => 0))), (q_6, .inl (cq_6, 1740, .inl (fun _ => 0)))] H := hP
  replace hD : va_D A [(h0, .inr (9, [.ref q_1, .ref q_2, .ref q_3, .int 0, .ref q_4, .ref q_5, .ref q_6, .null, .null, .int 0, .int 0, .int 0, .int 0])), (q_1, .inl (cq_1, 3001, .inl (fun _ => 0))), (q_2, .inl (cq_2, 3001, .inl (fun _ => 0))), (q_3, .inl (cq_3, 3001, .inl (fun _ => 0))), (q_4, .inl (cq_4, 6400, .inl (fun _ => 0))), (q_5, .inl (cq_5, 1741, .inl (fun _ => 0))), (q_6, .inl (cq_6, 1740, .inl (fun _ => 0)))] := hD
  refine lv_aload_n hx hb dX9_init_58 rfl (lv_at hl 0 rfl) ?_
  refine lv_bipush (v := 64) hx hb dX9_init_59 (by decide) ?_
  refine va_newa (atype := .int) (ty := .int) (N' := 64) (a0 := (64, .inl (fun _ => 0))) hx hb (hts (.arrayClass .int) (by decide +kernel)) rfl hK hP hD hS hA (fun _ => rfl) (by decide) (by decide) (by decide) (Nat.le_of_ble_eq_true rfl) (Nat.le_of_ble_eq_true rfl) dX9_init_61 ?_
  clear hK hP hD hS
  intro q_7 cq_7 H hK hP hD hS
  refine W.widen (k := 7) (n := 18948) (Nat.le_of_ble_eq_true rfl) (Nat.le_of_ble_eq_true rfl) ?_
  replace hK : va_K (dC, dI) vwCl [(cq_1, .int), (cq_2, .int), (cq_3, .int), (cq_4, .byte), (cq_5, .int), (cq_6, .int), (cq_7, .int)] s := hK
  replace hP : va_P (dC, dI) vwCl [(h0, .inr (9, [.ref q_1, .ref q_2, .ref q_3, .int 0, .ref q_4, .ref q_5, .ref q_6, .null, .null, .int 0, .int 0, .int 0, .int 0])), (q_1, .inl (cq_1, 3001, .inl (fun _ => 0))), (q_2, .inl (cq_2, 3001, .inl (fun _ => 0))), (q_3, .inl (cq_3, 3001, .inl (fun _ => 0))), (q_4, .inl (cq_4, 6400, .inl (fun _ => 0))), (q_5, .inl (cq_5, 1741, .inl (fun _ => 0))), (q_6, .inl (cq_6, 1740, .inl (fun _ => 0))), (q_7, .inl (cq_7, 64, .inl (fun _ => 0)))] H := hP
  replace hD : va_D A [(h0, .inr (9, [.ref q_1, .ref q_2, .ref q_3, .int 0, .ref q_4, .ref q_5, .ref q_6, .null, .null, .int 0, .int 0, .int 0, .int 0])), (q_1, .inl (cq_1, 3001, .inl (fun _ => 0))), (q_2, .inl (cq_2, 3001, .inl (fun _ => 0))), (q_3, .inl (cq_3, 3001, .inl (fun _ => 0))), (q_4, .inl (cq_4, 6400, .inl (fun _ => 0))), (q_5, .inl (cq_5, 1741, .inl (fun _ => 0))), (q_6, .inl (cq_6, 1740, .inl (fun _ => 0))), (q_7, .inl (cq_7, 64, .inl (fun _ => 0)))] := hD
  refine va_putF (D := (dC, dI)) (ci := 9) (v := .ref q_7) (ty := .array .int) (C := RX9) (T := TX9) (N := 13) hx hb hts uX9_init_X9 tyX9 tyX9_ok nmX9 hown hK hP hD hS 0 rfl rfl 7 (by decide) (hts (.fieldLink RX9 35 "ClassMill$Text" "bucket" "[I") (by decide +kernel)) (fun _ h9 => h9) rfl hin rfl (by decide +kernel) rfl rfl (Nat.le_of_ble_eq_true rfl) dX9_init_63 ?_
  clear hP hD hS
  intro H locs hP hD hS
  replace hP : va_P (dC, dI) vwCl [(h0, .inr (9, [.ref q_1, .ref q_2, .ref q_3, .int 0, .ref q_4, .ref q_5, .ref q_6, .ref q_7, .null, .int 0, .int 0, .int 0, .int 0])), (q_1, .inl (cq_1, 3001, .inl (fun _ => 0))), (q_2, .inl (cq_2, 3001, .inl (fun _ => 0))), (q_3, .inl (cq_3, 3001, .inl (fun _ => 0))), (q_4, .inl (cq_4, 6400, .inl (fun _ => 0))), (q_5, .inl (cq_5, 1741, .inl (fun _ => 0))), (q_6, .inl (cq_6, 1740, .inl (fun _ => 0))), (q_7, .inl (cq_7, 64, .inl (fun _ => 0)))] H := hP
  replace hD : va_D A [(h0, .inr (9, [.ref q_1, .ref q_2, .ref q_3, .int 0, .ref q_4, .ref q_5, .ref q_6, .ref q_7, .null, .int 0, .int 0, .int 0, .int 0])), (q_1, .inl (cq_1, 3001, .inl (fun _ => 0))), (q_2, .inl (cq_2, 3001, .inl (fun _ => 0))), (q_3, .inl (cq_3, 3001, .inl (fun _ => 0))), (q_4, .inl (cq_4, 6400, .inl (fun _ => 0))), (q_5, .inl (cq_5, 1741, .inl (fun _ => 0))), (q_6, .inl (cq_6, 1740, .inl (fun _ => 0))), (q_7, .inl (cq_7, 64, .inl (fun _ => 0)))] := hD
  refine lv_aload_n hx hb dX9_init_66 rfl (lv_at hl 0 rfl) ?_
  refine lv_bipush (v := 64) hx hb dX9_init_67 (by decide) ?_
  refine va_newa (atype := .int) (ty := .int) (N' := 64) (a0 := (64, .inl (fun _ => 0))) hx hb (hts (.arrayClass .int) (by decide +kernel)) rfl hK hP hD hS hA (fun _ => rfl) (by decide) (by decide) (by decide) (Nat.le_of_ble_eq_true rfl) (Nat.le_of_ble_eq_true rfl) dX9_init_69 ?_
  clear hK hP hD hS
  intro q_8 cq_8 H hK hP hD hS
  refine W.widen (k := 8) (n := 19012) (Nat.le_of_ble_eq_true rfl) (Nat.le_of_ble_eq_true rfl) ?_
  replace hK : va_K (dC, dI) vwCl [(cq_1, .int), (cq_2, .int), (cq_3, .int), (cq_4, .byte), (cq_5, .int), (cq_6, .int), (cq_7, .int), (cq_8, .int)] s := hK
  replace hP : va_P (dC, dI) vwCl [(h0, .inr (9, [.ref q_1, .ref q_2, .ref q_3, .int 0, .ref q_4, .ref q_5, .ref q_6, .ref q_7, .null, .int 0, .int 0, .int 0, .int 0])), (q_1, .inl (cq_1, 3001, .inl (fun _ => 0))), (q_2, .inl (cq_2, 3001, .inl (fun _ => 0))), (q_3, .inl (cq_3, 3001, .inl (fun _ => 0))), (q_4, .inl (cq_4, 6400, .inl (fun _ => 0))), (q_5, .inl (cq_5, 1741, .inl (fun _ => 0))), (q_6, .inl (cq_6, 1740, .inl (fun _ => 0))), (q_7, .inl (cq_7, 64, .inl (fun _ => 0))), (q_8, .inl (cq_8, 64, .inl (fun _ => 0)))] H := hP
  replace hD : va_D A [(h0, .inr (9, [.ref q_1, .ref q_2, .ref q_3, .int 0, .ref q_4, .ref q_5, .ref q_6, .ref q_7, .null, .int 0, .int 0, .int 0, .int 0])), (q_1, .inl (cq_1, 3001, .inl (fun _ => 0))), (q_2, .inl (cq_2, 3001, .inl (fun _ => 0))), (q_3, .inl (cq_3, 3001, .inl (fun _ => 0))), (q_4, .inl (cq_4, 6400, .inl (fun _ => 0))), (q_5, .inl (cq_5, 1741, .inl (fun _ => 0))), (q_6, .inl (cq_6, 1740, .inl (fun _ => 0))), (q_7, .inl (cq_7, 64, .inl (fun _ => 0))), (q_8, .inl (cq_8, 64, .inl (fun _ => 0)))] := hD
  refine va_putF (D := (dC, dI)) (ci := 9) (v := .ref q_8) (ty := .array .int) (C := RX9) (T := TX9) (N := 13) hx hb hts uX9_init_X9 tyX9 tyX9_ok nmX9 hown hK hP hD hS 0 rfl rfl 8 (by decide) (hts (.fieldLink RX9 38 "ClassMill$Text" "knownBucket" "[I") (by decide +kernel)) (fun _ h9 => h9) rfl hin rfl (by decide +kernel) rfl rfl (Nat.le_of_ble_eq_true rfl) dX9_init_71 ?_
  clear hP hD hS
  intro H locs hP hD hS
  replace hP : va_P (dC, dI) vwCl [(h0, .inr (9, [.ref q_1, .ref q_2, .ref q_3, .int 0, .ref q_4, .ref q_5, .ref q_6, .ref q_7, .ref q_8, .int 0, .int 0, .int 0, .int 0])), (q_1, .inl (cq_1, 3001, .inl (fun _ => 0))), (q_2, .inl (cq_2, 3001, .inl (fun _ => 0))), (q_3, .inl (cq_3, 3001, .inl (fun _ => 0))), (q_4, .inl (cq_4, 6400, .inl (fun _ => 0))), (q_5, .inl (cq_5, 1741, .inl (fun _ => 0))), (q_6, .inl (cq_6, 1740, .inl (fun _ => 0))), (q_7, .inl (cq_7, 64, .inl (fun _ => 0))), (q_8, .inl (cq_8, 64, .inl (fun _ => 0)))] H := hP
  replace hD : va_D A [(h0, .inr (9, [.ref q_1, .ref q_2, .ref q_3, .int 0, .ref q_4, .ref q_5, .ref q_6, .ref q_7, .ref q_8, .int 0, .int 0, .int 0, .int 0])), (q_1, .inl (cq_1, 3001, .inl (fun _ => 0))), (q_2, .inl (cq_2, 3001, .inl (fun _ => 0))), (q_3, .inl (cq_3, 3001, .inl (fun _ => 0))), (q_4, .inl (cq_4, 6400, .inl (fun _ => 0))), (q_5, .inl (cq_5, 1741, .inl (fun _ => 0))), (q_6, .inl (cq_6, 1740, .inl (fun _ => 0))), (q_7, .inl (cq_7, 64, .inl (fun _ => 0))), (q_8, .inl (cq_8, 64, .inl (fun _ => 0)))] := hD
  refine lv_aload_n hx hb dX9_init_74 rfl (lv_at hl 0 rfl) ?_
  refine lv_iconst (v := (-1)) hx hb dX9_init_75 (by decide) ?_
  refine va_put (D := (dC, dI)) (ci := 9) (v := .int (-1)) (ty := .int) (C := RX9) (T := TX9) (N := 13) hx hb hts uX9_init_X9 tyX9 tyX9_ok nmX9 hown hK hP hD hS 0 rfl rfl 12 (by decide) (hts (.fieldLink RX9 41 "ClassMill$Text" "place" "I") (by decide +kernel)) (fun _ h9 => h9) rfl (by decide +kernel) rfl rfl (Nat.le_of_ble_eq_true rfl) dX9_init_76 ?_
  clear hP hD hS
  intro H locs hP hD hS
  replace hP : va_P (dC, dI) vwCl [(h0, .inr (9, [.ref q_1, .ref q_2, .ref q_3, .int 0, .ref q_4, .ref q_5, .ref q_6, .ref q_7, .ref q_8, .int 0, .int 0, .int 0, .int (-1)])), (q_1, .inl (cq_1, 3001, .inl (fun _ => 0))), (q_2, .inl (cq_2, 3001, .inl (fun _ => 0))), (q_3, .inl (cq_3, 3001, .inl (fun _ => 0))), (q_4, .inl (cq_4, 6400, .inl (fun _ => 0))), (q_5, .inl (cq_5, 1741, .inl (fun _ => 0))), (q_6, .inl (cq_6, 1740, .inl (fun _ => 0))), (q_7, .inl (cq_7, 64, .inl (fun _ => 0))), (q_8, .inl (cq_8, 64, .inl (fun _ => 0)))] H := hP
  replace hD : va_D A [(h0, .inr (9, [.ref q_1, .ref q_2, .ref q_3, .int 0, .ref q_4, .ref q_5, .ref q_6, .ref q_7, .ref q_8, .int 0, .int 0, .int 0, .int (-1)])), (q_1, .inl (cq_1, 3001, .inl (fun _ => 0))), (q_2, .inl (cq_2, 3001, .inl (fun _ => 0))), (q_3, .inl (cq_3, 3001, .inl (fun _ => 0))), (q_4, .inl (cq_4, 6400, .inl (fun _ => 0))), (q_5, .inl (cq_5, 1741, .inl (fun _ => 0))), (q_6, .inl (cq_6, 1740, .inl (fun _ => 0))), (q_7, .inl (cq_7, 64, .inl (fun _ => 0))), (q_8, .inl (cq_8, 64, .inl (fun _ => 0)))] := hD
  refine lv_aload_n hx hb dX9_init_79 rfl (lv_at hl 0 rfl) ?_
  refine va_get (D := (dC, dI)) (ci := 9) (v := .ref q_7) (C := RX9) (T := TX9) (N := 13) hx hb hts uX9_init_X9 hown hK hP 0 rfl rfl 7 (by decide) (hts (.fieldLink RX9 35 "ClassMill$Text" "bucket" "[I") (by decide +kernel)) (fun _ h9 => h9) rfl dX9_init_80 ?_
  refine lv_iconst (v := (-1)) hx hb dX9_init_83 (by decide) ?_
  have hPc := hP.sub (ws' := [(q_7, .inl (cq_7, 64, .inl (fun _ => 0)))]) [7] rfl
  have hDc := hD.sub (ws' := [(q_7, .inl (cq_7, 64, .inl (fun _ => 0)))]) [7] (by decide) rfl
  have hKc := hK.sub (tys' := [(cq_7, .int)]) [6] rfl
  have hFc := va_free (wc := [(q_7, .inl (cq_7, 64, .inl (fun _ => 0)))]) hD hS hA [7] rfl
  refine va_callv (va_runS (As := [.ref q_7, .int (-1)]) (rest := []) ⟨hx, hb, hml, hown, hts⟩ (ct_fill l dC dI H.size q_7 64 cq_7 ((fun _ => 0)) (-1) (by decide)) (va_cwS 2 hts gX9_init_J7_fill_53178 rfl rfl rfl (by decide +kernel) ⟨Nat.le_of_ble_eq_true rfl, Nat.le_of_ble_eq_true rfl⟩) ⟨fun a U g mk q => by obtain ⟨q0, q1, qP, qK, qD⟩ := q; exact ⟨q0, q1, qP, va_K.moved (u := U) (U := U.calling g mk a) (Vm.Alike.refl U.vm) qK, qD⟩, fun U hU hW => ⟨rfl, by rw [hU], by rw [hU]; exact hPc, va_K.moved hW.alike hKc, hDc.weaken (fun _ _ _ _ => trivial)⟩⟩ rfl rfl hl.1 rfl (lv_room (Nat.le_of_ble_eq_true rfl)) dX9_init_84 ⟨Nat.le_of_ble_eq_true rfl, Nat.le_of_ble_eq_true rfl⟩) hS (fun q _ h => hFc q h) hFc ?_
  clear hS
  intro u t H1 locs ht hvm hw hB hz1 hk1 hS
  obtain ⟨f_9, rfl⟩ : ∃ z, z = u := ⟨_, rfl⟩
  obtain ⟨hP1, hK1, hD1⟩ := hB
  rw [ht] at hP1
  have hK1 := va_K.moved hvm.symm hK1
  try dsimp only at hw
  have hPD := va_join (wr := [(h0, .inr (9, [.ref q_1, .ref q_2, .ref q_3, .int 0, .ref q_4, .ref q_5, .ref q_6, .ref q_7, .ref q_8, .int 0, .int 0, .int 0, .int (-1)])), (q_1, .inl (cq_1, 3001, .inl (fun _ => 0))), (q_2, .inl (cq_2, 3001, .inl (fun _ => 0))), (q_3, .inl (cq_3, 3001, .inl (fun _ => 0))), (q_4, .inl (cq_4, 6400, .inl (fun _ => 0))), (q_5, .inl (cq_5, 1741, .inl (fun _ => 0))), (q_6, .inl (cq_6, 1740, .inl (fun _ => 0))), (q_8, .inl (cq_8, 64, .inl (fun _ => 0)))]) (w1 := [(q_7, .inl (cq_7, 64, .inl f_9))]) hP hD [7] [0, 1, 2, 3, 4, 5, 6, 8] rfl rfl (by decide) (by decide) hk1 hFc hP1 hD1
  clear hP hD
  obtain ⟨hP, hD⟩ := hPD
  replace hK := (hK.sub (tys' := [(cq_1, .int), (cq_2, .int), (cq_3, .int), (cq_4, .byte), (cq_5, .int), (cq_6, .int), (cq_8, .int)]) [0, 1, 2, 3, 4, 5, 7] rfl).app hK1
  clear hPc hDc hKc hFc hP1 hK1 hD1 hz1 hk1 ht hvm
  generalize H1 = H at hP hS ⊢
  replace hP : va_P (dC, dI) vwCl [(h0, .inr (9, [.ref q_1, .ref q_2, .ref q_3, .int 0, .ref q_4, .ref q_5, .ref q_6, .ref q_7, .ref q_8, .int 0, .int 0, .int 0, .int (-1)])), (q_1, .inl (cq_1, 3001, .inl (fun _ => 0))), (q_2, .inl (cq_2, 3001, .inl (fun _ => 0))), (q_3, .inl (cq_3, 3001, .inl (fun _ => 0))), (q_4, .inl (cq_4, 6400, .inl (fun _ => 0))), (q_5, .inl (cq_5, 1741, .inl (fun _ => 0))), (q_6, .inl (cq_6, 1740, .inl (fun _ => 0))), (q_8, .inl (cq_8, 64, .inl (fun _ => 0))), (q_7, .inl (cq_7, 64, .inl f_9))] H := hP
  replace hD : va_D A [(h0, .inr (9, [.ref q_1, .ref q_2, .ref q_3, .int 0, .ref q_4, .ref q_5, .ref q_6, .ref q_7, .ref q_8, .int 0, .int 0, .int 0, .int (-1)])), (q_1, .inl (cq_1, 3001, .inl (fun _ => 0))), (q_2, .inl (cq_2, 3001, .inl (fun _ => 0))), (q_3, .inl (cq_3, 3001, .inl (fun _ => 0))), (q_4, .inl (cq_4, 6400, .inl (fun _ => 0))), (q_5, .inl (cq_5, 1741, .inl (fun _ => 0))), (q_6, .inl (cq_6, 1740, .inl (fun _ => 0))), (q_8, .inl (cq_8, 64, .inl (fun _ => 0))), (q_7, .inl (cq_7, 64, .inl f_9))] := hD
  replace hK : va_K (dC, dI) vwCl [(cq_1, .int), (cq_2, .int), (cq_3, .int), (cq_4, .byte), (cq_5, .int), (cq_6, .int), (cq_8, .int), (cq_7, .int)] s := hK
  refine lv_iconst (v := 0) hx hb dX9_init_87 (by decide) ?_
  refine lv_istore_n (lv' := [(1, .int 0), (0, .ref h0)]) hx hb dX9_init_88 rfl hl (by decide) rfl (fun ls hl => ?_)
  refine lv_iconst (v := 0) hx hb dX9_init_89 (by decide) ?_
  refine lv_istore_n (lv' := [(2, .int 0), (1, .int 0), (0, .ref h0)]) hx hb dX9_init_90 rfl hl (by decide) rfl (fun ls hl => ?_)
  have hP := hP.sub (ws' := [(q_1, .inl (cq_1, 3001, .inl (fun _ => 0))), (q_2, .inl (cq_2, 3001, .inl (fun _ => 0))), (q_3, .inl (cq_3, 3001, .inl (fun _ => 0))), (q_8, .inl (cq_8, 64, .inl (fun _ => 0))), (h0, .inr (9, [.ref q_1, .ref q_2, .ref q_3, .int 0, .ref q_4, .ref q_5, .ref q_6, .ref q_7, .ref q_8, .int 0, .int 0, .int 0, .int (-1)])), (q_4, .inl (cq_4, 6400, .inl (fun _ => 0))), (q_5, .inl (cq_5, 1741, .inl (fun _ => 0))), (q_6, .inl (cq_6, 1740, .inl (fun _ => 0))), (q_7, .inl (cq_7, 64, .inl f_9))]) [1, 2, 3, 7, 0, 4, 5, 6, 8] rfl
  have hD := hD.sub (ws' := [(q_1, .inl (cq_1, 3001, .inl (fun _ => 0))), (q_2, .inl (cq_2, 3001, .inl (fun _ => 0))), (q_3, .inl (cq_3, 3001, .inl (fun _ => 0))), (q_8, .inl (cq_8, 64, .inl (fun _ => 0))), (h0, .inr (9, [.ref q_1, .ref q_2, .ref q_3, .int 0, .ref q_4, .ref q_5, .ref q_6, .ref q_7, .ref q_8, .int 0, .int 0, .int 0, .int (-1)])), (q_4, .inl (cq_4, 6400, .inl (fun _ => 0))), (q_5, .inl (cq_5, 1741, .inl (fun _ => 0))), (q_6, .inl (cq_6, 1740, .inl (fun _ => 0))), (q_7, .inl (cq_7, 64, .inl f_9))]) [1, 2, 3, 7, 0, 4, 5, 6, 8] (by decide) rfl
  have hK := hK.sub (tys' := [(cq_1, .int), (cq_2, .int), (cq_3, .int), (cq_8, .int), (cq_4, .byte), (cq_5, .int), (cq_6, .int), (cq_7, .int)]) [0, 1, 2, 6, 3, 4, 5, 7] rfl
  refine lp_text hx hb hml hown hts hA htn hc0 hZW hZR hK ?_ (tn + 1) 0 0 0 0 (fun _ => 0) (fun _ => 0) (fun _ => 0) f_9 (by omega) (by omega) (by omega) (by omega) (by omega) (fun h => absurd h (by omega)) rfl H locs ls hP hD hS (lv_sub hl [0, 1, 2] rfl)
  intro k a ee fle fna fsb fbu H locs ls hP hD hS hl
  replace hP : va_P (dC, dI) vwCl [(q_1, .inl (cq_1, 3001, .inl (fun _ => 0))), (q_2, .inl (cq_2, 3001, .inl (fun _ => 0))), (q_3, .inl (cq_3, 3001, .inl (fun _ => 0))), (q_8, .inl (cq_8, 64, .inl (fun _ => 0))), (h0, .inr (9, [.ref q_1, .ref q_2, .ref q_3, .int 0, .ref q_4, .ref q_5, .ref q_6, .ref q_7, .ref q_8, .int (nI k), .int 0, .int 0, .int (-1)])), (q_4, .inl (cq_4, 6400, .inl fle)), (q_5, .inl (cq_5, 1741, .inl fna)), (q_6, .inl (cq_6, 1740, .inl fsb)), (q_7, .inl (cq_7, 64, .inl fbu))] H := hP
  replace hD : va_D A [(q_1, .inl (cq_1, 3001, .inl (fun _ => 0))), (q_2, .inl (cq_2, 3001, .inl (fun _ => 0))), (q_3, .inl (cq_3, 3001, .inl (fun _ => 0))), (q_8, .inl (cq_8, 64, .inl (fun _ => 0))), (h0, .inr (9, [.ref q_1, .ref q_2, .ref q_3, .int 0, .ref q_4, .ref q_5, .ref q_6, .ref q_7, .ref q_8, .int (nI k), .int 0, .int 0, .int (-1)])), (q_4, .inl (cq_4, 6400, .inl fle)), (q_5, .inl (cq_5, 1741, .inl fna)), (q_6, .inl (cq_6, 1740, .inl fsb)), (q_7, .inl (cq_7, 64, .inl fbu))] := hD
  refine lv_aload_n hx hb dX9_init_141 rfl (lv_at hl 0 rfl) ?_
  refine va_get (D := (dC, dI)) (ci := 9) (v := .ref q_7) (C := RX9) (T := TX9) (N := 13) hx hb hts uX9_init_X9 hown hK hP 4 rfl rfl 7 (by decide) (hts (.fieldLink RX9 35 "ClassMill$Text" "bucket" "[I") (by decide +kernel)) (fun _ h9 => h9) rfl dX9_init_142 ?_
  refine lv_iconst (v := 0) hx hb dX9_init_145 (by decide) ?_
  refine lv_aload_n hx hb dX9_init_146 rfl (lv_at hl 0 rfl) ?_
  refine va_get (D := (dC, dI)) (ci := 9) (v := .ref q_8) (C := RX9) (T := TX9) (N := 13) hx hb hts uX9_init_X9 hown hK hP 4 rfl rfl 8 (by decide) (hts (.fieldLink RX9 38 "ClassMill$Text" "knownBucket" "[I") (by decide +kernel)) (fun _ h9 => h9) rfl dX9_init_147 ?_
  refine lv_iconst (v := 0) hx hb dX9_init_150 (by decide) ?_
  refine lv_bipush (v := 64) hx hb dX9_init_151 (by decide) ?_
  refine va_copyi hx hb (by rw [hml]; exact hl.1.symm) hown (hts (.methodLink RX9 67 arraycopyName) (by decide +kernel)) (hts (.native arraycopyName) (by decide +kernel)) (hts (.static arraycopyName) (by decide +kernel)) (hts (.initialized "java/lang/System") (by decide +kernel)) hK hP hD hS 8 3 7 3 rfl rfl rfl rfl rfl (sp := 0) (dp := 0) (n := 64) (by decide) (by decide) (by decide) (by decide) (by decide) (fun _ _ => rfl) (Nat.le_of_ble_eq_true rfl) (Nat.le_of_ble_eq_true rfl) dX9_init_153 ?_
  clear hP hD hS
  intro H locs hP hD hS
  obtain ⟨fkn, efkn⟩ : ∃ zf : Nat → Int32, zf = va_cpy fbu (fun _ => 0) (0 : Int32).toNatClampNeg (0 : Int32).toNatClampNeg (64 : Int32).toNatClampNeg := ⟨_, rfl⟩
  rw [← efkn] at hP hD
  replace hP : va_P (dC, dI) vwCl [(q_1, .inl (cq_1, 3001, .inl (fun _ => 0))), (q_2, .inl (cq_2, 3001, .inl (fun _ => 0))), (q_3, .inl (cq_3, 3001, .inl (fun _ => 0))), (q_8, .inl (cq_8, 64, .inl fkn)), (h0, .inr (9, [.ref q_1, .ref q_2, .ref q_3, .int 0, .ref q_4, .ref q_5, .ref q_6, .ref q_7, .ref q_8, .int (nI k), .int 0, .int 0, .int (-1)])), (q_4, .inl (cq_4, 6400, .inl fle)), (q_5, .inl (cq_5, 1741, .inl fna)), (q_6, .inl (cq_6, 1740, .inl fsb)), (q_7, .inl (cq_7, 64, .inl fbu))] H := hP
  replace hD : va_D A [(q_1, .inl (cq_1, 3001, .inl (fun _ => 0))), (q_2, .inl (cq_2, 3001, .inl (fun _ => 0))), (q_3, .inl (cq_3, 3001, .inl (fun _ => 0))), (q_8, .inl (cq_8, 64, .inl fkn)), (h0, .inr (9, [.ref q_1, .ref q_2, .ref q_3, .int 0, .ref q_4, .ref q_5, .ref q_6, .ref q_7, .ref q_8, .int (nI k), .int 0, .int 0, .int (-1)])), (q_4, .inl (cq_4, 6400, .inl fle)), (q_5, .inl (cq_5, 1741, .inl fna)), (q_6, .inl (cq_6, 1740, .inl fsb)), (q_7, .inl (cq_7, 64, .inl fbu))] := hD
  have hP9 := hP.sub (ws' := [(h0, .inr (9, [.ref q_1, .ref q_2, .ref q_3, .int 0, .ref q_4, .ref q_5, .ref q_6, .ref q_7, .ref q_8, .int (nI k), .int 0, .int 0, .int (-1)])), (q_1, .inl (cq_1, 3001, .inl (fun _ => 0))), (q_2, .inl (cq_2, 3001, .inl (fun _ => 0))), (q_3, .inl (cq_3, 3001, .inl (fun _ => 0))), (q_7, .inl (cq_7, 64, .inl fbu)), (q_8, .inl (cq_8, 64, .inl fkn))]) [4, 0, 1, 2, 8, 3] rfl
  have hD9 := hD.sub (ws' := [(h0, .inr (9, [.ref q_1, .ref q_2, .ref q_3, .int 0, .ref q_4, .ref q_5, .ref q_6, .ref q_7, .ref q_8, .int (nI k), .int 0, .int 0, .int (-1)])), (q_1, .inl (cq_1, 3001, .inl (fun _ => 0))), (q_2, .inl (cq_2, 3001, .inl (fun _ => 0))), (q_3, .inl (cq_3, 3001, .inl (fun _ => 0))), (q_7, .inl (cq_7, 64, .inl fbu)), (q_8, .inl (cq_8, 64, .inl fkn))]) [4, 0, 1, 2, 8, 3] (by decide) rfl
  have hK9 := hK.sub (tys' := [(cq_1, .int), (cq_2, .int), (cq_3, .int), (cq_7, .int), (cq_8, .int)]) [0, 1, 2, 7, 3] rfl
  exact W.vret hx hb hr (fun t ht hW => ⟨⟨(q_1, q_2, q_3, q_4, q_5, q_6, q_7, q_8, k, cq_1, cq_2, cq_3, cq_7, fbu, cq_8, fkn), rfl, trivial, by rw [ht]; exact hP9, va_K.moved hW.alike hK9, hD9⟩, hS.F ht⟩) hS.2.2 dX9_init_156

set_option maxHeartbeats 4000000 in
set_option maxRecDepth 100000 in
/-- ClassMill$Verifier.proveFrames -/
theorem t11_proveFrames (l : Launch) (dC : Nat → ClassId) (dI : Nat → Nat → Nat) (sz : Nat) (h0 : Nat) (qf0 : Nat) (qf1 : Nat) (v2 : Int32) (v3 : Int32) (v4 : Int32) (qf5 : Nat) (v6 : Int32) (v7 : Int32) (qf8 : Nat) (qf9 : Nat) (qf10 : Nat) (qf11 : Nat) (qf12 : Nat) (qf13 : Nat) (qf14 : Nat) (qf15 : Nat) (v16 : Int32) (v17 : Int32) (v18 : Int32) (v19 : Int32) (v20 : Int32) (qf5_0 : Nat) (v5_1 : Int32) (v5_2 : Int32) (v5_3 : Int32) (qf5_4 : Nat) (qf5_5 : Nat) (qf5_6 : Nat) (v5_7 : Int32) (v5_8 : Int32) (v5_9 : Int32) (v5_10 : Int32) (qf5_11 : Nat) (v5_12 : Int32) (qf5_13 : Nat) (cf5_13 : ClassId) (f5_13 : (Nat → Int32)) (cf13 : ClassId) (f13 : (Nat → Int32)) (cf12 : ClassId) (f12 : (Nat → Int32)) (nf : Nat) (r0 : Int32) (w7 : Int32) (hsp : sp_t11_proveFrames nf v6 v7 v16 v5_12 f5_13 f13 f12 = some (r0, w7)) : Met l yX11_proveFrames (.code yX11_proveFrames cX11_proveFrames 5 (some .int) :: VS_h3) ({ frames := 2, cells := 0, slots := 0, locals := 44 }) (va_Pc [.ref h0] (fun U => U.heap.size = sz ∧ va_P (dC, dI) vwCl [(h0, .inr (11, [.ref qf0, .ref qf1, .int v2, .int v3, .int v4, .ref qf5, .int v6, .int v7, .ref qf8, .ref qf9, .ref qf10, .ref qf11, .ref qf12, .ref qf13, .ref qf14, .ref qf15, .int v16, .int v17, .int v18, .int v19, .int v20])), (qf5, .inr (3, [.ref qf5_0, .int v5_1, .int v5_2, .int v5_3, .ref qf5_4, .ref qf5_5, .ref qf5_6, .int v5_7, .int v5_8, .int v5_9, .int v5_10, .ref qf5_11, .int v5_12, .ref qf5_13])), (qf5_13, .inl (cf5_13, 144, .inl f5_13)), (qf13, .inl (cf13, 6400, .inl f13)), (qf12, .inl (cf12, 1500, .inl f12))] U.heap ∧ va_K (dC, dI) vwCl [(cf5_13, .int), (cf13, .int), (cf12, .int)] U ∧ va_D (fun _ => True) [(h0, .inr (11, [.ref qf0, .ref qf1, .int v2, .int v3, .int v4, .ref qf5, .int v6, .int v7, .ref qf8, .ref qf9, .ref qf10, .ref qf11, .ref qf12, .ref qf13, .ref qf14, .ref qf15, .int v16, .int v17, .int v18, .int v19, .int v20])), (qf5, .inr (3, [.ref qf5_0, .int v5_1, .int v5_2, .int v5_3, .ref qf5_4, .ref qf5_5, .ref qf5_6, .int v5_7, .int v5_8, .int v5_9, .int v5_10, .ref qf5_11, .int v5_12, .ref qf5_13])), (qf5_13, .inl (cf5_13, 144, .inl f5_13)), (qf13, .inl (cf13, 6400, .inl f13)), (qf12, .inl (cf12, 1500, .inl f12))])) (va_Qi (fun (r : Int32) (u : Unit) => match u with | () => r0 = r) (fun (u : Unit) (t : State) => match u with | () => va_P (dC, dI) vwCl [(h0, .inr (11, [.ref qf0, .ref qf1, .int v2, .int v3, .int v4, .ref qf5, .int v6, .int w7, .ref qf8, .ref qf9, .ref qf10, .ref qf11, .ref qf12, .ref qf13, .ref qf14, .ref qf15, .int v16, .int v17, .int v18, .int v19, .int v20])), (qf5, .inr (3, [.ref qf5_0, .int v5_1, .int v5_2, .int v5_3, .ref qf5_4, .ref qf5_5, .ref qf5_6, .int v5_7, .int v5_8, .int v5_9, .int v5_10, .ref qf5_11, .int v5_12, .ref qf5_13])), (qf5_13, .inl (cf5_13, 144, .inl f5_13)), (qf13, .inl (cf13, 6400, .inl f13)), (qf12, .inl (cf12, 1500, .inl f12))] t.heap ∧ va_K (dC, dI) vwCl [(cf5_13, .int), (cf13, .int), (cf12, .int)] t ∧ va_D (va_A [(h0, .inr (11, [.ref qf0, .ref qf1, .int v2, .int v3, .int v4, .ref qf5, .int v6, .int v7, .ref qf8, .ref qf9, .ref qf10, .ref qf11, .ref qf12, .ref qf13, .ref qf14, .ref qf15, .int v16, .int v17, .int v18, .int v19, .int v20])), (qf5, .inr (3, [.ref qf5_0, .int v5_1, .int v5_2, .int v5_3, .ref qf5_4, .ref qf5_5, .ref qf5_6, .int v5_7, .int v5_8, .int v5_9, .int v5_10, .ref qf5_11, .int v5_12, .ref qf5_13])), (qf5_13, .inl (cf5_13, 144, .inl f5_13)), (qf13, .inl (cf13, 6400, .inl f13)), (qf12, .inl (cf12, 1500, .inl f12))] sz) [(h0, .inr (11, [.ref qf0, .ref qf1, .int v2, .int v3, .int v4, .ref qf5, .int v6, .int w7, .ref qf8, .ref qf9, .ref qf10, .ref qf11, .ref qf12, .ref qf13, .ref qf14, .ref qf15, .int v16, .int v17, .int v18, .int v19, .int v20])), (qf5, .inr (3, [.ref qf5_0, .int v5_1, .int v5_2, .int v5_3, .ref qf5_4, .ref qf5_5, .ref qf5_6, .int v5_7, .int v5_8, .int v5_9, .int v5_10, .ref qf5_11, .int v5_12, .ref qf5_13])), (qf5_13, .inl (cf5_13, 144, .inl f5_13)), (qf13, .inl (cf13, 6400, .inl f13)), (qf12, .inl (cf12, 1500, .inl f12))]) (va_A [(h0, .inr (11, [.ref qf0, .ref qf1, .int v2, .int v3, .int v4, .ref qf5, .int v6, .int v7, .ref qf8, .ref qf9, .ref qf10, .ref qf11, .ref qf12, .ref qf13, .ref qf14, .ref qf15, .int v16, .int v17, .int v18, .int v19, .int v20])), (qf5, .inr (3, [.ref qf5_0, .int v5_1, .int v5_2, .int v5_3, .ref qf5_4, .ref qf5_5, .ref qf5_6, .int v5_7, .int v5_8, .int v5_9, .int v5_10, .ref qf5_11, .int v5_12, .ref qf5_13])), (qf5_13, .inl (cf5_13, 144, .inl f5_13)), (qf13, .inl (cf13, 6400, .inl f13)), (qf12, .inl (cf12, 1500, .inl f12))] sz)) 0 0 (va_A [(h0, .inr (11, [.ref qf0, .ref qf1, .int v2, .int v3, .int v4, .ref qf5, .int v6, .int v7, .ref qf8, .ref qf9, .ref qf10, .ref qf11, .ref qf12, .ref qf13, .ref qf14, .ref qf15, .int v16, .int v17, .int v18, .int v19, .int v20])), (qf5, .inr (3, [.ref qf5_0, .int v5_1, .int v5_2, .int v5_3, .ref qf5_4, .ref qf5_5, .ref qf5_6, .int v5_7, .int v5_8, .int v5_9, .int v5_10, .ref qf5_11, .int v5_12, .ref qf5_13])), (qf5_13, .inl (cf5_13, 144, .inl f5_13)), (qf13, .inl (cf13, 6400, .inl f13)), (qf12, .inl (cf12, 1500, .inl f12))] sz) := by
  refine Met.ofW (cc := cX11_proveFrames) (maxL := 5) (ret := (some .int)) (by decide) rfl ?_
  intro p e s m args below meth c s₁ B hml hv
  obtain ⟨rfl, hsz, hP, hK, hD0⟩ := hv
  have hx := B.exec
  have hb := B.bytes
  have hr := B.returns
  have hts := atoms_spec (ws := (.code yX11_proveFrames cX11_proveFrames 5 (some .int) :: VS_h3)) B.pre
  replace hts := fun w (h : w ∈ VS_h3) => hts w (List.mem_cons_of_mem _ h)
  have hown : s.vm.findClass RX11 = some m.cls := findClass_of_methodNamed B.named
  have hlocks := B.notSynchronized
  subst hsz
  have hD := hD0.self (sz := s.heap.size)
  generalize hAe : va_A [(h0, .inr (11, [.ref qf0, .ref qf1, .int v2, .int v3, .int v4, .ref qf5, .int v6, .int v7, .ref qf8, .ref qf9, .ref qf10, .ref qf11, .ref qf12, .ref qf13, .ref qf14, .ref qf15, .int v16, .int v17, .int v18, .int v19, .int v20])), (qf5, .inr (3, [.ref qf5_0, .int v5_1, .int v5_2, .int v5_3, .ref qf5_4, .ref qf5_5, .ref qf5_6, .int v5_7, .int v5_8, .int v5_9, .int v5_10, .ref qf5_11, .int v5_12, .ref qf5_13])), (qf5_13, .inl (cf5_13, 144, .inl f5_13)), (qf13, .inl (cf13, 6400, .inl f13)), (qf12, .inl (cf12, 1500, .inl f12))] s.heap.size = A at hD  ⊢
  have hA : ∀ q : Nat, s.heap.size ≤ q → A q := fun q h => by rw [← hAe]; exact Or.inr h
  have hP : va_P (dC, dI) vwCl [(h0, .inr (11, [.ref qf0, .ref qf1, .int v2, .int v3, .int v4, .ref qf5, .int v6, .int v7, .ref qf8, .ref qf9, .ref qf10, .ref qf11, .ref qf12, .ref qf13, .ref qf14, .ref qf15, .int v16, .int v17, .int v18, .int v19, .int v20])), (qf5, .inr (3, [.ref qf5_0, .int v5_1, .int v5_2, .int v5_3, .ref qf5_4, .ref qf5_5, .ref qf5_6, .int v5_7, .int v5_8, .int v5_9, .int v5_10, .ref qf5_11, .int v5_12, .ref qf5_13])), (qf5_13, .inl (cf5_13, 144, .inl f5_13)), (qf13, .inl (cf13, 6400, .inl f13)), (qf12, .inl (cf12, 1500, .inl f12))] s.heap := hP
  have hl := lv_entry ([.ref h0]) (n := 5) (Nat.le_of_ble_eq_true rfl)
  rw [lg_entry_eq]
  generalize (lg_sl ([.ref h0]) ++ List.replicate (5 - (lg_sl ([.ref h0])).length) Slot.unset).toArray = ls at hl ⊢
  have hl : lv_has ls 5 [(0, .ref h0)] := hl
  obtain ⟨H, hH⟩ : ∃ H : Heap, s.heap = H := ⟨_, rfl⟩
  rw [hH] at hP ⊢
  have hS : va_S A s.heap H [] := by rw [← hH]; exact va_S.rf
  obtain ⟨locs, hlo⟩ : ∃ locs : List Loc, locs = [] := ⟨_, rfl⟩
  rw [← hlo] at hS ⊢
  unfold sp_t11_proveFrames at hsp
  refine lv_iconst (v := (-1)) hx hb dX11_proveFrames_0 (by decide) ?_
  refine lv_istore_n (lv' := [(1, .int (-1)), (0, .ref h0)]) hx hb dX11_proveFrames_1 rfl hl (by decide) rfl (fun ls hl => ?_)
  refine lv_iconst (v := 0) hx hb dX11_proveFrames_2 (by decide) ?_
  refine lv_istore_n (lv' := [(2, .int 0), (1, .int (-1)), (0, .ref h0)]) hx hb dX11_proveFrames_3 rfl hl (by decide) rfl (fun ls hl => ?_)
  replace hP := hP.sub (ws' := [(h0, .inr (11, [.ref qf0, .ref qf1, .int v2, .int v3, .int v4, .ref qf5, .int v6, .int v7, .ref qf8, .ref qf9, .ref qf10, .ref qf11, .ref qf12, .ref qf13, .ref qf14, .ref qf15, .int v16, .int v17, .int v18, .int v19, .int v20])), (qf5, .inr (3, [.ref qf5_0, .int v5_1, .int v5_2, .int v5_3, .ref qf5_4, .ref qf5_5, .ref qf5_6, .int v5_7, .int v5_8, .int v5_9, .int v5_10, .ref qf5_11, .int v5_12, .ref qf5_13])), (qf5_13, .inl (cf5_13, 144, .inl f5_13)), (qf13, .inl (cf13, 6400, .inl f13)), (qf12, .inl (cf12, 1500, .inl f12))]) [0, 1, 2, 3, 4] rfl
  replace hD := hD.sub (ws' := [(h0, .inr (11, [.ref qf0, .ref qf1, .int v2, .int v3, .int v4, .ref qf5, .int v6, .int v7, .ref qf8, .ref qf9, .ref qf10, .ref qf11, .ref qf12, .ref qf13, .ref qf14, .ref qf15, .int v16, .int v17, .int v18, .int v19, .int v20])), (qf5, .inr (3, [.ref qf5_0, .int v5_1, .int v5_2, .int v5_3, .ref qf5_4, .ref qf5_5, .ref qf5_6, .int v5_7, .int v5_8, .int v5_9, .int v5_10, .ref qf5_11, .int v5_12, .ref qf5_13])), (qf5_13, .inl (cf5_13, 144, .inl f5_13)), (qf13, .inl (cf13, 6400, .inl f13)), (qf12, .inl (cf12, 1500, .inl f12))]) [0, 1, 2, 3, 4] (by decide) rfl
  replace hK := hK.sub (tys' := [(cf5_13, .int), (cf13, .int), (cf12, .int)]) [0, 1, 2] rfl
  obtain ⟨n_4, hn_4⟩ : ∃ z : Nat, z = nf := ⟨_, rfl⟩
  obtain ⟨l1_4, el1_4⟩ : ∃ z : Int32, z = (-1) := ⟨_, rfl⟩
  obtain ⟨l2_4, el2_4⟩ : ∃ z : Int32, z = 0 := ⟨_, rfl⟩
  obtain ⟨x7_4, ex7_4⟩ : ∃ z : Int32, z = v7 := ⟨_, rfl⟩
  replace hsp : lp_t11_proveFrames_4 nf n_4 v6 v7 v16 v5_12 f5_13 f13 f12 l1_4 l2_4 x7_4 = some (r0, w7) := by rw [hn_4, el1_4, el2_4, ex7_4]; exact hsp
  replace hl : lv_has ls 5 [(2, .int l2_4), (1, .int l1_4), (0, .ref h0)] := by rw [el1_4, el2_4]; exact hl
  replace hP : va_P (dC, dI) vwCl [(h0, .inr (11, [.ref qf0, .ref qf1, .int v2, .int v3, .int v4, .ref qf5, .int v6, .int x7_4, .ref qf8, .ref qf9, .ref qf10, .ref qf11, .ref qf12, .ref qf13, .ref qf14, .ref qf15, .int v16, .int v17, .int v18, .int v19, .int v20])), (qf5, .inr (3, [.ref qf5_0, .int v5_1, .int v5_2, .int v5_3, .ref qf5_4, .ref qf5_5, .ref qf5_6, .int v5_7, .int v5_8, .int v5_9, .int v5_10, .ref qf5_11, .int v5_12, .ref qf5_13])), (qf5_13, .inl (cf5_13, 144, .inl f5_13)), (qf13, .inl (cf13, 6400, .inl f13)), (qf12, .inl (cf12, 1500, .inl f12))] H := by rw [ex7_4]; exact hP
  replace hD : va_D A [(h0, .inr (11, [.ref qf0, .ref qf1, .int v2, .int v3, .int v4, .ref qf5, .int v6, .int x7_4, .ref qf8, .ref qf9, .ref qf10, .ref qf11, .ref qf12, .ref qf13, .ref qf14, .ref qf15, .int v16, .int v17, .int v18, .int v19, .int v20])), (qf5, .inr (3, [.ref qf5_0, .int v5_1, .int v5_2, .int v5_3, .ref qf5_4, .ref qf5_5, .ref qf5_6, .int v5_7, .int v5_8, .int v5_9, .int v5_10, .ref qf5_11, .int v5_12, .ref qf5_13])), (qf5_13, .inl (cf5_13, 144, .inl f5_13)), (qf13, .inl (cf13, 6400, .inl f13)), (qf12, .inl (cf12, 1500, .inl f12))] := by rw [ex7_4]; exact hD
  clear hn_4 el1_4 el2_4 ex7_4
  try clear hlo
  try clear hH
  revert hsp
  revert hP
  revert hD
  revert hS
  revert hl
  revert x7_4
  revert l2_4
  revert l1_4
  revert ls
  revert locs
  revert H
  induction n_4 with
  | zero => intro H locs ls l1_4 l2_4 x7_4 hl hS hD hP hsp; unfold lp_t11_proveFrames_4 at hsp; cases hsp
  | succ n_4 ih_4 =>
    intro H locs ls l1_4 l2_4 x7_4 hl hS hD hP hsp
    unfold lp_t11_proveFrames_4 at hsp
    try dsimp only at hsp
    refine lv_iload_n hx hb dX11_proveFrames_4 rfl (lv_at hl 0 rfl) ?_
    refine lv_aload_n hx hb dX11_proveFrames_5 rfl (lv_at hl 2 rfl) ?_
    refine lv_bipush (v := 9) hx hb dX11_proveFrames_6 (by decide) ?_
    obtain ⟨u1_0, hu_1, hsp⟩ := ox_bind hsp
    try dsimp only at hsp
    have hPc := hP.sub (ws' := [(h0, .inr (11, [.ref qf0, .ref qf1, .int v2, .int v3, .int v4, .ref qf5, .int v6, .int x7_4, .ref qf8, .ref qf9, .ref qf10, .ref qf11, .ref qf12, .ref qf13, .ref qf14, .ref qf15, .int v16, .int v17, .int v18, .int v19, .int v20])), (qf5, .inr (3, [.ref qf5_0, .int v5_1, .int v5_2, .int v5_3, .ref qf5_4, .ref qf5_5, .ref qf5_6, .int v5_7, .int v5_8, .int v5_9, .int v5_10, .ref qf5_11, .int v5_12, .ref qf5_13])), (qf5_13, .inl (cf5_13, 144, .inl f5_13))]) [0, 1, 2] rfl
    have hDc := hD.sub (ws' := [(h0, .inr (11, [.ref qf0, .ref qf1, .int v2, .int v3, .int v4, .ref qf5, .int v6, .int x7_4, .ref qf8, .ref qf9, .ref qf10, .ref qf11, .ref qf12, .ref qf13, .ref qf14, .ref qf15, .int v16, .int v17, .int v18, .int v19, .int v20])), (qf5, .inr (3, [.ref qf5_0, .int v5_1, .int v5_2, .int v5_3, .ref qf5_4, .ref qf5_5, .ref qf5_6, .int v5_7, .int v5_8, .int v5_9, .int v5_10, .ref qf5_11, .int v5_12, .ref qf5_13])), (qf5_13, .inl (cf5_13, 144, .inl f5_13))]) [0, 1, 2] (by decide) rfl
    have hKc := hK.sub (tys' := [(cf5_13, .int)]) [0] rfl
    have hFc := va_free (wc := [(h0, .inr (11, [.ref qf0, .ref qf1, .int v2, .int v3, .int v4, .ref qf5, .int v6, .int x7_4, .ref qf8, .ref qf9, .ref qf10, .ref qf11, .ref qf12, .ref qf13, .ref qf14, .ref qf15, .int v16, .int v17, .int v18, .int v19, .int v20])), (qf5, .inr (3, [.ref qf5_0, .int v5_1, .int v5_2, .int v5_3, .ref qf5_4, .ref qf5_5, .ref qf5_6, .int v5_7, .int v5_8, .int v5_9, .int v5_10, .ref qf5_11, .int v5_12, .ref qf5_13])), (qf5_13, .inl (cf5_13, 144, .inl f5_13))]) hD hS hA [0, 1, 2] rfl
    refine va_calli (va_runV (As := [.int 9]) (rest := [.int l2_4]) ⟨hx, hb, hml, hown, hts⟩ (t11_info l dC dI H.size h0 9 qf0 qf1 v2 v3 v4 qf5 v6 x7_4 qf8 qf9 qf10 qf11 qf12 qf13 qf14 qf15 v16 v17 v18 v19 v20 qf5_0 v5_1 v5_2 v5_3 qf5_4 qf5_5 qf5_6 v5_7 v5_8 v5_9 v5_10 qf5_11 v5_12 qf5_13 cf5_13 f5_13 nf u1_0 hu_1) (cwV 1 hts gv_h3_35 rfl rfl rfl (by decide +kernel) ⟨Nat.le_of_ble_eq_true rfl, Nat.le_of_ble_eq_true rfl⟩) ⟨fun a U g mk q => by obtain ⟨q0, q1, qP, qK, qD⟩ := q; exact ⟨q0, q1, qP, va_K.moved (u := U) (U := U.calling g mk a) (Vm.Alike.refl U.vm) qK, qD⟩, va_recv hKc hPc (ci := 11) (q0 := 0) rfl rfl, fun U hU hW => ⟨rfl, by rw [hU], by rw [hU]; exact hPc, va_K.moved hW.alike hKc, hDc.weaken (fun _ _ _ _ => trivial)⟩⟩ rfl rfl hl.1 rfl (lv_room (Nat.le_of_ble_eq_true rfl)) dX11_proveFrames_8 ⟨Nat.le_of_ble_eq_true rfl, Nat.le_of_ble_eq_true rfl⟩) hS (fun q _ h => hFc q h) hFc ?_
    clear hS
    intro r_1 u t H1 locs ht hvm hw hB hz1 hk1 hS
    obtain ⟨⟩ := u
    obtain ⟨hP1, hK1, hD1⟩ := hB
    rw [ht] at hP1
    have hK1 := va_K.moved hvm.symm hK1
    try dsimp only at hw
    have hPD := va_join (wr := [(qf13, .inl (cf13, 6400, .inl f13)), (qf12, .inl (cf12, 1500, .inl f12))]) (w1 := [(h0, .inr (11, [.ref qf0, .ref qf1, .int v2, .int v3, .int v4, .ref qf5, .int v6, .int x7_4, .ref qf8, .ref qf9, .ref qf10, .ref qf11, .ref qf12, .ref qf13, .ref qf14, .ref qf15, .int v16, .int v17, .int v18, .int v19, .int v20])), (qf5, .inr (3, [.ref qf5_0, .int v5_1, .int v5_2, .int v5_3, .ref qf5_4, .ref qf5_5, .ref qf5_6, .int v5_7, .int v5_8, .int v5_9, .int v5_10, .ref qf5_11, .int v5_12, .ref qf5_13])), (qf5_13, .inl (cf5_13, 144, .inl f5_13))]) hP hD [0, 1, 2] [3, 4] rfl rfl (by decide) (by decide) hk1 hFc hP1 hD1
    clear hP hD
    obtain ⟨hP, hD⟩ := hPD
    replace hK := (hK.sub (tys' := [(cf13, .int), (cf12, .int)]) [1, 2] rfl).app hK1
    clear hPc hDc hKc hFc hP1 hK1 hD1 hz1 hk1 ht hvm
    generalize H1 = H at hP hS ⊢
    replace hP : va_P (dC, dI) vwCl [(qf13, .inl (cf13, 6400, .inl f13)), (qf12, .inl (cf12, 1500, .inl f12)), (h0, .inr (11, [.ref qf0, .ref qf1, .int v2, .int v3, .int v4, .ref qf5, .int v6, .int x7_4, .ref qf8, .ref qf9, .ref qf10, .ref qf11, .ref qf12, .ref qf13, .ref qf14, .ref qf15, .int v16, .int v17, .int v18, .int v19, .int v20])), (qf5, .inr (3, [.ref qf5_0, .int v5_1, .int v5_2, .int v5_3, .ref qf5_4, .ref qf5_5, .ref qf5_6, .int v5_7, .int v5_8, .int v5_9, .int v5_10, .ref qf5_11, .int v5_12, .ref qf5_13])), (qf5_13, .inl (cf5_13, 144, .inl f5_13))] H := hP
    replace hD : va_D A [(qf13, .inl (cf13, 6400, .inl f13)), (qf12, .inl (cf12, 1500, .inl f12)), (h0, .inr (11, [.ref qf0, .ref qf1, .int v2, .int v3, .int v4, .ref qf5, .int v6, .int x7_4, .ref qf8, .ref qf9, .ref qf10, .ref qf11, .ref qf12, .ref qf13, .ref qf14, .ref qf15, .int v16, .int v17, .int v18, .int v19, .int v20])), (qf5, .inr (3, [.ref qf5_0, .int v5_1, .int v5_2, .int v5_3, .ref qf5_4, .ref qf5_5, .ref qf5_6, .int v5_7, .int v5_8, .int v5_9, .int v5_10, .ref qf5_11, .int v5_12, .ref qf5_13])), (qf5_13, .inl (cf5_13, 144, .inl f5_13))] := hD
    replace hK : va_K (dC, dI) vwCl [(cf13, .int), (cf12, .int), (cf5_13, .int)] s := hK
    obtain rfl := hw
    refine lv_icmp_ge (tgt := 144) hx hb dX11_proveFrames_11 (by decide) (fun c_2 => ?_) (fun c_2 => ?_)
    · rw [if_pos c_2] at hsp
      refine lv_iconst (v := 0) hx hb dX11_proveFrames_144 (by decide) ?_
      have hr0 := Option.some.inj hsp
      clear hsp
      obtain ⟨hq0, hr1⟩ := Prod.mk.inj hr0
      clear hr0
      subst hq0
      subst hr1
      have hP9 := hP.sub (ws' := [(h0, .inr (11, [.ref qf0, .ref qf1, .int v2, .int v3, .int v4, .ref qf5, .int v6, .int x7_4, .ref qf8, .ref qf9, .ref qf10, .ref qf11, .ref qf12, .ref qf13, .ref qf14, .ref qf15, .int v16, .int v17, .int v18, .int v19, .int v20])), (qf5, .inr (3, [.ref qf5_0, .int v5_1, .int v5_2, .int v5_3, .ref qf5_4, .ref qf5_5, .ref qf5_6, .int v5_7, .int v5_8, .int v5_9, .int v5_10, .ref qf5_11, .int v5_12, .ref qf5_13])), (qf5_13, .inl (cf5_13, 144, .inl f5_13)), (qf13, .inl (cf13, 6400, .inl f13)), (qf12, .inl (cf12, 1500, .inl f12))]) [2, 3, 4, 0, 1] rfl
      have hD9 := hD.sub (ws' := [(h0, .inr (11, [.ref qf0, .ref qf1, .int v2, .int v3, .int v4, .ref qf5, .int v6, .int x7_4, .ref qf8, .ref qf9, .ref qf10, .ref qf11, .ref qf12, .ref qf13, .ref qf14, .ref qf15, .int v16, .int v17, .int v18, .int v19, .int v20])), (qf5, .inr (3, [.ref qf5_0, .int v5_1, .int v5_2, .int v5_3, .ref qf5_4, .ref qf5_5, .ref qf5_6, .int v5_7, .int v5_8, .int v5_9, .int v5_10, .ref qf5_11, .int v5_12, .ref qf5_13])), (qf5_13, .inl (cf5_13, 144, .inl f5_13)), (qf13, .inl (cf13, 6400, .inl f13)), (qf12, .inl (cf12, 1500, .inl f12))]) [2, 3, 4, 0, 1] (by decide) rfl
      have hK9 := hK.sub (tys' := [(cf5_13, .int), (cf13, .int), (cf12, .int)]) [2, 0, 1] rfl
      exact W.iret hx hb hr (fun t ht hW => ⟨⟨(0), (), rfl, rfl, by rw [ht]; exact hP9, va_K.moved hW.alike hK9, hD9⟩, hS.F ht⟩) hS.2.2 dX11_proveFrames_145
    · rw [if_neg c_2] at hsp
      refine lv_iload_n hx hb dX11_proveFrames_14 rfl (lv_at hl 0 rfl) ?_
      refine lv_bipush (v := 64) hx hb dX11_proveFrames_15 (by decide) ?_
      refine lv_imul hx hb dX11_proveFrames_17 ?_
      refine lv_istore_n (lv' := [(3, .int (l2_4 * 64)), (2, .int l2_4), (1, .int l1_4), (0, .ref h0)]) hx hb dX11_proveFrames_18 rfl hl (by decide) rfl (fun ls hl => ?_)
      refine lv_aload_n hx hb dX11_proveFrames_19 rfl (lv_at hl 3 rfl) ?_
      refine lv_aload_n hx hb dX11_proveFrames_20 rfl (lv_at hl 3 rfl) ?_
      refine va_get (D := (dC, dI)) (ci := 11) (v := .ref qf13) (C := RX11) (T := TX11) (N := 21) hx hb hts uV_h3_X11 hown hK hP 2 rfl rfl 13 (by decide) (hts (.fieldLink RX11 41 "ClassMill$Verifier" "frames" "[I") mw_h3_194) (fun _ h9 => h9) rfl dX11_proveFrames_21 ?_
      refine lv_iload_n hx hb dX11_proveFrames_24 rfl (lv_at hl 0 rfl) ?_
      obtain ⟨hi_3, hsp⟩ := ox_in hsp
      refine va_iald hx hb hK hP 0 0 rfl rfl (i := (l2_4 * 64)) hi_3 dX11_proveFrames_25 ?_
      obtain ⟨u2_0, hu_2, hsp⟩ := ox_bind hsp
      try dsimp only at hsp
      have hPc := hP.sub (ws' := [(h0, .inr (11, [.ref qf0, .ref qf1, .int v2, .int v3, .int v4, .ref qf5, .int v6, .int x7_4, .ref qf8, .ref qf9, .ref qf10, .ref qf11, .ref qf12, .ref qf13, .ref qf14, .ref qf15, .int v16, .int v17, .int v18, .int v19, .int v20])), (qf12, .inl (cf12, 1500, .inl f12))]) [2, 1] rfl
      have hDc := hD.sub (ws' := [(h0, .inr (11, [.ref qf0, .ref qf1, .int v2, .int v3, .int v4, .ref qf5, .int v6, .int x7_4, .ref qf8, .ref qf9, .ref qf10, .ref qf11, .ref qf12, .ref qf13, .ref qf14, .ref qf15, .int v16, .int v17, .int v18, .int v19, .int v20])), (qf12, .inl (cf12, 1500, .inl f12))]) [2, 1] (by decide) rfl
      have hKc := hK.sub (tys' := [(cf12, .int)]) [1] rfl
      have hFc := va_free (wc := [(h0, .inr (11, [.ref qf0, .ref qf1, .int v2, .int v3, .int v4, .ref qf5, .int v6, .int x7_4, .ref qf8, .ref qf9, .ref qf10, .ref qf11, .ref qf12, .ref qf13, .ref qf14, .ref qf15, .int v16, .int v17, .int v18, .int v19, .int v20])), (qf12, .inl (cf12, 1500, .inl f12))]) hD hS hA [2, 1] rfl
      refine va_calli (va_runV (As := [.int (f13 ((l2_4 * 64) : Int32).toNatClampNeg)]) (rest := []) ⟨hx, hb, hml, hown, hts⟩ (t11_begins l dC dI H.size h0 ((f13 ((l2_4 * 64) : Int32).toNatClampNeg)) qf0 qf1 v2 v3 v4 qf5 v6 x7_4 qf8 qf9 qf10 qf11 qf12 qf13 qf14 qf15 v16 v17 v18 v19 v20 cf12 f12 nf u2_0 hu_2) (cwV 1 hts gv_h3_38 rfl rfl rfl (by decide +kernel) ⟨Nat.le_of_ble_eq_true rfl, Nat.le_of_ble_eq_true rfl⟩) ⟨fun a U g mk q => by obtain ⟨q0, q1, qP, qK, qD⟩ := q; exact ⟨q0, q1, qP, va_K.moved (u := U) (U := U.calling g mk a) (Vm.Alike.refl U.vm) qK, qD⟩, va_recv hKc hPc (ci := 11) (q0 := 0) rfl rfl, fun U hU hW => ⟨rfl, by rw [hU], by rw [hU]; exact hPc, va_K.moved hW.alike hKc, hDc.weaken (fun _ _ _ _ => trivial)⟩⟩ rfl rfl hl.1 rfl (lv_room (Nat.le_of_ble_eq_true rfl)) dX11_proveFrames_26 ⟨Nat.le_of_ble_eq_true rfl, Nat.le_of_ble_eq_true rfl⟩) hS (fun q _ h => hFc q h) hFc ?_
      clear hS
      intro r_4 u t H1 locs ht hvm hw hB hz1 hk1 hS
      obtain ⟨⟩ := u
      obtain ⟨hP1, hK1, hD1⟩ := hB
      rw [ht] at hP1
      have hK1 := va_K.moved hvm.symm hK1
      try dsimp only at hw
      have hPD := va_join (wr := [(qf13, .inl (cf13, 6400, .inl f13)), (qf5, .inr (3, [.ref qf5_0, .int v5_1, .int v5_2, .int v5_3, .ref qf5_4, .ref qf5_5, .ref qf5_6, .int v5_7, .int v5_8, .int v5_9, .int v5_10, .ref qf5_11, .int v5_12, .ref qf5_13])), (qf5_13, .inl (cf5_13, 144, .inl f5_13))]) (w1 := [(h0, .inr (11, [.ref qf0, .ref qf1, .int v2, .int v3, .int v4, .ref qf5, .int v6, .int x7_4, .ref qf8, .ref qf9, .ref qf10, .ref qf11, .ref qf12, .ref qf13, .ref qf14, .ref qf15, .int v16, .int v17, .int v18, .int v19, .int v20])), (qf12, .inl (cf12, 1500, .inl f12))]) hP hD [2, 1] [0, 3, 4] rfl rfl (by decide) (by decide) hk1 hFc hP1 hD1
      clear hP hD
      obtain ⟨hP, hD⟩ := hPD
      replace hK := (hK.sub (tys' := [(cf13, .int), (cf5_13, .int)]) [0, 2] rfl).app hK1
      clear hPc hDc hKc hFc hP1 hK1 hD1 hz1 hk1 ht hvm
      generalize H1 = H at hP hS ⊢
      replace hP : va_P (dC, dI) vwCl [(qf13, .inl (cf13, 6400, .inl f13)), (qf5, .inr (3, [.ref qf5_0, .int v5_1, .int v5_2, .int v5_3, .ref qf5_4, .ref qf5_5, .ref qf5_6, .int v5_7, .int v5_8, .int v5_9, .int v5_10, .ref qf5_11, .int v5_12, .ref qf5_13])), (qf5_13, .inl (cf5_13, 144, .inl f5_13)), (h0, .inr (11, [.ref qf0, .ref qf1, .int v2, .int v3, .int v4, .ref qf5, .int v6, .int x7_4, .ref qf8, .ref qf9, .ref qf10, .ref qf11, .ref qf12, .ref qf13, .ref qf14, .ref qf15, .int v16, .int v17, .int v18, .int v19, .int v20])), (qf12, .inl (cf12, 1500, .inl f12))] H := hP
      replace hD : va_D A [(qf13, .inl (cf13, 6400, .inl f13)), (qf5, .inr (3, [.ref qf5_0, .int v5_1, .int v5_2, .int v5_3, .ref qf5_4, .ref qf5_5, .ref qf5_6, .int v5_7, .int v5_8, .int v5_9, .int v5_10, .ref qf5_11, .int v5_12, .ref qf5_13])), (qf5_13, .inl (cf5_13, 144, .inl f5_13)), (h0, .inr (11, [.ref qf0, .ref qf1, .int v2, .int v3, .int v4, .ref qf5, .int v6, .int x7_4, .ref qf8, .ref qf9, .ref qf10, .ref qf11, .ref qf12, .ref qf13, .ref qf14, .ref qf15, .int v16, .int v17, .int v18, .int v19, .int v20])), (qf12, .inl (cf12, 1500, .inl f12))] := hD
      replace hK : va_K (dC, dI) vwCl [(cf13, .int), (cf5_13, .int), (cf12, .int)] s := hK
      obtain ⟨rfl, hz_2⟩ := hw
      rcases hz_2 with rfl | rfl
      · rw [if_pos rfl] at hsp
        refine lv_if_eq (tgt := 115) hx hb dX11_proveFrames_29 (by decide) (fun c_5 => ?_) (fun c_5 => (show False by revert c_5; decide).elim)
        refine lv_iconst (v := 0) hx hb dX11_proveFrames_115 (by decide) ?_
        refine lv_istore (lv' := [(4, .int 0), (3, .int (l2_4 * 64)), (2, .int l2_4), (1, .int l1_4), (0, .ref h0)]) hx hb dX11_proveFrames_116 hl (by decide) rfl (fun ls hl => ?_)
        refine lv_iload hx hb dX11_proveFrames_118 (lv_at hl 0 rfl) ?_
        refine lv_if_ne (tgt := 131) hx hb dX11_proveFrames_120 (by decide) (fun c_6 => (show False by revert c_6; decide).elim) (fun c_6 => ?_)
        refine lv_aload_n hx hb dX11_proveFrames_123 rfl (lv_at hl 4 rfl) ?_
        refine lv_bipush (v := 9) hx hb dX11_proveFrames_124 (by decide) ?_
        refine lv_iload_n hx hb dX11_proveFrames_126 rfl (lv_at hl 2 rfl) ?_
        obtain ⟨⟨u3_0, u3_1⟩, hu_3, hsp⟩ := ox_bind hsp
        try dsimp only at hsp
        have hPc := hP.sub (ws' := [(h0, .inr (11, [.ref qf0, .ref qf1, .int v2, .int v3, .int v4, .ref qf5, .int v6, .int x7_4, .ref qf8, .ref qf9, .ref qf10, .ref qf11, .ref qf12, .ref qf13, .ref qf14, .ref qf15, .int v16, .int v17, .int v18, .int v19, .int v20]))]) [3] rfl
        have hDc := hD.sub (ws' := [(h0, .inr (11, [.ref qf0, .ref qf1, .int v2, .int v3, .int v4, .ref qf5, .int v6, .int x7_4, .ref qf8, .ref qf9, .ref qf10, .ref qf11, .ref qf12, .ref qf13, .ref qf14, .ref qf15, .int v16, .int v17, .int v18, .int v19, .int v20]))]) [3] (by decide) rfl
        have hKc := hK.sub (tys' := []) [] rfl
        have hFc := va_free (wc := [(h0, .inr (11, [.ref qf0, .ref qf1, .int v2, .int v3, .int v4, .ref qf5, .int v6, .int x7_4, .ref qf8, .ref qf9, .ref qf10, .ref qf11, .ref qf12, .ref qf13, .ref qf14, .ref qf15, .int v16, .int v17, .int v18, .int v19, .int v20]))]) hD hS hA [3] rfl
        refine va_calli (va_runV (As := [.int 9, .int l2_4]) (rest := []) ⟨hx, hb, hml, hown, hts⟩ (t11_at l dC dI H.size h0 9 l2_4 qf0 qf1 v2 v3 v4 qf5 v6 x7_4 qf8 qf9 qf10 qf11 qf12 qf13 qf14 qf15 v16 v17 v18 v19 v20 nf u3_0 u3_1 hu_3) (cwV 2 hts gv_h3_41 rfl rfl rfl (by decide +kernel) ⟨Nat.le_of_ble_eq_true rfl, Nat.le_of_ble_eq_true rfl⟩) ⟨fun a U g mk q => by obtain ⟨q0, q1, qP, qK, qD⟩ := q; exact ⟨q0, q1, qP, va_K.moved (u := U) (U := U.calling g mk a) (Vm.Alike.refl U.vm) qK, qD⟩, va_recv hKc hPc (ci := 11) (q0 := 0) rfl rfl, fun U hU hW => ⟨rfl, by rw [hU], by rw [hU]; exact hPc, va_K.moved hW.alike hKc, hDc.weaken (fun _ _ _ _ => trivial)⟩⟩ rfl rfl hl.1 rfl (lv_room (Nat.le_of_ble_eq_true rfl)) dX11_proveFrames_127 ⟨Nat.le_of_ble_eq_true rfl, Nat.le_of_ble_eq_true rfl⟩) hS (fun q _ h => hFc q h) hFc ?_
        clear hS
        intro r_7 u t H1 locs ht hvm hw hB hz1 hk1 hS
        obtain ⟨⟩ := u
        obtain ⟨hP1, hK1, hD1⟩ := hB
        rw [ht] at hP1
        have hK1 := va_K.moved hvm.symm hK1
        try dsimp only at hw
        have hPD := va_join (wr := [(qf13, .inl (cf13, 6400, .inl f13)), (qf5, .inr (3, [.ref qf5_0, .int v5_1, .int v5_2, .int v5_3, .ref qf5_4, .ref qf5_5, .ref qf5_6, .int v5_7, .int v5_8, .int v5_9, .int v5_10, .ref qf5_11, .int v5_12, .ref qf5_13])), (qf5_13, .inl (cf5_13, 144, .inl f5_13)), (qf12, .inl (cf12, 1500, .inl f12))]) (w1 := [(h0, .inr (11, [.ref qf0, .ref qf1, .int v2, .int v3, .int v4, .ref qf5, .int v6, .int u3_1, .ref qf8, .ref qf9, .ref qf10, .ref qf11, .ref qf12, .ref qf13, .ref qf14, .ref qf15, .int v16, .int v17, .int v18, .int v19, .int v20]))]) hP hD [3] [0, 1, 2, 4] rfl rfl (by decide) (by decide) hk1 hFc hP1 hD1
        clear hP hD
        obtain ⟨hP, hD⟩ := hPD
        replace hK := (hK.sub (tys' := [(cf13, .int), (cf5_13, .int), (cf12, .int)]) [0, 1, 2] rfl).app hK1
        clear hPc hDc hKc hFc hP1 hK1 hD1 hz1 hk1 ht hvm
        generalize H1 = H at hP hS ⊢
        replace hP : va_P (dC, dI) vwCl [(qf13, .inl (cf13, 6400, .inl f13)), (qf5, .inr (3, [.ref qf5_0, .int v5_1, .int v5_2, .int v5_3, .ref qf5_4, .ref qf5_5, .ref qf5_6, .int v5_7, .int v5_8, .int v5_9, .int v5_10, .ref qf5_11, .int v5_12, .ref qf5_13])), (qf5_13, .inl (cf5_13, 144, .inl f5_13)), (qf12, .inl (cf12, 1500, .inl f12)), (h0, .inr (11, [.ref qf0, .ref qf1, .int v2, .int v3, .int v4, .ref qf5, .int v6, .int u3_1, .ref qf8, .ref qf9, .ref qf10, .ref qf11, .ref qf12, .ref qf13, .ref qf14, .ref qf15, .int v16, .int v17, .int v18, .int v19, .int v20]))] H := hP
        replace hD : va_D A [(qf13, .inl (cf13, 6400, .inl f13)), (qf5, .inr (3, [.ref qf5_0, .int v5_1, .int v5_2, .int v5_3, .ref qf5_4, .ref qf5_5, .ref qf5_6, .int v5_7, .int v5_8, .int v5_9, .int v5_10, .ref qf5_11, .int v5_12, .ref qf5_13])), (qf5_13, .inl (cf5_13, 144, .inl f5_13)), (qf12, .inl (cf12, 1500, .inl f12)), (h0, .inr (11, [.ref qf0, .ref qf1, .int v2, .int v3, .int v4, .ref qf5, .int v6, .int u3_1, .ref qf8, .ref qf9, .ref qf10, .ref qf11, .ref qf12, .ref qf13, .ref qf14, .ref qf15, .int v16, .int v17, .int v18, .int v19, .int v20]))] := hD
        replace hK : va_K (dC, dI) vwCl [(cf13, .int), (cf5_13, .int), (cf12, .int)] s := hK
        obtain rfl := hw
        have hr0 := Option.some.inj hsp
        clear hsp
        obtain ⟨hq0, hr1⟩ := Prod.mk.inj hr0
        clear hr0
        subst hq0
        subst hr1
        have hP9 := hP.sub (ws' := [(h0, .inr (11, [.ref qf0, .ref qf1, .int v2, .int v3, .int v4, .ref qf5, .int v6, .int u3_1, .ref qf8, .ref qf9, .ref qf10, .ref qf11, .ref qf12, .ref qf13, .ref qf14, .ref qf15, .int v16, .int v17, .int v18, .int v19, .int v20])), (qf5, .inr (3, [.ref qf5_0, .int v5_1, .int v5_2, .int v5_3, .ref qf5_4, .ref qf5_5, .ref qf5_6, .int v5_7, .int v5_8, .int v5_9, .int v5_10, .ref qf5_11, .int v5_12, .ref qf5_13])), (qf5_13, .inl (cf5_13, 144, .inl f5_13)), (qf13, .inl (cf13, 6400, .inl f13)), (qf12, .inl (cf12, 1500, .inl f12))]) [4, 1, 2, 0, 3] rfl
        have hD9 := hD.sub (ws' := [(h0, .inr (11, [.ref qf0, .ref qf1, .int v2, .int v3, .int v4, .ref qf5, .int v6, .int u3_1, .ref qf8, .ref qf9, .ref qf10, .ref qf11, .ref qf12, .ref qf13, .ref qf14, .ref qf15, .int v16, .int v17, .int v18, .int v19, .int v20])), (qf5, .inr (3, [.ref qf5_0, .int v5_1, .int v5_2, .int v5_3, .ref qf5_4, .ref qf5_5, .ref qf5_6, .int v5_7, .int v5_8, .int v5_9, .int v5_10, .ref qf5_11, .int v5_12, .ref qf5_13])), (qf5_13, .inl (cf5_13, 144, .inl f5_13)), (qf13, .inl (cf13, 6400, .inl f13)), (qf12, .inl (cf12, 1500, .inl f12))]) [4, 1, 2, 0, 3] (by decide) rfl
        have hK9 := hK.sub (tys' := [(cf5_13, .int), (cf13, .int), (cf12, .int)]) [1, 0, 2] rfl
        exact W.iret hx hb hr (fun t ht hW => ⟨⟨(u3_0), (), rfl, rfl, by rw [ht]; exact hP9, va_K.moved hW.alike hK9, hD9⟩, hS.F ht⟩) hS.2.2 dX11_proveFrames_130
      · rw [if_neg (by decide)] at hsp
        refine lv_if_eq (tgt := 115) hx hb dX11_proveFrames_29 (by decide) (fun c_8 => (show False by revert c_8; decide).elim) (fun c_8 => ?_)
        refine lv_aload_n hx hb dX11_proveFrames_32 rfl (lv_at hl 3 rfl) ?_
        refine va_get (D := (dC, dI)) (ci := 11) (v := .ref qf13) (C := RX11) (T := TX11) (N := 21) hx hb hts uV_h3_X11 hown hK hP 3 rfl rfl 13 (by decide) (hts (.fieldLink RX11 41 "ClassMill$Verifier" "frames" "[I") mw_h3_194) (fun _ h9 => h9) rfl dX11_proveFrames_33 ?_
        refine lv_iload_n hx hb dX11_proveFrames_36 rfl (lv_at hl 0 rfl) ?_
        obtain ⟨hi_9, hsp⟩ := ox_in hsp
        refine va_iald hx hb hK hP 0 0 rfl rfl (i := (l2_4 * 64)) hi_9 dX11_proveFrames_37 ?_
        refine lv_iload_n hx hb dX11_proveFrames_38 rfl (lv_at hl 2 rfl) ?_
        refine lv_icmp_le (tgt := 115) hx hb dX11_proveFrames_39 (by decide) (fun c_10 => ?_) (fun c_10 => ?_)
        · rw [if_pos c_10] at hsp
          refine lv_iconst (v := 0) hx hb dX11_proveFrames_115 (by decide) ?_
          refine lv_istore (lv' := [(4, .int 0), (3, .int (l2_4 * 64)), (2, .int l2_4), (1, .int l1_4), (0, .ref h0)]) hx hb dX11_proveFrames_116 hl (by decide) rfl (fun ls hl => ?_)
          refine lv_iload hx hb dX11_proveFrames_118 (lv_at hl 0 rfl) ?_
          refine lv_if_ne (tgt := 131) hx hb dX11_proveFrames_120 (by decide) (fun c_11 => (show False by revert c_11; decide).elim) (fun c_11 => ?_)
          refine lv_aload_n hx hb dX11_proveFrames_123 rfl (lv_at hl 4 rfl) ?_
          refine lv_bipush (v := 9) hx hb dX11_proveFrames_124 (by decide) ?_
          refine lv_iload_n hx hb dX11_proveFrames_126 rfl (lv_at hl 2 rfl) ?_
          obtain ⟨⟨u4_0, u4_1⟩, hu_4, hsp⟩ := ox_bind hsp
          try dsimp only at hsp
          have hPc := hP.sub (ws' := [(h0, .inr (11, [.ref qf0, .ref qf1, .int v2, .int v3, .int v4, .ref qf5, .int v6, .int x7_4, .ref qf8, .ref qf9, .ref qf10, .ref qf11, .ref qf12, .ref qf13, .ref qf14, .ref qf15, .int v16, .int v17, .int v18, .int v19, .int v20]))]) [3] rfl
          have hDc := hD.sub (ws' := [(h0, .inr (11, [.ref qf0, .ref qf1, .int v2, .int v3, .int v4, .ref qf5, .int v6, .int x7_4, .ref qf8, .ref qf9, .ref qf10, .ref qf11, .ref qf12, .ref qf13, .ref qf14, .ref qf15, .int v16, .int v17, .int v18, .int v19, .int v20]))]) [3] (by decide) rfl
          have hKc := hK.sub (tys' := []) [] rfl
          have hFc := va_free (wc := [(h0, .inr (11, [.ref qf0, .ref qf1, .int v2, .int v3, .int v4, .ref qf5, .int v6, .int x7_4, .ref qf8, .ref qf9, .ref qf10, .ref qf11, .ref qf12, .ref qf13, .ref qf14, .ref qf15, .int v16, .int v17, .int v18, .int v19, .int v20]))]) hD hS hA [3] rfl
          refine va_calli (va_runV (As := [.int 9, .int l2_4]) (rest := []) ⟨hx, hb, hml, hown, hts⟩ (t11_at l dC dI H.size h0 9 l2_4 qf0 qf1 v2 v3 v4 qf5 v6 x7_4 qf8 qf9 qf10 qf11 qf12 qf13 qf14 qf15 v16 v17 v18 v19 v20 nf u4_0 u4_1 hu_4) (cwV 2 hts gv_h3_41 rfl rfl rfl (by decide +kernel) ⟨Nat.le_of_ble_eq_true rfl, Nat.le_of_ble_eq_true rfl⟩) ⟨fun a U g mk q => by obtain ⟨q0, q1, qP, qK, qD⟩ := q; exact ⟨q0, q1, qP, va_K.moved (u := U) (U := U.calling g mk a) (Vm.Alike.refl U.vm) qK, qD⟩, va_recv hKc hPc (ci := 11) (q0 := 0) rfl rfl, fun U hU hW => ⟨rfl, by rw [hU], by rw [hU]; exact hPc, va_K.moved hW.alike hKc, hDc.weaken (fun _ _ _ _ => trivial)⟩⟩ rfl rfl hl.1 rfl (lv_room (Nat.le_of_ble_eq_true rfl)) dX11_proveFrames_127 ⟨Nat.le_of_ble_eq_true rfl, Nat.le_of_ble_eq_true rfl⟩) hS (fun q _ h => hFc q h) hFc ?_
          clear hS
          intro r_12 u t H1 locs ht hvm hw hB hz1 hk1 hS
          obtain ⟨⟩ := u
          obtain ⟨hP1, hK1, hD1⟩ := hB
          rw [ht] at hP1
          have hK1 := va_K.moved hvm.symm hK1
          try dsimp only at hw
          have hPD := va_join (wr := [(qf13, .inl (cf13, 6400, .inl f13)), (qf5, .inr (3, [.ref qf5_0, .int v5_1, .int v5_2, .int v5_3, .ref qf5_4, .ref qf5_5, .ref qf5_6, .int v5_7, .int v5_8, .int v5_9, .int v5_10, .ref qf5_11, .int v5_12, .ref qf5_13])), (qf5_13, .inl (cf5_13, 144, .inl f5_13)), (qf12, .inl (cf12, 1500, .inl f12))]) (w1 := [(h0, .inr (11, [.ref qf0, .ref qf1, .int v2, .int v3, .int v4, .ref qf5, .int v6, .int u4_1, .ref qf8, .ref qf9, .ref qf10, .ref qf11, .ref qf12, .ref qf13, .ref qf14, .ref qf15, .int v16, .int v17, .int v18, .int v19, .int v20]))]) hP hD [3] [0, 1, 2, 4] rfl rfl (by decide) (by decide) hk1 hFc hP1 hD1
          clear hP hD
          obtain ⟨hP, hD⟩ := hPD
          replace hK := (hK.sub (tys' := [(cf13, .int), (cf5_13, .int), (cf12, .int)]) [0, 1, 2] rfl).app hK1
          clear hPc hDc hKc hFc hP1 hK1 hD1 hz1 hk1 ht hvm
          generalize H1 = H at hP hS ⊢
          replace hP : va_P (dC, dI) vwCl [(qf13, .inl (cf13, 6400, .inl f13)), (qf5, .inr (3, [.ref qf5_0, .int v5_1, .int v5_2, .int v5_3, .ref qf5_4, .ref qf5_5, .ref qf5_6, .int v5_7, .int v5_8, .int v5_9, .int v5_10, .ref qf5_11, .int v5_12, .ref qf5_13])), (qf5_13, .inl (cf5_13, 144, .inl f5_13)), (qf12, .inl (cf12, 1500, .inl f12)), (h0, .inr (11, [.ref qf0, .ref qf1, .int v2, .int v3, .int v4, .ref qf5, .int v6, .int u4_1, .ref qf8, .ref qf9, .ref qf10, .ref qf11, .ref qf12, .ref qf13, .ref qf14, .ref qf15, .int v16, .int v17, .int v18, .int v19, .int v20]))] H := hP
          replace hD : va_D A [(qf13, .inl (cf13, 6400, .inl f13)), (qf5, .inr (3, [.ref qf5_0, .int v5_1, .int v5_2, .int v5_3, .ref qf5_4, .ref qf5_5, .ref qf5_6, .int v5_7, .int v5_8, .int v5_9, .int v5_10, .ref qf5_11, .int v5_12, .ref qf5_13])), (qf5_13, .inl (cf5_13, 144, .inl f5_13)), (qf12, .inl (cf12, 1500, .inl f12)), (h0, .inr (11, [.ref qf0, .ref qf1, .int v2, .int v3, .int v4, .ref qf5, .int v6, .int u4_1, .ref qf8, .ref qf9, .ref qf10, .ref qf11, .ref qf12, .ref qf13, .ref qf14, .ref qf15, .int v16, .int v17, .int v18, .int v19, .int v20]))] := hD
          replace hK : va_K (dC, dI) vwCl [(cf13, .int), (cf5_13, .int), (cf12, .int)] s := hK
          obtain rfl := hw
          have hr0 := Option.some.inj hsp
          clear hsp
          obtain ⟨hq0, hr1⟩ := Prod.mk.inj hr0
          clear hr0
          subst hq0
          subst hr1
          have hP9 := hP.sub (ws' := [(h0, .inr (11, [.ref qf0, .ref qf1, .int v2, .int v3, .int v4, .ref qf5, .int v6, .int u4_1, .ref qf8, .ref qf9, .ref qf10, .ref qf11, .ref qf12, .ref qf13, .ref qf14, .ref qf15, .int v16, .int v17, .int v18, .int v19, .int v20])), (qf5, .inr (3, [.ref qf5_0, .int v5_1, .int v5_2, .int v5_3, .ref qf5_4, .ref qf5_5, .ref qf5_6, .int v5_7, .int v5_8, .int v5_9, .int v5_10, .ref qf5_11, .int v5_12, .ref qf5_13])), (qf5_13, .inl (cf5_13, 144, .inl f5_13)), (qf13, .inl (cf13, 6400, .inl f13)), (qf12, .inl (cf12, 1500, .inl f12))]) [4, 1, 2, 0, 3] rfl
          have hD9 := hD.sub (ws' := [(h0, .inr (11, [.ref qf0, .ref qf1, .int v2, .int v3, .int v4, .ref qf5, .int v6, .int u4_1, .ref qf8, .ref qf9, .ref qf10, .ref qf11, .ref qf12, .ref qf13, .ref qf14, .ref qf15, .int v16, .int v17, .int v18, .int v19, .int v20])), (qf5, .inr (3, [.ref qf5_0, .int v5_1, .int v5_2, .int v5_3, .ref qf5_4, .ref qf5_5, .ref qf5_6, .int v5_7, .int v5_8, .int v5_9, .int v5_10, .ref qf5_11, .int v5_12, .ref qf5_13])), (qf5_13, .inl (cf5_13, 144, .inl f5_13)), (qf13, .inl (cf13, 6400, .inl f13)), (qf12, .inl (cf12, 1500, .inl f12))]) [4, 1, 2, 0, 3] (by decide) rfl
          have hK9 := hK.sub (tys' := [(cf5_13, .int), (cf13, .int), (cf12, .int)]) [1, 0, 2] rfl
          exact W.iret hx hb hr (fun t ht hW => ⟨⟨(u4_0), (), rfl, rfl, by rw [ht]; exact hP9, va_K.moved hW.alike hK9, hD9⟩, hS.F ht⟩) hS.2.2 dX11_proveFrames_130
        · rw [if_neg c_10] at hsp
          refine lv_aload_n hx hb dX11_proveFrames_42 rfl (lv_at hl 3 rfl) ?_
          refine va_get (D := (dC, dI)) (ci := 11) (v := .ref qf13) (C := RX11) (T := TX11) (N := 21) hx hb hts uV_h3_X11 hown hK hP 3 rfl rfl 13 (by decide) (hts (.fieldLink RX11 41 "ClassMill$Verifier" "frames" "[I") mw_h3_194) (fun _ h9 => h9) rfl dX11_proveFrames_43 ?_
          refine lv_iload_n hx hb dX11_proveFrames_46 rfl (lv_at hl 0 rfl) ?_
          refine lv_iconst (v := 1) hx hb dX11_proveFrames_47 (by decide) ?_
          refine lv_iadd hx hb dX11_proveFrames_48 ?_
          obtain ⟨hi_13, hsp⟩ := ox_in hsp
          refine va_iald hx hb hK hP 0 0 rfl rfl (i := ((l2_4 * 64) + 1)) hi_13 dX11_proveFrames_49 ?_
          refine lv_aload_n hx hb dX11_proveFrames_50 rfl (lv_at hl 3 rfl) ?_
          refine lv_iconst (v := 4) hx hb dX11_proveFrames_51 (by decide) ?_
          obtain ⟨u5_0, hu_5, hsp⟩ := ox_bind hsp
          try dsimp only at hsp
          have hPc := hP.sub (ws' := [(h0, .inr (11, [.ref qf0, .ref qf1, .int v2, .int v3, .int v4, .ref qf5, .int v6, .int x7_4, .ref qf8, .ref qf9, .ref qf10, .ref qf11, .ref qf12, .ref qf13, .ref qf14, .ref qf15, .int v16, .int v17, .int v18, .int v19, .int v20])), (qf5, .inr (3, [.ref qf5_0, .int v5_1, .int v5_2, .int v5_3, .ref qf5_4, .ref qf5_5, .ref qf5_6, .int v5_7, .int v5_8, .int v5_9, .int v5_10, .ref qf5_11, .int v5_12, .ref qf5_13])), (qf5_13, .inl (cf5_13, 144, .inl f5_13))]) [3, 1, 2] rfl
          have hDc := hD.sub (ws' := [(h0, .inr (11, [.ref qf0, .ref qf1, .int v2, .int v3, .int v4, .ref qf5, .int v6, .int x7_4, .ref qf8, .ref qf9, .ref qf10, .ref qf11, .ref qf12, .ref qf13, .ref qf14, .ref qf15, .int v16, .int v17, .int v18, .int v19, .int v20])), (qf5, .inr (3, [.ref qf5_0, .int v5_1, .int v5_2, .int v5_3, .ref qf5_4, .ref qf5_5, .ref qf5_6, .int v5_7, .int v5_8, .int v5_9, .int v5_10, .ref qf5_11, .int v5_12, .ref qf5_13])), (qf5_13, .inl (cf5_13, 144, .inl f5_13))]) [3, 1, 2] (by decide) rfl
          have hKc := hK.sub (tys' := [(cf5_13, .int)]) [1] rfl
          have hFc := va_free (wc := [(h0, .inr (11, [.ref qf0, .ref qf1, .int v2, .int v3, .int v4, .ref qf5, .int v6, .int x7_4, .ref qf8, .ref qf9, .ref qf10, .ref qf11, .ref qf12, .ref qf13, .ref qf14, .ref qf15, .int v16, .int v17, .int v18, .int v19, .int v20])), (qf5, .inr (3, [.ref qf5_0, .int v5_1, .int v5_2, .int v5_3, .ref qf5_4, .ref qf5_5, .ref qf5_6, .int v5_7, .int v5_8, .int v5_9, .int v5_10, .ref qf5_11, .int v5_12, .ref qf5_13])), (qf5_13, .inl (cf5_13, 144, .inl f5_13))]) hD hS hA [3, 1, 2] rfl
          refine va_calli (va_runV (As := [.int 4]) (rest := [.int (f13 (((l2_4 * 64) + 1) : Int32).toNatClampNeg)]) ⟨hx, hb, hml, hown, hts⟩ (t11_info l dC dI H.size h0 4 qf0 qf1 v2 v3 v4 qf5 v6 x7_4 qf8 qf9 qf10 qf11 qf12 qf13 qf14 qf15 v16 v17 v18 v19 v20 qf5_0 v5_1 v5_2 v5_3 qf5_4 qf5_5 qf5_6 v5_7 v5_8 v5_9 v5_10 qf5_11 v5_12 qf5_13 cf5_13 f5_13 nf u5_0 hu_5) (cwV 1 hts gv_h3_35 rfl rfl rfl (by decide +kernel) ⟨Nat.le_of_ble_eq_true rfl, Nat.le_of_ble_eq_true rfl⟩) ⟨fun a U g mk q => by obtain ⟨q0, q1, qP, qK, qD⟩ := q; exact ⟨q0, q1, qP, va_K.moved (u := U) (U := U.calling g mk a) (Vm.Alike.refl U.vm) qK, qD⟩, va_recv hKc hPc (ci := 11) (q0 := 0) rfl rfl, fun U hU hW => ⟨rfl, by rw [hU], by rw [hU]; exact hPc, va_K.moved hW.alike hKc, hDc.weaken (fun _ _ _ _ => trivial)⟩⟩ rfl rfl hl.1 rfl (lv_room (Nat.le_of_ble_eq_true rfl)) dX11_proveFrames_52 ⟨Nat.le_of_ble_eq_true rfl, Nat.le_of_ble_eq_true rfl⟩) hS (fun q _ h => hFc q h) hFc ?_
          clear hS
          intro r_14 u t H1 locs ht hvm hw hB hz1 hk1 hS
          obtain ⟨⟩ := u
          obtain ⟨hP1, hK1, hD1⟩ := hB
          rw [ht] at hP1
          have hK1 := va_K.moved hvm.symm hK1
          try dsimp only at hw
          have hPD := va_join (wr := [(qf13, .inl (cf13, 6400, .inl f13)), (qf12, .inl (cf12, 1500, .inl f12))]) (w1 := [(h0, .inr (11, [.ref qf0, .ref qf1, .int v2, .int v3, .int v4, .ref qf5, .int v6, .int x7_4, .ref qf8, .ref qf9, .ref qf10, .ref qf11, .ref qf12, .ref qf13, .ref qf14, .ref qf15, .int v16, .int v17, .int v18, .int v19, .int v20])), (qf5, .inr (3, [.ref qf5_0, .int v5_1, .int v5_2, .int v5_3, .ref qf5_4, .ref qf5_5, .ref qf5_6, .int v5_7, .int v5_8, .int v5_9, .int v5_10, .ref qf5_11, .int v5_12, .ref qf5_13])), (qf5_13, .inl (cf5_13, 144, .inl f5_13))]) hP hD [3, 1, 2] [0, 4] rfl rfl (by decide) (by decide) hk1 hFc hP1 hD1
          clear hP hD
          obtain ⟨hP, hD⟩ := hPD
          replace hK := (hK.sub (tys' := [(cf13, .int), (cf12, .int)]) [0, 2] rfl).app hK1
          clear hPc hDc hKc hFc hP1 hK1 hD1 hz1 hk1 ht hvm
          generalize H1 = H at hP hS ⊢
          replace hP : va_P (dC, dI) vwCl [(qf13, .inl (cf13, 6400, .inl f13)), (qf12, .inl (cf12, 1500, .inl f12)), (h0, .inr (11, [.ref qf0, .ref qf1, .int v2, .int v3, .int v4, .ref qf5, .int v6, .int x7_4, .ref qf8, .ref qf9, .ref qf10, .ref qf11, .ref qf12, .ref qf13, .ref qf14, .ref qf15, .int v16, .int v17, .int v18, .int v19, .int v20])), (qf5, .inr (3, [.ref qf5_0, .int v5_1, .int v5_2, .int v5_3, .ref qf5_4, .ref qf5_5, .ref qf5_6, .int v5_7, .int v5_8, .int v5_9, .int v5_10, .ref qf5_11, .int v5_12, .ref qf5_13])), (qf5_13, .inl (cf5_13, 144, .inl f5_13))] H := hP
          replace hD : va_D A [(qf13, .inl (cf13, 6400, .inl f13)), (qf12, .inl (cf12, 1500, .inl f12)), (h0, .inr (11, [.ref qf0, .ref qf1, .int v2, .int v3, .int v4, .ref qf5, .int v6, .int x7_4, .ref qf8, .ref qf9, .ref qf10, .ref qf11, .ref qf12, .ref qf13, .ref qf14, .ref qf15, .int v16, .int v17, .int v18, .int v19, .int v20])), (qf5, .inr (3, [.ref qf5_0, .int v5_1, .int v5_2, .int v5_3, .ref qf5_4, .ref qf5_5, .ref qf5_6, .int v5_7, .int v5_8, .int v5_9, .int v5_10, .ref qf5_11, .int v5_12, .ref qf5_13])), (qf5_13, .inl (cf5_13, 144, .inl f5_13))] := hD
          replace hK : va_K (dC, dI) vwCl [(cf13, .int), (cf12, .int), (cf5_13, .int)] s := hK
          obtain rfl := hw
          refine lv_icmp_gt (tgt := 115) hx hb dX11_proveFrames_55 (by decide) (fun c_15 => ?_) (fun c_15 => ?_)
          · rw [if_pos c_15] at hsp
            refine lv_iconst (v := 0) hx hb dX11_proveFrames_115 (by decide) ?_
            refine lv_istore (lv' := [(4, .int 0), (3, .int (l2_4 * 64)), (2, .int l2_4), (1, .int l1_4), (0, .ref h0)]) hx hb dX11_proveFrames_116 hl (by decide) rfl (fun ls hl => ?_)
            refine lv_iload hx hb dX11_proveFrames_118 (lv_at hl 0 rfl) ?_
            refine lv_if_ne (tgt := 131) hx hb dX11_proveFrames_120 (by decide) (fun c_16 => (show False by revert c_16; decide).elim) (fun c_16 => ?_)
            refine lv_aload_n hx hb dX11_proveFrames_123 rfl (lv_at hl 4 rfl) ?_
            refine lv_bipush (v := 9) hx hb dX11_proveFrames_124 (by decide) ?_
            refine lv_iload_n hx hb dX11_proveFrames_126 rfl (lv_at hl 2 rfl) ?_
            obtain ⟨⟨u6_0, u6_1⟩, hu_6, hsp⟩ := ox_bind hsp
            try dsimp only at hsp
            have hPc := hP.sub (ws' := [(h0, .inr (11, [.ref qf0, .ref qf1, .int v2, .int v3, .int v4, .ref qf5, .int v6, .int x7_4, .ref qf8, .ref qf9, .ref qf10, .ref qf11, .ref qf12, .ref qf13, .ref qf14, .ref qf15, .int v16, .int v17, .int v18, .int v19, .int v20]))]) [2] rfl
            have hDc := hD.sub (ws' := [(h0, .inr (11, [.ref qf0, .ref qf1, .int v2, .int v3, .int v4, .ref qf5, .int v6, .int x7_4, .ref qf8, .ref qf9, .ref qf10, .ref qf11, .ref qf12, .ref qf13, .ref qf14, .ref qf15, .int v16, .int v17, .int v18, .int v19, .int v20]))]) [2] (by decide) rfl
            have hKc := hK.sub (tys' := []) [] rfl
            have hFc := va_free (wc := [(h0, .inr (11, [.ref qf0, .ref qf1, .int v2, .int v3, .int v4, .ref qf5, .int v6, .int x7_4, .ref qf8, .ref qf9, .ref qf10, .ref qf11, .ref qf12, .ref qf13, .ref qf14, .ref qf15, .int v16, .int v17, .int v18, .int v19, .int v20]))]) hD hS hA [2] rfl
            refine va_calli (va_runV (As := [.int 9, .int l2_4]) (rest := []) ⟨hx, hb, hml, hown, hts⟩ (t11_at l dC dI H.size h0 9 l2_4 qf0 qf1 v2 v3 v4 qf5 v6 x7_4 qf8 qf9 qf10 qf11 qf12 qf13 qf14 qf15 v16 v17 v18 v19 v20 nf u6_0 u6_1 hu_6) (cwV 2 hts gv_h3_41 rfl rfl rfl (by decide +kernel) ⟨Nat.le_of_ble_eq_true rfl, Nat.le_of_ble_eq_true rfl⟩) ⟨fun a U g mk q => by obtain ⟨q0, q1, qP, qK, qD⟩ := q; exact ⟨q0, q1, qP, va_K.moved (u := U) (U := U.calling g mk a) (Vm.Alike.refl U.vm) qK, qD⟩, va_recv hKc hPc (ci := 11) (q0 := 0) rfl rfl, fun U hU hW => ⟨rfl, by rw [hU], by rw [hU]; exact hPc, va_K.moved hW.alike hKc, hDc.weaken (fun _ _ _ _ => trivial)⟩⟩ rfl rfl hl.1 rfl (lv_room (Nat.le_of_ble_eq_true rfl)) dX11_proveFrames_127 ⟨Nat.le_of_ble_eq_true rfl, Nat.le_of_ble_eq_true rfl⟩) hS (fun q _ h => hFc q h) hFc ?_
            clear hS
            intro r_17 u t H1 locs ht hvm hw hB hz1 hk1 hS
            obtain ⟨⟩ := u
            obtain ⟨hP1, hK1, hD1⟩ := hB
            rw [ht] at hP1
            have hK1 := va_K.moved hvm.symm hK1
            try dsimp only at hw
            have hPD := va_join (wr := [(qf13, .inl (cf13, 6400, .inl f13)), (qf12, .inl (cf12, 1500, .inl f12)), (qf5, .inr (3, [.ref qf5_0, .int v5_1, .int v5_2, .int v5_3, .ref qf5_4, .ref qf5_5, .ref qf5_6, .int v5_7, .int v5_8, .int v5_9, .int v5_10, .ref qf5_11, .int v5_12, .ref qf5_13])), (qf5_13, .inl (cf5_13, 144, .inl f5_13))]) (w1 := [(h0, .inr (11, [.ref qf0, .ref qf1, .int v2, .int v3, .int v4, .ref qf5, .int v6, .int u6_1, .ref qf8, .ref qf9, .ref qf10, .ref qf11, .ref qf12, .ref qf13, .ref qf14, .ref qf15, .int v16, .int v17, .int v18, .int v19, .int v20]))]) hP hD [2] [0, 1, 3, 4] rfl rfl (by decide) (by decide) hk1 hFc hP1 hD1
            clear hP hD
            obtain ⟨hP, hD⟩ := hPD
            replace hK := (hK.sub (tys' := [(cf13, .int), (cf12, .int), (cf5_13, .int)]) [0, 1, 2] rfl).app hK1
            clear hPc hDc hKc hFc hP1 hK1 hD1 hz1 hk1 ht hvm
            generalize H1 = H at hP hS ⊢
            replace hP : va_P (dC, dI) vwCl [(qf13, .inl (cf13, 6400, .inl f13)), (qf12, .inl (cf12, 1500, .inl f12)), (qf5, .inr (3, [.ref qf5_0, .int v5_1, .int v5_2, .int v5_3, .ref qf5_4, .ref qf5_5, .ref qf5_6, .int v5_7, .int v5_8, .int v5_9, .int v5_10, .ref qf5_11, .int v5_12, .ref qf5_13])), (qf5_13, .inl (cf5_13, 144, .inl f5_13)), (h0, .inr (11, [.ref qf0, .ref qf1, .int v2, .int v3, .int v4, .ref qf5, .int v6, .int u6_1, .ref qf8, .ref qf9, .ref qf10, .ref qf11, .ref qf12, .ref qf13, .ref qf14, .ref qf15, .int v16, .int v17, .int v18, .int v19, .int v20]))] H := hP
            replace hD : va_D A [(qf13, .inl (cf13, 6400, .inl f13)), (qf12, .inl (cf12, 1500, .inl f12)), (qf5, .inr (3, [.ref qf5_0, .int v5_1, .int v5_2, .int v5_3, .ref qf5_4, .ref qf5_5, .ref qf5_6, .int v5_7, .int v5_8, .int v5_9, .int v5_10, .ref qf5_11, .int v5_12, .ref qf5_13])), (qf5_13, .inl (cf5_13, 144, .inl f5_13)), (h0, .inr (11, [.ref qf0, .ref qf1, .int v2, .int v3, .int v4, .ref qf5, .int v6, .int u6_1, .ref qf8, .ref qf9, .ref qf10, .ref qf11, .ref qf12, .ref qf13, .ref qf14, .ref qf15, .int v16, .int v17, .int v18, .int v19, .int v20]))] := hD
            replace hK : va_K (dC, dI) vwCl [(cf13, .int), (cf12, .int), (cf5_13, .int)] s := hK
            obtain rfl := hw
            have hr0 := Option.some.inj hsp
            clear hsp
            obtain ⟨hq0, hr1⟩ := Prod.mk.inj hr0
            clear hr0
            subst hq0
            subst hr1
            have hP9 := hP.sub (ws' := [(h0, .inr (11, [.ref qf0, .ref qf1, .int v2, .int v3, .int v4, .ref qf5, .int v6, .int u6_1, .ref qf8, .ref qf9, .ref qf10, .ref qf11, .ref qf12, .ref qf13, .ref qf14, .ref qf15, .int v16, .int v17, .int v18, .int v19, .int v20])), (qf5, .inr (3, [.ref qf5_0, .int v5_1, .int v5_2, .int v5_3, .ref qf5_4, .ref qf5_5, .ref qf5_6, .int v5_7, .int v5_8, .int v5_9, .int v5_10, .ref qf5_11, .int v5_12, .ref qf5_13])), (qf5_13, .inl (cf5_13, 144, .inl f5_13)), (qf13, .inl (cf13, 6400, .inl f13)), (qf12, .inl (cf12, 1500, .inl f12))]) [4, 2, 3, 0, 1] rfl
            have hD9 := hD.sub (ws' := [(h0, .inr (11, [.ref qf0, .ref qf1, .int v2, .int v3, .int v4, .ref qf5, .int v6, .int u6_1, .ref qf8, .ref qf9, .ref qf10, .ref qf11, .ref qf12, .ref qf13, .ref qf14, .ref qf15, .int v16, .int v17, .int v18, .int v19, .int v20])), (qf5, .inr (3, [.ref qf5_0, .int v5_1, .int v5_2, .int v5_3, .ref qf5_4, .ref qf5_5, .ref qf5_6, .int v5_7, .int v5_8, .int v5_9, .int v5_10, .ref qf5_11, .int v5_12, .ref qf5_13])), (qf5_13, .inl (cf5_13, 144, .inl f5_13)), (qf13, .inl (cf13, 6400, .inl f13)), (qf12, .inl (cf12, 1500, .inl f12))]) [4, 2, 3, 0, 1] (by decide) rfl
            have hK9 := hK.sub (tys' := [(cf5_13, .int), (cf13, .int), (cf12, .int)]) [2, 0, 1] rfl
            exact W.iret hx hb hr (fun t ht hW => ⟨⟨(u6_0), (), rfl, rfl, by rw [ht]; exact hP9, va_K.moved hW.alike hK9, hD9⟩, hS.F ht⟩) hS.2.2 dX11_proveFrames_130
          · rw [if_neg c_15] at hsp
            refine lv_aload_n hx hb dX11_proveFrames_58 rfl (lv_at hl 3 rfl) ?_
            refine va_get (D := (dC, dI)) (ci := 11) (v := .ref qf13) (C := RX11) (T := TX11) (N := 21) hx hb hts uV_h3_X11 hown hK hP 2 rfl rfl 13 (by decide) (hts (.fieldLink RX11 41 "ClassMill$Verifier" "frames" "[I") mw_h3_194) (fun _ h9 => h9) rfl dX11_proveFrames_59 ?_
            refine lv_iload_n hx hb dX11_proveFrames_62 rfl (lv_at hl 0 rfl) ?_
            refine lv_iconst (v := 2) hx hb dX11_proveFrames_63 (by decide) ?_
            refine lv_iadd hx hb dX11_proveFrames_64 ?_
            obtain ⟨hi_18, hsp⟩ := ox_in hsp
            refine va_iald hx hb hK hP 0 0 rfl rfl (i := ((l2_4 * 64) + 2)) hi_18 dX11_proveFrames_65 ?_
            refine lv_aload_n hx hb dX11_proveFrames_66 rfl (lv_at hl 3 rfl) ?_
            refine lv_iconst (v := 3) hx hb dX11_proveFrames_67 (by decide) ?_
            obtain ⟨u7_0, hu_7, hsp⟩ := ox_bind hsp
            try dsimp only at hsp
            have hPc := hP.sub (ws' := [(h0, .inr (11, [.ref qf0, .ref qf1, .int v2, .int v3, .int v4, .ref qf5, .int v6, .int x7_4, .ref qf8, .ref qf9, .ref qf10, .ref qf11, .ref qf12, .ref qf13, .ref qf14, .ref qf15, .int v16, .int v17, .int v18, .int v19, .int v20])), (qf5, .inr (3, [.ref qf5_0, .int v5_1, .int v5_2, .int v5_3, .ref qf5_4, .ref qf5_5, .ref qf5_6, .int v5_7, .int v5_8, .int v5_9, .int v5_10, .ref qf5_11, .int v5_12, .ref qf5_13])), (qf5_13, .inl (cf5_13, 144, .inl f5_13))]) [2, 3, 4] rfl
            have hDc := hD.sub (ws' := [(h0, .inr (11, [.ref qf0, .ref qf1, .int v2, .int v3, .int v4, .ref qf5, .int v6, .int x7_4, .ref qf8, .ref qf9, .ref qf10, .ref qf11, .ref qf12, .ref qf13, .ref qf14, .ref qf15, .int v16, .int v17, .int v18, .int v19, .int v20])), (qf5, .inr (3, [.ref qf5_0, .int v5_1, .int v5_2, .int v5_3, .ref qf5_4, .ref qf5_5, .ref qf5_6, .int v5_7, .int v5_8, .int v5_9, .int v5_10, .ref qf5_11, .int v5_12, .ref qf5_13])), (qf5_13, .inl (cf5_13, 144, .inl f5_13))]) [2, 3, 4] (by decide) rfl
            have hKc := hK.sub (tys' := [(cf5_13, .int)]) [2] rfl
            have hFc := va_free (wc := [(h0, .inr (11, [.ref qf0, .ref qf1, .int v2, .int v3, .int v4, .ref qf5, .int v6, .int x7_4, .ref qf8, .ref qf9, .ref qf10, .ref qf11, .ref qf12, .ref qf13, .ref qf14, .ref qf15, .int v16, .int v17, .int v18, .int v19, .int v20])), (qf5, .inr (3, [.ref qf5_0, .int v5_1, .int v5_2, .int v5_3, .ref qf5_4, .ref qf5_5, .ref qf5_6, .int v5_7, .int v5_8, .int v5_9, .int v5_10, .ref qf5_11, .int v5_12, .ref qf5_13])), (qf5_13, .inl (cf5_13, 144, .inl f5_13))]) hD hS hA [2, 3, 4] rfl
            refine va_calli (va_runV (As := [.int 3]) (rest := [.int (f13 (((l2_4 * 64) + 2) : Int32).toNatClampNeg)]) ⟨hx, hb, hml, hown, hts⟩ (t11_info l dC dI H.size h0 3 qf0 qf1 v2 v3 v4 qf5 v6 x7_4 qf8 qf9 qf10 qf11 qf12 qf13 qf14 qf15 v16 v17 v18 v19 v20 qf5_0 v5_1 v5_2 v5_3 qf5_4 qf5_5 qf5_6 v5_7 v5_8 v5_9 v5_10 qf5_11 v5_12 qf5_13 cf5_13 f5_13 nf u7_0 hu_7) (cwV 1 hts gv_h3_35 rfl rfl rfl (by decide +kernel) ⟨Nat.le_of_ble_eq_true rfl, Nat.le_of_ble_eq_true rfl⟩) ⟨fun a U g mk q => by obtain ⟨q0, q1, qP, qK, qD⟩ := q; exact ⟨q0, q1, qP, va_K.moved (u := U) (U := U.calling g mk a) (Vm.Alike.refl U.vm) qK, qD⟩, va_recv hKc hPc (ci := 11) (q0 := 0) rfl rfl, fun U hU hW => ⟨rfl, by rw [hU], by rw [hU]; exact hPc, va_K.moved hW.alike hKc, hDc.weaken (fun _ _ _ _ => trivial)⟩⟩ rfl rfl hl.1 rfl (lv_room (Nat.le_of_ble_eq_true rfl)) dX11_proveFrames_68 ⟨Nat.le_of_ble_eq_true rfl, Nat.le_of_ble_eq_true rfl⟩) hS (fun q _ h => hFc q h) hFc ?_
            clear hS
            intro r_19 u t H1 locs ht hvm hw hB hz1 hk1 hS
            obtain ⟨⟩ := u
            obtain ⟨hP1, hK1, hD1⟩ := hB
            rw [ht] at hP1
            have hK1 := va_K.moved hvm.symm hK1
            try dsimp only at hw
            have hPD := va_join (wr := [(qf13, .inl (cf13, 6400, .inl f13)), (qf12, .inl (cf12, 1500, .inl f12))]) (w1 := [(h0, .inr (11, [.ref qf0, .ref qf1, .int v2, .int v3, .int v4, .ref qf5, .int v6, .int x7_4, .ref qf8, .ref qf9, .ref qf10, .ref qf11, .ref qf12, .ref qf13, .ref qf14, .ref qf15, .int v16, .int v17, .int v18, .int v19, .int v20])), (qf5, .inr (3, [.ref qf5_0, .int v5_1, .int v5_2, .int v5_3, .ref qf5_4, .ref qf5_5, .ref qf5_6, .int v5_7, .int v5_8, .int v5_9, .int v5_10, .ref qf5_11, .int v5_12, .ref qf5_13])), (qf5_13, .inl (cf5_13, 144, .inl f5_13))]) hP hD [2, 3, 4] [0, 1] rfl rfl (by decide) (by decide) hk1 hFc hP1 hD1
            clear hP hD
            obtain ⟨hP, hD⟩ := hPD
            replace hK := (hK.sub (tys' := [(cf13, .int), (cf12, .int)]) [0, 1] rfl).app hK1
            clear hPc hDc hKc hFc hP1 hK1 hD1 hz1 hk1 ht hvm
            generalize H1 = H at hP hS ⊢
            replace hP : va_P (dC, dI) vwCl [(qf13, .inl (cf13, 6400, .inl f13)), (qf12, .inl (cf12, 1500, .inl f12)), (h0, .inr (11, [.ref qf0, .ref qf1, .int v2, .int v3, .int v4, .ref qf5, .int v6, .int x7_4, .ref qf8, .ref qf9, .ref qf10, .ref qf11, .ref qf12, .ref qf13, .ref qf14, .ref qf15, .int v16, .int v17, .int v18, .int v19, .int v20])), (qf5, .inr (3, [.ref qf5_0, .int v5_1, .int v5_2, .int v5_3, .ref qf5_4, .ref qf5_5, .ref qf5_6, .int v5_7, .int v5_8, .int v5_9, .int v5_10, .ref qf5_11, .int v5_12, .ref qf5_13])), (qf5_13, .inl (cf5_13, 144, .inl f5_13))] H := hP
            replace hD : va_D A [(qf13, .inl (cf13, 6400, .inl f13)), (qf12, .inl (cf12, 1500, .inl f12)), (h0, .inr (11, [.ref qf0, .ref qf1, .int v2, .int v3, .int v4, .ref qf5, .int v6, .int x7_4, .ref qf8, .ref qf9, .ref qf10, .ref qf11, .ref qf12, .ref qf13, .ref qf14, .ref qf15, .int v16, .int v17, .int v18, .int v19, .int v20])), (qf5, .inr (3, [.ref qf5_0, .int v5_1, .int v5_2, .int v5_3, .ref qf5_4, .ref qf5_5, .ref qf5_6, .int v5_7, .int v5_8, .int v5_9, .int v5_10, .ref qf5_11, .int v5_12, .ref qf5_13])), (qf5_13, .inl (cf5_13, 144, .inl f5_13))] := hD
            replace hK : va_K (dC, dI) vwCl [(cf13, .int), (cf12, .int), (cf5_13, .int)] s := hK
            obtain rfl := hw
            refine lv_icmp_gt (tgt := 115) hx hb dX11_proveFrames_71 (by decide) (fun c_20 => ?_) (fun c_20 => ?_)
            · rw [if_pos c_20] at hsp
              refine lv_iconst (v := 0) hx hb dX11_proveFrames_115 (by decide) ?_
              refine lv_istore (lv' := [(4, .int 0), (3, .int (l2_4 * 64)), (2, .int l2_4), (1, .int l1_4), (0, .ref h0)]) hx hb dX11_proveFrames_116 hl (by decide) rfl (fun ls hl => ?_)
              refine lv_iload hx hb dX11_proveFrames_118 (lv_at hl 0 rfl) ?_
              refine lv_if_ne (tgt := 131) hx hb dX11_proveFrames_120 (by decide) (fun c_21 => (show False by revert c_21; decide).elim) (fun c_21 => ?_)
              refine lv_aload_n hx hb dX11_proveFrames_123 rfl (lv_at hl 4 rfl) ?_
              refine lv_bipush (v := 9) hx hb dX11_proveFrames_124 (by decide) ?_
              refine lv_iload_n hx hb dX11_proveFrames_126 rfl (lv_at hl 2 rfl) ?_
              obtain ⟨⟨u8_0, u8_1⟩, hu_8, hsp⟩ := ox_bind hsp
              try dsimp only at hsp
              have hPc := hP.sub (ws' := [(h0, .inr (11, [.ref qf0, .ref qf1, .int v2, .int v3, .int v4, .ref qf5, .int v6, .int x7_4, .ref qf8, .ref qf9, .ref qf10, .ref qf11, .ref qf12, .ref qf13, .ref qf14, .ref qf15, .int v16, .int v17, .int v18, .int v19, .int v20]))]) [2] rfl
              have hDc := hD.sub (ws' := [(h0, .inr (11, [.ref qf0, .ref qf1, .int v2, .int v3, .int v4, .ref qf5, .int v6, .int x7_4, .ref qf8, .ref qf9, .ref qf10, .ref qf11, .ref qf12, .ref qf13, .ref qf14, .ref qf15, .int v16, .int v17, .int v18, .int v19, .int v20]))]) [2] (by decide) rfl
              have hKc := hK.sub (tys' := []) [] rfl
              have hFc := va_free (wc := [(h0, .inr (11, [.ref qf0, .ref qf1, .int v2, .int v3, .int v4, .ref qf5, .int v6, .int x7_4, .ref qf8, .ref qf9, .ref qf10, .ref qf11, .ref qf12, .ref qf13, .ref qf14, .ref qf15, .int v16, .int v17, .int v18, .int v19, .int v20]))]) hD hS hA [2] rfl
              refine va_calli (va_runV (As := [.int 9, .int l2_4]) (rest := []) ⟨hx, hb, hml, hown, hts⟩ (t11_at l dC dI H.size h0 9 l2_4 qf0 qf1 v2 v3 v4 qf5 v6 x7_4 qf8 qf9 qf10 qf11 qf12 qf13 qf14 qf15 v16 v17 v18 v19 v20 nf u8_0 u8_1 hu_8) (cwV 2 hts gv_h3_41 rfl rfl rfl (by decide +kernel) ⟨Nat.le_of_ble_eq_true rfl, Nat.le_of_ble_eq_true rfl⟩) ⟨fun a U g mk q => by obtain ⟨q0, q1, qP, qK, qD⟩ := q; exact ⟨q0, q1, qP, va_K.moved (u := U) (U := U.calling g mk a) (Vm.Alike.refl U.vm) qK, qD⟩, va_recv hKc hPc (ci := 11) (q0 := 0) rfl rfl, fun U hU hW => ⟨rfl, by rw [hU], by rw [hU]; exact hPc, va_K.moved hW.alike hKc, hDc.weaken (fun _ _ _ _ => trivial)⟩⟩ rfl rfl hl.1 rfl (lv_room (Nat.le_of_ble_eq_true rfl)) dX11_proveFrames_127 ⟨Nat.le_of_ble_eq_true rfl, Nat.le_of_ble_eq_true rfl⟩) hS (fun q _ h => hFc q h) hFc ?_
              clear hS
              intro r_22 u t H1 locs ht hvm hw hB hz1 hk1 hS
              obtain ⟨⟩ := u
              obtain ⟨hP1, hK1, hD1⟩ := hB
              rw [ht] at hP1
              have hK1 := va_K.moved hvm.symm hK1
              try dsimp only at hw
              have hPD := va_join (wr := [(qf13, .inl (cf13, 6400, .inl f13)), (qf12, .inl (cf12, 1500, .inl f12)), (qf5, .inr (3, [.ref qf5_0, .int v5_1, .int v5_2, .int v5_3, .ref qf5_4, .ref qf5_5, .ref qf5_6, .int v5_7, .int v5_8, .int v5_9, .int v5_10, .ref qf5_11, .int v5_12, .ref qf5_13])), (qf5_13, .inl (cf5_13, 144, .inl f5_13))]) (w1 := [(h0, .inr (11, [.ref qf0, .ref qf1, .int v2, .int v3, .int v4, .ref qf5, .int v6, .int u8_1, .ref qf8, .ref qf9, .ref qf10, .ref qf11, .ref qf12, .ref qf13, .ref qf14, .ref qf15, .int v16, .int v17, .int v18, .int v19, .int v20]))]) hP hD [2] [0, 1, 3, 4] rfl rfl (by decide) (by decide) hk1 hFc hP1 hD1
              clear hP hD
              obtain ⟨hP, hD⟩ := hPD
              replace hK := (hK.sub (tys' := [(cf13, .int), (cf12, .int), (cf5_13, .int)]) [0, 1, 2] rfl).app hK1
              clear hPc hDc hKc hFc hP1 hK1 hD1 hz1 hk1 ht hvm
              generalize H1 = H at hP hS ⊢
              replace hP : va_P (dC, dI) vwCl [(qf13, .inl (cf13, 6400, .inl f13)), (qf12, .inl (cf12, 1500, .inl f12)), (qf5, .inr (3, [.ref qf5_0, .int v5_1, .int v5_2, .int v5_3, .ref qf5_4, .ref qf5_5, .ref qf5_6, .int v5_7, .int v5_8, .int v5_9, .int v5_10, .ref qf5_11, .int v5_12, .ref qf5_13])), (qf5_13, .inl (cf5_13, 144, .inl f5_13)), (h0, .inr (11, [.ref qf0, .ref qf1, .int v2, .int v3, .int v4, .ref qf5, .int v6, .int u8_1, .ref qf8, .ref qf9, .ref qf10, .ref qf11, .ref qf12, .ref qf13, .ref qf14, .ref qf15, .int v16, .int v17, .int v18, .int v19, .int v20]))] H := hP
              replace hD : va_D A [(qf13, .inl (cf13, 6400, .inl f13)), (qf12, .inl (cf12, 1500, .inl f12)), (qf5, .inr (3, [.ref qf5_0, .int v5_1, .int v5_2, .int v5_3, .ref qf5_4, .ref qf5_5, .ref qf5_6, .int v5_7, .int v5_8, .int v5_9, .int v5_10, .ref qf5_11, .int v5_12, .ref qf5_13])), (qf5_13, .inl (cf5_13, 144, .inl f5_13)), (h0, .inr (11, [.ref qf0, .ref qf1, .int v2, .int v3, .int v4, .ref qf5, .int v6, .int u8_1, .ref qf8, .ref qf9, .ref qf10, .ref qf11, .ref qf12, .ref qf13, .ref qf14, .ref qf15, .int v16, .int v17, .int v18, .int v19, .int v20]))] := hD
              replace hK : va_K (dC, dI) vwCl [(cf13, .int), (cf12, .int), (cf5_13, .int)] s := hK
              obtain rfl := hw
              have hr0 := Option.some.inj hsp
              clear hsp
              obtain ⟨hq0, hr1⟩ := Prod.mk.inj hr0
              clear hr0
              subst hq0
              subst hr1
              have hP9 := hP.sub (ws' := [(h0, .inr (11, [.ref qf0, .ref qf1, .int v2, .int v3, .int v4, .ref qf5, .int v6, .int u8_1, .ref qf8, .ref qf9, .ref qf10, .ref qf11, .ref qf12, .ref qf13, .ref qf14, .ref qf15, .int v16, .int v17, .int v18, .int v19, .int v20])), (qf5, .inr (3, [.ref qf5_0, .int v5_1, .int v5_2, .int v5_3, .ref qf5_4, .ref qf5_5, .ref qf5_6, .int v5_7, .int v5_8, .int v5_9, .int v5_10, .ref qf5_11, .int v5_12, .ref qf5_13])), (qf5_13, .inl (cf5_13, 144, .inl f5_13)), (qf13, .inl (cf13, 6400, .inl f13)), (qf12, .inl (cf12, 1500, .inl f12))]) [4, 2, 3, 0, 1] rfl
              have hD9 := hD.sub (ws' := [(h0, .inr (11, [.ref qf0, .ref qf1, .int v2, .int v3, .int v4, .ref qf5, .int v6, .int u8_1, .ref qf8, .ref qf9, .ref qf10, .ref qf11, .ref qf12, .ref qf13, .ref qf14, .ref qf15, .int v16, .int v17, .int v18, .int v19, .int v20])), (qf5, .inr (3, [.ref qf5_0, .int v5_1, .int v5_2, .int v5_3, .ref qf5_4, .ref qf5_5, .ref qf5_6, .int v5_7, .int v5_8, .int v5_9, .int v5_10, .ref qf5_11, .int v5_12, .ref qf5_13])), (qf5_13, .inl (cf5_13, 144, .inl f5_13)), (qf13, .inl (cf13, 6400, .inl f13)), (qf12, .inl (cf12, 1500, .inl f12))]) [4, 2, 3, 0, 1] (by decide) rfl
              have hK9 := hK.sub (tys' := [(cf5_13, .int), (cf13, .int), (cf12, .int)]) [2, 0, 1] rfl
              exact W.iret hx hb hr (fun t ht hW => ⟨⟨(u8_0), (), rfl, rfl, by rw [ht]; exact hP9, va_K.moved hW.alike hK9, hD9⟩, hS.F ht⟩) hS.2.2 dX11_proveFrames_130
            · rw [if_neg c_20] at hsp
              refine lv_aload_n hx hb dX11_proveFrames_74 rfl (lv_at hl 3 rfl) ?_
              refine lv_iload_n hx hb dX11_proveFrames_75 rfl (lv_at hl 0 rfl) ?_
              refine lv_iconst (v := 3) hx hb dX11_proveFrames_76 (by decide) ?_
              refine lv_iadd hx hb dX11_proveFrames_77 ?_
              refine lv_aload_n hx hb dX11_proveFrames_78 rfl (lv_at hl 3 rfl) ?_
              refine va_get (D := (dC, dI)) (ci := 11) (v := .ref qf13) (C := RX11) (T := TX11) (N := 21) hx hb hts uV_h3_X11 hown hK hP 2 rfl rfl 13 (by decide) (hts (.fieldLink RX11 41 "ClassMill$Verifier" "frames" "[I") mw_h3_194) (fun _ h9 => h9) rfl dX11_proveFrames_79 ?_
              refine lv_iload_n hx hb dX11_proveFrames_82 rfl (lv_at hl 0 rfl) ?_
              refine lv_iconst (v := 1) hx hb dX11_proveFrames_83 (by decide) ?_
              refine lv_iadd hx hb dX11_proveFrames_84 ?_
              obtain ⟨hi_23, hsp⟩ := ox_in hsp
              refine va_iald hx hb hK hP 0 0 rfl rfl (i := ((l2_4 * 64) + 1)) hi_23 dX11_proveFrames_85 ?_
              obtain ⟨u9_0, hu_9, hsp⟩ := ox_bind hsp
              try dsimp only at hsp
              have hPc := hP.sub (ws' := [(h0, .inr (11, [.ref qf0, .ref qf1, .int v2, .int v3, .int v4, .ref qf5, .int v6, .int x7_4, .ref qf8, .ref qf9, .ref qf10, .ref qf11, .ref qf12, .ref qf13, .ref qf14, .ref qf15, .int v16, .int v17, .int v18, .int v19, .int v20])), (qf13, .inl (cf13, 6400, .inl f13))]) [2, 0] rfl
              have hDc := hD.sub (ws' := [(h0, .inr (11, [.ref qf0, .ref qf1, .int v2, .int v3, .int v4, .ref qf5, .int v6, .int x7_4, .ref qf8, .ref qf9, .ref qf10, .ref qf11, .ref qf12, .ref qf13, .ref qf14, .ref qf15, .int v16, .int v17, .int v18, .int v19, .int v20])), (qf13, .inl (cf13, 6400, .inl f13))]) [2, 0] (by decide) rfl
              have hKc := hK.sub (tys' := [(cf13, .int)]) [0] rfl
              have hFc := va_free (wc := [(h0, .inr (11, [.ref qf0, .ref qf1, .int v2, .int v3, .int v4, .ref qf5, .int v6, .int x7_4, .ref qf8, .ref qf9, .ref qf10, .ref qf11, .ref qf12, .ref qf13, .ref qf14, .ref qf15, .int v16, .int v17, .int v18, .int v19, .int v20])), (qf13, .inl (cf13, 6400, .inl f13))]) hD hS hA [2, 0] rfl
              refine va_calli (va_runV (As := [.int ((l2_4 * 64) + 3), .int (f13 (((l2_4 * 64) + 1) : Int32).toNatClampNeg)]) (rest := []) ⟨hx, hb, hml, hown, hts⟩ (t11_areThere l dC dI H.size h0 (((l2_4 * 64) + 3)) ((f13 (((l2_4 * 64) + 1) : Int32).toNatClampNeg)) qf0 qf1 v2 v3 v4 qf5 v6 x7_4 qf8 qf9 qf10 qf11 qf12 qf13 qf14 qf15 v16 v17 v18 v19 v20 cf13 f13 nf u9_0 hu_9) (cwV 2 hts gv_h3_59 rfl rfl rfl (by decide +kernel) ⟨Nat.le_of_ble_eq_true rfl, Nat.le_of_ble_eq_true rfl⟩) ⟨fun a U g mk q => by obtain ⟨q0, q1, qP, qK, qD⟩ := q; exact ⟨q0, q1, qP, va_K.moved (u := U) (U := U.calling g mk a) (Vm.Alike.refl U.vm) qK, qD⟩, va_recv hKc hPc (ci := 11) (q0 := 0) rfl rfl, fun U hU hW => ⟨rfl, by rw [hU], by rw [hU]; exact hPc, va_K.moved hW.alike hKc, hDc.weaken (fun _ _ _ _ => trivial)⟩⟩ rfl rfl hl.1 rfl (lv_room (Nat.le_of_ble_eq_true rfl)) dX11_proveFrames_86 ⟨Nat.le_of_ble_eq_true rfl, Nat.le_of_ble_eq_true rfl⟩) hS (fun q _ h => hFc q h) hFc ?_
              clear hS
              intro r_24 u t H1 locs ht hvm hw hB hz1 hk1 hS
              obtain ⟨⟩ := u
              obtain ⟨hP1, hK1, hD1⟩ := hB
              rw [ht] at hP1
              have hK1 := va_K.moved hvm.symm hK1
              try dsimp only at hw
              have hPD := va_join (wr := [(qf12, .inl (cf12, 1500, .inl f12)), (qf5, .inr (3, [.ref qf5_0, .int v5_1, .int v5_2, .int v5_3, .ref qf5_4, .ref qf5_5, .ref qf5_6, .int v5_7, .int v5_8, .int v5_9, .int v5_10, .ref qf5_11, .int v5_12, .ref qf5_13])), (qf5_13, .inl (cf5_13, 144, .inl f5_13))]) (w1 := [(h0, .inr (11, [.ref qf0, .ref qf1, .int v2, .int v3, .int v4, .ref qf5, .int v6, .int x7_4, .ref qf8, .ref qf9, .ref qf10, .ref qf11, .ref qf12, .ref qf13, .ref qf14, .ref qf15, .int v16, .int v17, .int v18, .int v19, .int v20])), (qf13, .inl (cf13, 6400, .inl f13))]) hP hD [2, 0] [1, 3, 4] rfl rfl (by decide) (by decide) hk1 hFc hP1 hD1
              clear hP hD
              obtain ⟨hP, hD⟩ := hPD
              replace hK := (hK.sub (tys' := [(cf12, .int), (cf5_13, .int)]) [1, 2] rfl).app hK1
              clear hPc hDc hKc hFc hP1 hK1 hD1 hz1 hk1 ht hvm
              generalize H1 = H at hP hS ⊢
              replace hP : va_P (dC, dI) vwCl [(qf12, .inl (cf12, 1500, .inl f12)), (qf5, .inr (3, [.ref qf5_0, .int v5_1, .int v5_2, .int v5_3, .ref qf5_4, .ref qf5_5, .ref qf5_6, .int v5_7, .int v5_8, .int v5_9, .int v5_10, .ref qf5_11, .int v5_12, .ref qf5_13])), (qf5_13, .inl (cf5_13, 144, .inl f5_13)), (h0, .inr (11, [.ref qf0, .ref qf1, .int v2, .int v3, .int v4, .ref qf5, .int v6, .int x7_4, .ref qf8, .ref qf9, .ref qf10, .ref qf11, .ref qf12, .ref qf13, .ref qf14, .ref qf15, .int v16, .int v17, .int v18, .int v19, .int v20])), (qf13, .inl (cf13, 6400, .inl f13))] H := hP
              replace hD : va_D A [(qf12, .inl (cf12, 1500, .inl f12)), (qf5, .inr (3, [.ref qf5_0, .int v5_1, .int v5_2, .int v5_3, .ref qf5_4, .ref qf5_5, .ref qf5_6, .int v5_7, .int v5_8, .int v5_9, .int v5_10, .ref qf5_11, .int v5_12, .ref qf5_13])), (qf5_13, .inl (cf5_13, 144, .inl f5_13)), (h0, .inr (11, [.ref qf0, .ref qf1, .int v2, .int v3, .int v4, .ref qf5, .int v6, .int x7_4, .ref qf8, .ref qf9, .ref qf10, .ref qf11, .ref qf12, .ref qf13, .ref qf14, .ref qf15, .int v16, .int v17, .int v18, .int v19, .int v20])), (qf13, .inl (cf13, 6400, .inl f13))] := hD
              replace hK : va_K (dC, dI) vwCl [(cf12, .int), (cf5_13, .int), (cf13, .int)] s := hK
              obtain ⟨rfl, hz_9⟩ := hw
              rcases hz_9 with rfl | rfl
              · rw [if_pos rfl] at hsp
                refine lv_if_eq (tgt := 115) hx hb dX11_proveFrames_89 (by decide) (fun c_25 => ?_) (fun c_25 => (show False by revert c_25; decide).elim)
                refine lv_iconst (v := 0) hx hb dX11_proveFrames_115 (by decide) ?_
                refine lv_istore (lv' := [(4, .int 0), (3, .int (l2_4 * 64)), (2, .int l2_4), (1, .int l1_4), (0, .ref h0)]) hx hb dX11_proveFrames_116 hl (by decide) rfl (fun ls hl => ?_)
                refine lv_iload hx hb dX11_proveFrames_118 (lv_at hl 0 rfl) ?_
                refine lv_if_ne (tgt := 131) hx hb dX11_proveFrames_120 (by decide) (fun c_26 => (show False by revert c_26; decide).elim) (fun c_26 => ?_)
                refine lv_aload_n hx hb dX11_proveFrames_123 rfl (lv_at hl 4 rfl) ?_
                refine lv_bipush (v := 9) hx hb dX11_proveFrames_124 (by decide) ?_
                refine lv_iload_n hx hb dX11_proveFrames_126 rfl (lv_at hl 2 rfl) ?_
                obtain ⟨⟨u10_0, u10_1⟩, hu_10, hsp⟩ := ox_bind hsp
                try dsimp only at hsp
                have hPc := hP.sub (ws' := [(h0, .inr (11, [.ref qf0, .ref qf1, .int v2, .int v3, .int v4, .ref qf5, .int v6, .int x7_4, .ref qf8, .ref qf9, .ref qf10, .ref qf11, .ref qf12, .ref qf13, .ref qf14, .ref qf15, .int v16, .int v17, .int v18, .int v19, .int v20]))]) [3] rfl
                have hDc := hD.sub (ws' := [(h0, .inr (11, [.ref qf0, .ref qf1, .int v2, .int v3, .int v4, .ref qf5, .int v6, .int x7_4, .ref qf8, .ref qf9, .ref qf10, .ref qf11, .ref qf12, .ref qf13, .ref qf14, .ref qf15, .int v16, .int v17, .int v18, .int v19, .int v20]))]) [3] (by decide) rfl
                have hKc := hK.sub (tys' := []) [] rfl
                have hFc := va_free (wc := [(h0, .inr (11, [.ref qf0, .ref qf1, .int v2, .int v3, .int v4, .ref qf5, .int v6, .int x7_4, .ref qf8, .ref qf9, .ref qf10, .ref qf11, .ref qf12, .ref qf13, .ref qf14, .ref qf15, .int v16, .int v17, .int v18, .int v19, .int v20]))]) hD hS hA [3] rfl
                refine va_calli (va_runV (As := [.int 9, .int l2_4]) (rest := []) ⟨hx, hb, hml, hown, hts⟩ (t11_at l dC dI H.size h0 9 l2_4 qf0 qf1 v2 v3 v4 qf5 v6 x7_4 qf8 qf9 qf10 qf11 qf12 qf13 qf14 qf15 v16 v17 v18 v19 v20 nf u10_0 u10_1 hu_10) (cwV 2 hts gv_h3_41 rfl rfl rfl (by decide +kernel) ⟨Nat.le_of_ble_eq_true rfl, Nat.le_of_ble_eq_true rfl⟩) ⟨fun a U g mk q => by obtain ⟨q0, q1, qP, qK, qD⟩ := q; exact ⟨q0, q1, qP, va_K.moved (u := U) (U := U.calling g mk a) (Vm.Alike.refl U.vm) qK, qD⟩, va_recv hKc hPc (ci := 11) (q0 := 0) rfl rfl, fun U hU hW => ⟨rfl, by rw [hU], by rw [hU]; exact hPc, va_K.moved hW.alike hKc, hDc.weaken (fun _ _ _ _ => trivial)⟩⟩ rfl rfl hl.1 rfl (lv_room (Nat.le_of_ble_eq_true rfl)) dX11_proveFrames_127 ⟨Nat.le_of_ble_eq_true rfl, Nat.le_of_ble_eq_true rfl⟩) hS (fun q _ h => hFc q h) hFc ?_
                clear hS
                intro r_27 u t H1 locs ht hvm hw hB hz1 hk1 hS
                obtain ⟨⟩ := u
                obtain ⟨hP1, hK1, hD1⟩ := hB
                rw [ht] at hP1
                have hK1 := va_K.moved hvm.symm hK1
                try dsimp only at hw
                have hPD := va_join (wr := [(qf12, .inl (cf12, 1500, .inl f12)), (qf5, .inr (3, [.ref qf5_0, .int v5_1, .int v5_2, .int v5_3, .ref qf5_4, .ref qf5_5, .ref qf5_6, .int v5_7, .int v5_8, .int v5_9, .int v5_10, .ref qf5_11, .int v5_12, .ref qf5_13])), (qf5_13, .inl (cf5_13, 144, .inl f5_13)), (qf13, .inl (cf13, 6400, .inl f13))]) (w1 := [(h0, .inr (11, [.ref qf0, .ref qf1, .int v2, .int v3, .int v4, .ref qf5, .int v6, .int u10_1, .ref qf8, .ref qf9, .ref qf10, .ref qf11, .ref qf12, .ref qf13, .ref qf14, .ref qf15, .int v16, .int v17, .int v18, .int v19, .int v20]))]) hP hD [3] [0, 1, 2, 4] rfl rfl (by decide) (by decide) hk1 hFc hP1 hD1
                clear hP hD
                obtain ⟨hP, hD⟩ := hPD
                replace hK := (hK.sub (tys' := [(cf12, .int), (cf5_13, .int), (cf13, .int)]) [0, 1, 2] rfl).app hK1
                clear hPc hDc hKc hFc hP1 hK1 hD1 hz1 hk1 ht hvm
                generalize H1 = H at hP hS ⊢
                replace hP : va_P (dC, dI) vwCl [(qf12, .inl (cf12, 1500, .inl f12)), (qf5, .inr (3, [.ref qf5_0, .int v5_1, .int v5_2, .int v5_3, .ref qf5_4, .ref qf5_5, .ref qf5_6, .int v5_7, .int v5_8, .int v5_9, .int v5_10, .ref qf5_11, .int v5_12, .ref qf5_13])), (qf5_13, .inl (cf5_13, 144, .inl f5_13)), (qf13, .inl (cf13, 6400, .inl f13)), (h0, .inr (11, [.ref qf0, .ref qf1, .int v2, .int v3, .int v4, .ref qf5, .int v6, .int u10_1, .ref qf8, .ref qf9, .ref qf10, .ref qf11, .ref qf12, .ref qf13, .ref qf14, .ref qf15, .int v16, .int v17, .int v18, .int v19, .int v20]))] H := hP
                replace hD : va_D A [(qf12, .inl (cf12, 1500, .inl f12)), (qf5, .inr (3, [.ref qf5_0, .int v5_1, .int v5_2, .int v5_3, .ref qf5_4, .ref qf5_5, .ref qf5_6, .int v5_7, .int v5_8, .int v5_9, .int v5_10, .ref qf5_11, .int v5_12, .ref qf5_13])), (qf5_13, .inl (cf5_13, 144, .inl f5_13)), (qf13, .inl (cf13, 6400, .inl f13)), (h0, .inr (11, [.ref qf0, .ref qf1, .int v2, .int v3, .int v4, .ref qf5, .int v6, .int u10_1, .ref qf8, .ref qf9, .ref qf10, .ref qf11, .ref qf12, .ref qf13, .ref qf14, .ref qf15, .int v16, .int v17, .int v18, .int v19, .int v20]))] := hD
                replace hK : va_K (dC, dI) vwCl [(cf12, .int), (cf5_13, .int), (cf13, .int)] s := hK
                obtain rfl := hw
                have hr0 := Option.some.inj hsp
                clear hsp
                obtain ⟨hq0, hr1⟩ := Prod.mk.inj hr0
                clear hr0
                subst hq0
                subst hr1
                have hP9 := hP.sub (ws' := [(h0, .inr (11, [.ref qf0, .ref qf1, .int v2, .int v3, .int v4, .ref qf5, .int v6, .int u10_1, .ref qf8, .ref qf9, .ref qf10, .ref qf11, .ref qf12, .ref qf13, .ref qf14, .ref qf15, .int v16, .int v17, .int v18, .int v19, .int v20])), (qf5, .inr (3, [.ref qf5_0, .int v5_1, .int v5_2, .int v5_3, .ref qf5_4, .ref qf5_5, .ref qf5_6, .int v5_7, .int v5_8, .int v5_9, .int v5_10, .ref qf5_11, .int v5_12, .ref qf5_13])), (qf5_13, .inl (cf5_13, 144, .inl f5_13)), (qf13, .inl (cf13, 6400, .inl f13)), (qf12, .inl (cf12, 1500, .inl f12))]) [4, 1, 2, 3, 0] rfl
                have hD9 := hD.sub (ws' := [(h0, .inr (11, [.ref qf0, .ref qf1, .int v2, .int v3, .int v4, .ref qf5, .int v6, .int u10_1, .ref qf8, .ref qf9, .ref qf10, .ref qf11, .ref qf12, .ref qf13, .ref qf14, .ref qf15, .int v16, .int v17, .int v18, .int v19, .int v20])), (qf5, .inr (3, [.ref qf5_0, .int v5_1, .int v5_2, .int v5_3, .ref qf5_4, .ref qf5_5, .ref qf5_6, .int v5_7, .int v5_8, .int v5_9, .int v5_10, .ref qf5_11, .int v5_12, .ref qf5_13])), (qf5_13, .inl (cf5_13, 144, .inl f5_13)), (qf13, .inl (cf13, 6400, .inl f13)), (qf12, .inl (cf12, 1500, .inl f12))]) [4, 1, 2, 3, 0] (by decide) rfl
                have hK9 := hK.sub (tys' := [(cf5_13, .int), (cf13, .int), (cf12, .int)]) [1, 2, 0] rfl
                exact W.iret hx hb hr (fun t ht hW => ⟨⟨(u10_0), (), rfl, rfl, by rw [ht]; exact hP9, va_K.moved hW.alike hK9, hD9⟩, hS.F ht⟩) hS.2.2 dX11_proveFrames_130
              · rw [if_neg (by decide)] at hsp
                refine lv_if_eq (tgt := 115) hx hb dX11_proveFrames_89 (by decide) (fun c_28 => (show False by revert c_28; decide).elim) (fun c_28 => ?_)
                refine lv_aload_n hx hb dX11_proveFrames_92 rfl (lv_at hl 3 rfl) ?_
                refine lv_iload_n hx hb dX11_proveFrames_93 rfl (lv_at hl 0 rfl) ?_
                refine lv_bipush (v := 33) hx hb dX11_proveFrames_94 (by decide) ?_
                refine lv_iadd hx hb dX11_proveFrames_96 ?_
                refine lv_aload_n hx hb dX11_proveFrames_97 rfl (lv_at hl 3 rfl) ?_
                refine va_get (D := (dC, dI)) (ci := 11) (v := .ref qf13) (C := RX11) (T := TX11) (N := 21) hx hb hts uV_h3_X11 hown hK hP 3 rfl rfl 13 (by decide) (hts (.fieldLink RX11 41 "ClassMill$Verifier" "frames" "[I") mw_h3_194) (fun _ h9 => h9) rfl dX11_proveFrames_98 ?_
                refine lv_iload_n hx hb dX11_proveFrames_101 rfl (lv_at hl 0 rfl) ?_
                refine lv_iconst (v := 2) hx hb dX11_proveFrames_102 (by decide) ?_
                refine lv_iadd hx hb dX11_proveFrames_103 ?_
                obtain ⟨hi_29, hsp⟩ := ox_in hsp
                refine va_iald hx hb hK hP 4 2 rfl rfl (i := ((l2_4 * 64) + 2)) hi_29 dX11_proveFrames_104 ?_
                obtain ⟨u11_0, hu_11, hsp⟩ := ox_bind hsp
                try dsimp only at hsp
                have hPc := hP.sub (ws' := [(h0, .inr (11, [.ref qf0, .ref qf1, .int v2, .int v3, .int v4, .ref qf5, .int v6, .int x7_4, .ref qf8, .ref qf9, .ref qf10, .ref qf11, .ref qf12, .ref qf13, .ref qf14, .ref qf15, .int v16, .int v17, .int v18, .int v19, .int v20])), (qf13, .inl (cf13, 6400, .inl f13))]) [3, 4] rfl
                have hDc := hD.sub (ws' := [(h0, .inr (11, [.ref qf0, .ref qf1, .int v2, .int v3, .int v4, .ref qf5, .int v6, .int x7_4, .ref qf8, .ref qf9, .ref qf10, .ref qf11, .ref qf12, .ref qf13, .ref qf14, .ref qf15, .int v16, .int v17, .int v18, .int v19, .int v20])), (qf13, .inl (cf13, 6400, .inl f13))]) [3, 4] (by decide) rfl
                have hKc := hK.sub (tys' := [(cf13, .int)]) [2] rfl
                have hFc := va_free (wc := [(h0, .inr (11, [.ref qf0, .ref qf1, .int v2, .int v3, .int v4, .ref qf5, .int v6, .int x7_4, .ref qf8, .ref qf9, .ref qf10, .ref qf11, .ref qf12, .ref qf13, .ref qf14, .ref qf15, .int v16, .int v17, .int v18, .int v19, .int v20])), (qf13, .inl (cf13, 6400, .inl f13))]) hD hS hA [3, 4] rfl
                refine va_calli (va_runV (As := [.int ((l2_4 * 64) + 33), .int (f13 (((l2_4 * 64) + 2) : Int32).toNatClampNeg)]) (rest := []) ⟨hx, hb, hml, hown, hts⟩ (t11_areThere l dC dI H.size h0 (((l2_4 * 64) + 33)) ((f13 (((l2_4 * 64) + 2) : Int32).toNatClampNeg)) qf0 qf1 v2 v3 v4 qf5 v6 x7_4 qf8 qf9 qf10 qf11 qf12 qf13 qf14 qf15 v16 v17 v18 v19 v20 cf13 f13 nf u11_0 hu_11) (cwV 2 hts gv_h3_59 rfl rfl rfl (by decide +kernel) ⟨Nat.le_of_ble_eq_true rfl, Nat.le_of_ble_eq_true rfl⟩) ⟨fun a U g mk q => by obtain ⟨q0, q1, qP, qK, qD⟩ := q; exact ⟨q0, q1, qP, va_K.moved (u := U) (U := U.calling g mk a) (Vm.Alike.refl U.vm) qK, qD⟩, va_recv hKc hPc (ci := 11) (q0 := 0) rfl rfl, fun U hU hW => ⟨rfl, by rw [hU], by rw [hU]; exact hPc, va_K.moved hW.alike hKc, hDc.weaken (fun _ _ _ _ => trivial)⟩⟩ rfl rfl hl.1 rfl (lv_room (Nat.le_of_ble_eq_true rfl)) dX11_proveFrames_105 ⟨Nat.le_of_ble_eq_true rfl, Nat.le_of_ble_eq_true rfl⟩) hS (fun q _ h => hFc q h) hFc ?_
                clear hS
                intro r_30 u t H1 locs ht hvm hw hB hz1 hk1 hS
                obtain ⟨⟩ := u
                obtain ⟨hP1, hK1, hD1⟩ := hB
                rw [ht] at hP1
                have hK1 := va_K.moved hvm.symm hK1
                try dsimp only at hw
                have hPD := va_join (wr := [(qf12, .inl (cf12, 1500, .inl f12)), (qf5, .inr (3, [.ref qf5_0, .int v5_1, .int v5_2, .int v5_3, .ref qf5_4, .ref qf5_5, .ref qf5_6, .int v5_7, .int v5_8, .int v5_9, .int v5_10, .ref qf5_11, .int v5_12, .ref qf5_13])), (qf5_13, .inl (cf5_13, 144, .inl f5_13))]) (w1 := [(h0, .inr (11, [.ref qf0, .ref qf1, .int v2, .int v3, .int v4, .ref qf5, .int v6, .int x7_4, .ref qf8, .ref qf9, .ref qf10, .ref qf11, .ref qf12, .ref qf13, .ref qf14, .ref qf15, .int v16, .int v17, .int v18, .int v19, .int v20])), (qf13, .inl (cf13, 6400, .inl f13))]) hP hD [3, 4] [0, 1, 2] rfl rfl (by decide) (by decide) hk1 hFc hP1 hD1
                clear hP hD
                obtain ⟨hP, hD⟩ := hPD
                replace hK := (hK.sub (tys' := [(cf12, .int), (cf5_13, .int)]) [0, 1] rfl).app hK1
                clear hPc hDc hKc hFc hP1 hK1 hD1 hz1 hk1 ht hvm
                generalize H1 = H at hP hS ⊢
                replace hP : va_P (dC, dI) vwCl [(qf12, .inl (cf12, 1500, .inl f12)), (qf5, .inr (3, [.ref qf5_0, .int v5_1, .int v5_2, .int v5_3, .ref qf5_4, .ref qf5_5, .ref qf5_6, .int v5_7, .int v5_8, .int v5_9, .int v5_10, .ref qf5_11, .int v5_12, .ref qf5_13])), (qf5_13, .inl (cf5_13, 144, .inl f5_13)), (h0, .inr (11, [.ref qf0, .ref qf1, .int v2, .int v3, .int v4, .ref qf5, .int v6, .int x7_4, .ref qf8, .ref qf9, .ref qf10, .ref qf11, .ref qf12, .ref qf13, .ref qf14, .ref qf15, .int v16, .int v17, .int v18, .int v19, .int v20])), (qf13, .inl (cf13, 6400, .inl f13))] H := hP
                replace hD : va_D A [(qf12, .inl (cf12, 1500, .inl f12)), (qf5, .inr (3, [.ref qf5_0, .int v5_1, .int v5_2, .int v5_3, .ref qf5_4, .ref qf5_5, .ref qf5_6, .int v5_7, .int v5_8, .int v5_9, .int v5_10, .ref qf5_11, .int v5_12, .ref qf5_13])), (qf5_13, .inl (cf5_13, 144, .inl f5_13)), (h0, .inr (11, [.ref qf0, .ref qf1, .int v2, .int v3, .int v4, .ref qf5, .int v6, .int x7_4, .ref qf8, .ref qf9, .ref qf10, .ref qf11, .ref qf12, .ref qf13, .ref qf14, .ref qf15, .int v16, .int v17, .int v18, .int v19, .int v20])), (qf13, .inl (cf13, 6400, .inl f13))] := hD
                replace hK : va_K (dC, dI) vwCl [(cf12, .int), (cf5_13, .int), (cf13, .int)] s := hK
                obtain ⟨rfl, hz_11⟩ := hw
                rcases hz_11 with rfl | rfl
                · rw [if_pos rfl] at hsp
                  refine lv_if_eq (tgt := 115) hx hb dX11_proveFrames_108 (by decide) (fun c_31 => ?_) (fun c_31 => (show False by revert c_31; decide).elim)
                  refine lv_iconst (v := 0) hx hb dX11_proveFrames_115 (by decide) ?_
                  refine lv_istore (lv' := [(4, .int 0), (3, .int (l2_4 * 64)), (2, .int l2_4), (1, .int l1_4), (0, .ref h0)]) hx hb dX11_proveFrames_116 hl (by decide) rfl (fun ls hl => ?_)
                  refine lv_iload hx hb dX11_proveFrames_118 (lv_at hl 0 rfl) ?_
                  refine lv_if_ne (tgt := 131) hx hb dX11_proveFrames_120 (by decide) (fun c_32 => (show False by revert c_32; decide).elim) (fun c_32 => ?_)
                  refine lv_aload_n hx hb dX11_proveFrames_123 rfl (lv_at hl 4 rfl) ?_
                  refine lv_bipush (v := 9) hx hb dX11_proveFrames_124 (by decide) ?_
                  refine lv_iload_n hx hb dX11_proveFrames_126 rfl (lv_at hl 2 rfl) ?_
                  obtain ⟨⟨u12_0, u12_1⟩, hu_12, hsp⟩ := ox_bind hsp
                  try dsimp only at hsp
                  have hPc := hP.sub (ws' := [(h0, .inr (11, [.ref qf0, .ref qf1, .int v2, .int v3, .int v4, .ref qf5, .int v6, .int x7_4, .ref qf8, .ref qf9, .ref qf10, .ref qf11, .ref qf12, .ref qf13, .ref qf14, .ref qf15, .int v16, .int v17, .int v18, .int v19, .int v20]))]) [3] rfl
                  have hDc := hD.sub (ws' := [(h0, .inr (11, [.ref qf0, .ref qf1, .int v2, .int v3, .int v4, .ref qf5, .int v6, .int x7_4, .ref qf8, .ref qf9, .ref qf10, .ref qf11, .ref qf12, .ref qf13, .ref qf14, .ref qf15, .int v16, .int v17, .int v18, .int v19, .int v20]))]) [3] (by decide) rfl
                  have hKc := hK.sub (tys' := []) [] rfl
                  have hFc := va_free (wc := [(h0, .inr (11, [.ref qf0, .ref qf1, .int v2, .int v3, .int v4, .ref qf5, .int v6, .int x7_4, .ref qf8, .ref qf9, .ref qf10, .ref qf11, .ref qf12, .ref qf13, .ref qf14, .ref qf15, .int v16, .int v17, .int v18, .int v19, .int v20]))]) hD hS hA [3] rfl
                  refine va_calli (va_runV (As := [.int 9, .int l2_4]) (rest := []) ⟨hx, hb, hml, hown, hts⟩ (t11_at l dC dI H.size h0 9 l2_4 qf0 qf1 v2 v3 v4 qf5 v6 x7_4 qf8 qf9 qf10 qf11 qf12 qf13 qf14 qf15 v16 v17 v18 v19 v20 nf u12_0 u12_1 hu_12) (cwV 2 hts gv_h3_41 rfl rfl rfl (by decide +kernel) ⟨Nat.le_of_ble_eq_true rfl, Nat.le_of_ble_eq_true rfl⟩) ⟨fun a U g mk q => by obtain ⟨q0, q1, qP, qK, qD⟩ := q; exact ⟨q0, q1, qP, va_K.moved (u := U) (U := U.calling g mk a) (Vm.Alike.refl U.vm) qK, qD⟩, va_recv hKc hPc (ci := 11) (q0 := 0) rfl rfl, fun U hU hW => ⟨rfl, by rw [hU], by rw [hU]; exact hPc, va_K.moved hW.alike hKc, hDc.weaken (fun _ _ _ _ => trivial)⟩⟩ rfl rfl hl.1 rfl (lv_room (Nat.le_of_ble_eq_true rfl)) dX11_proveFrames_127 ⟨Nat.le_of_ble_eq_true rfl, Nat.le_of_ble_eq_true rfl⟩) hS (fun q _ h => hFc q h) hFc ?_
                  clear hS
                  intro r_33 u t H1 locs ht hvm hw hB hz1 hk1 hS
                  obtain ⟨⟩ := u
                  obtain ⟨hP1, hK1, hD1⟩ := hB
                  rw [ht] at hP1
                  have hK1 := va_K.moved hvm.symm hK1
                  try dsimp only at hw
                  have hPD := va_join (wr := [(qf12, .inl (cf12, 1500, .inl f12)), (qf5, .inr (3, [.ref qf5_0, .int v5_1, .int v5_2, .int v5_3, .ref qf5_4, .ref qf5_5, .ref qf5_6, .int v5_7, .int v5_8, .int v5_9, .int v5_10, .ref qf5_11, .int v5_12, .ref qf5_13])), (qf5_13, .inl (cf5_13, 144, .inl f5_13)), (qf13, .inl (cf13, 6400, .inl f13))]) (w1 := [(h0, .inr (11, [.ref qf0, .ref qf1, .int v2, .int v3, .int v4, .ref qf5, .int v6, .int u12_1, .ref qf8, .ref qf9, .ref qf10, .ref qf11, .ref qf12, .ref qf13, .ref qf14, .ref qf15, .int v16, .int v17, .int v18, .int v19, .int v20]))]) hP hD [3] [0, 1, 2, 4] rfl rfl (by decide) (by decide) hk1 hFc hP1 hD1
                  clear hP hD
                  obtain ⟨hP, hD⟩ := hPD
                  replace hK := (hK.sub (tys' := [(cf12, .int), (cf5_13, .int), (cf13, .int)]) [0, 1, 2] rfl).app hK1
                  clear hPc hDc hKc hFc hP1 hK1 hD1 hz1 hk1 ht hvm
                  generalize H1 = H at hP hS ⊢
                  replace hP : va_P (dC, dI) vwCl [(qf12, .inl (cf12, 1500, .inl f12)), (qf5, .inr (3, [.ref qf5_0, .int v5_1, .int v5_2, .int v5_3, .ref qf5_4, .ref qf5_5, .ref qf5_6, .int v5_7, .int v5_8, .int v5_9, .int v5_10, .ref qf5_11, .int v5_12, .ref qf5_13])), (qf5_13, .inl (cf5_13, 144, .inl f5_13)), (qf13, .inl (cf13, 6400, .inl f13)), (h0, .inr (11, [.ref qf0, .ref qf1, .int v2, .int v3, .int v4, .ref qf5, .int v6, .int u12_1, .ref qf8, .ref qf9, .ref qf10, .ref qf11, .ref qf12, .ref qf13, .ref qf14, .ref qf15, .int v16, .int v17, .int v18, .int v19, .int v20]))] H := hP
                  replace hD : va_D A [(qf12, .inl (cf12, 1500, .inl f12)), (qf5, .inr (3, [.ref qf5_0, .int v5_1, .int v5_2, .int v5_3, .ref qf5_4, .ref qf5_5, .ref qf5_6, .int v5_7, .int v5_8, .int v5_9, .int v5_10, .ref qf5_11, .int v5_12, .ref qf5_13])), (qf5_13, .inl (cf5_13, 144, .inl f5_13)), (qf13, .inl (cf13, 6400, .inl f13)), (h0, .inr (11, [.ref qf0, .ref qf1, .int v2, .int v3, .int v4, .ref qf5, .int v6, .int u12_1, .ref qf8, .ref qf9, .ref qf10, .ref qf11, .ref qf12, .ref qf13, .ref qf14, .ref qf15, .int v16, .int v17, .int v18, .int v19, .int v20]))] := hD
                  replace hK : va_K (dC, dI) vwCl [(cf12, .int), (cf5_13, .int), (cf13, .int)] s := hK
                  obtain rfl := hw
                  have hr0 := Option.some.inj hsp
                  clear hsp
                  obtain ⟨hq0, hr1⟩ := Prod.mk.inj hr0
                  clear hr0
                  subst hq0
                  subst hr1
                  have hP9 := hP.sub (ws' := [(h0, .inr (11, [.ref qf0, .ref qf1, .int v2, .int v3, .int v4, .ref qf5, .int v6, .int u12_1, .ref qf8, .ref qf9, .ref qf10, .ref qf11, .ref qf12, .ref qf13, .ref qf14, .ref qf15, .int v16, .int v17, .int v18, .int v19, .int v20])), (qf5, .inr (3, [.ref qf5_0, .int v5_1, .int v5_2, .int v5_3, .ref qf5_4, .ref qf5_5, .ref qf5_6, .int v5_7, .int v5_8, .int v5_9, .int v5_10, .ref qf5_11, .int v5_12, .ref qf5_13])), (qf5_13, .inl (cf5_13, 144, .inl f5_13)), (qf13, .inl (cf13, 6400, .inl f13)), (qf12, .inl (cf12, 1500, .inl f12))]) [4, 1, 2, 3, 0] rfl
                  have hD9 := hD.sub (ws' := [(h0, .inr (11, [.ref qf0, .ref qf1, .int v2, .int v3, .int v4, .ref qf5, .int v6, .int u12_1, .ref qf8, .ref qf9, .ref qf10, .ref qf11, .ref qf12, .ref qf13, .ref qf14, .ref qf15, .int v16, .int v17, .int v18, .int v19, .int v20])), (qf5, .inr (3, [.ref qf5_0, .int v5_1, .int v5_2, .int v5_3, .ref qf5_4, .ref qf5_5, .ref qf5_6, .int v5_7, .int v5_8, .int v5_9, .int v5_10, .ref qf5_11, .int v5_12, .ref qf5_13])), (qf5_13, .inl (cf5_13, 144, .inl f5_13)), (qf13, .inl (cf13, 6400, .inl f13)), (qf12, .inl (cf12, 1500, .inl f12))]) [4, 1, 2, 3, 0] (by decide) rfl
                  have hK9 := hK.sub (tys' := [(cf5_13, .int), (cf13, .int), (cf12, .int)]) [1, 2, 0] rfl
                  exact W.iret hx hb hr (fun t ht hW => ⟨⟨(u12_0), (), rfl, rfl, by rw [ht]; exact hP9, va_K.moved hW.alike hK9, hD9⟩, hS.F ht⟩) hS.2.2 dX11_proveFrames_130
                · rw [if_neg (by decide)] at hsp
                  refine lv_if_eq (tgt := 115) hx hb dX11_proveFrames_108 (by decide) (fun c_34 => (show False by revert c_34; decide).elim) (fun c_34 => ?_)
                  refine lv_iconst (v := 1) hx hb dX11_proveFrames_111 (by decide) ?_
                  refine lv_goto (tgt := 116) hx hb dX11_proveFrames_112 (by decide) ?_
                  refine lv_istore (lv' := [(4, .int 1), (3, .int (l2_4 * 64)), (2, .int l2_4), (1, .int l1_4), (0, .ref h0)]) hx hb dX11_proveFrames_116 hl (by decide) rfl (fun ls hl => ?_)
                  refine lv_iload hx hb dX11_proveFrames_118 (lv_at hl 0 rfl) ?_
                  refine lv_if_ne (tgt := 131) hx hb dX11_proveFrames_120 (by decide) (fun c_35 => ?_) (fun c_35 => (show False by revert c_35; decide).elim)
                  refine lv_aload_n hx hb dX11_proveFrames_131 rfl (lv_at hl 4 rfl) ?_
                  refine va_get (D := (dC, dI)) (ci := 11) (v := .ref qf13) (C := RX11) (T := TX11) (N := 21) hx hb hts uV_h3_X11 hown hK hP 3 rfl rfl 13 (by decide) (hts (.fieldLink RX11 41 "ClassMill$Verifier" "frames" "[I") mw_h3_194) (fun _ h9 => h9) rfl dX11_proveFrames_132 ?_
                  refine lv_iload_n hx hb dX11_proveFrames_135 rfl (lv_at hl 1 rfl) ?_
                  obtain ⟨hi_36, hsp⟩ := ox_in hsp
                  refine va_iald hx hb hK hP 4 2 rfl rfl (i := (l2_4 * 64)) hi_36 dX11_proveFrames_136 ?_
                  refine lv_istore_n (lv' := [(1, .int (f13 ((l2_4 * 64) : Int32).toNatClampNeg)), (4, .int 1), (3, .int (l2_4 * 64)), (2, .int l2_4), (0, .ref h0)]) hx hb dX11_proveFrames_137 rfl hl (by decide) rfl (fun ls hl => ?_)
                  refine lv_iinc (v := (l2_4 + 1)) (lv' := [(2, .int (l2_4 + 1)), (1, .int (f13 ((l2_4 * 64) : Int32).toNatClampNeg)), (4, .int 1), (3, .int (l2_4 * 64)), (0, .ref h0)]) hx hb dX11_proveFrames_138 hl (k := 3) rfl rfl (by decide) rfl (fun ls hl => ?_)
                  refine lv_goto (tgt := 4) hx hb dX11_proveFrames_141 (by decide) ?_
                  exact ih_4 H locs ls (f13 ((l2_4 * 64) : Int32).toNatClampNeg) (l2_4 + 1) x7_4 (lv_sub hl [0, 1, 4] rfl) hS (hD.sub (ws' := [(h0, .inr (11, [.ref qf0, .ref qf1, .int v2, .int v3, .int v4, .ref qf5, .int v6, .int x7_4, .ref qf8, .ref qf9, .ref qf10, .ref qf11, .ref qf12, .ref qf13, .ref qf14, .ref qf15, .int v16, .int v17, .int v18, .int v19, .int v20])), (qf5, .inr (3, [.ref qf5_0, .int v5_1, .int v5_2, .int v5_3, .ref qf5_4, .ref qf5_5, .ref qf5_6, .int v5_7, .int v5_8, .int v5_9, .int v5_10, .ref qf5_11, .int v5_12, .ref qf5_13])), (qf5_13, .inl (cf5_13, 144, .inl f5_13)), (qf13, .inl (cf13, 6400, .inl f13)), (qf12, .inl (cf12, 1500, .inl f12))]) [3, 1, 2, 4, 0] (by decide) rfl) (hP.sub (ws' := [(h0, .inr (11, [.ref qf0, .ref qf1, .int v2, .int v3, .int v4, .ref qf5, .int v6, .int x7_4, .ref qf8, .ref qf9, .ref qf10, .ref qf11, .ref qf12, .ref qf13, .ref qf14, .ref qf15, .int v16, .int v17, .int v18, .int v19, .int v20])), (qf5, .inr (3, [.ref qf5_0, .int v5_1, .int v5_2, .int v5_3, .ref qf5_4, .ref qf5_5, .ref qf5_6, .int v5_7, .int v5_8, .int v5_9, .int v5_10, .ref qf5_11, .int v5_12, .ref qf5_13])), (qf5_13, .inl (cf5_13, 144, .inl f5_13)), (qf13, .inl (cf13, 6400, .inl f13)), (qf12, .inl (cf12, 1500, .inl f12))]) [3, 1, 2, 4, 0] rfl) hsp
def sp_t11_applySimple (nf : Nat) (a1 : Int32) (a2 : Int32) (v6 : Int32) (v17 : Int32) (v18 : Int32) (v19 : Int32) (v20 : Int32) (f15 : Nat → Int32) (v5_1 : Int32) (v5_7 : Int32) (v5_12 : Int32) (f5_13 : Nat → Int32) (f14 : Nat → Int32) (f1_1 : Nat → Int32) (f8 : Nat → Int32) (f5_5 : Nat → Int32) (nb : Nat) (f5_0 : Nat → Int32) (f11 : Nat → Int32) (f10 : Nat → Int32) : Option ((Nat → Int32) × (Nat → Int32) × Int32 × Int32) := (if a1 = 1 then ((sp_t11_push nf 300 v17 v18 v19 f15).bind (fun p34 => (some (f14, p34.1, p34.2.1, p34.2.2)))) else (if a1 < 2 then (if a1 = 16 then ((sp_t11_push nf 301 v17 v18 v19 f15).bind (fun p1 => (some (f14, p1.1, p1.2.1, p1.2.2)))) else (if a1 = 18 then ((sp_t11_push nf 301 v17 v18 v19 f15).bind (fun p16 => (some (f14, p16.1, p16.2.1, p16.2.2)))) else ((sp_t11_isArithmetic nf a1).bind (fun p2 => (if p2 = 0 then (if a1 = 21 then ((sp_t11_applyLocal nf a1 a2 v6 v17 v18 v19 v5_12 f5_13 f14 f15 f1_1).bind (fun p3 => (some (p3.1, p3.2.1, p3.2.2.1, p3.2.2.2)))) else (if a1 = 25 then ((sp_t11_applyLocal nf a1 a2 v6 v17 v18 v19 v5_12 f5_13 f14 f15 f1_1).bind (fun p4 => (some (p4.1, p4.2.1, p4.2.2.1, p4.2.2.2)))) else (if a1 = 54 then ((sp_t11_applyLocal nf a1 a2 v6 v17 v18 v19 v5_12 f5_13 f14 f15 f1_1).bind (fun p5 => (some (p5.1, p5.2.1, p5.2.2.1, p5.2.2.2)))) else (if a1 = 58 then ((sp_t11_applyLocal nf a1 a2 v6 v17 v18 v19 v5_12 f5_13 f14 f15 f1_1).bind (fun p12 => (some (p12.1, p12.2.1, p12.2.2.1, p12.2.2.2)))) else ((sp_t11_isJump nf a1).bind (fun p6 => (if p6 = 0 then (if 172 ≤ a1 then (if 180 ≤ a1 then (if 184 < a1 then ((sp_t11_applyObject nf a1 a2 v17 v18 v19 f15 f1_1 f8).bind (fun p7 => (some (f14, p7.1, p7.2.1, p7.2.2)))) else ((sp_t11_applyMember nf a1 a2 v17 v18 v19 v5_1 v5_7 f5_5 nb f5_0 f8 f15 f1_1 f11 f10).bind (fun p8 => (some (f14, p8.1, p8.2.1, p8.2.2))))) else ((sp_t11_applyReturn nf a1 v18 v19 v20 f15 f1_1).bind (fun p9 => (some (f14, f15, p9.1, p9.2))))) else ((sp_t11_applyArray nf a1 v17 v18 v19 f15 f1_1).bind (fun p10 => (some (f14, p10.1, p10.2.1, p10.2.2))))) else ((sp_t11_applyJump nf a1 v18 v19 f15 f1_1).bind (fun p11 => (some (f14, f15, p11.1, p11.2))))))))))) else ((sp_t11_want nf 301 v18 v19 f15 f1_1).bind (fun p13 => ((sp_t11_want nf 301 p13.1 p13.2 f15 f1_1).bind (fun p14 => ((sp_t11_push nf 301 v17 p14.1 p14.2 f15).bind (fun p15 => (some (f14, p15.1, p15.2.1, p15.2.2))))))))))))) else (if a1 ≤ 8 then ((sp_t11_push nf 301 v17 v18 v19 f15).bind (fun p17 => (some (f14, p17.1, p17.2.1, p17.2.2)))) else (if a1 = 16 then ((sp_t11_push nf 301 v17 v18 v19 f15).bind (fun p18 => (some (f14, p18.1, p18.2.1, p18.2.2)))) else (if a1 = 18 then ((sp_t11_push nf 301 v17 v18 v19 f15).bind (fun p33 => (some (f14, p33.1, p33.2.1, p33.2.2)))) else ((sp_t11_isArithmetic nf a1).bind (fun p19 => (if p19 = 0 then (if a1 = 21 then ((sp_t11_applyLocal nf a1 a2 v6 v17 v18 v19 v5_12 f5_13 f14 f15 f1_1).bind (fun p20 => (some (p20.1, p20.2.1, p20.2.2.1, p20.2.2.2)))) else (if a1 = 25 then ((sp_t11_applyLocal nf a1 a2 v6 v17 v18 v19 v5_12 f5_13 f14 f15 f1_1).bind (fun p21 => (some (p21.1, p21.2.1, p21.2.2.1, p21.2.2.2)))) else (if a1 = 54 then ((sp_t11_applyLocal nf a1 a2 v6 v17 v18 v19 v5_12 f5_13 f14 f15 f1_1).bind (fun p22 => (some (p22.1, p22.2.1, p22.2.2.1, p22.2.2.2)))) else (if a1 = 58 then ((sp_t11_applyLocal nf a1 a2 v6 v17 v18 v19 v5_12 f5_13 f14 f15 f1_1).bind (fun p29 => (some (p29.1, p29.2.1, p29.2.2.1, p29.2.2.2)))) else ((sp_t11_isJump nf a1).bind (fun p23 => (if p23 = 0 then (if 172 ≤ a1 then (if 180 ≤ a1 then (if 184 < a1 then ((sp_t11_applyObject nf a1 a2 v17 v18 v19 f15 f1_1 f8).bind (fun p24 => (some (f14, p24.1, p24.2.1, p24.2.2)))) else ((sp_t11_applyMember nf a1 a2 v17 v18 v19 v5_1 v5_7 f5_5 nb f5_0 f8 f15 f1_1 f11 f10).bind (fun p25 => (some (f14, p25.1, p25.2.1, p25.2.2))))) else ((sp_t11_applyReturn nf a1 v18 v19 v20 f15 f1_1).bind (fun p26 => (some (f14, f15, p26.1, p26.2))))) else ((sp_t11_applyArray nf a1 v17 v18 v19 f15 f1_1).bind (fun p27 => (some (f14, p27.1, p27.2.1, p27.2.2))))) else ((sp_t11_applyJump nf a1 v18 v19 f15 f1_1).bind (fun p28 => (some (f14, f15, p28.1, p28.2))))))))))) else ((sp_t11_want nf 301 v18 v19 f15 f1_1).bind (fun p30 => ((sp_t11_want nf 301 p30.1 p30.2 f15 f1_1).bind (fun p31 => ((sp_t11_push nf 301 v17 p31.1 p31.2 f15).bind (fun p32 => (some (f14, p32.1, p32.2.1, p32.2.2))))))))))))))))

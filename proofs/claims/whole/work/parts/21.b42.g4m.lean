set_option maxHeartbeats 4000000 in
set_option maxRecDepth 100000 in
/-- ClassMillModel.fails -/
theorem vm_fails (l : Launch) (dC : Nat → ClassId) (dI : Nat → Nat → Nat) (sz : Nat) (h0 : Nat) (zs : (List Value)) (a1 : Int32) (v98 : Int32) (qf100 : Nat) (qf102 : Nat) (qf104 : Nat) (qf105 : Nat) (qf110 : Nat) (v138 : Int32) (v139 : Int32) (v141 : Int32) (v142 : Int32) (qf144 : Nat) (qf145 : Nat) (qf146 : Nat) (qf147 : Nat) (v149 : Int32) (qf150 : Nat) (qf151 : Nat) (qf152 : Nat) (qf153 : Nat) (qf154 : Nat) (cf144 : ClassId) (f144 : (Nat → Int32)) (cf145 : ClassId) (f145 : (Nat → Int32)) (cf146 : ClassId) (f146 : (Nat → Int32)) (cf147 : ClassId) (f147 : (Nat → Int32)) (cf150 : ClassId) (f150 : (Nat → Int32)) (cf151 : ClassId) (f151 : (Nat → Int32)) (cf110 : ClassId) (f110 : (Nat → Int32)) (cf100 : ClassId) (f100 : (Nat → Int32)) (cf152 : ClassId) (f152 : (Nat → Int32)) (cf102 : ClassId) (f102 : (Nat → Int32)) (cf104 : ClassId) (f104 : (Nat → Int32)) (cf105 : ClassId) (f105 : (Nat → Int32)) (cf153 : ClassId) (f153 : (Nat → Int32)) (cf154 : ClassId) (f154 : (Nat → Int32)) (nS477 : Nat) (fS477 : (Nat → Int32)) (hS477 : Nat) (qS477 : Nat) (tS477 : String) (nf : Nat) (o144 : (Nat → Int32)) (o145 : (Nat → Int32)) (o146 : (Nat → Int32)) (o147 : (Nat → Int32)) (o152 : (Nat → Int32)) (o153 : (Nat → Int32)) (o154 : (Nat → Int32)) (w138 : Int32) (w139 : Int32) (w141 : Int32) (w142 : Int32) (w149 : Int32) (hlen : zs.length = 155) (hf98 : zs[98]? = some (.int v98)) (hf100 : zs[100]? = some (.ref qf100)) (hf102 : zs[102]? = some (.ref qf102)) (hf104 : zs[104]? = some (.ref qf104)) (hf105 : zs[105]? = some (.ref qf105)) (hf110 : zs[110]? = some (.ref qf110)) (hf138 : zs[138]? = some (.int v138)) (hf139 : zs[139]? = some (.int v139)) (hf141 : zs[141]? = some (.int v141)) (hf142 : zs[142]? = some (.int v142)) (hf144 : zs[144]? = some (.ref qf144)) (hf145 : zs[145]? = some (.ref qf145)) (hf146 : zs[146]? = some (.ref qf146)) (hf147 : zs[147]? = some (.ref qf147)) (hf149 : zs[149]? = some (.int v149)) (hf150 : zs[150]? = some (.ref qf150)) (hf151 : zs[151]? = some (.ref qf151)) (hf152 : zs[152]? = some (.ref qf152)) (hf153 : zs[153]? = some (.ref qf153)) (hf154 : zs[154]? = some (.ref qf154)) (hsp : sp_vm_fails nf a1 v98 v138 v139 v141 v142 v149 f144 f145 f146 f147 f150 f151 f110 f100 f152 f102 f104 f105 f153 f154 nS477 fS477 = some (o144, o145, o146, o147, o152, o153, o154, w138, w139, w141, w142, w149)) : Met l yX13_fails (.code yX13_fails cX13_fails 3 none :: VS_h9) ({ frames := 11, cells := 0, slots := 0, locals := 255 }) (va_Pc [.ref h0, .int a1] (fun U => U.heap.size = sz ∧ va_P (dC, dI) vwCl [(h0, .inr (13, zs)), (qf144, .inl (cf144, 2001, .inl f144)), (qf145, .inl (cf145, 2001, .inl f145)), (qf146, .inl (cf146, 2001, .inl f146)), (qf147, .inl (cf147, 20000, .inl f147)), (qf150, .inl (cf150, 60, .inl f150)), (qf151, .inl (cf151, 60, .inl f151)), (qf110, .inl (cf110, 96, .inl f110)), (qf100, .inl (cf100, 48000, .inl f100)), (qf152, .inl (cf152, 60, .inl f152)), (qf102, .inl (cf102, 2048, .inl f102)), (qf104, .inl (cf104, 8, .inl f104)), (qf105, .inl (cf105, 8, .inl f105)), (qf153, .inl (cf153, 60, .inl f153)), (qf154, .inl (cf154, 3600, .inl f154))] U.heap ∧ va_K (dC, dI) vwCl [(cf144, .int), (cf145, .int), (cf146, .int), (cf147, .int), (cf150, .int), (cf151, .int), (cf110, .int), (cf100, .int), (cf152, .int), (cf102, .int), (cf104, .int), (cf105, .int), (cf153, .int), (cf154, .int)] U ∧ va_D (fun _ => True) [(h0, .inr (13, zs)), (qf144, .inl (cf144, 2001, .inl f144)), (qf145, .inl (cf145, 2001, .inl f145)), (qf146, .inl (cf146, 2001, .inl f146)), (qf147, .inl (cf147, 20000, .inl f147)), (qf150, .inl (cf150, 60, .inl f150)), (qf151, .inl (cf151, 60, .inl f151)), (qf110, .inl (cf110, 96, .inl f110)), (qf100, .inl (cf100, 48000, .inl f100)), (qf152, .inl (cf152, 60, .inl f152)), (qf102, .inl (cf102, 2048, .inl f102)), (qf104, .inl (cf104, 8, .inl f104)), (qf105, .inl (cf105, 8, .inl f105)), (qf153, .inl (cf153, 60, .inl f153)), (qf154, .inl (cf154, 3600, .inl f154))] ∧ pz_W nS477 fS477 hS477 qS477 (va_A [(h0, .inr (13, zs)), (qf144, .inl (cf144, 2001, .inl f144)), (qf145, .inl (cf145, 2001, .inl f145)), (qf146, .inl (cf146, 2001, .inl f146)), (qf147, .inl (cf147, 20000, .inl f147)), (qf150, .inl (cf150, 60, .inl f150)), (qf151, .inl (cf151, 60, .inl f151)), (qf110, .inl (cf110, 96, .inl f110)), (qf100, .inl (cf100, 48000, .inl f100)), (qf152, .inl (cf152, 60, .inl f152)), (qf102, .inl (cf102, 2048, .inl f102)), (qf104, .inl (cf104, 8, .inl f104)), (qf105, .inl (cf105, 8, .inl f105)), (qf153, .inl (cf153, 60, .inl f153)), (qf154, .inl (cf154, 3600, .inl f154))] sz) U U.heap ∧ vk_R RX13 477 tS477 hS477 U)) (va_Qv (fun (u : (List Value)) => match u with | (zo1) => True ∧ zo1.length = 155 ∧ (∀ j : Nat, j ≠ 138 → j ≠ 139 → j ≠ 141 → j ≠ 142 → j ≠ 149 → zo1[j]? = zs[j]?) ∧ zo1[138]? = some (.int w138) ∧ zo1[139]? = some (.int w139) ∧ zo1[141]? = some (.int w141) ∧ zo1[142]? = some (.int w142) ∧ zo1[149]? = some (.int w149)) (fun (u : (List Value)) (t : State) => match u with | (zo1) => va_P (dC, dI) vwCl [(h0, .inr (13, zo1)), (qf144, .inl (cf144, 2001, .inl o144)), (qf145, .inl (cf145, 2001, .inl o145)), (qf146, .inl (cf146, 2001, .inl o146)), (qf147, .inl (cf147, 20000, .inl o147)), (qf150, .inl (cf150, 60, .inl f150)), (qf151, .inl (cf151, 60, .inl f151)), (qf110, .inl (cf110, 96, .inl f110)), (qf100, .inl (cf100, 48000, .inl f100)), (qf152, .inl (cf152, 60, .inl o152)), (qf102, .inl (cf102, 2048, .inl f102)), (qf104, .inl (cf104, 8, .inl f104)), (qf105, .inl (cf105, 8, .inl f105)), (qf153, .inl (cf153, 60, .inl o153)), (qf154, .inl (cf154, 3600, .inl o154))] t.heap ∧ va_K (dC, dI) vwCl [(cf144, .int), (cf145, .int), (cf146, .int), (cf147, .int), (cf150, .int), (cf151, .int), (cf110, .int), (cf100, .int), (cf152, .int), (cf102, .int), (cf104, .int), (cf105, .int), (cf153, .int), (cf154, .int)] t ∧ va_D (va_A [(h0, .inr (13, zs)), (qf144, .inl (cf144, 2001, .inl f144)), (qf145, .inl (cf145, 2001, .inl f145)), (qf146, .inl (cf146, 2001, .inl f146)), (qf147, .inl (cf147, 20000, .inl f147)), (qf150, .inl (cf150, 60, .inl f150)), (qf151, .inl (cf151, 60, .inl f151)), (qf110, .inl (cf110, 96, .inl f110)), (qf100, .inl (cf100, 48000, .inl f100)), (qf152, .inl (cf152, 60, .inl f152)), (qf102, .inl (cf102, 2048, .inl f102)), (qf104, .inl (cf104, 8, .inl f104)), (qf105, .inl (cf105, 8, .inl f105)), (qf153, .inl (cf153, 60, .inl f153)), (qf154, .inl (cf154, 3600, .inl f154))] sz) [(h0, .inr (13, zo1)), (qf144, .inl (cf144, 2001, .inl o144)), (qf145, .inl (cf145, 2001, .inl o145)), (qf146, .inl (cf146, 2001, .inl o146)), (qf147, .inl (cf147, 20000, .inl o147)), (qf150, .inl (cf150, 60, .inl f150)), (qf151, .inl (cf151, 60, .inl f151)), (qf110, .inl (cf110, 96, .inl f110)), (qf100, .inl (cf100, 48000, .inl f100)), (qf152, .inl (cf152, 60, .inl o152)), (qf102, .inl (cf102, 2048, .inl f102)), (qf104, .inl (cf104, 8, .inl f104)), (qf105, .inl (cf105, 8, .inl f105)), (qf153, .inl (cf153, 60, .inl o153)), (qf154, .inl (cf154, 3600, .inl o154))]) (va_A [(h0, .inr (13, zs)), (qf144, .inl (cf144, 2001, .inl f144)), (qf145, .inl (cf145, 2001, .inl f145)), (qf146, .inl (cf146, 2001, .inl f146)), (qf147, .inl (cf147, 20000, .inl f147)), (qf150, .inl (cf150, 60, .inl f150)), (qf151, .inl (cf151, 60, .inl f151)), (qf110, .inl (cf110, 96, .inl f110)), (qf100, .inl (cf100, 48000, .inl f100)), (qf152, .inl (cf152, 60, .inl f152)), (qf102, .inl (cf102, 2048, .inl f102)), (qf104, .inl (cf104, 8, .inl f104)), (qf105, .inl (cf105, 8, .inl f105)), (qf153, .inl (cf153, 60, .inl f153)), (qf154, .inl (cf154, 3600, .inl f154))] sz)) 0 0 (va_A [(h0, .inr (13, zs)), (qf144, .inl (cf144, 2001, .inl f144)), (qf145, .inl (cf145, 2001, .inl f145)), (qf146, .inl (cf146, 2001, .inl f146)), (qf147, .inl (cf147, 20000, .inl f147)), (qf150, .inl (cf150, 60, .inl f150)), (qf151, .inl (cf151, 60, .inl f151)), (qf110, .inl (cf110, 96, .inl f110)), (qf100, .inl (cf100, 48000, .inl f100)), (qf152, .inl (cf152, 60, .inl f152)), (qf102, .inl (cf102, 2048, .inl f102)), (qf104, .inl (cf104, 8, .inl f104)), (qf105, .inl (cf105, 8, .inl f105)), (qf153, .inl (cf153, 60, .inl f153)), (qf154, .inl (cf154, 3600, .inl f154))] sz) := by
  refine Met.ofW (cc := cX13_fails) (maxL := 3) (ret := none) (by decide) rfl ?_
  intro p e s m args below meth c s₁ B hml hv
  obtain ⟨rfl, hsz, hP, hK, hD0, hZWS477, hZRS477⟩ := hv
  have hx := B.exec
  have hb := B.bytes
  have hr := B.returns
  have hts := atoms_spec (ws := (.code yX13_fails cX13_fails 3 none :: VS_h9)) B.pre
  replace hts := fun w (h : w ∈ VS_h9) => hts w (List.mem_cons_of_mem _ h)
  have hown : s.vm.findClass RX13 = some m.cls := findClass_of_methodNamed B.named
  have hlocks := B.notSynchronized
  subst hsz
  have hD := hD0.self (sz := s.heap.size)
  generalize hAe : va_A [(h0, .inr (13, zs)), (qf144, .inl (cf144, 2001, .inl f144)), (qf145, .inl (cf145, 2001, .inl f145)), (qf146, .inl (cf146, 2001, .inl f146)), (qf147, .inl (cf147, 20000, .inl f147)), (qf150, .inl (cf150, 60, .inl f150)), (qf151, .inl (cf151, 60, .inl f151)), (qf110, .inl (cf110, 96, .inl f110)), (qf100, .inl (cf100, 48000, .inl f100)), (qf152, .inl (cf152, 60, .inl f152)), (qf102, .inl (cf102, 2048, .inl f102)), (qf104, .inl (cf104, 8, .inl f104)), (qf105, .inl (cf105, 8, .inl f105)), (qf153, .inl (cf153, 60, .inl f153)), (qf154, .inl (cf154, 3600, .inl f154))] s.heap.size = A at hD hZWS477 ⊢
  have hA : ∀ q : Nat, s.heap.size ≤ q → A q := fun q h => by rw [← hAe]; exact Or.inr h
  have hP : va_P (dC, dI) vwCl [(h0, .inr (13, zs)), (qf144, .inl (cf144, 2001, .inl f144)), (qf145, .inl (cf145, 2001, .inl f145)), (qf146, .inl (cf146, 2001, .inl f146)), (qf147, .inl (cf147, 20000, .inl f147)), (qf150, .inl (cf150, 60, .inl f150)), (qf151, .inl (cf151, 60, .inl f151)), (qf110, .inl (cf110, 96, .inl f110)), (qf100, .inl (cf100, 48000, .inl f100)), (qf152, .inl (cf152, 60, .inl f152)), (qf102, .inl (cf102, 2048, .inl f102)), (qf104, .inl (cf104, 8, .inl f104)), (qf105, .inl (cf105, 8, .inl f105)), (qf153, .inl (cf153, 60, .inl f153)), (qf154, .inl (cf154, 3600, .inl f154))] s.heap := hP
  have hl := lv_entry ([.ref h0, .int a1]) (n := 3) (Nat.le_of_ble_eq_true rfl)
  rw [lg_entry_eq]
  generalize (lg_sl ([.ref h0, .int a1]) ++ List.replicate (3 - (lg_sl ([.ref h0, .int a1])).length) Slot.unset).toArray = ls at hl ⊢
  have hl : lv_has ls 3 [(0, .ref h0), (1, .int a1)] := hl
  obtain ⟨H, hH⟩ : ∃ H : Heap, s.heap = H := ⟨_, rfl⟩
  rw [hH] at hP ⊢
  have hS : va_S A s.heap H [] := by rw [← hH]; exact va_S.rf
  obtain ⟨locs, hlo⟩ : ∃ locs : List Loc, locs = [] := ⟨_, rfl⟩
  rw [← hlo] at hS ⊢
  have hrs0 : ∀ j : Nat, j ≠ 138 → j ≠ 139 → j ≠ 141 → j ≠ 142 → j ≠ 149 → zs[j]? = zs[j]? := fun _ _ _ _ _ _  => rfl
  unfold sp_vm_fails at hsp
  refine lv_aload_n hx hb dX13_fails_0 rfl (lv_at hl 0 rfl) ?_
  refine lv_iload_n hx hb dX13_fails_1 rfl (lv_at hl 1 rfl) ?_
  refine lv_iconst (v := 0) hx hb dX13_fails_2 (by decide) ?_
  obtain ⟨⟨u1_0, g901_1, g901_2, g901_3, g901_4, u1_5, u1_6, u1_7⟩, hu_1, hsp⟩ := ox_bind hsp
  try dsimp only at hsp
  have hPc := hP.sub (ws' := [(h0, .inr (13, zs)), (qf144, .inl (cf144, 2001, .inl f144)), (qf145, .inl (cf145, 2001, .inl f145)), (qf146, .inl (cf146, 2001, .inl f146)), (qf147, .inl (cf147, 20000, .inl f147))]) [0, 1, 2, 3, 4] rfl
  have hDc := hD.sub (ws' := [(h0, .inr (13, zs)), (qf144, .inl (cf144, 2001, .inl f144)), (qf145, .inl (cf145, 2001, .inl f145)), (qf146, .inl (cf146, 2001, .inl f146)), (qf147, .inl (cf147, 20000, .inl f147))]) [0, 1, 2, 3, 4] (by decide) rfl
  have hKc := hK.sub (tys' := [(cf144, .int), (cf145, .int), (cf146, .int), (cf147, .int)]) [0, 1, 2, 3] rfl
  have hFc := va_free (wc := [(h0, .inr (13, zs)), (qf144, .inl (cf144, 2001, .inl f144)), (qf145, .inl (cf145, 2001, .inl f145)), (qf146, .inl (cf146, 2001, .inl f146)), (qf147, .inl (cf147, 20000, .inl f147))]) hD hS hA [0, 1, 2, 3, 4] rfl
  refine va_calli (va_runV (As := [.int a1, .int 0]) (rest := []) ⟨hx, hb, hml, hown, hts⟩ (vm_make_ l dC dI H.size h0 zs a1 0 v138 v141 v142 qf144 qf145 qf146 qf147 cf144 f144 cf145 f145 cf146 f146 cf147 f147 nf u1_0 g901_1 g901_2 g901_3 g901_4 u1_5 u1_6 u1_7 hlen hf138 hf141 hf142 hf144 hf145 hf146 hf147 hu_1) (cwV 2 hts gv_h9_74 rfl rfl rfl (by decide +kernel) ⟨Nat.le_of_ble_eq_true rfl, Nat.le_of_ble_eq_true rfl⟩) ⟨fun a U g mk q => by obtain ⟨q0, q1, qP, qK, qD⟩ := q; exact ⟨q0, q1, qP, va_K.moved (u := U) (U := U.calling g mk a) (Vm.Alike.refl U.vm) qK, qD⟩, va_recv hKc hPc (ci := 13) (q0 := 0) rfl rfl, fun U hU hW => ⟨rfl, by rw [hU], by rw [hU]; exact hPc, va_K.moved hW.alike hKc, hDc.weaken (fun _ _ _ _ => trivial)⟩⟩ rfl rfl hl.1 rfl (lv_room (Nat.le_of_ble_eq_true rfl)) dX13_fails_3 ⟨Nat.le_of_ble_eq_true rfl, Nat.le_of_ble_eq_true rfl⟩) hS (fun q _ h => hFc q h) hFc ?_
  clear hS
  intro r_1 u t H1 locs ht hvm hw hB hz1 hk1 hS
  obtain ⟨z_1, rfl⟩ : ∃ z, z = u := ⟨_, rfl⟩
  obtain ⟨hP1, hK1, hD1⟩ := hB
  rw [ht] at hP1
  have hK1 := va_K.moved hvm.symm hK1
  try dsimp only at hw
  have hPD := va_join (wr := [(qf150, .inl (cf150, 60, .inl f150)), (qf151, .inl (cf151, 60, .inl f151)), (qf110, .inl (cf110, 96, .inl f110)), (qf100, .inl (cf100, 48000, .inl f100)), (qf152, .inl (cf152, 60, .inl f152)), (qf102, .inl (cf102, 2048, .inl f102)), (qf104, .inl (cf104, 8, .inl f104)), (qf105, .inl (cf105, 8, .inl f105)), (qf153, .inl (cf153, 60, .inl f153)), (qf154, .inl (cf154, 3600, .inl f154))]) (w1 := [(h0, .inr (13, z_1)), (qf144, .inl (cf144, 2001, .inl g901_1)), (qf145, .inl (cf145, 2001, .inl g901_2)), (qf146, .inl (cf146, 2001, .inl g901_3)), (qf147, .inl (cf147, 20000, .inl g901_4))]) hP hD [0, 1, 2, 3, 4] [5, 6, 7, 8, 9, 10, 11, 12, 13, 14] rfl rfl (by decide) (by decide) hk1 hFc hP1 hD1
  clear hP hD
  obtain ⟨hP, hD⟩ := hPD
  replace hK := (hK.sub (tys' := [(cf150, .int), (cf151, .int), (cf110, .int), (cf100, .int), (cf152, .int), (cf102, .int), (cf104, .int), (cf105, .int), (cf153, .int), (cf154, .int)]) [4, 5, 6, 7, 8, 9, 10, 11, 12, 13] rfl).app hK1
  clear hPc hDc hKc hFc hP1 hK1 hD1 hz1 hk1 ht hvm
  generalize H1 = H at hP hS ⊢
  replace hP : va_P (dC, dI) vwCl [(qf150, .inl (cf150, 60, .inl f150)), (qf151, .inl (cf151, 60, .inl f151)), (qf110, .inl (cf110, 96, .inl f110)), (qf100, .inl (cf100, 48000, .inl f100)), (qf152, .inl (cf152, 60, .inl f152)), (qf102, .inl (cf102, 2048, .inl f102)), (qf104, .inl (cf104, 8, .inl f104)), (qf105, .inl (cf105, 8, .inl f105)), (qf153, .inl (cf153, 60, .inl f153)), (qf154, .inl (cf154, 3600, .inl f154)), (h0, .inr (13, z_1)), (qf144, .inl (cf144, 2001, .inl g901_1)), (qf145, .inl (cf145, 2001, .inl g901_2)), (qf146, .inl (cf146, 2001, .inl g901_3)), (qf147, .inl (cf147, 20000, .inl g901_4))] H := hP
  replace hD : va_D A [(qf150, .inl (cf150, 60, .inl f150)), (qf151, .inl (cf151, 60, .inl f151)), (qf110, .inl (cf110, 96, .inl f110)), (qf100, .inl (cf100, 48000, .inl f100)), (qf152, .inl (cf152, 60, .inl f152)), (qf102, .inl (cf102, 2048, .inl f102)), (qf104, .inl (cf104, 8, .inl f104)), (qf105, .inl (cf105, 8, .inl f105)), (qf153, .inl (cf153, 60, .inl f153)), (qf154, .inl (cf154, 3600, .inl f154)), (h0, .inr (13, z_1)), (qf144, .inl (cf144, 2001, .inl g901_1)), (qf145, .inl (cf145, 2001, .inl g901_2)), (qf146, .inl (cf146, 2001, .inl g901_3)), (qf147, .inl (cf147, 20000, .inl g901_4))] := hD
  replace hK : va_K (dC, dI) vwCl [(cf150, .int), (cf151, .int), (cf110, .int), (cf100, .int), (cf152, .int), (cf102, .int), (cf104, .int), (cf105, .int), (cf153, .int), (cf154, .int), (cf144, .int), (cf145, .int), (cf146, .int), (cf147, .int)] s := hK
  obtain ⟨hwa_1, hln_1, hre_1, hch_1_138, hch_1_141, hch_1_142⟩ := hw
  have hfk_1_98 : z_1[98]? = some (.int v98) := (hre_1 98 (by decide) (by decide) (by decide)).trans (hf98)
  have hfk_1_100 : z_1[100]? = some (.ref qf100) := (hre_1 100 (by decide) (by decide) (by decide)).trans (hf100)
  have hfk_1_102 : z_1[102]? = some (.ref qf102) := (hre_1 102 (by decide) (by decide) (by decide)).trans (hf102)
  have hfk_1_104 : z_1[104]? = some (.ref qf104) := (hre_1 104 (by decide) (by decide) (by decide)).trans (hf104)
  have hfk_1_105 : z_1[105]? = some (.ref qf105) := (hre_1 105 (by decide) (by decide) (by decide)).trans (hf105)
  have hfk_1_110 : z_1[110]? = some (.ref qf110) := (hre_1 110 (by decide) (by decide) (by decide)).trans (hf110)
  have hfk_1_139 : z_1[139]? = some (.int v139) := (hre_1 139 (by decide) (by decide) (by decide)).trans (hf139)
  have hfk_1_144 : z_1[144]? = some (.ref qf144) := (hre_1 144 (by decide) (by decide) (by decide)).trans (hf144)
  have hfk_1_145 : z_1[145]? = some (.ref qf145) := (hre_1 145 (by decide) (by decide) (by decide)).trans (hf145)
  have hfk_1_146 : z_1[146]? = some (.ref qf146) := (hre_1 146 (by decide) (by decide) (by decide)).trans (hf146)
  have hfk_1_147 : z_1[147]? = some (.ref qf147) := (hre_1 147 (by decide) (by decide) (by decide)).trans (hf147)
  have hfk_1_149 : z_1[149]? = some (.int v149) := (hre_1 149 (by decide) (by decide) (by decide)).trans (hf149)
  have hfk_1_150 : z_1[150]? = some (.ref qf150) := (hre_1 150 (by decide) (by decide) (by decide)).trans (hf150)
  have hfk_1_151 : z_1[151]? = some (.ref qf151) := (hre_1 151 (by decide) (by decide) (by decide)).trans (hf151)
  have hfk_1_152 : z_1[152]? = some (.ref qf152) := (hre_1 152 (by decide) (by decide) (by decide)).trans (hf152)
  have hfk_1_153 : z_1[153]? = some (.ref qf153) := (hre_1 153 (by decide) (by decide) (by decide)).trans (hf153)
  have hfk_1_154 : z_1[154]? = some (.ref qf154) := (hre_1 154 (by decide) (by decide) (by decide)).trans (hf154)
  have hrq_1 : ∀ j : Nat, j ≠ 138 → j ≠ 139 → j ≠ 141 → j ≠ 142 → j ≠ 149 → z_1[j]? = zs[j]? := fun j g138 g139 g141 g142 g149 => (hre_1 j g138 g141 g142).trans (hrs0 j g138 g139 g141 g142 g149)
  obtain rfl := hwa_1
  refine lv_istore_n (lv' := [(2, .int u1_0), (0, .ref h0), (1, .int a1)]) hx hb dX13_fails_6 rfl hl (by decide) rfl (fun ls hl => ?_)
  refine lv_iload_n hx hb dX13_fails_7 rfl (lv_at hl 0 rfl) ?_
  refine lv_if_le (tgt := 16) hx hb dX13_fails_8 (by decide) (fun c_2 => ?_) (fun c_2 => ?_)
  · rw [if_pos c_2] at hsp
    have hr0 := Option.some.inj hsp
    clear hsp
    obtain ⟨hq0, hr1⟩ := Prod.mk.inj hr0
    clear hr0
    obtain ⟨hq1, hr2⟩ := Prod.mk.inj hr1
    clear hr1
    obtain ⟨hq2, hr3⟩ := Prod.mk.inj hr2
    clear hr2
    obtain ⟨hq3, hr4⟩ := Prod.mk.inj hr3
    clear hr3
    obtain ⟨hq4, hr5⟩ := Prod.mk.inj hr4
    clear hr4
    obtain ⟨hq5, hr6⟩ := Prod.mk.inj hr5
    clear hr5
    obtain ⟨hq6, hr7⟩ := Prod.mk.inj hr6
    clear hr6
    obtain ⟨hq7, hr8⟩ := Prod.mk.inj hr7
    clear hr7
    obtain ⟨hq8, hr9⟩ := Prod.mk.inj hr8
    clear hr8
    obtain ⟨hq9, hr10⟩ := Prod.mk.inj hr9
    clear hr9
    obtain ⟨hq10, hr11⟩ := Prod.mk.inj hr10
    clear hr10
    subst hq0
    subst hq1
    subst hq2
    subst hq3
    subst hq4
    subst hq5
    subst hq6
    subst hq7
    subst hq8
    subst hq9
    subst hq10
    subst hr11
    have hP9 := hP.sub (ws' := [(h0, .inr (13, z_1)), (qf144, .inl (cf144, 2001, .inl g901_1)), (qf145, .inl (cf145, 2001, .inl g901_2)), (qf146, .inl (cf146, 2001, .inl g901_3)), (qf147, .inl (cf147, 20000, .inl g901_4)), (qf150, .inl (cf150, 60, .inl f150)), (qf151, .inl (cf151, 60, .inl f151)), (qf110, .inl (cf110, 96, .inl f110)), (qf100, .inl (cf100, 48000, .inl f100)), (qf152, .inl (cf152, 60, .inl f152)), (qf102, .inl (cf102, 2048, .inl f102)), (qf104, .inl (cf104, 8, .inl f104)), (qf105, .inl (cf105, 8, .inl f105)), (qf153, .inl (cf153, 60, .inl f153)), (qf154, .inl (cf154, 3600, .inl f154))]) [10, 11, 12, 13, 14, 0, 1, 2, 3, 4, 5, 6, 7, 8, 9] rfl
    have hD9 := hD.sub (ws' := [(h0, .inr (13, z_1)), (qf144, .inl (cf144, 2001, .inl g901_1)), (qf145, .inl (cf145, 2001, .inl g901_2)), (qf146, .inl (cf146, 2001, .inl g901_3)), (qf147, .inl (cf147, 20000, .inl g901_4)), (qf150, .inl (cf150, 60, .inl f150)), (qf151, .inl (cf151, 60, .inl f151)), (qf110, .inl (cf110, 96, .inl f110)), (qf100, .inl (cf100, 48000, .inl f100)), (qf152, .inl (cf152, 60, .inl f152)), (qf102, .inl (cf102, 2048, .inl f102)), (qf104, .inl (cf104, 8, .inl f104)), (qf105, .inl (cf105, 8, .inl f105)), (qf153, .inl (cf153, 60, .inl f153)), (qf154, .inl (cf154, 3600, .inl f154))]) [10, 11, 12, 13, 14, 0, 1, 2, 3, 4, 5, 6, 7, 8, 9] (by decide) rfl
    have hK9 := hK.sub (tys' := [(cf144, .int), (cf145, .int), (cf146, .int), (cf147, .int), (cf150, .int), (cf151, .int), (cf110, .int), (cf100, .int), (cf152, .int), (cf102, .int), (cf104, .int), (cf105, .int), (cf153, .int), (cf154, .int)]) [10, 11, 12, 13, 0, 1, 2, 3, 4, 5, 6, 7, 8, 9] rfl
    exact W.vret hx hb hr (fun t ht hW => ⟨⟨(z_1), rfl, ⟨trivial, hln_1, hrq_1, hch_1_138, hfk_1_139, hch_1_141, hch_1_142, hfk_1_149⟩, by rw [ht]; exact hP9, va_K.moved hW.alike hK9, hD9⟩, hS.F ht⟩) hS.2.2 dX13_fails_16
  · rw [if_neg c_2] at hsp
    refine lv_aload_n hx hb dX13_fails_11 rfl (lv_at hl 1 rfl) ?_
    refine lv_iload_n hx hb dX13_fails_12 rfl (lv_at hl 0 rfl) ?_
    obtain ⟨⟨g902_0, g902_1, g902_2, u2_3, u2_4, u2_5⟩, hu_2, hsp⟩ := ox_bind hsp
    try dsimp only at hsp
    have hPc := hP.sub (ws' := [(h0, .inr (13, z_1)), (qf144, .inl (cf144, 2001, .inl g901_1)), (qf150, .inl (cf150, 60, .inl f150)), (qf151, .inl (cf151, 60, .inl f151)), (qf110, .inl (cf110, 96, .inl f110)), (qf100, .inl (cf100, 48000, .inl f100)), (qf152, .inl (cf152, 60, .inl f152)), (qf102, .inl (cf102, 2048, .inl f102)), (qf104, .inl (cf104, 8, .inl f104)), (qf105, .inl (cf105, 8, .inl f105)), (qf153, .inl (cf153, 60, .inl f153)), (qf154, .inl (cf154, 3600, .inl f154))]) [10, 11, 0, 1, 2, 3, 4, 5, 6, 7, 8, 9] rfl
    have hDc := hD.sub (ws' := [(h0, .inr (13, z_1)), (qf144, .inl (cf144, 2001, .inl g901_1)), (qf150, .inl (cf150, 60, .inl f150)), (qf151, .inl (cf151, 60, .inl f151)), (qf110, .inl (cf110, 96, .inl f110)), (qf100, .inl (cf100, 48000, .inl f100)), (qf152, .inl (cf152, 60, .inl f152)), (qf102, .inl (cf102, 2048, .inl f102)), (qf104, .inl (cf104, 8, .inl f104)), (qf105, .inl (cf105, 8, .inl f105)), (qf153, .inl (cf153, 60, .inl f153)), (qf154, .inl (cf154, 3600, .inl f154))]) [10, 11, 0, 1, 2, 3, 4, 5, 6, 7, 8, 9] (by decide) rfl
    have hKc := hK.sub (tys' := [(cf144, .int), (cf150, .int), (cf151, .int), (cf110, .int), (cf100, .int), (cf152, .int), (cf102, .int), (cf104, .int), (cf105, .int), (cf153, .int), (cf154, .int)]) [10, 0, 1, 2, 3, 4, 5, 6, 7, 8, 9] rfl
    have hFc := va_free (wc := [(h0, .inr (13, z_1)), (qf144, .inl (cf144, 2001, .inl g901_1)), (qf150, .inl (cf150, 60, .inl f150)), (qf151, .inl (cf151, 60, .inl f151)), (qf110, .inl (cf110, 96, .inl f110)), (qf100, .inl (cf100, 48000, .inl f100)), (qf152, .inl (cf152, 60, .inl f152)), (qf102, .inl (cf102, 2048, .inl f102)), (qf104, .inl (cf104, 8, .inl f104)), (qf105, .inl (cf105, 8, .inl f105)), (qf153, .inl (cf153, 60, .inl f153)), (qf154, .inl (cf154, 3600, .inl f154))]) hD hS hA [10, 11, 0, 1, 2, 3, 4, 5, 6, 7, 8, 9] rfl
    refine va_callv (va_runV (As := [.int u1_0]) (rest := []) ⟨hx, hb, hml, hown, hts⟩ (vm_thrown l dC dI H.size h0 z_1 u1_0 v98 qf100 qf102 qf104 qf105 qf110 u1_5 v139 qf144 v149 qf150 qf151 qf152 qf153 qf154 cf144 g901_1 cf150 f150 cf151 f151 cf110 f110 cf100 f100 cf152 f152 cf102 f102 cf104 f104 cf105 f105 cf153 f153 cf154 f154 nS477 fS477 hS477 qS477 tS477 nf g902_0 g902_1 g902_2 u2_3 u2_4 u2_5 hln_1 hfk_1_98 hfk_1_100 hfk_1_102 hfk_1_104 hfk_1_105 hfk_1_110 hch_1_138 hfk_1_139 hfk_1_144 hfk_1_149 hfk_1_150 hfk_1_151 hfk_1_152 hfk_1_153 hfk_1_154 hu_2) (cwV 1 hts gv_h9_124 rfl rfl rfl (by decide +kernel) ⟨Nat.le_of_ble_eq_true rfl, Nat.le_of_ble_eq_true rfl⟩) ⟨fun a U g mk q => by obtain ⟨q0, q1, qP, qK, qD, qhZWS477, qhZRS477⟩ := q; exact ⟨q0, q1, qP, va_K.moved (u := U) (U := U.calling g mk a) (Vm.Alike.refl U.vm) qK, qD, pz_W.moved (u := U) (U := U.calling g mk a) (Vm.Alike.refl U.vm) qhZWS477, vk_R.same rfl qhZRS477⟩, va_recv hKc hPc (ci := 13) (q0 := 0) rfl rfl, fun U hU hW => ⟨rfl, by rw [hU], by rw [hU]; exact hPc, va_K.moved hW.alike hKc, hDc.weaken (fun _ _ _ _ => trivial), by rw [hU]; exact ((pz_W.moved hW.alike hZWS477).kept hS.2.1).narrow hFc, vk_R.warm hW hZRS477⟩⟩ rfl rfl hl.1 rfl (lv_room (Nat.le_of_ble_eq_true rfl)) dX13_fails_13 ⟨Nat.le_of_ble_eq_true rfl, Nat.le_of_ble_eq_true rfl⟩) hS (fun q _ h => hFc q h) hFc ?_
    clear hS
    intro u t H1 locs ht hvm hw hB hz1 hk1 hS
    obtain ⟨z_2, rfl⟩ : ∃ z, z = u := ⟨_, rfl⟩
    obtain ⟨hP1, hK1, hD1⟩ := hB
    rw [ht] at hP1
    have hK1 := va_K.moved hvm.symm hK1
    try dsimp only at hw
    have hPD := va_join (wr := [(qf145, .inl (cf145, 2001, .inl g901_2)), (qf146, .inl (cf146, 2001, .inl g901_3)), (qf147, .inl (cf147, 20000, .inl g901_4))]) (w1 := [(h0, .inr (13, z_2)), (qf144, .inl (cf144, 2001, .inl g901_1)), (qf150, .inl (cf150, 60, .inl f150)), (qf151, .inl (cf151, 60, .inl f151)), (qf110, .inl (cf110, 96, .inl f110)), (qf100, .inl (cf100, 48000, .inl f100)), (qf152, .inl (cf152, 60, .inl g902_0)), (qf102, .inl (cf102, 2048, .inl f102)), (qf104, .inl (cf104, 8, .inl f104)), (qf105, .inl (cf105, 8, .inl f105)), (qf153, .inl (cf153, 60, .inl g902_1)), (qf154, .inl (cf154, 3600, .inl g902_2))]) hP hD [10, 11, 0, 1, 2, 3, 4, 5, 6, 7, 8, 9] [12, 13, 14] rfl rfl (by decide) (by decide) hk1 hFc hP1 hD1
    clear hP hD
    obtain ⟨hP, hD⟩ := hPD
    replace hK := (hK.sub (tys' := [(cf145, .int), (cf146, .int), (cf147, .int)]) [11, 12, 13] rfl).app hK1
    clear hPc hDc hKc hFc hP1 hK1 hD1 hz1 hk1 ht hvm
    generalize H1 = H at hP hS ⊢
    replace hP : va_P (dC, dI) vwCl [(qf145, .inl (cf145, 2001, .inl g901_2)), (qf146, .inl (cf146, 2001, .inl g901_3)), (qf147, .inl (cf147, 20000, .inl g901_4)), (h0, .inr (13, z_2)), (qf144, .inl (cf144, 2001, .inl g901_1)), (qf150, .inl (cf150, 60, .inl f150)), (qf151, .inl (cf151, 60, .inl f151)), (qf110, .inl (cf110, 96, .inl f110)), (qf100, .inl (cf100, 48000, .inl f100)), (qf152, .inl (cf152, 60, .inl g902_0)), (qf102, .inl (cf102, 2048, .inl f102)), (qf104, .inl (cf104, 8, .inl f104)), (qf105, .inl (cf105, 8, .inl f105)), (qf153, .inl (cf153, 60, .inl g902_1)), (qf154, .inl (cf154, 3600, .inl g902_2))] H := hP
    replace hD : va_D A [(qf145, .inl (cf145, 2001, .inl g901_2)), (qf146, .inl (cf146, 2001, .inl g901_3)), (qf147, .inl (cf147, 20000, .inl g901_4)), (h0, .inr (13, z_2)), (qf144, .inl (cf144, 2001, .inl g901_1)), (qf150, .inl (cf150, 60, .inl f150)), (qf151, .inl (cf151, 60, .inl f151)), (qf110, .inl (cf110, 96, .inl f110)), (qf100, .inl (cf100, 48000, .inl f100)), (qf152, .inl (cf152, 60, .inl g902_0)), (qf102, .inl (cf102, 2048, .inl f102)), (qf104, .inl (cf104, 8, .inl f104)), (qf105, .inl (cf105, 8, .inl f105)), (qf153, .inl (cf153, 60, .inl g902_1)), (qf154, .inl (cf154, 3600, .inl g902_2))] := hD
    replace hK : va_K (dC, dI) vwCl [(cf145, .int), (cf146, .int), (cf147, .int), (cf144, .int), (cf150, .int), (cf151, .int), (cf110, .int), (cf100, .int), (cf152, .int), (cf102, .int), (cf104, .int), (cf105, .int), (cf153, .int), (cf154, .int)] s := hK
    obtain ⟨hwa_2, hln_2, hre_2, hch_2_138, hch_2_139, hch_2_149⟩ := hw
    have hfk_2_98 : z_2[98]? = some (.int v98) := (hre_2 98 (by decide) (by decide) (by decide)).trans (hfk_1_98)
    have hfk_2_100 : z_2[100]? = some (.ref qf100) := (hre_2 100 (by decide) (by decide) (by decide)).trans (hfk_1_100)
    have hfk_2_102 : z_2[102]? = some (.ref qf102) := (hre_2 102 (by decide) (by decide) (by decide)).trans (hfk_1_102)
    have hfk_2_104 : z_2[104]? = some (.ref qf104) := (hre_2 104 (by decide) (by decide) (by decide)).trans (hfk_1_104)
    have hfk_2_105 : z_2[105]? = some (.ref qf105) := (hre_2 105 (by decide) (by decide) (by decide)).trans (hfk_1_105)
    have hfk_2_110 : z_2[110]? = some (.ref qf110) := (hre_2 110 (by decide) (by decide) (by decide)).trans (hfk_1_110)
    have hfk_2_141 : z_2[141]? = some (.int u1_6) := (hre_2 141 (by decide) (by decide) (by decide)).trans (hch_1_141)
    have hfk_2_142 : z_2[142]? = some (.int u1_7) := (hre_2 142 (by decide) (by decide) (by decide)).trans (hch_1_142)
    have hfk_2_144 : z_2[144]? = some (.ref qf144) := (hre_2 144 (by decide) (by decide) (by decide)).trans (hfk_1_144)
    have hfk_2_145 : z_2[145]? = some (.ref qf145) := (hre_2 145 (by decide) (by decide) (by decide)).trans (hfk_1_145)
    have hfk_2_146 : z_2[146]? = some (.ref qf146) := (hre_2 146 (by decide) (by decide) (by decide)).trans (hfk_1_146)
    have hfk_2_147 : z_2[147]? = some (.ref qf147) := (hre_2 147 (by decide) (by decide) (by decide)).trans (hfk_1_147)
    have hfk_2_150 : z_2[150]? = some (.ref qf150) := (hre_2 150 (by decide) (by decide) (by decide)).trans (hfk_1_150)
    have hfk_2_151 : z_2[151]? = some (.ref qf151) := (hre_2 151 (by decide) (by decide) (by decide)).trans (hfk_1_151)
    have hfk_2_152 : z_2[152]? = some (.ref qf152) := (hre_2 152 (by decide) (by decide) (by decide)).trans (hfk_1_152)
    have hfk_2_153 : z_2[153]? = some (.ref qf153) := (hre_2 153 (by decide) (by decide) (by decide)).trans (hfk_1_153)
    have hfk_2_154 : z_2[154]? = some (.ref qf154) := (hre_2 154 (by decide) (by decide) (by decide)).trans (hfk_1_154)
    have hrq_2 : ∀ j : Nat, j ≠ 138 → j ≠ 139 → j ≠ 141 → j ≠ 142 → j ≠ 149 → z_2[j]? = zs[j]? := fun j g138 g139 g141 g142 g149 => (hre_2 j g138 g139 g149).trans (hrq_1 j g138 g139 g141 g142 g149)
    have hr0 := Option.some.inj hsp
    clear hsp
    obtain ⟨hq0, hr1⟩ := Prod.mk.inj hr0
    clear hr0
    obtain ⟨hq1, hr2⟩ := Prod.mk.inj hr1
    clear hr1
    obtain ⟨hq2, hr3⟩ := Prod.mk.inj hr2
    clear hr2
    obtain ⟨hq3, hr4⟩ := Prod.mk.inj hr3
    clear hr3
    obtain ⟨hq4, hr5⟩ := Prod.mk.inj hr4
    clear hr4
    obtain ⟨hq5, hr6⟩ := Prod.mk.inj hr5
    clear hr5
    obtain ⟨hq6, hr7⟩ := Prod.mk.inj hr6
    clear hr6
    obtain ⟨hq7, hr8⟩ := Prod.mk.inj hr7
    clear hr7
    obtain ⟨hq8, hr9⟩ := Prod.mk.inj hr8
    clear hr8
    obtain ⟨hq9, hr10⟩ := Prod.mk.inj hr9
    clear hr9
    obtain ⟨hq10, hr11⟩ := Prod.mk.inj hr10
    clear hr10
    subst hq0
    subst hq1
    subst hq2
    subst hq3
    subst hq4
    subst hq5
    subst hq6
    subst hq7
    subst hq8
    subst hq9
    subst hq10
    subst hr11
    have hP9 := hP.sub (ws' := [(h0, .inr (13, z_2)), (qf144, .inl (cf144, 2001, .inl g901_1)), (qf145, .inl (cf145, 2001, .inl g901_2)), (qf146, .inl (cf146, 2001, .inl g901_3)), (qf147, .inl (cf147, 20000, .inl g901_4)), (qf150, .inl (cf150, 60, .inl f150)), (qf151, .inl (cf151, 60, .inl f151)), (qf110, .inl (cf110, 96, .inl f110)), (qf100, .inl (cf100, 48000, .inl f100)), (qf152, .inl (cf152, 60, .inl g902_0)), (qf102, .inl (cf102, 2048, .inl f102)), (qf104, .inl (cf104, 8, .inl f104)), (qf105, .inl (cf105, 8, .inl f105)), (qf153, .inl (cf153, 60, .inl g902_1)), (qf154, .inl (cf154, 3600, .inl g902_2))]) [3, 4, 0, 1, 2, 5, 6, 7, 8, 9, 10, 11, 12, 13, 14] rfl
    have hD9 := hD.sub (ws' := [(h0, .inr (13, z_2)), (qf144, .inl (cf144, 2001, .inl g901_1)), (qf145, .inl (cf145, 2001, .inl g901_2)), (qf146, .inl (cf146, 2001, .inl g901_3)), (qf147, .inl (cf147, 20000, .inl g901_4)), (qf150, .inl (cf150, 60, .inl f150)), (qf151, .inl (cf151, 60, .inl f151)), (qf110, .inl (cf110, 96, .inl f110)), (qf100, .inl (cf100, 48000, .inl f100)), (qf152, .inl (cf152, 60, .inl g902_0)), (qf102, .inl (cf102, 2048, .inl f102)), (qf104, .inl (cf104, 8, .inl f104)), (qf105, .inl (cf105, 8, .inl f105)), (qf153, .inl (cf153, 60, .inl g902_1)), (qf154, .inl (cf154, 3600, .inl g902_2))]) [3, 4, 0, 1, 2, 5, 6, 7, 8, 9, 10, 11, 12, 13, 14] (by decide) rfl
    have hK9 := hK.sub (tys' := [(cf144, .int), (cf145, .int), (cf146, .int), (cf147, .int), (cf150, .int), (cf151, .int), (cf110, .int), (cf100, .int), (cf152, .int), (cf102, .int), (cf104, .int), (cf105, .int), (cf153, .int), (cf154, .int)]) [3, 0, 1, 2, 4, 5, 6, 7, 8, 9, 10, 11, 12, 13] rfl
    exact W.vret hx hb hr (fun t ht hW => ⟨⟨(z_2), rfl, ⟨trivial, hln_2, hrq_2, hch_2_138, hch_2_139, hfk_2_141, hfk_2_142, hch_2_149⟩, by rw [ht]; exact hP9, va_K.moved hW.alike hK9, hD9⟩, hS.F ht⟩) hS.2.2 dX13_fails_16
def jn_vm_element_99 (nf : Nat) (a1 : Int32) (v98 : Int32) (v138 : Int32) (v139 : Int32) (v141 : Int32) (v142 : Int32) (v149 : Int32) (f153 : Nat → Int32) (f154 : Nat → Int32) (f144 : Nat → Int32) (f145 : Nat → Int32) (f146 : Nat → Int32) (f147 : Nat → Int32) (f150 : Nat → Int32) (f151 : Nat → Int32) (f110 : Nat → Int32) (f100 : Nat → Int32) (f152 : Nat → Int32) (f102 : Nat → Int32) (f104 : Nat → Int32) (f105 : Nat → Int32) (nS477 : Nat) (fS477 : Nat → Int32)  (l1_99 : Int32) (l2_99 : Int32) (l3_99 : Int32) (l4_99 : Int32) (g144_99 : Nat → Int32) (g145_99 : Nat → Int32) (g146_99 : Nat → Int32) (g147_99 : Nat → Int32) (g152_99 : Nat → Int32) (g153_99 : Nat → Int32) (g154_99 : Nat → Int32) (x138_99 : Int32) (x139_99 : Int32) (x141_99 : Int32) (x142_99 : Int32) (x149_99 : Int32) : Option ((Nat → Int32) × (Nat → Int32) × (Nat → Int32) × (Nat → Int32) × (Nat → Int32) × (Nat → Int32) × (Nat → Int32) × Int32 × Int32 × Int32 × Int32 × Int32) := (if l1_99 ≤ 50 then (if l4_99 < 0 then none else if 2001 ≤ (l4_99 : Int32).toNatClampNeg then none else (if ((g145_99 (l4_99 : Int32).toNatClampNeg) + l3_99) < 0 then none else if 20000 ≤ (((g145_99 (l4_99 : Int32).toNatClampNeg) + l3_99) : Int32).toNatClampNeg then none else ((sp_tm_give nf (g147_99 (((g145_99 (l4_99 : Int32).toNatClampNeg) + l3_99) : Int32).toNatClampNeg) x149_99 g153_99 g154_99).bind (fun p1 => ((sp_tm_on nf 1 x149_99 g152_99).bind (fun p2 => (some (g144_99, g145_99, g146_99, g147_99, p2, p1.1, p1.2, x138_99, x139_99, x141_99, x142_99, x149_99)))))))) else (if l4_99 < 0 then none else if 2001 ≤ (l4_99 : Int32).toNatClampNeg then none else (if ((g145_99 (l4_99 : Int32).toNatClampNeg) + l3_99) < 0 then none else if 20000 ≤ (((g145_99 (l4_99 : Int32).toNatClampNeg) + l3_99) : Int32).toNatClampNeg then none else ((sp_tm_on nf 1 x149_99 g152_99).bind (fun p3 => (some (g144_99, g145_99, g146_99, (upd g147_99 (((g145_99 (l4_99 : Int32).toNatClampNeg) + l3_99) : Int32).toNatClampNeg l2_99), p3, g153_99, g154_99, x138_99, x139_99, x141_99, x142_99, x149_99)))))))
def jn_vm_element_14 (nf : Nat) (a1 : Int32) (v98 : Int32) (v138 : Int32) (v139 : Int32) (v141 : Int32) (v142 : Int32) (v149 : Int32) (f153 : Nat → Int32) (f154 : Nat → Int32) (f144 : Nat → Int32) (f145 : Nat → Int32) (f146 : Nat → Int32) (f147 : Nat → Int32) (f150 : Nat → Int32) (f151 : Nat → Int32) (f110 : Nat → Int32) (f100 : Nat → Int32) (f152 : Nat → Int32) (f102 : Nat → Int32) (f104 : Nat → Int32) (f105 : Nat → Int32) (nS477 : Nat) (fS477 : Nat → Int32)  (l1_14 : Int32) (s0_14 : Int32) (g144_14 : Nat → Int32) (g145_14 : Nat → Int32) (g146_14 : Nat → Int32) (g147_14 : Nat → Int32) (g152_14 : Nat → Int32) (g153_14 : Nat → Int32) (g154_14 : Nat → Int32) (x138_14 : Int32) (x139_14 : Int32) (x141_14 : Int32) (x142_14 : Int32) (x149_14 : Int32) : Option ((Nat → Int32) × (Nat → Int32) × (Nat → Int32) × (Nat → Int32) × (Nat → Int32) × (Nat → Int32) × (Nat → Int32) × Int32 × Int32 × Int32 × Int32 × Int32) := ((sp_tm_drop nf x149_14 g153_14 g154_14).bind (fun p1 => ((sp_tm_drop nf x149_14 p1.2 g154_14).bind (fun p2 => (if p2.1 = 0 then ((sp_vm_fails nf 2 v98 x138_14 x139_14 x141_14 x142_14 x149_14 g144_14 g145_14 g146_14 g147_14 f150 f151 f110 f100 g152_14 f102 f104 f105 p2.2 g154_14 nS477 fS477).bind (fun p3 => (some (p3.1, p3.2.1, p3.2.2.1, p3.2.2.2.1, p3.2.2.2.2.1, p3.2.2.2.2.2.1, p3.2.2.2.2.2.2.1, p3.2.2.2.2.2.2.2.1, p3.2.2.2.2.2.2.2.2.1, p3.2.2.2.2.2.2.2.2.2.1, p3.2.2.2.2.2.2.2.2.2.2.1, p3.2.2.2.2.2.2.2.2.2.2.2)))) else (if p1.1 < 0 then ((sp_vm_fails nf 3 v98 x138_14 x139_14 x141_14 x142_14 x149_14 g144_14 g145_14 g146_14 g147_14 f150 f151 f110 f100 g152_14 f102 f104 f105 p2.2 g154_14 nS477 fS477).bind (fun p4 => (some (p4.1, p4.2.1, p4.2.2.1, p4.2.2.2.1, p4.2.2.2.2.1, p4.2.2.2.2.2.1, p4.2.2.2.2.2.2.1, p4.2.2.2.2.2.2.2.1, p4.2.2.2.2.2.2.2.2.1, p4.2.2.2.2.2.2.2.2.2.1, p4.2.2.2.2.2.2.2.2.2.2.1, p4.2.2.2.2.2.2.2.2.2.2.2)))) else (if p2.1 < 0 then none else if 2001 ≤ (p2.1 : Int32).toNatClampNeg then none else (if p1.1 < (g146_14 (p2.1 : Int32).toNatClampNeg) then (if l1_14 = 83 then (if s0_14 = 0 then (jn_vm_element_99 nf a1 v98 v138 v139 v141 v142 v149 f153 f154 f144 f145 f146 f147 f150 f151 f110 f100 f152 f102 f104 f105 nS477 fS477  l1_14 s0_14 p1.1 p2.1 g144_14 g145_14 g146_14 g147_14 g152_14 p2.2 g154_14 x138_14 x139_14 x141_14 x142_14 x149_14) else (if p2.1 < 0 then none else if 2001 ≤ (p2.1 : Int32).toNatClampNeg then none else ((sp_vm_storesIn nf s0_14 ((g144_14 (p2.1 : Int32).toNatClampNeg) - 100) v98 g144_14 f105 f102 f100 f104 nS477 fS477).bind (fun p5 => (if p5 = 0 then ((sp_vm_fails nf 7 v98 x138_14 x139_14 x141_14 x142_14 x149_14 g144_14 g145_14 g146_14 g147_14 f150 f151 f110 f100 g152_14 f102 f104 f105 p2.2 g154_14 nS477 fS477).bind (fun p6 => (some (p6.1, p6.2.1, p6.2.2.1, p6.2.2.2.1, p6.2.2.2.2.1, p6.2.2.2.2.2.1, p6.2.2.2.2.2.2.1, p6.2.2.2.2.2.2.2.1, p6.2.2.2.2.2.2.2.2.1, p6.2.2.2.2.2.2.2.2.2.1, p6.2.2.2.2.2.2.2.2.2.2.1, p6.2.2.2.2.2.2.2.2.2.2.2)))) else (jn_vm_element_99 nf a1 v98 v138 v139 v141 v142 v149 f153 f154 f144 f145 f146 f147 f150 f151 f110 f100 f152 f102 f104 f105 nS477 fS477  l1_14 s0_14 p1.1 p2.1 g144_14 g145_14 g146_14 g147_14 g152_14 p2.2 g154_14 x138_14 x139_14 x141_14 x142_14 x149_14)))))) else (jn_vm_element_99 nf a1 v98 v138 v139 v141 v142 v149 f153 f154 f144 f145 f146 f147 f150 f151 f110 f100 f152 f102 f104 f105 nS477 fS477  l1_14 s0_14 p1.1 p2.1 g144_14 g145_14 g146_14 g147_14 g152_14 p2.2 g154_14 x138_14 x139_14 x141_14 x142_14 x149_14)) else ((sp_vm_fails nf 3 v98 x138_14 x139_14 x141_14 x142_14 x149_14 g144_14 g145_14 g146_14 g147_14 f150 f151 f110 f100 g152_14 f102 f104 f105 p2.2 g154_14 nS477 fS477).bind (fun p7 => (some (p7.1, p7.2.1, p7.2.2.1, p7.2.2.2.1, p7.2.2.2.2.1, p7.2.2.2.2.2.1, p7.2.2.2.2.2.2.1, p7.2.2.2.2.2.2.2.1, p7.2.2.2.2.2.2.2.2.1, p7.2.2.2.2.2.2.2.2.2.1, p7.2.2.2.2.2.2.2.2.2.2.1, p7.2.2.2.2.2.2.2.2.2.2.2))))))))))))
def sp_vm_element (nf : Nat) (a1 : Int32) (v98 : Int32) (v138 : Int32) (v139 : Int32) (v141 : Int32) (v142 : Int32) (v149 : Int32) (f153 : Nat → Int32) (f154 : Nat → Int32) (f144 : Nat → Int32) (f145 : Nat → Int32) (f146 : Nat → Int32) (f147 : Nat → Int32) (f150 : Nat → Int32) (f151 : Nat → Int32) (f110 : Nat → Int32) (f100 : Nat → Int32) (f152 : Nat → Int32) (f102 : Nat → Int32) (f104 : Nat → Int32) (f105 : Nat → Int32) (nS477 : Nat) (fS477 : Nat → Int32) : Option ((Nat → Int32) × (Nat → Int32) × (Nat → Int32) × (Nat → Int32) × (Nat → Int32) × (Nat → Int32) × (Nat → Int32) × Int32 × Int32 × Int32 × Int32 × Int32) := (if a1 ≤ 50 then (jn_vm_element_14 nf a1 v98 v138 v139 v141 v142 v149 f153 f154 f144 f145 f146 f147 f150 f151 f110 f100 f152 f102 f104 f105 nS477 fS477  a1 0 f144 f145 f146 f147 f152 f153 f154 v138 v139 v141 v142 v149) else ((sp_tm_drop nf v149 f153 f154).bind (fun p1 => (jn_vm_element_14 nf a1 v98 v138 v139 v141 v142 v149 f153 f154 f144 f145 f146 f147 f150 f151 f110 f100 f152 f102 f104 f105 nS477 fS477  a1 p1.1 f144 f145 f146 f147 f152 p1.2 f154 v138 v139 v141 v142 v149))))
set_option maxHeartbeats 4000000 in
set_option maxRecDepth 100000 in
/-- ClassMillModel.element -/
theorem vm_element (l : Launch) (dC : Nat → ClassId) (dI : Nat → Nat → Nat) (sz : Nat) (h0 : Nat) (zs : (List Value)) (a1 : Int32) (v98 : Int32) (qf100 : Nat) (qf102 : Nat) (qf104 : Nat) (qf105 : Nat) (qf110 : Nat) (v138 : Int32) (v139 : Int32) (v141 : Int32) (v142 : Int32) (qf144 : Nat) (qf145 : Nat) (qf146 : Nat) (qf147 : Nat) (v149 : Int32) (qf150 : Nat) (qf151 : Nat) (qf152 : Nat) (qf153 : Nat) (qf154 : Nat) (cf153 : ClassId) (f153 : (Nat → Int32)) (cf154 : ClassId) (f154 : (Nat → Int32)) (cf144 : ClassId) (f144 : (Nat → Int32)) (cf145 : ClassId) (f145 : (Nat → Int32)) (cf146 : ClassId) (f146 : (Nat → Int32)) (cf147 : ClassId) (f147 : (Nat → Int32)) (cf150 : ClassId) (f150 : (Nat → Int32)) (cf151 : ClassId) (f151 : (Nat → Int32)) (cf110 : ClassId) (f110 : (Nat → Int32)) (cf100 : ClassId) (f100 : (Nat → Int32)) (cf152 : ClassId) (f152 : (Nat → Int32)) (cf102 : ClassId) (f102 : (Nat → Int32)) (cf104 : ClassId) (f104 : (Nat → Int32)) (cf105 : ClassId) (f105 : (Nat → Int32)) (nS477 : Nat) (fS477 : (Nat → Int32)) (hS477 : Nat) (qS477 : Nat) (tS477 : String) (nf : Nat) (o144 : (Nat → Int32)) (o145 : (Nat → Int32)) (o146 : (Nat → Int32)) (o147 : (Nat → Int32)) (o152 : (Nat → Int32)) (o153 : (Nat → Int32)) (o154 : (Nat → Int32)) (w138 : Int32) (w139 : Int32) (w141 : Int32) (w142 : Int32) (w149 : Int32) (hlen : zs.length = 155) (hf98 : zs[98]? = some (.int v98)) (hf100 : zs[100]? = some (.ref qf100)) (hf102 : zs[102]? = some (.ref qf102)) (hf104 : zs[104]? = some (.ref qf104)) (hf105 : zs[105]? = some (.ref qf105)) (hf110 : zs[110]? = some (.ref qf110)) (hf138 : zs[138]? = some (.int v138)) (hf139 : zs[139]? = some (.int v139)) (hf141 : zs[141]? = some (.int v141)) (hf142 : zs[142]? = some (.int v142)) (hf144 : zs[144]? = some (.ref qf144)) (hf145 : zs[145]? = some (.ref qf145)) (hf146 : zs[146]? = some (.ref qf146)) (hf147 : zs[147]? = some (.ref qf147)) (hf149 : zs[149]? = some (.int v149)) (hf150 : zs[150]? = some (.ref qf150)) (hf151 : zs[151]? = some (.ref qf151)) (hf152 : zs[152]? = some (.ref qf152)) (hf153 : zs[153]? = some (.ref qf153)) (hf154 : zs[154]? = some (.ref qf154)) (hsp : sp_vm_element nf a1 v98 v138 v139 v141 v142 v149 f153 f154 f144 f145 f146 f147 f150 f151 f110 f100 f152 f102 f104 f105 nS477 fS477 = some (o144, o145, o146, o147, o152, o153, o154, w138, w139, w141, w142, w149)) : Met l yX13_element (.code yX13_element cX13_element 5 none :: VS_h9) ({ frames := 12, cells := 0, slots := 0, locals := 277 }) (va_Pc [.ref h0, .int a1] (fun U => U.heap.size = sz ∧ va_P (dC, dI) vwCl [(h0, .inr (13, zs)), (qf153, .inl (cf153, 60, .inl f153)), (qf154, .inl (cf154, 3600, .inl f154)), (qf144, .inl (cf144, 2001, .inl f144)), (qf145, .inl (cf145, 2001, .inl f145)), (qf146, .inl (cf146, 2001, .inl f146)), (qf147, .inl (cf147, 20000, .inl f147)), (qf150, .inl (cf150, 60, .inl f150)), (qf151, .inl (cf151, 60, .inl f151)), (qf110, .inl (cf110, 96, .inl f110)), (qf100, .inl (cf100, 48000, .inl f100)), (qf152, .inl (cf152, 60, .inl f152)), (qf102, .inl (cf102, 2048, .inl f102)), (qf104, .inl (cf104, 8, .inl f104)), (qf105, .inl (cf105, 8, .inl f105))] U.heap ∧ va_K (dC, dI) vwCl [(cf153, .int), (cf154, .int), (cf144, .int), (cf145, .int), (cf146, .int), (cf147, .int), (cf150, .int), (cf151, .int), (cf110, .int), (cf100, .int), (cf152, .int), (cf102, .int), (cf104, .int), (cf105, .int)] U ∧ va_D (fun _ => True) [(h0, .inr (13, zs)), (qf153, .inl (cf153, 60, .inl f153)), (qf154, .inl (cf154, 3600, .inl f154)), (qf144, .inl (cf144, 2001, .inl f144)), (qf145, .inl (cf145, 2001, .inl f145)), (qf146, .inl (cf146, 2001, .inl f146)), (qf147, .inl (cf147, 20000, .inl f147)), (qf150, .inl (cf150, 60, .inl f150)), (qf151, .inl (cf151, 60, .inl f151)), (qf110, .inl (cf110, 96, .inl f110)), (qf100, .inl (cf100, 48000, .inl f100)), (qf152, .inl (cf152, 60, .inl f152)), (qf102, .inl (cf102, 2048, .inl f102)), (qf104, .inl (cf104, 8, .inl f104)), (qf105, .inl (cf105, 8, .inl f105))] ∧ pz_W nS477 fS477 hS477 qS477 (va_A [(h0, .inr (13, zs)), (qf153, .inl (cf153, 60, .inl f153)), (qf154, .inl (cf154, 3600, .inl f154)), (qf144, .inl (cf144, 2001, .inl f144)), (qf145, .inl (cf145, 2001, .inl f145)), (qf146, .inl (cf146, 2001, .inl f146)), (qf147, .inl (cf147, 20000, .inl f147)), (qf150, .inl (cf150, 60, .inl f150)), (qf151, .inl (cf151, 60, .inl f151)), (qf110, .inl (cf110, 96, .inl f110)), (qf100, .inl (cf100, 48000, .inl f100)), (qf152, .inl (cf152, 60, .inl f152)), (qf102, .inl (cf102, 2048, .inl f102)), (qf104, .inl (cf104, 8, .inl f104)), (qf105, .inl (cf105, 8, .inl f105))] sz) U U.heap ∧ vk_R RX13 477 tS477 hS477 U)) (va_Qv (fun (u : (List Value)) => match u with | (zo1) => True ∧ zo1.length = 155 ∧ (∀ j : Nat, j ≠ 138 → j ≠ 139 → j ≠ 141 → j ≠ 142 → j ≠ 149 → zo1[j]? = zs[j]?) ∧ zo1[138]? = some (.int w138) ∧ zo1[139]? = some (.int w139) ∧ zo1[141]? = some (.int w141) ∧ zo1[142]? = some (.int w142) ∧ zo1[149]? = some (.int w149)) (fun (u : (List Value)) (t : State) => match u with | (zo1) => va_P (dC, dI) vwCl [(h0, .inr (13, zo1)), (qf153, .inl (cf153, 60, .inl o153)), (qf154, .inl (cf154, 3600, .inl o154)), (qf144, .inl (cf144, 2001, .inl o144)), (qf145, .inl (cf145, 2001, .inl o145)), (qf146, .inl (cf146, 2001, .inl o146)), (qf147, .inl (cf147, 20000, .inl o147)), (qf150, .inl (cf150, 60, .inl f150)), (qf151, .inl (cf151, 60, .inl f151)), (qf110, .inl (cf110, 96, .inl f110)), (qf100, .inl (cf100, 48000, .inl f100)), (qf152, .inl (cf152, 60, .inl o152)), (qf102, .inl (cf102, 2048, .inl f102)), (qf104, .inl (cf104, 8, .inl f104)), (qf105, .inl (cf105, 8, .inl f105))] t.heap ∧ va_K (dC, dI) vwCl [(cf153, .int), (cf154, .int), (cf144, .int), (cf145, .int), (cf146, .int), (cf147, .int), (cf150, .int), (cf151, .int), (cf110, .int), (cf100, .int), (cf152, .int), (cf102, .int), (cf104, .int), (cf105, .int)] t ∧ va_D (va_A [(h0, .inr (13, zs)), (qf153, .inl (cf153, 60, .inl f153)), (qf154, .inl (cf154, 3600, .inl f154)), (qf144, .inl (cf144, 2001, .inl f144)), (qf145, .inl (cf145, 2001, .inl f145)), (qf146, .inl (cf146, 2001, .inl f146)), (qf147, .inl (cf147, 20000, .inl f147)), (qf150, .inl (cf150, 60, .inl f150)), (qf151, .inl (cf151, 60, .inl f151)), (qf110, .inl (cf110, 96, .inl f110)), (qf100, .inl (cf100, 48000, .inl f100)), (qf152, .inl (cf152, 60, .inl f152)), (qf102, .inl (cf102, 2048, .inl f102)), (qf104, .inl (cf104, 8, .inl f104)), (qf105, .inl (cf105, 8, .inl f105))] sz) [(h0, .inr (13, zo1)), (qf153, .inl (cf153, 60, .inl o153)), (qf154, .inl (cf154, 3600, .inl o154)), (qf144, .inl (cf144, 2001, .inl o144)), (qf145, .inl (cf145, 2001, .inl o145)), (qf146, .inl (cf146, 2001, .inl o146)), (qf147, .inl (cf147, 20000, .inl o147)), (qf150, .inl (cf150, 60, .inl f150)), (qf151, .inl (cf151, 60, .inl f151)), (qf110, .inl (cf110, 96, .inl f110)), (qf100, .inl (cf100, 48000, .inl f100)), (qf152, .inl (cf152, 60, .inl o152)), (qf102, .inl (cf102, 2048, .inl f102)), (qf104, .inl (cf104, 8, .inl f104)), (qf105, .inl (cf105, 8, .inl f105))]) (va_A [(h0, .inr (13, zs)), (qf153, .inl (cf153, 60, .inl f153)), (qf154, .inl (cf154, 3600, .inl f154)), (qf144, .inl (cf144, 2001, .inl f144)), (qf145, .inl (cf145, 2001, .inl f145)), (qf146, .inl (cf146, 2001, .inl f146)), (qf147, .inl (cf147, 20000, .inl f147)), (qf150, .inl (cf150, 60, .inl f150)), (qf151, .inl (cf151, 60, .inl f151)), (qf110, .inl (cf110, 96, .inl f110)), (qf100, .inl (cf100, 48000, .inl f100)), (qf152, .inl (cf152, 60, .inl f152)), (qf102, .inl (cf102, 2048, .inl f102)), (qf104, .inl (cf104, 8, .inl f104)), (qf105, .inl (cf105, 8, .inl f105))] sz)) 0 0 (va_A [(h0, .inr (13, zs)), (qf153, .inl (cf153, 60, .inl f153)), (qf154, .inl (cf154, 3600, .inl f154)), (qf144, .inl (cf144, 2001, .inl f144)), (qf145, .inl (cf145, 2001, .inl f145)), (qf146, .inl (cf146, 2001, .inl f146)), (qf147, .inl (cf147, 20000, .inl f147)), (qf150, .inl (cf150, 60, .inl f150)), (qf151, .inl (cf151, 60, .inl f151)), (qf110, .inl (cf110, 96, .inl f110)), (qf100, .inl (cf100, 48000, .inl f100)), (qf152, .inl (cf152, 60, .inl f152)), (qf102, .inl (cf102, 2048, .inl f102)), (qf104, .inl (cf104, 8, .inl f104)), (qf105, .inl (cf105, 8, .inl f105))] sz) := by
  refine Met.ofW (cc := cX13_element) (maxL := 5) (ret := none) (by decide) rfl ?_
  intro p e s m args below meth c s₁ B hml hv
  obtain ⟨rfl, hsz, hP, hK, hD0, hZWS477, hZRS477⟩ := hv
  have hx := B.exec
  have hb := B.bytes
  have hr := B.returns
  have hts := atoms_spec (ws := (.code yX13_element cX13_element 5 none :: VS_h9)) B.pre
  replace hts := fun w (h : w ∈ VS_h9) => hts w (List.mem_cons_of_mem _ h)
  have hown : s.vm.findClass RX13 = some m.cls := findClass_of_methodNamed B.named
  have hlocks := B.notSynchronized
  subst hsz
  have hD := hD0.self (sz := s.heap.size)
  generalize hAe : va_A [(h0, .inr (13, zs)), (qf153, .inl (cf153, 60, .inl f153)), (qf154, .inl (cf154, 3600, .inl f154)), (qf144, .inl (cf144, 2001, .inl f144)), (qf145, .inl (cf145, 2001, .inl f145)), (qf146, .inl (cf146, 2001, .inl f146)), (qf147, .inl (cf147, 20000, .inl f147)), (qf150, .inl (cf150, 60, .inl f150)), (qf151, .inl (cf151, 60, .inl f151)), (qf110, .inl (cf110, 96, .inl f110)), (qf100, .inl (cf100, 48000, .inl f100)), (qf152, .inl (cf152, 60, .inl f152)), (qf102, .inl (cf102, 2048, .inl f102)), (qf104, .inl (cf104, 8, .inl f104)), (qf105, .inl (cf105, 8, .inl f105))] s.heap.size = A at hD hZWS477 ⊢
  have hA : ∀ q : Nat, s.heap.size ≤ q → A q := fun q h => by rw [← hAe]; exact Or.inr h
  have hP : va_P (dC, dI) vwCl [(h0, .inr (13, zs)), (qf153, .inl (cf153, 60, .inl f153)), (qf154, .inl (cf154, 3600, .inl f154)), (qf144, .inl (cf144, 2001, .inl f144)), (qf145, .inl (cf145, 2001, .inl f145)), (qf146, .inl (cf146, 2001, .inl f146)), (qf147, .inl (cf147, 20000, .inl f147)), (qf150, .inl (cf150, 60, .inl f150)), (qf151, .inl (cf151, 60, .inl f151)), (qf110, .inl (cf110, 96, .inl f110)), (qf100, .inl (cf100, 48000, .inl f100)), (qf152, .inl (cf152, 60, .inl f152)), (qf102, .inl (cf102, 2048, .inl f102)), (qf104, .inl (cf104, 8, .inl f104)), (qf105, .inl (cf105, 8, .inl f105))] s.heap := hP
  have hl := lv_entry ([.ref h0, .int a1]) (n := 5) (Nat.le_of_ble_eq_true rfl)
  rw [lg_entry_eq]
  generalize (lg_sl ([.ref h0, .int a1]) ++ List.replicate (5 - (lg_sl ([.ref h0, .int a1])).length) Slot.unset).toArray = ls at hl ⊢
  have hl : lv_has ls 5 [(0, .ref h0), (1, .int a1)] := hl
  obtain ⟨H, hH⟩ : ∃ H : Heap, s.heap = H := ⟨_, rfl⟩
  rw [hH] at hP ⊢
  have hS : va_S A s.heap H [] := by rw [← hH]; exact va_S.rf
  obtain ⟨locs, hlo⟩ : ∃ locs : List Loc, locs = [] := ⟨_, rfl⟩
  rw [← hlo] at hS ⊢
  have hrs0 : ∀ j : Nat, j ≠ 138 → j ≠ 139 → j ≠ 141 → j ≠ 142 → j ≠ 149 → zs[j]? = zs[j]? := fun _ _ _ _ _ _  => rfl
  unfold sp_vm_element at hsp
  refine jn_use (α := Heap × List Loc × Array Slot × List Value × Int32 × Int32 × Int32 × Int32 × (Nat → Int32) × (Nat → Int32) × (Nat → Int32) × (Nat → Int32) × (Nat → Int32) × (Nat → Int32) × (Nat → Int32) × Int32 × Int32 × Int32 × Int32 × Int32) (fun x9 => x9.1) (fun x9 => x9.2.1) (fun x9 => F0 m 99 x9.2.2.1 []) (fun x9 => match x9 with | (H, locs, ls, z99, l1_99, l2_99, l3_99, l4_99, g144_99, g145_99, g146_99, g147_99, g152_99, g153_99, g154_99, x138_99, x139_99, x141_99, x142_99, x149_99) => lv_has ls 5 [(0, .ref h0), (1, .int l1_99), (2, .int l2_99), (3, .int l3_99), (4, .int l4_99)] ∧ va_S A s.heap H locs ∧ va_D A [(h0, .inr (13, z99)), (qf153, .inl (cf153, 60, .inl g153_99)), (qf154, .inl (cf154, 3600, .inl g154_99)), (qf144, .inl (cf144, 2001, .inl g144_99)), (qf145, .inl (cf145, 2001, .inl g145_99)), (qf146, .inl (cf146, 2001, .inl g146_99)), (qf147, .inl (cf147, 20000, .inl g147_99)), (qf150, .inl (cf150, 60, .inl f150)), (qf151, .inl (cf151, 60, .inl f151)), (qf110, .inl (cf110, 96, .inl f110)), (qf100, .inl (cf100, 48000, .inl f100)), (qf152, .inl (cf152, 60, .inl g152_99)), (qf102, .inl (cf102, 2048, .inl f102)), (qf104, .inl (cf104, 8, .inl f104)), (qf105, .inl (cf105, 8, .inl f105))] ∧ va_P (dC, dI) vwCl [(h0, .inr (13, z99)), (qf153, .inl (cf153, 60, .inl g153_99)), (qf154, .inl (cf154, 3600, .inl g154_99)), (qf144, .inl (cf144, 2001, .inl g144_99)), (qf145, .inl (cf145, 2001, .inl g145_99)), (qf146, .inl (cf146, 2001, .inl g146_99)), (qf147, .inl (cf147, 20000, .inl g147_99)), (qf150, .inl (cf150, 60, .inl f150)), (qf151, .inl (cf151, 60, .inl f151)), (qf110, .inl (cf110, 96, .inl f110)), (qf100, .inl (cf100, 48000, .inl f100)), (qf152, .inl (cf152, 60, .inl g152_99)), (qf102, .inl (cf102, 2048, .inl f102)), (qf104, .inl (cf104, 8, .inl f104)), (qf105, .inl (cf105, 8, .inl f105))] H ∧ z99[98]? = some (.int v98) ∧ z99[100]? = some (.ref qf100) ∧ z99[102]? = some (.ref qf102) ∧ z99[104]? = some (.ref qf104) ∧ z99[105]? = some (.ref qf105) ∧ z99[110]? = some (.ref qf110) ∧ z99[138]? = some (.int x138_99) ∧ z99[139]? = some (.int x139_99) ∧ z99[141]? = some (.int x141_99) ∧ z99[142]? = some (.int x142_99) ∧ z99[144]? = some (.ref qf144) ∧ z99[145]? = some (.ref qf145) ∧ z99[146]? = some (.ref qf146) ∧ z99[147]? = some (.ref qf147) ∧ z99[149]? = some (.int x149_99) ∧ z99[150]? = some (.ref qf150) ∧ z99[151]? = some (.ref qf151) ∧ z99[152]? = some (.ref qf152) ∧ z99[153]? = some (.ref qf153) ∧ z99[154]? = some (.ref qf154) ∧ z99.length = 155 ∧ (∀ j : Nat, j ≠ 138 → j ≠ 139 → j ≠ 141 → j ≠ 142 → j ≠ 149 → z99[j]? = zs[j]?) ∧ jn_vm_element_99 nf a1 v98 v138 v139 v141 v142 v149 f153 f154 f144 f145 f146 f147 f150 f151 f110 f100 f152 f102 f104 f105 nS477 fS477 l1_99 l2_99 l3_99 l4_99 g144_99 g145_99 g146_99 g147_99 g152_99 g153_99 g154_99 x138_99 x139_99 x141_99 x142_99 x149_99 = some (o144, o145, o146, o147, o152, o153, o154, w138, w139, w141, w142, w149)) ?_ ?_
  · intro x9 hJ9
    obtain ⟨H, locs, ls, z99, l1_99, l2_99, l3_99, l4_99, g144_99, g145_99, g146_99, g147_99, g152_99, g153_99, g154_99, x138_99, x139_99, x141_99, x142_99, x149_99⟩ := x9
    obtain ⟨hl, hS, hD, hP, hfh_99_98, hfh_99_100, hfh_99_102, hfh_99_104, hfh_99_105, hfh_99_110, hfh_99_138, hfh_99_139, hfh_99_141, hfh_99_142, hfh_99_144, hfh_99_145, hfh_99_146, hfh_99_147, hfh_99_149, hfh_99_150, hfh_99_151, hfh_99_152, hfh_99_153, hfh_99_154, hlh_99, hrh_99, hsp⟩ := hJ9
    replace hl : lv_has ls 5 [(0, .ref h0), (1, .int l1_99), (2, .int l2_99), (3, .int l3_99), (4, .int l4_99)] := hl
    replace hS : va_S A s.heap H locs := hS
    replace hD : va_D A [(h0, .inr (13, z99)), (qf153, .inl (cf153, 60, .inl g153_99)), (qf154, .inl (cf154, 3600, .inl g154_99)), (qf144, .inl (cf144, 2001, .inl g144_99)), (qf145, .inl (cf145, 2001, .inl g145_99)), (qf146, .inl (cf146, 2001, .inl g146_99)), (qf147, .inl (cf147, 20000, .inl g147_99)), (qf150, .inl (cf150, 60, .inl f150)), (qf151, .inl (cf151, 60, .inl f151)), (qf110, .inl (cf110, 96, .inl f110)), (qf100, .inl (cf100, 48000, .inl f100)), (qf152, .inl (cf152, 60, .inl g152_99)), (qf102, .inl (cf102, 2048, .inl f102)), (qf104, .inl (cf104, 8, .inl f104)), (qf105, .inl (cf105, 8, .inl f105))] := hD
    replace hP : va_P (dC, dI) vwCl [(h0, .inr (13, z99)), (qf153, .inl (cf153, 60, .inl g153_99)), (qf154, .inl (cf154, 3600, .inl g154_99)), (qf144, .inl (cf144, 2001, .inl g144_99)), (qf145, .inl (cf145, 2001, .inl g145_99)), (qf146, .inl (cf146, 2001, .inl g146_99)), (qf147, .inl (cf147, 20000, .inl g147_99)), (qf150, .inl (cf150, 60, .inl f150)), (qf151, .inl (cf151, 60, .inl f151)), (qf110, .inl (cf110, 96, .inl f110)), (qf100, .inl (cf100, 48000, .inl f100)), (qf152, .inl (cf152, 60, .inl g152_99)), (qf102, .inl (cf102, 2048, .inl f102)), (qf104, .inl (cf104, 8, .inl f104)), (qf105, .inl (cf105, 8, .inl f105))] H := hP
    replace hsp : jn_vm_element_99 nf a1 v98 v138 v139 v141 v142 v149 f153 f154 f144 f145 f146 f147 f150 f151 f110 f100 f152 f102 f104 f105 nS477 fS477 l1_99 l2_99 l3_99 l4_99 g144_99 g145_99 g146_99 g147_99 g152_99 g153_99 g154_99 x138_99 x139_99 x141_99 x142_99 x149_99 = some (o144, o145, o146, o147, o152, o153, o154, w138, w139, w141, w142, w149) := hsp
    show W _ _ _ _ _ _ _ _ _ _ H locs _ _ _ (F0 m 99 ls [])
    unfold jn_vm_element_99 at hsp
    try dsimp only at hsp
    refine lv_iload_n hx hb dX13_element_99 rfl (lv_at hl 1 rfl) ?_
    refine lv_bipush (v := 50) hx hb dX13_element_100 (by decide) ?_
    refine lv_icmp_le (tgt := 123) hx hb dX13_element_102 (by decide) (fun c_15 => ?_) (fun c_15 => ?_)
    · rw [if_pos c_15] at hsp
      refine lv_aload_n hx hb dX13_element_123 rfl (lv_at hl 0 rfl) ?_
      refine lv_aload_n hx hb dX13_element_124 rfl (lv_at hl 0 rfl) ?_
      refine va_get (D := (dC, dI)) (ci := 13) (v := .ref qf147) (C := RX13) (T := TX13) (N := 155) hx hb hts uV_h9_X13 hown hK hP 0 rfl rfl 147 (by decide) (hts (.fieldLink RX13 288 "ClassMillModel" "values" "[I") mw_h9_374) (fun _ h9 => h9) hfh_99_147 dX13_element_125 ?_
      refine lv_aload_n hx hb dX13_element_128 rfl (lv_at hl 0 rfl) ?_
      refine va_get (D := (dC, dI)) (ci := 13) (v := .ref qf145) (C := RX13) (T := TX13) (N := 155) hx hb hts uV_h9_X13 hown hK hP 0 rfl rfl 145 (by decide) (hts (.fieldLink RX13 282 "ClassMillModel" "begin" "[I") mw_h9_372) (fun _ h9 => h9) hfh_99_145 dX13_element_129 ?_
      refine lv_iload hx hb dX13_element_132 (lv_at hl 4 rfl) ?_
      obtain ⟨hi_16, hsp⟩ := ox_in hsp
      refine va_iald hx hb hK hP 4 3 rfl rfl (i := l4_99) hi_16 dX13_element_134 ?_
      refine lv_iload_n hx hb dX13_element_135 rfl (lv_at hl 3 rfl) ?_
      refine lv_iadd hx hb dX13_element_136 ?_
      obtain ⟨hi_17, hsp⟩ := ox_in hsp
      refine va_iald hx hb hK hP 6 5 rfl rfl (i := ((g145_99 (l4_99 : Int32).toNatClampNeg) + l3_99)) hi_17 dX13_element_137 ?_
      obtain ⟨⟨g909_0, g909_1⟩, hu_9, hsp⟩ := ox_bind hsp
      try dsimp only at hsp
      have hPc := hP.sub (ws' := [(h0, .inr (13, z99)), (qf153, .inl (cf153, 60, .inl g153_99)), (qf154, .inl (cf154, 3600, .inl g154_99))]) [0, 1, 2] rfl
      have hDc := hD.sub (ws' := [(h0, .inr (13, z99)), (qf153, .inl (cf153, 60, .inl g153_99)), (qf154, .inl (cf154, 3600, .inl g154_99))]) [0, 1, 2] (by decide) rfl
      have hKc := hK.sub (tys' := [(cf153, .int), (cf154, .int)]) [0, 1] rfl
      have hFc := va_free (wc := [(h0, .inr (13, z99)), (qf153, .inl (cf153, 60, .inl g153_99)), (qf154, .inl (cf154, 3600, .inl g154_99))]) hD hS hA [0, 1, 2] rfl
      refine va_callv (va_runV (As := [.int (g147_99 (((g145_99 (l4_99 : Int32).toNatClampNeg) + l3_99) : Int32).toNatClampNeg)]) (rest := []) ⟨hx, hb, hml, hown, hts⟩ (tm_give l dC dI H.size h0 z99 ((g147_99 (((g145_99 (l4_99 : Int32).toNatClampNeg) + l3_99) : Int32).toNatClampNeg)) x149_99 qf153 qf154 cf153 g153_99 cf154 g154_99 nf g909_0 g909_1 hlh_99 hfh_99_149 hfh_99_153 hfh_99_154 hu_9) (cwV 1 hts gv_h9_116 rfl rfl rfl (by decide +kernel) ⟨Nat.le_of_ble_eq_true rfl, Nat.le_of_ble_eq_true rfl⟩) ⟨fun a U g mk q => by obtain ⟨q0, q1, qP, qK, qD⟩ := q; exact ⟨q0, q1, qP, va_K.moved (u := U) (U := U.calling g mk a) (Vm.Alike.refl U.vm) qK, qD⟩, va_recv hKc hPc (ci := 13) (q0 := 0) rfl rfl, fun U hU hW => ⟨rfl, by rw [hU], by rw [hU]; exact hPc, va_K.moved hW.alike hKc, hDc.weaken (fun _ _ _ _ => trivial)⟩⟩ rfl rfl hl.1 rfl (lv_room (Nat.le_of_ble_eq_true rfl)) dX13_element_138 ⟨Nat.le_of_ble_eq_true rfl, Nat.le_of_ble_eq_true rfl⟩) hS (fun q _ h => hFc q h) hFc ?_
      clear hS
      intro u t H1 locs ht hvm hw hB hz1 hk1 hS
      obtain ⟨z_9, rfl⟩ : ∃ z, z = u := ⟨_, rfl⟩
      obtain ⟨hP1, hK1, hD1⟩ := hB
      rw [ht] at hP1
      have hK1 := va_K.moved hvm.symm hK1
      try dsimp only at hw
      have hPD := va_join (wr := [(qf144, .inl (cf144, 2001, .inl g144_99)), (qf145, .inl (cf145, 2001, .inl g145_99)), (qf146, .inl (cf146, 2001, .inl g146_99)), (qf147, .inl (cf147, 20000, .inl g147_99)), (qf150, .inl (cf150, 60, .inl f150)), (qf151, .inl (cf151, 60, .inl f151)), (qf110, .inl (cf110, 96, .inl f110)), (qf100, .inl (cf100, 48000, .inl f100)), (qf152, .inl (cf152, 60, .inl g152_99)), (qf102, .inl (cf102, 2048, .inl f102)), (qf104, .inl (cf104, 8, .inl f104)), (qf105, .inl (cf105, 8, .inl f105))]) (w1 := [(h0, .inr (13, z_9)), (qf153, .inl (cf153, 60, .inl g909_0)), (qf154, .inl (cf154, 3600, .inl g909_1))]) hP hD [0, 1, 2] [3, 4, 5, 6, 7, 8, 9, 10, 11, 12, 13, 14] rfl rfl (by decide) (by decide) hk1 hFc hP1 hD1
      clear hP hD
      obtain ⟨hP, hD⟩ := hPD
      replace hK := (hK.sub (tys' := [(cf144, .int), (cf145, .int), (cf146, .int), (cf147, .int), (cf150, .int), (cf151, .int), (cf110, .int), (cf100, .int), (cf152, .int), (cf102, .int), (cf104, .int), (cf105, .int)]) [2, 3, 4, 5, 6, 7, 8, 9, 10, 11, 12, 13] rfl).app hK1
      clear hPc hDc hKc hFc hP1 hK1 hD1 hz1 hk1 ht hvm
      generalize H1 = H at hP hS ⊢
      replace hP : va_P (dC, dI) vwCl [(qf144, .inl (cf144, 2001, .inl g144_99)), (qf145, .inl (cf145, 2001, .inl g145_99)), (qf146, .inl (cf146, 2001, .inl g146_99)), (qf147, .inl (cf147, 20000, .inl g147_99)), (qf150, .inl (cf150, 60, .inl f150)), (qf151, .inl (cf151, 60, .inl f151)), (qf110, .inl (cf110, 96, .inl f110)), (qf100, .inl (cf100, 48000, .inl f100)), (qf152, .inl (cf152, 60, .inl g152_99)), (qf102, .inl (cf102, 2048, .inl f102)), (qf104, .inl (cf104, 8, .inl f104)), (qf105, .inl (cf105, 8, .inl f105)), (h0, .inr (13, z_9)), (qf153, .inl (cf153, 60, .inl g909_0)), (qf154, .inl (cf154, 3600, .inl g909_1))] H := hP
      replace hD : va_D A [(qf144, .inl (cf144, 2001, .inl g144_99)), (qf145, .inl (cf145, 2001, .inl g145_99)), (qf146, .inl (cf146, 2001, .inl g146_99)), (qf147, .inl (cf147, 20000, .inl g147_99)), (qf150, .inl (cf150, 60, .inl f150)), (qf151, .inl (cf151, 60, .inl f151)), (qf110, .inl (cf110, 96, .inl f110)), (qf100, .inl (cf100, 48000, .inl f100)), (qf152, .inl (cf152, 60, .inl g152_99)), (qf102, .inl (cf102, 2048, .inl f102)), (qf104, .inl (cf104, 8, .inl f104)), (qf105, .inl (cf105, 8, .inl f105)), (h0, .inr (13, z_9)), (qf153, .inl (cf153, 60, .inl g909_0)), (qf154, .inl (cf154, 3600, .inl g909_1))] := hD
      replace hK : va_K (dC, dI) vwCl [(cf144, .int), (cf145, .int), (cf146, .int), (cf147, .int), (cf150, .int), (cf151, .int), (cf110, .int), (cf100, .int), (cf152, .int), (cf102, .int), (cf104, .int), (cf105, .int), (cf153, .int), (cf154, .int)] s := hK
      obtain ⟨hwa_9, hln_9, hre_9⟩ := hw
      have hfk_9_98 : z_9[98]? = some (.int v98) := (hre_9 98 ).trans (hfh_99_98)
      have hfk_9_100 : z_9[100]? = some (.ref qf100) := (hre_9 100 ).trans (hfh_99_100)
      have hfk_9_102 : z_9[102]? = some (.ref qf102) := (hre_9 102 ).trans (hfh_99_102)
      have hfk_9_104 : z_9[104]? = some (.ref qf104) := (hre_9 104 ).trans (hfh_99_104)
      have hfk_9_105 : z_9[105]? = some (.ref qf105) := (hre_9 105 ).trans (hfh_99_105)
      have hfk_9_110 : z_9[110]? = some (.ref qf110) := (hre_9 110 ).trans (hfh_99_110)
      have hfk_9_138 : z_9[138]? = some (.int x138_99) := (hre_9 138 ).trans (hfh_99_138)
      have hfk_9_139 : z_9[139]? = some (.int x139_99) := (hre_9 139 ).trans (hfh_99_139)
      have hfk_9_141 : z_9[141]? = some (.int x141_99) := (hre_9 141 ).trans (hfh_99_141)
      have hfk_9_142 : z_9[142]? = some (.int x142_99) := (hre_9 142 ).trans (hfh_99_142)
      have hfk_9_144 : z_9[144]? = some (.ref qf144) := (hre_9 144 ).trans (hfh_99_144)
      have hfk_9_145 : z_9[145]? = some (.ref qf145) := (hre_9 145 ).trans (hfh_99_145)
      have hfk_9_146 : z_9[146]? = some (.ref qf146) := (hre_9 146 ).trans (hfh_99_146)
      have hfk_9_147 : z_9[147]? = some (.ref qf147) := (hre_9 147 ).trans (hfh_99_147)
      have hfk_9_149 : z_9[149]? = some (.int x149_99) := (hre_9 149 ).trans (hfh_99_149)
      have hfk_9_150 : z_9[150]? = some (.ref qf150) := (hre_9 150 ).trans (hfh_99_150)
      have hfk_9_151 : z_9[151]? = some (.ref qf151) := (hre_9 151 ).trans (hfh_99_151)
      have hfk_9_152 : z_9[152]? = some (.ref qf152) := (hre_9 152 ).trans (hfh_99_152)
      have hfk_9_153 : z_9[153]? = some (.ref qf153) := (hre_9 153 ).trans (hfh_99_153)
      have hfk_9_154 : z_9[154]? = some (.ref qf154) := (hre_9 154 ).trans (hfh_99_154)
      have hrq_9 : ∀ j : Nat, j ≠ 138 → j ≠ 139 → j ≠ 141 → j ≠ 142 → j ≠ 149 → z_9[j]? = zs[j]? := fun j g138 g139 g141 g142 g149 => (hre_9 j ).trans (hrh_99 j g138 g139 g141 g142 g149)
      refine lv_aload_n hx hb dX13_element_141 rfl (lv_at hl 0 rfl) ?_
      refine lv_iconst (v := 1) hx hb dX13_element_142 (by decide) ?_
      obtain ⟨g910_0, hu_10, hsp⟩ := ox_bind hsp
      try dsimp only at hsp
      have hPc := hP.sub (ws' := [(h0, .inr (13, z_9)), (qf152, .inl (cf152, 60, .inl g152_99))]) [12, 8] rfl
      have hDc := hD.sub (ws' := [(h0, .inr (13, z_9)), (qf152, .inl (cf152, 60, .inl g152_99))]) [12, 8] (by decide) rfl
      have hKc := hK.sub (tys' := [(cf152, .int)]) [8] rfl
      have hFc := va_free (wc := [(h0, .inr (13, z_9)), (qf152, .inl (cf152, 60, .inl g152_99))]) hD hS hA [12, 8] rfl
      refine va_callv (va_runV (As := [.int 1]) (rest := []) ⟨hx, hb, hml, hown, hts⟩ (tm_on l dC dI H.size h0 z_9 1 x149_99 qf152 cf152 g152_99 nf g910_0 hln_9 hfk_9_149 hfk_9_152 hu_10) (cwV 1 hts gv_h9_119 rfl rfl rfl (by decide +kernel) ⟨Nat.le_of_ble_eq_true rfl, Nat.le_of_ble_eq_true rfl⟩) ⟨fun a U g mk q => by obtain ⟨q0, q1, qP, qK, qD⟩ := q; exact ⟨q0, q1, qP, va_K.moved (u := U) (U := U.calling g mk a) (Vm.Alike.refl U.vm) qK, qD⟩, va_recv hKc hPc (ci := 13) (q0 := 0) rfl rfl, fun U hU hW => ⟨rfl, by rw [hU], by rw [hU]; exact hPc, va_K.moved hW.alike hKc, hDc.weaken (fun _ _ _ _ => trivial)⟩⟩ rfl rfl hl.1 rfl (lv_room (Nat.le_of_ble_eq_true rfl)) dX13_element_143 ⟨Nat.le_of_ble_eq_true rfl, Nat.le_of_ble_eq_true rfl⟩) hS (fun q _ h => hFc q h) hFc ?_
      clear hS
      intro u t H1 locs ht hvm hw hB hz1 hk1 hS
      obtain ⟨z_10, rfl⟩ : ∃ z, z = u := ⟨_, rfl⟩
      obtain ⟨hP1, hK1, hD1⟩ := hB
      rw [ht] at hP1
      have hK1 := va_K.moved hvm.symm hK1
      try dsimp only at hw
      have hPD := va_join (wr := [(qf144, .inl (cf144, 2001, .inl g144_99)), (qf145, .inl (cf145, 2001, .inl g145_99)), (qf146, .inl (cf146, 2001, .inl g146_99)), (qf147, .inl (cf147, 20000, .inl g147_99)), (qf150, .inl (cf150, 60, .inl f150)), (qf151, .inl (cf151, 60, .inl f151)), (qf110, .inl (cf110, 96, .inl f110)), (qf100, .inl (cf100, 48000, .inl f100)), (qf102, .inl (cf102, 2048, .inl f102)), (qf104, .inl (cf104, 8, .inl f104)), (qf105, .inl (cf105, 8, .inl f105)), (qf153, .inl (cf153, 60, .inl g909_0)), (qf154, .inl (cf154, 3600, .inl g909_1))]) (w1 := [(h0, .inr (13, z_10)), (qf152, .inl (cf152, 60, .inl g910_0))]) hP hD [12, 8] [0, 1, 2, 3, 4, 5, 6, 7, 9, 10, 11, 13, 14] rfl rfl (by decide) (by decide) hk1 hFc hP1 hD1
      clear hP hD
      obtain ⟨hP, hD⟩ := hPD
      replace hK := (hK.sub (tys' := [(cf144, .int), (cf145, .int), (cf146, .int), (cf147, .int), (cf150, .int), (cf151, .int), (cf110, .int), (cf100, .int), (cf102, .int), (cf104, .int), (cf105, .int), (cf153, .int), (cf154, .int)]) [0, 1, 2, 3, 4, 5, 6, 7, 9, 10, 11, 12, 13] rfl).app hK1
      clear hPc hDc hKc hFc hP1 hK1 hD1 hz1 hk1 ht hvm
      generalize H1 = H at hP hS ⊢
      replace hP : va_P (dC, dI) vwCl [(qf144, .inl (cf144, 2001, .inl g144_99)), (qf145, .inl (cf145, 2001, .inl g145_99)), (qf146, .inl (cf146, 2001, .inl g146_99)), (qf147, .inl (cf147, 20000, .inl g147_99)), (qf150, .inl (cf150, 60, .inl f150)), (qf151, .inl (cf151, 60, .inl f151)), (qf110, .inl (cf110, 96, .inl f110)), (qf100, .inl (cf100, 48000, .inl f100)), (qf102, .inl (cf102, 2048, .inl f102)), (qf104, .inl (cf104, 8, .inl f104)), (qf105, .inl (cf105, 8, .inl f105)), (qf153, .inl (cf153, 60, .inl g909_0)), (qf154, .inl (cf154, 3600, .inl g909_1)), (h0, .inr (13, z_10)), (qf152, .inl (cf152, 60, .inl g910_0))] H := hP
      replace hD : va_D A [(qf144, .inl (cf144, 2001, .inl g144_99)), (qf145, .inl (cf145, 2001, .inl g145_99)), (qf146, .inl (cf146, 2001, .inl g146_99)), (qf147, .inl (cf147, 20000, .inl g147_99)), (qf150, .inl (cf150, 60, .inl f150)), (qf151, .inl (cf151, 60, .inl f151)), (qf110, .inl (cf110, 96, .inl f110)), (qf100, .inl (cf100, 48000, .inl f100)), (qf102, .inl (cf102, 2048, .inl f102)), (qf104, .inl (cf104, 8, .inl f104)), (qf105, .inl (cf105, 8, .inl f105)), (qf153, .inl (cf153, 60, .inl g909_0)), (qf154, .inl (cf154, 3600, .inl g909_1)), (h0, .inr (13, z_10)), (qf152, .inl (cf152, 60, .inl g910_0))] := hD
      replace hK : va_K (dC, dI) vwCl [(cf144, .int), (cf145, .int), (cf146, .int), (cf147, .int), (cf150, .int), (cf151, .int), (cf110, .int), (cf100, .int), (cf102, .int), (cf104, .int), (cf105, .int), (cf153, .int), (cf154, .int), (cf152, .int)] s := hK
      obtain ⟨hwa_10, hln_10, hre_10⟩ := hw
      have hfk_10_98 : z_10[98]? = some (.int v98) := (hre_10 98 ).trans (hfk_9_98)
      have hfk_10_100 : z_10[100]? = some (.ref qf100) := (hre_10 100 ).trans (hfk_9_100)
      have hfk_10_102 : z_10[102]? = some (.ref qf102) := (hre_10 102 ).trans (hfk_9_102)
      have hfk_10_104 : z_10[104]? = some (.ref qf104) := (hre_10 104 ).trans (hfk_9_104)
      have hfk_10_105 : z_10[105]? = some (.ref qf105) := (hre_10 105 ).trans (hfk_9_105)
      have hfk_10_110 : z_10[110]? = some (.ref qf110) := (hre_10 110 ).trans (hfk_9_110)
      have hfk_10_138 : z_10[138]? = some (.int x138_99) := (hre_10 138 ).trans (hfk_9_138)
      have hfk_10_139 : z_10[139]? = some (.int x139_99) := (hre_10 139 ).trans (hfk_9_139)
      have hfk_10_141 : z_10[141]? = some (.int x141_99) := (hre_10 141 ).trans (hfk_9_141)
      have hfk_10_142 : z_10[142]? = some (.int x142_99) := (hre_10 142 ).trans (hfk_9_142)
      have hfk_10_144 : z_10[144]? = some (.ref qf144) := (hre_10 144 ).trans (hfk_9_144)
      have hfk_10_145 : z_10[145]? = some (.ref qf145) := (hre_10 145 ).trans (hfk_9_145)
      have hfk_10_146 : z_10[146]? = some (.ref qf146) := (hre_10 146 ).trans (hfk_9_146)
      have hfk_10_147 : z_10[147]? = some (.ref qf147) := (hre_10 147 ).trans (hfk_9_147)
      have hfk_10_149 : z_10[149]? = some (.int x149_99) := (hre_10 149 ).trans (hfk_9_149)
      have hfk_10_150 : z_10[150]? = some (.ref qf150) := (hre_10 150 ).trans (hfk_9_150)
      have hfk_10_151 : z_10[151]? = some (.ref qf151) := (hre_10 151 ).trans (hfk_9_151)
      have hfk_10_152 : z_10[152]? = some (.ref qf152) := (hre_10 152 ).trans (hfk_9_152)
      have hfk_10_153 : z_10[153]? = some (.ref qf153) := (hre_10 153 ).trans (hfk_9_153)
      have hfk_10_154 : z_10[154]? = some (.ref qf154) := (hre_10 154 ).trans (hfk_9_154)
      have hrq_10 : ∀ j : Nat, j ≠ 138 → j ≠ 139 → j ≠ 141 → j ≠ 142 → j ≠ 149 → z_10[j]? = zs[j]? := fun j g138 g139 g141 g142 g149 => (hre_10 j ).trans (hrq_9 j g138 g139 g141 g142 g149)
      have hr0 := Option.some.inj hsp
      clear hsp
      obtain ⟨hq0, hr1⟩ := Prod.mk.inj hr0
      clear hr0
      obtain ⟨hq1, hr2⟩ := Prod.mk.inj hr1
      clear hr1
      obtain ⟨hq2, hr3⟩ := Prod.mk.inj hr2
      clear hr2
      obtain ⟨hq3, hr4⟩ := Prod.mk.inj hr3
      clear hr3
      obtain ⟨hq4, hr5⟩ := Prod.mk.inj hr4
      clear hr4
      obtain ⟨hq5, hr6⟩ := Prod.mk.inj hr5
      clear hr5
      obtain ⟨hq6, hr7⟩ := Prod.mk.inj hr6
      clear hr6
      obtain ⟨hq7, hr8⟩ := Prod.mk.inj hr7
      clear hr7
      obtain ⟨hq8, hr9⟩ := Prod.mk.inj hr8
      clear hr8
      obtain ⟨hq9, hr10⟩ := Prod.mk.inj hr9
      clear hr9
      obtain ⟨hq10, hr11⟩ := Prod.mk.inj hr10
      clear hr10
      subst hq0
      subst hq1
      subst hq2
      subst hq3
      subst hq4
      subst hq5
      subst hq6
      subst hq7
      subst hq8
      subst hq9
      subst hq10
      subst hr11
      have hP9 := hP.sub (ws' := [(h0, .inr (13, z_10)), (qf153, .inl (cf153, 60, .inl g909_0)), (qf154, .inl (cf154, 3600, .inl g909_1)), (qf144, .inl (cf144, 2001, .inl g144_99)), (qf145, .inl (cf145, 2001, .inl g145_99)), (qf146, .inl (cf146, 2001, .inl g146_99)), (qf147, .inl (cf147, 20000, .inl g147_99)), (qf150, .inl (cf150, 60, .inl f150)), (qf151, .inl (cf151, 60, .inl f151)), (qf110, .inl (cf110, 96, .inl f110)), (qf100, .inl (cf100, 48000, .inl f100)), (qf152, .inl (cf152, 60, .inl g910_0)), (qf102, .inl (cf102, 2048, .inl f102)), (qf104, .inl (cf104, 8, .inl f104)), (qf105, .inl (cf105, 8, .inl f105))]) [13, 11, 12, 0, 1, 2, 3, 4, 5, 6, 7, 14, 8, 9, 10] rfl
      have hD9 := hD.sub (ws' := [(h0, .inr (13, z_10)), (qf153, .inl (cf153, 60, .inl g909_0)), (qf154, .inl (cf154, 3600, .inl g909_1)), (qf144, .inl (cf144, 2001, .inl g144_99)), (qf145, .inl (cf145, 2001, .inl g145_99)), (qf146, .inl (cf146, 2001, .inl g146_99)), (qf147, .inl (cf147, 20000, .inl g147_99)), (qf150, .inl (cf150, 60, .inl f150)), (qf151, .inl (cf151, 60, .inl f151)), (qf110, .inl (cf110, 96, .inl f110)), (qf100, .inl (cf100, 48000, .inl f100)), (qf152, .inl (cf152, 60, .inl g910_0)), (qf102, .inl (cf102, 2048, .inl f102)), (qf104, .inl (cf104, 8, .inl f104)), (qf105, .inl (cf105, 8, .inl f105))]) [13, 11, 12, 0, 1, 2, 3, 4, 5, 6, 7, 14, 8, 9, 10] (by decide) rfl
      have hK9 := hK.sub (tys' := [(cf153, .int), (cf154, .int), (cf144, .int), (cf145, .int), (cf146, .int), (cf147, .int), (cf150, .int), (cf151, .int), (cf110, .int), (cf100, .int), (cf152, .int), (cf102, .int), (cf104, .int), (cf105, .int)]) [11, 12, 0, 1, 2, 3, 4, 5, 6, 7, 13, 8, 9, 10] rfl
      exact W.vret hx hb hr (fun t ht hW => ⟨⟨(z_10), rfl, ⟨trivial, hln_10, hrq_10, hfk_10_138, hfk_10_139, hfk_10_141, hfk_10_142, hfk_10_149⟩, by rw [ht]; exact hP9, va_K.moved hW.alike hK9, hD9⟩, hS.F ht⟩) hS.2.2 dX13_element_146
    · rw [if_neg c_15] at hsp
      refine lv_aload_n hx hb dX13_element_105 rfl (lv_at hl 0 rfl) ?_
      refine va_get (D := (dC, dI)) (ci := 13) (v := .ref qf147) (C := RX13) (T := TX13) (N := 155) hx hb hts uV_h9_X13 hown hK hP 0 rfl rfl 147 (by decide) (hts (.fieldLink RX13 288 "ClassMillModel" "values" "[I") mw_h9_374) (fun _ h9 => h9) hfh_99_147 dX13_element_106 ?_
      refine lv_aload_n hx hb dX13_element_109 rfl (lv_at hl 0 rfl) ?_
      refine va_get (D := (dC, dI)) (ci := 13) (v := .ref qf145) (C := RX13) (T := TX13) (N := 155) hx hb hts uV_h9_X13 hown hK hP 0 rfl rfl 145 (by decide) (hts (.fieldLink RX13 282 "ClassMillModel" "begin" "[I") mw_h9_372) (fun _ h9 => h9) hfh_99_145 dX13_element_110 ?_
      refine lv_iload hx hb dX13_element_113 (lv_at hl 4 rfl) ?_
      obtain ⟨hi_18, hsp⟩ := ox_in hsp
      refine va_iald hx hb hK hP 4 3 rfl rfl (i := l4_99) hi_18 dX13_element_115 ?_
      refine lv_iload_n hx hb dX13_element_116 rfl (lv_at hl 3 rfl) ?_
      refine lv_iadd hx hb dX13_element_117 ?_
      refine lv_iload_n hx hb dX13_element_118 rfl (lv_at hl 2 rfl) ?_
      obtain ⟨hi_19, hsp⟩ := ox_in hsp
      refine va_iast hx hb hK hP hD hS 6 5 rfl rfl (i := ((g145_99 (l4_99 : Int32).toNatClampNeg) + l3_99)) (x := l2_99) hi_19 dX13_element_119 ?_
      clear hP hD hS
      intro H locs hP hD hS
      replace hP : va_P (dC, dI) vwCl [(h0, .inr (13, z99)), (qf153, .inl (cf153, 60, .inl g153_99)), (qf154, .inl (cf154, 3600, .inl g154_99)), (qf144, .inl (cf144, 2001, .inl g144_99)), (qf145, .inl (cf145, 2001, .inl g145_99)), (qf146, .inl (cf146, 2001, .inl g146_99)), (qf147, .inl (cf147, 20000, .inl (upd g147_99 (((g145_99 (l4_99 : Int32).toNatClampNeg) + l3_99) : Int32).toNatClampNeg l2_99))), (qf150, .inl (cf150, 60, .inl f150)), (qf151, .inl (cf151, 60, .inl f151)), (qf110, .inl (cf110, 96, .inl f110)), (qf100, .inl (cf100, 48000, .inl f100)), (qf152, .inl (cf152, 60, .inl g152_99)), (qf102, .inl (cf102, 2048, .inl f102)), (qf104, .inl (cf104, 8, .inl f104)), (qf105, .inl (cf105, 8, .inl f105))] H := hP
      replace hD : va_D A [(h0, .inr (13, z99)), (qf153, .inl (cf153, 60, .inl g153_99)), (qf154, .inl (cf154, 3600, .inl g154_99)), (qf144, .inl (cf144, 2001, .inl g144_99)), (qf145, .inl (cf145, 2001, .inl g145_99)), (qf146, .inl (cf146, 2001, .inl g146_99)), (qf147, .inl (cf147, 20000, .inl (upd g147_99 (((g145_99 (l4_99 : Int32).toNatClampNeg) + l3_99) : Int32).toNatClampNeg l2_99))), (qf150, .inl (cf150, 60, .inl f150)), (qf151, .inl (cf151, 60, .inl f151)), (qf110, .inl (cf110, 96, .inl f110)), (qf100, .inl (cf100, 48000, .inl f100)), (qf152, .inl (cf152, 60, .inl g152_99)), (qf102, .inl (cf102, 2048, .inl f102)), (qf104, .inl (cf104, 8, .inl f104)), (qf105, .inl (cf105, 8, .inl f105))] := hD
      refine lv_goto (tgt := 141) hx hb dX13_element_120 (by decide) ?_
      refine lv_aload_n hx hb dX13_element_141 rfl (lv_at hl 0 rfl) ?_
      refine lv_iconst (v := 1) hx hb dX13_element_142 (by decide) ?_
      obtain ⟨g911_0, hu_11, hsp⟩ := ox_bind hsp
      try dsimp only at hsp
      have hPc := hP.sub (ws' := [(h0, .inr (13, z99)), (qf152, .inl (cf152, 60, .inl g152_99))]) [0, 11] rfl
      have hDc := hD.sub (ws' := [(h0, .inr (13, z99)), (qf152, .inl (cf152, 60, .inl g152_99))]) [0, 11] (by decide) rfl
      have hKc := hK.sub (tys' := [(cf152, .int)]) [10] rfl
      have hFc := va_free (wc := [(h0, .inr (13, z99)), (qf152, .inl (cf152, 60, .inl g152_99))]) hD hS hA [0, 11] rfl
      refine va_callv (va_runV (As := [.int 1]) (rest := []) ⟨hx, hb, hml, hown, hts⟩ (tm_on l dC dI H.size h0 z99 1 x149_99 qf152 cf152 g152_99 nf g911_0 hlh_99 hfh_99_149 hfh_99_152 hu_11) (cwV 1 hts gv_h9_119 rfl rfl rfl (by decide +kernel) ⟨Nat.le_of_ble_eq_true rfl, Nat.le_of_ble_eq_true rfl⟩) ⟨fun a U g mk q => by obtain ⟨q0, q1, qP, qK, qD⟩ := q; exact ⟨q0, q1, qP, va_K.moved (u := U) (U := U.calling g mk a) (Vm.Alike.refl U.vm) qK, qD⟩, va_recv hKc hPc (ci := 13) (q0 := 0) rfl rfl, fun U hU hW => ⟨rfl, by rw [hU], by rw [hU]; exact hPc, va_K.moved hW.alike hKc, hDc.weaken (fun _ _ _ _ => trivial)⟩⟩ rfl rfl hl.1 rfl (lv_room (Nat.le_of_ble_eq_true rfl)) dX13_element_143 ⟨Nat.le_of_ble_eq_true rfl, Nat.le_of_ble_eq_true rfl⟩) hS (fun q _ h => hFc q h) hFc ?_
      clear hS
      intro u t H1 locs ht hvm hw hB hz1 hk1 hS
      obtain ⟨z_11, rfl⟩ : ∃ z, z = u := ⟨_, rfl⟩
      obtain ⟨hP1, hK1, hD1⟩ := hB
      rw [ht] at hP1
      have hK1 := va_K.moved hvm.symm hK1
      try dsimp only at hw
      have hPD := va_join (wr := [(qf153, .inl (cf153, 60, .inl g153_99)), (qf154, .inl (cf154, 3600, .inl g154_99)), (qf144, .inl (cf144, 2001, .inl g144_99)), (qf145, .inl (cf145, 2001, .inl g145_99)), (qf146, .inl (cf146, 2001, .inl g146_99)), (qf147, .inl (cf147, 20000, .inl (upd g147_99 (((g145_99 (l4_99 : Int32).toNatClampNeg) + l3_99) : Int32).toNatClampNeg l2_99))), (qf150, .inl (cf150, 60, .inl f150)), (qf151, .inl (cf151, 60, .inl f151)), (qf110, .inl (cf110, 96, .inl f110)), (qf100, .inl (cf100, 48000, .inl f100)), (qf102, .inl (cf102, 2048, .inl f102)), (qf104, .inl (cf104, 8, .inl f104)), (qf105, .inl (cf105, 8, .inl f105))]) (w1 := [(h0, .inr (13, z_11)), (qf152, .inl (cf152, 60, .inl g911_0))]) hP hD [0, 11] [1, 2, 3, 4, 5, 6, 7, 8, 9, 10, 12, 13, 14] rfl rfl (by decide) (by decide) hk1 hFc hP1 hD1
      clear hP hD
      obtain ⟨hP, hD⟩ := hPD
      replace hK := (hK.sub (tys' := [(cf153, .int), (cf154, .int), (cf144, .int), (cf145, .int), (cf146, .int), (cf147, .int), (cf150, .int), (cf151, .int), (cf110, .int), (cf100, .int), (cf102, .int), (cf104, .int), (cf105, .int)]) [0, 1, 2, 3, 4, 5, 6, 7, 8, 9, 11, 12, 13] rfl).app hK1
      clear hPc hDc hKc hFc hP1 hK1 hD1 hz1 hk1 ht hvm
      generalize H1 = H at hP hS ⊢
      replace hP : va_P (dC, dI) vwCl [(qf153, .inl (cf153, 60, .inl g153_99)), (qf154, .inl (cf154, 3600, .inl g154_99)), (qf144, .inl (cf144, 2001, .inl g144_99)), (qf145, .inl (cf145, 2001, .inl g145_99)), (qf146, .inl (cf146, 2001, .inl g146_99)), (qf147, .inl (cf147, 20000, .inl (upd g147_99 (((g145_99 (l4_99 : Int32).toNatClampNeg) + l3_99) : Int32).toNatClampNeg l2_99))), (qf150, .inl (cf150, 60, .inl f150)), (qf151, .inl (cf151, 60, .inl f151)), (qf110, .inl (cf110, 96, .inl f110)), (qf100, .inl (cf100, 48000, .inl f100)), (qf102, .inl (cf102, 2048, .inl f102)), (qf104, .inl (cf104, 8, .inl f104)), (qf105, .inl (cf105, 8, .inl f105)), (h0, .inr (13, z_11)), (qf152, .inl (cf152, 60, .inl g911_0))] H := hP
      replace hD : va_D A [(qf153, .inl (cf153, 60, .inl g153_99)), (qf154, .inl (cf154, 3600, .inl g154_99)), (qf144, .inl (cf144, 2001, .inl g144_99)), (qf145, .inl (cf145, 2001, .inl g145_99)), (qf146, .inl (cf146, 2001, .inl g146_99)), (qf147, .inl (cf147, 20000, .inl (upd g147_99 (((g145_99 (l4_99 : Int32).toNatClampNeg) + l3_99) : Int32).toNatClampNeg l2_99))), (qf150, .inl (cf150, 60, .inl f150)), (qf151, .inl (cf151, 60, .inl f151)), (qf110, .inl (cf110, 96, .inl f110)), (qf100, .inl (cf100, 48000, .inl f100)), (qf102, .inl (cf102, 2048, .inl f102)), (qf104, .inl (cf104, 8, .inl f104)), (qf105, .inl (cf105, 8, .inl f105)), (h0, .inr (13, z_11)), (qf152, .inl (cf152, 60, .inl g911_0))] := hD
      replace hK : va_K (dC, dI) vwCl [(cf153, .int), (cf154, .int), (cf144, .int), (cf145, .int), (cf146, .int), (cf147, .int), (cf150, .int), (cf151, .int), (cf110, .int), (cf100, .int), (cf102, .int), (cf104, .int), (cf105, .int), (cf152, .int)] s := hK
      obtain ⟨hwa_11, hln_11, hre_11⟩ := hw
      have hfk_11_98 : z_11[98]? = some (.int v98) := (hre_11 98 ).trans (hfh_99_98)
      have hfk_11_100 : z_11[100]? = some (.ref qf100) := (hre_11 100 ).trans (hfh_99_100)
      have hfk_11_102 : z_11[102]? = some (.ref qf102) := (hre_11 102 ).trans (hfh_99_102)
      have hfk_11_104 : z_11[104]? = some (.ref qf104) := (hre_11 104 ).trans (hfh_99_104)
      have hfk_11_105 : z_11[105]? = some (.ref qf105) := (hre_11 105 ).trans (hfh_99_105)
      have hfk_11_110 : z_11[110]? = some (.ref qf110) := (hre_11 110 ).trans (hfh_99_110)
      have hfk_11_138 : z_11[138]? = some (.int x138_99) := (hre_11 138 ).trans (hfh_99_138)
      have hfk_11_139 : z_11[139]? = some (.int x139_99) := (hre_11 139 ).trans (hfh_99_139)
      have hfk_11_141 : z_11[141]? = some (.int x141_99) := (hre_11 141 ).trans (hfh_99_141)
      have hfk_11_142 : z_11[142]? = some (.int x142_99) := (hre_11 142 ).trans (hfh_99_142)
      have hfk_11_144 : z_11[144]? = some (.ref qf144) := (hre_11 144 ).trans (hfh_99_144)
      have hfk_11_145 : z_11[145]? = some (.ref qf145) := (hre_11 145 ).trans (hfh_99_145)
      have hfk_11_146 : z_11[146]? = some (.ref qf146) := (hre_11 146 ).trans (hfh_99_146)
      have hfk_11_147 : z_11[147]? = some (.ref qf147) := (hre_11 147 ).trans (hfh_99_147)
      have hfk_11_149 : z_11[149]? = some (.int x149_99) := (hre_11 149 ).trans (hfh_99_149)
      have hfk_11_150 : z_11[150]? = some (.ref qf150) := (hre_11 150 ).trans (hfh_99_150)
      have hfk_11_151 : z_11[151]? = some (.ref qf151) := (hre_11 151 ).trans (hfh_99_151)
      have hfk_11_152 : z_11[152]? = some (.ref qf152) := (hre_11 152 ).trans (hfh_99_152)
      have hfk_11_153 : z_11[153]? = some (.ref qf153) := (hre_11 153 ).trans (hfh_99_153)
      have hfk_11_154 : z_11[154]? = some (.ref qf154) := (hre_11 154 ).trans (hfh_99_154)
      have hrq_11 : ∀ j : Nat, j ≠ 138 → j ≠ 139 → j ≠ 141 → j ≠ 142 → j ≠ 149 → z_11[j]? = zs[j]? := fun j g138 g139 g141 g142 g149 => (hre_11 j ).trans (hrh_99 j g138 g139 g141 g142 g149)
      have hr0 := Option.some.inj hsp
      clear hsp
      obtain ⟨hq0, hr1⟩ := Prod.mk.inj hr0
      clear hr0
      obtain ⟨hq1, hr2⟩ := Prod.mk.inj hr1
      clear hr1
      obtain ⟨hq2, hr3⟩ := Prod.mk.inj hr2
      clear hr2
      obtain ⟨hq3, hr4⟩ := Prod.mk.inj hr3
      clear hr3
      obtain ⟨hq4, hr5⟩ := Prod.mk.inj hr4
      clear hr4
      obtain ⟨hq5, hr6⟩ := Prod.mk.inj hr5
      clear hr5
      obtain ⟨hq6, hr7⟩ := Prod.mk.inj hr6
      clear hr6
      obtain ⟨hq7, hr8⟩ := Prod.mk.inj hr7
      clear hr7
      obtain ⟨hq8, hr9⟩ := Prod.mk.inj hr8
      clear hr8
      obtain ⟨hq9, hr10⟩ := Prod.mk.inj hr9
      clear hr9
      obtain ⟨hq10, hr11⟩ := Prod.mk.inj hr10
      clear hr10
      subst hq0
      subst hq1
      subst hq2
      subst hq3
      subst hq4
      subst hq5
      subst hq6
      subst hq7
      subst hq8
      subst hq9
      subst hq10
      subst hr11
      have hP9 := hP.sub (ws' := [(h0, .inr (13, z_11)), (qf153, .inl (cf153, 60, .inl g153_99)), (qf154, .inl (cf154, 3600, .inl g154_99)), (qf144, .inl (cf144, 2001, .inl g144_99)), (qf145, .inl (cf145, 2001, .inl g145_99)), (qf146, .inl (cf146, 2001, .inl g146_99)), (qf147, .inl (cf147, 20000, .inl (upd g147_99 (((g145_99 (l4_99 : Int32).toNatClampNeg) + l3_99) : Int32).toNatClampNeg l2_99))), (qf150, .inl (cf150, 60, .inl f150)), (qf151, .inl (cf151, 60, .inl f151)), (qf110, .inl (cf110, 96, .inl f110)), (qf100, .inl (cf100, 48000, .inl f100)), (qf152, .inl (cf152, 60, .inl g911_0)), (qf102, .inl (cf102, 2048, .inl f102)), (qf104, .inl (cf104, 8, .inl f104)), (qf105, .inl (cf105, 8, .inl f105))]) [13, 0, 1, 2, 3, 4, 5, 6, 7, 8, 9, 14, 10, 11, 12] rfl
      have hD9 := hD.sub (ws' := [(h0, .inr (13, z_11)), (qf153, .inl (cf153, 60, .inl g153_99)), (qf154, .inl (cf154, 3600, .inl g154_99)), (qf144, .inl (cf144, 2001, .inl g144_99)), (qf145, .inl (cf145, 2001, .inl g145_99)), (qf146, .inl (cf146, 2001, .inl g146_99)), (qf147, .inl (cf147, 20000, .inl (upd g147_99 (((g145_99 (l4_99 : Int32).toNatClampNeg) + l3_99) : Int32).toNatClampNeg l2_99))), (qf150, .inl (cf150, 60, .inl f150)), (qf151, .inl (cf151, 60, .inl f151)), (qf110, .inl (cf110, 96, .inl f110)), (qf100, .inl (cf100, 48000, .inl f100)), (qf152, .inl (cf152, 60, .inl g911_0)), (qf102, .inl (cf102, 2048, .inl f102)), (qf104, .inl (cf104, 8, .inl f104)), (qf105, .inl (cf105, 8, .inl f105))]) [13, 0, 1, 2, 3, 4, 5, 6, 7, 8, 9, 14, 10, 11, 12] (by decide) rfl
      have hK9 := hK.sub (tys' := [(cf153, .int), (cf154, .int), (cf144, .int), (cf145, .int), (cf146, .int), (cf147, .int), (cf150, .int), (cf151, .int), (cf110, .int), (cf100, .int), (cf152, .int), (cf102, .int), (cf104, .int), (cf105, .int)]) [0, 1, 2, 3, 4, 5, 6, 7, 8, 9, 13, 10, 11, 12] rfl
      exact W.vret hx hb hr (fun t ht hW => ⟨⟨(z_11), rfl, ⟨trivial, hln_11, hrq_11, hfk_11_138, hfk_11_139, hfk_11_141, hfk_11_142, hfk_11_149⟩, by rw [ht]; exact hP9, va_K.moved hW.alike hK9, hD9⟩, hS.F ht⟩) hS.2.2 dX13_element_146
  intro hj_99
  refine jn_use (α := Heap × List Loc × Array Slot × List Value × Int32 × Int32 × (Nat → Int32) × (Nat → Int32) × (Nat → Int32) × (Nat → Int32) × (Nat → Int32) × (Nat → Int32) × (Nat → Int32) × Int32 × Int32 × Int32 × Int32 × Int32) (fun x9 => x9.1) (fun x9 => x9.2.1) (fun x9 => F0 m 14 x9.2.2.1 [.int (x9.2.2.2.2.2.1)]) (fun x9 => match x9 with | (H, locs, ls, z14, l1_14, s0_14, g144_14, g145_14, g146_14, g147_14, g152_14, g153_14, g154_14, x138_14, x139_14, x141_14, x142_14, x149_14) => lv_has ls 5 [(0, .ref h0), (1, .int l1_14)] ∧ va_S A s.heap H locs ∧ va_D A [(h0, .inr (13, z14)), (qf153, .inl (cf153, 60, .inl g153_14)), (qf154, .inl (cf154, 3600, .inl g154_14)), (qf144, .inl (cf144, 2001, .inl g144_14)), (qf145, .inl (cf145, 2001, .inl g145_14)), (qf146, .inl (cf146, 2001, .inl g146_14)), (qf147, .inl (cf147, 20000, .inl g147_14)), (qf150, .inl (cf150, 60, .inl f150)), (qf151, .inl (cf151, 60, .inl f151)), (qf110, .inl (cf110, 96, .inl f110)), (qf100, .inl (cf100, 48000, .inl f100)), (qf152, .inl (cf152, 60, .inl g152_14)), (qf102, .inl (cf102, 2048, .inl f102)), (qf104, .inl (cf104, 8, .inl f104)), (qf105, .inl (cf105, 8, .inl f105))] ∧ va_P (dC, dI) vwCl [(h0, .inr (13, z14)), (qf153, .inl (cf153, 60, .inl g153_14)), (qf154, .inl (cf154, 3600, .inl g154_14)), (qf144, .inl (cf144, 2001, .inl g144_14)), (qf145, .inl (cf145, 2001, .inl g145_14)), (qf146, .inl (cf146, 2001, .inl g146_14)), (qf147, .inl (cf147, 20000, .inl g147_14)), (qf150, .inl (cf150, 60, .inl f150)), (qf151, .inl (cf151, 60, .inl f151)), (qf110, .inl (cf110, 96, .inl f110)), (qf100, .inl (cf100, 48000, .inl f100)), (qf152, .inl (cf152, 60, .inl g152_14)), (qf102, .inl (cf102, 2048, .inl f102)), (qf104, .inl (cf104, 8, .inl f104)), (qf105, .inl (cf105, 8, .inl f105))] H ∧ z14[98]? = some (.int v98) ∧ z14[100]? = some (.ref qf100) ∧ z14[102]? = some (.ref qf102) ∧ z14[104]? = some (.ref qf104) ∧ z14[105]? = some (.ref qf105) ∧ z14[110]? = some (.ref qf110) ∧ z14[138]? = some (.int x138_14) ∧ z14[139]? = some (.int x139_14) ∧ z14[141]? = some (.int x141_14) ∧ z14[142]? = some (.int x142_14) ∧ z14[144]? = some (.ref qf144) ∧ z14[145]? = some (.ref qf145) ∧ z14[146]? = some (.ref qf146) ∧ z14[147]? = some (.ref qf147) ∧ z14[149]? = some (.int x149_14) ∧ z14[150]? = some (.ref qf150) ∧ z14[151]? = some (.ref qf151) ∧ z14[152]? = some (.ref qf152) ∧ z14[153]? = some (.ref qf153) ∧ z14[154]? = some (.ref qf154) ∧ z14.length = 155 ∧ (∀ j : Nat, j ≠ 138 → j ≠ 139 → j ≠ 141 → j ≠ 142 → j ≠ 149 → z14[j]? = zs[j]?) ∧ jn_vm_element_14 nf a1 v98 v138 v139 v141 v142 v149 f153 f154 f144 f145 f146 f147 f150 f151 f110 f100 f152 f102 f104 f105 nS477 fS477 l1_14 s0_14 g144_14 g145_14 g146_14 g147_14 g152_14 g153_14 g154_14 x138_14 x139_14 x141_14 x142_14 x149_14 = some (o144, o145, o146, o147, o152, o153, o154, w138, w139, w141, w142, w149)) ?_ ?_
  · intro x9 hJ9
    obtain ⟨H, locs, ls, z14, l1_14, s0_14, g144_14, g145_14, g146_14, g147_14, g152_14, g153_14, g154_14, x138_14, x139_14, x141_14, x142_14, x149_14⟩ := x9
    obtain ⟨hl, hS, hD, hP, hfh_14_98, hfh_14_100, hfh_14_102, hfh_14_104, hfh_14_105, hfh_14_110, hfh_14_138, hfh_14_139, hfh_14_141, hfh_14_142, hfh_14_144, hfh_14_145, hfh_14_146, hfh_14_147, hfh_14_149, hfh_14_150, hfh_14_151, hfh_14_152, hfh_14_153, hfh_14_154, hlh_14, hrh_14, hsp⟩ := hJ9
    replace hl : lv_has ls 5 [(0, .ref h0), (1, .int l1_14)] := hl
    replace hS : va_S A s.heap H locs := hS
    replace hD : va_D A [(h0, .inr (13, z14)), (qf153, .inl (cf153, 60, .inl g153_14)), (qf154, .inl (cf154, 3600, .inl g154_14)), (qf144, .inl (cf144, 2001, .inl g144_14)), (qf145, .inl (cf145, 2001, .inl g145_14)), (qf146, .inl (cf146, 2001, .inl g146_14)), (qf147, .inl (cf147, 20000, .inl g147_14)), (qf150, .inl (cf150, 60, .inl f150)), (qf151, .inl (cf151, 60, .inl f151)), (qf110, .inl (cf110, 96, .inl f110)), (qf100, .inl (cf100, 48000, .inl f100)), (qf152, .inl (cf152, 60, .inl g152_14)), (qf102, .inl (cf102, 2048, .inl f102)), (qf104, .inl (cf104, 8, .inl f104)), (qf105, .inl (cf105, 8, .inl f105))] := hD
    replace hP : va_P (dC, dI) vwCl [(h0, .inr (13, z14)), (qf153, .inl (cf153, 60, .inl g153_14)), (qf154, .inl (cf154, 3600, .inl g154_14)), (qf144, .inl (cf144, 2001, .inl g144_14)), (qf145, .inl (cf145, 2001, .inl g145_14)), (qf146, .inl (cf146, 2001, .inl g146_14)), (qf147, .inl (cf147, 20000, .inl g147_14)), (qf150, .inl (cf150, 60, .inl f150)), (qf151, .inl (cf151, 60, .inl f151)), (qf110, .inl (cf110, 96, .inl f110)), (qf100, .inl (cf100, 48000, .inl f100)), (qf152, .inl (cf152, 60, .inl g152_14)), (qf102, .inl (cf102, 2048, .inl f102)), (qf104, .inl (cf104, 8, .inl f104)), (qf105, .inl (cf105, 8, .inl f105))] H := hP
    replace hsp : jn_vm_element_14 nf a1 v98 v138 v139 v141 v142 v149 f153 f154 f144 f145 f146 f147 f150 f151 f110 f100 f152 f102 f104 f105 nS477 fS477 l1_14 s0_14 g144_14 g145_14 g146_14 g147_14 g152_14 g153_14 g154_14 x138_14 x139_14 x141_14 x142_14 x149_14 = some (o144, o145, o146, o147, o152, o153, o154, w138, w139, w141, w142, w149) := hsp
    show W _ _ _ _ _ _ _ _ _ _ H locs _ _ _ (F0 m 14 ls [.int s0_14])
    unfold jn_vm_element_14 at hsp
    try dsimp only at hsp
    refine lv_istore_n (lv' := [(2, .int s0_14), (0, .ref h0), (1, .int l1_14)]) hx hb dX13_element_14 rfl hl (by decide) rfl (fun ls hl => ?_)
    refine lv_aload_n hx hb dX13_element_15 rfl (lv_at hl 1 rfl) ?_
    obtain ⟨⟨u2_0, g902_1⟩, hu_2, hsp⟩ := ox_bind hsp
    try dsimp only at hsp
    have hPc := hP.sub (ws' := [(h0, .inr (13, z14)), (qf153, .inl (cf153, 60, .inl g153_14)), (qf154, .inl (cf154, 3600, .inl g154_14))]) [0, 1, 2] rfl
    have hDc := hD.sub (ws' := [(h0, .inr (13, z14)), (qf153, .inl (cf153, 60, .inl g153_14)), (qf154, .inl (cf154, 3600, .inl g154_14))]) [0, 1, 2] (by decide) rfl
    have hKc := hK.sub (tys' := [(cf153, .int), (cf154, .int)]) [0, 1] rfl
    have hFc := va_free (wc := [(h0, .inr (13, z14)), (qf153, .inl (cf153, 60, .inl g153_14)), (qf154, .inl (cf154, 3600, .inl g154_14))]) hD hS hA [0, 1, 2] rfl
    refine va_calli (va_runV (As := []) (rest := []) ⟨hx, hb, hml, hown, hts⟩ (tm_drop l dC dI H.size h0 z14 x149_14 qf153 qf154 cf153 g153_14 cf154 g154_14 nf u2_0 g902_1 hlh_14 hfh_14_149 hfh_14_153 hfh_14_154 hu_2) (cwV 0 hts gv_h9_75 rfl rfl rfl (by decide +kernel) ⟨Nat.le_of_ble_eq_true rfl, Nat.le_of_ble_eq_true rfl⟩) ⟨fun a U g mk q => by obtain ⟨q0, q1, qP, qK, qD⟩ := q; exact ⟨q0, q1, qP, va_K.moved (u := U) (U := U.calling g mk a) (Vm.Alike.refl U.vm) qK, qD⟩, va_recv hKc hPc (ci := 13) (q0 := 0) rfl rfl, fun U hU hW => ⟨rfl, by rw [hU], by rw [hU]; exact hPc, va_K.moved hW.alike hKc, hDc.weaken (fun _ _ _ _ => trivial)⟩⟩ rfl rfl hl.1 rfl (lv_room (Nat.le_of_ble_eq_true rfl)) dX13_element_16 ⟨Nat.le_of_ble_eq_true rfl, Nat.le_of_ble_eq_true rfl⟩) hS (fun q _ h => hFc q h) hFc ?_
    clear hS
    intro r_3 u t H1 locs ht hvm hw hB hz1 hk1 hS
    obtain ⟨z_2, rfl⟩ : ∃ z, z = u := ⟨_, rfl⟩
    obtain ⟨hP1, hK1, hD1⟩ := hB
    rw [ht] at hP1
    have hK1 := va_K.moved hvm.symm hK1
    try dsimp only at hw
    have hPD := va_join (wr := [(qf144, .inl (cf144, 2001, .inl g144_14)), (qf145, .inl (cf145, 2001, .inl g145_14)), (qf146, .inl (cf146, 2001, .inl g146_14)), (qf147, .inl (cf147, 20000, .inl g147_14)), (qf150, .inl (cf150, 60, .inl f150)), (qf151, .inl (cf151, 60, .inl f151)), (qf110, .inl (cf110, 96, .inl f110)), (qf100, .inl (cf100, 48000, .inl f100)), (qf152, .inl (cf152, 60, .inl g152_14)), (qf102, .inl (cf102, 2048, .inl f102)), (qf104, .inl (cf104, 8, .inl f104)), (qf105, .inl (cf105, 8, .inl f105))]) (w1 := [(h0, .inr (13, z_2)), (qf153, .inl (cf153, 60, .inl g902_1)), (qf154, .inl (cf154, 3600, .inl g154_14))]) hP hD [0, 1, 2] [3, 4, 5, 6, 7, 8, 9, 10, 11, 12, 13, 14] rfl rfl (by decide) (by decide) hk1 hFc hP1 hD1
    clear hP hD
    obtain ⟨hP, hD⟩ := hPD
    replace hK := (hK.sub (tys' := [(cf144, .int), (cf145, .int), (cf146, .int), (cf147, .int), (cf150, .int), (cf151, .int), (cf110, .int), (cf100, .int), (cf152, .int), (cf102, .int), (cf104, .int), (cf105, .int)]) [2, 3, 4, 5, 6, 7, 8, 9, 10, 11, 12, 13] rfl).app hK1
    clear hPc hDc hKc hFc hP1 hK1 hD1 hz1 hk1 ht hvm
    generalize H1 = H at hP hS ⊢
    replace hP : va_P (dC, dI) vwCl [(qf144, .inl (cf144, 2001, .inl g144_14)), (qf145, .inl (cf145, 2001, .inl g145_14)), (qf146, .inl (cf146, 2001, .inl g146_14)), (qf147, .inl (cf147, 20000, .inl g147_14)), (qf150, .inl (cf150, 60, .inl f150)), (qf151, .inl (cf151, 60, .inl f151)), (qf110, .inl (cf110, 96, .inl f110)), (qf100, .inl (cf100, 48000, .inl f100)), (qf152, .inl (cf152, 60, .inl g152_14)), (qf102, .inl (cf102, 2048, .inl f102)), (qf104, .inl (cf104, 8, .inl f104)), (qf105, .inl (cf105, 8, .inl f105)), (h0, .inr (13, z_2)), (qf153, .inl (cf153, 60, .inl g902_1)), (qf154, .inl (cf154, 3600, .inl g154_14))] H := hP
    replace hD : va_D A [(qf144, .inl (cf144, 2001, .inl g144_14)), (qf145, .inl (cf145, 2001, .inl g145_14)), (qf146, .inl (cf146, 2001, .inl g146_14)), (qf147, .inl (cf147, 20000, .inl g147_14)), (qf150, .inl (cf150, 60, .inl f150)), (qf151, .inl (cf151, 60, .inl f151)), (qf110, .inl (cf110, 96, .inl f110)), (qf100, .inl (cf100, 48000, .inl f100)), (qf152, .inl (cf152, 60, .inl g152_14)), (qf102, .inl (cf102, 2048, .inl f102)), (qf104, .inl (cf104, 8, .inl f104)), (qf105, .inl (cf105, 8, .inl f105)), (h0, .inr (13, z_2)), (qf153, .inl (cf153, 60, .inl g902_1)), (qf154, .inl (cf154, 3600, .inl g154_14))] := hD
    replace hK : va_K (dC, dI) vwCl [(cf144, .int), (cf145, .int), (cf146, .int), (cf147, .int), (cf150, .int), (cf151, .int), (cf110, .int), (cf100, .int), (cf152, .int), (cf102, .int), (cf104, .int), (cf105, .int), (cf153, .int), (cf154, .int)] s := hK
    obtain ⟨hwa_2, hln_2, hre_2⟩ := hw
    have hfk_2_98 : z_2[98]? = some (.int v98) := (hre_2 98 ).trans (hfh_14_98)
    have hfk_2_100 : z_2[100]? = some (.ref qf100) := (hre_2 100 ).trans (hfh_14_100)
    have hfk_2_102 : z_2[102]? = some (.ref qf102) := (hre_2 102 ).trans (hfh_14_102)
    have hfk_2_104 : z_2[104]? = some (.ref qf104) := (hre_2 104 ).trans (hfh_14_104)
    have hfk_2_105 : z_2[105]? = some (.ref qf105) := (hre_2 105 ).trans (hfh_14_105)
    have hfk_2_110 : z_2[110]? = some (.ref qf110) := (hre_2 110 ).trans (hfh_14_110)
    have hfk_2_138 : z_2[138]? = some (.int x138_14) := (hre_2 138 ).trans (hfh_14_138)
    have hfk_2_139 : z_2[139]? = some (.int x139_14) := (hre_2 139 ).trans (hfh_14_139)
    have hfk_2_141 : z_2[141]? = some (.int x141_14) := (hre_2 141 ).trans (hfh_14_141)
    have hfk_2_142 : z_2[142]? = some (.int x142_14) := (hre_2 142 ).trans (hfh_14_142)
    have hfk_2_144 : z_2[144]? = some (.ref qf144) := (hre_2 144 ).trans (hfh_14_144)
    have hfk_2_145 : z_2[145]? = some (.ref qf145) := (hre_2 145 ).trans (hfh_14_145)
    have hfk_2_146 : z_2[146]? = some (.ref qf146) := (hre_2 146 ).trans (hfh_14_146)
    have hfk_2_147 : z_2[147]? = some (.ref qf147) := (hre_2 147 ).trans (hfh_14_147)
    have hfk_2_149 : z_2[149]? = some (.int x149_14) := (hre_2 149 ).trans (hfh_14_149)
    have hfk_2_150 : z_2[150]? = some (.ref qf150) := (hre_2 150 ).trans (hfh_14_150)
    have hfk_2_151 : z_2[151]? = some (.ref qf151) := (hre_2 151 ).trans (hfh_14_151)
    have hfk_2_152 : z_2[152]? = some (.ref qf152) := (hre_2 152 ).trans (hfh_14_152)
    have hfk_2_153 : z_2[153]? = some (.ref qf153) := (hre_2 153 ).trans (hfh_14_153)
    have hfk_2_154 : z_2[154]? = some (.ref qf154) := (hre_2 154 ).trans (hfh_14_154)
    have hrq_2 : ∀ j : Nat, j ≠ 138 → j ≠ 139 → j ≠ 141 → j ≠ 142 → j ≠ 149 → z_2[j]? = zs[j]? := fun j g138 g139 g141 g142 g149 => (hre_2 j ).trans (hrh_14 j g138 g139 g141 g142 g149)
    obtain rfl := hwa_2
    refine lv_istore_n (lv' := [(3, .int u2_0), (2, .int s0_14), (0, .ref h0), (1, .int l1_14)]) hx hb dX13_element_19 rfl hl (by decide) rfl (fun ls hl => ?_)
    refine lv_aload_n hx hb dX13_element_20 rfl (lv_at hl 2 rfl) ?_
    obtain ⟨⟨u3_0, g903_1⟩, hu_3, hsp⟩ := ox_bind hsp
    try dsimp only at hsp
    have hPc := hP.sub (ws' := [(h0, .inr (13, z_2)), (qf153, .inl (cf153, 60, .inl g902_1)), (qf154, .inl (cf154, 3600, .inl g154_14))]) [12, 13, 14] rfl
    have hDc := hD.sub (ws' := [(h0, .inr (13, z_2)), (qf153, .inl (cf153, 60, .inl g902_1)), (qf154, .inl (cf154, 3600, .inl g154_14))]) [12, 13, 14] (by decide) rfl
    have hKc := hK.sub (tys' := [(cf153, .int), (cf154, .int)]) [12, 13] rfl
    have hFc := va_free (wc := [(h0, .inr (13, z_2)), (qf153, .inl (cf153, 60, .inl g902_1)), (qf154, .inl (cf154, 3600, .inl g154_14))]) hD hS hA [12, 13, 14] rfl
    refine va_calli (va_runV (As := []) (rest := []) ⟨hx, hb, hml, hown, hts⟩ (tm_drop l dC dI H.size h0 z_2 x149_14 qf153 qf154 cf153 g902_1 cf154 g154_14 nf u3_0 g903_1 hln_2 hfk_2_149 hfk_2_153 hfk_2_154 hu_3) (cwV 0 hts gv_h9_75 rfl rfl rfl (by decide +kernel) ⟨Nat.le_of_ble_eq_true rfl, Nat.le_of_ble_eq_true rfl⟩) ⟨fun a U g mk q => by obtain ⟨q0, q1, qP, qK, qD⟩ := q; exact ⟨q0, q1, qP, va_K.moved (u := U) (U := U.calling g mk a) (Vm.Alike.refl U.vm) qK, qD⟩, va_recv hKc hPc (ci := 13) (q0 := 0) rfl rfl, fun U hU hW => ⟨rfl, by rw [hU], by rw [hU]; exact hPc, va_K.moved hW.alike hKc, hDc.weaken (fun _ _ _ _ => trivial)⟩⟩ rfl rfl hl.1 rfl (lv_room (Nat.le_of_ble_eq_true rfl)) dX13_element_21 ⟨Nat.le_of_ble_eq_true rfl, Nat.le_of_ble_eq_true rfl⟩) hS (fun q _ h => hFc q h) hFc ?_
    clear hS
    intro r_4 u t H1 locs ht hvm hw hB hz1 hk1 hS
    obtain ⟨z_3, rfl⟩ : ∃ z, z = u := ⟨_, rfl⟩
    obtain ⟨hP1, hK1, hD1⟩ := hB
    rw [ht] at hP1
    have hK1 := va_K.moved hvm.symm hK1
    try dsimp only at hw
    have hPD := va_join (wr := [(qf144, .inl (cf144, 2001, .inl g144_14)), (qf145, .inl (cf145, 2001, .inl g145_14)), (qf146, .inl (cf146, 2001, .inl g146_14)), (qf147, .inl (cf147, 20000, .inl g147_14)), (qf150, .inl (cf150, 60, .inl f150)), (qf151, .inl (cf151, 60, .inl f151)), (qf110, .inl (cf110, 96, .inl f110)), (qf100, .inl (cf100, 48000, .inl f100)), (qf152, .inl (cf152, 60, .inl g152_14)), (qf102, .inl (cf102, 2048, .inl f102)), (qf104, .inl (cf104, 8, .inl f104)), (qf105, .inl (cf105, 8, .inl f105))]) (w1 := [(h0, .inr (13, z_3)), (qf153, .inl (cf153, 60, .inl g903_1)), (qf154, .inl (cf154, 3600, .inl g154_14))]) hP hD [12, 13, 14] [0, 1, 2, 3, 4, 5, 6, 7, 8, 9, 10, 11] rfl rfl (by decide) (by decide) hk1 hFc hP1 hD1
    clear hP hD
    obtain ⟨hP, hD⟩ := hPD
    replace hK := (hK.sub (tys' := [(cf144, .int), (cf145, .int), (cf146, .int), (cf147, .int), (cf150, .int), (cf151, .int), (cf110, .int), (cf100, .int), (cf152, .int), (cf102, .int), (cf104, .int), (cf105, .int)]) [0, 1, 2, 3, 4, 5, 6, 7, 8, 9, 10, 11] rfl).app hK1
    clear hPc hDc hKc hFc hP1 hK1 hD1 hz1 hk1 ht hvm
    generalize H1 = H at hP hS ⊢
    replace hP : va_P (dC, dI) vwCl [(qf144, .inl (cf144, 2001, .inl g144_14)), (qf145, .inl (cf145, 2001, .inl g145_14)), (qf146, .inl (cf146, 2001, .inl g146_14)), (qf147, .inl (cf147, 20000, .inl g147_14)), (qf150, .inl (cf150, 60, .inl f150)), (qf151, .inl (cf151, 60, .inl f151)), (qf110, .inl (cf110, 96, .inl f110)), (qf100, .inl (cf100, 48000, .inl f100)), (qf152, .inl (cf152, 60, .inl g152_14)), (qf102, .inl (cf102, 2048, .inl f102)), (qf104, .inl (cf104, 8, .inl f104)), (qf105, .inl (cf105, 8, .inl f105)), (h0, .inr (13, z_3)), (qf153, .inl (cf153, 60, .inl g903_1)), (qf154, .inl (cf154, 3600, .inl g154_14))] H := hP
    replace hD : va_D A [(qf144, .inl (cf144, 2001, .inl g144_14)), (qf145, .inl (cf145, 2001, .inl g145_14)), (qf146, .inl (cf146, 2001, .inl g146_14)), (qf147, .inl (cf147, 20000, .inl g147_14)), (qf150, .inl (cf150, 60, .inl f150)), (qf151, .inl (cf151, 60, .inl f151)), (qf110, .inl (cf110, 96, .inl f110)), (qf100, .inl (cf100, 48000, .inl f100)), (qf152, .inl (cf152, 60, .inl g152_14)), (qf102, .inl (cf102, 2048, .inl f102)), (qf104, .inl (cf104, 8, .inl f104)), (qf105, .inl (cf105, 8, .inl f105)), (h0, .inr (13, z_3)), (qf153, .inl (cf153, 60, .inl g903_1)), (qf154, .inl (cf154, 3600, .inl g154_14))] := hD
    replace hK : va_K (dC, dI) vwCl [(cf144, .int), (cf145, .int), (cf146, .int), (cf147, .int), (cf150, .int), (cf151, .int), (cf110, .int), (cf100, .int), (cf152, .int), (cf102, .int), (cf104, .int), (cf105, .int), (cf153, .int), (cf154, .int)] s := hK
    obtain ⟨hwa_3, hln_3, hre_3⟩ := hw
    have hfk_3_98 : z_3[98]? = some (.int v98) := (hre_3 98 ).trans (hfk_2_98)
    have hfk_3_100 : z_3[100]? = some (.ref qf100) := (hre_3 100 ).trans (hfk_2_100)
    have hfk_3_102 : z_3[102]? = some (.ref qf102) := (hre_3 102 ).trans (hfk_2_102)
    have hfk_3_104 : z_3[104]? = some (.ref qf104) := (hre_3 104 ).trans (hfk_2_104)
    have hfk_3_105 : z_3[105]? = some (.ref qf105) := (hre_3 105 ).trans (hfk_2_105)
    have hfk_3_110 : z_3[110]? = some (.ref qf110) := (hre_3 110 ).trans (hfk_2_110)
    have hfk_3_138 : z_3[138]? = some (.int x138_14) := (hre_3 138 ).trans (hfk_2_138)
    have hfk_3_139 : z_3[139]? = some (.int x139_14) := (hre_3 139 ).trans (hfk_2_139)
    have hfk_3_141 : z_3[141]? = some (.int x141_14) := (hre_3 141 ).trans (hfk_2_141)
    have hfk_3_142 : z_3[142]? = some (.int x142_14) := (hre_3 142 ).trans (hfk_2_142)
    have hfk_3_144 : z_3[144]? = some (.ref qf144) := (hre_3 144 ).trans (hfk_2_144)
    have hfk_3_145 : z_3[145]? = some (.ref qf145) := (hre_3 145 ).trans (hfk_2_145)
    have hfk_3_146 : z_3[146]? = some (.ref qf146) := (hre_3 146 ).trans (hfk_2_146)
    have hfk_3_147 : z_3[147]? = some (.ref qf147) := (hre_3 147 ).trans (hfk_2_147)
    have hfk_3_149 : z_3[149]? = some (.int x149_14) := (hre_3 149 ).trans (hfk_2_149)
    have hfk_3_150 : z_3[150]? = some (.ref qf150) := (hre_3 150 ).trans (hfk_2_150)
    have hfk_3_151 : z_3[151]? = some (.ref qf151) := (hre_3 151 ).trans (hfk_2_151)
    have hfk_3_152 : z_3[152]? = some (.ref qf152) := (hre_3 152 ).trans (hfk_2_152)
    have hfk_3_153 : z_3[153]? = some (.ref qf153) := (hre_3 153 ).trans (hfk_2_153)
    have hfk_3_154 : z_3[154]? = some (.ref qf154) := (hre_3 154 ).trans (hfk_2_154)
    have hrq_3 : ∀ j : Nat, j ≠ 138 → j ≠ 139 → j ≠ 141 → j ≠ 142 → j ≠ 149 → z_3[j]? = zs[j]? := fun j g138 g139 g141 g142 g149 => (hre_3 j ).trans (hrq_2 j g138 g139 g141 g142 g149)
    obtain rfl := hwa_3
    refine lv_istore (lv' := [(4, .int u3_0), (3, .int u2_0), (2, .int s0_14), (0, .ref h0), (1, .int l1_14)]) hx hb dX13_element_24 hl (by decide) rfl (fun ls hl => ?_)
    refine lv_iload hx hb dX13_element_26 (lv_at hl 0 rfl) ?_
    refine lv_if_ne (tgt := 39) hx hb dX13_element_28 (by decide) (fun c_5 => ?_) (fun c_5 => ?_)
    · rw [if_neg c_5] at hsp
      refine lv_iload_n hx hb dX13_element_39 rfl (lv_at hl 1 rfl) ?_
      refine lv_if_lt (tgt := 54) hx hb dX13_element_40 (by decide) (fun c_6 => ?_) (fun c_6 => ?_)
      · rw [if_pos c_6] at hsp
        refine lv_aload_n hx hb dX13_element_54 rfl (lv_at hl 3 rfl) ?_
        refine lv_iconst (v := 3) hx hb dX13_element_55 (by decide) ?_
        obtain ⟨⟨g904_0, g904_1, g904_2, g904_3, g904_4, g904_5, g904_6, u4_7, u4_8, u4_9, u4_10, u4_11⟩, hu_4, hsp⟩ := ox_bind hsp
        try dsimp only at hsp
        have hPc := hP.sub (ws' := [(h0, .inr (13, z_3)), (qf144, .inl (cf144, 2001, .inl g144_14)), (qf145, .inl (cf145, 2001, .inl g145_14)), (qf146, .inl (cf146, 2001, .inl g146_14)), (qf147, .inl (cf147, 20000, .inl g147_14)), (qf150, .inl (cf150, 60, .inl f150)), (qf151, .inl (cf151, 60, .inl f151)), (qf110, .inl (cf110, 96, .inl f110)), (qf100, .inl (cf100, 48000, .inl f100)), (qf152, .inl (cf152, 60, .inl g152_14)), (qf102, .inl (cf102, 2048, .inl f102)), (qf104, .inl (cf104, 8, .inl f104)), (qf105, .inl (cf105, 8, .inl f105)), (qf153, .inl (cf153, 60, .inl g903_1)), (qf154, .inl (cf154, 3600, .inl g154_14))]) [12, 0, 1, 2, 3, 4, 5, 6, 7, 8, 9, 10, 11, 13, 14] rfl
        have hDc := hD.sub (ws' := [(h0, .inr (13, z_3)), (qf144, .inl (cf144, 2001, .inl g144_14)), (qf145, .inl (cf145, 2001, .inl g145_14)), (qf146, .inl (cf146, 2001, .inl g146_14)), (qf147, .inl (cf147, 20000, .inl g147_14)), (qf150, .inl (cf150, 60, .inl f150)), (qf151, .inl (cf151, 60, .inl f151)), (qf110, .inl (cf110, 96, .inl f110)), (qf100, .inl (cf100, 48000, .inl f100)), (qf152, .inl (cf152, 60, .inl g152_14)), (qf102, .inl (cf102, 2048, .inl f102)), (qf104, .inl (cf104, 8, .inl f104)), (qf105, .inl (cf105, 8, .inl f105)), (qf153, .inl (cf153, 60, .inl g903_1)), (qf154, .inl (cf154, 3600, .inl g154_14))]) [12, 0, 1, 2, 3, 4, 5, 6, 7, 8, 9, 10, 11, 13, 14] (by decide) rfl
        have hKc := hK.sub (tys' := [(cf144, .int), (cf145, .int), (cf146, .int), (cf147, .int), (cf150, .int), (cf151, .int), (cf110, .int), (cf100, .int), (cf152, .int), (cf102, .int), (cf104, .int), (cf105, .int), (cf153, .int), (cf154, .int)]) [0, 1, 2, 3, 4, 5, 6, 7, 8, 9, 10, 11, 12, 13] rfl
        have hFc := va_free (wc := [(h0, .inr (13, z_3)), (qf144, .inl (cf144, 2001, .inl g144_14)), (qf145, .inl (cf145, 2001, .inl g145_14)), (qf146, .inl (cf146, 2001, .inl g146_14)), (qf147, .inl (cf147, 20000, .inl g147_14)), (qf150, .inl (cf150, 60, .inl f150)), (qf151, .inl (cf151, 60, .inl f151)), (qf110, .inl (cf110, 96, .inl f110)), (qf100, .inl (cf100, 48000, .inl f100)), (qf152, .inl (cf152, 60, .inl g152_14)), (qf102, .inl (cf102, 2048, .inl f102)), (qf104, .inl (cf104, 8, .inl f104)), (qf105, .inl (cf105, 8, .inl f105)), (qf153, .inl (cf153, 60, .inl g903_1)), (qf154, .inl (cf154, 3600, .inl g154_14))]) hD hS hA [12, 0, 1, 2, 3, 4, 5, 6, 7, 8, 9, 10, 11, 13, 14] rfl
        refine va_callv (va_runV (As := [.int 3]) (rest := []) ⟨hx, hb, hml, hown, hts⟩ (vm_fails l dC dI H.size h0 z_3 3 v98 qf100 qf102 qf104 qf105 qf110 x138_14 x139_14 x141_14 x142_14 qf144 qf145 qf146 qf147 x149_14 qf150 qf151 qf152 qf153 qf154 cf144 g144_14 cf145 g145_14 cf146 g146_14 cf147 g147_14 cf150 f150 cf151 f151 cf110 f110 cf100 f100 cf152 g152_14 cf102 f102 cf104 f104 cf105 f105 cf153 g903_1 cf154 g154_14 nS477 fS477 hS477 qS477 tS477 nf g904_0 g904_1 g904_2 g904_3 g904_4 g904_5 g904_6 u4_7 u4_8 u4_9 u4_10 u4_11 hln_3 hfk_3_98 hfk_3_100 hfk_3_102 hfk_3_104 hfk_3_105 hfk_3_110 hfk_3_138 hfk_3_139 hfk_3_141 hfk_3_142 hfk_3_144 hfk_3_145 hfk_3_146 hfk_3_147 hfk_3_149 hfk_3_150 hfk_3_151 hfk_3_152 hfk_3_153 hfk_3_154 hu_4) (cwV 1 hts gv_h9_125 rfl rfl rfl (by decide +kernel) ⟨Nat.le_of_ble_eq_true rfl, Nat.le_of_ble_eq_true rfl⟩) ⟨fun a U g mk q => by obtain ⟨q0, q1, qP, qK, qD, qhZWS477, qhZRS477⟩ := q; exact ⟨q0, q1, qP, va_K.moved (u := U) (U := U.calling g mk a) (Vm.Alike.refl U.vm) qK, qD, pz_W.moved (u := U) (U := U.calling g mk a) (Vm.Alike.refl U.vm) qhZWS477, vk_R.same rfl qhZRS477⟩, va_recv hKc hPc (ci := 13) (q0 := 0) rfl rfl, fun U hU hW => ⟨rfl, by rw [hU], by rw [hU]; exact hPc, va_K.moved hW.alike hKc, hDc.weaken (fun _ _ _ _ => trivial), by rw [hU]; exact ((pz_W.moved hW.alike hZWS477).kept hS.2.1).narrow hFc, vk_R.warm hW hZRS477⟩⟩ rfl rfl hl.1 rfl (lv_room (Nat.le_of_ble_eq_true rfl)) dX13_element_56 ⟨Nat.le_of_ble_eq_true rfl, Nat.le_of_ble_eq_true rfl⟩) hS (fun q _ h => hFc q h) hFc ?_
        clear hS
        intro u t H1 locs ht hvm hw hB hz1 hk1 hS
        obtain ⟨z_4, rfl⟩ : ∃ z, z = u := ⟨_, rfl⟩
        obtain ⟨hP1, hK1, hD1⟩ := hB
        rw [ht] at hP1
        have hK1 := va_K.moved hvm.symm hK1
        try dsimp only at hw
        have hPD := va_join (wr := []) (w1 := [(h0, .inr (13, z_4)), (qf144, .inl (cf144, 2001, .inl g904_0)), (qf145, .inl (cf145, 2001, .inl g904_1)), (qf146, .inl (cf146, 2001, .inl g904_2)), (qf147, .inl (cf147, 20000, .inl g904_3)), (qf150, .inl (cf150, 60, .inl f150)), (qf151, .inl (cf151, 60, .inl f151)), (qf110, .inl (cf110, 96, .inl f110)), (qf100, .inl (cf100, 48000, .inl f100)), (qf152, .inl (cf152, 60, .inl g904_4)), (qf102, .inl (cf102, 2048, .inl f102)), (qf104, .inl (cf104, 8, .inl f104)), (qf105, .inl (cf105, 8, .inl f105)), (qf153, .inl (cf153, 60, .inl g904_5)), (qf154, .inl (cf154, 3600, .inl g904_6))]) hP hD [12, 0, 1, 2, 3, 4, 5, 6, 7, 8, 9, 10, 11, 13, 14] [] rfl rfl (by decide) (by decide) hk1 hFc hP1 hD1
        clear hP hD
        obtain ⟨hP, hD⟩ := hPD
        replace hK := (hK.sub (tys' := []) [] rfl).app hK1
        clear hPc hDc hKc hFc hP1 hK1 hD1 hz1 hk1 ht hvm
        generalize H1 = H at hP hS ⊢
        replace hP : va_P (dC, dI) vwCl [(h0, .inr (13, z_4)), (qf144, .inl (cf144, 2001, .inl g904_0)), (qf145, .inl (cf145, 2001, .inl g904_1)), (qf146, .inl (cf146, 2001, .inl g904_2)), (qf147, .inl (cf147, 20000, .inl g904_3)), (qf150, .inl (cf150, 60, .inl f150)), (qf151, .inl (cf151, 60, .inl f151)), (qf110, .inl (cf110, 96, .inl f110)), (qf100, .inl (cf100, 48000, .inl f100)), (qf152, .inl (cf152, 60, .inl g904_4)), (qf102, .inl (cf102, 2048, .inl f102)), (qf104, .inl (cf104, 8, .inl f104)), (qf105, .inl (cf105, 8, .inl f105)), (qf153, .inl (cf153, 60, .inl g904_5)), (qf154, .inl (cf154, 3600, .inl g904_6))] H := hP
        replace hD : va_D A [(h0, .inr (13, z_4)), (qf144, .inl (cf144, 2001, .inl g904_0)), (qf145, .inl (cf145, 2001, .inl g904_1)), (qf146, .inl (cf146, 2001, .inl g904_2)), (qf147, .inl (cf147, 20000, .inl g904_3)), (qf150, .inl (cf150, 60, .inl f150)), (qf151, .inl (cf151, 60, .inl f151)), (qf110, .inl (cf110, 96, .inl f110)), (qf100, .inl (cf100, 48000, .inl f100)), (qf152, .inl (cf152, 60, .inl g904_4)), (qf102, .inl (cf102, 2048, .inl f102)), (qf104, .inl (cf104, 8, .inl f104)), (qf105, .inl (cf105, 8, .inl f105)), (qf153, .inl (cf153, 60, .inl g904_5)), (qf154, .inl (cf154, 3600, .inl g904_6))] := hD
        replace hK : va_K (dC, dI) vwCl [(cf144, .int), (cf145, .int), (cf146, .int), (cf147, .int), (cf150, .int), (cf151, .int), (cf110, .int), (cf100, .int), (cf152, .int), (cf102, .int), (cf104, .int), (cf105, .int), (cf153, .int), (cf154, .int)] s := hK
        obtain ⟨hwa_4, hln_4, hre_4, hch_4_138, hch_4_139, hch_4_141, hch_4_142, hch_4_149⟩ := hw
        have hfk_4_98 : z_4[98]? = some (.int v98) := (hre_4 98 (by decide) (by decide) (by decide) (by decide) (by decide)).trans (hfk_3_98)
        have hfk_4_100 : z_4[100]? = some (.ref qf100) := (hre_4 100 (by decide) (by decide) (by decide) (by decide) (by decide)).trans (hfk_3_100)
        have hfk_4_102 : z_4[102]? = some (.ref qf102) := (hre_4 102 (by decide) (by decide) (by decide) (by decide) (by decide)).trans (hfk_3_102)
        have hfk_4_104 : z_4[104]? = some (.ref qf104) := (hre_4 104 (by decide) (by decide) (by decide) (by decide) (by decide)).trans (hfk_3_104)
        have hfk_4_105 : z_4[105]? = some (.ref qf105) := (hre_4 105 (by decide) (by decide) (by decide) (by decide) (by decide)).trans (hfk_3_105)
        have hfk_4_110 : z_4[110]? = some (.ref qf110) := (hre_4 110 (by decide) (by decide) (by decide) (by decide) (by decide)).trans (hfk_3_110)
        have hfk_4_144 : z_4[144]? = some (.ref qf144) := (hre_4 144 (by decide) (by decide) (by decide) (by decide) (by decide)).trans (hfk_3_144)
        have hfk_4_145 : z_4[145]? = some (.ref qf145) := (hre_4 145 (by decide) (by decide) (by decide) (by decide) (by decide)).trans (hfk_3_145)
        have hfk_4_146 : z_4[146]? = some (.ref qf146) := (hre_4 146 (by decide) (by decide) (by decide) (by decide) (by decide)).trans (hfk_3_146)
        have hfk_4_147 : z_4[147]? = some (.ref qf147) := (hre_4 147 (by decide) (by decide) (by decide) (by decide) (by decide)).trans (hfk_3_147)
        have hfk_4_150 : z_4[150]? = some (.ref qf150) := (hre_4 150 (by decide) (by decide) (by decide) (by decide) (by decide)).trans (hfk_3_150)
        have hfk_4_151 : z_4[151]? = some (.ref qf151) := (hre_4 151 (by decide) (by decide) (by decide) (by decide) (by decide)).trans (hfk_3_151)
        have hfk_4_152 : z_4[152]? = some (.ref qf152) := (hre_4 152 (by decide) (by decide) (by decide) (by decide) (by decide)).trans (hfk_3_152)
        have hfk_4_153 : z_4[153]? = some (.ref qf153) := (hre_4 153 (by decide) (by decide) (by decide) (by decide) (by decide)).trans (hfk_3_153)
        have hfk_4_154 : z_4[154]? = some (.ref qf154) := (hre_4 154 (by decide) (by decide) (by decide) (by decide) (by decide)).trans (hfk_3_154)
        have hrq_4 : ∀ j : Nat, j ≠ 138 → j ≠ 139 → j ≠ 141 → j ≠ 142 → j ≠ 149 → z_4[j]? = zs[j]? := fun j g138 g139 g141 g142 g149 => (hre_4 j g138 g139 g141 g142 g149).trans (hrq_3 j g138 g139 g141 g142 g149)
        refine lv_goto (tgt := 146) hx hb dX13_element_59 (by decide) ?_
        have hr0 := Option.some.inj hsp
        clear hsp
        obtain ⟨hq0, hr1⟩ := Prod.mk.inj hr0
        clear hr0
        obtain ⟨hq1, hr2⟩ := Prod.mk.inj hr1
        clear hr1
        obtain ⟨hq2, hr3⟩ := Prod.mk.inj hr2
        clear hr2
        obtain ⟨hq3, hr4⟩ := Prod.mk.inj hr3
        clear hr3
        obtain ⟨hq4, hr5⟩ := Prod.mk.inj hr4
        clear hr4
        obtain ⟨hq5, hr6⟩ := Prod.mk.inj hr5
        clear hr5
        obtain ⟨hq6, hr7⟩ := Prod.mk.inj hr6
        clear hr6
        obtain ⟨hq7, hr8⟩ := Prod.mk.inj hr7
        clear hr7
        obtain ⟨hq8, hr9⟩ := Prod.mk.inj hr8
        clear hr8
        obtain ⟨hq9, hr10⟩ := Prod.mk.inj hr9
        clear hr9
        obtain ⟨hq10, hr11⟩ := Prod.mk.inj hr10
        clear hr10
        subst hq0
        subst hq1
        subst hq2
        subst hq3
        subst hq4
        subst hq5
        subst hq6
        subst hq7
        subst hq8
        subst hq9
        subst hq10
        subst hr11
        have hP9 := hP.sub (ws' := [(h0, .inr (13, z_4)), (qf153, .inl (cf153, 60, .inl g904_5)), (qf154, .inl (cf154, 3600, .inl g904_6)), (qf144, .inl (cf144, 2001, .inl g904_0)), (qf145, .inl (cf145, 2001, .inl g904_1)), (qf146, .inl (cf146, 2001, .inl g904_2)), (qf147, .inl (cf147, 20000, .inl g904_3)), (qf150, .inl (cf150, 60, .inl f150)), (qf151, .inl (cf151, 60, .inl f151)), (qf110, .inl (cf110, 96, .inl f110)), (qf100, .inl (cf100, 48000, .inl f100)), (qf152, .inl (cf152, 60, .inl g904_4)), (qf102, .inl (cf102, 2048, .inl f102)), (qf104, .inl (cf104, 8, .inl f104)), (qf105, .inl (cf105, 8, .inl f105))]) [0, 13, 14, 1, 2, 3, 4, 5, 6, 7, 8, 9, 10, 11, 12] rfl
        have hD9 := hD.sub (ws' := [(h0, .inr (13, z_4)), (qf153, .inl (cf153, 60, .inl g904_5)), (qf154, .inl (cf154, 3600, .inl g904_6)), (qf144, .inl (cf144, 2001, .inl g904_0)), (qf145, .inl (cf145, 2001, .inl g904_1)), (qf146, .inl (cf146, 2001, .inl g904_2)), (qf147, .inl (cf147, 20000, .inl g904_3)), (qf150, .inl (cf150, 60, .inl f150)), (qf151, .inl (cf151, 60, .inl f151)), (qf110, .inl (cf110, 96, .inl f110)), (qf100, .inl (cf100, 48000, .inl f100)), (qf152, .inl (cf152, 60, .inl g904_4)), (qf102, .inl (cf102, 2048, .inl f102)), (qf104, .inl (cf104, 8, .inl f104)), (qf105, .inl (cf105, 8, .inl f105))]) [0, 13, 14, 1, 2, 3, 4, 5, 6, 7, 8, 9, 10, 11, 12] (by decide) rfl
        have hK9 := hK.sub (tys' := [(cf153, .int), (cf154, .int), (cf144, .int), (cf145, .int), (cf146, .int), (cf147, .int), (cf150, .int), (cf151, .int), (cf110, .int), (cf100, .int), (cf152, .int), (cf102, .int), (cf104, .int), (cf105, .int)]) [12, 13, 0, 1, 2, 3, 4, 5, 6, 7, 8, 9, 10, 11] rfl
        exact W.vret hx hb hr (fun t ht hW => ⟨⟨(z_4), rfl, ⟨trivial, hln_4, hrq_4, hch_4_138, hch_4_139, hch_4_141, hch_4_142, hch_4_149⟩, by rw [ht]; exact hP9, va_K.moved hW.alike hK9, hD9⟩, hS.F ht⟩) hS.2.2 dX13_element_146
      · rw [if_neg c_6] at hsp
        refine lv_iload_n hx hb dX13_element_43 rfl (lv_at hl 1 rfl) ?_
        refine lv_aload_n hx hb dX13_element_44 rfl (lv_at hl 3 rfl) ?_
        refine va_get (D := (dC, dI)) (ci := 13) (v := .ref qf146) (C := RX13) (T := TX13) (N := 155) hx hb hts uV_h9_X13 hown hK hP 12 rfl rfl 146 (by decide) (hts (.fieldLink RX13 285 "ClassMillModel" "count" "[I") mw_h9_373) (fun _ h9 => h9) hfk_3_146 dX13_element_45 ?_
        refine lv_iload hx hb dX13_element_48 (lv_at hl 0 rfl) ?_
        obtain ⟨hi_7, hsp⟩ := ox_in hsp
        refine va_iald hx hb hK hP 2 2 rfl rfl (i := u3_0) hi_7 dX13_element_50 ?_
        refine lv_icmp_lt (tgt := 62) hx hb dX13_element_51 (by decide) (fun c_8 => ?_) (fun c_8 => ?_)
        · rw [if_pos c_8] at hsp
          refine lv_iload_n hx hb dX13_element_62 rfl (lv_at hl 4 rfl) ?_
          refine lv_bipush (v := 83) hx hb dX13_element_63 (by decide) ?_
          refine lv_icmp_ne (tgt := 99) hx hb dX13_element_65 (by decide) (fun c_9 => ?_) (fun c_9 => ?_)
          · rw [if_neg c_9] at hsp
            exact hj_99 (H, locs, ls, z_3, l1_14, s0_14, u2_0, u3_0, g144_14, g145_14, g146_14, g147_14, g152_14, g903_1, g154_14, x138_14, x139_14, x141_14, x142_14, x149_14) ⟨lv_sub hl [3, 4, 2, 1, 0] rfl, hS, hD.sub (ws' := [(h0, .inr (13, z_3)), (qf153, .inl (cf153, 60, .inl g903_1)), (qf154, .inl (cf154, 3600, .inl g154_14)), (qf144, .inl (cf144, 2001, .inl g144_14)), (qf145, .inl (cf145, 2001, .inl g145_14)), (qf146, .inl (cf146, 2001, .inl g146_14)), (qf147, .inl (cf147, 20000, .inl g147_14)), (qf150, .inl (cf150, 60, .inl f150)), (qf151, .inl (cf151, 60, .inl f151)), (qf110, .inl (cf110, 96, .inl f110)), (qf100, .inl (cf100, 48000, .inl f100)), (qf152, .inl (cf152, 60, .inl g152_14)), (qf102, .inl (cf102, 2048, .inl f102)), (qf104, .inl (cf104, 8, .inl f104)), (qf105, .inl (cf105, 8, .inl f105))]) [12, 13, 14, 0, 1, 2, 3, 4, 5, 6, 7, 8, 9, 10, 11] (by decide) rfl, hP.sub (ws' := [(h0, .inr (13, z_3)), (qf153, .inl (cf153, 60, .inl g903_1)), (qf154, .inl (cf154, 3600, .inl g154_14)), (qf144, .inl (cf144, 2001, .inl g144_14)), (qf145, .inl (cf145, 2001, .inl g145_14)), (qf146, .inl (cf146, 2001, .inl g146_14)), (qf147, .inl (cf147, 20000, .inl g147_14)), (qf150, .inl (cf150, 60, .inl f150)), (qf151, .inl (cf151, 60, .inl f151)), (qf110, .inl (cf110, 96, .inl f110)), (qf100, .inl (cf100, 48000, .inl f100)), (qf152, .inl (cf152, 60, .inl g152_14)), (qf102, .inl (cf102, 2048, .inl f102)), (qf104, .inl (cf104, 8, .inl f104)), (qf105, .inl (cf105, 8, .inl f105))]) [12, 13, 14, 0, 1, 2, 3, 4, 5, 6, 7, 8, 9, 10, 11] rfl, hfk_3_98, hfk_3_100, hfk_3_102, hfk_3_104, hfk_3_105, hfk_3_110, hfk_3_138, hfk_3_139, hfk_3_141, hfk_3_142, hfk_3_144, hfk_3_145, hfk_3_146, hfk_3_147, hfk_3_149, hfk_3_150, hfk_3_151, hfk_3_152, hfk_3_153, hfk_3_154, hln_3, hrq_3, hsp⟩
          · rw [if_pos c_9] at hsp
            refine lv_iload_n hx hb dX13_element_68 rfl (lv_at hl 2 rfl) ?_
            refine lv_if_eq (tgt := 99) hx hb dX13_element_69 (by decide) (fun c_10 => ?_) (fun c_10 => ?_)
            · rw [if_pos c_10] at hsp
              exact hj_99 (H, locs, ls, z_3, l1_14, s0_14, u2_0, u3_0, g144_14, g145_14, g146_14, g147_14, g152_14, g903_1, g154_14, x138_14, x139_14, x141_14, x142_14, x149_14) ⟨lv_sub hl [3, 4, 2, 1, 0] rfl, hS, hD.sub (ws' := [(h0, .inr (13, z_3)), (qf153, .inl (cf153, 60, .inl g903_1)), (qf154, .inl (cf154, 3600, .inl g154_14)), (qf144, .inl (cf144, 2001, .inl g144_14)), (qf145, .inl (cf145, 2001, .inl g145_14)), (qf146, .inl (cf146, 2001, .inl g146_14)), (qf147, .inl (cf147, 20000, .inl g147_14)), (qf150, .inl (cf150, 60, .inl f150)), (qf151, .inl (cf151, 60, .inl f151)), (qf110, .inl (cf110, 96, .inl f110)), (qf100, .inl (cf100, 48000, .inl f100)), (qf152, .inl (cf152, 60, .inl g152_14)), (qf102, .inl (cf102, 2048, .inl f102)), (qf104, .inl (cf104, 8, .inl f104)), (qf105, .inl (cf105, 8, .inl f105))]) [12, 13, 14, 0, 1, 2, 3, 4, 5, 6, 7, 8, 9, 10, 11] (by decide) rfl, hP.sub (ws' := [(h0, .inr (13, z_3)), (qf153, .inl (cf153, 60, .inl g903_1)), (qf154, .inl (cf154, 3600, .inl g154_14)), (qf144, .inl (cf144, 2001, .inl g144_14)), (qf145, .inl (cf145, 2001, .inl g145_14)), (qf146, .inl (cf146, 2001, .inl g146_14)), (qf147, .inl (cf147, 20000, .inl g147_14)), (qf150, .inl (cf150, 60, .inl f150)), (qf151, .inl (cf151, 60, .inl f151)), (qf110, .inl (cf110, 96, .inl f110)), (qf100, .inl (cf100, 48000, .inl f100)), (qf152, .inl (cf152, 60, .inl g152_14)), (qf102, .inl (cf102, 2048, .inl f102)), (qf104, .inl (cf104, 8, .inl f104)), (qf105, .inl (cf105, 8, .inl f105))]) [12, 13, 14, 0, 1, 2, 3, 4, 5, 6, 7, 8, 9, 10, 11] rfl, hfk_3_98, hfk_3_100, hfk_3_102, hfk_3_104, hfk_3_105, hfk_3_110, hfk_3_138, hfk_3_139, hfk_3_141, hfk_3_142, hfk_3_144, hfk_3_145, hfk_3_146, hfk_3_147, hfk_3_149, hfk_3_150, hfk_3_151, hfk_3_152, hfk_3_153, hfk_3_154, hln_3, hrq_3, hsp⟩
            · rw [if_neg c_10] at hsp
              refine lv_aload_n hx hb dX13_element_72 rfl (lv_at hl 3 rfl) ?_
              refine lv_iload_n hx hb dX13_element_73 rfl (lv_at hl 2 rfl) ?_
              refine lv_aload_n hx hb dX13_element_74 rfl (lv_at hl 3 rfl) ?_
              refine va_get (D := (dC, dI)) (ci := 13) (v := .ref qf144) (C := RX13) (T := TX13) (N := 155) hx hb hts uV_h9_X13 hown hK hP 12 rfl rfl 144 (by decide) (hts (.fieldLink RX13 279 "ClassMillModel" "sort" "[I") mw_h9_371) (fun _ h9 => h9) hfk_3_144 dX13_element_75 ?_
              refine lv_iload hx hb dX13_element_78 (lv_at hl 0 rfl) ?_
              obtain ⟨hi_11, hsp⟩ := ox_in hsp
              refine va_iald hx hb hK hP 0 0 rfl rfl (i := u3_0) hi_11 dX13_element_80 ?_
              refine lv_bipush (v := 100) hx hb dX13_element_81 (by decide) ?_
              refine lv_isub hx hb dX13_element_83 ?_
              obtain ⟨u5_0, hu_5, hsp⟩ := ox_bind hsp
              try dsimp only at hsp
              have hPc := hP.sub (ws' := [(h0, .inr (13, z_3)), (qf144, .inl (cf144, 2001, .inl g144_14)), (qf105, .inl (cf105, 8, .inl f105)), (qf102, .inl (cf102, 2048, .inl f102)), (qf100, .inl (cf100, 48000, .inl f100)), (qf104, .inl (cf104, 8, .inl f104))]) [12, 0, 11, 9, 7, 10] rfl
              have hDc := hD.sub (ws' := [(h0, .inr (13, z_3)), (qf144, .inl (cf144, 2001, .inl g144_14)), (qf105, .inl (cf105, 8, .inl f105)), (qf102, .inl (cf102, 2048, .inl f102)), (qf100, .inl (cf100, 48000, .inl f100)), (qf104, .inl (cf104, 8, .inl f104))]) [12, 0, 11, 9, 7, 10] (by decide) rfl
              have hKc := hK.sub (tys' := [(cf144, .int), (cf105, .int), (cf102, .int), (cf100, .int), (cf104, .int)]) [0, 11, 9, 7, 10] rfl
              have hFc := va_free (wc := [(h0, .inr (13, z_3)), (qf144, .inl (cf144, 2001, .inl g144_14)), (qf105, .inl (cf105, 8, .inl f105)), (qf102, .inl (cf102, 2048, .inl f102)), (qf100, .inl (cf100, 48000, .inl f100)), (qf104, .inl (cf104, 8, .inl f104))]) hD hS hA [12, 0, 11, 9, 7, 10] rfl
              refine va_calli (va_runV (As := [.int s0_14, .int ((g144_14 (u3_0 : Int32).toNatClampNeg) - 100)]) (rest := []) ⟨hx, hb, hml, hown, hts⟩ (vm_storesIn l dC dI H.size h0 z_3 s0_14 (((g144_14 (u3_0 : Int32).toNatClampNeg) - 100)) v98 qf100 qf102 qf104 qf105 qf144 cf144 g144_14 cf105 f105 cf102 f102 cf100 f100 cf104 f104 nS477 fS477 hS477 qS477 tS477 nf u5_0 hln_3 hfk_3_98 hfk_3_100 hfk_3_102 hfk_3_104 hfk_3_105 hfk_3_144 hu_5) (cwV 2 hts gv_h9_126 rfl rfl rfl (by decide +kernel) ⟨Nat.le_of_ble_eq_true rfl, Nat.le_of_ble_eq_true rfl⟩) ⟨fun a U g mk q => by obtain ⟨q0, q1, qP, qK, qD, qhZWS477, qhZRS477⟩ := q; exact ⟨q0, q1, qP, va_K.moved (u := U) (U := U.calling g mk a) (Vm.Alike.refl U.vm) qK, qD, pz_W.moved (u := U) (U := U.calling g mk a) (Vm.Alike.refl U.vm) qhZWS477, vk_R.same rfl qhZRS477⟩, va_recv hKc hPc (ci := 13) (q0 := 0) rfl rfl, fun U hU hW => ⟨rfl, by rw [hU], by rw [hU]; exact hPc, va_K.moved hW.alike hKc, hDc.weaken (fun _ _ _ _ => trivial), by rw [hU]; exact ((pz_W.moved hW.alike hZWS477).kept hS.2.1).narrow hFc, vk_R.warm hW hZRS477⟩⟩ rfl rfl hl.1 rfl (lv_room (Nat.le_of_ble_eq_true rfl)) dX13_element_84 ⟨Nat.le_of_ble_eq_true rfl, Nat.le_of_ble_eq_true rfl⟩) hS (fun q _ h => hFc q h) hFc ?_
              clear hS
              intro r_12 u t H1 locs ht hvm hw hB hz1 hk1 hS
              obtain ⟨z_5, rfl⟩ : ∃ z, z = u := ⟨_, rfl⟩
              obtain ⟨hP1, hK1, hD1⟩ := hB
              rw [ht] at hP1
              have hK1 := va_K.moved hvm.symm hK1
              try dsimp only at hw
              have hPD := va_join (wr := [(qf145, .inl (cf145, 2001, .inl g145_14)), (qf146, .inl (cf146, 2001, .inl g146_14)), (qf147, .inl (cf147, 20000, .inl g147_14)), (qf150, .inl (cf150, 60, .inl f150)), (qf151, .inl (cf151, 60, .inl f151)), (qf110, .inl (cf110, 96, .inl f110)), (qf152, .inl (cf152, 60, .inl g152_14)), (qf153, .inl (cf153, 60, .inl g903_1)), (qf154, .inl (cf154, 3600, .inl g154_14))]) (w1 := [(h0, .inr (13, z_5)), (qf144, .inl (cf144, 2001, .inl g144_14)), (qf105, .inl (cf105, 8, .inl f105)), (qf102, .inl (cf102, 2048, .inl f102)), (qf100, .inl (cf100, 48000, .inl f100)), (qf104, .inl (cf104, 8, .inl f104))]) hP hD [12, 0, 11, 9, 7, 10] [1, 2, 3, 4, 5, 6, 8, 13, 14] rfl rfl (by decide) (by decide) hk1 hFc hP1 hD1
              clear hP hD
              obtain ⟨hP, hD⟩ := hPD
              replace hK := (hK.sub (tys' := [(cf145, .int), (cf146, .int), (cf147, .int), (cf150, .int), (cf151, .int), (cf110, .int), (cf152, .int), (cf153, .int), (cf154, .int)]) [1, 2, 3, 4, 5, 6, 8, 12, 13] rfl).app hK1
              clear hPc hDc hKc hFc hP1 hK1 hD1 hz1 hk1 ht hvm
              generalize H1 = H at hP hS ⊢
              replace hP : va_P (dC, dI) vwCl [(qf145, .inl (cf145, 2001, .inl g145_14)), (qf146, .inl (cf146, 2001, .inl g146_14)), (qf147, .inl (cf147, 20000, .inl g147_14)), (qf150, .inl (cf150, 60, .inl f150)), (qf151, .inl (cf151, 60, .inl f151)), (qf110, .inl (cf110, 96, .inl f110)), (qf152, .inl (cf152, 60, .inl g152_14)), (qf153, .inl (cf153, 60, .inl g903_1)), (qf154, .inl (cf154, 3600, .inl g154_14)), (h0, .inr (13, z_5)), (qf144, .inl (cf144, 2001, .inl g144_14)), (qf105, .inl (cf105, 8, .inl f105)), (qf102, .inl (cf102, 2048, .inl f102)), (qf100, .inl (cf100, 48000, .inl f100)), (qf104, .inl (cf104, 8, .inl f104))] H := hP
              replace hD : va_D A [(qf145, .inl (cf145, 2001, .inl g145_14)), (qf146, .inl (cf146, 2001, .inl g146_14)), (qf147, .inl (cf147, 20000, .inl g147_14)), (qf150, .inl (cf150, 60, .inl f150)), (qf151, .inl (cf151, 60, .inl f151)), (qf110, .inl (cf110, 96, .inl f110)), (qf152, .inl (cf152, 60, .inl g152_14)), (qf153, .inl (cf153, 60, .inl g903_1)), (qf154, .inl (cf154, 3600, .inl g154_14)), (h0, .inr (13, z_5)), (qf144, .inl (cf144, 2001, .inl g144_14)), (qf105, .inl (cf105, 8, .inl f105)), (qf102, .inl (cf102, 2048, .inl f102)), (qf100, .inl (cf100, 48000, .inl f100)), (qf104, .inl (cf104, 8, .inl f104))] := hD
              replace hK : va_K (dC, dI) vwCl [(cf145, .int), (cf146, .int), (cf147, .int), (cf150, .int), (cf151, .int), (cf110, .int), (cf152, .int), (cf153, .int), (cf154, .int), (cf144, .int), (cf105, .int), (cf102, .int), (cf100, .int), (cf104, .int)] s := hK
              obtain ⟨hwa_5, hln_5, hre_5⟩ := hw
              have hfk_5_98 : z_5[98]? = some (.int v98) := (hre_5 98 ).trans (hfk_3_98)
              have hfk_5_100 : z_5[100]? = some (.ref qf100) := (hre_5 100 ).trans (hfk_3_100)
              have hfk_5_102 : z_5[102]? = some (.ref qf102) := (hre_5 102 ).trans (hfk_3_102)
              have hfk_5_104 : z_5[104]? = some (.ref qf104) := (hre_5 104 ).trans (hfk_3_104)
              have hfk_5_105 : z_5[105]? = some (.ref qf105) := (hre_5 105 ).trans (hfk_3_105)
              have hfk_5_110 : z_5[110]? = some (.ref qf110) := (hre_5 110 ).trans (hfk_3_110)
              have hfk_5_138 : z_5[138]? = some (.int x138_14) := (hre_5 138 ).trans (hfk_3_138)
              have hfk_5_139 : z_5[139]? = some (.int x139_14) := (hre_5 139 ).trans (hfk_3_139)
              have hfk_5_141 : z_5[141]? = some (.int x141_14) := (hre_5 141 ).trans (hfk_3_141)
              have hfk_5_142 : z_5[142]? = some (.int x142_14) := (hre_5 142 ).trans (hfk_3_142)
              have hfk_5_144 : z_5[144]? = some (.ref qf144) := (hre_5 144 ).trans (hfk_3_144)
              have hfk_5_145 : z_5[145]? = some (.ref qf145) := (hre_5 145 ).trans (hfk_3_145)
              have hfk_5_146 : z_5[146]? = some (.ref qf146) := (hre_5 146 ).trans (hfk_3_146)
              have hfk_5_147 : z_5[147]? = some (.ref qf147) := (hre_5 147 ).trans (hfk_3_147)
              have hfk_5_149 : z_5[149]? = some (.int x149_14) := (hre_5 149 ).trans (hfk_3_149)
              have hfk_5_150 : z_5[150]? = some (.ref qf150) := (hre_5 150 ).trans (hfk_3_150)
              have hfk_5_151 : z_5[151]? = some (.ref qf151) := (hre_5 151 ).trans (hfk_3_151)
              have hfk_5_152 : z_5[152]? = some (.ref qf152) := (hre_5 152 ).trans (hfk_3_152)
              have hfk_5_153 : z_5[153]? = some (.ref qf153) := (hre_5 153 ).trans (hfk_3_153)
              have hfk_5_154 : z_5[154]? = some (.ref qf154) := (hre_5 154 ).trans (hfk_3_154)
              have hrq_5 : ∀ j : Nat, j ≠ 138 → j ≠ 139 → j ≠ 141 → j ≠ 142 → j ≠ 149 → z_5[j]? = zs[j]? := fun j g138 g139 g141 g142 g149 => (hre_5 j ).trans (hrq_3 j g138 g139 g141 g142 g149)
              obtain ⟨rfl, hz_5⟩ := hwa_5
              rcases hz_5 with rfl | rfl
              · rw [if_pos rfl] at hsp
                refine lv_if_ne (tgt := 99) hx hb dX13_element_87 (by decide) (fun c_13 => (show False by revert c_13; decide).elim) (fun c_13 => ?_)
                refine lv_aload_n hx hb dX13_element_90 rfl (lv_at hl 3 rfl) ?_
                refine lv_bipush (v := 7) hx hb dX13_element_91 (by decide) ?_
                obtain ⟨⟨g906_0, g906_1, g906_2, g906_3, g906_4, g906_5, g906_6, u6_7, u6_8, u6_9, u6_10, u6_11⟩, hu_6, hsp⟩ := ox_bind hsp
                try dsimp only at hsp
                have hPc := hP.sub (ws' := [(h0, .inr (13, z_5)), (qf144, .inl (cf144, 2001, .inl g144_14)), (qf145, .inl (cf145, 2001, .inl g145_14)), (qf146, .inl (cf146, 2001, .inl g146_14)), (qf147, .inl (cf147, 20000, .inl g147_14)), (qf150, .inl (cf150, 60, .inl f150)), (qf151, .inl (cf151, 60, .inl f151)), (qf110, .inl (cf110, 96, .inl f110)), (qf100, .inl (cf100, 48000, .inl f100)), (qf152, .inl (cf152, 60, .inl g152_14)), (qf102, .inl (cf102, 2048, .inl f102)), (qf104, .inl (cf104, 8, .inl f104)), (qf105, .inl (cf105, 8, .inl f105)), (qf153, .inl (cf153, 60, .inl g903_1)), (qf154, .inl (cf154, 3600, .inl g154_14))]) [9, 10, 0, 1, 2, 3, 4, 5, 13, 6, 12, 14, 11, 7, 8] rfl
                have hDc := hD.sub (ws' := [(h0, .inr (13, z_5)), (qf144, .inl (cf144, 2001, .inl g144_14)), (qf145, .inl (cf145, 2001, .inl g145_14)), (qf146, .inl (cf146, 2001, .inl g146_14)), (qf147, .inl (cf147, 20000, .inl g147_14)), (qf150, .inl (cf150, 60, .inl f150)), (qf151, .inl (cf151, 60, .inl f151)), (qf110, .inl (cf110, 96, .inl f110)), (qf100, .inl (cf100, 48000, .inl f100)), (qf152, .inl (cf152, 60, .inl g152_14)), (qf102, .inl (cf102, 2048, .inl f102)), (qf104, .inl (cf104, 8, .inl f104)), (qf105, .inl (cf105, 8, .inl f105)), (qf153, .inl (cf153, 60, .inl g903_1)), (qf154, .inl (cf154, 3600, .inl g154_14))]) [9, 10, 0, 1, 2, 3, 4, 5, 13, 6, 12, 14, 11, 7, 8] (by decide) rfl
                have hKc := hK.sub (tys' := [(cf144, .int), (cf145, .int), (cf146, .int), (cf147, .int), (cf150, .int), (cf151, .int), (cf110, .int), (cf100, .int), (cf152, .int), (cf102, .int), (cf104, .int), (cf105, .int), (cf153, .int), (cf154, .int)]) [9, 0, 1, 2, 3, 4, 5, 12, 6, 11, 13, 10, 7, 8] rfl
                have hFc := va_free (wc := [(h0, .inr (13, z_5)), (qf144, .inl (cf144, 2001, .inl g144_14)), (qf145, .inl (cf145, 2001, .inl g145_14)), (qf146, .inl (cf146, 2001, .inl g146_14)), (qf147, .inl (cf147, 20000, .inl g147_14)), (qf150, .inl (cf150, 60, .inl f150)), (qf151, .inl (cf151, 60, .inl f151)), (qf110, .inl (cf110, 96, .inl f110)), (qf100, .inl (cf100, 48000, .inl f100)), (qf152, .inl (cf152, 60, .inl g152_14)), (qf102, .inl (cf102, 2048, .inl f102)), (qf104, .inl (cf104, 8, .inl f104)), (qf105, .inl (cf105, 8, .inl f105)), (qf153, .inl (cf153, 60, .inl g903_1)), (qf154, .inl (cf154, 3600, .inl g154_14))]) hD hS hA [9, 10, 0, 1, 2, 3, 4, 5, 13, 6, 12, 14, 11, 7, 8] rfl
                refine va_callv (va_runV (As := [.int 7]) (rest := []) ⟨hx, hb, hml, hown, hts⟩ (vm_fails l dC dI H.size h0 z_5 7 v98 qf100 qf102 qf104 qf105 qf110 x138_14 x139_14 x141_14 x142_14 qf144 qf145 qf146 qf147 x149_14 qf150 qf151 qf152 qf153 qf154 cf144 g144_14 cf145 g145_14 cf146 g146_14 cf147 g147_14 cf150 f150 cf151 f151 cf110 f110 cf100 f100 cf152 g152_14 cf102 f102 cf104 f104 cf105 f105 cf153 g903_1 cf154 g154_14 nS477 fS477 hS477 qS477 tS477 nf g906_0 g906_1 g906_2 g906_3 g906_4 g906_5 g906_6 u6_7 u6_8 u6_9 u6_10 u6_11 hln_5 hfk_5_98 hfk_5_100 hfk_5_102 hfk_5_104 hfk_5_105 hfk_5_110 hfk_5_138 hfk_5_139 hfk_5_141 hfk_5_142 hfk_5_144 hfk_5_145 hfk_5_146 hfk_5_147 hfk_5_149 hfk_5_150 hfk_5_151 hfk_5_152 hfk_5_153 hfk_5_154 hu_6) (cwV 1 hts gv_h9_125 rfl rfl rfl (by decide +kernel) ⟨Nat.le_of_ble_eq_true rfl, Nat.le_of_ble_eq_true rfl⟩) ⟨fun a U g mk q => by obtain ⟨q0, q1, qP, qK, qD, qhZWS477, qhZRS477⟩ := q; exact ⟨q0, q1, qP, va_K.moved (u := U) (U := U.calling g mk a) (Vm.Alike.refl U.vm) qK, qD, pz_W.moved (u := U) (U := U.calling g mk a) (Vm.Alike.refl U.vm) qhZWS477, vk_R.same rfl qhZRS477⟩, va_recv hKc hPc (ci := 13) (q0 := 0) rfl rfl, fun U hU hW => ⟨rfl, by rw [hU], by rw [hU]; exact hPc, va_K.moved hW.alike hKc, hDc.weaken (fun _ _ _ _ => trivial), by rw [hU]; exact ((pz_W.moved hW.alike hZWS477).kept hS.2.1).narrow hFc, vk_R.warm hW hZRS477⟩⟩ rfl rfl hl.1 rfl (lv_room (Nat.le_of_ble_eq_true rfl)) dX13_element_93 ⟨Nat.le_of_ble_eq_true rfl, Nat.le_of_ble_eq_true rfl⟩) hS (fun q _ h => hFc q h) hFc ?_
                clear hS
                intro u t H1 locs ht hvm hw hB hz1 hk1 hS
                obtain ⟨z_6, rfl⟩ : ∃ z, z = u := ⟨_, rfl⟩
                obtain ⟨hP1, hK1, hD1⟩ := hB
                rw [ht] at hP1
                have hK1 := va_K.moved hvm.symm hK1
                try dsimp only at hw
                have hPD := va_join (wr := []) (w1 := [(h0, .inr (13, z_6)), (qf144, .inl (cf144, 2001, .inl g906_0)), (qf145, .inl (cf145, 2001, .inl g906_1)), (qf146, .inl (cf146, 2001, .inl g906_2)), (qf147, .inl (cf147, 20000, .inl g906_3)), (qf150, .inl (cf150, 60, .inl f150)), (qf151, .inl (cf151, 60, .inl f151)), (qf110, .inl (cf110, 96, .inl f110)), (qf100, .inl (cf100, 48000, .inl f100)), (qf152, .inl (cf152, 60, .inl g906_4)), (qf102, .inl (cf102, 2048, .inl f102)), (qf104, .inl (cf104, 8, .inl f104)), (qf105, .inl (cf105, 8, .inl f105)), (qf153, .inl (cf153, 60, .inl g906_5)), (qf154, .inl (cf154, 3600, .inl g906_6))]) hP hD [9, 10, 0, 1, 2, 3, 4, 5, 13, 6, 12, 14, 11, 7, 8] [] rfl rfl (by decide) (by decide) hk1 hFc hP1 hD1
                clear hP hD
                obtain ⟨hP, hD⟩ := hPD
                replace hK := (hK.sub (tys' := []) [] rfl).app hK1
                clear hPc hDc hKc hFc hP1 hK1 hD1 hz1 hk1 ht hvm
                generalize H1 = H at hP hS ⊢
                replace hP : va_P (dC, dI) vwCl [(h0, .inr (13, z_6)), (qf144, .inl (cf144, 2001, .inl g906_0)), (qf145, .inl (cf145, 2001, .inl g906_1)), (qf146, .inl (cf146, 2001, .inl g906_2)), (qf147, .inl (cf147, 20000, .inl g906_3)), (qf150, .inl (cf150, 60, .inl f150)), (qf151, .inl (cf151, 60, .inl f151)), (qf110, .inl (cf110, 96, .inl f110)), (qf100, .inl (cf100, 48000, .inl f100)), (qf152, .inl (cf152, 60, .inl g906_4)), (qf102, .inl (cf102, 2048, .inl f102)), (qf104, .inl (cf104, 8, .inl f104)), (qf105, .inl (cf105, 8, .inl f105)), (qf153, .inl (cf153, 60, .inl g906_5)), (qf154, .inl (cf154, 3600, .inl g906_6))] H := hP
                replace hD : va_D A [(h0, .inr (13, z_6)), (qf144, .inl (cf144, 2001, .inl g906_0)), (qf145, .inl (cf145, 2001, .inl g906_1)), (qf146, .inl (cf146, 2001, .inl g906_2)), (qf147, .inl (cf147, 20000, .inl g906_3)), (qf150, .inl (cf150, 60, .inl f150)), (qf151, .inl (cf151, 60, .inl f151)), (qf110, .inl (cf110, 96, .inl f110)), (qf100, .inl (cf100, 48000, .inl f100)), (qf152, .inl (cf152, 60, .inl g906_4)), (qf102, .inl (cf102, 2048, .inl f102)), (qf104, .inl (cf104, 8, .inl f104)), (qf105, .inl (cf105, 8, .inl f105)), (qf153, .inl (cf153, 60, .inl g906_5)), (qf154, .inl (cf154, 3600, .inl g906_6))] := hD
                replace hK : va_K (dC, dI) vwCl [(cf144, .int), (cf145, .int), (cf146, .int), (cf147, .int), (cf150, .int), (cf151, .int), (cf110, .int), (cf100, .int), (cf152, .int), (cf102, .int), (cf104, .int), (cf105, .int), (cf153, .int), (cf154, .int)] s := hK
                obtain ⟨hwa_6, hln_6, hre_6, hch_6_138, hch_6_139, hch_6_141, hch_6_142, hch_6_149⟩ := hw
                have hfk_6_98 : z_6[98]? = some (.int v98) := (hre_6 98 (by decide) (by decide) (by decide) (by decide) (by decide)).trans (hfk_5_98)
                have hfk_6_100 : z_6[100]? = some (.ref qf100) := (hre_6 100 (by decide) (by decide) (by decide) (by decide) (by decide)).trans (hfk_5_100)
                have hfk_6_102 : z_6[102]? = some (.ref qf102) := (hre_6 102 (by decide) (by decide) (by decide) (by decide) (by decide)).trans (hfk_5_102)
                have hfk_6_104 : z_6[104]? = some (.ref qf104) := (hre_6 104 (by decide) (by decide) (by decide) (by decide) (by decide)).trans (hfk_5_104)
                have hfk_6_105 : z_6[105]? = some (.ref qf105) := (hre_6 105 (by decide) (by decide) (by decide) (by decide) (by decide)).trans (hfk_5_105)
                have hfk_6_110 : z_6[110]? = some (.ref qf110) := (hre_6 110 (by decide) (by decide) (by decide) (by decide) (by decide)).trans (hfk_5_110)
                have hfk_6_144 : z_6[144]? = some (.ref qf144) := (hre_6 144 (by decide) (by decide) (by decide) (by decide) (by decide)).trans (hfk_5_144)
                have hfk_6_145 : z_6[145]? = some (.ref qf145) := (hre_6 145 (by decide) (by decide) (by decide) (by decide) (by decide)).trans (hfk_5_145)
                have hfk_6_146 : z_6[146]? = some (.ref qf146) := (hre_6 146 (by decide) (by decide) (by decide) (by decide) (by decide)).trans (hfk_5_146)
                have hfk_6_147 : z_6[147]? = some (.ref qf147) := (hre_6 147 (by decide) (by decide) (by decide) (by decide) (by decide)).trans (hfk_5_147)
                have hfk_6_150 : z_6[150]? = some (.ref qf150) := (hre_6 150 (by decide) (by decide) (by decide) (by decide) (by decide)).trans (hfk_5_150)
                have hfk_6_151 : z_6[151]? = some (.ref qf151) := (hre_6 151 (by decide) (by decide) (by decide) (by decide) (by decide)).trans (hfk_5_151)
                have hfk_6_152 : z_6[152]? = some (.ref qf152) := (hre_6 152 (by decide) (by decide) (by decide) (by decide) (by decide)).trans (hfk_5_152)
                have hfk_6_153 : z_6[153]? = some (.ref qf153) := (hre_6 153 (by decide) (by decide) (by decide) (by decide) (by decide)).trans (hfk_5_153)
                have hfk_6_154 : z_6[154]? = some (.ref qf154) := (hre_6 154 (by decide) (by decide) (by decide) (by decide) (by decide)).trans (hfk_5_154)
                have hrq_6 : ∀ j : Nat, j ≠ 138 → j ≠ 139 → j ≠ 141 → j ≠ 142 → j ≠ 149 → z_6[j]? = zs[j]? := fun j g138 g139 g141 g142 g149 => (hre_6 j g138 g139 g141 g142 g149).trans (hrq_5 j g138 g139 g141 g142 g149)
                refine lv_goto (tgt := 146) hx hb dX13_element_96 (by decide) ?_
                have hr0 := Option.some.inj hsp
                clear hsp
                obtain ⟨hq0, hr1⟩ := Prod.mk.inj hr0
                clear hr0
                obtain ⟨hq1, hr2⟩ := Prod.mk.inj hr1
                clear hr1
                obtain ⟨hq2, hr3⟩ := Prod.mk.inj hr2
                clear hr2
                obtain ⟨hq3, hr4⟩ := Prod.mk.inj hr3
                clear hr3
                obtain ⟨hq4, hr5⟩ := Prod.mk.inj hr4
                clear hr4
                obtain ⟨hq5, hr6⟩ := Prod.mk.inj hr5
                clear hr5
                obtain ⟨hq6, hr7⟩ := Prod.mk.inj hr6
                clear hr6
                obtain ⟨hq7, hr8⟩ := Prod.mk.inj hr7
                clear hr7
                obtain ⟨hq8, hr9⟩ := Prod.mk.inj hr8
                clear hr8
                obtain ⟨hq9, hr10⟩ := Prod.mk.inj hr9
                clear hr9
                obtain ⟨hq10, hr11⟩ := Prod.mk.inj hr10
                clear hr10
                subst hq0
                subst hq1
                subst hq2
                subst hq3
                subst hq4
                subst hq5
                subst hq6
                subst hq7
                subst hq8
                subst hq9
                subst hq10
                subst hr11
                have hP9 := hP.sub (ws' := [(h0, .inr (13, z_6)), (qf153, .inl (cf153, 60, .inl g906_5)), (qf154, .inl (cf154, 3600, .inl g906_6)), (qf144, .inl (cf144, 2001, .inl g906_0)), (qf145, .inl (cf145, 2001, .inl g906_1)), (qf146, .inl (cf146, 2001, .inl g906_2)), (qf147, .inl (cf147, 20000, .inl g906_3)), (qf150, .inl (cf150, 60, .inl f150)), (qf151, .inl (cf151, 60, .inl f151)), (qf110, .inl (cf110, 96, .inl f110)), (qf100, .inl (cf100, 48000, .inl f100)), (qf152, .inl (cf152, 60, .inl g906_4)), (qf102, .inl (cf102, 2048, .inl f102)), (qf104, .inl (cf104, 8, .inl f104)), (qf105, .inl (cf105, 8, .inl f105))]) [0, 13, 14, 1, 2, 3, 4, 5, 6, 7, 8, 9, 10, 11, 12] rfl
                have hD9 := hD.sub (ws' := [(h0, .inr (13, z_6)), (qf153, .inl (cf153, 60, .inl g906_5)), (qf154, .inl (cf154, 3600, .inl g906_6)), (qf144, .inl (cf144, 2001, .inl g906_0)), (qf145, .inl (cf145, 2001, .inl g906_1)), (qf146, .inl (cf146, 2001, .inl g906_2)), (qf147, .inl (cf147, 20000, .inl g906_3)), (qf150, .inl (cf150, 60, .inl f150)), (qf151, .inl (cf151, 60, .inl f151)), (qf110, .inl (cf110, 96, .inl f110)), (qf100, .inl (cf100, 48000, .inl f100)), (qf152, .inl (cf152, 60, .inl g906_4)), (qf102, .inl (cf102, 2048, .inl f102)), (qf104, .inl (cf104, 8, .inl f104)), (qf105, .inl (cf105, 8, .inl f105))]) [0, 13, 14, 1, 2, 3, 4, 5, 6, 7, 8, 9, 10, 11, 12] (by decide) rfl
                have hK9 := hK.sub (tys' := [(cf153, .int), (cf154, .int), (cf144, .int), (cf145, .int), (cf146, .int), (cf147, .int), (cf150, .int), (cf151, .int), (cf110, .int), (cf100, .int), (cf152, .int), (cf102, .int), (cf104, .int), (cf105, .int)]) [12, 13, 0, 1, 2, 3, 4, 5, 6, 7, 8, 9, 10, 11] rfl
                exact W.vret hx hb hr (fun t ht hW => ⟨⟨(z_6), rfl, ⟨trivial, hln_6, hrq_6, hch_6_138, hch_6_139, hch_6_141, hch_6_142, hch_6_149⟩, by rw [ht]; exact hP9, va_K.moved hW.alike hK9, hD9⟩, hS.F ht⟩) hS.2.2 dX13_element_146
              · rw [if_neg (by decide)] at hsp
                refine lv_if_ne (tgt := 99) hx hb dX13_element_87 (by decide) (fun c_14 => ?_) (fun c_14 => (show False by revert c_14; decide).elim)
                exact hj_99 (H, locs, ls, z_5, l1_14, s0_14, u2_0, u3_0, g144_14, g145_14, g146_14, g147_14, g152_14, g903_1, g154_14, x138_14, x139_14, x141_14, x142_14, x149_14) ⟨lv_sub hl [3, 4, 2, 1, 0] rfl, hS, hD.sub (ws' := [(h0, .inr (13, z_5)), (qf153, .inl (cf153, 60, .inl g903_1)), (qf154, .inl (cf154, 3600, .inl g154_14)), (qf144, .inl (cf144, 2001, .inl g144_14)), (qf145, .inl (cf145, 2001, .inl g145_14)), (qf146, .inl (cf146, 2001, .inl g146_14)), (qf147, .inl (cf147, 20000, .inl g147_14)), (qf150, .inl (cf150, 60, .inl f150)), (qf151, .inl (cf151, 60, .inl f151)), (qf110, .inl (cf110, 96, .inl f110)), (qf100, .inl (cf100, 48000, .inl f100)), (qf152, .inl (cf152, 60, .inl g152_14)), (qf102, .inl (cf102, 2048, .inl f102)), (qf104, .inl (cf104, 8, .inl f104)), (qf105, .inl (cf105, 8, .inl f105))]) [9, 7, 8, 10, 0, 1, 2, 3, 4, 5, 13, 6, 12, 14, 11] (by decide) rfl, hP.sub (ws' := [(h0, .inr (13, z_5)), (qf153, .inl (cf153, 60, .inl g903_1)), (qf154, .inl (cf154, 3600, .inl g154_14)), (qf144, .inl (cf144, 2001, .inl g144_14)), (qf145, .inl (cf145, 2001, .inl g145_14)), (qf146, .inl (cf146, 2001, .inl g146_14)), (qf147, .inl (cf147, 20000, .inl g147_14)), (qf150, .inl (cf150, 60, .inl f150)), (qf151, .inl (cf151, 60, .inl f151)), (qf110, .inl (cf110, 96, .inl f110)), (qf100, .inl (cf100, 48000, .inl f100)), (qf152, .inl (cf152, 60, .inl g152_14)), (qf102, .inl (cf102, 2048, .inl f102)), (qf104, .inl (cf104, 8, .inl f104)), (qf105, .inl (cf105, 8, .inl f105))]) [9, 7, 8, 10, 0, 1, 2, 3, 4, 5, 13, 6, 12, 14, 11] rfl, hfk_5_98, hfk_5_100, hfk_5_102, hfk_5_104, hfk_5_105, hfk_5_110, hfk_5_138, hfk_5_139, hfk_5_141, hfk_5_142, hfk_5_144, hfk_5_145, hfk_5_146, hfk_5_147, hfk_5_149, hfk_5_150, hfk_5_151, hfk_5_152, hfk_5_153, hfk_5_154, hln_5, hrq_5, hsp⟩
        · rw [if_neg c_8] at hsp
          refine lv_aload_n hx hb dX13_element_54 rfl (lv_at hl 3 rfl) ?_
          refine lv_iconst (v := 3) hx hb dX13_element_55 (by decide) ?_
          obtain ⟨⟨g907_0, g907_1, g907_2, g907_3, g907_4, g907_5, g907_6, u7_7, u7_8, u7_9, u7_10, u7_11⟩, hu_7, hsp⟩ := ox_bind hsp
          try dsimp only at hsp
          have hPc := hP.sub (ws' := [(h0, .inr (13, z_3)), (qf144, .inl (cf144, 2001, .inl g144_14)), (qf145, .inl (cf145, 2001, .inl g145_14)), (qf146, .inl (cf146, 2001, .inl g146_14)), (qf147, .inl (cf147, 20000, .inl g147_14)), (qf150, .inl (cf150, 60, .inl f150)), (qf151, .inl (cf151, 60, .inl f151)), (qf110, .inl (cf110, 96, .inl f110)), (qf100, .inl (cf100, 48000, .inl f100)), (qf152, .inl (cf152, 60, .inl g152_14)), (qf102, .inl (cf102, 2048, .inl f102)), (qf104, .inl (cf104, 8, .inl f104)), (qf105, .inl (cf105, 8, .inl f105)), (qf153, .inl (cf153, 60, .inl g903_1)), (qf154, .inl (cf154, 3600, .inl g154_14))]) [12, 0, 1, 2, 3, 4, 5, 6, 7, 8, 9, 10, 11, 13, 14] rfl
          have hDc := hD.sub (ws' := [(h0, .inr (13, z_3)), (qf144, .inl (cf144, 2001, .inl g144_14)), (qf145, .inl (cf145, 2001, .inl g145_14)), (qf146, .inl (cf146, 2001, .inl g146_14)), (qf147, .inl (cf147, 20000, .inl g147_14)), (qf150, .inl (cf150, 60, .inl f150)), (qf151, .inl (cf151, 60, .inl f151)), (qf110, .inl (cf110, 96, .inl f110)), (qf100, .inl (cf100, 48000, .inl f100)), (qf152, .inl (cf152, 60, .inl g152_14)), (qf102, .inl (cf102, 2048, .inl f102)), (qf104, .inl (cf104, 8, .inl f104)), (qf105, .inl (cf105, 8, .inl f105)), (qf153, .inl (cf153, 60, .inl g903_1)), (qf154, .inl (cf154, 3600, .inl g154_14))]) [12, 0, 1, 2, 3, 4, 5, 6, 7, 8, 9, 10, 11, 13, 14] (by decide) rfl
          have hKc := hK.sub (tys' := [(cf144, .int), (cf145, .int), (cf146, .int), (cf147, .int), (cf150, .int), (cf151, .int), (cf110, .int), (cf100, .int), (cf152, .int), (cf102, .int), (cf104, .int), (cf105, .int), (cf153, .int), (cf154, .int)]) [0, 1, 2, 3, 4, 5, 6, 7, 8, 9, 10, 11, 12, 13] rfl
          have hFc := va_free (wc := [(h0, .inr (13, z_3)), (qf144, .inl (cf144, 2001, .inl g144_14)), (qf145, .inl (cf145, 2001, .inl g145_14)), (qf146, .inl (cf146, 2001, .inl g146_14)), (qf147, .inl (cf147, 20000, .inl g147_14)), (qf150, .inl (cf150, 60, .inl f150)), (qf151, .inl (cf151, 60, .inl f151)), (qf110, .inl (cf110, 96, .inl f110)), (qf100, .inl (cf100, 48000, .inl f100)), (qf152, .inl (cf152, 60, .inl g152_14)), (qf102, .inl (cf102, 2048, .inl f102)), (qf104, .inl (cf104, 8, .inl f104)), (qf105, .inl (cf105, 8, .inl f105)), (qf153, .inl (cf153, 60, .inl g903_1)), (qf154, .inl (cf154, 3600, .inl g154_14))]) hD hS hA [12, 0, 1, 2, 3, 4, 5, 6, 7, 8, 9, 10, 11, 13, 14] rfl
          refine va_callv (va_runV (As := [.int 3]) (rest := []) ⟨hx, hb, hml, hown, hts⟩ (vm_fails l dC dI H.size h0 z_3 3 v98 qf100 qf102 qf104 qf105 qf110 x138_14 x139_14 x141_14 x142_14 qf144 qf145 qf146 qf147 x149_14 qf150 qf151 qf152 qf153 qf154 cf144 g144_14 cf145 g145_14 cf146 g146_14 cf147 g147_14 cf150 f150 cf151 f151 cf110 f110 cf100 f100 cf152 g152_14 cf102 f102 cf104 f104 cf105 f105 cf153 g903_1 cf154 g154_14 nS477 fS477 hS477 qS477 tS477 nf g907_0 g907_1 g907_2 g907_3 g907_4 g907_5 g907_6 u7_7 u7_8 u7_9 u7_10 u7_11 hln_3 hfk_3_98 hfk_3_100 hfk_3_102 hfk_3_104 hfk_3_105 hfk_3_110 hfk_3_138 hfk_3_139 hfk_3_141 hfk_3_142 hfk_3_144 hfk_3_145 hfk_3_146 hfk_3_147 hfk_3_149 hfk_3_150 hfk_3_151 hfk_3_152 hfk_3_153 hfk_3_154 hu_7) (cwV 1 hts gv_h9_125 rfl rfl rfl (by decide +kernel) ⟨Nat.le_of_ble_eq_true rfl, Nat.le_of_ble_eq_true rfl⟩) ⟨fun a U g mk q => by obtain ⟨q0, q1, qP, qK, qD, qhZWS477, qhZRS477⟩ := q; exact ⟨q0, q1, qP, va_K.moved (u := U) (U := U.calling g mk a) (Vm.Alike.refl U.vm) qK, qD, pz_W.moved (u := U) (U := U.calling g mk a) (Vm.Alike.refl U.vm) qhZWS477, vk_R.same rfl qhZRS477⟩, va_recv hKc hPc (ci := 13) (q0 := 0) rfl rfl, fun U hU hW => ⟨rfl, by rw [hU], by rw [hU]; exact hPc, va_K.moved hW.alike hKc, hDc.weaken (fun _ _ _ _ => trivial), by rw [hU]; exact ((pz_W.moved hW.alike hZWS477).kept hS.2.1).narrow hFc, vk_R.warm hW hZRS477⟩⟩ rfl rfl hl.1 rfl (lv_room (Nat.le_of_ble_eq_true rfl)) dX13_element_56 ⟨Nat.le_of_ble_eq_true rfl, Nat.le_of_ble_eq_true rfl⟩) hS (fun q _ h => hFc q h) hFc ?_
          clear hS
          intro u t H1 locs ht hvm hw hB hz1 hk1 hS
          obtain ⟨z_7, rfl⟩ : ∃ z, z = u := ⟨_, rfl⟩
          obtain ⟨hP1, hK1, hD1⟩ := hB
          rw [ht] at hP1
          have hK1 := va_K.moved hvm.symm hK1
          try dsimp only at hw
          have hPD := va_join (wr := []) (w1 := [(h0, .inr (13, z_7)), (qf144, .inl (cf144, 2001, .inl g907_0)), (qf145, .inl (cf145, 2001, .inl g907_1)), (qf146, .inl (cf146, 2001, .inl g907_2)), (qf147, .inl (cf147, 20000, .inl g907_3)), (qf150, .inl (cf150, 60, .inl f150)), (qf151, .inl (cf151, 60, .inl f151)), (qf110, .inl (cf110, 96, .inl f110)), (qf100, .inl (cf100, 48000, .inl f100)), (qf152, .inl (cf152, 60, .inl g907_4)), (qf102, .inl (cf102, 2048, .inl f102)), (qf104, .inl (cf104, 8, .inl f104)), (qf105, .inl (cf105, 8, .inl f105)), (qf153, .inl (cf153, 60, .inl g907_5)), (qf154, .inl (cf154, 3600, .inl g907_6))]) hP hD [12, 0, 1, 2, 3, 4, 5, 6, 7, 8, 9, 10, 11, 13, 14] [] rfl rfl (by decide) (by decide) hk1 hFc hP1 hD1
          clear hP hD
          obtain ⟨hP, hD⟩ := hPD
          replace hK := (hK.sub (tys' := []) [] rfl).app hK1
          clear hPc hDc hKc hFc hP1 hK1 hD1 hz1 hk1 ht hvm
          generalize H1 = H at hP hS ⊢
          replace hP : va_P (dC, dI) vwCl [(h0, .inr (13, z_7)), (qf144, .inl (cf144, 2001, .inl g907_0)), (qf145, .inl (cf145, 2001, .inl g907_1)), (qf146, .inl (cf146, 2001, .inl g907_2)), (qf147, .inl (cf147, 20000, .inl g907_3)), (qf150, .inl (cf150, 60, .inl f150)), (qf151, .inl (cf151, 60, .inl f151)), (qf110, .inl (cf110, 96, .inl f110)), (qf100, .inl (cf100, 48000, .inl f100)), (qf152, .inl (cf152, 60, .inl g907_4)), (qf102, .inl (cf102, 2048, .inl f102)), (qf104, .inl (cf104, 8, .inl f104)), (qf105, .inl (cf105, 8, .inl f105)), (qf153, .inl (cf153, 60, .inl g907_5)), (qf154, .inl (cf154, 3600, .inl g907_6))] H := hP
          replace hD : va_D A [(h0, .inr (13, z_7)), (qf144, .inl (cf144, 2001, .inl g907_0)), (qf145, .inl (cf145, 2001, .inl g907_1)), (qf146, .inl (cf146, 2001, .inl g907_2)), (qf147, .inl (cf147, 20000, .inl g907_3)), (qf150, .inl (cf150, 60, .inl f150)), (qf151, .inl (cf151, 60, .inl f151)), (qf110, .inl (cf110, 96, .inl f110)), (qf100, .inl (cf100, 48000, .inl f100)), (qf152, .inl (cf152, 60, .inl g907_4)), (qf102, .inl (cf102, 2048, .inl f102)), (qf104, .inl (cf104, 8, .inl f104)), (qf105, .inl (cf105, 8, .inl f105)), (qf153, .inl (cf153, 60, .inl g907_5)), (qf154, .inl (cf154, 3600, .inl g907_6))] := hD
          replace hK : va_K (dC, dI) vwCl [(cf144, .int), (cf145, .int), (cf146, .int), (cf147, .int), (cf150, .int), (cf151, .int), (cf110, .int), (cf100, .int), (cf152, .int), (cf102, .int), (cf104, .int), (cf105, .int), (cf153, .int), (cf154, .int)] s := hK
          obtain ⟨hwa_7, hln_7, hre_7, hch_7_138, hch_7_139, hch_7_141, hch_7_142, hch_7_149⟩ := hw
          have hfk_7_98 : z_7[98]? = some (.int v98) := (hre_7 98 (by decide) (by decide) (by decide) (by decide) (by decide)).trans (hfk_3_98)
          have hfk_7_100 : z_7[100]? = some (.ref qf100) := (hre_7 100 (by decide) (by decide) (by decide) (by decide) (by decide)).trans (hfk_3_100)
          have hfk_7_102 : z_7[102]? = some (.ref qf102) := (hre_7 102 (by decide) (by decide) (by decide) (by decide) (by decide)).trans (hfk_3_102)
          have hfk_7_104 : z_7[104]? = some (.ref qf104) := (hre_7 104 (by decide) (by decide) (by decide) (by decide) (by decide)).trans (hfk_3_104)
          have hfk_7_105 : z_7[105]? = some (.ref qf105) := (hre_7 105 (by decide) (by decide) (by decide) (by decide) (by decide)).trans (hfk_3_105)
          have hfk_7_110 : z_7[110]? = some (.ref qf110) := (hre_7 110 (by decide) (by decide) (by decide) (by decide) (by decide)).trans (hfk_3_110)
          have hfk_7_144 : z_7[144]? = some (.ref qf144) := (hre_7 144 (by decide) (by decide) (by decide) (by decide) (by decide)).trans (hfk_3_144)
          have hfk_7_145 : z_7[145]? = some (.ref qf145) := (hre_7 145 (by decide) (by decide) (by decide) (by decide) (by decide)).trans (hfk_3_145)
          have hfk_7_146 : z_7[146]? = some (.ref qf146) := (hre_7 146 (by decide) (by decide) (by decide) (by decide) (by decide)).trans (hfk_3_146)
          have hfk_7_147 : z_7[147]? = some (.ref qf147) := (hre_7 147 (by decide) (by decide) (by decide) (by decide) (by decide)).trans (hfk_3_147)
          have hfk_7_150 : z_7[150]? = some (.ref qf150) := (hre_7 150 (by decide) (by decide) (by decide) (by decide) (by decide)).trans (hfk_3_150)
          have hfk_7_151 : z_7[151]? = some (.ref qf151) := (hre_7 151 (by decide) (by decide) (by decide) (by decide) (by decide)).trans (hfk_3_151)
          have hfk_7_152 : z_7[152]? = some (.ref qf152) := (hre_7 152 (by decide) (by decide) (by decide) (by decide) (by decide)).trans (hfk_3_152)
          have hfk_7_153 : z_7[153]? = some (.ref qf153) := (hre_7 153 (by decide) (by decide) (by decide) (by decide) (by decide)).trans (hfk_3_153)
          have hfk_7_154 : z_7[154]? = some (.ref qf154) := (hre_7 154 (by decide) (by decide) (by decide) (by decide) (by decide)).trans (hfk_3_154)
          have hrq_7 : ∀ j : Nat, j ≠ 138 → j ≠ 139 → j ≠ 141 → j ≠ 142 → j ≠ 149 → z_7[j]? = zs[j]? := fun j g138 g139 g141 g142 g149 => (hre_7 j g138 g139 g141 g142 g149).trans (hrq_3 j g138 g139 g141 g142 g149)
          refine lv_goto (tgt := 146) hx hb dX13_element_59 (by decide) ?_
          have hr0 := Option.some.inj hsp
          clear hsp
          obtain ⟨hq0, hr1⟩ := Prod.mk.inj hr0
          clear hr0
          obtain ⟨hq1, hr2⟩ := Prod.mk.inj hr1
          clear hr1
          obtain ⟨hq2, hr3⟩ := Prod.mk.inj hr2
          clear hr2
          obtain ⟨hq3, hr4⟩ := Prod.mk.inj hr3
          clear hr3
          obtain ⟨hq4, hr5⟩ := Prod.mk.inj hr4
          clear hr4
          obtain ⟨hq5, hr6⟩ := Prod.mk.inj hr5
          clear hr5
          obtain ⟨hq6, hr7⟩ := Prod.mk.inj hr6
          clear hr6
          obtain ⟨hq7, hr8⟩ := Prod.mk.inj hr7
          clear hr7
          obtain ⟨hq8, hr9⟩ := Prod.mk.inj hr8
          clear hr8
          obtain ⟨hq9, hr10⟩ := Prod.mk.inj hr9
          clear hr9
          obtain ⟨hq10, hr11⟩ := Prod.mk.inj hr10
          clear hr10
          subst hq0
          subst hq1
          subst hq2
          subst hq3
          subst hq4
          subst hq5
          subst hq6
          subst hq7
          subst hq8
          subst hq9
          subst hq10
          subst hr11
          have hP9 := hP.sub (ws' := [(h0, .inr (13, z_7)), (qf153, .inl (cf153, 60, .inl g907_5)), (qf154, .inl (cf154, 3600, .inl g907_6)), (qf144, .inl (cf144, 2001, .inl g907_0)), (qf145, .inl (cf145, 2001, .inl g907_1)), (qf146, .inl (cf146, 2001, .inl g907_2)), (qf147, .inl (cf147, 20000, .inl g907_3)), (qf150, .inl (cf150, 60, .inl f150)), (qf151, .inl (cf151, 60, .inl f151)), (qf110, .inl (cf110, 96, .inl f110)), (qf100, .inl (cf100, 48000, .inl f100)), (qf152, .inl (cf152, 60, .inl g907_4)), (qf102, .inl (cf102, 2048, .inl f102)), (qf104, .inl (cf104, 8, .inl f104)), (qf105, .inl (cf105, 8, .inl f105))]) [0, 13, 14, 1, 2, 3, 4, 5, 6, 7, 8, 9, 10, 11, 12] rfl
          have hD9 := hD.sub (ws' := [(h0, .inr (13, z_7)), (qf153, .inl (cf153, 60, .inl g907_5)), (qf154, .inl (cf154, 3600, .inl g907_6)), (qf144, .inl (cf144, 2001, .inl g907_0)), (qf145, .inl (cf145, 2001, .inl g907_1)), (qf146, .inl (cf146, 2001, .inl g907_2)), (qf147, .inl (cf147, 20000, .inl g907_3)), (qf150, .inl (cf150, 60, .inl f150)), (qf151, .inl (cf151, 60, .inl f151)), (qf110, .inl (cf110, 96, .inl f110)), (qf100, .inl (cf100, 48000, .inl f100)), (qf152, .inl (cf152, 60, .inl g907_4)), (qf102, .inl (cf102, 2048, .inl f102)), (qf104, .inl (cf104, 8, .inl f104)), (qf105, .inl (cf105, 8, .inl f105))]) [0, 13, 14, 1, 2, 3, 4, 5, 6, 7, 8, 9, 10, 11, 12] (by decide) rfl
          have hK9 := hK.sub (tys' := [(cf153, .int), (cf154, .int), (cf144, .int), (cf145, .int), (cf146, .int), (cf147, .int), (cf150, .int), (cf151, .int), (cf110, .int), (cf100, .int), (cf152, .int), (cf102, .int), (cf104, .int), (cf105, .int)]) [12, 13, 0, 1, 2, 3, 4, 5, 6, 7, 8, 9, 10, 11] rfl
          exact W.vret hx hb hr (fun t ht hW => ⟨⟨(z_7), rfl, ⟨trivial, hln_7, hrq_7, hch_7_138, hch_7_139, hch_7_141, hch_7_142, hch_7_149⟩, by rw [ht]; exact hP9, va_K.moved hW.alike hK9, hD9⟩, hS.F ht⟩) hS.2.2 dX13_element_146
    · rw [if_pos c_5] at hsp
      refine lv_aload_n hx hb dX13_element_31 rfl (lv_at hl 3 rfl) ?_
      refine lv_iconst (v := 2) hx hb dX13_element_32 (by decide) ?_
      obtain ⟨⟨g908_0, g908_1, g908_2, g908_3, g908_4, g908_5, g908_6, u8_7, u8_8, u8_9, u8_10, u8_11⟩, hu_8, hsp⟩ := ox_bind hsp
      try dsimp only at hsp
      have hPc := hP.sub (ws' := [(h0, .inr (13, z_3)), (qf144, .inl (cf144, 2001, .inl g144_14)), (qf145, .inl (cf145, 2001, .inl g145_14)), (qf146, .inl (cf146, 2001, .inl g146_14)), (qf147, .inl (cf147, 20000, .inl g147_14)), (qf150, .inl (cf150, 60, .inl f150)), (qf151, .inl (cf151, 60, .inl f151)), (qf110, .inl (cf110, 96, .inl f110)), (qf100, .inl (cf100, 48000, .inl f100)), (qf152, .inl (cf152, 60, .inl g152_14)), (qf102, .inl (cf102, 2048, .inl f102)), (qf104, .inl (cf104, 8, .inl f104)), (qf105, .inl (cf105, 8, .inl f105)), (qf153, .inl (cf153, 60, .inl g903_1)), (qf154, .inl (cf154, 3600, .inl g154_14))]) [12, 0, 1, 2, 3, 4, 5, 6, 7, 8, 9, 10, 11, 13, 14] rfl
      have hDc := hD.sub (ws' := [(h0, .inr (13, z_3)), (qf144, .inl (cf144, 2001, .inl g144_14)), (qf145, .inl (cf145, 2001, .inl g145_14)), (qf146, .inl (cf146, 2001, .inl g146_14)), (qf147, .inl (cf147, 20000, .inl g147_14)), (qf150, .inl (cf150, 60, .inl f150)), (qf151, .inl (cf151, 60, .inl f151)), (qf110, .inl (cf110, 96, .inl f110)), (qf100, .inl (cf100, 48000, .inl f100)), (qf152, .inl (cf152, 60, .inl g152_14)), (qf102, .inl (cf102, 2048, .inl f102)), (qf104, .inl (cf104, 8, .inl f104)), (qf105, .inl (cf105, 8, .inl f105)), (qf153, .inl (cf153, 60, .inl g903_1)), (qf154, .inl (cf154, 3600, .inl g154_14))]) [12, 0, 1, 2, 3, 4, 5, 6, 7, 8, 9, 10, 11, 13, 14] (by decide) rfl
      have hKc := hK.sub (tys' := [(cf144, .int), (cf145, .int), (cf146, .int), (cf147, .int), (cf150, .int), (cf151, .int), (cf110, .int), (cf100, .int), (cf152, .int), (cf102, .int), (cf104, .int), (cf105, .int), (cf153, .int), (cf154, .int)]) [0, 1, 2, 3, 4, 5, 6, 7, 8, 9, 10, 11, 12, 13] rfl
      have hFc := va_free (wc := [(h0, .inr (13, z_3)), (qf144, .inl (cf144, 2001, .inl g144_14)), (qf145, .inl (cf145, 2001, .inl g145_14)), (qf146, .inl (cf146, 2001, .inl g146_14)), (qf147, .inl (cf147, 20000, .inl g147_14)), (qf150, .inl (cf150, 60, .inl f150)), (qf151, .inl (cf151, 60, .inl f151)), (qf110, .inl (cf110, 96, .inl f110)), (qf100, .inl (cf100, 48000, .inl f100)), (qf152, .inl (cf152, 60, .inl g152_14)), (qf102, .inl (cf102, 2048, .inl f102)), (qf104, .inl (cf104, 8, .inl f104)), (qf105, .inl (cf105, 8, .inl f105)), (qf153, .inl (cf153, 60, .inl g903_1)), (qf154, .inl (cf154, 3600, .inl g154_14))]) hD hS hA [12, 0, 1, 2, 3, 4, 5, 6, 7, 8, 9, 10, 11, 13, 14] rfl
      refine va_callv (va_runV (As := [.int 2]) (rest := []) ⟨hx, hb, hml, hown, hts⟩ (vm_fails l dC dI H.size h0 z_3 2 v98 qf100 qf102 qf104 qf105 qf110 x138_14 x139_14 x141_14 x142_14 qf144 qf145 qf146 qf147 x149_14 qf150 qf151 qf152 qf153 qf154 cf144 g144_14 cf145 g145_14 cf146 g146_14 cf147 g147_14 cf150 f150 cf151 f151 cf110 f110 cf100 f100 cf152 g152_14 cf102 f102 cf104 f104 cf105 f105 cf153 g903_1 cf154 g154_14 nS477 fS477 hS477 qS477 tS477 nf g908_0 g908_1 g908_2 g908_3 g908_4 g908_5 g908_6 u8_7 u8_8 u8_9 u8_10 u8_11 hln_3 hfk_3_98 hfk_3_100 hfk_3_102 hfk_3_104 hfk_3_105 hfk_3_110 hfk_3_138 hfk_3_139 hfk_3_141 hfk_3_142 hfk_3_144 hfk_3_145 hfk_3_146 hfk_3_147 hfk_3_149 hfk_3_150 hfk_3_151 hfk_3_152 hfk_3_153 hfk_3_154 hu_8) (cwV 1 hts gv_h9_125 rfl rfl rfl (by decide +kernel) ⟨Nat.le_of_ble_eq_true rfl, Nat.le_of_ble_eq_true rfl⟩) ⟨fun a U g mk q => by obtain ⟨q0, q1, qP, qK, qD, qhZWS477, qhZRS477⟩ := q; exact ⟨q0, q1, qP, va_K.moved (u := U) (U := U.calling g mk a) (Vm.Alike.refl U.vm) qK, qD, pz_W.moved (u := U) (U := U.calling g mk a) (Vm.Alike.refl U.vm) qhZWS477, vk_R.same rfl qhZRS477⟩, va_recv hKc hPc (ci := 13) (q0 := 0) rfl rfl, fun U hU hW => ⟨rfl, by rw [hU], by rw [hU]; exact hPc, va_K.moved hW.alike hKc, hDc.weaken (fun _ _ _ _ => trivial), by rw [hU]; exact ((pz_W.moved hW.alike hZWS477).kept hS.2.1).narrow hFc, vk_R.warm hW hZRS477⟩⟩ rfl rfl hl.1 rfl (lv_room (Nat.le_of_ble_eq_true rfl)) dX13_element_33 ⟨Nat.le_of_ble_eq_true rfl, Nat.le_of_ble_eq_true rfl⟩) hS (fun q _ h => hFc q h) hFc ?_
      clear hS
      intro u t H1 locs ht hvm hw hB hz1 hk1 hS
      obtain ⟨z_8, rfl⟩ : ∃ z, z = u := ⟨_, rfl⟩
      obtain ⟨hP1, hK1, hD1⟩ := hB
      rw [ht] at hP1
      have hK1 := va_K.moved hvm.symm hK1
      try dsimp only at hw
      have hPD := va_join (wr := []) (w1 := [(h0, .inr (13, z_8)), (qf144, .inl (cf144, 2001, .inl g908_0)), (qf145, .inl (cf145, 2001, .inl g908_1)), (qf146, .inl (cf146, 2001, .inl g908_2)), (qf147, .inl (cf147, 20000, .inl g908_3)), (qf150, .inl (cf150, 60, .inl f150)), (qf151, .inl (cf151, 60, .inl f151)), (qf110, .inl (cf110, 96, .inl f110)), (qf100, .inl (cf100, 48000, .inl f100)), (qf152, .inl (cf152, 60, .inl g908_4)), (qf102, .inl (cf102, 2048, .inl f102)), (qf104, .inl (cf104, 8, .inl f104)), (qf105, .inl (cf105, 8, .inl f105)), (qf153, .inl (cf153, 60, .inl g908_5)), (qf154, .inl (cf154, 3600, .inl g908_6))]) hP hD [12, 0, 1, 2, 3, 4, 5, 6, 7, 8, 9, 10, 11, 13, 14] [] rfl rfl (by decide) (by decide) hk1 hFc hP1 hD1
      clear hP hD
      obtain ⟨hP, hD⟩ := hPD
      replace hK := (hK.sub (tys' := []) [] rfl).app hK1
      clear hPc hDc hKc hFc hP1 hK1 hD1 hz1 hk1 ht hvm
      generalize H1 = H at hP hS ⊢
      replace hP : va_P (dC, dI) vwCl [(h0, .inr (13, z_8)), (qf144, .inl (cf144, 2001, .inl g908_0)), (qf145, .inl (cf145, 2001, .inl g908_1)), (qf146, .inl (cf146, 2001, .inl g908_2)), (qf147, .inl (cf147, 20000, .inl g908_3)), (qf150, .inl (cf150, 60, .inl f150)), (qf151, .inl (cf151, 60, .inl f151)), (qf110, .inl (cf110, 96, .inl f110)), (qf100, .inl (cf100, 48000, .inl f100)), (qf152, .inl (cf152, 60, .inl g908_4)), (qf102, .inl (cf102, 2048, .inl f102)), (qf104, .inl (cf104, 8, .inl f104)), (qf105, .inl (cf105, 8, .inl f105)), (qf153, .inl (cf153, 60, .inl g908_5)), (qf154, .inl (cf154, 3600, .inl g908_6))] H := hP
      replace hD : va_D A [(h0, .inr (13, z_8)), (qf144, .inl (cf144, 2001, .inl g908_0)), (qf145, .inl (cf145, 2001, .inl g908_1)), (qf146, .inl (cf146, 2001, .inl g908_2)), (qf147, .inl (cf147, 20000, .inl g908_3)), (qf150, .inl (cf150, 60, .inl f150)), (qf151, .inl (cf151, 60, .inl f151)), (qf110, .inl (cf110, 96, .inl f110)), (qf100, .inl (cf100, 48000, .inl f100)), (qf152, .inl (cf152, 60, .inl g908_4)), (qf102, .inl (cf102, 2048, .inl f102)), (qf104, .inl (cf104, 8, .inl f104)), (qf105, .inl (cf105, 8, .inl f105)), (qf153, .inl (cf153, 60, .inl g908_5)), (qf154, .inl (cf154, 3600, .inl g908_6))] := hD
      replace hK : va_K (dC, dI) vwCl [(cf144, .int), (cf145, .int), (cf146, .int), (cf147, .int), (cf150, .int), (cf151, .int), (cf110, .int), (cf100, .int), (cf152, .int), (cf102, .int), (cf104, .int), (cf105, .int), (cf153, .int), (cf154, .int)] s := hK
      obtain ⟨hwa_8, hln_8, hre_8, hch_8_138, hch_8_139, hch_8_141, hch_8_142, hch_8_149⟩ := hw
      have hfk_8_98 : z_8[98]? = some (.int v98) := (hre_8 98 (by decide) (by decide) (by decide) (by decide) (by decide)).trans (hfk_3_98)
      have hfk_8_100 : z_8[100]? = some (.ref qf100) := (hre_8 100 (by decide) (by decide) (by decide) (by decide) (by decide)).trans (hfk_3_100)
      have hfk_8_102 : z_8[102]? = some (.ref qf102) := (hre_8 102 (by decide) (by decide) (by decide) (by decide) (by decide)).trans (hfk_3_102)
      have hfk_8_104 : z_8[104]? = some (.ref qf104) := (hre_8 104 (by decide) (by decide) (by decide) (by decide) (by decide)).trans (hfk_3_104)
      have hfk_8_105 : z_8[105]? = some (.ref qf105) := (hre_8 105 (by decide) (by decide) (by decide) (by decide) (by decide)).trans (hfk_3_105)
      have hfk_8_110 : z_8[110]? = some (.ref qf110) := (hre_8 110 (by decide) (by decide) (by decide) (by decide) (by decide)).trans (hfk_3_110)
      have hfk_8_144 : z_8[144]? = some (.ref qf144) := (hre_8 144 (by decide) (by decide) (by decide) (by decide) (by decide)).trans (hfk_3_144)
      have hfk_8_145 : z_8[145]? = some (.ref qf145) := (hre_8 145 (by decide) (by decide) (by decide) (by decide) (by decide)).trans (hfk_3_145)
      have hfk_8_146 : z_8[146]? = some (.ref qf146) := (hre_8 146 (by decide) (by decide) (by decide) (by decide) (by decide)).trans (hfk_3_146)
      have hfk_8_147 : z_8[147]? = some (.ref qf147) := (hre_8 147 (by decide) (by decide) (by decide) (by decide) (by decide)).trans (hfk_3_147)
      have hfk_8_150 : z_8[150]? = some (.ref qf150) := (hre_8 150 (by decide) (by decide) (by decide) (by decide) (by decide)).trans (hfk_3_150)
      have hfk_8_151 : z_8[151]? = some (.ref qf151) := (hre_8 151 (by decide) (by decide) (by decide) (by decide) (by decide)).trans (hfk_3_151)
      have hfk_8_152 : z_8[152]? = some (.ref qf152) := (hre_8 152 (by decide) (by decide) (by decide) (by decide) (by decide)).trans (hfk_3_152)
      have hfk_8_153 : z_8[153]? = some (.ref qf153) := (hre_8 153 (by decide) (by decide) (by decide) (by decide) (by decide)).trans (hfk_3_153)
      have hfk_8_154 : z_8[154]? = some (.ref qf154) := (hre_8 154 (by decide) (by decide) (by decide) (by decide) (by decide)).trans (hfk_3_154)
      have hrq_8 : ∀ j : Nat, j ≠ 138 → j ≠ 139 → j ≠ 141 → j ≠ 142 → j ≠ 149 → z_8[j]? = zs[j]? := fun j g138 g139 g141 g142 g149 => (hre_8 j g138 g139 g141 g142 g149).trans (hrq_3 j g138 g139 g141 g142 g149)
      refine lv_goto (tgt := 146) hx hb dX13_element_36 (by decide) ?_
      have hr0 := Option.some.inj hsp
      clear hsp
      obtain ⟨hq0, hr1⟩ := Prod.mk.inj hr0
      clear hr0
      obtain ⟨hq1, hr2⟩ := Prod.mk.inj hr1
      clear hr1
      obtain ⟨hq2, hr3⟩ := Prod.mk.inj hr2
      clear hr2
      obtain ⟨hq3, hr4⟩ := Prod.mk.inj hr3
      clear hr3
      obtain ⟨hq4, hr5⟩ := Prod.mk.inj hr4
      clear hr4
      obtain ⟨hq5, hr6⟩ := Prod.mk.inj hr5
      clear hr5
      obtain ⟨hq6, hr7⟩ := Prod.mk.inj hr6
      clear hr6
      obtain ⟨hq7, hr8⟩ := Prod.mk.inj hr7
      clear hr7
      obtain ⟨hq8, hr9⟩ := Prod.mk.inj hr8
      clear hr8
      obtain ⟨hq9, hr10⟩ := Prod.mk.inj hr9
      clear hr9
      obtain ⟨hq10, hr11⟩ := Prod.mk.inj hr10
      clear hr10
      subst hq0
      subst hq1
      subst hq2
      subst hq3
      subst hq4
      subst hq5
      subst hq6
      subst hq7
      subst hq8
      subst hq9
      subst hq10
      subst hr11
      have hP9 := hP.sub (ws' := [(h0, .inr (13, z_8)), (qf153, .inl (cf153, 60, .inl g908_5)), (qf154, .inl (cf154, 3600, .inl g908_6)), (qf144, .inl (cf144, 2001, .inl g908_0)), (qf145, .inl (cf145, 2001, .inl g908_1)), (qf146, .inl (cf146, 2001, .inl g908_2)), (qf147, .inl (cf147, 20000, .inl g908_3)), (qf150, .inl (cf150, 60, .inl f150)), (qf151, .inl (cf151, 60, .inl f151)), (qf110, .inl (cf110, 96, .inl f110)), (qf100, .inl (cf100, 48000, .inl f100)), (qf152, .inl (cf152, 60, .inl g908_4)), (qf102, .inl (cf102, 2048, .inl f102)), (qf104, .inl (cf104, 8, .inl f104)), (qf105, .inl (cf105, 8, .inl f105))]) [0, 13, 14, 1, 2, 3, 4, 5, 6, 7, 8, 9, 10, 11, 12] rfl
      have hD9 := hD.sub (ws' := [(h0, .inr (13, z_8)), (qf153, .inl (cf153, 60, .inl g908_5)), (qf154, .inl (cf154, 3600, .inl g908_6)), (qf144, .inl (cf144, 2001, .inl g908_0)), (qf145, .inl (cf145, 2001, .inl g908_1)), (qf146, .inl (cf146, 2001, .inl g908_2)), (qf147, .inl (cf147, 20000, .inl g908_3)), (qf150, .inl (cf150, 60, .inl f150)), (qf151, .inl (cf151, 60, .inl f151)), (qf110, .inl (cf110, 96, .inl f110)), (qf100, .inl (cf100, 48000, .inl f100)), (qf152, .inl (cf152, 60, .inl g908_4)), (qf102, .inl (cf102, 2048, .inl f102)), (qf104, .inl (cf104, 8, .inl f104)), (qf105, .inl (cf105, 8, .inl f105))]) [0, 13, 14, 1, 2, 3, 4, 5, 6, 7, 8, 9, 10, 11, 12] (by decide) rfl
      have hK9 := hK.sub (tys' := [(cf153, .int), (cf154, .int), (cf144, .int), (cf145, .int), (cf146, .int), (cf147, .int), (cf150, .int), (cf151, .int), (cf110, .int), (cf100, .int), (cf152, .int), (cf102, .int), (cf104, .int), (cf105, .int)]) [12, 13, 0, 1, 2, 3, 4, 5, 6, 7, 8, 9, 10, 11] rfl
      exact W.vret hx hb hr (fun t ht hW => ⟨⟨(z_8), rfl, ⟨trivial, hln_8, hrq_8, hch_8_138, hch_8_139, hch_8_141, hch_8_142, hch_8_149⟩, by rw [ht]; exact hP9, va_K.moved hW.alike hK9, hD9⟩, hS.F ht⟩) hS.2.2 dX13_element_146
  intro hj_14
  refine lv_iload_n hx hb dX13_element_0 rfl (lv_at hl 1 rfl) ?_
  refine lv_bipush (v := 50) hx hb dX13_element_1 (by decide) ?_
  refine lv_icmp_le (tgt := 13) hx hb dX13_element_3 (by decide) (fun c_1 => ?_) (fun c_1 => ?_)
  · rw [if_pos c_1] at hsp
    refine lv_iconst (v := 0) hx hb dX13_element_13 (by decide) ?_
    exact hj_14 (H, locs, ls, zs, a1, 0, f144, f145, f146, f147, f152, f153, f154, v138, v139, v141, v142, v149) ⟨lv_sub hl [0, 1] rfl, hS, hD.sub (ws' := [(h0, .inr (13, zs)), (qf153, .inl (cf153, 60, .inl f153)), (qf154, .inl (cf154, 3600, .inl f154)), (qf144, .inl (cf144, 2001, .inl f144)), (qf145, .inl (cf145, 2001, .inl f145)), (qf146, .inl (cf146, 2001, .inl f146)), (qf147, .inl (cf147, 20000, .inl f147)), (qf150, .inl (cf150, 60, .inl f150)), (qf151, .inl (cf151, 60, .inl f151)), (qf110, .inl (cf110, 96, .inl f110)), (qf100, .inl (cf100, 48000, .inl f100)), (qf152, .inl (cf152, 60, .inl f152)), (qf102, .inl (cf102, 2048, .inl f102)), (qf104, .inl (cf104, 8, .inl f104)), (qf105, .inl (cf105, 8, .inl f105))]) [0, 1, 2, 3, 4, 5, 6, 7, 8, 9, 10, 11, 12, 13, 14] (by decide) rfl, hP.sub (ws' := [(h0, .inr (13, zs)), (qf153, .inl (cf153, 60, .inl f153)), (qf154, .inl (cf154, 3600, .inl f154)), (qf144, .inl (cf144, 2001, .inl f144)), (qf145, .inl (cf145, 2001, .inl f145)), (qf146, .inl (cf146, 2001, .inl f146)), (qf147, .inl (cf147, 20000, .inl f147)), (qf150, .inl (cf150, 60, .inl f150)), (qf151, .inl (cf151, 60, .inl f151)), (qf110, .inl (cf110, 96, .inl f110)), (qf100, .inl (cf100, 48000, .inl f100)), (qf152, .inl (cf152, 60, .inl f152)), (qf102, .inl (cf102, 2048, .inl f102)), (qf104, .inl (cf104, 8, .inl f104)), (qf105, .inl (cf105, 8, .inl f105))]) [0, 1, 2, 3, 4, 5, 6, 7, 8, 9, 10, 11, 12, 13, 14] rfl, hf98, hf100, hf102, hf104, hf105, hf110, hf138, hf139, hf141, hf142, hf144, hf145, hf146, hf147, hf149, hf150, hf151, hf152, hf153, hf154, hlen, hrs0, hsp⟩
  · rw [if_neg c_1] at hsp
    refine lv_aload_n hx hb dX13_element_6 rfl (lv_at hl 0 rfl) ?_
    obtain ⟨⟨u1_0, g901_1⟩, hu_1, hsp⟩ := ox_bind hsp
    try dsimp only at hsp
    have hPc := hP.sub (ws' := [(h0, .inr (13, zs)), (qf153, .inl (cf153, 60, .inl f153)), (qf154, .inl (cf154, 3600, .inl f154))]) [0, 1, 2] rfl
    have hDc := hD.sub (ws' := [(h0, .inr (13, zs)), (qf153, .inl (cf153, 60, .inl f153)), (qf154, .inl (cf154, 3600, .inl f154))]) [0, 1, 2] (by decide) rfl
    have hKc := hK.sub (tys' := [(cf153, .int), (cf154, .int)]) [0, 1] rfl
    have hFc := va_free (wc := [(h0, .inr (13, zs)), (qf153, .inl (cf153, 60, .inl f153)), (qf154, .inl (cf154, 3600, .inl f154))]) hD hS hA [0, 1, 2] rfl
    refine va_calli (va_runV (As := []) (rest := []) ⟨hx, hb, hml, hown, hts⟩ (tm_drop l dC dI H.size h0 zs v149 qf153 qf154 cf153 f153 cf154 f154 nf u1_0 g901_1 hlen hf149 hf153 hf154 hu_1) (cwV 0 hts gv_h9_75 rfl rfl rfl (by decide +kernel) ⟨Nat.le_of_ble_eq_true rfl, Nat.le_of_ble_eq_true rfl⟩) ⟨fun a U g mk q => by obtain ⟨q0, q1, qP, qK, qD⟩ := q; exact ⟨q0, q1, qP, va_K.moved (u := U) (U := U.calling g mk a) (Vm.Alike.refl U.vm) qK, qD⟩, va_recv hKc hPc (ci := 13) (q0 := 0) rfl rfl, fun U hU hW => ⟨rfl, by rw [hU], by rw [hU]; exact hPc, va_K.moved hW.alike hKc, hDc.weaken (fun _ _ _ _ => trivial)⟩⟩ rfl rfl hl.1 rfl (lv_room (Nat.le_of_ble_eq_true rfl)) dX13_element_7 ⟨Nat.le_of_ble_eq_true rfl, Nat.le_of_ble_eq_true rfl⟩) hS (fun q _ h => hFc q h) hFc ?_
    clear hS
    intro r_2 u t H1 locs ht hvm hw hB hz1 hk1 hS
    obtain ⟨z_1, rfl⟩ : ∃ z, z = u := ⟨_, rfl⟩
    obtain ⟨hP1, hK1, hD1⟩ := hB
    rw [ht] at hP1
    have hK1 := va_K.moved hvm.symm hK1
    try dsimp only at hw
    have hPD := va_join (wr := [(qf144, .inl (cf144, 2001, .inl f144)), (qf145, .inl (cf145, 2001, .inl f145)), (qf146, .inl (cf146, 2001, .inl f146)), (qf147, .inl (cf147, 20000, .inl f147)), (qf150, .inl (cf150, 60, .inl f150)), (qf151, .inl (cf151, 60, .inl f151)), (qf110, .inl (cf110, 96, .inl f110)), (qf100, .inl (cf100, 48000, .inl f100)), (qf152, .inl (cf152, 60, .inl f152)), (qf102, .inl (cf102, 2048, .inl f102)), (qf104, .inl (cf104, 8, .inl f104)), (qf105, .inl (cf105, 8, .inl f105))]) (w1 := [(h0, .inr (13, z_1)), (qf153, .inl (cf153, 60, .inl g901_1)), (qf154, .inl (cf154, 3600, .inl f154))]) hP hD [0, 1, 2] [3, 4, 5, 6, 7, 8, 9, 10, 11, 12, 13, 14] rfl rfl (by decide) (by decide) hk1 hFc hP1 hD1
    clear hP hD
    obtain ⟨hP, hD⟩ := hPD
    replace hK := (hK.sub (tys' := [(cf144, .int), (cf145, .int), (cf146, .int), (cf147, .int), (cf150, .int), (cf151, .int), (cf110, .int), (cf100, .int), (cf152, .int), (cf102, .int), (cf104, .int), (cf105, .int)]) [2, 3, 4, 5, 6, 7, 8, 9, 10, 11, 12, 13] rfl).app hK1
    clear hPc hDc hKc hFc hP1 hK1 hD1 hz1 hk1 ht hvm
    generalize H1 = H at hP hS ⊢
    replace hP : va_P (dC, dI) vwCl [(qf144, .inl (cf144, 2001, .inl f144)), (qf145, .inl (cf145, 2001, .inl f145)), (qf146, .inl (cf146, 2001, .inl f146)), (qf147, .inl (cf147, 20000, .inl f147)), (qf150, .inl (cf150, 60, .inl f150)), (qf151, .inl (cf151, 60, .inl f151)), (qf110, .inl (cf110, 96, .inl f110)), (qf100, .inl (cf100, 48000, .inl f100)), (qf152, .inl (cf152, 60, .inl f152)), (qf102, .inl (cf102, 2048, .inl f102)), (qf104, .inl (cf104, 8, .inl f104)), (qf105, .inl (cf105, 8, .inl f105)), (h0, .inr (13, z_1)), (qf153, .inl (cf153, 60, .inl g901_1)), (qf154, .inl (cf154, 3600, .inl f154))] H := hP
    replace hD : va_D A [(qf144, .inl (cf144, 2001, .inl f144)), (qf145, .inl (cf145, 2001, .inl f145)), (qf146, .inl (cf146, 2001, .inl f146)), (qf147, .inl (cf147, 20000, .inl f147)), (qf150, .inl (cf150, 60, .inl f150)), (qf151, .inl (cf151, 60, .inl f151)), (qf110, .inl (cf110, 96, .inl f110)), (qf100, .inl (cf100, 48000, .inl f100)), (qf152, .inl (cf152, 60, .inl f152)), (qf102, .inl (cf102, 2048, .inl f102)), (qf104, .inl (cf104, 8, .inl f104)), (qf105, .inl (cf105, 8, .inl f105)), (h0, .inr (13, z_1)), (qf153, .inl (cf153, 60, .inl g901_1)), (qf154, .inl (cf154, 3600, .inl f154))] := hD
    replace hK : va_K (dC, dI) vwCl [(cf144, .int), (cf145, .int), (cf146, .int), (cf147, .int), (cf150, .int), (cf151, .int), (cf110, .int), (cf100, .int), (cf152, .int), (cf102, .int), (cf104, .int), (cf105, .int), (cf153, .int), (cf154, .int)] s := hK
    obtain ⟨hwa_1, hln_1, hre_1⟩ := hw
    have hfk_1_98 : z_1[98]? = some (.int v98) := (hre_1 98 ).trans (hf98)
    have hfk_1_100 : z_1[100]? = some (.ref qf100) := (hre_1 100 ).trans (hf100)
    have hfk_1_102 : z_1[102]? = some (.ref qf102) := (hre_1 102 ).trans (hf102)
    have hfk_1_104 : z_1[104]? = some (.ref qf104) := (hre_1 104 ).trans (hf104)
    have hfk_1_105 : z_1[105]? = some (.ref qf105) := (hre_1 105 ).trans (hf105)
    have hfk_1_110 : z_1[110]? = some (.ref qf110) := (hre_1 110 ).trans (hf110)
    have hfk_1_138 : z_1[138]? = some (.int v138) := (hre_1 138 ).trans (hf138)
    have hfk_1_139 : z_1[139]? = some (.int v139) := (hre_1 139 ).trans (hf139)
    have hfk_1_141 : z_1[141]? = some (.int v141) := (hre_1 141 ).trans (hf141)
    have hfk_1_142 : z_1[142]? = some (.int v142) := (hre_1 142 ).trans (hf142)
    have hfk_1_144 : z_1[144]? = some (.ref qf144) := (hre_1 144 ).trans (hf144)
    have hfk_1_145 : z_1[145]? = some (.ref qf145) := (hre_1 145 ).trans (hf145)
    have hfk_1_146 : z_1[146]? = some (.ref qf146) := (hre_1 146 ).trans (hf146)
    have hfk_1_147 : z_1[147]? = some (.ref qf147) := (hre_1 147 ).trans (hf147)
    have hfk_1_149 : z_1[149]? = some (.int v149) := (hre_1 149 ).trans (hf149)
    have hfk_1_150 : z_1[150]? = some (.ref qf150) := (hre_1 150 ).trans (hf150)
    have hfk_1_151 : z_1[151]? = some (.ref qf151) := (hre_1 151 ).trans (hf151)
    have hfk_1_152 : z_1[152]? = some (.ref qf152) := (hre_1 152 ).trans (hf152)
    have hfk_1_153 : z_1[153]? = some (.ref qf153) := (hre_1 153 ).trans (hf153)
    have hfk_1_154 : z_1[154]? = some (.ref qf154) := (hre_1 154 ).trans (hf154)
    have hrq_1 : ∀ j : Nat, j ≠ 138 → j ≠ 139 → j ≠ 141 → j ≠ 142 → j ≠ 149 → z_1[j]? = zs[j]? := fun j g138 g139 g141 g142 g149 => (hre_1 j ).trans (hrs0 j g138 g139 g141 g142 g149)
    obtain rfl := hwa_1
    refine lv_goto (tgt := 14) hx hb dX13_element_10 (by decide) ?_
    exact hj_14 (H, locs, ls, z_1, a1, u1_0, f144, f145, f146, f147, f152, g901_1, f154, v138, v139, v141, v142, v149) ⟨lv_sub hl [0, 1] rfl, hS, hD.sub (ws' := [(h0, .inr (13, z_1)), (qf153, .inl (cf153, 60, .inl g901_1)), (qf154, .inl (cf154, 3600, .inl f154)), (qf144, .inl (cf144, 2001, .inl f144)), (qf145, .inl (cf145, 2001, .inl f145)), (qf146, .inl (cf146, 2001, .inl f146)), (qf147, .inl (cf147, 20000, .inl f147)), (qf150, .inl (cf150, 60, .inl f150)), (qf151, .inl (cf151, 60, .inl f151)), (qf110, .inl (cf110, 96, .inl f110)), (qf100, .inl (cf100, 48000, .inl f100)), (qf152, .inl (cf152, 60, .inl f152)), (qf102, .inl (cf102, 2048, .inl f102)), (qf104, .inl (cf104, 8, .inl f104)), (qf105, .inl (cf105, 8, .inl f105))]) [12, 13, 14, 0, 1, 2, 3, 4, 5, 6, 7, 8, 9, 10, 11] (by decide) rfl, hP.sub (ws' := [(h0, .inr (13, z_1)), (qf153, .inl (cf153, 60, .inl g901_1)), (qf154, .inl (cf154, 3600, .inl f154)), (qf144, .inl (cf144, 2001, .inl f144)), (qf145, .inl (cf145, 2001, .inl f145)), (qf146, .inl (cf146, 2001, .inl f146)), (qf147, .inl (cf147, 20000, .inl f147)), (qf150, .inl (cf150, 60, .inl f150)), (qf151, .inl (cf151, 60, .inl f151)), (qf110, .inl (cf110, 96, .inl f110)), (qf100, .inl (cf100, 48000, .inl f100)), (qf152, .inl (cf152, 60, .inl f152)), (qf102, .inl (cf102, 2048, .inl f102)), (qf104, .inl (cf104, 8, .inl f104)), (qf105, .inl (cf105, 8, .inl f105))]) [12, 13, 14, 0, 1, 2, 3, 4, 5, 6, 7, 8, 9, 10, 11] rfl, hfk_1_98, hfk_1_100, hfk_1_102, hfk_1_104, hfk_1_105, hfk_1_110, hfk_1_138, hfk_1_139, hfk_1_141, hfk_1_142, hfk_1_144, hfk_1_145, hfk_1_146, hfk_1_147, hfk_1_149, hfk_1_150, hfk_1_151, hfk_1_152, hfk_1_153, hfk_1_154, hln_1, hrq_1, hsp⟩
def jn_vm_fieldOf_15 (nf : Nat) (a1 : Int32) (a2 : Int32) (a3 : Int32) (v98 : Int32) (v121 : Int32) (v138 : Int32) (v139 : Int32) (v141 : Int32) (v142 : Int32) (v149 : Int32) (f153 : Nat → Int32) (f154 : Nat → Int32) (f150 : Nat → Int32) (f102 : Nat → Int32) (f100 : Nat → Int32) (f104 : Nat → Int32) (f105 : Nat → Int32) (f106 : Nat → Int32) (f108 : Nat → Int32) (f107 : Nat → Int32) (f109 : Nat → Int32) (f145 : Nat → Int32) (f147 : Nat → Int32) (f152 : Nat → Int32) (f146 : Nat → Int32) (f144 : Nat → Int32) (f151 : Nat → Int32) (f110 : Nat → Int32) (nS477 : Nat) (fS477 : Nat → Int32)  (l1_15 : Int32) (l2_15 : Int32) (l3_15 : Int32) (s0_15 : Int32) (g144_15 : Nat → Int32) (g145_15 : Nat → Int32) (g146_15 : Nat → Int32) (g147_15 : Nat → Int32) (g152_15 : Nat → Int32) (g153_15 : Nat → Int32) (g154_15 : Nat → Int32) (x121_15 : Int32) (x138_15 : Int32) (x139_15 : Int32) (x141_15 : Int32) (x142_15 : Int32) (x149_15 : Int32) : Option ((Nat → Int32) × (Nat → Int32) × (Nat → Int32) × (Nat → Int32) × (Nat → Int32) × (Nat → Int32) × (Nat → Int32) × Int32 × Int32 × Int32 × Int32 × Int32 × Int32) := ((sp_tm_drop nf x149_15 g153_15 g154_15).bind (fun p1 => (if p1.1 = 0 then ((sp_vm_fails nf 2 v98 x138_15 x139_15 x141_15 x142_15 x149_15 g144_15 g145_15 g146_15 g147_15 f150 f151 f110 f100 g152_15 f102 f104 f105 p1.2 g154_15 nS477 fS477).bind (fun p2 => (some (p2.1, p2.2.1, p2.2.2.1, p2.2.2.2.1, p2.2.2.2.2.1, p2.2.2.2.2.2.1, p2.2.2.2.2.2.2.1, x121_15, p2.2.2.2.2.2.2.2.1, p2.2.2.2.2.2.2.2.2.1, p2.2.2.2.2.2.2.2.2.2.1, p2.2.2.2.2.2.2.2.2.2.2.1, p2.2.2.2.2.2.2.2.2.2.2.2)))) else (if l1_15 = 190 then (if p1.1 < 0 then none else if 2001 ≤ (p1.1 : Int32).toNatClampNeg then none else ((sp_tm_give nf (g146_15 (p1.1 : Int32).toNatClampNeg) x149_15 p1.2 g154_15).bind (fun p3 => ((sp_tm_on nf l3_15 x149_15 g152_15).bind (fun p4 => (some (g144_15, g145_15, g146_15, g147_15, p4, p3.1, p3.2, x121_15, x138_15, x139_15, x141_15, x142_15, x149_15))))))) else ((sp_tm_memberPart nf l2_15 0 x149_15 f150 f102 f100).bind (fun p5 => ((sp_vm_classIn nf p5 v98 x149_15 f150 f102 f100 f104 nS477 fS477).bind (fun p6 => (if (x149_15 - 1) < 0 then none else if 60 ≤ ((x149_15 - 1) : Int32).toNatClampNeg then none else ((sp_tm_memberPart nf l2_15 1 x149_15 f150 f102 f100).bind (fun p7 => ((sp_vm_holder nf p6 ((f150 ((x149_15 - 1) : Int32).toNatClampNeg) - 8) p7 0 v98 x121_15 f105 f102 f100 f104 f106 f108 f107 f109 nS477 fS477).bind (fun p8 => (if p1.1 < 0 then none else if 2001 ≤ (p1.1 : Int32).toNatClampNeg then none else ((sp_vm_superOf nf p8.1 v98 f105 f102 f100 f104 nS477 fS477).bind (fun p9 => ((sp_vm_fieldsOf nf p9 v98 f106 f105 f102 f100 f104 nS477 fS477).bind (fun p10 => (if l1_15 = 180 then (if (((g145_15 (p1.1 : Int32).toNatClampNeg) + p10) + p8.2) < 0 then none else if 20000 ≤ ((((g145_15 (p1.1 : Int32).toNatClampNeg) + p10) + p8.2) : Int32).toNatClampNeg then none else ((sp_tm_give nf (g147_15 ((((g145_15 (p1.1 : Int32).toNatClampNeg) + p10) + p8.2) : Int32).toNatClampNeg) x149_15 p1.2 g154_15).bind (fun p11 => ((sp_tm_on nf l3_15 x149_15 g152_15).bind (fun p12 => (some (g144_15, g145_15, g146_15, g147_15, p12, p11.1, p11.2, p8.2, x138_15, x139_15, x141_15, x142_15, x149_15))))))) else (if (((g145_15 (p1.1 : Int32).toNatClampNeg) + p10) + p8.2) < 0 then none else if 20000 ≤ ((((g145_15 (p1.1 : Int32).toNatClampNeg) + p10) + p8.2) : Int32).toNatClampNeg then none else ((sp_tm_on nf l3_15 x149_15 g152_15).bind (fun p13 => (some (g144_15, g145_15, g146_15, (upd g147_15 ((((g145_15 (p1.1 : Int32).toNatClampNeg) + p10) + p8.2) : Int32).toNatClampNeg s0_15), p13, p1.2, g154_15, p8.2, x138_15, x139_15, x141_15, x142_15, x149_15))))))))))))))))))))))))
def sp_vm_fieldOf (nf : Nat) (a1 : Int32) (a2 : Int32) (a3 : Int32) (v98 : Int32) (v121 : Int32) (v138 : Int32) (v139 : Int32) (v141 : Int32) (v142 : Int32) (v149 : Int32) (f153 : Nat → Int32) (f154 : Nat → Int32) (f150 : Nat → Int32) (f102 : Nat → Int32) (f100 : Nat → Int32) (f104 : Nat → Int32) (f105 : Nat → Int32) (f106 : Nat → Int32) (f108 : Nat → Int32) (f107 : Nat → Int32) (f109 : Nat → Int32) (f145 : Nat → Int32) (f147 : Nat → Int32) (f152 : Nat → Int32) (f146 : Nat → Int32) (f144 : Nat → Int32) (f151 : Nat → Int32) (f110 : Nat → Int32) (nS477 : Nat) (fS477 : Nat → Int32) : Option ((Nat → Int32) × (Nat → Int32) × (Nat → Int32) × (Nat → Int32) × (Nat → Int32) × (Nat → Int32) × (Nat → Int32) × Int32 × Int32 × Int32 × Int32 × Int32 × Int32) := (if a1 = 181 then ((sp_tm_drop nf v149 f153 f154).bind (fun p1 => (jn_vm_fieldOf_15 nf a1 a2 a3 v98 v121 v138 v139 v141 v142 v149 f153 f154 f150 f102 f100 f104 f105 f106 f108 f107 f109 f145 f147 f152 f146 f144 f151 f110 nS477 fS477  a1 a2 a3 p1.1 f144 f145 f146 f147 f152 p1.2 f154 v121 v138 v139 v141 v142 v149))) else (jn_vm_fieldOf_15 nf a1 a2 a3 v98 v121 v138 v139 v141 v142 v149 f153 f154 f150 f102 f100 f104 f105 f106 f108 f107 f109 f145 f147 f152 f146 f144 f151 f110 nS477 fS477  a1 a2 a3 0 f144 f145 f146 f147 f152 f153 f154 v121 v138 v139 v141 v142 v149))

set_option maxHeartbeats 4000000 in
set_option maxRecDepth 100000 in
/-- ClassMillModel.call -/
theorem vm_call (l : Launch) (dC : Nat → ClassId) (dI : Nat → Nat → Nat) (sz : Nat) (h0 : Nat) (zs : (List Value)) (a1 : Int32) (a2 : Int32) (v98 : Int32) (qf100 : Nat) (qf102 : Nat) (qf104 : Nat) (qf105 : Nat) (qf106 : Nat) (qf107 : Nat) (qf108 : Nat) (qf109 : Nat) (qf110 : Nat) (v121 : Int32) (v138 : Int32) (v139 : Int32) (v141 : Int32) (v142 : Int32) (qf144 : Nat) (qf145 : Nat) (qf146 : Nat) (qf147 : Nat) (v149 : Int32) (qf150 : Nat) (qf151 : Nat) (qf152 : Nat) (qf153 : Nat) (qf154 : Nat) (cf150 : ClassId) (f150 : (Nat → Int32)) (cf102 : ClassId) (f102 : (Nat → Int32)) (cf100 : ClassId) (f100 : (Nat → Int32)) (cf153 : ClassId) (f153 : (Nat → Int32)) (cf104 : ClassId) (f104 : (Nat → Int32)) (cf154 : ClassId) (f154 : (Nat → Int32)) (cf144 : ClassId) (f144 : (Nat → Int32)) (cf145 : ClassId) (f145 : (Nat → Int32)) (cf146 : ClassId) (f146 : (Nat → Int32)) (cf147 : ClassId) (f147 : (Nat → Int32)) (cf151 : ClassId) (f151 : (Nat → Int32)) (cf110 : ClassId) (f110 : (Nat → Int32)) (cf152 : ClassId) (f152 : (Nat → Int32)) (cf105 : ClassId) (f105 : (Nat → Int32)) (cf106 : ClassId) (f106 : (Nat → Int32)) (cf108 : ClassId) (f108 : (Nat → Int32)) (cf107 : ClassId) (f107 : (Nat → Int32)) (cf109 : ClassId) (f109 : (Nat → Int32)) (nS477 : Nat) (fS477 : (Nat → Int32)) (hS477 : Nat) (qS477 : Nat) (tS477 : String) (nf : Nat) (o144 : (Nat → Int32)) (o145 : (Nat → Int32)) (o146 : (Nat → Int32)) (o147 : (Nat → Int32)) (o150 : (Nat → Int32)) (o151 : (Nat → Int32)) (o152 : (Nat → Int32)) (o153 : (Nat → Int32)) (o154 : (Nat → Int32)) (w121 : Int32) (w138 : Int32) (w139 : Int32) (w141 : Int32) (w142 : Int32) (w149 : Int32) (hlen : zs.length = 155) (hf98 : zs[98]? = some (.int v98)) (hf100 : zs[100]? = some (.ref qf100)) (hf102 : zs[102]? = some (.ref qf102)) (hf104 : zs[104]? = some (.ref qf104)) (hf105 : zs[105]? = some (.ref qf105)) (hf106 : zs[106]? = some (.ref qf106)) (hf107 : zs[107]? = some (.ref qf107)) (hf108 : zs[108]? = some (.ref qf108)) (hf109 : zs[109]? = some (.ref qf109)) (hf110 : zs[110]? = some (.ref qf110)) (hf121 : zs[121]? = some (.int v121)) (hf138 : zs[138]? = some (.int v138)) (hf139 : zs[139]? = some (.int v139)) (hf141 : zs[141]? = some (.int v141)) (hf142 : zs[142]? = some (.int v142)) (hf144 : zs[144]? = some (.ref qf144)) (hf145 : zs[145]? = some (.ref qf145)) (hf146 : zs[146]? = some (.ref qf146)) (hf147 : zs[147]? = some (.ref qf147)) (hf149 : zs[149]? = some (.int v149)) (hf150 : zs[150]? = some (.ref qf150)) (hf151 : zs[151]? = some (.ref qf151)) (hf152 : zs[152]? = some (.ref qf152)) (hf153 : zs[153]? = some (.ref qf153)) (hf154 : zs[154]? = some (.ref qf154)) (hsp : sp_vm_call nf a1 a2 v98 v121 v138 v139 v141 v142 v149 f150 f102 f100 f153 f104 f154 f144 f145 f146 f147 f151 f110 f152 f105 f106 f108 f107 f109 nS477 fS477 = some (o144, o145, o146, o147, o150, o151, o152, o153, o154, w121, w138, w139, w141, w142, w149)) : Met l yX13_call (.code yX13_call cX13_call 12 none :: VS_h9) ({ frames := 12, cells := 0, slots := 0, locals := 277 }) (va_Pc [.ref h0, .int a1, .int a2] (fun U => U.heap.size = sz ∧ va_P (dC, dI) vwCl [(h0, .inr (13, zs)), (qf150, .inl (cf150, 60, .inl f150)), (qf102, .inl (cf102, 2048, .inl f102)), (qf100, .inl (cf100, 48000, .inl f100)), (qf153, .inl (cf153, 60, .inl f153)), (qf104, .inl (cf104, 8, .inl f104)), (qf154, .inl (cf154, 3600, .inl f154)), (qf144, .inl (cf144, 2001, .inl f144)), (qf145, .inl (cf145, 2001, .inl f145)), (qf146, .inl (cf146, 2001, .inl f146)), (qf147, .inl (cf147, 20000, .inl f147)), (qf151, .inl (cf151, 60, .inl f151)), (qf110, .inl (cf110, 96, .inl f110)), (qf152, .inl (cf152, 60, .inl f152)), (qf105, .inl (cf105, 8, .inl f105)), (qf106, .inl (cf106, 8, .inl f106)), (qf108, .inl (cf108, 8, .inl f108)), (qf107, .inl (cf107, 96, .inl f107)), (qf109, .inl (cf109, 96, .inl f109))] U.heap ∧ va_K (dC, dI) vwCl [(cf150, .int), (cf102, .int), (cf100, .int), (cf153, .int), (cf104, .int), (cf154, .int), (cf144, .int), (cf145, .int), (cf146, .int), (cf147, .int), (cf151, .int), (cf110, .int), (cf152, .int), (cf105, .int), (cf106, .int), (cf108, .int), (cf107, .int), (cf109, .int)] U ∧ va_D (fun _ => True) [(h0, .inr (13, zs)), (qf150, .inl (cf150, 60, .inl f150)), (qf102, .inl (cf102, 2048, .inl f102)), (qf100, .inl (cf100, 48000, .inl f100)), (qf153, .inl (cf153, 60, .inl f153)), (qf104, .inl (cf104, 8, .inl f104)), (qf154, .inl (cf154, 3600, .inl f154)), (qf144, .inl (cf144, 2001, .inl f144)), (qf145, .inl (cf145, 2001, .inl f145)), (qf146, .inl (cf146, 2001, .inl f146)), (qf147, .inl (cf147, 20000, .inl f147)), (qf151, .inl (cf151, 60, .inl f151)), (qf110, .inl (cf110, 96, .inl f110)), (qf152, .inl (cf152, 60, .inl f152)), (qf105, .inl (cf105, 8, .inl f105)), (qf106, .inl (cf106, 8, .inl f106)), (qf108, .inl (cf108, 8, .inl f108)), (qf107, .inl (cf107, 96, .inl f107)), (qf109, .inl (cf109, 96, .inl f109))] ∧ pz_W nS477 fS477 hS477 qS477 (va_A [(h0, .inr (13, zs)), (qf150, .inl (cf150, 60, .inl f150)), (qf102, .inl (cf102, 2048, .inl f102)), (qf100, .inl (cf100, 48000, .inl f100)), (qf153, .inl (cf153, 60, .inl f153)), (qf104, .inl (cf104, 8, .inl f104)), (qf154, .inl (cf154, 3600, .inl f154)), (qf144, .inl (cf144, 2001, .inl f144)), (qf145, .inl (cf145, 2001, .inl f145)), (qf146, .inl (cf146, 2001, .inl f146)), (qf147, .inl (cf147, 20000, .inl f147)), (qf151, .inl (cf151, 60, .inl f151)), (qf110, .inl (cf110, 96, .inl f110)), (qf152, .inl (cf152, 60, .inl f152)), (qf105, .inl (cf105, 8, .inl f105)), (qf106, .inl (cf106, 8, .inl f106)), (qf108, .inl (cf108, 8, .inl f108)), (qf107, .inl (cf107, 96, .inl f107)), (qf109, .inl (cf109, 96, .inl f109))] sz) U U.heap ∧ vk_R RX13 477 tS477 hS477 U)) (va_Qv (fun (u : (List Value)) => match u with | (zo1) => True ∧ zo1.length = 155 ∧ (∀ j : Nat, j ≠ 121 → j ≠ 138 → j ≠ 139 → j ≠ 141 → j ≠ 142 → j ≠ 149 → zo1[j]? = zs[j]?) ∧ zo1[121]? = some (.int w121) ∧ zo1[138]? = some (.int w138) ∧ zo1[139]? = some (.int w139) ∧ zo1[141]? = some (.int w141) ∧ zo1[142]? = some (.int w142) ∧ zo1[149]? = some (.int w149)) (fun (u : (List Value)) (t : State) => match u with | (zo1) => va_P (dC, dI) vwCl [(h0, .inr (13, zo1)), (qf150, .inl (cf150, 60, .inl o150)), (qf102, .inl (cf102, 2048, .inl f102)), (qf100, .inl (cf100, 48000, .inl f100)), (qf153, .inl (cf153, 60, .inl o153)), (qf104, .inl (cf104, 8, .inl f104)), (qf154, .inl (cf154, 3600, .inl o154)), (qf144, .inl (cf144, 2001, .inl o144)), (qf145, .inl (cf145, 2001, .inl o145)), (qf146, .inl (cf146, 2001, .inl o146)), (qf147, .inl (cf147, 20000, .inl o147)), (qf151, .inl (cf151, 60, .inl o151)), (qf110, .inl (cf110, 96, .inl f110)), (qf152, .inl (cf152, 60, .inl o152)), (qf105, .inl (cf105, 8, .inl f105)), (qf106, .inl (cf106, 8, .inl f106)), (qf108, .inl (cf108, 8, .inl f108)), (qf107, .inl (cf107, 96, .inl f107)), (qf109, .inl (cf109, 96, .inl f109))] t.heap ∧ va_K (dC, dI) vwCl [(cf150, .int), (cf102, .int), (cf100, .int), (cf153, .int), (cf104, .int), (cf154, .int), (cf144, .int), (cf145, .int), (cf146, .int), (cf147, .int), (cf151, .int), (cf110, .int), (cf152, .int), (cf105, .int), (cf106, .int), (cf108, .int), (cf107, .int), (cf109, .int)] t ∧ va_D (va_A [(h0, .inr (13, zs)), (qf150, .inl (cf150, 60, .inl f150)), (qf102, .inl (cf102, 2048, .inl f102)), (qf100, .inl (cf100, 48000, .inl f100)), (qf153, .inl (cf153, 60, .inl f153)), (qf104, .inl (cf104, 8, .inl f104)), (qf154, .inl (cf154, 3600, .inl f154)), (qf144, .inl (cf144, 2001, .inl f144)), (qf145, .inl (cf145, 2001, .inl f145)), (qf146, .inl (cf146, 2001, .inl f146)), (qf147, .inl (cf147, 20000, .inl f147)), (qf151, .inl (cf151, 60, .inl f151)), (qf110, .inl (cf110, 96, .inl f110)), (qf152, .inl (cf152, 60, .inl f152)), (qf105, .inl (cf105, 8, .inl f105)), (qf106, .inl (cf106, 8, .inl f106)), (qf108, .inl (cf108, 8, .inl f108)), (qf107, .inl (cf107, 96, .inl f107)), (qf109, .inl (cf109, 96, .inl f109))] sz) [(h0, .inr (13, zo1)), (qf150, .inl (cf150, 60, .inl o150)), (qf102, .inl (cf102, 2048, .inl f102)), (qf100, .inl (cf100, 48000, .inl f100)), (qf153, .inl (cf153, 60, .inl o153)), (qf104, .inl (cf104, 8, .inl f104)), (qf154, .inl (cf154, 3600, .inl o154)), (qf144, .inl (cf144, 2001, .inl o144)), (qf145, .inl (cf145, 2001, .inl o145)), (qf146, .inl (cf146, 2001, .inl o146)), (qf147, .inl (cf147, 20000, .inl o147)), (qf151, .inl (cf151, 60, .inl o151)), (qf110, .inl (cf110, 96, .inl f110)), (qf152, .inl (cf152, 60, .inl o152)), (qf105, .inl (cf105, 8, .inl f105)), (qf106, .inl (cf106, 8, .inl f106)), (qf108, .inl (cf108, 8, .inl f108)), (qf107, .inl (cf107, 96, .inl f107)), (qf109, .inl (cf109, 96, .inl f109))]) (va_A [(h0, .inr (13, zs)), (qf150, .inl (cf150, 60, .inl f150)), (qf102, .inl (cf102, 2048, .inl f102)), (qf100, .inl (cf100, 48000, .inl f100)), (qf153, .inl (cf153, 60, .inl f153)), (qf104, .inl (cf104, 8, .inl f104)), (qf154, .inl (cf154, 3600, .inl f154)), (qf144, .inl (cf144, 2001, .inl f144)), (qf145, .inl (cf145, 2001, .inl f145)), (qf146, .inl (cf146, 2001, .inl f146)), (qf147, .inl (cf147, 20000, .inl f147)), (qf151, .inl (cf151, 60, .inl f151)), (qf110, .inl (cf110, 96, .inl f110)), (qf152, .inl (cf152, 60, .inl f152)), (qf105, .inl (cf105, 8, .inl f105)), (qf106, .inl (cf106, 8, .inl f106)), (qf108, .inl (cf108, 8, .inl f108)), (qf107, .inl (cf107, 96, .inl f107)), (qf109, .inl (cf109, 96, .inl f109))] sz)) 0 0 (va_A [(h0, .inr (13, zs)), (qf150, .inl (cf150, 60, .inl f150)), (qf102, .inl (cf102, 2048, .inl f102)), (qf100, .inl (cf100, 48000, .inl f100)), (qf153, .inl (cf153, 60, .inl f153)), (qf104, .inl (cf104, 8, .inl f104)), (qf154, .inl (cf154, 3600, .inl f154)), (qf144, .inl (cf144, 2001, .inl f144)), (qf145, .inl (cf145, 2001, .inl f145)), (qf146, .inl (cf146, 2001, .inl f146)), (qf147, .inl (cf147, 20000, .inl f147)), (qf151, .inl (cf151, 60, .inl f151)), (qf110, .inl (cf110, 96, .inl f110)), (qf152, .inl (cf152, 60, .inl f152)), (qf105, .inl (cf105, 8, .inl f105)), (qf106, .inl (cf106, 8, .inl f106)), (qf108, .inl (cf108, 8, .inl f108)), (qf107, .inl (cf107, 96, .inl f107)), (qf109, .inl (cf109, 96, .inl f109))] sz) := by
  refine Met.ofW (cc := cX13_call) (maxL := 12) (ret := none) (by decide) rfl ?_
  intro p e s m args below meth c s₁ B hml hv
  obtain ⟨rfl, hsz, hP, hK, hD0, hZWS477, hZRS477⟩ := hv
  have hx := B.exec
  have hb := B.bytes
  have hr := B.returns
  have hts := atoms_spec (ws := (.code yX13_call cX13_call 12 none :: VS_h9)) B.pre
  replace hts := fun w (h : w ∈ VS_h9) => hts w (List.mem_cons_of_mem _ h)
  have hown : s.vm.findClass RX13 = some m.cls := findClass_of_methodNamed B.named
  have hlocks := B.notSynchronized
  subst hsz
  have hD := hD0.self (sz := s.heap.size)
  generalize hAe : va_A [(h0, .inr (13, zs)), (qf150, .inl (cf150, 60, .inl f150)), (qf102, .inl (cf102, 2048, .inl f102)), (qf100, .inl (cf100, 48000, .inl f100)), (qf153, .inl (cf153, 60, .inl f153)), (qf104, .inl (cf104, 8, .inl f104)), (qf154, .inl (cf154, 3600, .inl f154)), (qf144, .inl (cf144, 2001, .inl f144)), (qf145, .inl (cf145, 2001, .inl f145)), (qf146, .inl (cf146, 2001, .inl f146)), (qf147, .inl (cf147, 20000, .inl f147)), (qf151, .inl (cf151, 60, .inl f151)), (qf110, .inl (cf110, 96, .inl f110)), (qf152, .inl (cf152, 60, .inl f152)), (qf105, .inl (cf105, 8, .inl f105)), (qf106, .inl (cf106, 8, .inl f106)), (qf108, .inl (cf108, 8, .inl f108)), (qf107, .inl (cf107, 96, .inl f107)), (qf109, .inl (cf109, 96, .inl f109))] s.heap.size = A at hD hZWS477 ⊢
  have hA : ∀ q : Nat, s.heap.size ≤ q → A q := fun q h => by rw [← hAe]; exact Or.inr h
  have hP : va_P (dC, dI) vwCl [(h0, .inr (13, zs)), (qf150, .inl (cf150, 60, .inl f150)), (qf102, .inl (cf102, 2048, .inl f102)), (qf100, .inl (cf100, 48000, .inl f100)), (qf153, .inl (cf153, 60, .inl f153)), (qf104, .inl (cf104, 8, .inl f104)), (qf154, .inl (cf154, 3600, .inl f154)), (qf144, .inl (cf144, 2001, .inl f144)), (qf145, .inl (cf145, 2001, .inl f145)), (qf146, .inl (cf146, 2001, .inl f146)), (qf147, .inl (cf147, 20000, .inl f147)), (qf151, .inl (cf151, 60, .inl f151)), (qf110, .inl (cf110, 96, .inl f110)), (qf152, .inl (cf152, 60, .inl f152)), (qf105, .inl (cf105, 8, .inl f105)), (qf106, .inl (cf106, 8, .inl f106)), (qf108, .inl (cf108, 8, .inl f108)), (qf107, .inl (cf107, 96, .inl f107)), (qf109, .inl (cf109, 96, .inl f109))] s.heap := hP
  have hl := lv_entry ([.ref h0, .int a1, .int a2]) (n := 12) (Nat.le_of_ble_eq_true rfl)
  rw [lg_entry_eq]
  generalize (lg_sl ([.ref h0, .int a1, .int a2]) ++ List.replicate (12 - (lg_sl ([.ref h0, .int a1, .int a2])).length) Slot.unset).toArray = ls at hl ⊢
  have hl : lv_has ls 12 [(0, .ref h0), (1, .int a1), (2, .int a2)] := hl
  obtain ⟨H, hH⟩ : ∃ H : Heap, s.heap = H := ⟨_, rfl⟩
  rw [hH] at hP ⊢
  have hS : va_S A s.heap H [] := by rw [← hH]; exact va_S.rf
  obtain ⟨locs, hlo⟩ : ∃ locs : List Loc, locs = [] := ⟨_, rfl⟩
  rw [← hlo] at hS ⊢
  have hrs0 : ∀ j : Nat, j ≠ 121 → j ≠ 138 → j ≠ 139 → j ≠ 141 → j ≠ 142 → j ≠ 149 → zs[j]? = zs[j]? := fun _ _ _ _ _ _ _  => rfl
  unfold sp_vm_call at hsp
  refine jn_use (α := Heap × List Loc × Array Slot × List Value × Int32 × Int32 × Int32 × Int32 × Int32 × Int32 × (Nat → Int32) × (Nat → Int32) × (Nat → Int32) × (Nat → Int32) × (Nat → Int32) × (Nat → Int32) × (Nat → Int32) × (Nat → Int32) × (Nat → Int32) × Int32 × Int32 × Int32 × Int32 × Int32 × Int32) (fun x9 => x9.1) (fun x9 => x9.2.1) (fun x9 => F0 m 168 x9.2.2.1 []) (fun x9 => match x9 with | (H, locs, ls, z168, l2_168, l3_168, l5_168, l6_168, l7_168, l8_168, g144_168, g145_168, g146_168, g147_168, g150_168, g151_168, g152_168, g153_168, g154_168, x121_168, x138_168, x139_168, x141_168, x142_168, x149_168) => lv_has ls 12 [(0, .ref h0), (2, .int l2_168), (3, .int l3_168), (5, .int l5_168), (6, .int l6_168), (7, .int l7_168), (8, .int l8_168)] ∧ va_S A s.heap H locs ∧ va_D A [(h0, .inr (13, z168)), (qf150, .inl (cf150, 60, .inl g150_168)), (qf102, .inl (cf102, 2048, .inl f102)), (qf100, .inl (cf100, 48000, .inl f100)), (qf153, .inl (cf153, 60, .inl g153_168)), (qf104, .inl (cf104, 8, .inl f104)), (qf154, .inl (cf154, 3600, .inl g154_168)), (qf144, .inl (cf144, 2001, .inl g144_168)), (qf145, .inl (cf145, 2001, .inl g145_168)), (qf146, .inl (cf146, 2001, .inl g146_168)), (qf147, .inl (cf147, 20000, .inl g147_168)), (qf151, .inl (cf151, 60, .inl g151_168)), (qf110, .inl (cf110, 96, .inl f110)), (qf152, .inl (cf152, 60, .inl g152_168)), (qf105, .inl (cf105, 8, .inl f105)), (qf106, .inl (cf106, 8, .inl f106)), (qf108, .inl (cf108, 8, .inl f108)), (qf107, .inl (cf107, 96, .inl f107)), (qf109, .inl (cf109, 96, .inl f109))] ∧ va_P (dC, dI) vwCl [(h0, .inr (13, z168)), (qf150, .inl (cf150, 60, .inl g150_168)), (qf102, .inl (cf102, 2048, .inl f102)), (qf100, .inl (cf100, 48000, .inl f100)), (qf153, .inl (cf153, 60, .inl g153_168)), (qf104, .inl (cf104, 8, .inl f104)), (qf154, .inl (cf154, 3600, .inl g154_168)), (qf144, .inl (cf144, 2001, .inl g144_168)), (qf145, .inl (cf145, 2001, .inl g145_168)), (qf146, .inl (cf146, 2001, .inl g146_168)), (qf147, .inl (cf147, 20000, .inl g147_168)), (qf151, .inl (cf151, 60, .inl g151_168)), (qf110, .inl (cf110, 96, .inl f110)), (qf152, .inl (cf152, 60, .inl g152_168)), (qf105, .inl (cf105, 8, .inl f105)), (qf106, .inl (cf106, 8, .inl f106)), (qf108, .inl (cf108, 8, .inl f108)), (qf107, .inl (cf107, 96, .inl f107)), (qf109, .inl (cf109, 96, .inl f109))] H ∧ z168[98]? = some (.int v98) ∧ z168[100]? = some (.ref qf100) ∧ z168[102]? = some (.ref qf102) ∧ z168[104]? = some (.ref qf104) ∧ z168[105]? = some (.ref qf105) ∧ z168[106]? = some (.ref qf106) ∧ z168[107]? = some (.ref qf107) ∧ z168[108]? = some (.ref qf108) ∧ z168[109]? = some (.ref qf109) ∧ z168[110]? = some (.ref qf110) ∧ z168[121]? = some (.int x121_168) ∧ z168[138]? = some (.int x138_168) ∧ z168[139]? = some (.int x139_168) ∧ z168[141]? = some (.int x141_168) ∧ z168[142]? = some (.int x142_168) ∧ z168[144]? = some (.ref qf144) ∧ z168[145]? = some (.ref qf145) ∧ z168[146]? = some (.ref qf146) ∧ z168[147]? = some (.ref qf147) ∧ z168[149]? = some (.int x149_168) ∧ z168[150]? = some (.ref qf150) ∧ z168[151]? = some (.ref qf151) ∧ z168[152]? = some (.ref qf152) ∧ z168[153]? = some (.ref qf153) ∧ z168[154]? = some (.ref qf154) ∧ z168.length = 155 ∧ (∀ j : Nat, j ≠ 121 → j ≠ 138 → j ≠ 139 → j ≠ 141 → j ≠ 142 → j ≠ 149 → z168[j]? = zs[j]?) ∧ jn_vm_call_168 nf a1 a2 v98 v121 v138 v139 v141 v142 v149 f150 f102 f100 f153 f104 f154 f144 f145 f146 f147 f151 f110 f152 f105 f106 f108 f107 f109 nS477 fS477 l2_168 l3_168 l5_168 l6_168 l7_168 l8_168 g144_168 g145_168 g146_168 g147_168 g150_168 g151_168 g152_168 g153_168 g154_168 x121_168 x138_168 x139_168 x141_168 x142_168 x149_168 = some (o144, o145, o146, o147, o150, o151, o152, o153, o154, w121, w138, w139, w141, w142, w149)) ?_ ?_
  · intro x9 hJ9
    obtain ⟨H, locs, ls, z168, l2_168, l3_168, l5_168, l6_168, l7_168, l8_168, g144_168, g145_168, g146_168, g147_168, g150_168, g151_168, g152_168, g153_168, g154_168, x121_168, x138_168, x139_168, x141_168, x142_168, x149_168⟩ := x9
    obtain ⟨hl, hS, hD, hP, hfh_168_98, hfh_168_100, hfh_168_102, hfh_168_104, hfh_168_105, hfh_168_106, hfh_168_107, hfh_168_108, hfh_168_109, hfh_168_110, hfh_168_121, hfh_168_138, hfh_168_139, hfh_168_141, hfh_168_142, hfh_168_144, hfh_168_145, hfh_168_146, hfh_168_147, hfh_168_149, hfh_168_150, hfh_168_151, hfh_168_152, hfh_168_153, hfh_168_154, hlh_168, hrh_168, hsp⟩ := hJ9
    replace hl : lv_has ls 12 [(0, .ref h0), (2, .int l2_168), (3, .int l3_168), (5, .int l5_168), (6, .int l6_168), (7, .int l7_168), (8, .int l8_168)] := hl
    replace hS : va_S A s.heap H locs := hS
    replace hD : va_D A [(h0, .inr (13, z168)), (qf150, .inl (cf150, 60, .inl g150_168)), (qf102, .inl (cf102, 2048, .inl f102)), (qf100, .inl (cf100, 48000, .inl f100)), (qf153, .inl (cf153, 60, .inl g153_168)), (qf104, .inl (cf104, 8, .inl f104)), (qf154, .inl (cf154, 3600, .inl g154_168)), (qf144, .inl (cf144, 2001, .inl g144_168)), (qf145, .inl (cf145, 2001, .inl g145_168)), (qf146, .inl (cf146, 2001, .inl g146_168)), (qf147, .inl (cf147, 20000, .inl g147_168)), (qf151, .inl (cf151, 60, .inl g151_168)), (qf110, .inl (cf110, 96, .inl f110)), (qf152, .inl (cf152, 60, .inl g152_168)), (qf105, .inl (cf105, 8, .inl f105)), (qf106, .inl (cf106, 8, .inl f106)), (qf108, .inl (cf108, 8, .inl f108)), (qf107, .inl (cf107, 96, .inl f107)), (qf109, .inl (cf109, 96, .inl f109))] := hD
    replace hP : va_P (dC, dI) vwCl [(h0, .inr (13, z168)), (qf150, .inl (cf150, 60, .inl g150_168)), (qf102, .inl (cf102, 2048, .inl f102)), (qf100, .inl (cf100, 48000, .inl f100)), (qf153, .inl (cf153, 60, .inl g153_168)), (qf104, .inl (cf104, 8, .inl f104)), (qf154, .inl (cf154, 3600, .inl g154_168)), (qf144, .inl (cf144, 2001, .inl g144_168)), (qf145, .inl (cf145, 2001, .inl g145_168)), (qf146, .inl (cf146, 2001, .inl g146_168)), (qf147, .inl (cf147, 20000, .inl g147_168)), (qf151, .inl (cf151, 60, .inl g151_168)), (qf110, .inl (cf110, 96, .inl f110)), (qf152, .inl (cf152, 60, .inl g152_168)), (qf105, .inl (cf105, 8, .inl f105)), (qf106, .inl (cf106, 8, .inl f106)), (qf108, .inl (cf108, 8, .inl f108)), (qf107, .inl (cf107, 96, .inl f107)), (qf109, .inl (cf109, 96, .inl f109))] H := hP
    replace hsp : jn_vm_call_168 nf a1 a2 v98 v121 v138 v139 v141 v142 v149 f150 f102 f100 f153 f104 f154 f144 f145 f146 f147 f151 f110 f152 f105 f106 f108 f107 f109 nS477 fS477 l2_168 l3_168 l5_168 l6_168 l7_168 l8_168 g144_168 g145_168 g146_168 g147_168 g150_168 g151_168 g152_168 g153_168 g154_168 x121_168 x138_168 x139_168 x141_168 x142_168 x149_168 = some (o144, o145, o146, o147, o150, o151, o152, o153, o154, w121, w138, w139, w141, w142, w149) := hsp
    show W _ _ _ _ _ _ _ _ _ _ H locs _ _ _ (F0 m 168 ls [])
    unfold jn_vm_call_168 at hsp
    try dsimp only at hsp
    refine lv_aload_n hx hb dX13_call_168 rfl (lv_at hl 0 rfl) ?_
    refine lv_iload hx hb dX13_call_169 (lv_at hl 6 rfl) ?_
    refine lv_iload_n hx hb dX13_call_171 rfl (lv_at hl 2 rfl) ?_
    refine lv_aload_n hx hb dX13_call_172 rfl (lv_at hl 0 rfl) ?_
    refine lv_iload_n hx hb dX13_call_173 rfl (lv_at hl 1 rfl) ?_
    refine lv_iconst (v := 1) hx hb dX13_call_174 (by decide) ?_
    obtain ⟨u6_0, hu_6, hsp⟩ := ox_bind hsp
    try dsimp only at hsp
    have hPc := hP.sub (ws' := [(h0, .inr (13, z168)), (qf150, .inl (cf150, 60, .inl g150_168)), (qf102, .inl (cf102, 2048, .inl f102)), (qf100, .inl (cf100, 48000, .inl f100))]) [0, 1, 2, 3] rfl
    have hDc := hD.sub (ws' := [(h0, .inr (13, z168)), (qf150, .inl (cf150, 60, .inl g150_168)), (qf102, .inl (cf102, 2048, .inl f102)), (qf100, .inl (cf100, 48000, .inl f100))]) [0, 1, 2, 3] (by decide) rfl
    have hKc := hK.sub (tys' := [(cf150, .int), (cf102, .int), (cf100, .int)]) [0, 1, 2] rfl
    have hFc := va_free (wc := [(h0, .inr (13, z168)), (qf150, .inl (cf150, 60, .inl g150_168)), (qf102, .inl (cf102, 2048, .inl f102)), (qf100, .inl (cf100, 48000, .inl f100))]) hD hS hA [0, 1, 2, 3] rfl
    refine va_calli (va_runV (As := [.int l2_168, .int 1]) (rest := [.int l3_168, .int l8_168, .ref h0]) ⟨hx, hb, hml, hown, hts⟩ (tm_memberPart l dC dI H.size h0 z168 l2_168 1 qf100 qf102 x149_168 qf150 cf150 g150_168 cf102 f102 cf100 f100 nf u6_0 hlh_168 hfh_168_100 hfh_168_102 hfh_168_149 hfh_168_150 hu_6) (cwV 2 hts gv_h9_76 rfl rfl rfl (by decide +kernel) ⟨Nat.le_of_ble_eq_true rfl, Nat.le_of_ble_eq_true rfl⟩) ⟨fun a U g mk q => by obtain ⟨q0, q1, qP, qK, qD⟩ := q; exact ⟨q0, q1, qP, va_K.moved (u := U) (U := U.calling g mk a) (Vm.Alike.refl U.vm) qK, qD⟩, va_recv hKc hPc (ci := 13) (q0 := 0) rfl rfl, fun U hU hW => ⟨rfl, by rw [hU], by rw [hU]; exact hPc, va_K.moved hW.alike hKc, hDc.weaken (fun _ _ _ _ => trivial)⟩⟩ rfl rfl hl.1 rfl (lv_room (Nat.le_of_ble_eq_true rfl)) dX13_call_175 ⟨Nat.le_of_ble_eq_true rfl, Nat.le_of_ble_eq_true rfl⟩) hS (fun q _ h => hFc q h) hFc ?_
    clear hS
    intro r_16 u t H1 locs ht hvm hw hB hz1 hk1 hS
    obtain ⟨z_6, rfl⟩ : ∃ z, z = u := ⟨_, rfl⟩
    obtain ⟨hP1, hK1, hD1⟩ := hB
    rw [ht] at hP1
    have hK1 := va_K.moved hvm.symm hK1
    try dsimp only at hw
    have hPD := va_join (wr := [(qf153, .inl (cf153, 60, .inl g153_168)), (qf104, .inl (cf104, 8, .inl f104)), (qf154, .inl (cf154, 3600, .inl g154_168)), (qf144, .inl (cf144, 2001, .inl g144_168)), (qf145, .inl (cf145, 2001, .inl g145_168)), (qf146, .inl (cf146, 2001, .inl g146_168)), (qf147, .inl (cf147, 20000, .inl g147_168)), (qf151, .inl (cf151, 60, .inl g151_168)), (qf110, .inl (cf110, 96, .inl f110)), (qf152, .inl (cf152, 60, .inl g152_168)), (qf105, .inl (cf105, 8, .inl f105)), (qf106, .inl (cf106, 8, .inl f106)), (qf108, .inl (cf108, 8, .inl f108)), (qf107, .inl (cf107, 96, .inl f107)), (qf109, .inl (cf109, 96, .inl f109))]) (w1 := [(h0, .inr (13, z_6)), (qf150, .inl (cf150, 60, .inl g150_168)), (qf102, .inl (cf102, 2048, .inl f102)), (qf100, .inl (cf100, 48000, .inl f100))]) hP hD [0, 1, 2, 3] [4, 5, 6, 7, 8, 9, 10, 11, 12, 13, 14, 15, 16, 17, 18] rfl rfl (by decide) (by decide) hk1 hFc hP1 hD1
    clear hP hD
    obtain ⟨hP, hD⟩ := hPD
    replace hK := (hK.sub (tys' := [(cf153, .int), (cf104, .int), (cf154, .int), (cf144, .int), (cf145, .int), (cf146, .int), (cf147, .int), (cf151, .int), (cf110, .int), (cf152, .int), (cf105, .int), (cf106, .int), (cf108, .int), (cf107, .int), (cf109, .int)]) [3, 4, 5, 6, 7, 8, 9, 10, 11, 12, 13, 14, 15, 16, 17] rfl).app hK1
    clear hPc hDc hKc hFc hP1 hK1 hD1 hz1 hk1 ht hvm
    generalize H1 = H at hP hS ⊢
    replace hP : va_P (dC, dI) vwCl [(qf153, .inl (cf153, 60, .inl g153_168)), (qf104, .inl (cf104, 8, .inl f104)), (qf154, .inl (cf154, 3600, .inl g154_168)), (qf144, .inl (cf144, 2001, .inl g144_168)), (qf145, .inl (cf145, 2001, .inl g145_168)), (qf146, .inl (cf146, 2001, .inl g146_168)), (qf147, .inl (cf147, 20000, .inl g147_168)), (qf151, .inl (cf151, 60, .inl g151_168)), (qf110, .inl (cf110, 96, .inl f110)), (qf152, .inl (cf152, 60, .inl g152_168)), (qf105, .inl (cf105, 8, .inl f105)), (qf106, .inl (cf106, 8, .inl f106)), (qf108, .inl (cf108, 8, .inl f108)), (qf107, .inl (cf107, 96, .inl f107)), (qf109, .inl (cf109, 96, .inl f109)), (h0, .inr (13, z_6)), (qf150, .inl (cf150, 60, .inl g150_168)), (qf102, .inl (cf102, 2048, .inl f102)), (qf100, .inl (cf100, 48000, .inl f100))] H := hP
    replace hD : va_D A [(qf153, .inl (cf153, 60, .inl g153_168)), (qf104, .inl (cf104, 8, .inl f104)), (qf154, .inl (cf154, 3600, .inl g154_168)), (qf144, .inl (cf144, 2001, .inl g144_168)), (qf145, .inl (cf145, 2001, .inl g145_168)), (qf146, .inl (cf146, 2001, .inl g146_168)), (qf147, .inl (cf147, 20000, .inl g147_168)), (qf151, .inl (cf151, 60, .inl g151_168)), (qf110, .inl (cf110, 96, .inl f110)), (qf152, .inl (cf152, 60, .inl g152_168)), (qf105, .inl (cf105, 8, .inl f105)), (qf106, .inl (cf106, 8, .inl f106)), (qf108, .inl (cf108, 8, .inl f108)), (qf107, .inl (cf107, 96, .inl f107)), (qf109, .inl (cf109, 96, .inl f109)), (h0, .inr (13, z_6)), (qf150, .inl (cf150, 60, .inl g150_168)), (qf102, .inl (cf102, 2048, .inl f102)), (qf100, .inl (cf100, 48000, .inl f100))] := hD
    replace hK : va_K (dC, dI) vwCl [(cf153, .int), (cf104, .int), (cf154, .int), (cf144, .int), (cf145, .int), (cf146, .int), (cf147, .int), (cf151, .int), (cf110, .int), (cf152, .int), (cf105, .int), (cf106, .int), (cf108, .int), (cf107, .int), (cf109, .int), (cf150, .int), (cf102, .int), (cf100, .int)] s := hK
    obtain ⟨hwa_6, hln_6, hre_6⟩ := hw
    have hfk_6_98 : z_6[98]? = some (.int v98) := (hre_6 98 ).trans (hfh_168_98)
    have hfk_6_100 : z_6[100]? = some (.ref qf100) := (hre_6 100 ).trans (hfh_168_100)
    have hfk_6_102 : z_6[102]? = some (.ref qf102) := (hre_6 102 ).trans (hfh_168_102)
    have hfk_6_104 : z_6[104]? = some (.ref qf104) := (hre_6 104 ).trans (hfh_168_104)
    have hfk_6_105 : z_6[105]? = some (.ref qf105) := (hre_6 105 ).trans (hfh_168_105)
    have hfk_6_106 : z_6[106]? = some (.ref qf106) := (hre_6 106 ).trans (hfh_168_106)
    have hfk_6_107 : z_6[107]? = some (.ref qf107) := (hre_6 107 ).trans (hfh_168_107)
    have hfk_6_108 : z_6[108]? = some (.ref qf108) := (hre_6 108 ).trans (hfh_168_108)
    have hfk_6_109 : z_6[109]? = some (.ref qf109) := (hre_6 109 ).trans (hfh_168_109)
    have hfk_6_110 : z_6[110]? = some (.ref qf110) := (hre_6 110 ).trans (hfh_168_110)
    have hfk_6_121 : z_6[121]? = some (.int x121_168) := (hre_6 121 ).trans (hfh_168_121)
    have hfk_6_138 : z_6[138]? = some (.int x138_168) := (hre_6 138 ).trans (hfh_168_138)
    have hfk_6_139 : z_6[139]? = some (.int x139_168) := (hre_6 139 ).trans (hfh_168_139)
    have hfk_6_141 : z_6[141]? = some (.int x141_168) := (hre_6 141 ).trans (hfh_168_141)
    have hfk_6_142 : z_6[142]? = some (.int x142_168) := (hre_6 142 ).trans (hfh_168_142)
    have hfk_6_144 : z_6[144]? = some (.ref qf144) := (hre_6 144 ).trans (hfh_168_144)
    have hfk_6_145 : z_6[145]? = some (.ref qf145) := (hre_6 145 ).trans (hfh_168_145)
    have hfk_6_146 : z_6[146]? = some (.ref qf146) := (hre_6 146 ).trans (hfh_168_146)
    have hfk_6_147 : z_6[147]? = some (.ref qf147) := (hre_6 147 ).trans (hfh_168_147)
    have hfk_6_149 : z_6[149]? = some (.int x149_168) := (hre_6 149 ).trans (hfh_168_149)
    have hfk_6_150 : z_6[150]? = some (.ref qf150) := (hre_6 150 ).trans (hfh_168_150)
    have hfk_6_151 : z_6[151]? = some (.ref qf151) := (hre_6 151 ).trans (hfh_168_151)
    have hfk_6_152 : z_6[152]? = some (.ref qf152) := (hre_6 152 ).trans (hfh_168_152)
    have hfk_6_153 : z_6[153]? = some (.ref qf153) := (hre_6 153 ).trans (hfh_168_153)
    have hfk_6_154 : z_6[154]? = some (.ref qf154) := (hre_6 154 ).trans (hfh_168_154)
    have hrq_6 : ∀ j : Nat, j ≠ 121 → j ≠ 138 → j ≠ 139 → j ≠ 141 → j ≠ 142 → j ≠ 149 → z_6[j]? = zs[j]? := fun j g121 g138 g139 g141 g142 g149 => (hre_6 j ).trans (hrh_168 j g121 g138 g139 g141 g142 g149)
    obtain rfl := hwa_6
    refine lv_iconst (v := 1) hx hb dX13_call_178 (by decide) ?_
    obtain ⟨⟨u7_0, u7_1⟩, hu_7, hsp⟩ := ox_bind hsp
    try dsimp only at hsp
    have hPc := hP.sub (ws' := [(h0, .inr (13, z_6)), (qf105, .inl (cf105, 8, .inl f105)), (qf102, .inl (cf102, 2048, .inl f102)), (qf100, .inl (cf100, 48000, .inl f100)), (qf104, .inl (cf104, 8, .inl f104)), (qf106, .inl (cf106, 8, .inl f106)), (qf108, .inl (cf108, 8, .inl f108)), (qf107, .inl (cf107, 96, .inl f107)), (qf109, .inl (cf109, 96, .inl f109))]) [15, 10, 17, 18, 1, 11, 12, 13, 14] rfl
    have hDc := hD.sub (ws' := [(h0, .inr (13, z_6)), (qf105, .inl (cf105, 8, .inl f105)), (qf102, .inl (cf102, 2048, .inl f102)), (qf100, .inl (cf100, 48000, .inl f100)), (qf104, .inl (cf104, 8, .inl f104)), (qf106, .inl (cf106, 8, .inl f106)), (qf108, .inl (cf108, 8, .inl f108)), (qf107, .inl (cf107, 96, .inl f107)), (qf109, .inl (cf109, 96, .inl f109))]) [15, 10, 17, 18, 1, 11, 12, 13, 14] (by decide) rfl
    have hKc := hK.sub (tys' := [(cf105, .int), (cf102, .int), (cf100, .int), (cf104, .int), (cf106, .int), (cf108, .int), (cf107, .int), (cf109, .int)]) [10, 16, 17, 1, 11, 12, 13, 14] rfl
    have hFc := va_free (wc := [(h0, .inr (13, z_6)), (qf105, .inl (cf105, 8, .inl f105)), (qf102, .inl (cf102, 2048, .inl f102)), (qf100, .inl (cf100, 48000, .inl f100)), (qf104, .inl (cf104, 8, .inl f104)), (qf106, .inl (cf106, 8, .inl f106)), (qf108, .inl (cf108, 8, .inl f108)), (qf107, .inl (cf107, 96, .inl f107)), (qf109, .inl (cf109, 96, .inl f109))]) hD hS hA [15, 10, 17, 18, 1, 11, 12, 13, 14] rfl
    refine va_calli (va_runV (As := [.int l8_168, .int l3_168, .int u6_0, .int 1]) (rest := []) ⟨hx, hb, hml, hown, hts⟩ (vm_holder l dC dI H.size h0 z_6 l8_168 l3_168 u6_0 1 v98 qf100 qf102 qf104 qf105 qf106 qf107 qf108 qf109 x121_168 cf105 f105 cf102 f102 cf100 f100 cf104 f104 cf106 f106 cf108 f108 cf107 f107 cf109 f109 nS477 fS477 hS477 qS477 tS477 nf u7_0 u7_1 hln_6 hfk_6_98 hfk_6_100 hfk_6_102 hfk_6_104 hfk_6_105 hfk_6_106 hfk_6_107 hfk_6_108 hfk_6_109 hfk_6_121 hu_7) (cwV 4 hts gv_h9_107 rfl rfl rfl (by decide +kernel) ⟨Nat.le_of_ble_eq_true rfl, Nat.le_of_ble_eq_true rfl⟩) ⟨fun a U g mk q => by obtain ⟨q0, q1, qP, qK, qD, qhZWS477, qhZRS477⟩ := q; exact ⟨q0, q1, qP, va_K.moved (u := U) (U := U.calling g mk a) (Vm.Alike.refl U.vm) qK, qD, pz_W.moved (u := U) (U := U.calling g mk a) (Vm.Alike.refl U.vm) qhZWS477, vk_R.same rfl qhZRS477⟩, va_recv hKc hPc (ci := 13) (q0 := 0) rfl rfl, fun U hU hW => ⟨rfl, by rw [hU], by rw [hU]; exact hPc, va_K.moved hW.alike hKc, hDc.weaken (fun _ _ _ _ => trivial), by rw [hU]; exact ((pz_W.moved hW.alike hZWS477).kept hS.2.1).narrow hFc, vk_R.warm hW hZRS477⟩⟩ rfl rfl hl.1 rfl (lv_room (Nat.le_of_ble_eq_true rfl)) dX13_call_179 ⟨Nat.le_of_ble_eq_true rfl, Nat.le_of_ble_eq_true rfl⟩) hS (fun q _ h => hFc q h) hFc ?_
    clear hS
    intro r_17 u t H1 locs ht hvm hw hB hz1 hk1 hS
    obtain ⟨z_7, rfl⟩ : ∃ z, z = u := ⟨_, rfl⟩
    obtain ⟨hP1, hK1, hD1⟩ := hB
    rw [ht] at hP1
    have hK1 := va_K.moved hvm.symm hK1
    try dsimp only at hw
    have hPD := va_join (wr := [(qf153, .inl (cf153, 60, .inl g153_168)), (qf154, .inl (cf154, 3600, .inl g154_168)), (qf144, .inl (cf144, 2001, .inl g144_168)), (qf145, .inl (cf145, 2001, .inl g145_168)), (qf146, .inl (cf146, 2001, .inl g146_168)), (qf147, .inl (cf147, 20000, .inl g147_168)), (qf151, .inl (cf151, 60, .inl g151_168)), (qf110, .inl (cf110, 96, .inl f110)), (qf152, .inl (cf152, 60, .inl g152_168)), (qf150, .inl (cf150, 60, .inl g150_168))]) (w1 := [(h0, .inr (13, z_7)), (qf105, .inl (cf105, 8, .inl f105)), (qf102, .inl (cf102, 2048, .inl f102)), (qf100, .inl (cf100, 48000, .inl f100)), (qf104, .inl (cf104, 8, .inl f104)), (qf106, .inl (cf106, 8, .inl f106)), (qf108, .inl (cf108, 8, .inl f108)), (qf107, .inl (cf107, 96, .inl f107)), (qf109, .inl (cf109, 96, .inl f109))]) hP hD [15, 10, 17, 18, 1, 11, 12, 13, 14] [0, 2, 3, 4, 5, 6, 7, 8, 9, 16] rfl rfl (by decide) (by decide) hk1 hFc hP1 hD1
    clear hP hD
    obtain ⟨hP, hD⟩ := hPD
    replace hK := (hK.sub (tys' := [(cf153, .int), (cf154, .int), (cf144, .int), (cf145, .int), (cf146, .int), (cf147, .int), (cf151, .int), (cf110, .int), (cf152, .int), (cf150, .int)]) [0, 2, 3, 4, 5, 6, 7, 8, 9, 15] rfl).app hK1
    clear hPc hDc hKc hFc hP1 hK1 hD1 hz1 hk1 ht hvm
    generalize H1 = H at hP hS ⊢
    replace hP : va_P (dC, dI) vwCl [(qf153, .inl (cf153, 60, .inl g153_168)), (qf154, .inl (cf154, 3600, .inl g154_168)), (qf144, .inl (cf144, 2001, .inl g144_168)), (qf145, .inl (cf145, 2001, .inl g145_168)), (qf146, .inl (cf146, 2001, .inl g146_168)), (qf147, .inl (cf147, 20000, .inl g147_168)), (qf151, .inl (cf151, 60, .inl g151_168)), (qf110, .inl (cf110, 96, .inl f110)), (qf152, .inl (cf152, 60, .inl g152_168)), (qf150, .inl (cf150, 60, .inl g150_168)), (h0, .inr (13, z_7)), (qf105, .inl (cf105, 8, .inl f105)), (qf102, .inl (cf102, 2048, .inl f102)), (qf100, .inl (cf100, 48000, .inl f100)), (qf104, .inl (cf104, 8, .inl f104)), (qf106, .inl (cf106, 8, .inl f106)), (qf108, .inl (cf108, 8, .inl f108)), (qf107, .inl (cf107, 96, .inl f107)), (qf109, .inl (cf109, 96, .inl f109))] H := hP
    replace hD : va_D A [(qf153, .inl (cf153, 60, .inl g153_168)), (qf154, .inl (cf154, 3600, .inl g154_168)), (qf144, .inl (cf144, 2001, .inl g144_168)), (qf145, .inl (cf145, 2001, .inl g145_168)), (qf146, .inl (cf146, 2001, .inl g146_168)), (qf147, .inl (cf147, 20000, .inl g147_168)), (qf151, .inl (cf151, 60, .inl g151_168)), (qf110, .inl (cf110, 96, .inl f110)), (qf152, .inl (cf152, 60, .inl g152_168)), (qf150, .inl (cf150, 60, .inl g150_168)), (h0, .inr (13, z_7)), (qf105, .inl (cf105, 8, .inl f105)), (qf102, .inl (cf102, 2048, .inl f102)), (qf100, .inl (cf100, 48000, .inl f100)), (qf104, .inl (cf104, 8, .inl f104)), (qf106, .inl (cf106, 8, .inl f106)), (qf108, .inl (cf108, 8, .inl f108)), (qf107, .inl (cf107, 96, .inl f107)), (qf109, .inl (cf109, 96, .inl f109))] := hD
    replace hK : va_K (dC, dI) vwCl [(cf153, .int), (cf154, .int), (cf144, .int), (cf145, .int), (cf146, .int), (cf147, .int), (cf151, .int), (cf110, .int), (cf152, .int), (cf150, .int), (cf105, .int), (cf102, .int), (cf100, .int), (cf104, .int), (cf106, .int), (cf108, .int), (cf107, .int), (cf109, .int)] s := hK
    obtain ⟨hwa_7, hln_7, hre_7, hch_7_121⟩ := hw
    have hfk_7_98 : z_7[98]? = some (.int v98) := (hre_7 98 (by decide)).trans (hfk_6_98)
    have hfk_7_100 : z_7[100]? = some (.ref qf100) := (hre_7 100 (by decide)).trans (hfk_6_100)
    have hfk_7_102 : z_7[102]? = some (.ref qf102) := (hre_7 102 (by decide)).trans (hfk_6_102)
    have hfk_7_104 : z_7[104]? = some (.ref qf104) := (hre_7 104 (by decide)).trans (hfk_6_104)
    have hfk_7_105 : z_7[105]? = some (.ref qf105) := (hre_7 105 (by decide)).trans (hfk_6_105)
    have hfk_7_106 : z_7[106]? = some (.ref qf106) := (hre_7 106 (by decide)).trans (hfk_6_106)
    have hfk_7_107 : z_7[107]? = some (.ref qf107) := (hre_7 107 (by decide)).trans (hfk_6_107)
    have hfk_7_108 : z_7[108]? = some (.ref qf108) := (hre_7 108 (by decide)).trans (hfk_6_108)
    have hfk_7_109 : z_7[109]? = some (.ref qf109) := (hre_7 109 (by decide)).trans (hfk_6_109)
    have hfk_7_110 : z_7[110]? = some (.ref qf110) := (hre_7 110 (by decide)).trans (hfk_6_110)
    have hfk_7_138 : z_7[138]? = some (.int x138_168) := (hre_7 138 (by decide)).trans (hfk_6_138)
    have hfk_7_139 : z_7[139]? = some (.int x139_168) := (hre_7 139 (by decide)).trans (hfk_6_139)
    have hfk_7_141 : z_7[141]? = some (.int x141_168) := (hre_7 141 (by decide)).trans (hfk_6_141)
    have hfk_7_142 : z_7[142]? = some (.int x142_168) := (hre_7 142 (by decide)).trans (hfk_6_142)
    have hfk_7_144 : z_7[144]? = some (.ref qf144) := (hre_7 144 (by decide)).trans (hfk_6_144)
    have hfk_7_145 : z_7[145]? = some (.ref qf145) := (hre_7 145 (by decide)).trans (hfk_6_145)
    have hfk_7_146 : z_7[146]? = some (.ref qf146) := (hre_7 146 (by decide)).trans (hfk_6_146)
    have hfk_7_147 : z_7[147]? = some (.ref qf147) := (hre_7 147 (by decide)).trans (hfk_6_147)
    have hfk_7_149 : z_7[149]? = some (.int x149_168) := (hre_7 149 (by decide)).trans (hfk_6_149)
    have hfk_7_150 : z_7[150]? = some (.ref qf150) := (hre_7 150 (by decide)).trans (hfk_6_150)
    have hfk_7_151 : z_7[151]? = some (.ref qf151) := (hre_7 151 (by decide)).trans (hfk_6_151)
    have hfk_7_152 : z_7[152]? = some (.ref qf152) := (hre_7 152 (by decide)).trans (hfk_6_152)
    have hfk_7_153 : z_7[153]? = some (.ref qf153) := (hre_7 153 (by decide)).trans (hfk_6_153)
    have hfk_7_154 : z_7[154]? = some (.ref qf154) := (hre_7 154 (by decide)).trans (hfk_6_154)
    have hrq_7 : ∀ j : Nat, j ≠ 121 → j ≠ 138 → j ≠ 139 → j ≠ 141 → j ≠ 142 → j ≠ 149 → z_7[j]? = zs[j]? := fun j g121 g138 g139 g141 g142 g149 => (hre_7 j g121).trans (hrq_6 j g121 g138 g139 g141 g142 g149)
    obtain rfl := hwa_7
    refine lv_istore (lv' := [(9, .int u7_0), (0, .ref h0), (2, .int l2_168), (3, .int l3_168), (5, .int l5_168), (6, .int l6_168), (7, .int l7_168), (8, .int l8_168)]) hx hb dX13_call_182 hl (by decide) rfl (fun ls hl => ?_)
    refine lv_aload_n hx hb dX13_call_184 rfl (lv_at hl 1 rfl) ?_
    refine va_get (D := (dC, dI)) (ci := 13) (v := .int u7_1) (C := RX13) (T := TX13) (N := 155) hx hb hts uV_h9_X13 hown hK hP 10 rfl rfl 121 (by decide) (hts (.fieldLink RX13 898 "ClassMillModel" "found" "I") mw_h9_509) (fun _ h9 => h9) hch_7_121 dX13_call_185 ?_
    refine lv_istore (lv' := [(10, .int u7_1), (9, .int u7_0), (0, .ref h0), (2, .int l2_168), (3, .int l3_168), (5, .int l5_168), (6, .int l6_168), (7, .int l7_168), (8, .int l8_168)]) hx hb dX13_call_188 hl (by decide) rfl (fun ls hl => ?_)
    refine lv_aload_n hx hb dX13_call_190 rfl (lv_at hl 2 rfl) ?_
    refine va_get (D := (dC, dI)) (ci := 13) (v := .int x149_168) (C := RX13) (T := TX13) (N := 155) hx hb hts uV_h9_X13 hown hK hP 10 rfl rfl 149 (by decide) (hts (.fieldLink RX13 1058 "ClassMillModel" "depth" "I") mw_h9_370) (fun _ h9 => h9) hfk_7_149 dX13_call_191 ?_
    refine lv_bipush (v := 60) hx hb dX13_call_194 (by decide) ?_
    refine lv_icmp_ne (tgt := 205) hx hb dX13_call_196 (by decide) (fun c_18 => ?_) (fun c_18 => ?_)
    · rw [if_neg c_18] at hsp
      refine lv_aload_n hx hb dX13_call_205 rfl (lv_at hl 2 rfl) ?_
      refine va_get (D := (dC, dI)) (ci := 13) (v := .ref qf153) (C := RX13) (T := TX13) (N := 155) hx hb hts uV_h9_X13 hown hK hP 10 rfl rfl 153 (by decide) (hts (.fieldLink RX13 303 "ClassMillModel" "runStack" "[I") mw_h9_390) (fun _ h9 => h9) hfk_7_153 dX13_call_206 ?_
      refine lv_iload hx hb dX13_call_209 (lv_at hl 6 rfl) ?_
      refine lv_dup2_11 hx hb dX13_call_211 rfl rfl ?_
      obtain ⟨hi_19, hsp⟩ := ox_in hsp
      refine va_iald hx hb hK hP 0 0 rfl rfl (i := l6_168) hi_19 dX13_call_212 ?_
      refine lv_iload hx hb dX13_call_213 (lv_at hl 5 rfl) ?_
      refine lv_isub hx hb dX13_call_215 ?_
      obtain ⟨hi_20, hsp⟩ := ox_in hsp
      refine va_iast hx hb hK hP hD hS 0 0 rfl rfl (i := l6_168) (x := ((g153_168 (l6_168 : Int32).toNatClampNeg) - l5_168)) hi_20 dX13_call_216 ?_
      clear hP hD hS
      intro H locs hP hD hS
      replace hP : va_P (dC, dI) vwCl [(qf153, .inl (cf153, 60, .inl (upd g153_168 (l6_168 : Int32).toNatClampNeg ((g153_168 (l6_168 : Int32).toNatClampNeg) - l5_168)))), (qf154, .inl (cf154, 3600, .inl g154_168)), (qf144, .inl (cf144, 2001, .inl g144_168)), (qf145, .inl (cf145, 2001, .inl g145_168)), (qf146, .inl (cf146, 2001, .inl g146_168)), (qf147, .inl (cf147, 20000, .inl g147_168)), (qf151, .inl (cf151, 60, .inl g151_168)), (qf110, .inl (cf110, 96, .inl f110)), (qf152, .inl (cf152, 60, .inl g152_168)), (qf150, .inl (cf150, 60, .inl g150_168)), (h0, .inr (13, z_7)), (qf105, .inl (cf105, 8, .inl f105)), (qf102, .inl (cf102, 2048, .inl f102)), (qf100, .inl (cf100, 48000, .inl f100)), (qf104, .inl (cf104, 8, .inl f104)), (qf106, .inl (cf106, 8, .inl f106)), (qf108, .inl (cf108, 8, .inl f108)), (qf107, .inl (cf107, 96, .inl f107)), (qf109, .inl (cf109, 96, .inl f109))] H := hP
      replace hD : va_D A [(qf153, .inl (cf153, 60, .inl (upd g153_168 (l6_168 : Int32).toNatClampNeg ((g153_168 (l6_168 : Int32).toNatClampNeg) - l5_168)))), (qf154, .inl (cf154, 3600, .inl g154_168)), (qf144, .inl (cf144, 2001, .inl g144_168)), (qf145, .inl (cf145, 2001, .inl g145_168)), (qf146, .inl (cf146, 2001, .inl g146_168)), (qf147, .inl (cf147, 20000, .inl g147_168)), (qf151, .inl (cf151, 60, .inl g151_168)), (qf110, .inl (cf110, 96, .inl f110)), (qf152, .inl (cf152, 60, .inl g152_168)), (qf150, .inl (cf150, 60, .inl g150_168)), (h0, .inr (13, z_7)), (qf105, .inl (cf105, 8, .inl f105)), (qf102, .inl (cf102, 2048, .inl f102)), (qf100, .inl (cf100, 48000, .inl f100)), (qf104, .inl (cf104, 8, .inl f104)), (qf106, .inl (cf106, 8, .inl f106)), (qf108, .inl (cf108, 8, .inl f108)), (qf107, .inl (cf107, 96, .inl f107)), (qf109, .inl (cf109, 96, .inl f109))] := hD
      refine lv_aload_n hx hb dX13_call_217 rfl (lv_at hl 2 rfl) ?_
      refine lv_iload hx hb dX13_call_218 (lv_at hl 1 rfl) ?_
      refine lv_iload hx hb dX13_call_220 (lv_at hl 0 rfl) ?_
      obtain ⟨⟨g908_0, g908_1, g908_2, g908_3, g908_4, u8_5⟩, hu_8, hsp⟩ := ox_bind hsp
      try dsimp only at hsp
      have hPc := hP.sub (ws' := [(h0, .inr (13, z_7)), (qf150, .inl (cf150, 60, .inl g150_168)), (qf151, .inl (cf151, 60, .inl g151_168)), (qf152, .inl (cf152, 60, .inl g152_168)), (qf153, .inl (cf153, 60, .inl (upd g153_168 (l6_168 : Int32).toNatClampNeg ((g153_168 (l6_168 : Int32).toNatClampNeg) - l5_168)))), (qf154, .inl (cf154, 3600, .inl g154_168))]) [10, 9, 6, 8, 0, 1] rfl
      have hDc := hD.sub (ws' := [(h0, .inr (13, z_7)), (qf150, .inl (cf150, 60, .inl g150_168)), (qf151, .inl (cf151, 60, .inl g151_168)), (qf152, .inl (cf152, 60, .inl g152_168)), (qf153, .inl (cf153, 60, .inl (upd g153_168 (l6_168 : Int32).toNatClampNeg ((g153_168 (l6_168 : Int32).toNatClampNeg) - l5_168)))), (qf154, .inl (cf154, 3600, .inl g154_168))]) [10, 9, 6, 8, 0, 1] (by decide) rfl
      have hKc := hK.sub (tys' := [(cf150, .int), (cf151, .int), (cf152, .int), (cf153, .int), (cf154, .int)]) [9, 6, 8, 0, 1] rfl
      have hFc := va_free (wc := [(h0, .inr (13, z_7)), (qf150, .inl (cf150, 60, .inl g150_168)), (qf151, .inl (cf151, 60, .inl g151_168)), (qf152, .inl (cf152, 60, .inl g152_168)), (qf153, .inl (cf153, 60, .inl (upd g153_168 (l6_168 : Int32).toNatClampNeg ((g153_168 (l6_168 : Int32).toNatClampNeg) - l5_168)))), (qf154, .inl (cf154, 3600, .inl g154_168))]) hD hS hA [10, 9, 6, 8, 0, 1] rfl
      refine va_callv (va_runV (As := [.int u7_0, .int u7_1]) (rest := []) ⟨hx, hb, hml, hown, hts⟩ (tn_enter l dC dI H.size h0 z_7 u7_0 u7_1 x149_168 qf150 qf151 qf152 qf153 qf154 cf150 g150_168 cf151 g151_168 cf152 g152_168 cf153 ((upd g153_168 (l6_168 : Int32).toNatClampNeg ((g153_168 (l6_168 : Int32).toNatClampNeg) - l5_168))) cf154 g154_168 nf g908_0 g908_1 g908_2 g908_3 g908_4 u8_5 hln_7 hfk_7_149 hfk_7_150 hfk_7_151 hfk_7_152 hfk_7_153 hfk_7_154 hu_8) (cwV 2 hts gv_h9_73 rfl rfl rfl (by decide +kernel) ⟨Nat.le_of_ble_eq_true rfl, Nat.le_of_ble_eq_true rfl⟩) ⟨fun a U g mk q => by obtain ⟨q0, q1, qP, qK, qD⟩ := q; exact ⟨q0, q1, qP, va_K.moved (u := U) (U := U.calling g mk a) (Vm.Alike.refl U.vm) qK, qD⟩, va_recv hKc hPc (ci := 13) (q0 := 0) rfl rfl, fun U hU hW => ⟨rfl, by rw [hU], by rw [hU]; exact hPc, va_K.moved hW.alike hKc, hDc.weaken (fun _ _ _ _ => trivial)⟩⟩ rfl rfl hl.1 rfl (lv_room (Nat.le_of_ble_eq_true rfl)) dX13_call_222 ⟨Nat.le_of_ble_eq_true rfl, Nat.le_of_ble_eq_true rfl⟩) hS (fun q _ h => hFc q h) hFc ?_
      clear hS
      intro u t H1 locs ht hvm hw hB hz1 hk1 hS
      obtain ⟨z_8, rfl⟩ : ∃ z, z = u := ⟨_, rfl⟩
      obtain ⟨hP1, hK1, hD1⟩ := hB
      rw [ht] at hP1
      have hK1 := va_K.moved hvm.symm hK1
      try dsimp only at hw
      have hPD := va_join (wr := [(qf144, .inl (cf144, 2001, .inl g144_168)), (qf145, .inl (cf145, 2001, .inl g145_168)), (qf146, .inl (cf146, 2001, .inl g146_168)), (qf147, .inl (cf147, 20000, .inl g147_168)), (qf110, .inl (cf110, 96, .inl f110)), (qf105, .inl (cf105, 8, .inl f105)), (qf102, .inl (cf102, 2048, .inl f102)), (qf100, .inl (cf100, 48000, .inl f100)), (qf104, .inl (cf104, 8, .inl f104)), (qf106, .inl (cf106, 8, .inl f106)), (qf108, .inl (cf108, 8, .inl f108)), (qf107, .inl (cf107, 96, .inl f107)), (qf109, .inl (cf109, 96, .inl f109))]) (w1 := [(h0, .inr (13, z_8)), (qf150, .inl (cf150, 60, .inl g908_0)), (qf151, .inl (cf151, 60, .inl g908_1)), (qf152, .inl (cf152, 60, .inl g908_2)), (qf153, .inl (cf153, 60, .inl g908_3)), (qf154, .inl (cf154, 3600, .inl g908_4))]) hP hD [10, 9, 6, 8, 0, 1] [2, 3, 4, 5, 7, 11, 12, 13, 14, 15, 16, 17, 18] rfl rfl (by decide) (by decide) hk1 hFc hP1 hD1
      clear hP hD
      obtain ⟨hP, hD⟩ := hPD
      replace hK := (hK.sub (tys' := [(cf144, .int), (cf145, .int), (cf146, .int), (cf147, .int), (cf110, .int), (cf105, .int), (cf102, .int), (cf100, .int), (cf104, .int), (cf106, .int), (cf108, .int), (cf107, .int), (cf109, .int)]) [2, 3, 4, 5, 7, 10, 11, 12, 13, 14, 15, 16, 17] rfl).app hK1
      clear hPc hDc hKc hFc hP1 hK1 hD1 hz1 hk1 ht hvm
      generalize H1 = H at hP hS ⊢
      replace hP : va_P (dC, dI) vwCl [(qf144, .inl (cf144, 2001, .inl g144_168)), (qf145, .inl (cf145, 2001, .inl g145_168)), (qf146, .inl (cf146, 2001, .inl g146_168)), (qf147, .inl (cf147, 20000, .inl g147_168)), (qf110, .inl (cf110, 96, .inl f110)), (qf105, .inl (cf105, 8, .inl f105)), (qf102, .inl (cf102, 2048, .inl f102)), (qf100, .inl (cf100, 48000, .inl f100)), (qf104, .inl (cf104, 8, .inl f104)), (qf106, .inl (cf106, 8, .inl f106)), (qf108, .inl (cf108, 8, .inl f108)), (qf107, .inl (cf107, 96, .inl f107)), (qf109, .inl (cf109, 96, .inl f109)), (h0, .inr (13, z_8)), (qf150, .inl (cf150, 60, .inl g908_0)), (qf151, .inl (cf151, 60, .inl g908_1)), (qf152, .inl (cf152, 60, .inl g908_2)), (qf153, .inl (cf153, 60, .inl g908_3)), (qf154, .inl (cf154, 3600, .inl g908_4))] H := hP
      replace hD : va_D A [(qf144, .inl (cf144, 2001, .inl g144_168)), (qf145, .inl (cf145, 2001, .inl g145_168)), (qf146, .inl (cf146, 2001, .inl g146_168)), (qf147, .inl (cf147, 20000, .inl g147_168)), (qf110, .inl (cf110, 96, .inl f110)), (qf105, .inl (cf105, 8, .inl f105)), (qf102, .inl (cf102, 2048, .inl f102)), (qf100, .inl (cf100, 48000, .inl f100)), (qf104, .inl (cf104, 8, .inl f104)), (qf106, .inl (cf106, 8, .inl f106)), (qf108, .inl (cf108, 8, .inl f108)), (qf107, .inl (cf107, 96, .inl f107)), (qf109, .inl (cf109, 96, .inl f109)), (h0, .inr (13, z_8)), (qf150, .inl (cf150, 60, .inl g908_0)), (qf151, .inl (cf151, 60, .inl g908_1)), (qf152, .inl (cf152, 60, .inl g908_2)), (qf153, .inl (cf153, 60, .inl g908_3)), (qf154, .inl (cf154, 3600, .inl g908_4))] := hD
      replace hK : va_K (dC, dI) vwCl [(cf144, .int), (cf145, .int), (cf146, .int), (cf147, .int), (cf110, .int), (cf105, .int), (cf102, .int), (cf100, .int), (cf104, .int), (cf106, .int), (cf108, .int), (cf107, .int), (cf109, .int), (cf150, .int), (cf151, .int), (cf152, .int), (cf153, .int), (cf154, .int)] s := hK
      obtain ⟨hwa_8, hln_8, hre_8, hch_8_149⟩ := hw
      have hfk_8_98 : z_8[98]? = some (.int v98) := (hre_8 98 (by decide)).trans (hfk_7_98)
      have hfk_8_100 : z_8[100]? = some (.ref qf100) := (hre_8 100 (by decide)).trans (hfk_7_100)
      have hfk_8_102 : z_8[102]? = some (.ref qf102) := (hre_8 102 (by decide)).trans (hfk_7_102)
      have hfk_8_104 : z_8[104]? = some (.ref qf104) := (hre_8 104 (by decide)).trans (hfk_7_104)
      have hfk_8_105 : z_8[105]? = some (.ref qf105) := (hre_8 105 (by decide)).trans (hfk_7_105)
      have hfk_8_106 : z_8[106]? = some (.ref qf106) := (hre_8 106 (by decide)).trans (hfk_7_106)
      have hfk_8_107 : z_8[107]? = some (.ref qf107) := (hre_8 107 (by decide)).trans (hfk_7_107)
      have hfk_8_108 : z_8[108]? = some (.ref qf108) := (hre_8 108 (by decide)).trans (hfk_7_108)
      have hfk_8_109 : z_8[109]? = some (.ref qf109) := (hre_8 109 (by decide)).trans (hfk_7_109)
      have hfk_8_110 : z_8[110]? = some (.ref qf110) := (hre_8 110 (by decide)).trans (hfk_7_110)
      have hfk_8_121 : z_8[121]? = some (.int u7_1) := (hre_8 121 (by decide)).trans (hch_7_121)
      have hfk_8_138 : z_8[138]? = some (.int x138_168) := (hre_8 138 (by decide)).trans (hfk_7_138)
      have hfk_8_139 : z_8[139]? = some (.int x139_168) := (hre_8 139 (by decide)).trans (hfk_7_139)
      have hfk_8_141 : z_8[141]? = some (.int x141_168) := (hre_8 141 (by decide)).trans (hfk_7_141)
      have hfk_8_142 : z_8[142]? = some (.int x142_168) := (hre_8 142 (by decide)).trans (hfk_7_142)
      have hfk_8_144 : z_8[144]? = some (.ref qf144) := (hre_8 144 (by decide)).trans (hfk_7_144)
      have hfk_8_145 : z_8[145]? = some (.ref qf145) := (hre_8 145 (by decide)).trans (hfk_7_145)
      have hfk_8_146 : z_8[146]? = some (.ref qf146) := (hre_8 146 (by decide)).trans (hfk_7_146)
      have hfk_8_147 : z_8[147]? = some (.ref qf147) := (hre_8 147 (by decide)).trans (hfk_7_147)
      have hfk_8_150 : z_8[150]? = some (.ref qf150) := (hre_8 150 (by decide)).trans (hfk_7_150)
      have hfk_8_151 : z_8[151]? = some (.ref qf151) := (hre_8 151 (by decide)).trans (hfk_7_151)
      have hfk_8_152 : z_8[152]? = some (.ref qf152) := (hre_8 152 (by decide)).trans (hfk_7_152)
      have hfk_8_153 : z_8[153]? = some (.ref qf153) := (hre_8 153 (by decide)).trans (hfk_7_153)
      have hfk_8_154 : z_8[154]? = some (.ref qf154) := (hre_8 154 (by decide)).trans (hfk_7_154)
      have hrq_8 : ∀ j : Nat, j ≠ 121 → j ≠ 138 → j ≠ 139 → j ≠ 141 → j ≠ 142 → j ≠ 149 → z_8[j]? = zs[j]? := fun j g121 g138 g139 g141 g142 g149 => (hre_8 j g149).trans (hrq_7 j g121 g138 g139 g141 g142 g149)
      refine lv_iconst (v := 0) hx hb dX13_call_225 (by decide) ?_
      refine lv_istore (lv' := [(11, .int 0), (10, .int u7_1), (9, .int u7_0), (0, .ref h0), (2, .int l2_168), (3, .int l3_168), (5, .int l5_168), (6, .int l6_168), (7, .int l7_168), (8, .int l8_168)]) hx hb dX13_call_226 hl (by decide) rfl (fun ls hl => ?_)
      replace hl : lv_has ls 12 [(11, .int 0), (0, .ref h0), (5, .int l5_168), (7, .int l7_168)] := lv_sub hl [0, 3, 6, 8] rfl
      replace hP := hP.sub (ws' := [(h0, .inr (13, z_8)), (qf150, .inl (cf150, 60, .inl g908_0)), (qf102, .inl (cf102, 2048, .inl f102)), (qf100, .inl (cf100, 48000, .inl f100)), (qf153, .inl (cf153, 60, .inl g908_3)), (qf104, .inl (cf104, 8, .inl f104)), (qf154, .inl (cf154, 3600, .inl g908_4)), (qf144, .inl (cf144, 2001, .inl g144_168)), (qf145, .inl (cf145, 2001, .inl g145_168)), (qf146, .inl (cf146, 2001, .inl g146_168)), (qf147, .inl (cf147, 20000, .inl g147_168)), (qf151, .inl (cf151, 60, .inl g908_1)), (qf110, .inl (cf110, 96, .inl f110)), (qf152, .inl (cf152, 60, .inl g908_2)), (qf105, .inl (cf105, 8, .inl f105)), (qf106, .inl (cf106, 8, .inl f106)), (qf108, .inl (cf108, 8, .inl f108)), (qf107, .inl (cf107, 96, .inl f107)), (qf109, .inl (cf109, 96, .inl f109))]) [13, 14, 6, 7, 17, 8, 18, 0, 1, 2, 3, 15, 4, 16, 5, 9, 10, 11, 12] rfl
      replace hD := hD.sub (ws' := [(h0, .inr (13, z_8)), (qf150, .inl (cf150, 60, .inl g908_0)), (qf102, .inl (cf102, 2048, .inl f102)), (qf100, .inl (cf100, 48000, .inl f100)), (qf153, .inl (cf153, 60, .inl g908_3)), (qf104, .inl (cf104, 8, .inl f104)), (qf154, .inl (cf154, 3600, .inl g908_4)), (qf144, .inl (cf144, 2001, .inl g144_168)), (qf145, .inl (cf145, 2001, .inl g145_168)), (qf146, .inl (cf146, 2001, .inl g146_168)), (qf147, .inl (cf147, 20000, .inl g147_168)), (qf151, .inl (cf151, 60, .inl g908_1)), (qf110, .inl (cf110, 96, .inl f110)), (qf152, .inl (cf152, 60, .inl g908_2)), (qf105, .inl (cf105, 8, .inl f105)), (qf106, .inl (cf106, 8, .inl f106)), (qf108, .inl (cf108, 8, .inl f108)), (qf107, .inl (cf107, 96, .inl f107)), (qf109, .inl (cf109, 96, .inl f109))]) [13, 14, 6, 7, 17, 8, 18, 0, 1, 2, 3, 15, 4, 16, 5, 9, 10, 11, 12] (by decide) rfl
      replace hK := hK.sub (tys' := [(cf150, .int), (cf102, .int), (cf100, .int), (cf153, .int), (cf104, .int), (cf154, .int), (cf144, .int), (cf145, .int), (cf146, .int), (cf147, .int), (cf151, .int), (cf110, .int), (cf152, .int), (cf105, .int), (cf106, .int), (cf108, .int), (cf107, .int), (cf109, .int)]) [13, 6, 7, 16, 8, 17, 0, 1, 2, 3, 14, 4, 15, 5, 9, 10, 11, 12] rfl
      obtain ⟨n_228, hn_228⟩ : ∃ z : Nat, z = nf := ⟨_, rfl⟩
      obtain ⟨l5_228, el5_228⟩ : ∃ z : Int32, z = l5_168 := ⟨_, rfl⟩
      obtain ⟨l7_228, el7_228⟩ : ∃ z : Int32, z = l7_168 := ⟨_, rfl⟩
      obtain ⟨l11_228, el11_228⟩ : ∃ z : Int32, z = 0 := ⟨_, rfl⟩
      obtain ⟨g144_228, eg144_228⟩ : ∃ z : Nat → Int32, z = g144_168 := ⟨_, rfl⟩
      obtain ⟨g145_228, eg145_228⟩ : ∃ z : Nat → Int32, z = g145_168 := ⟨_, rfl⟩
      obtain ⟨g146_228, eg146_228⟩ : ∃ z : Nat → Int32, z = g146_168 := ⟨_, rfl⟩
      obtain ⟨g147_228, eg147_228⟩ : ∃ z : Nat → Int32, z = g147_168 := ⟨_, rfl⟩
      obtain ⟨g150_228, eg150_228⟩ : ∃ z : Nat → Int32, z = g908_0 := ⟨_, rfl⟩
      obtain ⟨g151_228, eg151_228⟩ : ∃ z : Nat → Int32, z = g908_1 := ⟨_, rfl⟩
      obtain ⟨g152_228, eg152_228⟩ : ∃ z : Nat → Int32, z = g908_2 := ⟨_, rfl⟩
      obtain ⟨g153_228, eg153_228⟩ : ∃ z : Nat → Int32, z = g908_3 := ⟨_, rfl⟩
      obtain ⟨g154_228, eg154_228⟩ : ∃ z : Nat → Int32, z = g908_4 := ⟨_, rfl⟩
      obtain ⟨x121_228, ex121_228⟩ : ∃ z : Int32, z = u7_1 := ⟨_, rfl⟩
      obtain ⟨x138_228, ex138_228⟩ : ∃ z : Int32, z = x138_168 := ⟨_, rfl⟩
      obtain ⟨x139_228, ex139_228⟩ : ∃ z : Int32, z = x139_168 := ⟨_, rfl⟩
      obtain ⟨x141_228, ex141_228⟩ : ∃ z : Int32, z = x141_168 := ⟨_, rfl⟩
      obtain ⟨x142_228, ex142_228⟩ : ∃ z : Int32, z = x142_168 := ⟨_, rfl⟩
      obtain ⟨x149_228, ex149_228⟩ : ∃ z : Int32, z = u8_5 := ⟨_, rfl⟩
      replace hsp : lp_vm_call_228 nf n_228 a1 a2 v98 v121 v138 v139 v141 v142 v149 f150 f102 f100 f153 f104 f154 f144 f145 f146 f147 f151 f110 f152 f105 f106 f108 f107 f109 nS477 fS477 l5_228 l7_228 l11_228 g144_228 g145_228 g146_228 g147_228 g150_228 g151_228 g152_228 g153_228 g154_228 x121_228 x138_228 x139_228 x141_228 x142_228 x149_228 = some (o144, o145, o146, o147, o150, o151, o152, o153, o154, w121, w138, w139, w141, w142, w149) := by rw [hn_228, el5_228, el7_228, el11_228, eg144_228, eg145_228, eg146_228, eg147_228, eg150_228, eg151_228, eg152_228, eg153_228, eg154_228, ex121_228, ex138_228, ex139_228, ex141_228, ex142_228, ex149_228]; exact hsp
      replace hl : lv_has ls 12 [(11, .int l11_228), (0, .ref h0), (5, .int l5_228), (7, .int l7_228)] := by rw [el5_228, el7_228, el11_228]; exact hl
      obtain ⟨z228, ez228⟩ : ∃ z : List Value, z = z_8 := ⟨_, rfl⟩
      have hfh_228_98 : z228[98]? = some (.int v98) := by rw [ez228]; exact hfk_8_98
      have hfh_228_100 : z228[100]? = some (.ref qf100) := by rw [ez228]; exact hfk_8_100
      have hfh_228_102 : z228[102]? = some (.ref qf102) := by rw [ez228]; exact hfk_8_102
      have hfh_228_104 : z228[104]? = some (.ref qf104) := by rw [ez228]; exact hfk_8_104
      have hfh_228_105 : z228[105]? = some (.ref qf105) := by rw [ez228]; exact hfk_8_105
      have hfh_228_106 : z228[106]? = some (.ref qf106) := by rw [ez228]; exact hfk_8_106
      have hfh_228_107 : z228[107]? = some (.ref qf107) := by rw [ez228]; exact hfk_8_107
      have hfh_228_108 : z228[108]? = some (.ref qf108) := by rw [ez228]; exact hfk_8_108
      have hfh_228_109 : z228[109]? = some (.ref qf109) := by rw [ez228]; exact hfk_8_109
      have hfh_228_110 : z228[110]? = some (.ref qf110) := by rw [ez228]; exact hfk_8_110
      have hfh_228_121 : z228[121]? = some (.int x121_228) := by rw [ez228, ex121_228]; exact hfk_8_121
      have hfh_228_138 : z228[138]? = some (.int x138_228) := by rw [ez228, ex138_228]; exact hfk_8_138
      have hfh_228_139 : z228[139]? = some (.int x139_228) := by rw [ez228, ex139_228]; exact hfk_8_139
      have hfh_228_141 : z228[141]? = some (.int x141_228) := by rw [ez228, ex141_228]; exact hfk_8_141
      have hfh_228_142 : z228[142]? = some (.int x142_228) := by rw [ez228, ex142_228]; exact hfk_8_142
      have hfh_228_144 : z228[144]? = some (.ref qf144) := by rw [ez228]; exact hfk_8_144
      have hfh_228_145 : z228[145]? = some (.ref qf145) := by rw [ez228]; exact hfk_8_145
      have hfh_228_146 : z228[146]? = some (.ref qf146) := by rw [ez228]; exact hfk_8_146
      have hfh_228_147 : z228[147]? = some (.ref qf147) := by rw [ez228]; exact hfk_8_147
      have hfh_228_149 : z228[149]? = some (.int x149_228) := by rw [ez228, ex149_228]; exact hch_8_149
      have hfh_228_150 : z228[150]? = some (.ref qf150) := by rw [ez228]; exact hfk_8_150
      have hfh_228_151 : z228[151]? = some (.ref qf151) := by rw [ez228]; exact hfk_8_151
      have hfh_228_152 : z228[152]? = some (.ref qf152) := by rw [ez228]; exact hfk_8_152
      have hfh_228_153 : z228[153]? = some (.ref qf153) := by rw [ez228]; exact hfk_8_153
      have hfh_228_154 : z228[154]? = some (.ref qf154) := by rw [ez228]; exact hfk_8_154
      have hlh_228 : z228.length = 155 := by rw [ez228]; exact hln_8
      have hrh_228 : ∀ j : Nat, j ≠ 121 → j ≠ 138 → j ≠ 139 → j ≠ 141 → j ≠ 142 → j ≠ 149 → z228[j]? = zs[j]? := by rw [ez228]; exact hrq_8
      replace hP : va_P (dC, dI) vwCl [(h0, .inr (13, z228)), (qf150, .inl (cf150, 60, .inl g150_228)), (qf102, .inl (cf102, 2048, .inl f102)), (qf100, .inl (cf100, 48000, .inl f100)), (qf153, .inl (cf153, 60, .inl g153_228)), (qf104, .inl (cf104, 8, .inl f104)), (qf154, .inl (cf154, 3600, .inl g154_228)), (qf144, .inl (cf144, 2001, .inl g144_228)), (qf145, .inl (cf145, 2001, .inl g145_228)), (qf146, .inl (cf146, 2001, .inl g146_228)), (qf147, .inl (cf147, 20000, .inl g147_228)), (qf151, .inl (cf151, 60, .inl g151_228)), (qf110, .inl (cf110, 96, .inl f110)), (qf152, .inl (cf152, 60, .inl g152_228)), (qf105, .inl (cf105, 8, .inl f105)), (qf106, .inl (cf106, 8, .inl f106)), (qf108, .inl (cf108, 8, .inl f108)), (qf107, .inl (cf107, 96, .inl f107)), (qf109, .inl (cf109, 96, .inl f109))] H := by rw [ez228, eg144_228, eg145_228, eg146_228, eg147_228, eg150_228, eg151_228, eg152_228, eg153_228, eg154_228]; exact hP
      replace hD : va_D A [(h0, .inr (13, z228)), (qf150, .inl (cf150, 60, .inl g150_228)), (qf102, .inl (cf102, 2048, .inl f102)), (qf100, .inl (cf100, 48000, .inl f100)), (qf153, .inl (cf153, 60, .inl g153_228)), (qf104, .inl (cf104, 8, .inl f104)), (qf154, .inl (cf154, 3600, .inl g154_228)), (qf144, .inl (cf144, 2001, .inl g144_228)), (qf145, .inl (cf145, 2001, .inl g145_228)), (qf146, .inl (cf146, 2001, .inl g146_228)), (qf147, .inl (cf147, 20000, .inl g147_228)), (qf151, .inl (cf151, 60, .inl g151_228)), (qf110, .inl (cf110, 96, .inl f110)), (qf152, .inl (cf152, 60, .inl g152_228)), (qf105, .inl (cf105, 8, .inl f105)), (qf106, .inl (cf106, 8, .inl f106)), (qf108, .inl (cf108, 8, .inl f108)), (qf107, .inl (cf107, 96, .inl f107)), (qf109, .inl (cf109, 96, .inl f109))] := by rw [ez228, eg144_228, eg145_228, eg146_228, eg147_228, eg150_228, eg151_228, eg152_228, eg153_228, eg154_228]; exact hD
      clear hn_228 ez228 el5_228 el7_228 el11_228 eg144_228 eg145_228 eg146_228 eg147_228 eg150_228 eg151_228 eg152_228 eg153_228 eg154_228 ex121_228 ex138_228 ex139_228 ex141_228 ex142_228 ex149_228
      try clear hlo
      try clear hH
      revert hsp
      revert hP
      revert hD
      revert hS
      revert hl
      revert hrh_228
      revert hlh_228
      revert hfh_228_154
      revert hfh_228_153
      revert hfh_228_152
      revert hfh_228_151
      revert hfh_228_150
      revert hfh_228_149
      revert hfh_228_147
      revert hfh_228_146
      revert hfh_228_145
      revert hfh_228_144
      revert hfh_228_142
      revert hfh_228_141
      revert hfh_228_139
      revert hfh_228_138
      revert hfh_228_121
      revert hfh_228_110
      revert hfh_228_109
      revert hfh_228_108
      revert hfh_228_107
      revert hfh_228_106
      revert hfh_228_105
      revert hfh_228_104
      revert hfh_228_102
      revert hfh_228_100
      revert hfh_228_98
      revert x149_228
      revert x142_228
      revert x141_228
      revert x139_228
      revert x138_228
      revert x121_228
      revert g154_228
      revert g153_228
      revert g152_228
      revert g151_228
      revert g150_228
      revert g147_228
      revert g146_228
      revert g145_228
      revert g144_228
      revert l11_228
      revert l7_228
      revert l5_228
      revert z228
      revert ls
      revert locs
      revert H
      induction n_228 with
      | zero => intro H locs ls z228 l5_228 l7_228 l11_228 g144_228 g145_228 g146_228 g147_228 g150_228 g151_228 g152_228 g153_228 g154_228 x121_228 x138_228 x139_228 x141_228 x142_228 x149_228 hfh_228_98 hfh_228_100 hfh_228_102 hfh_228_104 hfh_228_105 hfh_228_106 hfh_228_107 hfh_228_108 hfh_228_109 hfh_228_110 hfh_228_121 hfh_228_138 hfh_228_139 hfh_228_141 hfh_228_142 hfh_228_144 hfh_228_145 hfh_228_146 hfh_228_147 hfh_228_149 hfh_228_150 hfh_228_151 hfh_228_152 hfh_228_153 hfh_228_154 hlh_228 hrh_228 hl hS hD hP hsp; unfold lp_vm_call_228 at hsp; cases hsp
      | succ n_228 ih_228 =>
        intro H locs ls z228 l5_228 l7_228 l11_228 g144_228 g145_228 g146_228 g147_228 g150_228 g151_228 g152_228 g153_228 g154_228 x121_228 x138_228 x139_228 x141_228 x142_228 x149_228 hfh_228_98 hfh_228_100 hfh_228_102 hfh_228_104 hfh_228_105 hfh_228_106 hfh_228_107 hfh_228_108 hfh_228_109 hfh_228_110 hfh_228_121 hfh_228_138 hfh_228_139 hfh_228_141 hfh_228_142 hfh_228_144 hfh_228_145 hfh_228_146 hfh_228_147 hfh_228_149 hfh_228_150 hfh_228_151 hfh_228_152 hfh_228_153 hfh_228_154 hlh_228 hrh_228 hl hS hD hP hsp
        unfold lp_vm_call_228 at hsp
        try dsimp only at hsp
        refine lv_iload hx hb dX13_call_228 (lv_at hl 0 rfl) ?_
        refine lv_iload hx hb dX13_call_230 (lv_at hl 2 rfl) ?_
        refine lv_icmp_ge (tgt := 268) hx hb dX13_call_232 (by decide) (fun c_21 => ?_) (fun c_21 => ?_)
        · rw [if_pos c_21] at hsp
          have hr0 := Option.some.inj hsp
          clear hsp
          obtain ⟨hq0, hr1⟩ := Prod.mk.inj hr0
          clear hr0
          obtain ⟨hq1, hr2⟩ := Prod.mk.inj hr1
          clear hr1
          obtain ⟨hq2, hr3⟩ := Prod.mk.inj hr2
          clear hr2
          obtain ⟨hq3, hr4⟩ := Prod.mk.inj hr3
          clear hr3
          obtain ⟨hq4, hr5⟩ := Prod.mk.inj hr4
          clear hr4
          obtain ⟨hq5, hr6⟩ := Prod.mk.inj hr5
          clear hr5
          obtain ⟨hq6, hr7⟩ := Prod.mk.inj hr6
          clear hr6
          obtain ⟨hq7, hr8⟩ := Prod.mk.inj hr7
          clear hr7
          obtain ⟨hq8, hr9⟩ := Prod.mk.inj hr8
          clear hr8
          obtain ⟨hq9, hr10⟩ := Prod.mk.inj hr9
          clear hr9
          obtain ⟨hq10, hr11⟩ := Prod.mk.inj hr10
          clear hr10
          obtain ⟨hq11, hr12⟩ := Prod.mk.inj hr11
          clear hr11
          obtain ⟨hq12, hr13⟩ := Prod.mk.inj hr12
          clear hr12
          obtain ⟨hq13, hr14⟩ := Prod.mk.inj hr13
          clear hr13
          subst hq0
          subst hq1
          subst hq2
          subst hq3
          subst hq4
          subst hq5
          subst hq6
          subst hq7
          subst hq8
          subst hq9
          subst hq10
          subst hq11
          subst hq12
          subst hq13
          subst hr14
          have hP9 := hP.sub (ws' := [(h0, .inr (13, z228)), (qf150, .inl (cf150, 60, .inl g150_228)), (qf102, .inl (cf102, 2048, .inl f102)), (qf100, .inl (cf100, 48000, .inl f100)), (qf153, .inl (cf153, 60, .inl g153_228)), (qf104, .inl (cf104, 8, .inl f104)), (qf154, .inl (cf154, 3600, .inl g154_228)), (qf144, .inl (cf144, 2001, .inl g144_228)), (qf145, .inl (cf145, 2001, .inl g145_228)), (qf146, .inl (cf146, 2001, .inl g146_228)), (qf147, .inl (cf147, 20000, .inl g147_228)), (qf151, .inl (cf151, 60, .inl g151_228)), (qf110, .inl (cf110, 96, .inl f110)), (qf152, .inl (cf152, 60, .inl g152_228)), (qf105, .inl (cf105, 8, .inl f105)), (qf106, .inl (cf106, 8, .inl f106)), (qf108, .inl (cf108, 8, .inl f108)), (qf107, .inl (cf107, 96, .inl f107)), (qf109, .inl (cf109, 96, .inl f109))]) [0, 1, 2, 3, 4, 5, 6, 7, 8, 9, 10, 11, 12, 13, 14, 15, 16, 17, 18] rfl
          have hD9 := hD.sub (ws' := [(h0, .inr (13, z228)), (qf150, .inl (cf150, 60, .inl g150_228)), (qf102, .inl (cf102, 2048, .inl f102)), (qf100, .inl (cf100, 48000, .inl f100)), (qf153, .inl (cf153, 60, .inl g153_228)), (qf104, .inl (cf104, 8, .inl f104)), (qf154, .inl (cf154, 3600, .inl g154_228)), (qf144, .inl (cf144, 2001, .inl g144_228)), (qf145, .inl (cf145, 2001, .inl g145_228)), (qf146, .inl (cf146, 2001, .inl g146_228)), (qf147, .inl (cf147, 20000, .inl g147_228)), (qf151, .inl (cf151, 60, .inl g151_228)), (qf110, .inl (cf110, 96, .inl f110)), (qf152, .inl (cf152, 60, .inl g152_228)), (qf105, .inl (cf105, 8, .inl f105)), (qf106, .inl (cf106, 8, .inl f106)), (qf108, .inl (cf108, 8, .inl f108)), (qf107, .inl (cf107, 96, .inl f107)), (qf109, .inl (cf109, 96, .inl f109))]) [0, 1, 2, 3, 4, 5, 6, 7, 8, 9, 10, 11, 12, 13, 14, 15, 16, 17, 18] (by decide) rfl
          have hK9 := hK.sub (tys' := [(cf150, .int), (cf102, .int), (cf100, .int), (cf153, .int), (cf104, .int), (cf154, .int), (cf144, .int), (cf145, .int), (cf146, .int), (cf147, .int), (cf151, .int), (cf110, .int), (cf152, .int), (cf105, .int), (cf106, .int), (cf108, .int), (cf107, .int), (cf109, .int)]) [0, 1, 2, 3, 4, 5, 6, 7, 8, 9, 10, 11, 12, 13, 14, 15, 16, 17] rfl
          exact W.vret hx hb hr (fun t ht hW => ⟨⟨(z228), rfl, ⟨trivial, hlh_228, hrh_228, hfh_228_121, hfh_228_138, hfh_228_139, hfh_228_141, hfh_228_142, hfh_228_149⟩, by rw [ht]; exact hP9, va_K.moved hW.alike hK9, hD9⟩, hS.F ht⟩) hS.2.2 dX13_call_268
        · rw [if_neg c_21] at hsp
          refine lv_aload_n hx hb dX13_call_235 rfl (lv_at hl 1 rfl) ?_
          refine va_get (D := (dC, dI)) (ci := 13) (v := .ref qf154) (C := RX13) (T := TX13) (N := 155) hx hb hts uV_h9_X13 hown hK hP 0 rfl rfl 154 (by decide) (hts (.fieldLink RX13 306 "ClassMillModel" "cells" "[I") mw_h9_616) (fun _ h9 => h9) hfh_228_154 dX13_call_236 ?_
          refine lv_bipush (v := 60) hx hb dX13_call_239 (by decide) ?_
          refine lv_aload_n hx hb dX13_call_241 rfl (lv_at hl 1 rfl) ?_
          refine va_get (D := (dC, dI)) (ci := 13) (v := .int x149_228) (C := RX13) (T := TX13) (N := 155) hx hb hts uV_h9_X13 hown hK hP 0 rfl rfl 149 (by decide) (hts (.fieldLink RX13 1058 "ClassMillModel" "depth" "I") mw_h9_370) (fun _ h9 => h9) hfh_228_149 dX13_call_242 ?_
          refine lv_iconst (v := 1) hx hb dX13_call_245 (by decide) ?_
          refine lv_isub hx hb dX13_call_246 ?_
          refine lv_imul hx hb dX13_call_247 ?_
          refine lv_iload hx hb dX13_call_248 (lv_at hl 0 rfl) ?_
          refine lv_iadd hx hb dX13_call_250 ?_
          refine lv_aload_n hx hb dX13_call_251 rfl (lv_at hl 1 rfl) ?_
          refine va_get (D := (dC, dI)) (ci := 13) (v := .ref qf154) (C := RX13) (T := TX13) (N := 155) hx hb hts uV_h9_X13 hown hK hP 0 rfl rfl 154 (by decide) (hts (.fieldLink RX13 306 "ClassMillModel" "cells" "[I") mw_h9_616) (fun _ h9 => h9) hfh_228_154 dX13_call_252 ?_
          refine lv_iload hx hb dX13_call_255 (lv_at hl 3 rfl) ?_
          refine lv_iload hx hb dX13_call_257 (lv_at hl 0 rfl) ?_
          refine lv_iadd hx hb dX13_call_259 ?_
          obtain ⟨hi_22, hsp⟩ := ox_in hsp
          refine va_iald hx hb hK hP 6 5 rfl rfl (i := (l7_228 + l11_228)) hi_22 dX13_call_260 ?_
          obtain ⟨hi_23, hsp⟩ := ox_in hsp
          refine va_iast hx hb hK hP hD hS 6 5 rfl rfl (i := ((60 * (x149_228 - 1)) + l11_228)) (x := (g154_228 ((l7_228 + l11_228) : Int32).toNatClampNeg)) hi_23 dX13_call_261 ?_
          clear hP hD hS
          intro H locs hP hD hS
          replace hP : va_P (dC, dI) vwCl [(h0, .inr (13, z228)), (qf150, .inl (cf150, 60, .inl g150_228)), (qf102, .inl (cf102, 2048, .inl f102)), (qf100, .inl (cf100, 48000, .inl f100)), (qf153, .inl (cf153, 60, .inl g153_228)), (qf104, .inl (cf104, 8, .inl f104)), (qf154, .inl (cf154, 3600, .inl (upd g154_228 (((60 * (x149_228 - 1)) + l11_228) : Int32).toNatClampNeg (g154_228 ((l7_228 + l11_228) : Int32).toNatClampNeg)))), (qf144, .inl (cf144, 2001, .inl g144_228)), (qf145, .inl (cf145, 2001, .inl g145_228)), (qf146, .inl (cf146, 2001, .inl g146_228)), (qf147, .inl (cf147, 20000, .inl g147_228)), (qf151, .inl (cf151, 60, .inl g151_228)), (qf110, .inl (cf110, 96, .inl f110)), (qf152, .inl (cf152, 60, .inl g152_228)), (qf105, .inl (cf105, 8, .inl f105)), (qf106, .inl (cf106, 8, .inl f106)), (qf108, .inl (cf108, 8, .inl f108)), (qf107, .inl (cf107, 96, .inl f107)), (qf109, .inl (cf109, 96, .inl f109))] H := hP
          replace hD : va_D A [(h0, .inr (13, z228)), (qf150, .inl (cf150, 60, .inl g150_228)), (qf102, .inl (cf102, 2048, .inl f102)), (qf100, .inl (cf100, 48000, .inl f100)), (qf153, .inl (cf153, 60, .inl g153_228)), (qf104, .inl (cf104, 8, .inl f104)), (qf154, .inl (cf154, 3600, .inl (upd g154_228 (((60 * (x149_228 - 1)) + l11_228) : Int32).toNatClampNeg (g154_228 ((l7_228 + l11_228) : Int32).toNatClampNeg)))), (qf144, .inl (cf144, 2001, .inl g144_228)), (qf145, .inl (cf145, 2001, .inl g145_228)), (qf146, .inl (cf146, 2001, .inl g146_228)), (qf147, .inl (cf147, 20000, .inl g147_228)), (qf151, .inl (cf151, 60, .inl g151_228)), (qf110, .inl (cf110, 96, .inl f110)), (qf152, .inl (cf152, 60, .inl g152_228)), (qf105, .inl (cf105, 8, .inl f105)), (qf106, .inl (cf106, 8, .inl f106)), (qf108, .inl (cf108, 8, .inl f108)), (qf107, .inl (cf107, 96, .inl f107)), (qf109, .inl (cf109, 96, .inl f109))] := hD
          refine lv_iinc (v := (l11_228 + 1)) (lv' := [(11, .int (l11_228 + 1)), (0, .ref h0), (5, .int l5_228), (7, .int l7_228)]) hx hb dX13_call_262 hl (k := 0) rfl rfl (by decide) rfl (fun ls hl => ?_)
          refine lv_goto (tgt := 228) hx hb dX13_call_265 (by decide) ?_
          exact ih_228 H locs ls z228 l5_228 l7_228 (l11_228 + 1) g144_228 g145_228 g146_228 g147_228 g150_228 g151_228 g152_228 g153_228 (upd g154_228 (((60 * (x149_228 - 1)) + l11_228) : Int32).toNatClampNeg (g154_228 ((l7_228 + l11_228) : Int32).toNatClampNeg)) x121_228 x138_228 x139_228 x141_228 x142_228 x149_228 (hfh_228_98) (hfh_228_100) (hfh_228_102) (hfh_228_104) (hfh_228_105) (hfh_228_106) (hfh_228_107) (hfh_228_108) (hfh_228_109) (hfh_228_110) (hfh_228_121) (hfh_228_138) (hfh_228_139) (hfh_228_141) (hfh_228_142) (hfh_228_144) (hfh_228_145) (hfh_228_146) (hfh_228_147) (hfh_228_149) (hfh_228_150) (hfh_228_151) (hfh_228_152) (hfh_228_153) (hfh_228_154) hlh_228 hrh_228 (lv_sub hl [0, 1, 2, 3] rfl) hS (hD.sub (ws' := [(h0, .inr (13, z228)), (qf150, .inl (cf150, 60, .inl g150_228)), (qf102, .inl (cf102, 2048, .inl f102)), (qf100, .inl (cf100, 48000, .inl f100)), (qf153, .inl (cf153, 60, .inl g153_228)), (qf104, .inl (cf104, 8, .inl f104)), (qf154, .inl (cf154, 3600, .inl (upd g154_228 (((60 * (x149_228 - 1)) + l11_228) : Int32).toNatClampNeg (g154_228 ((l7_228 + l11_228) : Int32).toNatClampNeg)))), (qf144, .inl (cf144, 2001, .inl g144_228)), (qf145, .inl (cf145, 2001, .inl g145_228)), (qf146, .inl (cf146, 2001, .inl g146_228)), (qf147, .inl (cf147, 20000, .inl g147_228)), (qf151, .inl (cf151, 60, .inl g151_228)), (qf110, .inl (cf110, 96, .inl f110)), (qf152, .inl (cf152, 60, .inl g152_228)), (qf105, .inl (cf105, 8, .inl f105)), (qf106, .inl (cf106, 8, .inl f106)), (qf108, .inl (cf108, 8, .inl f108)), (qf107, .inl (cf107, 96, .inl f107)), (qf109, .inl (cf109, 96, .inl f109))]) [0, 1, 2, 3, 4, 5, 6, 7, 8, 9, 10, 11, 12, 13, 14, 15, 16, 17, 18] (by decide) rfl) (hP.sub (ws' := [(h0, .inr (13, z228)), (qf150, .inl (cf150, 60, .inl g150_228)), (qf102, .inl (cf102, 2048, .inl f102)), (qf100, .inl (cf100, 48000, .inl f100)), (qf153, .inl (cf153, 60, .inl g153_228)), (qf104, .inl (cf104, 8, .inl f104)), (qf154, .inl (cf154, 3600, .inl (upd g154_228 (((60 * (x149_228 - 1)) + l11_228) : Int32).toNatClampNeg (g154_228 ((l7_228 + l11_228) : Int32).toNatClampNeg)))), (qf144, .inl (cf144, 2001, .inl g144_228)), (qf145, .inl (cf145, 2001, .inl g145_228)), (qf146, .inl (cf146, 2001, .inl g146_228)), (qf147, .inl (cf147, 20000, .inl g147_228)), (qf151, .inl (cf151, 60, .inl g151_228)), (qf110, .inl (cf110, 96, .inl f110)), (qf152, .inl (cf152, 60, .inl g152_228)), (qf105, .inl (cf105, 8, .inl f105)), (qf106, .inl (cf106, 8, .inl f106)), (qf108, .inl (cf108, 8, .inl f108)), (qf107, .inl (cf107, 96, .inl f107)), (qf109, .inl (cf109, 96, .inl f109))]) [0, 1, 2, 3, 4, 5, 6, 7, 8, 9, 10, 11, 12, 13, 14, 15, 16, 17, 18] rfl) hsp
    · rw [if_pos c_18] at hsp
      refine lv_aload_n hx hb dX13_call_199 rfl (lv_at hl 2 rfl) ?_
      refine lv_iconst (v := 5) hx hb dX13_call_200 (by decide) ?_
      refine va_put (D := (dC, dI)) (ci := 13) (v := .int 5) (ty := .int) (C := RX13) (T := TX13) (N := 155) hx hb hts uV_h9_X13 tyX13 tyX13_ok nmX13 hown hK hP hD hS 10 rfl rfl 138 (by decide) (hts (.fieldLink RX13 858 "ClassMillModel" "state" "I") mw_h9_364) (fun _ h9 => h9) rfl (by decide +kernel) rfl rfl (by rw [hln_7]; decide) dX13_call_201 ?_
      clear hP hD hS
      intro H locs hP hD hS
      obtain ⟨fs_24, efs_24⟩ : ∃ zf : List Value, zf = z_7.set 138 (.int 5) := ⟨_, rfl⟩
      rw [← efs_24] at hP hD
      have hlfs_24 : fs_24.length = 155 := by rw [efs_24, List.length_set]; exact hln_7
      have hfs_24_98 : fs_24[98]? = some (.int v98) := by rw [efs_24, List.getElem?_set_ne (by decide)]; exact hfk_7_98
      have hfs_24_100 : fs_24[100]? = some (.ref qf100) := by rw [efs_24, List.getElem?_set_ne (by decide)]; exact hfk_7_100
      have hfs_24_102 : fs_24[102]? = some (.ref qf102) := by rw [efs_24, List.getElem?_set_ne (by decide)]; exact hfk_7_102
      have hfs_24_104 : fs_24[104]? = some (.ref qf104) := by rw [efs_24, List.getElem?_set_ne (by decide)]; exact hfk_7_104
      have hfs_24_105 : fs_24[105]? = some (.ref qf105) := by rw [efs_24, List.getElem?_set_ne (by decide)]; exact hfk_7_105
      have hfs_24_106 : fs_24[106]? = some (.ref qf106) := by rw [efs_24, List.getElem?_set_ne (by decide)]; exact hfk_7_106
      have hfs_24_107 : fs_24[107]? = some (.ref qf107) := by rw [efs_24, List.getElem?_set_ne (by decide)]; exact hfk_7_107
      have hfs_24_108 : fs_24[108]? = some (.ref qf108) := by rw [efs_24, List.getElem?_set_ne (by decide)]; exact hfk_7_108
      have hfs_24_109 : fs_24[109]? = some (.ref qf109) := by rw [efs_24, List.getElem?_set_ne (by decide)]; exact hfk_7_109
      have hfs_24_110 : fs_24[110]? = some (.ref qf110) := by rw [efs_24, List.getElem?_set_ne (by decide)]; exact hfk_7_110
      have hfs_24_121 : fs_24[121]? = some (.int u7_1) := by rw [efs_24, List.getElem?_set_ne (by decide)]; exact hch_7_121
      have hfs_24_139 : fs_24[139]? = some (.int x139_168) := by rw [efs_24, List.getElem?_set_ne (by decide)]; exact hfk_7_139
      have hfs_24_141 : fs_24[141]? = some (.int x141_168) := by rw [efs_24, List.getElem?_set_ne (by decide)]; exact hfk_7_141
      have hfs_24_142 : fs_24[142]? = some (.int x142_168) := by rw [efs_24, List.getElem?_set_ne (by decide)]; exact hfk_7_142
      have hfs_24_144 : fs_24[144]? = some (.ref qf144) := by rw [efs_24, List.getElem?_set_ne (by decide)]; exact hfk_7_144
      have hfs_24_145 : fs_24[145]? = some (.ref qf145) := by rw [efs_24, List.getElem?_set_ne (by decide)]; exact hfk_7_145
      have hfs_24_146 : fs_24[146]? = some (.ref qf146) := by rw [efs_24, List.getElem?_set_ne (by decide)]; exact hfk_7_146
      have hfs_24_147 : fs_24[147]? = some (.ref qf147) := by rw [efs_24, List.getElem?_set_ne (by decide)]; exact hfk_7_147
      have hfs_24_149 : fs_24[149]? = some (.int x149_168) := by rw [efs_24, List.getElem?_set_ne (by decide)]; exact hfk_7_149
      have hfs_24_150 : fs_24[150]? = some (.ref qf150) := by rw [efs_24, List.getElem?_set_ne (by decide)]; exact hfk_7_150
      have hfs_24_151 : fs_24[151]? = some (.ref qf151) := by rw [efs_24, List.getElem?_set_ne (by decide)]; exact hfk_7_151
      have hfs_24_152 : fs_24[152]? = some (.ref qf152) := by rw [efs_24, List.getElem?_set_ne (by decide)]; exact hfk_7_152
      have hfs_24_153 : fs_24[153]? = some (.ref qf153) := by rw [efs_24, List.getElem?_set_ne (by decide)]; exact hfk_7_153
      have hfs_24_154 : fs_24[154]? = some (.ref qf154) := by rw [efs_24, List.getElem?_set_ne (by decide)]; exact hfk_7_154
      have hfs_24_138 : fs_24[138]? = some (.int 5) := by rw [efs_24, List.getElem?_set_self (by rw [hln_7]; decide)]
      replace hP : va_P (dC, dI) vwCl [(qf153, .inl (cf153, 60, .inl g153_168)), (qf154, .inl (cf154, 3600, .inl g154_168)), (qf144, .inl (cf144, 2001, .inl g144_168)), (qf145, .inl (cf145, 2001, .inl g145_168)), (qf146, .inl (cf146, 2001, .inl g146_168)), (qf147, .inl (cf147, 20000, .inl g147_168)), (qf151, .inl (cf151, 60, .inl g151_168)), (qf110, .inl (cf110, 96, .inl f110)), (qf152, .inl (cf152, 60, .inl g152_168)), (qf150, .inl (cf150, 60, .inl g150_168)), (h0, .inr (13, fs_24)), (qf105, .inl (cf105, 8, .inl f105)), (qf102, .inl (cf102, 2048, .inl f102)), (qf100, .inl (cf100, 48000, .inl f100)), (qf104, .inl (cf104, 8, .inl f104)), (qf106, .inl (cf106, 8, .inl f106)), (qf108, .inl (cf108, 8, .inl f108)), (qf107, .inl (cf107, 96, .inl f107)), (qf109, .inl (cf109, 96, .inl f109))] H := hP
      replace hD : va_D A [(qf153, .inl (cf153, 60, .inl g153_168)), (qf154, .inl (cf154, 3600, .inl g154_168)), (qf144, .inl (cf144, 2001, .inl g144_168)), (qf145, .inl (cf145, 2001, .inl g145_168)), (qf146, .inl (cf146, 2001, .inl g146_168)), (qf147, .inl (cf147, 20000, .inl g147_168)), (qf151, .inl (cf151, 60, .inl g151_168)), (qf110, .inl (cf110, 96, .inl f110)), (qf152, .inl (cf152, 60, .inl g152_168)), (qf150, .inl (cf150, 60, .inl g150_168)), (h0, .inr (13, fs_24)), (qf105, .inl (cf105, 8, .inl f105)), (qf102, .inl (cf102, 2048, .inl f102)), (qf100, .inl (cf100, 48000, .inl f100)), (qf104, .inl (cf104, 8, .inl f104)), (qf106, .inl (cf106, 8, .inl f106)), (qf108, .inl (cf108, 8, .inl f108)), (qf107, .inl (cf107, 96, .inl f107)), (qf109, .inl (cf109, 96, .inl f109))] := hD
      have hrs_25 : ∀ j : Nat, j ≠ 121 → j ≠ 138 → j ≠ 139 → j ≠ 141 → j ≠ 142 → j ≠ 149 → fs_24[j]? = zs[j]? := fun j g121 g138 g139 g141 g142 g149 => ((congrArg (fun z : List Value => z[j]?) efs_24).trans (List.getElem?_set_ne (Ne.symm g138))).trans (hrq_7 j g121 g138 g139 g141 g142 g149)
      have hr0 := Option.some.inj hsp
      clear hsp
      obtain ⟨hq0, hr1⟩ := Prod.mk.inj hr0
      clear hr0
      obtain ⟨hq1, hr2⟩ := Prod.mk.inj hr1
      clear hr1
      obtain ⟨hq2, hr3⟩ := Prod.mk.inj hr2
      clear hr2
      obtain ⟨hq3, hr4⟩ := Prod.mk.inj hr3
      clear hr3
      obtain ⟨hq4, hr5⟩ := Prod.mk.inj hr4
      clear hr4
      obtain ⟨hq5, hr6⟩ := Prod.mk.inj hr5
      clear hr5
      obtain ⟨hq6, hr7⟩ := Prod.mk.inj hr6
      clear hr6
      obtain ⟨hq7, hr8⟩ := Prod.mk.inj hr7
      clear hr7
      obtain ⟨hq8, hr9⟩ := Prod.mk.inj hr8
      clear hr8
      obtain ⟨hq9, hr10⟩ := Prod.mk.inj hr9
      clear hr9
      obtain ⟨hq10, hr11⟩ := Prod.mk.inj hr10
      clear hr10
      obtain ⟨hq11, hr12⟩ := Prod.mk.inj hr11
      clear hr11
      obtain ⟨hq12, hr13⟩ := Prod.mk.inj hr12
      clear hr12
      obtain ⟨hq13, hr14⟩ := Prod.mk.inj hr13
      clear hr13
      subst hq0
      subst hq1
      subst hq2
      subst hq3
      subst hq4
      subst hq5
      subst hq6
      subst hq7
      subst hq8
      subst hq9
      subst hq10
      subst hq11
      subst hq12
      subst hq13
      subst hr14
      have hP9 := hP.sub (ws' := [(h0, .inr (13, fs_24)), (qf150, .inl (cf150, 60, .inl g150_168)), (qf102, .inl (cf102, 2048, .inl f102)), (qf100, .inl (cf100, 48000, .inl f100)), (qf153, .inl (cf153, 60, .inl g153_168)), (qf104, .inl (cf104, 8, .inl f104)), (qf154, .inl (cf154, 3600, .inl g154_168)), (qf144, .inl (cf144, 2001, .inl g144_168)), (qf145, .inl (cf145, 2001, .inl g145_168)), (qf146, .inl (cf146, 2001, .inl g146_168)), (qf147, .inl (cf147, 20000, .inl g147_168)), (qf151, .inl (cf151, 60, .inl g151_168)), (qf110, .inl (cf110, 96, .inl f110)), (qf152, .inl (cf152, 60, .inl g152_168)), (qf105, .inl (cf105, 8, .inl f105)), (qf106, .inl (cf106, 8, .inl f106)), (qf108, .inl (cf108, 8, .inl f108)), (qf107, .inl (cf107, 96, .inl f107)), (qf109, .inl (cf109, 96, .inl f109))]) [10, 9, 12, 13, 0, 14, 1, 2, 3, 4, 5, 6, 7, 8, 11, 15, 16, 17, 18] rfl
      have hD9 := hD.sub (ws' := [(h0, .inr (13, fs_24)), (qf150, .inl (cf150, 60, .inl g150_168)), (qf102, .inl (cf102, 2048, .inl f102)), (qf100, .inl (cf100, 48000, .inl f100)), (qf153, .inl (cf153, 60, .inl g153_168)), (qf104, .inl (cf104, 8, .inl f104)), (qf154, .inl (cf154, 3600, .inl g154_168)), (qf144, .inl (cf144, 2001, .inl g144_168)), (qf145, .inl (cf145, 2001, .inl g145_168)), (qf146, .inl (cf146, 2001, .inl g146_168)), (qf147, .inl (cf147, 20000, .inl g147_168)), (qf151, .inl (cf151, 60, .inl g151_168)), (qf110, .inl (cf110, 96, .inl f110)), (qf152, .inl (cf152, 60, .inl g152_168)), (qf105, .inl (cf105, 8, .inl f105)), (qf106, .inl (cf106, 8, .inl f106)), (qf108, .inl (cf108, 8, .inl f108)), (qf107, .inl (cf107, 96, .inl f107)), (qf109, .inl (cf109, 96, .inl f109))]) [10, 9, 12, 13, 0, 14, 1, 2, 3, 4, 5, 6, 7, 8, 11, 15, 16, 17, 18] (by decide) rfl
      have hK9 := hK.sub (tys' := [(cf150, .int), (cf102, .int), (cf100, .int), (cf153, .int), (cf104, .int), (cf154, .int), (cf144, .int), (cf145, .int), (cf146, .int), (cf147, .int), (cf151, .int), (cf110, .int), (cf152, .int), (cf105, .int), (cf106, .int), (cf108, .int), (cf107, .int), (cf109, .int)]) [9, 11, 12, 0, 13, 1, 2, 3, 4, 5, 6, 7, 8, 10, 14, 15, 16, 17] rfl
      exact W.vret hx hb hr (fun t ht hW => ⟨⟨(fs_24), rfl, ⟨trivial, hlfs_24, hrs_25, hfs_24_121, hfs_24_138, hfs_24_139, hfs_24_141, hfs_24_142, hfs_24_149⟩, by rw [ht]; exact hP9, va_K.moved hW.alike hK9, hD9⟩, hS.F ht⟩) hS.2.2 dX13_call_204
  intro hj_168
  refine jn_use (α := Heap × List Loc × Array Slot × List Value × Int32 × Int32 × Int32 × Int32 × Int32 × Int32 × (Nat → Int32) × (Nat → Int32) × (Nat → Int32) × (Nat → Int32) × (Nat → Int32) × (Nat → Int32) × (Nat → Int32) × (Nat → Int32) × (Nat → Int32) × Int32 × Int32 × Int32 × Int32 × Int32 × Int32) (fun x9 => x9.1) (fun x9 => x9.2.1) (fun x9 => F0 m 166 x9.2.2.1 [.int (x9.2.2.2.2.2.2.2.2.2.1)]) (fun x9 => match x9 with | (H, locs, ls, z166, l2_166, l3_166, l5_166, l6_166, l7_166, s0_166, g144_166, g145_166, g146_166, g147_166, g150_166, g151_166, g152_166, g153_166, g154_166, x121_166, x138_166, x139_166, x141_166, x142_166, x149_166) => lv_has ls 12 [(0, .ref h0), (2, .int l2_166), (3, .int l3_166), (5, .int l5_166), (6, .int l6_166), (7, .int l7_166)] ∧ va_S A s.heap H locs ∧ va_D A [(h0, .inr (13, z166)), (qf150, .inl (cf150, 60, .inl g150_166)), (qf102, .inl (cf102, 2048, .inl f102)), (qf100, .inl (cf100, 48000, .inl f100)), (qf153, .inl (cf153, 60, .inl g153_166)), (qf104, .inl (cf104, 8, .inl f104)), (qf154, .inl (cf154, 3600, .inl g154_166)), (qf144, .inl (cf144, 2001, .inl g144_166)), (qf145, .inl (cf145, 2001, .inl g145_166)), (qf146, .inl (cf146, 2001, .inl g146_166)), (qf147, .inl (cf147, 20000, .inl g147_166)), (qf151, .inl (cf151, 60, .inl g151_166)), (qf110, .inl (cf110, 96, .inl f110)), (qf152, .inl (cf152, 60, .inl g152_166)), (qf105, .inl (cf105, 8, .inl f105)), (qf106, .inl (cf106, 8, .inl f106)), (qf108, .inl (cf108, 8, .inl f108)), (qf107, .inl (cf107, 96, .inl f107)), (qf109, .inl (cf109, 96, .inl f109))] ∧ va_P (dC, dI) vwCl [(h0, .inr (13, z166)), (qf150, .inl (cf150, 60, .inl g150_166)), (qf102, .inl (cf102, 2048, .inl f102)), (qf100, .inl (cf100, 48000, .inl f100)), (qf153, .inl (cf153, 60, .inl g153_166)), (qf104, .inl (cf104, 8, .inl f104)), (qf154, .inl (cf154, 3600, .inl g154_166)), (qf144, .inl (cf144, 2001, .inl g144_166)), (qf145, .inl (cf145, 2001, .inl g145_166)), (qf146, .inl (cf146, 2001, .inl g146_166)), (qf147, .inl (cf147, 20000, .inl g147_166)), (qf151, .inl (cf151, 60, .inl g151_166)), (qf110, .inl (cf110, 96, .inl f110)), (qf152, .inl (cf152, 60, .inl g152_166)), (qf105, .inl (cf105, 8, .inl f105)), (qf106, .inl (cf106, 8, .inl f106)), (qf108, .inl (cf108, 8, .inl f108)), (qf107, .inl (cf107, 96, .inl f107)), (qf109, .inl (cf109, 96, .inl f109))] H ∧ z166[98]? = some (.int v98) ∧ z166[100]? = some (.ref qf100) ∧ z166[102]? = some (.ref qf102) ∧ z166[104]? = some (.ref qf104) ∧ z166[105]? = some (.ref qf105) ∧ z166[106]? = some (.ref qf106) ∧ z166[107]? = some (.ref qf107) ∧ z166[108]? = some (.ref qf108) ∧ z166[109]? = some (.ref qf109) ∧ z166[110]? = some (.ref qf110) ∧ z166[121]? = some (.int x121_166) ∧ z166[138]? = some (.int x138_166) ∧ z166[139]? = some (.int x139_166) ∧ z166[141]? = some (.int x141_166) ∧ z166[142]? = some (.int x142_166) ∧ z166[144]? = some (.ref qf144) ∧ z166[145]? = some (.ref qf145) ∧ z166[146]? = some (.ref qf146) ∧ z166[147]? = some (.ref qf147) ∧ z166[149]? = some (.int x149_166) ∧ z166[150]? = some (.ref qf150) ∧ z166[151]? = some (.ref qf151) ∧ z166[152]? = some (.ref qf152) ∧ z166[153]? = some (.ref qf153) ∧ z166[154]? = some (.ref qf154) ∧ z166.length = 155 ∧ (∀ j : Nat, j ≠ 121 → j ≠ 138 → j ≠ 139 → j ≠ 141 → j ≠ 142 → j ≠ 149 → z166[j]? = zs[j]?) ∧ jn_vm_call_166 nf a1 a2 v98 v121 v138 v139 v141 v142 v149 f150 f102 f100 f153 f104 f154 f144 f145 f146 f147 f151 f110 f152 f105 f106 f108 f107 f109 nS477 fS477 l2_166 l3_166 l5_166 l6_166 l7_166 s0_166 g144_166 g145_166 g146_166 g147_166 g150_166 g151_166 g152_166 g153_166 g154_166 x121_166 x138_166 x139_166 x141_166 x142_166 x149_166 = some (o144, o145, o146, o147, o150, o151, o152, o153, o154, w121, w138, w139, w141, w142, w149)) ?_ ?_
  · intro x9 hJ9
    obtain ⟨H, locs, ls, z166, l2_166, l3_166, l5_166, l6_166, l7_166, s0_166, g144_166, g145_166, g146_166, g147_166, g150_166, g151_166, g152_166, g153_166, g154_166, x121_166, x138_166, x139_166, x141_166, x142_166, x149_166⟩ := x9
    obtain ⟨hl, hS, hD, hP, hfh_166_98, hfh_166_100, hfh_166_102, hfh_166_104, hfh_166_105, hfh_166_106, hfh_166_107, hfh_166_108, hfh_166_109, hfh_166_110, hfh_166_121, hfh_166_138, hfh_166_139, hfh_166_141, hfh_166_142, hfh_166_144, hfh_166_145, hfh_166_146, hfh_166_147, hfh_166_149, hfh_166_150, hfh_166_151, hfh_166_152, hfh_166_153, hfh_166_154, hlh_166, hrh_166, hsp⟩ := hJ9
    replace hl : lv_has ls 12 [(0, .ref h0), (2, .int l2_166), (3, .int l3_166), (5, .int l5_166), (6, .int l6_166), (7, .int l7_166)] := hl
    replace hS : va_S A s.heap H locs := hS
    replace hD : va_D A [(h0, .inr (13, z166)), (qf150, .inl (cf150, 60, .inl g150_166)), (qf102, .inl (cf102, 2048, .inl f102)), (qf100, .inl (cf100, 48000, .inl f100)), (qf153, .inl (cf153, 60, .inl g153_166)), (qf104, .inl (cf104, 8, .inl f104)), (qf154, .inl (cf154, 3600, .inl g154_166)), (qf144, .inl (cf144, 2001, .inl g144_166)), (qf145, .inl (cf145, 2001, .inl g145_166)), (qf146, .inl (cf146, 2001, .inl g146_166)), (qf147, .inl (cf147, 20000, .inl g147_166)), (qf151, .inl (cf151, 60, .inl g151_166)), (qf110, .inl (cf110, 96, .inl f110)), (qf152, .inl (cf152, 60, .inl g152_166)), (qf105, .inl (cf105, 8, .inl f105)), (qf106, .inl (cf106, 8, .inl f106)), (qf108, .inl (cf108, 8, .inl f108)), (qf107, .inl (cf107, 96, .inl f107)), (qf109, .inl (cf109, 96, .inl f109))] := hD
    replace hP : va_P (dC, dI) vwCl [(h0, .inr (13, z166)), (qf150, .inl (cf150, 60, .inl g150_166)), (qf102, .inl (cf102, 2048, .inl f102)), (qf100, .inl (cf100, 48000, .inl f100)), (qf153, .inl (cf153, 60, .inl g153_166)), (qf104, .inl (cf104, 8, .inl f104)), (qf154, .inl (cf154, 3600, .inl g154_166)), (qf144, .inl (cf144, 2001, .inl g144_166)), (qf145, .inl (cf145, 2001, .inl g145_166)), (qf146, .inl (cf146, 2001, .inl g146_166)), (qf147, .inl (cf147, 20000, .inl g147_166)), (qf151, .inl (cf151, 60, .inl g151_166)), (qf110, .inl (cf110, 96, .inl f110)), (qf152, .inl (cf152, 60, .inl g152_166)), (qf105, .inl (cf105, 8, .inl f105)), (qf106, .inl (cf106, 8, .inl f106)), (qf108, .inl (cf108, 8, .inl f108)), (qf107, .inl (cf107, 96, .inl f107)), (qf109, .inl (cf109, 96, .inl f109))] H := hP
    replace hsp : jn_vm_call_166 nf a1 a2 v98 v121 v138 v139 v141 v142 v149 f150 f102 f100 f153 f104 f154 f144 f145 f146 f147 f151 f110 f152 f105 f106 f108 f107 f109 nS477 fS477 l2_166 l3_166 l5_166 l6_166 l7_166 s0_166 g144_166 g145_166 g146_166 g147_166 g150_166 g151_166 g152_166 g153_166 g154_166 x121_166 x138_166 x139_166 x141_166 x142_166 x149_166 = some (o144, o145, o146, o147, o150, o151, o152, o153, o154, w121, w138, w139, w141, w142, w149) := hsp
    show W _ _ _ _ _ _ _ _ _ _ H locs _ _ _ (F0 m 166 ls [.int s0_166])
    unfold jn_vm_call_166 at hsp
    try dsimp only at hsp
    refine lv_istore (lv' := [(8, .int s0_166), (0, .ref h0), (2, .int l2_166), (3, .int l3_166), (5, .int l5_166), (6, .int l6_166), (7, .int l7_166)]) hx hb dX13_call_166 hl (by decide) rfl (fun ls hl => ?_)
    exact hj_168 (H, locs, ls, z166, l2_166, l3_166, l5_166, l6_166, l7_166, s0_166, g144_166, g145_166, g146_166, g147_166, g150_166, g151_166, g152_166, g153_166, g154_166, x121_166, x138_166, x139_166, x141_166, x142_166, x149_166) ⟨lv_sub hl [1, 2, 3, 4, 5, 6, 0] rfl, hS, hD.sub (ws' := [(h0, .inr (13, z166)), (qf150, .inl (cf150, 60, .inl g150_166)), (qf102, .inl (cf102, 2048, .inl f102)), (qf100, .inl (cf100, 48000, .inl f100)), (qf153, .inl (cf153, 60, .inl g153_166)), (qf104, .inl (cf104, 8, .inl f104)), (qf154, .inl (cf154, 3600, .inl g154_166)), (qf144, .inl (cf144, 2001, .inl g144_166)), (qf145, .inl (cf145, 2001, .inl g145_166)), (qf146, .inl (cf146, 2001, .inl g146_166)), (qf147, .inl (cf147, 20000, .inl g147_166)), (qf151, .inl (cf151, 60, .inl g151_166)), (qf110, .inl (cf110, 96, .inl f110)), (qf152, .inl (cf152, 60, .inl g152_166)), (qf105, .inl (cf105, 8, .inl f105)), (qf106, .inl (cf106, 8, .inl f106)), (qf108, .inl (cf108, 8, .inl f108)), (qf107, .inl (cf107, 96, .inl f107)), (qf109, .inl (cf109, 96, .inl f109))]) [0, 1, 2, 3, 4, 5, 6, 7, 8, 9, 10, 11, 12, 13, 14, 15, 16, 17, 18] (by decide) rfl, hP.sub (ws' := [(h0, .inr (13, z166)), (qf150, .inl (cf150, 60, .inl g150_166)), (qf102, .inl (cf102, 2048, .inl f102)), (qf100, .inl (cf100, 48000, .inl f100)), (qf153, .inl (cf153, 60, .inl g153_166)), (qf104, .inl (cf104, 8, .inl f104)), (qf154, .inl (cf154, 3600, .inl g154_166)), (qf144, .inl (cf144, 2001, .inl g144_166)), (qf145, .inl (cf145, 2001, .inl g145_166)), (qf146, .inl (cf146, 2001, .inl g146_166)), (qf147, .inl (cf147, 20000, .inl g147_166)), (qf151, .inl (cf151, 60, .inl g151_166)), (qf110, .inl (cf110, 96, .inl f110)), (qf152, .inl (cf152, 60, .inl g152_166)), (qf105, .inl (cf105, 8, .inl f105)), (qf106, .inl (cf106, 8, .inl f106)), (qf108, .inl (cf108, 8, .inl f108)), (qf107, .inl (cf107, 96, .inl f107)), (qf109, .inl (cf109, 96, .inl f109))]) [0, 1, 2, 3, 4, 5, 6, 7, 8, 9, 10, 11, 12, 13, 14, 15, 16, 17, 18] rfl, hfh_166_98, hfh_166_100, hfh_166_102, hfh_166_104, hfh_166_105, hfh_166_106, hfh_166_107, hfh_166_108, hfh_166_109, hfh_166_110, hfh_166_121, hfh_166_138, hfh_166_139, hfh_166_141, hfh_166_142, hfh_166_144, hfh_166_145, hfh_166_146, hfh_166_147, hfh_166_149, hfh_166_150, hfh_166_151, hfh_166_152, hfh_166_153, hfh_166_154, hlh_166, hrh_166, hsp⟩
  intro hj_166
  refine jn_use (α := Heap × List Loc × Array Slot × List Value × Int32 × Int32 × Int32 × Int32 × Int32 × (Nat → Int32) × (Nat → Int32) × (Nat → Int32) × (Nat → Int32) × (Nat → Int32) × (Nat → Int32) × (Nat → Int32) × (Nat → Int32) × (Nat → Int32) × Int32 × Int32 × Int32 × Int32 × Int32 × Int32) (fun x9 => x9.1) (fun x9 => x9.2.1) (fun x9 => F0 m 72 x9.2.2.1 [.int (x9.2.2.2.2.2.2.2.1), .int (x9.2.2.2.2.2.2.2.2.1)]) (fun x9 => match x9 with | (H, locs, ls, z72, l1_72, l2_72, l3_72, s0_72, s1_72, g144_72, g145_72, g146_72, g147_72, g150_72, g151_72, g152_72, g153_72, g154_72, x121_72, x138_72, x139_72, x141_72, x142_72, x149_72) => lv_has ls 12 [(0, .ref h0), (1, .int l1_72), (2, .int l2_72), (3, .int l3_72)] ∧ va_S A s.heap H locs ∧ va_D A [(h0, .inr (13, z72)), (qf150, .inl (cf150, 60, .inl g150_72)), (qf102, .inl (cf102, 2048, .inl f102)), (qf100, .inl (cf100, 48000, .inl f100)), (qf153, .inl (cf153, 60, .inl g153_72)), (qf104, .inl (cf104, 8, .inl f104)), (qf154, .inl (cf154, 3600, .inl g154_72)), (qf144, .inl (cf144, 2001, .inl g144_72)), (qf145, .inl (cf145, 2001, .inl g145_72)), (qf146, .inl (cf146, 2001, .inl g146_72)), (qf147, .inl (cf147, 20000, .inl g147_72)), (qf151, .inl (cf151, 60, .inl g151_72)), (qf110, .inl (cf110, 96, .inl f110)), (qf152, .inl (cf152, 60, .inl g152_72)), (qf105, .inl (cf105, 8, .inl f105)), (qf106, .inl (cf106, 8, .inl f106)), (qf108, .inl (cf108, 8, .inl f108)), (qf107, .inl (cf107, 96, .inl f107)), (qf109, .inl (cf109, 96, .inl f109))] ∧ va_P (dC, dI) vwCl [(h0, .inr (13, z72)), (qf150, .inl (cf150, 60, .inl g150_72)), (qf102, .inl (cf102, 2048, .inl f102)), (qf100, .inl (cf100, 48000, .inl f100)), (qf153, .inl (cf153, 60, .inl g153_72)), (qf104, .inl (cf104, 8, .inl f104)), (qf154, .inl (cf154, 3600, .inl g154_72)), (qf144, .inl (cf144, 2001, .inl g144_72)), (qf145, .inl (cf145, 2001, .inl g145_72)), (qf146, .inl (cf146, 2001, .inl g146_72)), (qf147, .inl (cf147, 20000, .inl g147_72)), (qf151, .inl (cf151, 60, .inl g151_72)), (qf110, .inl (cf110, 96, .inl f110)), (qf152, .inl (cf152, 60, .inl g152_72)), (qf105, .inl (cf105, 8, .inl f105)), (qf106, .inl (cf106, 8, .inl f106)), (qf108, .inl (cf108, 8, .inl f108)), (qf107, .inl (cf107, 96, .inl f107)), (qf109, .inl (cf109, 96, .inl f109))] H ∧ z72[98]? = some (.int v98) ∧ z72[100]? = some (.ref qf100) ∧ z72[102]? = some (.ref qf102) ∧ z72[104]? = some (.ref qf104) ∧ z72[105]? = some (.ref qf105) ∧ z72[106]? = some (.ref qf106) ∧ z72[107]? = some (.ref qf107) ∧ z72[108]? = some (.ref qf108) ∧ z72[109]? = some (.ref qf109) ∧ z72[110]? = some (.ref qf110) ∧ z72[121]? = some (.int x121_72) ∧ z72[138]? = some (.int x138_72) ∧ z72[139]? = some (.int x139_72) ∧ z72[141]? = some (.int x141_72) ∧ z72[142]? = some (.int x142_72) ∧ z72[144]? = some (.ref qf144) ∧ z72[145]? = some (.ref qf145) ∧ z72[146]? = some (.ref qf146) ∧ z72[147]? = some (.ref qf147) ∧ z72[149]? = some (.int x149_72) ∧ z72[150]? = some (.ref qf150) ∧ z72[151]? = some (.ref qf151) ∧ z72[152]? = some (.ref qf152) ∧ z72[153]? = some (.ref qf153) ∧ z72[154]? = some (.ref qf154) ∧ z72.length = 155 ∧ (∀ j : Nat, j ≠ 121 → j ≠ 138 → j ≠ 139 → j ≠ 141 → j ≠ 142 → j ≠ 149 → z72[j]? = zs[j]?) ∧ jn_vm_call_72 nf a1 a2 v98 v121 v138 v139 v141 v142 v149 f150 f102 f100 f153 f104 f154 f144 f145 f146 f147 f151 f110 f152 f105 f106 f108 f107 f109 nS477 fS477 l1_72 l2_72 l3_72 s0_72 s1_72 g144_72 g145_72 g146_72 g147_72 g150_72 g151_72 g152_72 g153_72 g154_72 x121_72 x138_72 x139_72 x141_72 x142_72 x149_72 = some (o144, o145, o146, o147, o150, o151, o152, o153, o154, w121, w138, w139, w141, w142, w149)) ?_ ?_
  · intro x9 hJ9
    obtain ⟨H, locs, ls, z72, l1_72, l2_72, l3_72, s0_72, s1_72, g144_72, g145_72, g146_72, g147_72, g150_72, g151_72, g152_72, g153_72, g154_72, x121_72, x138_72, x139_72, x141_72, x142_72, x149_72⟩ := x9
    obtain ⟨hl, hS, hD, hP, hfh_72_98, hfh_72_100, hfh_72_102, hfh_72_104, hfh_72_105, hfh_72_106, hfh_72_107, hfh_72_108, hfh_72_109, hfh_72_110, hfh_72_121, hfh_72_138, hfh_72_139, hfh_72_141, hfh_72_142, hfh_72_144, hfh_72_145, hfh_72_146, hfh_72_147, hfh_72_149, hfh_72_150, hfh_72_151, hfh_72_152, hfh_72_153, hfh_72_154, hlh_72, hrh_72, hsp⟩ := hJ9
    replace hl : lv_has ls 12 [(0, .ref h0), (1, .int l1_72), (2, .int l2_72), (3, .int l3_72)] := hl
    replace hS : va_S A s.heap H locs := hS
    replace hD : va_D A [(h0, .inr (13, z72)), (qf150, .inl (cf150, 60, .inl g150_72)), (qf102, .inl (cf102, 2048, .inl f102)), (qf100, .inl (cf100, 48000, .inl f100)), (qf153, .inl (cf153, 60, .inl g153_72)), (qf104, .inl (cf104, 8, .inl f104)), (qf154, .inl (cf154, 3600, .inl g154_72)), (qf144, .inl (cf144, 2001, .inl g144_72)), (qf145, .inl (cf145, 2001, .inl g145_72)), (qf146, .inl (cf146, 2001, .inl g146_72)), (qf147, .inl (cf147, 20000, .inl g147_72)), (qf151, .inl (cf151, 60, .inl g151_72)), (qf110, .inl (cf110, 96, .inl f110)), (qf152, .inl (cf152, 60, .inl g152_72)), (qf105, .inl (cf105, 8, .inl f105)), (qf106, .inl (cf106, 8, .inl f106)), (qf108, .inl (cf108, 8, .inl f108)), (qf107, .inl (cf107, 96, .inl f107)), (qf109, .inl (cf109, 96, .inl f109))] := hD
    replace hP : va_P (dC, dI) vwCl [(h0, .inr (13, z72)), (qf150, .inl (cf150, 60, .inl g150_72)), (qf102, .inl (cf102, 2048, .inl f102)), (qf100, .inl (cf100, 48000, .inl f100)), (qf153, .inl (cf153, 60, .inl g153_72)), (qf104, .inl (cf104, 8, .inl f104)), (qf154, .inl (cf154, 3600, .inl g154_72)), (qf144, .inl (cf144, 2001, .inl g144_72)), (qf145, .inl (cf145, 2001, .inl g145_72)), (qf146, .inl (cf146, 2001, .inl g146_72)), (qf147, .inl (cf147, 20000, .inl g147_72)), (qf151, .inl (cf151, 60, .inl g151_72)), (qf110, .inl (cf110, 96, .inl f110)), (qf152, .inl (cf152, 60, .inl g152_72)), (qf105, .inl (cf105, 8, .inl f105)), (qf106, .inl (cf106, 8, .inl f106)), (qf108, .inl (cf108, 8, .inl f108)), (qf107, .inl (cf107, 96, .inl f107)), (qf109, .inl (cf109, 96, .inl f109))] H := hP
    replace hsp : jn_vm_call_72 nf a1 a2 v98 v121 v138 v139 v141 v142 v149 f150 f102 f100 f153 f104 f154 f144 f145 f146 f147 f151 f110 f152 f105 f106 f108 f107 f109 nS477 fS477 l1_72 l2_72 l3_72 s0_72 s1_72 g144_72 g145_72 g146_72 g147_72 g150_72 g151_72 g152_72 g153_72 g154_72 x121_72 x138_72 x139_72 x141_72 x142_72 x149_72 = some (o144, o145, o146, o147, o150, o151, o152, o153, o154, w121, w138, w139, w141, w142, w149) := hsp
    show W _ _ _ _ _ _ _ _ _ _ H locs _ _ _ (F0 m 72 ls [.int s0_72, .int s1_72])
    unfold jn_vm_call_72 at hsp
    try dsimp only at hsp
    refine lv_iadd hx hb dX13_call_72 ?_
    refine lv_istore (lv' := [(5, .int (s1_72 + s0_72)), (0, .ref h0), (1, .int l1_72), (2, .int l2_72), (3, .int l3_72)]) hx hb dX13_call_73 hl (by decide) rfl (fun ls hl => ?_)
    refine lv_aload_n hx hb dX13_call_75 rfl (lv_at hl 1 rfl) ?_
    refine va_get (D := (dC, dI)) (ci := 13) (v := .int x149_72) (C := RX13) (T := TX13) (N := 155) hx hb hts uV_h9_X13 hown hK hP 0 rfl rfl 149 (by decide) (hts (.fieldLink RX13 1058 "ClassMillModel" "depth" "I") mw_h9_370) (fun _ h9 => h9) hfh_72_149 dX13_call_76 ?_
    refine lv_iconst (v := 1) hx hb dX13_call_79 (by decide) ?_
    refine lv_isub hx hb dX13_call_80 ?_
    refine lv_istore (lv' := [(6, .int (x149_72 - 1)), (5, .int (s1_72 + s0_72)), (0, .ref h0), (1, .int l1_72), (2, .int l2_72), (3, .int l3_72)]) hx hb dX13_call_81 hl (by decide) rfl (fun ls hl => ?_)
    refine lv_bipush (v := 60) hx hb dX13_call_83 (by decide) ?_
    refine lv_iload hx hb dX13_call_85 (lv_at hl 0 rfl) ?_
    refine lv_imul hx hb dX13_call_87 ?_
    refine lv_bipush (v := 30) hx hb dX13_call_88 (by decide) ?_
    refine lv_iadd hx hb dX13_call_90 ?_
    refine lv_aload_n hx hb dX13_call_91 rfl (lv_at hl 2 rfl) ?_
    refine va_get (D := (dC, dI)) (ci := 13) (v := .ref qf153) (C := RX13) (T := TX13) (N := 155) hx hb hts uV_h9_X13 hown hK hP 0 rfl rfl 153 (by decide) (hts (.fieldLink RX13 303 "ClassMillModel" "runStack" "[I") mw_h9_390) (fun _ h9 => h9) hfh_72_153 dX13_call_92 ?_
    refine lv_iload hx hb dX13_call_95 (lv_at hl 0 rfl) ?_
    obtain ⟨hi_7, hsp⟩ := ox_in hsp
    refine va_iald hx hb hK hP 4 3 rfl rfl (i := (x149_72 - 1)) hi_7 dX13_call_97 ?_
    refine lv_iadd hx hb dX13_call_98 ?_
    refine lv_iload hx hb dX13_call_99 (lv_at hl 1 rfl) ?_
    refine lv_isub hx hb dX13_call_101 ?_
    refine lv_istore (lv' := [(7, .int ((((60 * (x149_72 - 1)) + 30) + (g153_72 ((x149_72 - 1) : Int32).toNatClampNeg)) - (s1_72 + s0_72))), (6, .int (x149_72 - 1)), (5, .int (s1_72 + s0_72)), (0, .ref h0), (1, .int l1_72), (2, .int l2_72), (3, .int l3_72)]) hx hb dX13_call_102 hl (by decide) rfl (fun ls hl => ?_)
    refine lv_aload_n hx hb dX13_call_104 rfl (lv_at hl 3 rfl) ?_
    refine lv_aload_n hx hb dX13_call_105 rfl (lv_at hl 3 rfl) ?_
    refine lv_iload_n hx hb dX13_call_106 rfl (lv_at hl 5 rfl) ?_
    refine lv_iconst (v := 0) hx hb dX13_call_107 (by decide) ?_
    obtain ⟨u3_0, hu_3, hsp⟩ := ox_bind hsp
    try dsimp only at hsp
    have hPc := hP.sub (ws' := [(h0, .inr (13, z72)), (qf150, .inl (cf150, 60, .inl g150_72)), (qf102, .inl (cf102, 2048, .inl f102)), (qf100, .inl (cf100, 48000, .inl f100))]) [0, 1, 2, 3] rfl
    have hDc := hD.sub (ws' := [(h0, .inr (13, z72)), (qf150, .inl (cf150, 60, .inl g150_72)), (qf102, .inl (cf102, 2048, .inl f102)), (qf100, .inl (cf100, 48000, .inl f100))]) [0, 1, 2, 3] (by decide) rfl
    have hKc := hK.sub (tys' := [(cf150, .int), (cf102, .int), (cf100, .int)]) [0, 1, 2] rfl
    have hFc := va_free (wc := [(h0, .inr (13, z72)), (qf150, .inl (cf150, 60, .inl g150_72)), (qf102, .inl (cf102, 2048, .inl f102)), (qf100, .inl (cf100, 48000, .inl f100))]) hD hS hA [0, 1, 2, 3] rfl
    refine va_calli (va_runV (As := [.int l2_72, .int 0]) (rest := [.ref h0]) ⟨hx, hb, hml, hown, hts⟩ (tm_memberPart l dC dI H.size h0 z72 l2_72 0 qf100 qf102 x149_72 qf150 cf150 g150_72 cf102 f102 cf100 f100 nf u3_0 hlh_72 hfh_72_100 hfh_72_102 hfh_72_149 hfh_72_150 hu_3) (cwV 2 hts gv_h9_76 rfl rfl rfl (by decide +kernel) ⟨Nat.le_of_ble_eq_true rfl, Nat.le_of_ble_eq_true rfl⟩) ⟨fun a U g mk q => by obtain ⟨q0, q1, qP, qK, qD⟩ := q; exact ⟨q0, q1, qP, va_K.moved (u := U) (U := U.calling g mk a) (Vm.Alike.refl U.vm) qK, qD⟩, va_recv hKc hPc (ci := 13) (q0 := 0) rfl rfl, fun U hU hW => ⟨rfl, by rw [hU], by rw [hU]; exact hPc, va_K.moved hW.alike hKc, hDc.weaken (fun _ _ _ _ => trivial)⟩⟩ rfl rfl hl.1 rfl (lv_room (Nat.le_of_ble_eq_true rfl)) dX13_call_108 ⟨Nat.le_of_ble_eq_true rfl, Nat.le_of_ble_eq_true rfl⟩) hS (fun q _ h => hFc q h) hFc ?_
    clear hS
    intro r_8 u t H1 locs ht hvm hw hB hz1 hk1 hS
    obtain ⟨z_3, rfl⟩ : ∃ z, z = u := ⟨_, rfl⟩
    obtain ⟨hP1, hK1, hD1⟩ := hB
    rw [ht] at hP1
    have hK1 := va_K.moved hvm.symm hK1
    try dsimp only at hw
    have hPD := va_join (wr := [(qf153, .inl (cf153, 60, .inl g153_72)), (qf104, .inl (cf104, 8, .inl f104)), (qf154, .inl (cf154, 3600, .inl g154_72)), (qf144, .inl (cf144, 2001, .inl g144_72)), (qf145, .inl (cf145, 2001, .inl g145_72)), (qf146, .inl (cf146, 2001, .inl g146_72)), (qf147, .inl (cf147, 20000, .inl g147_72)), (qf151, .inl (cf151, 60, .inl g151_72)), (qf110, .inl (cf110, 96, .inl f110)), (qf152, .inl (cf152, 60, .inl g152_72)), (qf105, .inl (cf105, 8, .inl f105)), (qf106, .inl (cf106, 8, .inl f106)), (qf108, .inl (cf108, 8, .inl f108)), (qf107, .inl (cf107, 96, .inl f107)), (qf109, .inl (cf109, 96, .inl f109))]) (w1 := [(h0, .inr (13, z_3)), (qf150, .inl (cf150, 60, .inl g150_72)), (qf102, .inl (cf102, 2048, .inl f102)), (qf100, .inl (cf100, 48000, .inl f100))]) hP hD [0, 1, 2, 3] [4, 5, 6, 7, 8, 9, 10, 11, 12, 13, 14, 15, 16, 17, 18] rfl rfl (by decide) (by decide) hk1 hFc hP1 hD1
    clear hP hD
    obtain ⟨hP, hD⟩ := hPD
    replace hK := (hK.sub (tys' := [(cf153, .int), (cf104, .int), (cf154, .int), (cf144, .int), (cf145, .int), (cf146, .int), (cf147, .int), (cf151, .int), (cf110, .int), (cf152, .int), (cf105, .int), (cf106, .int), (cf108, .int), (cf107, .int), (cf109, .int)]) [3, 4, 5, 6, 7, 8, 9, 10, 11, 12, 13, 14, 15, 16, 17] rfl).app hK1
    clear hPc hDc hKc hFc hP1 hK1 hD1 hz1 hk1 ht hvm
    generalize H1 = H at hP hS ⊢
    replace hP : va_P (dC, dI) vwCl [(qf153, .inl (cf153, 60, .inl g153_72)), (qf104, .inl (cf104, 8, .inl f104)), (qf154, .inl (cf154, 3600, .inl g154_72)), (qf144, .inl (cf144, 2001, .inl g144_72)), (qf145, .inl (cf145, 2001, .inl g145_72)), (qf146, .inl (cf146, 2001, .inl g146_72)), (qf147, .inl (cf147, 20000, .inl g147_72)), (qf151, .inl (cf151, 60, .inl g151_72)), (qf110, .inl (cf110, 96, .inl f110)), (qf152, .inl (cf152, 60, .inl g152_72)), (qf105, .inl (cf105, 8, .inl f105)), (qf106, .inl (cf106, 8, .inl f106)), (qf108, .inl (cf108, 8, .inl f108)), (qf107, .inl (cf107, 96, .inl f107)), (qf109, .inl (cf109, 96, .inl f109)), (h0, .inr (13, z_3)), (qf150, .inl (cf150, 60, .inl g150_72)), (qf102, .inl (cf102, 2048, .inl f102)), (qf100, .inl (cf100, 48000, .inl f100))] H := hP
    replace hD : va_D A [(qf153, .inl (cf153, 60, .inl g153_72)), (qf104, .inl (cf104, 8, .inl f104)), (qf154, .inl (cf154, 3600, .inl g154_72)), (qf144, .inl (cf144, 2001, .inl g144_72)), (qf145, .inl (cf145, 2001, .inl g145_72)), (qf146, .inl (cf146, 2001, .inl g146_72)), (qf147, .inl (cf147, 20000, .inl g147_72)), (qf151, .inl (cf151, 60, .inl g151_72)), (qf110, .inl (cf110, 96, .inl f110)), (qf152, .inl (cf152, 60, .inl g152_72)), (qf105, .inl (cf105, 8, .inl f105)), (qf106, .inl (cf106, 8, .inl f106)), (qf108, .inl (cf108, 8, .inl f108)), (qf107, .inl (cf107, 96, .inl f107)), (qf109, .inl (cf109, 96, .inl f109)), (h0, .inr (13, z_3)), (qf150, .inl (cf150, 60, .inl g150_72)), (qf102, .inl (cf102, 2048, .inl f102)), (qf100, .inl (cf100, 48000, .inl f100))] := hD
    replace hK : va_K (dC, dI) vwCl [(cf153, .int), (cf104, .int), (cf154, .int), (cf144, .int), (cf145, .int), (cf146, .int), (cf147, .int), (cf151, .int), (cf110, .int), (cf152, .int), (cf105, .int), (cf106, .int), (cf108, .int), (cf107, .int), (cf109, .int), (cf150, .int), (cf102, .int), (cf100, .int)] s := hK
    obtain ⟨hwa_3, hln_3, hre_3⟩ := hw
    have hfk_3_98 : z_3[98]? = some (.int v98) := (hre_3 98 ).trans (hfh_72_98)
    have hfk_3_100 : z_3[100]? = some (.ref qf100) := (hre_3 100 ).trans (hfh_72_100)
    have hfk_3_102 : z_3[102]? = some (.ref qf102) := (hre_3 102 ).trans (hfh_72_102)
    have hfk_3_104 : z_3[104]? = some (.ref qf104) := (hre_3 104 ).trans (hfh_72_104)
    have hfk_3_105 : z_3[105]? = some (.ref qf105) := (hre_3 105 ).trans (hfh_72_105)
    have hfk_3_106 : z_3[106]? = some (.ref qf106) := (hre_3 106 ).trans (hfh_72_106)
    have hfk_3_107 : z_3[107]? = some (.ref qf107) := (hre_3 107 ).trans (hfh_72_107)
    have hfk_3_108 : z_3[108]? = some (.ref qf108) := (hre_3 108 ).trans (hfh_72_108)
    have hfk_3_109 : z_3[109]? = some (.ref qf109) := (hre_3 109 ).trans (hfh_72_109)
    have hfk_3_110 : z_3[110]? = some (.ref qf110) := (hre_3 110 ).trans (hfh_72_110)
    have hfk_3_121 : z_3[121]? = some (.int x121_72) := (hre_3 121 ).trans (hfh_72_121)
    have hfk_3_138 : z_3[138]? = some (.int x138_72) := (hre_3 138 ).trans (hfh_72_138)
    have hfk_3_139 : z_3[139]? = some (.int x139_72) := (hre_3 139 ).trans (hfh_72_139)
    have hfk_3_141 : z_3[141]? = some (.int x141_72) := (hre_3 141 ).trans (hfh_72_141)
    have hfk_3_142 : z_3[142]? = some (.int x142_72) := (hre_3 142 ).trans (hfh_72_142)
    have hfk_3_144 : z_3[144]? = some (.ref qf144) := (hre_3 144 ).trans (hfh_72_144)
    have hfk_3_145 : z_3[145]? = some (.ref qf145) := (hre_3 145 ).trans (hfh_72_145)
    have hfk_3_146 : z_3[146]? = some (.ref qf146) := (hre_3 146 ).trans (hfh_72_146)
    have hfk_3_147 : z_3[147]? = some (.ref qf147) := (hre_3 147 ).trans (hfh_72_147)
    have hfk_3_149 : z_3[149]? = some (.int x149_72) := (hre_3 149 ).trans (hfh_72_149)
    have hfk_3_150 : z_3[150]? = some (.ref qf150) := (hre_3 150 ).trans (hfh_72_150)
    have hfk_3_151 : z_3[151]? = some (.ref qf151) := (hre_3 151 ).trans (hfh_72_151)
    have hfk_3_152 : z_3[152]? = some (.ref qf152) := (hre_3 152 ).trans (hfh_72_152)
    have hfk_3_153 : z_3[153]? = some (.ref qf153) := (hre_3 153 ).trans (hfh_72_153)
    have hfk_3_154 : z_3[154]? = some (.ref qf154) := (hre_3 154 ).trans (hfh_72_154)
    have hrq_3 : ∀ j : Nat, j ≠ 121 → j ≠ 138 → j ≠ 139 → j ≠ 141 → j ≠ 142 → j ≠ 149 → z_3[j]? = zs[j]? := fun j g121 g138 g139 g141 g142 g149 => (hre_3 j ).trans (hrh_72 j g121 g138 g139 g141 g142 g149)
    obtain rfl := hwa_3
    obtain ⟨u4_0, hu_4, hsp⟩ := ox_bind hsp
    try dsimp only at hsp
    have hPc := hP.sub (ws' := [(h0, .inr (13, z_3)), (qf150, .inl (cf150, 60, .inl g150_72)), (qf102, .inl (cf102, 2048, .inl f102)), (qf100, .inl (cf100, 48000, .inl f100)), (qf104, .inl (cf104, 8, .inl f104))]) [15, 16, 17, 18, 1] rfl
    have hDc := hD.sub (ws' := [(h0, .inr (13, z_3)), (qf150, .inl (cf150, 60, .inl g150_72)), (qf102, .inl (cf102, 2048, .inl f102)), (qf100, .inl (cf100, 48000, .inl f100)), (qf104, .inl (cf104, 8, .inl f104))]) [15, 16, 17, 18, 1] (by decide) rfl
    have hKc := hK.sub (tys' := [(cf150, .int), (cf102, .int), (cf100, .int), (cf104, .int)]) [15, 16, 17, 1] rfl
    have hFc := va_free (wc := [(h0, .inr (13, z_3)), (qf150, .inl (cf150, 60, .inl g150_72)), (qf102, .inl (cf102, 2048, .inl f102)), (qf100, .inl (cf100, 48000, .inl f100)), (qf104, .inl (cf104, 8, .inl f104))]) hD hS hA [15, 16, 17, 18, 1] rfl
    refine va_calli (va_runV (As := [.int u3_0]) (rest := []) ⟨hx, hb, hml, hown, hts⟩ (vm_classIn l dC dI H.size h0 z_3 u3_0 v98 qf100 qf102 qf104 x149_72 qf150 cf150 g150_72 cf102 f102 cf100 f100 cf104 f104 nS477 fS477 hS477 qS477 tS477 nf u4_0 hln_3 hfk_3_98 hfk_3_100 hfk_3_102 hfk_3_104 hfk_3_149 hfk_3_150 hu_4) (cwV 1 hts gv_h9_117 rfl rfl rfl (by decide +kernel) ⟨Nat.le_of_ble_eq_true rfl, Nat.le_of_ble_eq_true rfl⟩) ⟨fun a U g mk q => by obtain ⟨q0, q1, qP, qK, qD, qhZWS477, qhZRS477⟩ := q; exact ⟨q0, q1, qP, va_K.moved (u := U) (U := U.calling g mk a) (Vm.Alike.refl U.vm) qK, qD, pz_W.moved (u := U) (U := U.calling g mk a) (Vm.Alike.refl U.vm) qhZWS477, vk_R.same rfl qhZRS477⟩, va_recv hKc hPc (ci := 13) (q0 := 0) rfl rfl, fun U hU hW => ⟨rfl, by rw [hU], by rw [hU]; exact hPc, va_K.moved hW.alike hKc, hDc.weaken (fun _ _ _ _ => trivial), by rw [hU]; exact ((pz_W.moved hW.alike hZWS477).kept hS.2.1).narrow hFc, vk_R.warm hW hZRS477⟩⟩ rfl rfl hl.1 rfl (lv_room (Nat.le_of_ble_eq_true rfl)) dX13_call_111 ⟨Nat.le_of_ble_eq_true rfl, Nat.le_of_ble_eq_true rfl⟩) hS (fun q _ h => hFc q h) hFc ?_
    clear hS
    intro r_9 u t H1 locs ht hvm hw hB hz1 hk1 hS
    obtain ⟨z_4, rfl⟩ : ∃ z, z = u := ⟨_, rfl⟩
    obtain ⟨hP1, hK1, hD1⟩ := hB
    rw [ht] at hP1
    have hK1 := va_K.moved hvm.symm hK1
    try dsimp only at hw
    have hPD := va_join (wr := [(qf153, .inl (cf153, 60, .inl g153_72)), (qf154, .inl (cf154, 3600, .inl g154_72)), (qf144, .inl (cf144, 2001, .inl g144_72)), (qf145, .inl (cf145, 2001, .inl g145_72)), (qf146, .inl (cf146, 2001, .inl g146_72)), (qf147, .inl (cf147, 20000, .inl g147_72)), (qf151, .inl (cf151, 60, .inl g151_72)), (qf110, .inl (cf110, 96, .inl f110)), (qf152, .inl (cf152, 60, .inl g152_72)), (qf105, .inl (cf105, 8, .inl f105)), (qf106, .inl (cf106, 8, .inl f106)), (qf108, .inl (cf108, 8, .inl f108)), (qf107, .inl (cf107, 96, .inl f107)), (qf109, .inl (cf109, 96, .inl f109))]) (w1 := [(h0, .inr (13, z_4)), (qf150, .inl (cf150, 60, .inl g150_72)), (qf102, .inl (cf102, 2048, .inl f102)), (qf100, .inl (cf100, 48000, .inl f100)), (qf104, .inl (cf104, 8, .inl f104))]) hP hD [15, 16, 17, 18, 1] [0, 2, 3, 4, 5, 6, 7, 8, 9, 10, 11, 12, 13, 14] rfl rfl (by decide) (by decide) hk1 hFc hP1 hD1
    clear hP hD
    obtain ⟨hP, hD⟩ := hPD
    replace hK := (hK.sub (tys' := [(cf153, .int), (cf154, .int), (cf144, .int), (cf145, .int), (cf146, .int), (cf147, .int), (cf151, .int), (cf110, .int), (cf152, .int), (cf105, .int), (cf106, .int), (cf108, .int), (cf107, .int), (cf109, .int)]) [0, 2, 3, 4, 5, 6, 7, 8, 9, 10, 11, 12, 13, 14] rfl).app hK1
    clear hPc hDc hKc hFc hP1 hK1 hD1 hz1 hk1 ht hvm
    generalize H1 = H at hP hS ⊢
    replace hP : va_P (dC, dI) vwCl [(qf153, .inl (cf153, 60, .inl g153_72)), (qf154, .inl (cf154, 3600, .inl g154_72)), (qf144, .inl (cf144, 2001, .inl g144_72)), (qf145, .inl (cf145, 2001, .inl g145_72)), (qf146, .inl (cf146, 2001, .inl g146_72)), (qf147, .inl (cf147, 20000, .inl g147_72)), (qf151, .inl (cf151, 60, .inl g151_72)), (qf110, .inl (cf110, 96, .inl f110)), (qf152, .inl (cf152, 60, .inl g152_72)), (qf105, .inl (cf105, 8, .inl f105)), (qf106, .inl (cf106, 8, .inl f106)), (qf108, .inl (cf108, 8, .inl f108)), (qf107, .inl (cf107, 96, .inl f107)), (qf109, .inl (cf109, 96, .inl f109)), (h0, .inr (13, z_4)), (qf150, .inl (cf150, 60, .inl g150_72)), (qf102, .inl (cf102, 2048, .inl f102)), (qf100, .inl (cf100, 48000, .inl f100)), (qf104, .inl (cf104, 8, .inl f104))] H := hP
    replace hD : va_D A [(qf153, .inl (cf153, 60, .inl g153_72)), (qf154, .inl (cf154, 3600, .inl g154_72)), (qf144, .inl (cf144, 2001, .inl g144_72)), (qf145, .inl (cf145, 2001, .inl g145_72)), (qf146, .inl (cf146, 2001, .inl g146_72)), (qf147, .inl (cf147, 20000, .inl g147_72)), (qf151, .inl (cf151, 60, .inl g151_72)), (qf110, .inl (cf110, 96, .inl f110)), (qf152, .inl (cf152, 60, .inl g152_72)), (qf105, .inl (cf105, 8, .inl f105)), (qf106, .inl (cf106, 8, .inl f106)), (qf108, .inl (cf108, 8, .inl f108)), (qf107, .inl (cf107, 96, .inl f107)), (qf109, .inl (cf109, 96, .inl f109)), (h0, .inr (13, z_4)), (qf150, .inl (cf150, 60, .inl g150_72)), (qf102, .inl (cf102, 2048, .inl f102)), (qf100, .inl (cf100, 48000, .inl f100)), (qf104, .inl (cf104, 8, .inl f104))] := hD
    replace hK : va_K (dC, dI) vwCl [(cf153, .int), (cf154, .int), (cf144, .int), (cf145, .int), (cf146, .int), (cf147, .int), (cf151, .int), (cf110, .int), (cf152, .int), (cf105, .int), (cf106, .int), (cf108, .int), (cf107, .int), (cf109, .int), (cf150, .int), (cf102, .int), (cf100, .int), (cf104, .int)] s := hK
    obtain ⟨hwa_4, hln_4, hre_4⟩ := hw
    have hfk_4_98 : z_4[98]? = some (.int v98) := (hre_4 98 ).trans (hfk_3_98)
    have hfk_4_100 : z_4[100]? = some (.ref qf100) := (hre_4 100 ).trans (hfk_3_100)
    have hfk_4_102 : z_4[102]? = some (.ref qf102) := (hre_4 102 ).trans (hfk_3_102)
    have hfk_4_104 : z_4[104]? = some (.ref qf104) := (hre_4 104 ).trans (hfk_3_104)
    have hfk_4_105 : z_4[105]? = some (.ref qf105) := (hre_4 105 ).trans (hfk_3_105)
    have hfk_4_106 : z_4[106]? = some (.ref qf106) := (hre_4 106 ).trans (hfk_3_106)
    have hfk_4_107 : z_4[107]? = some (.ref qf107) := (hre_4 107 ).trans (hfk_3_107)
    have hfk_4_108 : z_4[108]? = some (.ref qf108) := (hre_4 108 ).trans (hfk_3_108)
    have hfk_4_109 : z_4[109]? = some (.ref qf109) := (hre_4 109 ).trans (hfk_3_109)
    have hfk_4_110 : z_4[110]? = some (.ref qf110) := (hre_4 110 ).trans (hfk_3_110)
    have hfk_4_121 : z_4[121]? = some (.int x121_72) := (hre_4 121 ).trans (hfk_3_121)
    have hfk_4_138 : z_4[138]? = some (.int x138_72) := (hre_4 138 ).trans (hfk_3_138)
    have hfk_4_139 : z_4[139]? = some (.int x139_72) := (hre_4 139 ).trans (hfk_3_139)
    have hfk_4_141 : z_4[141]? = some (.int x141_72) := (hre_4 141 ).trans (hfk_3_141)
    have hfk_4_142 : z_4[142]? = some (.int x142_72) := (hre_4 142 ).trans (hfk_3_142)
    have hfk_4_144 : z_4[144]? = some (.ref qf144) := (hre_4 144 ).trans (hfk_3_144)
    have hfk_4_145 : z_4[145]? = some (.ref qf145) := (hre_4 145 ).trans (hfk_3_145)
    have hfk_4_146 : z_4[146]? = some (.ref qf146) := (hre_4 146 ).trans (hfk_3_146)
    have hfk_4_147 : z_4[147]? = some (.ref qf147) := (hre_4 147 ).trans (hfk_3_147)
    have hfk_4_149 : z_4[149]? = some (.int x149_72) := (hre_4 149 ).trans (hfk_3_149)
    have hfk_4_150 : z_4[150]? = some (.ref qf150) := (hre_4 150 ).trans (hfk_3_150)
    have hfk_4_151 : z_4[151]? = some (.ref qf151) := (hre_4 151 ).trans (hfk_3_151)
    have hfk_4_152 : z_4[152]? = some (.ref qf152) := (hre_4 152 ).trans (hfk_3_152)
    have hfk_4_153 : z_4[153]? = some (.ref qf153) := (hre_4 153 ).trans (hfk_3_153)
    have hfk_4_154 : z_4[154]? = some (.ref qf154) := (hre_4 154 ).trans (hfk_3_154)
    have hrq_4 : ∀ j : Nat, j ≠ 121 → j ≠ 138 → j ≠ 139 → j ≠ 141 → j ≠ 142 → j ≠ 149 → z_4[j]? = zs[j]? := fun j g121 g138 g139 g141 g142 g149 => (hre_4 j ).trans (hrq_3 j g121 g138 g139 g141 g142 g149)
    obtain rfl := hwa_4
    refine lv_istore (lv' := [(8, .int u4_0), (7, .int ((((60 * (x149_72 - 1)) + 30) + (g153_72 ((x149_72 - 1) : Int32).toNatClampNeg)) - (s1_72 + s0_72))), (6, .int (x149_72 - 1)), (5, .int (s1_72 + s0_72)), (0, .ref h0), (1, .int l1_72), (2, .int l2_72), (3, .int l3_72)]) hx hb dX13_call_114 hl (by decide) rfl (fun ls hl => ?_)
    refine lv_iload_n hx hb dX13_call_116 rfl (lv_at hl 5 rfl) ?_
    refine lv_sipush (v := 182) hx hb dX13_call_117 (by decide) ?_
    refine lv_icmp_ne (tgt := 168) hx hb dX13_call_120 (by decide) (fun c_10 => ?_) (fun c_10 => ?_)
    · rw [if_neg c_10] at hsp
      exact hj_168 (H, locs, ls, z_4, l2_72, l3_72, (s1_72 + s0_72), (x149_72 - 1), ((((60 * (x149_72 - 1)) + 30) + (g153_72 ((x149_72 - 1) : Int32).toNatClampNeg)) - (s1_72 + s0_72)), u4_0, g144_72, g145_72, g146_72, g147_72, g150_72, g151_72, g152_72, g153_72, g154_72, x121_72, x138_72, x139_72, x141_72, x142_72, x149_72) ⟨lv_sub hl [4, 6, 7, 3, 2, 1, 0] rfl, hS, hD.sub (ws' := [(h0, .inr (13, z_4)), (qf150, .inl (cf150, 60, .inl g150_72)), (qf102, .inl (cf102, 2048, .inl f102)), (qf100, .inl (cf100, 48000, .inl f100)), (qf153, .inl (cf153, 60, .inl g153_72)), (qf104, .inl (cf104, 8, .inl f104)), (qf154, .inl (cf154, 3600, .inl g154_72)), (qf144, .inl (cf144, 2001, .inl g144_72)), (qf145, .inl (cf145, 2001, .inl g145_72)), (qf146, .inl (cf146, 2001, .inl g146_72)), (qf147, .inl (cf147, 20000, .inl g147_72)), (qf151, .inl (cf151, 60, .inl g151_72)), (qf110, .inl (cf110, 96, .inl f110)), (qf152, .inl (cf152, 60, .inl g152_72)), (qf105, .inl (cf105, 8, .inl f105)), (qf106, .inl (cf106, 8, .inl f106)), (qf108, .inl (cf108, 8, .inl f108)), (qf107, .inl (cf107, 96, .inl f107)), (qf109, .inl (cf109, 96, .inl f109))]) [14, 15, 16, 17, 0, 18, 1, 2, 3, 4, 5, 6, 7, 8, 9, 10, 11, 12, 13] (by decide) rfl, hP.sub (ws' := [(h0, .inr (13, z_4)), (qf150, .inl (cf150, 60, .inl g150_72)), (qf102, .inl (cf102, 2048, .inl f102)), (qf100, .inl (cf100, 48000, .inl f100)), (qf153, .inl (cf153, 60, .inl g153_72)), (qf104, .inl (cf104, 8, .inl f104)), (qf154, .inl (cf154, 3600, .inl g154_72)), (qf144, .inl (cf144, 2001, .inl g144_72)), (qf145, .inl (cf145, 2001, .inl g145_72)), (qf146, .inl (cf146, 2001, .inl g146_72)), (qf147, .inl (cf147, 20000, .inl g147_72)), (qf151, .inl (cf151, 60, .inl g151_72)), (qf110, .inl (cf110, 96, .inl f110)), (qf152, .inl (cf152, 60, .inl g152_72)), (qf105, .inl (cf105, 8, .inl f105)), (qf106, .inl (cf106, 8, .inl f106)), (qf108, .inl (cf108, 8, .inl f108)), (qf107, .inl (cf107, 96, .inl f107)), (qf109, .inl (cf109, 96, .inl f109))]) [14, 15, 16, 17, 0, 18, 1, 2, 3, 4, 5, 6, 7, 8, 9, 10, 11, 12, 13] rfl, hfk_4_98, hfk_4_100, hfk_4_102, hfk_4_104, hfk_4_105, hfk_4_106, hfk_4_107, hfk_4_108, hfk_4_109, hfk_4_110, hfk_4_121, hfk_4_138, hfk_4_139, hfk_4_141, hfk_4_142, hfk_4_144, hfk_4_145, hfk_4_146, hfk_4_147, hfk_4_149, hfk_4_150, hfk_4_151, hfk_4_152, hfk_4_153, hfk_4_154, hln_4, hrq_4, hsp⟩
    · rw [if_pos c_10] at hsp
      refine lv_aload_n hx hb dX13_call_123 rfl (lv_at hl 4 rfl) ?_
      refine va_get (D := (dC, dI)) (ci := 13) (v := .ref qf154) (C := RX13) (T := TX13) (N := 155) hx hb hts uV_h9_X13 hown hK hP 14 rfl rfl 154 (by decide) (hts (.fieldLink RX13 306 "ClassMillModel" "cells" "[I") mw_h9_616) (fun _ h9 => h9) hfk_4_154 dX13_call_124 ?_
      refine lv_iload hx hb dX13_call_127 (lv_at hl 1 rfl) ?_
      obtain ⟨hi_11, hsp⟩ := ox_in hsp
      refine va_iald hx hb hK hP 1 1 rfl rfl (i := ((((60 * (x149_72 - 1)) + 30) + (g153_72 ((x149_72 - 1) : Int32).toNatClampNeg)) - (s1_72 + s0_72))) hi_11 dX13_call_129 ?_
      refine lv_istore (lv' := [(9, .int (g154_72 (((((60 * (x149_72 - 1)) + 30) + (g153_72 ((x149_72 - 1) : Int32).toNatClampNeg)) - (s1_72 + s0_72)) : Int32).toNatClampNeg)), (8, .int u4_0), (7, .int ((((60 * (x149_72 - 1)) + 30) + (g153_72 ((x149_72 - 1) : Int32).toNatClampNeg)) - (s1_72 + s0_72))), (6, .int (x149_72 - 1)), (5, .int (s1_72 + s0_72)), (0, .ref h0), (1, .int l1_72), (2, .int l2_72), (3, .int l3_72)]) hx hb dX13_call_130 hl (by decide) rfl (fun ls hl => ?_)
      refine lv_iload hx hb dX13_call_132 (lv_at hl 0 rfl) ?_
      refine lv_if_ne (tgt := 143) hx hb dX13_call_134 (by decide) (fun c_12 => ?_) (fun c_12 => ?_)
      · rw [if_neg c_12] at hsp
        refine lv_aload_n hx hb dX13_call_143 rfl (lv_at hl 5 rfl) ?_
        refine va_get (D := (dC, dI)) (ci := 13) (v := .ref qf144) (C := RX13) (T := TX13) (N := 155) hx hb hts uV_h9_X13 hown hK hP 14 rfl rfl 144 (by decide) (hts (.fieldLink RX13 279 "ClassMillModel" "sort" "[I") mw_h9_371) (fun _ h9 => h9) hfk_4_144 dX13_call_144 ?_
        refine lv_iload hx hb dX13_call_147 (lv_at hl 0 rfl) ?_
        obtain ⟨hi_13, hsp⟩ := ox_in hsp
        refine va_iald hx hb hK hP 2 2 rfl rfl (i := (g154_72 (((((60 * (x149_72 - 1)) + 30) + (g153_72 ((x149_72 - 1) : Int32).toNatClampNeg)) - (s1_72 + s0_72)) : Int32).toNatClampNeg)) hi_13 dX13_call_149 ?_
        refine lv_bipush (v := 99) hx hb dX13_call_150 (by decide) ?_
        refine lv_icmp_lt (tgt := 159) hx hb dX13_call_152 (by decide) (fun c_14 => ?_) (fun c_14 => ?_)
        · rw [if_pos c_14] at hsp
          refine lv_aload_n hx hb dX13_call_159 rfl (lv_at hl 5 rfl) ?_
          refine va_get (D := (dC, dI)) (ci := 13) (v := .ref qf144) (C := RX13) (T := TX13) (N := 155) hx hb hts uV_h9_X13 hown hK hP 14 rfl rfl 144 (by decide) (hts (.fieldLink RX13 279 "ClassMillModel" "sort" "[I") mw_h9_371) (fun _ h9 => h9) hfk_4_144 dX13_call_160 ?_
          refine lv_iload hx hb dX13_call_163 (lv_at hl 0 rfl) ?_
          obtain ⟨hi_15, hsp⟩ := ox_in hsp
          refine va_iald hx hb hK hP 2 2 rfl rfl (i := (g154_72 (((((60 * (x149_72 - 1)) + 30) + (g153_72 ((x149_72 - 1) : Int32).toNatClampNeg)) - (s1_72 + s0_72)) : Int32).toNatClampNeg)) hi_15 dX13_call_165 ?_
          exact hj_166 (H, locs, ls, z_4, l2_72, l3_72, (s1_72 + s0_72), (x149_72 - 1), ((((60 * (x149_72 - 1)) + 30) + (g153_72 ((x149_72 - 1) : Int32).toNatClampNeg)) - (s1_72 + s0_72)), (g144_72 ((g154_72 (((((60 * (x149_72 - 1)) + 30) + (g153_72 ((x149_72 - 1) : Int32).toNatClampNeg)) - (s1_72 + s0_72)) : Int32).toNatClampNeg) : Int32).toNatClampNeg), g144_72, g145_72, g146_72, g147_72, g150_72, g151_72, g152_72, g153_72, g154_72, x121_72, x138_72, x139_72, x141_72, x142_72, x149_72) ⟨lv_sub hl [5, 7, 8, 4, 3, 2] rfl, hS, hD.sub (ws' := [(h0, .inr (13, z_4)), (qf150, .inl (cf150, 60, .inl g150_72)), (qf102, .inl (cf102, 2048, .inl f102)), (qf100, .inl (cf100, 48000, .inl f100)), (qf153, .inl (cf153, 60, .inl g153_72)), (qf104, .inl (cf104, 8, .inl f104)), (qf154, .inl (cf154, 3600, .inl g154_72)), (qf144, .inl (cf144, 2001, .inl g144_72)), (qf145, .inl (cf145, 2001, .inl g145_72)), (qf146, .inl (cf146, 2001, .inl g146_72)), (qf147, .inl (cf147, 20000, .inl g147_72)), (qf151, .inl (cf151, 60, .inl g151_72)), (qf110, .inl (cf110, 96, .inl f110)), (qf152, .inl (cf152, 60, .inl g152_72)), (qf105, .inl (cf105, 8, .inl f105)), (qf106, .inl (cf106, 8, .inl f106)), (qf108, .inl (cf108, 8, .inl f108)), (qf107, .inl (cf107, 96, .inl f107)), (qf109, .inl (cf109, 96, .inl f109))]) [14, 15, 16, 17, 0, 18, 1, 2, 3, 4, 5, 6, 7, 8, 9, 10, 11, 12, 13] (by decide) rfl, hP.sub (ws' := [(h0, .inr (13, z_4)), (qf150, .inl (cf150, 60, .inl g150_72)), (qf102, .inl (cf102, 2048, .inl f102)), (qf100, .inl (cf100, 48000, .inl f100)), (qf153, .inl (cf153, 60, .inl g153_72)), (qf104, .inl (cf104, 8, .inl f104)), (qf154, .inl (cf154, 3600, .inl g154_72)), (qf144, .inl (cf144, 2001, .inl g144_72)), (qf145, .inl (cf145, 2001, .inl g145_72)), (qf146, .inl (cf146, 2001, .inl g146_72)), (qf147, .inl (cf147, 20000, .inl g147_72)), (qf151, .inl (cf151, 60, .inl g151_72)), (qf110, .inl (cf110, 96, .inl f110)), (qf152, .inl (cf152, 60, .inl g152_72)), (qf105, .inl (cf105, 8, .inl f105)), (qf106, .inl (cf106, 8, .inl f106)), (qf108, .inl (cf108, 8, .inl f108)), (qf107, .inl (cf107, 96, .inl f107)), (qf109, .inl (cf109, 96, .inl f109))]) [14, 15, 16, 17, 0, 18, 1, 2, 3, 4, 5, 6, 7, 8, 9, 10, 11, 12, 13] rfl, hfk_4_98, hfk_4_100, hfk_4_102, hfk_4_104, hfk_4_105, hfk_4_106, hfk_4_107, hfk_4_108, hfk_4_109, hfk_4_110, hfk_4_121, hfk_4_138, hfk_4_139, hfk_4_141, hfk_4_142, hfk_4_144, hfk_4_145, hfk_4_146, hfk_4_147, hfk_4_149, hfk_4_150, hfk_4_151, hfk_4_152, hfk_4_153, hfk_4_154, hln_4, hrq_4, hsp⟩
        · rw [if_neg c_14] at hsp
          refine lv_iconst (v := 0) hx hb dX13_call_155 (by decide) ?_
          refine lv_goto (tgt := 166) hx hb dX13_call_156 (by decide) ?_
          exact hj_166 (H, locs, ls, z_4, l2_72, l3_72, (s1_72 + s0_72), (x149_72 - 1), ((((60 * (x149_72 - 1)) + 30) + (g153_72 ((x149_72 - 1) : Int32).toNatClampNeg)) - (s1_72 + s0_72)), 0, g144_72, g145_72, g146_72, g147_72, g150_72, g151_72, g152_72, g153_72, g154_72, x121_72, x138_72, x139_72, x141_72, x142_72, x149_72) ⟨lv_sub hl [5, 7, 8, 4, 3, 2] rfl, hS, hD.sub (ws' := [(h0, .inr (13, z_4)), (qf150, .inl (cf150, 60, .inl g150_72)), (qf102, .inl (cf102, 2048, .inl f102)), (qf100, .inl (cf100, 48000, .inl f100)), (qf153, .inl (cf153, 60, .inl g153_72)), (qf104, .inl (cf104, 8, .inl f104)), (qf154, .inl (cf154, 3600, .inl g154_72)), (qf144, .inl (cf144, 2001, .inl g144_72)), (qf145, .inl (cf145, 2001, .inl g145_72)), (qf146, .inl (cf146, 2001, .inl g146_72)), (qf147, .inl (cf147, 20000, .inl g147_72)), (qf151, .inl (cf151, 60, .inl g151_72)), (qf110, .inl (cf110, 96, .inl f110)), (qf152, .inl (cf152, 60, .inl g152_72)), (qf105, .inl (cf105, 8, .inl f105)), (qf106, .inl (cf106, 8, .inl f106)), (qf108, .inl (cf108, 8, .inl f108)), (qf107, .inl (cf107, 96, .inl f107)), (qf109, .inl (cf109, 96, .inl f109))]) [14, 15, 16, 17, 0, 18, 1, 2, 3, 4, 5, 6, 7, 8, 9, 10, 11, 12, 13] (by decide) rfl, hP.sub (ws' := [(h0, .inr (13, z_4)), (qf150, .inl (cf150, 60, .inl g150_72)), (qf102, .inl (cf102, 2048, .inl f102)), (qf100, .inl (cf100, 48000, .inl f100)), (qf153, .inl (cf153, 60, .inl g153_72)), (qf104, .inl (cf104, 8, .inl f104)), (qf154, .inl (cf154, 3600, .inl g154_72)), (qf144, .inl (cf144, 2001, .inl g144_72)), (qf145, .inl (cf145, 2001, .inl g145_72)), (qf146, .inl (cf146, 2001, .inl g146_72)), (qf147, .inl (cf147, 20000, .inl g147_72)), (qf151, .inl (cf151, 60, .inl g151_72)), (qf110, .inl (cf110, 96, .inl f110)), (qf152, .inl (cf152, 60, .inl g152_72)), (qf105, .inl (cf105, 8, .inl f105)), (qf106, .inl (cf106, 8, .inl f106)), (qf108, .inl (cf108, 8, .inl f108)), (qf107, .inl (cf107, 96, .inl f107)), (qf109, .inl (cf109, 96, .inl f109))]) [14, 15, 16, 17, 0, 18, 1, 2, 3, 4, 5, 6, 7, 8, 9, 10, 11, 12, 13] rfl, hfk_4_98, hfk_4_100, hfk_4_102, hfk_4_104, hfk_4_105, hfk_4_106, hfk_4_107, hfk_4_108, hfk_4_109, hfk_4_110, hfk_4_121, hfk_4_138, hfk_4_139, hfk_4_141, hfk_4_142, hfk_4_144, hfk_4_145, hfk_4_146, hfk_4_147, hfk_4_149, hfk_4_150, hfk_4_151, hfk_4_152, hfk_4_153, hfk_4_154, hln_4, hrq_4, hsp⟩
      · rw [if_pos c_12] at hsp
        refine lv_aload_n hx hb dX13_call_137 rfl (lv_at hl 5 rfl) ?_
        refine lv_iconst (v := 2) hx hb dX13_call_138 (by decide) ?_
        obtain ⟨⟨g905_0, g905_1, g905_2, g905_3, g905_4, g905_5, g905_6, u5_7, u5_8, u5_9, u5_10, u5_11⟩, hu_5, hsp⟩ := ox_bind hsp
        try dsimp only at hsp
        have hPc := hP.sub (ws' := [(h0, .inr (13, z_4)), (qf144, .inl (cf144, 2001, .inl g144_72)), (qf145, .inl (cf145, 2001, .inl g145_72)), (qf146, .inl (cf146, 2001, .inl g146_72)), (qf147, .inl (cf147, 20000, .inl g147_72)), (qf150, .inl (cf150, 60, .inl g150_72)), (qf151, .inl (cf151, 60, .inl g151_72)), (qf110, .inl (cf110, 96, .inl f110)), (qf100, .inl (cf100, 48000, .inl f100)), (qf152, .inl (cf152, 60, .inl g152_72)), (qf102, .inl (cf102, 2048, .inl f102)), (qf104, .inl (cf104, 8, .inl f104)), (qf105, .inl (cf105, 8, .inl f105)), (qf153, .inl (cf153, 60, .inl g153_72)), (qf154, .inl (cf154, 3600, .inl g154_72))]) [14, 2, 3, 4, 5, 15, 6, 7, 17, 8, 16, 18, 9, 0, 1] rfl
        have hDc := hD.sub (ws' := [(h0, .inr (13, z_4)), (qf144, .inl (cf144, 2001, .inl g144_72)), (qf145, .inl (cf145, 2001, .inl g145_72)), (qf146, .inl (cf146, 2001, .inl g146_72)), (qf147, .inl (cf147, 20000, .inl g147_72)), (qf150, .inl (cf150, 60, .inl g150_72)), (qf151, .inl (cf151, 60, .inl g151_72)), (qf110, .inl (cf110, 96, .inl f110)), (qf100, .inl (cf100, 48000, .inl f100)), (qf152, .inl (cf152, 60, .inl g152_72)), (qf102, .inl (cf102, 2048, .inl f102)), (qf104, .inl (cf104, 8, .inl f104)), (qf105, .inl (cf105, 8, .inl f105)), (qf153, .inl (cf153, 60, .inl g153_72)), (qf154, .inl (cf154, 3600, .inl g154_72))]) [14, 2, 3, 4, 5, 15, 6, 7, 17, 8, 16, 18, 9, 0, 1] (by decide) rfl
        have hKc := hK.sub (tys' := [(cf144, .int), (cf145, .int), (cf146, .int), (cf147, .int), (cf150, .int), (cf151, .int), (cf110, .int), (cf100, .int), (cf152, .int), (cf102, .int), (cf104, .int), (cf105, .int), (cf153, .int), (cf154, .int)]) [2, 3, 4, 5, 14, 6, 7, 16, 8, 15, 17, 9, 0, 1] rfl
        have hFc := va_free (wc := [(h0, .inr (13, z_4)), (qf144, .inl (cf144, 2001, .inl g144_72)), (qf145, .inl (cf145, 2001, .inl g145_72)), (qf146, .inl (cf146, 2001, .inl g146_72)), (qf147, .inl (cf147, 20000, .inl g147_72)), (qf150, .inl (cf150, 60, .inl g150_72)), (qf151, .inl (cf151, 60, .inl g151_72)), (qf110, .inl (cf110, 96, .inl f110)), (qf100, .inl (cf100, 48000, .inl f100)), (qf152, .inl (cf152, 60, .inl g152_72)), (qf102, .inl (cf102, 2048, .inl f102)), (qf104, .inl (cf104, 8, .inl f104)), (qf105, .inl (cf105, 8, .inl f105)), (qf153, .inl (cf153, 60, .inl g153_72)), (qf154, .inl (cf154, 3600, .inl g154_72))]) hD hS hA [14, 2, 3, 4, 5, 15, 6, 7, 17, 8, 16, 18, 9, 0, 1] rfl
        refine va_callv (va_runV (As := [.int 2]) (rest := []) ⟨hx, hb, hml, hown, hts⟩ (vm_fails l dC dI H.size h0 z_4 2 v98 qf100 qf102 qf104 qf105 qf110 x138_72 x139_72 x141_72 x142_72 qf144 qf145 qf146 qf147 x149_72 qf150 qf151 qf152 qf153 qf154 cf144 g144_72 cf145 g145_72 cf146 g146_72 cf147 g147_72 cf150 g150_72 cf151 g151_72 cf110 f110 cf100 f100 cf152 g152_72 cf102 f102 cf104 f104 cf105 f105 cf153 g153_72 cf154 g154_72 nS477 fS477 hS477 qS477 tS477 nf g905_0 g905_1 g905_2 g905_3 g905_4 g905_5 g905_6 u5_7 u5_8 u5_9 u5_10 u5_11 hln_4 hfk_4_98 hfk_4_100 hfk_4_102 hfk_4_104 hfk_4_105 hfk_4_110 hfk_4_138 hfk_4_139 hfk_4_141 hfk_4_142 hfk_4_144 hfk_4_145 hfk_4_146 hfk_4_147 hfk_4_149 hfk_4_150 hfk_4_151 hfk_4_152 hfk_4_153 hfk_4_154 hu_5) (cwV 1 hts gv_h9_125 rfl rfl rfl (by decide +kernel) ⟨Nat.le_of_ble_eq_true rfl, Nat.le_of_ble_eq_true rfl⟩) ⟨fun a U g mk q => by obtain ⟨q0, q1, qP, qK, qD, qhZWS477, qhZRS477⟩ := q; exact ⟨q0, q1, qP, va_K.moved (u := U) (U := U.calling g mk a) (Vm.Alike.refl U.vm) qK, qD, pz_W.moved (u := U) (U := U.calling g mk a) (Vm.Alike.refl U.vm) qhZWS477, vk_R.same rfl qhZRS477⟩, va_recv hKc hPc (ci := 13) (q0 := 0) rfl rfl, fun U hU hW => ⟨rfl, by rw [hU], by rw [hU]; exact hPc, va_K.moved hW.alike hKc, hDc.weaken (fun _ _ _ _ => trivial), by rw [hU]; exact ((pz_W.moved hW.alike hZWS477).kept hS.2.1).narrow hFc, vk_R.warm hW hZRS477⟩⟩ rfl rfl hl.1 rfl (lv_room (Nat.le_of_ble_eq_true rfl)) dX13_call_139 ⟨Nat.le_of_ble_eq_true rfl, Nat.le_of_ble_eq_true rfl⟩) hS (fun q _ h => hFc q h) hFc ?_
        clear hS
        intro u t H1 locs ht hvm hw hB hz1 hk1 hS
        obtain ⟨z_5, rfl⟩ : ∃ z, z = u := ⟨_, rfl⟩
        obtain ⟨hP1, hK1, hD1⟩ := hB
        rw [ht] at hP1
        have hK1 := va_K.moved hvm.symm hK1
        try dsimp only at hw
        have hPD := va_join (wr := [(qf106, .inl (cf106, 8, .inl f106)), (qf108, .inl (cf108, 8, .inl f108)), (qf107, .inl (cf107, 96, .inl f107)), (qf109, .inl (cf109, 96, .inl f109))]) (w1 := [(h0, .inr (13, z_5)), (qf144, .inl (cf144, 2001, .inl g905_0)), (qf145, .inl (cf145, 2001, .inl g905_1)), (qf146, .inl (cf146, 2001, .inl g905_2)), (qf147, .inl (cf147, 20000, .inl g905_3)), (qf150, .inl (cf150, 60, .inl g150_72)), (qf151, .inl (cf151, 60, .inl g151_72)), (qf110, .inl (cf110, 96, .inl f110)), (qf100, .inl (cf100, 48000, .inl f100)), (qf152, .inl (cf152, 60, .inl g905_4)), (qf102, .inl (cf102, 2048, .inl f102)), (qf104, .inl (cf104, 8, .inl f104)), (qf105, .inl (cf105, 8, .inl f105)), (qf153, .inl (cf153, 60, .inl g905_5)), (qf154, .inl (cf154, 3600, .inl g905_6))]) hP hD [14, 2, 3, 4, 5, 15, 6, 7, 17, 8, 16, 18, 9, 0, 1] [10, 11, 12, 13] rfl rfl (by decide) (by decide) hk1 hFc hP1 hD1
        clear hP hD
        obtain ⟨hP, hD⟩ := hPD
        replace hK := (hK.sub (tys' := [(cf106, .int), (cf108, .int), (cf107, .int), (cf109, .int)]) [10, 11, 12, 13] rfl).app hK1
        clear hPc hDc hKc hFc hP1 hK1 hD1 hz1 hk1 ht hvm
        generalize H1 = H at hP hS ⊢
        replace hP : va_P (dC, dI) vwCl [(qf106, .inl (cf106, 8, .inl f106)), (qf108, .inl (cf108, 8, .inl f108)), (qf107, .inl (cf107, 96, .inl f107)), (qf109, .inl (cf109, 96, .inl f109)), (h0, .inr (13, z_5)), (qf144, .inl (cf144, 2001, .inl g905_0)), (qf145, .inl (cf145, 2001, .inl g905_1)), (qf146, .inl (cf146, 2001, .inl g905_2)), (qf147, .inl (cf147, 20000, .inl g905_3)), (qf150, .inl (cf150, 60, .inl g150_72)), (qf151, .inl (cf151, 60, .inl g151_72)), (qf110, .inl (cf110, 96, .inl f110)), (qf100, .inl (cf100, 48000, .inl f100)), (qf152, .inl (cf152, 60, .inl g905_4)), (qf102, .inl (cf102, 2048, .inl f102)), (qf104, .inl (cf104, 8, .inl f104)), (qf105, .inl (cf105, 8, .inl f105)), (qf153, .inl (cf153, 60, .inl g905_5)), (qf154, .inl (cf154, 3600, .inl g905_6))] H := hP
        replace hD : va_D A [(qf106, .inl (cf106, 8, .inl f106)), (qf108, .inl (cf108, 8, .inl f108)), (qf107, .inl (cf107, 96, .inl f107)), (qf109, .inl (cf109, 96, .inl f109)), (h0, .inr (13, z_5)), (qf144, .inl (cf144, 2001, .inl g905_0)), (qf145, .inl (cf145, 2001, .inl g905_1)), (qf146, .inl (cf146, 2001, .inl g905_2)), (qf147, .inl (cf147, 20000, .inl g905_3)), (qf150, .inl (cf150, 60, .inl g150_72)), (qf151, .inl (cf151, 60, .inl g151_72)), (qf110, .inl (cf110, 96, .inl f110)), (qf100, .inl (cf100, 48000, .inl f100)), (qf152, .inl (cf152, 60, .inl g905_4)), (qf102, .inl (cf102, 2048, .inl f102)), (qf104, .inl (cf104, 8, .inl f104)), (qf105, .inl (cf105, 8, .inl f105)), (qf153, .inl (cf153, 60, .inl g905_5)), (qf154, .inl (cf154, 3600, .inl g905_6))] := hD
        replace hK : va_K (dC, dI) vwCl [(cf106, .int), (cf108, .int), (cf107, .int), (cf109, .int), (cf144, .int), (cf145, .int), (cf146, .int), (cf147, .int), (cf150, .int), (cf151, .int), (cf110, .int), (cf100, .int), (cf152, .int), (cf102, .int), (cf104, .int), (cf105, .int), (cf153, .int), (cf154, .int)] s := hK
        obtain ⟨hwa_5, hln_5, hre_5, hch_5_138, hch_5_139, hch_5_141, hch_5_142, hch_5_149⟩ := hw
        have hfk_5_98 : z_5[98]? = some (.int v98) := (hre_5 98 (by decide) (by decide) (by decide) (by decide) (by decide)).trans (hfk_4_98)
        have hfk_5_100 : z_5[100]? = some (.ref qf100) := (hre_5 100 (by decide) (by decide) (by decide) (by decide) (by decide)).trans (hfk_4_100)
        have hfk_5_102 : z_5[102]? = some (.ref qf102) := (hre_5 102 (by decide) (by decide) (by decide) (by decide) (by decide)).trans (hfk_4_102)
        have hfk_5_104 : z_5[104]? = some (.ref qf104) := (hre_5 104 (by decide) (by decide) (by decide) (by decide) (by decide)).trans (hfk_4_104)
        have hfk_5_105 : z_5[105]? = some (.ref qf105) := (hre_5 105 (by decide) (by decide) (by decide) (by decide) (by decide)).trans (hfk_4_105)
        have hfk_5_106 : z_5[106]? = some (.ref qf106) := (hre_5 106 (by decide) (by decide) (by decide) (by decide) (by decide)).trans (hfk_4_106)
        have hfk_5_107 : z_5[107]? = some (.ref qf107) := (hre_5 107 (by decide) (by decide) (by decide) (by decide) (by decide)).trans (hfk_4_107)
        have hfk_5_108 : z_5[108]? = some (.ref qf108) := (hre_5 108 (by decide) (by decide) (by decide) (by decide) (by decide)).trans (hfk_4_108)
        have hfk_5_109 : z_5[109]? = some (.ref qf109) := (hre_5 109 (by decide) (by decide) (by decide) (by decide) (by decide)).trans (hfk_4_109)
        have hfk_5_110 : z_5[110]? = some (.ref qf110) := (hre_5 110 (by decide) (by decide) (by decide) (by decide) (by decide)).trans (hfk_4_110)
        have hfk_5_121 : z_5[121]? = some (.int x121_72) := (hre_5 121 (by decide) (by decide) (by decide) (by decide) (by decide)).trans (hfk_4_121)
        have hfk_5_144 : z_5[144]? = some (.ref qf144) := (hre_5 144 (by decide) (by decide) (by decide) (by decide) (by decide)).trans (hfk_4_144)
        have hfk_5_145 : z_5[145]? = some (.ref qf145) := (hre_5 145 (by decide) (by decide) (by decide) (by decide) (by decide)).trans (hfk_4_145)
        have hfk_5_146 : z_5[146]? = some (.ref qf146) := (hre_5 146 (by decide) (by decide) (by decide) (by decide) (by decide)).trans (hfk_4_146)
        have hfk_5_147 : z_5[147]? = some (.ref qf147) := (hre_5 147 (by decide) (by decide) (by decide) (by decide) (by decide)).trans (hfk_4_147)
        have hfk_5_150 : z_5[150]? = some (.ref qf150) := (hre_5 150 (by decide) (by decide) (by decide) (by decide) (by decide)).trans (hfk_4_150)
        have hfk_5_151 : z_5[151]? = some (.ref qf151) := (hre_5 151 (by decide) (by decide) (by decide) (by decide) (by decide)).trans (hfk_4_151)
        have hfk_5_152 : z_5[152]? = some (.ref qf152) := (hre_5 152 (by decide) (by decide) (by decide) (by decide) (by decide)).trans (hfk_4_152)
        have hfk_5_153 : z_5[153]? = some (.ref qf153) := (hre_5 153 (by decide) (by decide) (by decide) (by decide) (by decide)).trans (hfk_4_153)
        have hfk_5_154 : z_5[154]? = some (.ref qf154) := (hre_5 154 (by decide) (by decide) (by decide) (by decide) (by decide)).trans (hfk_4_154)
        have hrq_5 : ∀ j : Nat, j ≠ 121 → j ≠ 138 → j ≠ 139 → j ≠ 141 → j ≠ 142 → j ≠ 149 → z_5[j]? = zs[j]? := fun j g121 g138 g139 g141 g142 g149 => (hre_5 j g138 g139 g141 g142 g149).trans (hrq_4 j g121 g138 g139 g141 g142 g149)
        have hr0 := Option.some.inj hsp
        clear hsp
        obtain ⟨hq0, hr1⟩ := Prod.mk.inj hr0
        clear hr0
        obtain ⟨hq1, hr2⟩ := Prod.mk.inj hr1
        clear hr1
        obtain ⟨hq2, hr3⟩ := Prod.mk.inj hr2
        clear hr2
        obtain ⟨hq3, hr4⟩ := Prod.mk.inj hr3
        clear hr3
        obtain ⟨hq4, hr5⟩ := Prod.mk.inj hr4
        clear hr4
        obtain ⟨hq5, hr6⟩ := Prod.mk.inj hr5
        clear hr5
        obtain ⟨hq6, hr7⟩ := Prod.mk.inj hr6
        clear hr6
        obtain ⟨hq7, hr8⟩ := Prod.mk.inj hr7
        clear hr7
        obtain ⟨hq8, hr9⟩ := Prod.mk.inj hr8
        clear hr8
        obtain ⟨hq9, hr10⟩ := Prod.mk.inj hr9
        clear hr9
        obtain ⟨hq10, hr11⟩ := Prod.mk.inj hr10
        clear hr10
        obtain ⟨hq11, hr12⟩ := Prod.mk.inj hr11
        clear hr11
        obtain ⟨hq12, hr13⟩ := Prod.mk.inj hr12
        clear hr12
        obtain ⟨hq13, hr14⟩ := Prod.mk.inj hr13
        clear hr13
        subst hq0
        subst hq1
        subst hq2
        subst hq3
        subst hq4
        subst hq5
        subst hq6
        subst hq7
        subst hq8
        subst hq9
        subst hq10
        subst hq11
        subst hq12
        subst hq13
        subst hr14
        have hP9 := hP.sub (ws' := [(h0, .inr (13, z_5)), (qf150, .inl (cf150, 60, .inl g150_72)), (qf102, .inl (cf102, 2048, .inl f102)), (qf100, .inl (cf100, 48000, .inl f100)), (qf153, .inl (cf153, 60, .inl g905_5)), (qf104, .inl (cf104, 8, .inl f104)), (qf154, .inl (cf154, 3600, .inl g905_6)), (qf144, .inl (cf144, 2001, .inl g905_0)), (qf145, .inl (cf145, 2001, .inl g905_1)), (qf146, .inl (cf146, 2001, .inl g905_2)), (qf147, .inl (cf147, 20000, .inl g905_3)), (qf151, .inl (cf151, 60, .inl g151_72)), (qf110, .inl (cf110, 96, .inl f110)), (qf152, .inl (cf152, 60, .inl g905_4)), (qf105, .inl (cf105, 8, .inl f105)), (qf106, .inl (cf106, 8, .inl f106)), (qf108, .inl (cf108, 8, .inl f108)), (qf107, .inl (cf107, 96, .inl f107)), (qf109, .inl (cf109, 96, .inl f109))]) [4, 9, 14, 12, 17, 15, 18, 5, 6, 7, 8, 10, 11, 13, 16, 0, 1, 2, 3] rfl
        have hD9 := hD.sub (ws' := [(h0, .inr (13, z_5)), (qf150, .inl (cf150, 60, .inl g150_72)), (qf102, .inl (cf102, 2048, .inl f102)), (qf100, .inl (cf100, 48000, .inl f100)), (qf153, .inl (cf153, 60, .inl g905_5)), (qf104, .inl (cf104, 8, .inl f104)), (qf154, .inl (cf154, 3600, .inl g905_6)), (qf144, .inl (cf144, 2001, .inl g905_0)), (qf145, .inl (cf145, 2001, .inl g905_1)), (qf146, .inl (cf146, 2001, .inl g905_2)), (qf147, .inl (cf147, 20000, .inl g905_3)), (qf151, .inl (cf151, 60, .inl g151_72)), (qf110, .inl (cf110, 96, .inl f110)), (qf152, .inl (cf152, 60, .inl g905_4)), (qf105, .inl (cf105, 8, .inl f105)), (qf106, .inl (cf106, 8, .inl f106)), (qf108, .inl (cf108, 8, .inl f108)), (qf107, .inl (cf107, 96, .inl f107)), (qf109, .inl (cf109, 96, .inl f109))]) [4, 9, 14, 12, 17, 15, 18, 5, 6, 7, 8, 10, 11, 13, 16, 0, 1, 2, 3] (by decide) rfl
        have hK9 := hK.sub (tys' := [(cf150, .int), (cf102, .int), (cf100, .int), (cf153, .int), (cf104, .int), (cf154, .int), (cf144, .int), (cf145, .int), (cf146, .int), (cf147, .int), (cf151, .int), (cf110, .int), (cf152, .int), (cf105, .int), (cf106, .int), (cf108, .int), (cf107, .int), (cf109, .int)]) [8, 13, 11, 16, 14, 17, 4, 5, 6, 7, 9, 10, 12, 15, 0, 1, 2, 3] rfl
        exact W.vret hx hb hr (fun t ht hW => ⟨⟨(z_5), rfl, ⟨trivial, hln_5, hrq_5, hfk_5_121, hch_5_138, hch_5_139, hch_5_141, hch_5_142, hch_5_149⟩, by rw [ht]; exact hP9, va_K.moved hW.alike hK9, hD9⟩, hS.F ht⟩) hS.2.2 dX13_call_142
  intro hj_72
  refine lv_aload_n hx hb dX13_call_0 rfl (lv_at hl 0 rfl) ?_
  refine va_get (D := (dC, dI)) (ci := 13) (v := .ref qf150) (C := RX13) (T := TX13) (N := 155) hx hb hts uV_h9_X13 hown hK hP 0 rfl rfl 150 (by decide) (hts (.fieldLink RX13 294 "ClassMillModel" "runClass" "[I") mw_h9_387) (fun _ h9 => h9) hf150 dX13_call_1 ?_
  refine lv_aload_n hx hb dX13_call_4 rfl (lv_at hl 0 rfl) ?_
  refine va_get (D := (dC, dI)) (ci := 13) (v := .int v149) (C := RX13) (T := TX13) (N := 155) hx hb hts uV_h9_X13 hown hK hP 0 rfl rfl 149 (by decide) (hts (.fieldLink RX13 1058 "ClassMillModel" "depth" "I") mw_h9_370) (fun _ h9 => h9) hf149 dX13_call_5 ?_
  refine lv_iconst (v := 1) hx hb dX13_call_8 (by decide) ?_
  refine lv_isub hx hb dX13_call_9 ?_
  obtain ⟨hi_1, hsp⟩ := ox_in hsp
  refine va_iald hx hb hK hP 1 0 rfl rfl (i := (v149 - 1)) hi_1 dX13_call_10 ?_
  refine lv_bipush (v := 8) hx hb dX13_call_11 (by decide) ?_
  refine lv_isub hx hb dX13_call_13 ?_
  refine lv_istore_n (lv' := [(3, .int ((f150 ((v149 - 1) : Int32).toNatClampNeg) - 8)), (0, .ref h0), (1, .int a1), (2, .int a2)]) hx hb dX13_call_14 rfl hl (by decide) rfl (fun ls hl => ?_)
  refine lv_sipush (v := 6000) hx hb dX13_call_15 (by decide) ?_
  refine lv_iload_n hx hb dX13_call_18 rfl (lv_at hl 0 rfl) ?_
  refine lv_imul hx hb dX13_call_19 ?_
  refine lv_aload_n hx hb dX13_call_20 rfl (lv_at hl 1 rfl) ?_
  refine va_get (D := (dC, dI)) (ci := 13) (v := .ref qf102) (C := RX13) (T := TX13) (N := 155) hx hb hts uV_h9_X13 hown hK hP 0 rfl rfl 102 (by decide) (hts (.fieldLink RX13 215 "ClassMillModel" "constantAt" "[I") mw_h9_267) (fun _ h9 => h9) hf102 dX13_call_21 ?_
  refine lv_sipush (v := 256) hx hb dX13_call_24 (by decide) ?_
  refine lv_iload_n hx hb dX13_call_27 rfl (lv_at hl 0 rfl) ?_
  refine lv_imul hx hb dX13_call_28 ?_
  refine lv_aload_n hx hb dX13_call_29 rfl (lv_at hl 1 rfl) ?_
  refine lv_iload_n hx hb dX13_call_30 rfl (lv_at hl 3 rfl) ?_
  refine lv_iconst (v := 2) hx hb dX13_call_31 (by decide) ?_
  obtain ⟨u1_0, hu_1, hsp⟩ := ox_bind hsp
  try dsimp only at hsp
  have hPc := hP.sub (ws' := [(h0, .inr (13, zs)), (qf150, .inl (cf150, 60, .inl f150)), (qf102, .inl (cf102, 2048, .inl f102)), (qf100, .inl (cf100, 48000, .inl f100))]) [0, 1, 2, 3] rfl
  have hDc := hD.sub (ws' := [(h0, .inr (13, zs)), (qf150, .inl (cf150, 60, .inl f150)), (qf102, .inl (cf102, 2048, .inl f102)), (qf100, .inl (cf100, 48000, .inl f100))]) [0, 1, 2, 3] (by decide) rfl
  have hKc := hK.sub (tys' := [(cf150, .int), (cf102, .int), (cf100, .int)]) [0, 1, 2] rfl
  have hFc := va_free (wc := [(h0, .inr (13, zs)), (qf150, .inl (cf150, 60, .inl f150)), (qf102, .inl (cf102, 2048, .inl f102)), (qf100, .inl (cf100, 48000, .inl f100))]) hD hS hA [0, 1, 2, 3] rfl
  refine va_calli (va_runV (As := [.int a2, .int 2]) (rest := [.int (256 * ((f150 ((v149 - 1) : Int32).toNatClampNeg) - 8)), .ref qf102, .int (6000 * ((f150 ((v149 - 1) : Int32).toNatClampNeg) - 8))]) ⟨hx, hb, hml, hown, hts⟩ (tm_memberPart l dC dI H.size h0 zs a2 2 qf100 qf102 v149 qf150 cf150 f150 cf102 f102 cf100 f100 nf u1_0 hlen hf100 hf102 hf149 hf150 hu_1) (cwV 2 hts gv_h9_76 rfl rfl rfl (by decide +kernel) ⟨Nat.le_of_ble_eq_true rfl, Nat.le_of_ble_eq_true rfl⟩) ⟨fun a U g mk q => by obtain ⟨q0, q1, qP, qK, qD⟩ := q; exact ⟨q0, q1, qP, va_K.moved (u := U) (U := U.calling g mk a) (Vm.Alike.refl U.vm) qK, qD⟩, va_recv hKc hPc (ci := 13) (q0 := 0) rfl rfl, fun U hU hW => ⟨rfl, by rw [hU], by rw [hU]; exact hPc, va_K.moved hW.alike hKc, hDc.weaken (fun _ _ _ _ => trivial)⟩⟩ rfl rfl hl.1 rfl (lv_room (Nat.le_of_ble_eq_true rfl)) dX13_call_32 ⟨Nat.le_of_ble_eq_true rfl, Nat.le_of_ble_eq_true rfl⟩) hS (fun q _ h => hFc q h) hFc ?_
  clear hS
  intro r_2 u t H1 locs ht hvm hw hB hz1 hk1 hS
  obtain ⟨z_1, rfl⟩ : ∃ z, z = u := ⟨_, rfl⟩
  obtain ⟨hP1, hK1, hD1⟩ := hB
  rw [ht] at hP1
  have hK1 := va_K.moved hvm.symm hK1
  try dsimp only at hw
  have hPD := va_join (wr := [(qf153, .inl (cf153, 60, .inl f153)), (qf104, .inl (cf104, 8, .inl f104)), (qf154, .inl (cf154, 3600, .inl f154)), (qf144, .inl (cf144, 2001, .inl f144)), (qf145, .inl (cf145, 2001, .inl f145)), (qf146, .inl (cf146, 2001, .inl f146)), (qf147, .inl (cf147, 20000, .inl f147)), (qf151, .inl (cf151, 60, .inl f151)), (qf110, .inl (cf110, 96, .inl f110)), (qf152, .inl (cf152, 60, .inl f152)), (qf105, .inl (cf105, 8, .inl f105)), (qf106, .inl (cf106, 8, .inl f106)), (qf108, .inl (cf108, 8, .inl f108)), (qf107, .inl (cf107, 96, .inl f107)), (qf109, .inl (cf109, 96, .inl f109))]) (w1 := [(h0, .inr (13, z_1)), (qf150, .inl (cf150, 60, .inl f150)), (qf102, .inl (cf102, 2048, .inl f102)), (qf100, .inl (cf100, 48000, .inl f100))]) hP hD [0, 1, 2, 3] [4, 5, 6, 7, 8, 9, 10, 11, 12, 13, 14, 15, 16, 17, 18] rfl rfl (by decide) (by decide) hk1 hFc hP1 hD1
  clear hP hD
  obtain ⟨hP, hD⟩ := hPD
  replace hK := (hK.sub (tys' := [(cf153, .int), (cf104, .int), (cf154, .int), (cf144, .int), (cf145, .int), (cf146, .int), (cf147, .int), (cf151, .int), (cf110, .int), (cf152, .int), (cf105, .int), (cf106, .int), (cf108, .int), (cf107, .int), (cf109, .int)]) [3, 4, 5, 6, 7, 8, 9, 10, 11, 12, 13, 14, 15, 16, 17] rfl).app hK1
  clear hPc hDc hKc hFc hP1 hK1 hD1 hz1 hk1 ht hvm
  generalize H1 = H at hP hS ⊢
  replace hP : va_P (dC, dI) vwCl [(qf153, .inl (cf153, 60, .inl f153)), (qf104, .inl (cf104, 8, .inl f104)), (qf154, .inl (cf154, 3600, .inl f154)), (qf144, .inl (cf144, 2001, .inl f144)), (qf145, .inl (cf145, 2001, .inl f145)), (qf146, .inl (cf146, 2001, .inl f146)), (qf147, .inl (cf147, 20000, .inl f147)), (qf151, .inl (cf151, 60, .inl f151)), (qf110, .inl (cf110, 96, .inl f110)), (qf152, .inl (cf152, 60, .inl f152)), (qf105, .inl (cf105, 8, .inl f105)), (qf106, .inl (cf106, 8, .inl f106)), (qf108, .inl (cf108, 8, .inl f108)), (qf107, .inl (cf107, 96, .inl f107)), (qf109, .inl (cf109, 96, .inl f109)), (h0, .inr (13, z_1)), (qf150, .inl (cf150, 60, .inl f150)), (qf102, .inl (cf102, 2048, .inl f102)), (qf100, .inl (cf100, 48000, .inl f100))] H := hP
  replace hD : va_D A [(qf153, .inl (cf153, 60, .inl f153)), (qf104, .inl (cf104, 8, .inl f104)), (qf154, .inl (cf154, 3600, .inl f154)), (qf144, .inl (cf144, 2001, .inl f144)), (qf145, .inl (cf145, 2001, .inl f145)), (qf146, .inl (cf146, 2001, .inl f146)), (qf147, .inl (cf147, 20000, .inl f147)), (qf151, .inl (cf151, 60, .inl f151)), (qf110, .inl (cf110, 96, .inl f110)), (qf152, .inl (cf152, 60, .inl f152)), (qf105, .inl (cf105, 8, .inl f105)), (qf106, .inl (cf106, 8, .inl f106)), (qf108, .inl (cf108, 8, .inl f108)), (qf107, .inl (cf107, 96, .inl f107)), (qf109, .inl (cf109, 96, .inl f109)), (h0, .inr (13, z_1)), (qf150, .inl (cf150, 60, .inl f150)), (qf102, .inl (cf102, 2048, .inl f102)), (qf100, .inl (cf100, 48000, .inl f100))] := hD
  replace hK : va_K (dC, dI) vwCl [(cf153, .int), (cf104, .int), (cf154, .int), (cf144, .int), (cf145, .int), (cf146, .int), (cf147, .int), (cf151, .int), (cf110, .int), (cf152, .int), (cf105, .int), (cf106, .int), (cf108, .int), (cf107, .int), (cf109, .int), (cf150, .int), (cf102, .int), (cf100, .int)] s := hK
  obtain ⟨hwa_1, hln_1, hre_1⟩ := hw
  have hfk_1_98 : z_1[98]? = some (.int v98) := (hre_1 98 ).trans (hf98)
  have hfk_1_100 : z_1[100]? = some (.ref qf100) := (hre_1 100 ).trans (hf100)
  have hfk_1_102 : z_1[102]? = some (.ref qf102) := (hre_1 102 ).trans (hf102)
  have hfk_1_104 : z_1[104]? = some (.ref qf104) := (hre_1 104 ).trans (hf104)
  have hfk_1_105 : z_1[105]? = some (.ref qf105) := (hre_1 105 ).trans (hf105)
  have hfk_1_106 : z_1[106]? = some (.ref qf106) := (hre_1 106 ).trans (hf106)
  have hfk_1_107 : z_1[107]? = some (.ref qf107) := (hre_1 107 ).trans (hf107)
  have hfk_1_108 : z_1[108]? = some (.ref qf108) := (hre_1 108 ).trans (hf108)
  have hfk_1_109 : z_1[109]? = some (.ref qf109) := (hre_1 109 ).trans (hf109)
  have hfk_1_110 : z_1[110]? = some (.ref qf110) := (hre_1 110 ).trans (hf110)
  have hfk_1_121 : z_1[121]? = some (.int v121) := (hre_1 121 ).trans (hf121)
  have hfk_1_138 : z_1[138]? = some (.int v138) := (hre_1 138 ).trans (hf138)
  have hfk_1_139 : z_1[139]? = some (.int v139) := (hre_1 139 ).trans (hf139)
  have hfk_1_141 : z_1[141]? = some (.int v141) := (hre_1 141 ).trans (hf141)
  have hfk_1_142 : z_1[142]? = some (.int v142) := (hre_1 142 ).trans (hf142)
  have hfk_1_144 : z_1[144]? = some (.ref qf144) := (hre_1 144 ).trans (hf144)
  have hfk_1_145 : z_1[145]? = some (.ref qf145) := (hre_1 145 ).trans (hf145)
  have hfk_1_146 : z_1[146]? = some (.ref qf146) := (hre_1 146 ).trans (hf146)
  have hfk_1_147 : z_1[147]? = some (.ref qf147) := (hre_1 147 ).trans (hf147)
  have hfk_1_149 : z_1[149]? = some (.int v149) := (hre_1 149 ).trans (hf149)
  have hfk_1_150 : z_1[150]? = some (.ref qf150) := (hre_1 150 ).trans (hf150)
  have hfk_1_151 : z_1[151]? = some (.ref qf151) := (hre_1 151 ).trans (hf151)
  have hfk_1_152 : z_1[152]? = some (.ref qf152) := (hre_1 152 ).trans (hf152)
  have hfk_1_153 : z_1[153]? = some (.ref qf153) := (hre_1 153 ).trans (hf153)
  have hfk_1_154 : z_1[154]? = some (.ref qf154) := (hre_1 154 ).trans (hf154)
  have hrq_1 : ∀ j : Nat, j ≠ 121 → j ≠ 138 → j ≠ 139 → j ≠ 141 → j ≠ 142 → j ≠ 149 → z_1[j]? = zs[j]? := fun j g121 g138 g139 g141 g142 g149 => (hre_1 j ).trans (hrs0 j g121 g138 g139 g141 g142 g149)
  obtain rfl := hwa_1
  refine lv_iadd hx hb dX13_call_35 ?_
  obtain ⟨hi_3, hsp⟩ := ox_in hsp
  refine va_iald hx hb hK hP 17 16 rfl rfl (i := ((256 * ((f150 ((v149 - 1) : Int32).toNatClampNeg) - 8)) + u1_0)) hi_3 dX13_call_36 ?_
  refine lv_iadd hx hb dX13_call_37 ?_
  refine lv_istore (lv' := [(4, .int ((6000 * ((f150 ((v149 - 1) : Int32).toNatClampNeg) - 8)) + (f102 (((256 * ((f150 ((v149 - 1) : Int32).toNatClampNeg) - 8)) + u1_0) : Int32).toNatClampNeg))), (3, .int ((f150 ((v149 - 1) : Int32).toNatClampNeg) - 8)), (0, .ref h0), (1, .int a1), (2, .int a2)]) hx hb dX13_call_38 hl (by decide) rfl (fun ls hl => ?_)
  refine lv_aload_n hx hb dX13_call_40 rfl (lv_at hl 2 rfl) ?_
  refine va_get (D := (dC, dI)) (ci := 13) (v := .ref qf100) (C := RX13) (T := TX13) (N := 155) hx hb hts uV_h9_X13 hown hK hP 15 rfl rfl 100 (by decide) (hts (.fieldLink RX13 209 "ClassMillModel" "bytes" "[I") mw_h9_266) (fun _ h9 => h9) hfk_1_100 dX13_call_41 ?_
  refine lv_iload hx hb dX13_call_44 (lv_at hl 0 rfl) ?_
  refine lv_iconst (v := 2) hx hb dX13_call_46 (by decide) ?_
  refine lv_iadd hx hb dX13_call_47 ?_
  refine lv_aload_n hx hb dX13_call_48 rfl (lv_at hl 2 rfl) ?_
  refine va_get (D := (dC, dI)) (ci := 13) (v := .ref qf100) (C := RX13) (T := TX13) (N := 155) hx hb hts uV_h9_X13 hown hK hP 15 rfl rfl 100 (by decide) (hts (.fieldLink RX13 209 "ClassMillModel" "bytes" "[I") mw_h9_266) (fun _ h9 => h9) hfk_1_100 dX13_call_49 ?_
  refine lv_iload hx hb dX13_call_52 (lv_at hl 0 rfl) ?_
  refine lv_iconst (v := 1) hx hb dX13_call_54 (by decide) ?_
  refine lv_iadd hx hb dX13_call_55 ?_
  obtain ⟨hi_4, hsp⟩ := ox_in hsp
  refine va_iald hx hb hK hP 18 17 rfl rfl (i := (((6000 * ((f150 ((v149 - 1) : Int32).toNatClampNeg) - 8)) + (f102 (((256 * ((f150 ((v149 - 1) : Int32).toNatClampNeg) - 8)) + u1_0) : Int32).toNatClampNeg)) + 1)) hi_4 dX13_call_56 ?_
  obtain ⟨u2_0, hu_2, hsp⟩ := ox_bind hsp
  try dsimp only at hsp
  have hPc := hP.sub (ws' := [(qf100, .inl (cf100, 48000, .inl f100))]) [18] rfl
  have hDc := hD.sub (ws' := [(qf100, .inl (cf100, 48000, .inl f100))]) [18] (by decide) rfl
  have hKc := hK.sub (tys' := [(cf100, .int)]) [17] rfl
  have hFc := va_free (wc := [(qf100, .inl (cf100, 48000, .inl f100))]) hD hS hA [18] rfl
  refine va_calli (va_runS (As := [.ref qf100, .int (((6000 * ((f150 ((v149 - 1) : Int32).toNatClampNeg) - 8)) + (f102 (((256 * ((f150 ((v149 - 1) : Int32).toNatClampNeg) - 8)) + u1_0) : Int32).toNatClampNeg)) + 2), .int (f100 ((((6000 * ((f150 ((v149 - 1) : Int32).toNatClampNeg) - 8)) + (f102 (((256 * ((f150 ((v149 - 1) : Int32).toNatClampNeg) - 8)) + u1_0) : Int32).toNatClampNeg)) + 1) : Int32).toNatClampNeg)]) (rest := []) ⟨hx, hb, hml, hown, hts⟩ (vm_parametersIn l dC dI H.size qf100 ((((6000 * ((f150 ((v149 - 1) : Int32).toNatClampNeg) - 8)) + (f102 (((256 * ((f150 ((v149 - 1) : Int32).toNatClampNeg) - 8)) + u1_0) : Int32).toNatClampNeg)) + 2)) ((f100 ((((6000 * ((f150 ((v149 - 1) : Int32).toNatClampNeg) - 8)) + (f102 (((256 * ((f150 ((v149 - 1) : Int32).toNatClampNeg) - 8)) + u1_0) : Int32).toNatClampNeg)) + 1) : Int32).toNatClampNeg)) cf100 48000 f100 nf u2_0 hu_2) (va_cwS 3 hts gv_h9_43 rfl rfl rfl (by decide +kernel) ⟨Nat.le_of_ble_eq_true rfl, Nat.le_of_ble_eq_true rfl⟩) ⟨fun a U g mk q => by obtain ⟨q0, q1, qP, qK, qD⟩ := q; exact ⟨q0, q1, qP, va_K.moved (u := U) (U := U.calling g mk a) (Vm.Alike.refl U.vm) qK, qD⟩, fun U hU hW => ⟨rfl, by rw [hU], by rw [hU]; exact hPc, va_K.moved hW.alike hKc, hDc.weaken (fun _ _ _ _ => trivial)⟩⟩ rfl rfl hl.1 rfl (lv_room (Nat.le_of_ble_eq_true rfl)) dX13_call_57 ⟨Nat.le_of_ble_eq_true rfl, Nat.le_of_ble_eq_true rfl⟩) hS (fun q _ h => hFc q h) hFc ?_
  clear hS
  intro r_5 u t H1 locs ht hvm hw hB hz1 hk1 hS
  obtain ⟨⟩ := u
  obtain ⟨hP1, hK1, hD1⟩ := hB
  rw [ht] at hP1
  have hK1 := va_K.moved hvm.symm hK1
  try dsimp only at hw
  have hPD := va_join (wr := [(qf153, .inl (cf153, 60, .inl f153)), (qf104, .inl (cf104, 8, .inl f104)), (qf154, .inl (cf154, 3600, .inl f154)), (qf144, .inl (cf144, 2001, .inl f144)), (qf145, .inl (cf145, 2001, .inl f145)), (qf146, .inl (cf146, 2001, .inl f146)), (qf147, .inl (cf147, 20000, .inl f147)), (qf151, .inl (cf151, 60, .inl f151)), (qf110, .inl (cf110, 96, .inl f110)), (qf152, .inl (cf152, 60, .inl f152)), (qf105, .inl (cf105, 8, .inl f105)), (qf106, .inl (cf106, 8, .inl f106)), (qf108, .inl (cf108, 8, .inl f108)), (qf107, .inl (cf107, 96, .inl f107)), (qf109, .inl (cf109, 96, .inl f109)), (h0, .inr (13, z_1)), (qf150, .inl (cf150, 60, .inl f150)), (qf102, .inl (cf102, 2048, .inl f102))]) (w1 := [(qf100, .inl (cf100, 48000, .inl f100))]) hP hD [18] [0, 1, 2, 3, 4, 5, 6, 7, 8, 9, 10, 11, 12, 13, 14, 15, 16, 17] rfl rfl (by decide) (by decide) hk1 hFc hP1 hD1
  clear hP hD
  obtain ⟨hP, hD⟩ := hPD
  replace hK := (hK.sub (tys' := [(cf153, .int), (cf104, .int), (cf154, .int), (cf144, .int), (cf145, .int), (cf146, .int), (cf147, .int), (cf151, .int), (cf110, .int), (cf152, .int), (cf105, .int), (cf106, .int), (cf108, .int), (cf107, .int), (cf109, .int), (cf150, .int), (cf102, .int)]) [0, 1, 2, 3, 4, 5, 6, 7, 8, 9, 10, 11, 12, 13, 14, 15, 16] rfl).app hK1
  clear hPc hDc hKc hFc hP1 hK1 hD1 hz1 hk1 ht hvm
  generalize H1 = H at hP hS ⊢
  replace hP : va_P (dC, dI) vwCl [(qf153, .inl (cf153, 60, .inl f153)), (qf104, .inl (cf104, 8, .inl f104)), (qf154, .inl (cf154, 3600, .inl f154)), (qf144, .inl (cf144, 2001, .inl f144)), (qf145, .inl (cf145, 2001, .inl f145)), (qf146, .inl (cf146, 2001, .inl f146)), (qf147, .inl (cf147, 20000, .inl f147)), (qf151, .inl (cf151, 60, .inl f151)), (qf110, .inl (cf110, 96, .inl f110)), (qf152, .inl (cf152, 60, .inl f152)), (qf105, .inl (cf105, 8, .inl f105)), (qf106, .inl (cf106, 8, .inl f106)), (qf108, .inl (cf108, 8, .inl f108)), (qf107, .inl (cf107, 96, .inl f107)), (qf109, .inl (cf109, 96, .inl f109)), (h0, .inr (13, z_1)), (qf150, .inl (cf150, 60, .inl f150)), (qf102, .inl (cf102, 2048, .inl f102)), (qf100, .inl (cf100, 48000, .inl f100))] H := hP
  replace hD : va_D A [(qf153, .inl (cf153, 60, .inl f153)), (qf104, .inl (cf104, 8, .inl f104)), (qf154, .inl (cf154, 3600, .inl f154)), (qf144, .inl (cf144, 2001, .inl f144)), (qf145, .inl (cf145, 2001, .inl f145)), (qf146, .inl (cf146, 2001, .inl f146)), (qf147, .inl (cf147, 20000, .inl f147)), (qf151, .inl (cf151, 60, .inl f151)), (qf110, .inl (cf110, 96, .inl f110)), (qf152, .inl (cf152, 60, .inl f152)), (qf105, .inl (cf105, 8, .inl f105)), (qf106, .inl (cf106, 8, .inl f106)), (qf108, .inl (cf108, 8, .inl f108)), (qf107, .inl (cf107, 96, .inl f107)), (qf109, .inl (cf109, 96, .inl f109)), (h0, .inr (13, z_1)), (qf150, .inl (cf150, 60, .inl f150)), (qf102, .inl (cf102, 2048, .inl f102)), (qf100, .inl (cf100, 48000, .inl f100))] := hD
  replace hK : va_K (dC, dI) vwCl [(cf153, .int), (cf104, .int), (cf154, .int), (cf144, .int), (cf145, .int), (cf146, .int), (cf147, .int), (cf151, .int), (cf110, .int), (cf152, .int), (cf105, .int), (cf106, .int), (cf108, .int), (cf107, .int), (cf109, .int), (cf150, .int), (cf102, .int), (cf100, .int)] s := hK
  obtain rfl := hw
  refine lv_iload_n hx hb dX13_call_60 rfl (lv_at hl 3 rfl) ?_
  refine lv_sipush (v := 182) hx hb dX13_call_61 (by decide) ?_
  refine lv_icmp_ne (tgt := 71) hx hb dX13_call_64 (by decide) (fun c_6 => ?_) (fun c_6 => ?_)
  · rw [if_neg c_6] at hsp
    refine lv_iconst (v := 0) hx hb dX13_call_71 (by decide) ?_
    exact hj_72 (H, locs, ls, z_1, a1, a2, ((f150 ((v149 - 1) : Int32).toNatClampNeg) - 8), 0, u2_0, f144, f145, f146, f147, f150, f151, f152, f153, f154, v121, v138, v139, v141, v142, v149) ⟨lv_sub hl [2, 3, 4, 1] rfl, hS, hD.sub (ws' := [(h0, .inr (13, z_1)), (qf150, .inl (cf150, 60, .inl f150)), (qf102, .inl (cf102, 2048, .inl f102)), (qf100, .inl (cf100, 48000, .inl f100)), (qf153, .inl (cf153, 60, .inl f153)), (qf104, .inl (cf104, 8, .inl f104)), (qf154, .inl (cf154, 3600, .inl f154)), (qf144, .inl (cf144, 2001, .inl f144)), (qf145, .inl (cf145, 2001, .inl f145)), (qf146, .inl (cf146, 2001, .inl f146)), (qf147, .inl (cf147, 20000, .inl f147)), (qf151, .inl (cf151, 60, .inl f151)), (qf110, .inl (cf110, 96, .inl f110)), (qf152, .inl (cf152, 60, .inl f152)), (qf105, .inl (cf105, 8, .inl f105)), (qf106, .inl (cf106, 8, .inl f106)), (qf108, .inl (cf108, 8, .inl f108)), (qf107, .inl (cf107, 96, .inl f107)), (qf109, .inl (cf109, 96, .inl f109))]) [15, 16, 17, 18, 0, 1, 2, 3, 4, 5, 6, 7, 8, 9, 10, 11, 12, 13, 14] (by decide) rfl, hP.sub (ws' := [(h0, .inr (13, z_1)), (qf150, .inl (cf150, 60, .inl f150)), (qf102, .inl (cf102, 2048, .inl f102)), (qf100, .inl (cf100, 48000, .inl f100)), (qf153, .inl (cf153, 60, .inl f153)), (qf104, .inl (cf104, 8, .inl f104)), (qf154, .inl (cf154, 3600, .inl f154)), (qf144, .inl (cf144, 2001, .inl f144)), (qf145, .inl (cf145, 2001, .inl f145)), (qf146, .inl (cf146, 2001, .inl f146)), (qf147, .inl (cf147, 20000, .inl f147)), (qf151, .inl (cf151, 60, .inl f151)), (qf110, .inl (cf110, 96, .inl f110)), (qf152, .inl (cf152, 60, .inl f152)), (qf105, .inl (cf105, 8, .inl f105)), (qf106, .inl (cf106, 8, .inl f106)), (qf108, .inl (cf108, 8, .inl f108)), (qf107, .inl (cf107, 96, .inl f107)), (qf109, .inl (cf109, 96, .inl f109))]) [15, 16, 17, 18, 0, 1, 2, 3, 4, 5, 6, 7, 8, 9, 10, 11, 12, 13, 14] rfl, hfk_1_98, hfk_1_100, hfk_1_102, hfk_1_104, hfk_1_105, hfk_1_106, hfk_1_107, hfk_1_108, hfk_1_109, hfk_1_110, hfk_1_121, hfk_1_138, hfk_1_139, hfk_1_141, hfk_1_142, hfk_1_144, hfk_1_145, hfk_1_146, hfk_1_147, hfk_1_149, hfk_1_150, hfk_1_151, hfk_1_152, hfk_1_153, hfk_1_154, hln_1, hrq_1, hsp⟩
  · rw [if_pos c_6] at hsp
    refine lv_iconst (v := 1) hx hb dX13_call_67 (by decide) ?_
    refine lv_goto (tgt := 72) hx hb dX13_call_68 (by decide) ?_
    exact hj_72 (H, locs, ls, z_1, a1, a2, ((f150 ((v149 - 1) : Int32).toNatClampNeg) - 8), 1, u2_0, f144, f145, f146, f147, f150, f151, f152, f153, f154, v121, v138, v139, v141, v142, v149) ⟨lv_sub hl [2, 3, 4, 1] rfl, hS, hD.sub (ws' := [(h0, .inr (13, z_1)), (qf150, .inl (cf150, 60, .inl f150)), (qf102, .inl (cf102, 2048, .inl f102)), (qf100, .inl (cf100, 48000, .inl f100)), (qf153, .inl (cf153, 60, .inl f153)), (qf104, .inl (cf104, 8, .inl f104)), (qf154, .inl (cf154, 3600, .inl f154)), (qf144, .inl (cf144, 2001, .inl f144)), (qf145, .inl (cf145, 2001, .inl f145)), (qf146, .inl (cf146, 2001, .inl f146)), (qf147, .inl (cf147, 20000, .inl f147)), (qf151, .inl (cf151, 60, .inl f151)), (qf110, .inl (cf110, 96, .inl f110)), (qf152, .inl (cf152, 60, .inl f152)), (qf105, .inl (cf105, 8, .inl f105)), (qf106, .inl (cf106, 8, .inl f106)), (qf108, .inl (cf108, 8, .inl f108)), (qf107, .inl (cf107, 96, .inl f107)), (qf109, .inl (cf109, 96, .inl f109))]) [15, 16, 17, 18, 0, 1, 2, 3, 4, 5, 6, 7, 8, 9, 10, 11, 12, 13, 14] (by decide) rfl, hP.sub (ws' := [(h0, .inr (13, z_1)), (qf150, .inl (cf150, 60, .inl f150)), (qf102, .inl (cf102, 2048, .inl f102)), (qf100, .inl (cf100, 48000, .inl f100)), (qf153, .inl (cf153, 60, .inl f153)), (qf104, .inl (cf104, 8, .inl f104)), (qf154, .inl (cf154, 3600, .inl f154)), (qf144, .inl (cf144, 2001, .inl f144)), (qf145, .inl (cf145, 2001, .inl f145)), (qf146, .inl (cf146, 2001, .inl f146)), (qf147, .inl (cf147, 20000, .inl f147)), (qf151, .inl (cf151, 60, .inl f151)), (qf110, .inl (cf110, 96, .inl f110)), (qf152, .inl (cf152, 60, .inl f152)), (qf105, .inl (cf105, 8, .inl f105)), (qf106, .inl (cf106, 8, .inl f106)), (qf108, .inl (cf108, 8, .inl f108)), (qf107, .inl (cf107, 96, .inl f107)), (qf109, .inl (cf109, 96, .inl f109))]) [15, 16, 17, 18, 0, 1, 2, 3, 4, 5, 6, 7, 8, 9, 10, 11, 12, 13, 14] rfl, hfk_1_98, hfk_1_100, hfk_1_102, hfk_1_104, hfk_1_105, hfk_1_106, hfk_1_107, hfk_1_108, hfk_1_109, hfk_1_110, hfk_1_121, hfk_1_138, hfk_1_139, hfk_1_141, hfk_1_142, hfk_1_144, hfk_1_145, hfk_1_146, hfk_1_147, hfk_1_149, hfk_1_150, hfk_1_151, hfk_1_152, hfk_1_153, hfk_1_154, hln_1, hrq_1, hsp⟩
def jn_vm_fresh__89 (nf : Nat) (a1 : Int32) (a2 : Int32) (v98 : Int32) (v138 : Int32) (v139 : Int32) (v141 : Int32) (v142 : Int32) (v149 : Int32) (f153 : Nat → Int32) (f154 : Nat → Int32) (f150 : Nat → Int32) (f102 : Nat → Int32) (f100 : Nat → Int32) (f104 : Nat → Int32) (f144 : Nat → Int32) (f145 : Nat → Int32) (f146 : Nat → Int32) (f147 : Nat → Int32) (f151 : Nat → Int32) (f110 : Nat → Int32) (f152 : Nat → Int32) (f105 : Nat → Int32) (f106 : Nat → Int32) (nS477 : Nat) (fS477 : Nat → Int32)  (s0_89 : Int32) (g144_89 : Nat → Int32) (g145_89 : Nat → Int32) (g146_89 : Nat → Int32) (g147_89 : Nat → Int32) (g152_89 : Nat → Int32) (g153_89 : Nat → Int32) (g154_89 : Nat → Int32) (x138_89 : Int32) (x139_89 : Int32) (x141_89 : Int32) (x142_89 : Int32) (x149_89 : Int32) : Option ((Nat → Int32) × (Nat → Int32) × (Nat → Int32) × (Nat → Int32) × (Nat → Int32) × (Nat → Int32) × (Nat → Int32) × Int32 × Int32 × Int32 × Int32 × Int32) := (if s0_89 = 0 then (some (g144_89, g145_89, g146_89, g147_89, g152_89, g153_89, g154_89, x138_89, x139_89, x141_89, x142_89, x149_89)) else ((sp_tm_give nf s0_89 x149_89 g153_89 g154_89).bind (fun p1 => ((sp_tm_on nf 2 x149_89 g152_89).bind (fun p2 => (some (g144_89, g145_89, g146_89, g147_89, p2, p1.1, p1.2, x138_89, x139_89, x141_89, x142_89, x149_89)))))))
def jn_vm_fresh__85 (nf : Nat) (a1 : Int32) (a2 : Int32) (v98 : Int32) (v138 : Int32) (v139 : Int32) (v141 : Int32) (v142 : Int32) (v149 : Int32) (f153 : Nat → Int32) (f154 : Nat → Int32) (f150 : Nat → Int32) (f102 : Nat → Int32) (f100 : Nat → Int32) (f104 : Nat → Int32) (f144 : Nat → Int32) (f145 : Nat → Int32) (f146 : Nat → Int32) (f147 : Nat → Int32) (f151 : Nat → Int32) (f110 : Nat → Int32) (f152 : Nat → Int32) (f105 : Nat → Int32) (f106 : Nat → Int32) (nS477 : Nat) (fS477 : Nat → Int32)  (l3_85 : Int32) (s0_85 : Int32) (g144_85 : Nat → Int32) (g145_85 : Nat → Int32) (g146_85 : Nat → Int32) (g147_85 : Nat → Int32) (g152_85 : Nat → Int32) (g153_85 : Nat → Int32) (g154_85 : Nat → Int32) (x138_85 : Int32) (x139_85 : Int32) (x141_85 : Int32) (x142_85 : Int32) (x149_85 : Int32) : Option ((Nat → Int32) × (Nat → Int32) × (Nat → Int32) × (Nat → Int32) × (Nat → Int32) × (Nat → Int32) × (Nat → Int32) × Int32 × Int32 × Int32 × Int32 × Int32) := ((sp_vm_make_ nf s0_85 l3_85 x138_85 x141_85 x142_85 g144_85 g145_85 g146_85 g147_85).bind (fun p1 => (jn_vm_fresh__89 nf a1 a2 v98 v138 v139 v141 v142 v149 f153 f154 f150 f102 f100 f104 f144 f145 f146 f147 f151 f110 f152 f105 f106 nS477 fS477  p1.1 p1.2.1 p1.2.2.1 p1.2.2.2.1 p1.2.2.2.2.1 g152_85 g153_85 g154_85 p1.2.2.2.2.2.1 x139_85 p1.2.2.2.2.2.2.1 p1.2.2.2.2.2.2.2 x149_85)))
def jn_vm_fresh__43 (nf : Nat) (a1 : Int32) (a2 : Int32) (v98 : Int32) (v138 : Int32) (v139 : Int32) (v141 : Int32) (v142 : Int32) (v149 : Int32) (f153 : Nat → Int32) (f154 : Nat → Int32) (f150 : Nat → Int32) (f102 : Nat → Int32) (f100 : Nat → Int32) (f104 : Nat → Int32) (f144 : Nat → Int32) (f145 : Nat → Int32) (f146 : Nat → Int32) (f147 : Nat → Int32) (f151 : Nat → Int32) (f110 : Nat → Int32) (f152 : Nat → Int32) (f105 : Nat → Int32) (f106 : Nat → Int32) (nS477 : Nat) (fS477 : Nat → Int32)  (l1_43 : Int32) (l3_43 : Int32) (s0_43 : Int32) (g144_43 : Nat → Int32) (g145_43 : Nat → Int32) (g146_43 : Nat → Int32) (g147_43 : Nat → Int32) (g152_43 : Nat → Int32) (g153_43 : Nat → Int32) (g154_43 : Nat → Int32) (x138_43 : Int32) (x139_43 : Int32) (x141_43 : Int32) (x142_43 : Int32) (x149_43 : Int32) : Option ((Nat → Int32) × (Nat → Int32) × (Nat → Int32) × (Nat → Int32) × (Nat → Int32) × (Nat → Int32) × (Nat → Int32) × Int32 × Int32 × Int32 × Int32 × Int32) := (if l1_43 = 187 then ((sp_vm_fieldsOf nf s0_43 v98 f106 f105 f102 f100 f104 nS477 fS477).bind (fun p1 => ((sp_vm_make_ nf s0_43 p1 x138_43 x141_43 x142_43 g144_43 g145_43 g146_43 g147_43).bind (fun p2 => (jn_vm_fresh__89 nf a1 a2 v98 v138 v139 v141 v142 v149 f153 f154 f150 f102 f100 f104 f144 f145 f146 f147 f151 f110 f152 f105 f106 nS477 fS477  p2.1 p2.2.1 p2.2.2.1 p2.2.2.2.1 p2.2.2.2.2.1 g152_43 g153_43 g154_43 p2.2.2.2.2.2.1 x139_43 p2.2.2.2.2.2.2.1 p2.2.2.2.2.2.2.2 x149_43))))) else (if l1_43 = 188 then (jn_vm_fresh__85 nf a1 a2 v98 v138 v139 v141 v142 v149 f153 f154 f150 f102 f100 f104 f144 f145 f146 f147 f151 f110 f152 f105 f106 nS477 fS477  l3_43 99 g144_43 g145_43 g146_43 g147_43 g152_43 g153_43 g154_43 x138_43 x139_43 x141_43 x142_43 x149_43) else (jn_vm_fresh__85 nf a1 a2 v98 v138 v139 v141 v142 v149 f153 f154 f150 f102 f100 f104 f144 f145 f146 f147 f151 f110 f152 f105 f106 nS477 fS477  l3_43 (100 + s0_43) g144_43 g145_43 g146_43 g147_43 g152_43 g153_43 g154_43 x138_43 x139_43 x141_43 x142_43 x149_43)))
def jn_vm_fresh__15 (nf : Nat) (a1 : Int32) (a2 : Int32) (v98 : Int32) (v138 : Int32) (v139 : Int32) (v141 : Int32) (v142 : Int32) (v149 : Int32) (f153 : Nat → Int32) (f154 : Nat → Int32) (f150 : Nat → Int32) (f102 : Nat → Int32) (f100 : Nat → Int32) (f104 : Nat → Int32) (f144 : Nat → Int32) (f145 : Nat → Int32) (f146 : Nat → Int32) (f147 : Nat → Int32) (f151 : Nat → Int32) (f110 : Nat → Int32) (f152 : Nat → Int32) (f105 : Nat → Int32) (f106 : Nat → Int32) (nS477 : Nat) (fS477 : Nat → Int32)  (l1_15 : Int32) (l2_15 : Int32) (s0_15 : Int32) (g144_15 : Nat → Int32) (g145_15 : Nat → Int32) (g146_15 : Nat → Int32) (g147_15 : Nat → Int32) (g152_15 : Nat → Int32) (g153_15 : Nat → Int32) (g154_15 : Nat → Int32) (x138_15 : Int32) (x139_15 : Int32) (x141_15 : Int32) (x142_15 : Int32) (x149_15 : Int32) : Option ((Nat → Int32) × (Nat → Int32) × (Nat → Int32) × (Nat → Int32) × (Nat → Int32) × (Nat → Int32) × (Nat → Int32) × Int32 × Int32 × Int32 × Int32 × Int32) := (if 0 ≤ s0_15 then (if l1_15 = 188 then (jn_vm_fresh__43 nf a1 a2 v98 v138 v139 v141 v142 v149 f153 f154 f150 f102 f100 f104 f144 f145 f146 f147 f151 f110 f152 f105 f106 nS477 fS477  l1_15 s0_15 0 g144_15 g145_15 g146_15 g147_15 g152_15 g153_15 g154_15 x138_15 x139_15 x141_15 x142_15 x149_15) else ((sp_vm_classIn nf l2_15 v98 x149_15 f150 f102 f100 f104 nS477 fS477).bind (fun p1 => (jn_vm_fresh__43 nf a1 a2 v98 v138 v139 v141 v142 v149 f153 f154 f150 f102 f100 f104 f144 f145 f146 f147 f151 f110 f152 f105 f106 nS477 fS477  l1_15 s0_15 p1 g144_15 g145_15 g146_15 g147_15 g152_15 g153_15 g154_15 x138_15 x139_15 x141_15 x142_15 x149_15)))) else ((sp_vm_fails nf 6 v98 x138_15 x139_15 x141_15 x142_15 x149_15 g144_15 g145_15 g146_15 g147_15 f150 f151 f110 f100 g152_15 f102 f104 f105 g153_15 g154_15 nS477 fS477).bind (fun p2 => (some (p2.1, p2.2.1, p2.2.2.1, p2.2.2.2.1, p2.2.2.2.2.1, p2.2.2.2.2.2.1, p2.2.2.2.2.2.2.1, p2.2.2.2.2.2.2.2.1, p2.2.2.2.2.2.2.2.2.1, p2.2.2.2.2.2.2.2.2.2.1, p2.2.2.2.2.2.2.2.2.2.2.1, p2.2.2.2.2.2.2.2.2.2.2.2)))))
def sp_vm_fresh_ (nf : Nat) (a1 : Int32) (a2 : Int32) (v98 : Int32) (v138 : Int32) (v139 : Int32) (v141 : Int32) (v142 : Int32) (v149 : Int32) (f153 : Nat → Int32) (f154 : Nat → Int32) (f150 : Nat → Int32) (f102 : Nat → Int32) (f100 : Nat → Int32) (f104 : Nat → Int32) (f144 : Nat → Int32) (f145 : Nat → Int32) (f146 : Nat → Int32) (f147 : Nat → Int32) (f151 : Nat → Int32) (f110 : Nat → Int32) (f152 : Nat → Int32) (f105 : Nat → Int32) (f106 : Nat → Int32) (nS477 : Nat) (fS477 : Nat → Int32) : Option ((Nat → Int32) × (Nat → Int32) × (Nat → Int32) × (Nat → Int32) × (Nat → Int32) × (Nat → Int32) × (Nat → Int32) × Int32 × Int32 × Int32 × Int32 × Int32) := (if a1 = 187 then (jn_vm_fresh__15 nf a1 a2 v98 v138 v139 v141 v142 v149 f153 f154 f150 f102 f100 f104 f144 f145 f146 f147 f151 f110 f152 f105 f106 nS477 fS477  a1 a2 0 f144 f145 f146 f147 f152 f153 f154 v138 v139 v141 v142 v149) else ((sp_tm_drop nf v149 f153 f154).bind (fun p1 => (jn_vm_fresh__15 nf a1 a2 v98 v138 v139 v141 v142 v149 f153 f154 f150 f102 f100 f104 f144 f145 f146 f147 f151 f110 f152 f105 f106 nS477 fS477  a1 a2 p1.1 f144 f145 f146 f147 f152 p1.2 f154 v138 v139 v141 v142 v149))))

set_option maxHeartbeats 4000000 in
set_option maxRecDepth 100000 in
/-- ClassMillModel.fieldOf -/
theorem vm_fieldOf (l : Launch) (dC : Nat → ClassId) (dI : Nat → Nat → Nat) (sz : Nat) (h0 : Nat) (zs : (List Value)) (a1 : Int32) (a2 : Int32) (a3 : Int32) (v98 : Int32) (qf100 : Nat) (qf102 : Nat) (qf104 : Nat) (qf105 : Nat) (qf106 : Nat) (qf107 : Nat) (qf108 : Nat) (qf109 : Nat) (qf110 : Nat) (v121 : Int32) (v138 : Int32) (v139 : Int32) (v141 : Int32) (v142 : Int32) (qf144 : Nat) (qf145 : Nat) (qf146 : Nat) (qf147 : Nat) (v149 : Int32) (qf150 : Nat) (qf151 : Nat) (qf152 : Nat) (qf153 : Nat) (qf154 : Nat) (cf153 : ClassId) (f153 : (Nat → Int32)) (cf154 : ClassId) (f154 : (Nat → Int32)) (cf150 : ClassId) (f150 : (Nat → Int32)) (cf102 : ClassId) (f102 : (Nat → Int32)) (cf100 : ClassId) (f100 : (Nat → Int32)) (cf104 : ClassId) (f104 : (Nat → Int32)) (cf105 : ClassId) (f105 : (Nat → Int32)) (cf106 : ClassId) (f106 : (Nat → Int32)) (cf108 : ClassId) (f108 : (Nat → Int32)) (cf107 : ClassId) (f107 : (Nat → Int32)) (cf109 : ClassId) (f109 : (Nat → Int32)) (cf145 : ClassId) (f145 : (Nat → Int32)) (cf147 : ClassId) (f147 : (Nat → Int32)) (cf152 : ClassId) (f152 : (Nat → Int32)) (cf146 : ClassId) (f146 : (Nat → Int32)) (cf144 : ClassId) (f144 : (Nat → Int32)) (cf151 : ClassId) (f151 : (Nat → Int32)) (cf110 : ClassId) (f110 : (Nat → Int32)) (nS477 : Nat) (fS477 : (Nat → Int32)) (hS477 : Nat) (qS477 : Nat) (tS477 : String) (nf : Nat) (o144 : (Nat → Int32)) (o145 : (Nat → Int32)) (o146 : (Nat → Int32)) (o147 : (Nat → Int32)) (o152 : (Nat → Int32)) (o153 : (Nat → Int32)) (o154 : (Nat → Int32)) (w121 : Int32) (w138 : Int32) (w139 : Int32) (w141 : Int32) (w142 : Int32) (w149 : Int32) (hlen : zs.length = 155) (hf98 : zs[98]? = some (.int v98)) (hf100 : zs[100]? = some (.ref qf100)) (hf102 : zs[102]? = some (.ref qf102)) (hf104 : zs[104]? = some (.ref qf104)) (hf105 : zs[105]? = some (.ref qf105)) (hf106 : zs[106]? = some (.ref qf106)) (hf107 : zs[107]? = some (.ref qf107)) (hf108 : zs[108]? = some (.ref qf108)) (hf109 : zs[109]? = some (.ref qf109)) (hf110 : zs[110]? = some (.ref qf110)) (hf121 : zs[121]? = some (.int v121)) (hf138 : zs[138]? = some (.int v138)) (hf139 : zs[139]? = some (.int v139)) (hf141 : zs[141]? = some (.int v141)) (hf142 : zs[142]? = some (.int v142)) (hf144 : zs[144]? = some (.ref qf144)) (hf145 : zs[145]? = some (.ref qf145)) (hf146 : zs[146]? = some (.ref qf146)) (hf147 : zs[147]? = some (.ref qf147)) (hf149 : zs[149]? = some (.int v149)) (hf150 : zs[150]? = some (.ref qf150)) (hf151 : zs[151]? = some (.ref qf151)) (hf152 : zs[152]? = some (.ref qf152)) (hf153 : zs[153]? = some (.ref qf153)) (hf154 : zs[154]? = some (.ref qf154)) (hsp : sp_vm_fieldOf nf a1 a2 a3 v98 v121 v138 v139 v141 v142 v149 f153 f154 f150 f102 f100 f104 f105 f106 f108 f107 f109 f145 f147 f152 f146 f144 f151 f110 nS477 fS477 = some (o144, o145, o146, o147, o152, o153, o154, w121, w138, w139, w141, w142, w149)) : Met l yX13_fieldOf (.code yX13_fieldOf cX13_fieldOf 8 none :: VS_h9) ({ frames := 12, cells := 0, slots := 0, locals := 277 }) (va_Pc [.ref h0, .int a1, .int a2, .int a3] (fun U => U.heap.size = sz ∧ va_P (dC, dI) vwCl [(h0, .inr (13, zs)), (qf153, .inl (cf153, 60, .inl f153)), (qf154, .inl (cf154, 3600, .inl f154)), (qf150, .inl (cf150, 60, .inl f150)), (qf102, .inl (cf102, 2048, .inl f102)), (qf100, .inl (cf100, 48000, .inl f100)), (qf104, .inl (cf104, 8, .inl f104)), (qf105, .inl (cf105, 8, .inl f105)), (qf106, .inl (cf106, 8, .inl f106)), (qf108, .inl (cf108, 8, .inl f108)), (qf107, .inl (cf107, 96, .inl f107)), (qf109, .inl (cf109, 96, .inl f109)), (qf145, .inl (cf145, 2001, .inl f145)), (qf147, .inl (cf147, 20000, .inl f147)), (qf152, .inl (cf152, 60, .inl f152)), (qf146, .inl (cf146, 2001, .inl f146)), (qf144, .inl (cf144, 2001, .inl f144)), (qf151, .inl (cf151, 60, .inl f151)), (qf110, .inl (cf110, 96, .inl f110))] U.heap ∧ va_K (dC, dI) vwCl [(cf153, .int), (cf154, .int), (cf150, .int), (cf102, .int), (cf100, .int), (cf104, .int), (cf105, .int), (cf106, .int), (cf108, .int), (cf107, .int), (cf109, .int), (cf145, .int), (cf147, .int), (cf152, .int), (cf146, .int), (cf144, .int), (cf151, .int), (cf110, .int)] U ∧ va_D (fun _ => True) [(h0, .inr (13, zs)), (qf153, .inl (cf153, 60, .inl f153)), (qf154, .inl (cf154, 3600, .inl f154)), (qf150, .inl (cf150, 60, .inl f150)), (qf102, .inl (cf102, 2048, .inl f102)), (qf100, .inl (cf100, 48000, .inl f100)), (qf104, .inl (cf104, 8, .inl f104)), (qf105, .inl (cf105, 8, .inl f105)), (qf106, .inl (cf106, 8, .inl f106)), (qf108, .inl (cf108, 8, .inl f108)), (qf107, .inl (cf107, 96, .inl f107)), (qf109, .inl (cf109, 96, .inl f109)), (qf145, .inl (cf145, 2001, .inl f145)), (qf147, .inl (cf147, 20000, .inl f147)), (qf152, .inl (cf152, 60, .inl f152)), (qf146, .inl (cf146, 2001, .inl f146)), (qf144, .inl (cf144, 2001, .inl f144)), (qf151, .inl (cf151, 60, .inl f151)), (qf110, .inl (cf110, 96, .inl f110))] ∧ pz_W nS477 fS477 hS477 qS477 (va_A [(h0, .inr (13, zs)), (qf153, .inl (cf153, 60, .inl f153)), (qf154, .inl (cf154, 3600, .inl f154)), (qf150, .inl (cf150, 60, .inl f150)), (qf102, .inl (cf102, 2048, .inl f102)), (qf100, .inl (cf100, 48000, .inl f100)), (qf104, .inl (cf104, 8, .inl f104)), (qf105, .inl (cf105, 8, .inl f105)), (qf106, .inl (cf106, 8, .inl f106)), (qf108, .inl (cf108, 8, .inl f108)), (qf107, .inl (cf107, 96, .inl f107)), (qf109, .inl (cf109, 96, .inl f109)), (qf145, .inl (cf145, 2001, .inl f145)), (qf147, .inl (cf147, 20000, .inl f147)), (qf152, .inl (cf152, 60, .inl f152)), (qf146, .inl (cf146, 2001, .inl f146)), (qf144, .inl (cf144, 2001, .inl f144)), (qf151, .inl (cf151, 60, .inl f151)), (qf110, .inl (cf110, 96, .inl f110))] sz) U U.heap ∧ vk_R RX13 477 tS477 hS477 U)) (va_Qv (fun (u : (List Value)) => match u with | (zo1) => True ∧ zo1.length = 155 ∧ (∀ j : Nat, j ≠ 121 → j ≠ 138 → j ≠ 139 → j ≠ 141 → j ≠ 142 → j ≠ 149 → zo1[j]? = zs[j]?) ∧ zo1[121]? = some (.int w121) ∧ zo1[138]? = some (.int w138) ∧ zo1[139]? = some (.int w139) ∧ zo1[141]? = some (.int w141) ∧ zo1[142]? = some (.int w142) ∧ zo1[149]? = some (.int w149)) (fun (u : (List Value)) (t : State) => match u with | (zo1) => va_P (dC, dI) vwCl [(h0, .inr (13, zo1)), (qf153, .inl (cf153, 60, .inl o153)), (qf154, .inl (cf154, 3600, .inl o154)), (qf150, .inl (cf150, 60, .inl f150)), (qf102, .inl (cf102, 2048, .inl f102)), (qf100, .inl (cf100, 48000, .inl f100)), (qf104, .inl (cf104, 8, .inl f104)), (qf105, .inl (cf105, 8, .inl f105)), (qf106, .inl (cf106, 8, .inl f106)), (qf108, .inl (cf108, 8, .inl f108)), (qf107, .inl (cf107, 96, .inl f107)), (qf109, .inl (cf109, 96, .inl f109)), (qf145, .inl (cf145, 2001, .inl o145)), (qf147, .inl (cf147, 20000, .inl o147)), (qf152, .inl (cf152, 60, .inl o152)), (qf146, .inl (cf146, 2001, .inl o146)), (qf144, .inl (cf144, 2001, .inl o144)), (qf151, .inl (cf151, 60, .inl f151)), (qf110, .inl (cf110, 96, .inl f110))] t.heap ∧ va_K (dC, dI) vwCl [(cf153, .int), (cf154, .int), (cf150, .int), (cf102, .int), (cf100, .int), (cf104, .int), (cf105, .int), (cf106, .int), (cf108, .int), (cf107, .int), (cf109, .int), (cf145, .int), (cf147, .int), (cf152, .int), (cf146, .int), (cf144, .int), (cf151, .int), (cf110, .int)] t ∧ va_D (va_A [(h0, .inr (13, zs)), (qf153, .inl (cf153, 60, .inl f153)), (qf154, .inl (cf154, 3600, .inl f154)), (qf150, .inl (cf150, 60, .inl f150)), (qf102, .inl (cf102, 2048, .inl f102)), (qf100, .inl (cf100, 48000, .inl f100)), (qf104, .inl (cf104, 8, .inl f104)), (qf105, .inl (cf105, 8, .inl f105)), (qf106, .inl (cf106, 8, .inl f106)), (qf108, .inl (cf108, 8, .inl f108)), (qf107, .inl (cf107, 96, .inl f107)), (qf109, .inl (cf109, 96, .inl f109)), (qf145, .inl (cf145, 2001, .inl f145)), (qf147, .inl (cf147, 20000, .inl f147)), (qf152, .inl (cf152, 60, .inl f152)), (qf146, .inl (cf146, 2001, .inl f146)), (qf144, .inl (cf144, 2001, .inl f144)), (qf151, .inl (cf151, 60, .inl f151)), (qf110, .inl (cf110, 96, .inl f110))] sz) [(h0, .inr (13, zo1)), (qf153, .inl (cf153, 60, .inl o153)), (qf154, .inl (cf154, 3600, .inl o154)), (qf150, .inl (cf150, 60, .inl f150)), (qf102, .inl (cf102, 2048, .inl f102)), (qf100, .inl (cf100, 48000, .inl f100)), (qf104, .inl (cf104, 8, .inl f104)), (qf105, .inl (cf105, 8, .inl f105)), (qf106, .inl (cf106, 8, .inl f106)), (qf108, .inl (cf108, 8, .inl f108)), (qf107, .inl (cf107, 96, .inl f107)), (qf109, .inl (cf109, 96, .inl f109)), (qf145, .inl (cf145, 2001, .inl o145)), (qf147, .inl (cf147, 20000, .inl o147)), (qf152, .inl (cf152, 60, .inl o152)), (qf146, .inl (cf146, 2001, .inl o146)), (qf144, .inl (cf144, 2001, .inl o144)), (qf151, .inl (cf151, 60, .inl f151)), (qf110, .inl (cf110, 96, .inl f110))]) (va_A [(h0, .inr (13, zs)), (qf153, .inl (cf153, 60, .inl f153)), (qf154, .inl (cf154, 3600, .inl f154)), (qf150, .inl (cf150, 60, .inl f150)), (qf102, .inl (cf102, 2048, .inl f102)), (qf100, .inl (cf100, 48000, .inl f100)), (qf104, .inl (cf104, 8, .inl f104)), (qf105, .inl (cf105, 8, .inl f105)), (qf106, .inl (cf106, 8, .inl f106)), (qf108, .inl (cf108, 8, .inl f108)), (qf107, .inl (cf107, 96, .inl f107)), (qf109, .inl (cf109, 96, .inl f109)), (qf145, .inl (cf145, 2001, .inl f145)), (qf147, .inl (cf147, 20000, .inl f147)), (qf152, .inl (cf152, 60, .inl f152)), (qf146, .inl (cf146, 2001, .inl f146)), (qf144, .inl (cf144, 2001, .inl f144)), (qf151, .inl (cf151, 60, .inl f151)), (qf110, .inl (cf110, 96, .inl f110))] sz)) 0 0 (va_A [(h0, .inr (13, zs)), (qf153, .inl (cf153, 60, .inl f153)), (qf154, .inl (cf154, 3600, .inl f154)), (qf150, .inl (cf150, 60, .inl f150)), (qf102, .inl (cf102, 2048, .inl f102)), (qf100, .inl (cf100, 48000, .inl f100)), (qf104, .inl (cf104, 8, .inl f104)), (qf105, .inl (cf105, 8, .inl f105)), (qf106, .inl (cf106, 8, .inl f106)), (qf108, .inl (cf108, 8, .inl f108)), (qf107, .inl (cf107, 96, .inl f107)), (qf109, .inl (cf109, 96, .inl f109)), (qf145, .inl (cf145, 2001, .inl f145)), (qf147, .inl (cf147, 20000, .inl f147)), (qf152, .inl (cf152, 60, .inl f152)), (qf146, .inl (cf146, 2001, .inl f146)), (qf144, .inl (cf144, 2001, .inl f144)), (qf151, .inl (cf151, 60, .inl f151)), (qf110, .inl (cf110, 96, .inl f110))] sz) := by
  refine Met.ofW (cc := cX13_fieldOf) (maxL := 8) (ret := none) (by decide) rfl ?_
  intro p e s m args below meth c s₁ B hml hv
  obtain ⟨rfl, hsz, hP, hK, hD0, hZWS477, hZRS477⟩ := hv
  have hx := B.exec
  have hb := B.bytes
  have hr := B.returns
  have hts := atoms_spec (ws := (.code yX13_fieldOf cX13_fieldOf 8 none :: VS_h9)) B.pre
  replace hts := fun w (h : w ∈ VS_h9) => hts w (List.mem_cons_of_mem _ h)
  have hown : s.vm.findClass RX13 = some m.cls := findClass_of_methodNamed B.named
  have hlocks := B.notSynchronized
  subst hsz
  have hD := hD0.self (sz := s.heap.size)
  generalize hAe : va_A [(h0, .inr (13, zs)), (qf153, .inl (cf153, 60, .inl f153)), (qf154, .inl (cf154, 3600, .inl f154)), (qf150, .inl (cf150, 60, .inl f150)), (qf102, .inl (cf102, 2048, .inl f102)), (qf100, .inl (cf100, 48000, .inl f100)), (qf104, .inl (cf104, 8, .inl f104)), (qf105, .inl (cf105, 8, .inl f105)), (qf106, .inl (cf106, 8, .inl f106)), (qf108, .inl (cf108, 8, .inl f108)), (qf107, .inl (cf107, 96, .inl f107)), (qf109, .inl (cf109, 96, .inl f109)), (qf145, .inl (cf145, 2001, .inl f145)), (qf147, .inl (cf147, 20000, .inl f147)), (qf152, .inl (cf152, 60, .inl f152)), (qf146, .inl (cf146, 2001, .inl f146)), (qf144, .inl (cf144, 2001, .inl f144)), (qf151, .inl (cf151, 60, .inl f151)), (qf110, .inl (cf110, 96, .inl f110))] s.heap.size = A at hD hZWS477 ⊢
  have hA : ∀ q : Nat, s.heap.size ≤ q → A q := fun q h => by rw [← hAe]; exact Or.inr h
  have hP : va_P (dC, dI) vwCl [(h0, .inr (13, zs)), (qf153, .inl (cf153, 60, .inl f153)), (qf154, .inl (cf154, 3600, .inl f154)), (qf150, .inl (cf150, 60, .inl f150)), (qf102, .inl (cf102, 2048, .inl f102)), (qf100, .inl (cf100, 48000, .inl f100)), (qf104, .inl (cf104, 8, .inl f104)), (qf105, .inl (cf105, 8, .inl f105)), (qf106, .inl (cf106, 8, .inl f106)), (qf108, .inl (cf108, 8, .inl f108)), (qf107, .inl (cf107, 96, .inl f107)), (qf109, .inl (cf109, 96, .inl f109)), (qf145, .inl (cf145, 2001, .inl f145)), (qf147, .inl (cf147, 20000, .inl f147)), (qf152, .inl (cf152, 60, .inl f152)), (qf146, .inl (cf146, 2001, .inl f146)), (qf144, .inl (cf144, 2001, .inl f144)), (qf151, .inl (cf151, 60, .inl f151)), (qf110, .inl (cf110, 96, .inl f110))] s.heap := hP
  have hl := lv_entry ([.ref h0, .int a1, .int a2, .int a3]) (n := 8) (Nat.le_of_ble_eq_true rfl)
  rw [lg_entry_eq]
  generalize (lg_sl ([.ref h0, .int a1, .int a2, .int a3]) ++ List.replicate (8 - (lg_sl ([.ref h0, .int a1, .int a2, .int a3])).length) Slot.unset).toArray = ls at hl ⊢
  have hl : lv_has ls 8 [(0, .ref h0), (1, .int a1), (2, .int a2), (3, .int a3)] := hl
  obtain ⟨H, hH⟩ : ∃ H : Heap, s.heap = H := ⟨_, rfl⟩
  rw [hH] at hP ⊢
  have hS : va_S A s.heap H [] := by rw [← hH]; exact va_S.rf
  obtain ⟨locs, hlo⟩ : ∃ locs : List Loc, locs = [] := ⟨_, rfl⟩
  rw [← hlo] at hS ⊢
  have hrs0 : ∀ j : Nat, j ≠ 121 → j ≠ 138 → j ≠ 139 → j ≠ 141 → j ≠ 142 → j ≠ 149 → zs[j]? = zs[j]? := fun _ _ _ _ _ _ _  => rfl
  unfold sp_vm_fieldOf at hsp
  refine jn_use (α := Heap × List Loc × Array Slot × List Value × Int32 × Int32 × Int32 × Int32 × (Nat → Int32) × (Nat → Int32) × (Nat → Int32) × (Nat → Int32) × (Nat → Int32) × (Nat → Int32) × (Nat → Int32) × Int32 × Int32 × Int32 × Int32 × Int32 × Int32) (fun x9 => x9.1) (fun x9 => x9.2.1) (fun x9 => F0 m 15 x9.2.2.1 [.int (x9.2.2.2.2.2.2.2.1)]) (fun x9 => match x9 with | (H, locs, ls, z15, l1_15, l2_15, l3_15, s0_15, g144_15, g145_15, g146_15, g147_15, g152_15, g153_15, g154_15, x121_15, x138_15, x139_15, x141_15, x142_15, x149_15) => lv_has ls 8 [(0, .ref h0), (1, .int l1_15), (2, .int l2_15), (3, .int l3_15)] ∧ va_S A s.heap H locs ∧ va_D A [(h0, .inr (13, z15)), (qf153, .inl (cf153, 60, .inl g153_15)), (qf154, .inl (cf154, 3600, .inl g154_15)), (qf150, .inl (cf150, 60, .inl f150)), (qf102, .inl (cf102, 2048, .inl f102)), (qf100, .inl (cf100, 48000, .inl f100)), (qf104, .inl (cf104, 8, .inl f104)), (qf105, .inl (cf105, 8, .inl f105)), (qf106, .inl (cf106, 8, .inl f106)), (qf108, .inl (cf108, 8, .inl f108)), (qf107, .inl (cf107, 96, .inl f107)), (qf109, .inl (cf109, 96, .inl f109)), (qf145, .inl (cf145, 2001, .inl g145_15)), (qf147, .inl (cf147, 20000, .inl g147_15)), (qf152, .inl (cf152, 60, .inl g152_15)), (qf146, .inl (cf146, 2001, .inl g146_15)), (qf144, .inl (cf144, 2001, .inl g144_15)), (qf151, .inl (cf151, 60, .inl f151)), (qf110, .inl (cf110, 96, .inl f110))] ∧ va_P (dC, dI) vwCl [(h0, .inr (13, z15)), (qf153, .inl (cf153, 60, .inl g153_15)), (qf154, .inl (cf154, 3600, .inl g154_15)), (qf150, .inl (cf150, 60, .inl f150)), (qf102, .inl (cf102, 2048, .inl f102)), (qf100, .inl (cf100, 48000, .inl f100)), (qf104, .inl (cf104, 8, .inl f104)), (qf105, .inl (cf105, 8, .inl f105)), (qf106, .inl (cf106, 8, .inl f106)), (qf108, .inl (cf108, 8, .inl f108)), (qf107, .inl (cf107, 96, .inl f107)), (qf109, .inl (cf109, 96, .inl f109)), (qf145, .inl (cf145, 2001, .inl g145_15)), (qf147, .inl (cf147, 20000, .inl g147_15)), (qf152, .inl (cf152, 60, .inl g152_15)), (qf146, .inl (cf146, 2001, .inl g146_15)), (qf144, .inl (cf144, 2001, .inl g144_15)), (qf151, .inl (cf151, 60, .inl f151)), (qf110, .inl (cf110, 96, .inl f110))] H ∧ z15[98]? = some (.int v98) ∧ z15[100]? = some (.ref qf100) ∧ z15[102]? = some (.ref qf102) ∧ z15[104]? = some (.ref qf104) ∧ z15[105]? = some (.ref qf105) ∧ z15[106]? = some (.ref qf106) ∧ z15[107]? = some (.ref qf107) ∧ z15[108]? = some (.ref qf108) ∧ z15[109]? = some (.ref qf109) ∧ z15[110]? = some (.ref qf110) ∧ z15[121]? = some (.int x121_15) ∧ z15[138]? = some (.int x138_15) ∧ z15[139]? = some (.int x139_15) ∧ z15[141]? = some (.int x141_15) ∧ z15[142]? = some (.int x142_15) ∧ z15[144]? = some (.ref qf144) ∧ z15[145]? = some (.ref qf145) ∧ z15[146]? = some (.ref qf146) ∧ z15[147]? = some (.ref qf147) ∧ z15[149]? = some (.int x149_15) ∧ z15[150]? = some (.ref qf150) ∧ z15[151]? = some (.ref qf151) ∧ z15[152]? = some (.ref qf152) ∧ z15[153]? = some (.ref qf153) ∧ z15[154]? = some (.ref qf154) ∧ z15.length = 155 ∧ (∀ j : Nat, j ≠ 121 → j ≠ 138 → j ≠ 139 → j ≠ 141 → j ≠ 142 → j ≠ 149 → z15[j]? = zs[j]?) ∧ jn_vm_fieldOf_15 nf a1 a2 a3 v98 v121 v138 v139 v141 v142 v149 f153 f154 f150 f102 f100 f104 f105 f106 f108 f107 f109 f145 f147 f152 f146 f144 f151 f110 nS477 fS477 l1_15 l2_15 l3_15 s0_15 g144_15 g145_15 g146_15 g147_15 g152_15 g153_15 g154_15 x121_15 x138_15 x139_15 x141_15 x142_15 x149_15 = some (o144, o145, o146, o147, o152, o153, o154, w121, w138, w139, w141, w142, w149)) ?_ ?_
  · intro x9 hJ9
    obtain ⟨H, locs, ls, z15, l1_15, l2_15, l3_15, s0_15, g144_15, g145_15, g146_15, g147_15, g152_15, g153_15, g154_15, x121_15, x138_15, x139_15, x141_15, x142_15, x149_15⟩ := x9
    obtain ⟨hl, hS, hD, hP, hfh_15_98, hfh_15_100, hfh_15_102, hfh_15_104, hfh_15_105, hfh_15_106, hfh_15_107, hfh_15_108, hfh_15_109, hfh_15_110, hfh_15_121, hfh_15_138, hfh_15_139, hfh_15_141, hfh_15_142, hfh_15_144, hfh_15_145, hfh_15_146, hfh_15_147, hfh_15_149, hfh_15_150, hfh_15_151, hfh_15_152, hfh_15_153, hfh_15_154, hlh_15, hrh_15, hsp⟩ := hJ9
    replace hl : lv_has ls 8 [(0, .ref h0), (1, .int l1_15), (2, .int l2_15), (3, .int l3_15)] := hl
    replace hS : va_S A s.heap H locs := hS
    replace hD : va_D A [(h0, .inr (13, z15)), (qf153, .inl (cf153, 60, .inl g153_15)), (qf154, .inl (cf154, 3600, .inl g154_15)), (qf150, .inl (cf150, 60, .inl f150)), (qf102, .inl (cf102, 2048, .inl f102)), (qf100, .inl (cf100, 48000, .inl f100)), (qf104, .inl (cf104, 8, .inl f104)), (qf105, .inl (cf105, 8, .inl f105)), (qf106, .inl (cf106, 8, .inl f106)), (qf108, .inl (cf108, 8, .inl f108)), (qf107, .inl (cf107, 96, .inl f107)), (qf109, .inl (cf109, 96, .inl f109)), (qf145, .inl (cf145, 2001, .inl g145_15)), (qf147, .inl (cf147, 20000, .inl g147_15)), (qf152, .inl (cf152, 60, .inl g152_15)), (qf146, .inl (cf146, 2001, .inl g146_15)), (qf144, .inl (cf144, 2001, .inl g144_15)), (qf151, .inl (cf151, 60, .inl f151)), (qf110, .inl (cf110, 96, .inl f110))] := hD
    replace hP : va_P (dC, dI) vwCl [(h0, .inr (13, z15)), (qf153, .inl (cf153, 60, .inl g153_15)), (qf154, .inl (cf154, 3600, .inl g154_15)), (qf150, .inl (cf150, 60, .inl f150)), (qf102, .inl (cf102, 2048, .inl f102)), (qf100, .inl (cf100, 48000, .inl f100)), (qf104, .inl (cf104, 8, .inl f104)), (qf105, .inl (cf105, 8, .inl f105)), (qf106, .inl (cf106, 8, .inl f106)), (qf108, .inl (cf108, 8, .inl f108)), (qf107, .inl (cf107, 96, .inl f107)), (qf109, .inl (cf109, 96, .inl f109)), (qf145, .inl (cf145, 2001, .inl g145_15)), (qf147, .inl (cf147, 20000, .inl g147_15)), (qf152, .inl (cf152, 60, .inl g152_15)), (qf146, .inl (cf146, 2001, .inl g146_15)), (qf144, .inl (cf144, 2001, .inl g144_15)), (qf151, .inl (cf151, 60, .inl f151)), (qf110, .inl (cf110, 96, .inl f110))] H := hP
    replace hsp : jn_vm_fieldOf_15 nf a1 a2 a3 v98 v121 v138 v139 v141 v142 v149 f153 f154 f150 f102 f100 f104 f105 f106 f108 f107 f109 f145 f147 f152 f146 f144 f151 f110 nS477 fS477 l1_15 l2_15 l3_15 s0_15 g144_15 g145_15 g146_15 g147_15 g152_15 g153_15 g154_15 x121_15 x138_15 x139_15 x141_15 x142_15 x149_15 = some (o144, o145, o146, o147, o152, o153, o154, w121, w138, w139, w141, w142, w149) := hsp
    show W _ _ _ _ _ _ _ _ _ _ H locs _ _ _ (F0 m 15 ls [.int s0_15])
    unfold jn_vm_fieldOf_15 at hsp
    try dsimp only at hsp
    refine lv_istore (lv' := [(4, .int s0_15), (0, .ref h0), (1, .int l1_15), (2, .int l2_15), (3, .int l3_15)]) hx hb dX13_fieldOf_15 hl (by decide) rfl (fun ls hl => ?_)
    refine lv_aload_n hx hb dX13_fieldOf_17 rfl (lv_at hl 1 rfl) ?_
    obtain ⟨⟨u2_0, g902_1⟩, hu_2, hsp⟩ := ox_bind hsp
    try dsimp only at hsp
    have hPc := hP.sub (ws' := [(h0, .inr (13, z15)), (qf153, .inl (cf153, 60, .inl g153_15)), (qf154, .inl (cf154, 3600, .inl g154_15))]) [0, 1, 2] rfl
    have hDc := hD.sub (ws' := [(h0, .inr (13, z15)), (qf153, .inl (cf153, 60, .inl g153_15)), (qf154, .inl (cf154, 3600, .inl g154_15))]) [0, 1, 2] (by decide) rfl
    have hKc := hK.sub (tys' := [(cf153, .int), (cf154, .int)]) [0, 1] rfl
    have hFc := va_free (wc := [(h0, .inr (13, z15)), (qf153, .inl (cf153, 60, .inl g153_15)), (qf154, .inl (cf154, 3600, .inl g154_15))]) hD hS hA [0, 1, 2] rfl
    refine va_calli (va_runV (As := []) (rest := []) ⟨hx, hb, hml, hown, hts⟩ (tm_drop l dC dI H.size h0 z15 x149_15 qf153 qf154 cf153 g153_15 cf154 g154_15 nf u2_0 g902_1 hlh_15 hfh_15_149 hfh_15_153 hfh_15_154 hu_2) (cwV 0 hts gv_h9_75 rfl rfl rfl (by decide +kernel) ⟨Nat.le_of_ble_eq_true rfl, Nat.le_of_ble_eq_true rfl⟩) ⟨fun a U g mk q => by obtain ⟨q0, q1, qP, qK, qD⟩ := q; exact ⟨q0, q1, qP, va_K.moved (u := U) (U := U.calling g mk a) (Vm.Alike.refl U.vm) qK, qD⟩, va_recv hKc hPc (ci := 13) (q0 := 0) rfl rfl, fun U hU hW => ⟨rfl, by rw [hU], by rw [hU]; exact hPc, va_K.moved hW.alike hKc, hDc.weaken (fun _ _ _ _ => trivial)⟩⟩ rfl rfl hl.1 rfl (lv_room (Nat.le_of_ble_eq_true rfl)) dX13_fieldOf_18 ⟨Nat.le_of_ble_eq_true rfl, Nat.le_of_ble_eq_true rfl⟩) hS (fun q _ h => hFc q h) hFc ?_
    clear hS
    intro r_3 u t H1 locs ht hvm hw hB hz1 hk1 hS
    obtain ⟨z_2, rfl⟩ : ∃ z, z = u := ⟨_, rfl⟩
    obtain ⟨hP1, hK1, hD1⟩ := hB
    rw [ht] at hP1
    have hK1 := va_K.moved hvm.symm hK1
    try dsimp only at hw
    have hPD := va_join (wr := [(qf150, .inl (cf150, 60, .inl f150)), (qf102, .inl (cf102, 2048, .inl f102)), (qf100, .inl (cf100, 48000, .inl f100)), (qf104, .inl (cf104, 8, .inl f104)), (qf105, .inl (cf105, 8, .inl f105)), (qf106, .inl (cf106, 8, .inl f106)), (qf108, .inl (cf108, 8, .inl f108)), (qf107, .inl (cf107, 96, .inl f107)), (qf109, .inl (cf109, 96, .inl f109)), (qf145, .inl (cf145, 2001, .inl g145_15)), (qf147, .inl (cf147, 20000, .inl g147_15)), (qf152, .inl (cf152, 60, .inl g152_15)), (qf146, .inl (cf146, 2001, .inl g146_15)), (qf144, .inl (cf144, 2001, .inl g144_15)), (qf151, .inl (cf151, 60, .inl f151)), (qf110, .inl (cf110, 96, .inl f110))]) (w1 := [(h0, .inr (13, z_2)), (qf153, .inl (cf153, 60, .inl g902_1)), (qf154, .inl (cf154, 3600, .inl g154_15))]) hP hD [0, 1, 2] [3, 4, 5, 6, 7, 8, 9, 10, 11, 12, 13, 14, 15, 16, 17, 18] rfl rfl (by decide) (by decide) hk1 hFc hP1 hD1
    clear hP hD
    obtain ⟨hP, hD⟩ := hPD
    replace hK := (hK.sub (tys' := [(cf150, .int), (cf102, .int), (cf100, .int), (cf104, .int), (cf105, .int), (cf106, .int), (cf108, .int), (cf107, .int), (cf109, .int), (cf145, .int), (cf147, .int), (cf152, .int), (cf146, .int), (cf144, .int), (cf151, .int), (cf110, .int)]) [2, 3, 4, 5, 6, 7, 8, 9, 10, 11, 12, 13, 14, 15, 16, 17] rfl).app hK1
    clear hPc hDc hKc hFc hP1 hK1 hD1 hz1 hk1 ht hvm
    generalize H1 = H at hP hS ⊢
    replace hP : va_P (dC, dI) vwCl [(qf150, .inl (cf150, 60, .inl f150)), (qf102, .inl (cf102, 2048, .inl f102)), (qf100, .inl (cf100, 48000, .inl f100)), (qf104, .inl (cf104, 8, .inl f104)), (qf105, .inl (cf105, 8, .inl f105)), (qf106, .inl (cf106, 8, .inl f106)), (qf108, .inl (cf108, 8, .inl f108)), (qf107, .inl (cf107, 96, .inl f107)), (qf109, .inl (cf109, 96, .inl f109)), (qf145, .inl (cf145, 2001, .inl g145_15)), (qf147, .inl (cf147, 20000, .inl g147_15)), (qf152, .inl (cf152, 60, .inl g152_15)), (qf146, .inl (cf146, 2001, .inl g146_15)), (qf144, .inl (cf144, 2001, .inl g144_15)), (qf151, .inl (cf151, 60, .inl f151)), (qf110, .inl (cf110, 96, .inl f110)), (h0, .inr (13, z_2)), (qf153, .inl (cf153, 60, .inl g902_1)), (qf154, .inl (cf154, 3600, .inl g154_15))] H := hP
    replace hD : va_D A [(qf150, .inl (cf150, 60, .inl f150)), (qf102, .inl (cf102, 2048, .inl f102)), (qf100, .inl (cf100, 48000, .inl f100)), (qf104, .inl (cf104, 8, .inl f104)), (qf105, .inl (cf105, 8, .inl f105)), (qf106, .inl (cf106, 8, .inl f106)), (qf108, .inl (cf108, 8, .inl f108)), (qf107, .inl (cf107, 96, .inl f107)), (qf109, .inl (cf109, 96, .inl f109)), (qf145, .inl (cf145, 2001, .inl g145_15)), (qf147, .inl (cf147, 20000, .inl g147_15)), (qf152, .inl (cf152, 60, .inl g152_15)), (qf146, .inl (cf146, 2001, .inl g146_15)), (qf144, .inl (cf144, 2001, .inl g144_15)), (qf151, .inl (cf151, 60, .inl f151)), (qf110, .inl (cf110, 96, .inl f110)), (h0, .inr (13, z_2)), (qf153, .inl (cf153, 60, .inl g902_1)), (qf154, .inl (cf154, 3600, .inl g154_15))] := hD
    replace hK : va_K (dC, dI) vwCl [(cf150, .int), (cf102, .int), (cf100, .int), (cf104, .int), (cf105, .int), (cf106, .int), (cf108, .int), (cf107, .int), (cf109, .int), (cf145, .int), (cf147, .int), (cf152, .int), (cf146, .int), (cf144, .int), (cf151, .int), (cf110, .int), (cf153, .int), (cf154, .int)] s := hK
    obtain ⟨hwa_2, hln_2, hre_2⟩ := hw
    have hfk_2_98 : z_2[98]? = some (.int v98) := (hre_2 98 ).trans (hfh_15_98)
    have hfk_2_100 : z_2[100]? = some (.ref qf100) := (hre_2 100 ).trans (hfh_15_100)
    have hfk_2_102 : z_2[102]? = some (.ref qf102) := (hre_2 102 ).trans (hfh_15_102)
    have hfk_2_104 : z_2[104]? = some (.ref qf104) := (hre_2 104 ).trans (hfh_15_104)
    have hfk_2_105 : z_2[105]? = some (.ref qf105) := (hre_2 105 ).trans (hfh_15_105)
    have hfk_2_106 : z_2[106]? = some (.ref qf106) := (hre_2 106 ).trans (hfh_15_106)
    have hfk_2_107 : z_2[107]? = some (.ref qf107) := (hre_2 107 ).trans (hfh_15_107)
    have hfk_2_108 : z_2[108]? = some (.ref qf108) := (hre_2 108 ).trans (hfh_15_108)
    have hfk_2_109 : z_2[109]? = some (.ref qf109) := (hre_2 109 ).trans (hfh_15_109)
    have hfk_2_110 : z_2[110]? = some (.ref qf110) := (hre_2 110 ).trans (hfh_15_110)
    have hfk_2_121 : z_2[121]? = some (.int x121_15) := (hre_2 121 ).trans (hfh_15_121)
    have hfk_2_138 : z_2[138]? = some (.int x138_15) := (hre_2 138 ).trans (hfh_15_138)
    have hfk_2_139 : z_2[139]? = some (.int x139_15) := (hre_2 139 ).trans (hfh_15_139)
    have hfk_2_141 : z_2[141]? = some (.int x141_15) := (hre_2 141 ).trans (hfh_15_141)
    have hfk_2_142 : z_2[142]? = some (.int x142_15) := (hre_2 142 ).trans (hfh_15_142)
    have hfk_2_144 : z_2[144]? = some (.ref qf144) := (hre_2 144 ).trans (hfh_15_144)
    have hfk_2_145 : z_2[145]? = some (.ref qf145) := (hre_2 145 ).trans (hfh_15_145)
    have hfk_2_146 : z_2[146]? = some (.ref qf146) := (hre_2 146 ).trans (hfh_15_146)
    have hfk_2_147 : z_2[147]? = some (.ref qf147) := (hre_2 147 ).trans (hfh_15_147)
    have hfk_2_149 : z_2[149]? = some (.int x149_15) := (hre_2 149 ).trans (hfh_15_149)
    have hfk_2_150 : z_2[150]? = some (.ref qf150) := (hre_2 150 ).trans (hfh_15_150)
    have hfk_2_151 : z_2[151]? = some (.ref qf151) := (hre_2 151 ).trans (hfh_15_151)
    have hfk_2_152 : z_2[152]? = some (.ref qf152) := (hre_2 152 ).trans (hfh_15_152)
    have hfk_2_153 : z_2[153]? = some (.ref qf153) := (hre_2 153 ).trans (hfh_15_153)
    have hfk_2_154 : z_2[154]? = some (.ref qf154) := (hre_2 154 ).trans (hfh_15_154)
    have hrq_2 : ∀ j : Nat, j ≠ 121 → j ≠ 138 → j ≠ 139 → j ≠ 141 → j ≠ 142 → j ≠ 149 → z_2[j]? = zs[j]? := fun j g121 g138 g139 g141 g142 g149 => (hre_2 j ).trans (hrh_15 j g121 g138 g139 g141 g142 g149)
    obtain rfl := hwa_2
    refine lv_istore (lv' := [(5, .int u2_0), (4, .int s0_15), (0, .ref h0), (1, .int l1_15), (2, .int l2_15), (3, .int l3_15)]) hx hb dX13_fieldOf_21 hl (by decide) rfl (fun ls hl => ?_)
    refine lv_iload hx hb dX13_fieldOf_23 (lv_at hl 0 rfl) ?_
    refine lv_if_ne (tgt := 34) hx hb dX13_fieldOf_25 (by decide) (fun c_4 => ?_) (fun c_4 => ?_)
    · rw [if_neg c_4] at hsp
      refine lv_iload_n hx hb dX13_fieldOf_34 rfl (lv_at hl 3 rfl) ?_
      refine lv_sipush (v := 190) hx hb dX13_fieldOf_35 (by decide) ?_
      refine lv_icmp_ne (tgt := 55) hx hb dX13_fieldOf_38 (by decide) (fun c_5 => ?_) (fun c_5 => ?_)
      · rw [if_neg c_5] at hsp
        refine lv_aload_n hx hb dX13_fieldOf_55 rfl (lv_at hl 2 rfl) ?_
        refine lv_aload_n hx hb dX13_fieldOf_56 rfl (lv_at hl 2 rfl) ?_
        refine lv_aload_n hx hb dX13_fieldOf_57 rfl (lv_at hl 2 rfl) ?_
        refine lv_iload_n hx hb dX13_fieldOf_58 rfl (lv_at hl 4 rfl) ?_
        refine lv_iconst (v := 0) hx hb dX13_fieldOf_59 (by decide) ?_
        obtain ⟨u3_0, hu_3, hsp⟩ := ox_bind hsp
        try dsimp only at hsp
        have hPc := hP.sub (ws' := [(h0, .inr (13, z_2)), (qf150, .inl (cf150, 60, .inl f150)), (qf102, .inl (cf102, 2048, .inl f102)), (qf100, .inl (cf100, 48000, .inl f100))]) [16, 0, 1, 2] rfl
        have hDc := hD.sub (ws' := [(h0, .inr (13, z_2)), (qf150, .inl (cf150, 60, .inl f150)), (qf102, .inl (cf102, 2048, .inl f102)), (qf100, .inl (cf100, 48000, .inl f100))]) [16, 0, 1, 2] (by decide) rfl
        have hKc := hK.sub (tys' := [(cf150, .int), (cf102, .int), (cf100, .int)]) [0, 1, 2] rfl
        have hFc := va_free (wc := [(h0, .inr (13, z_2)), (qf150, .inl (cf150, 60, .inl f150)), (qf102, .inl (cf102, 2048, .inl f102)), (qf100, .inl (cf100, 48000, .inl f100))]) hD hS hA [16, 0, 1, 2] rfl
        refine va_calli (va_runV (As := [.int l2_15, .int 0]) (rest := [.ref h0, .ref h0]) ⟨hx, hb, hml, hown, hts⟩ (tm_memberPart l dC dI H.size h0 z_2 l2_15 0 qf100 qf102 x149_15 qf150 cf150 f150 cf102 f102 cf100 f100 nf u3_0 hln_2 hfk_2_100 hfk_2_102 hfk_2_149 hfk_2_150 hu_3) (cwV 2 hts gv_h9_76 rfl rfl rfl (by decide +kernel) ⟨Nat.le_of_ble_eq_true rfl, Nat.le_of_ble_eq_true rfl⟩) ⟨fun a U g mk q => by obtain ⟨q0, q1, qP, qK, qD⟩ := q; exact ⟨q0, q1, qP, va_K.moved (u := U) (U := U.calling g mk a) (Vm.Alike.refl U.vm) qK, qD⟩, va_recv hKc hPc (ci := 13) (q0 := 0) rfl rfl, fun U hU hW => ⟨rfl, by rw [hU], by rw [hU]; exact hPc, va_K.moved hW.alike hKc, hDc.weaken (fun _ _ _ _ => trivial)⟩⟩ rfl rfl hl.1 rfl (lv_room (Nat.le_of_ble_eq_true rfl)) dX13_fieldOf_60 ⟨Nat.le_of_ble_eq_true rfl, Nat.le_of_ble_eq_true rfl⟩) hS (fun q _ h => hFc q h) hFc ?_
        clear hS
        intro r_6 u t H1 locs ht hvm hw hB hz1 hk1 hS
        obtain ⟨z_3, rfl⟩ : ∃ z, z = u := ⟨_, rfl⟩
        obtain ⟨hP1, hK1, hD1⟩ := hB
        rw [ht] at hP1
        have hK1 := va_K.moved hvm.symm hK1
        try dsimp only at hw
        have hPD := va_join (wr := [(qf104, .inl (cf104, 8, .inl f104)), (qf105, .inl (cf105, 8, .inl f105)), (qf106, .inl (cf106, 8, .inl f106)), (qf108, .inl (cf108, 8, .inl f108)), (qf107, .inl (cf107, 96, .inl f107)), (qf109, .inl (cf109, 96, .inl f109)), (qf145, .inl (cf145, 2001, .inl g145_15)), (qf147, .inl (cf147, 20000, .inl g147_15)), (qf152, .inl (cf152, 60, .inl g152_15)), (qf146, .inl (cf146, 2001, .inl g146_15)), (qf144, .inl (cf144, 2001, .inl g144_15)), (qf151, .inl (cf151, 60, .inl f151)), (qf110, .inl (cf110, 96, .inl f110)), (qf153, .inl (cf153, 60, .inl g902_1)), (qf154, .inl (cf154, 3600, .inl g154_15))]) (w1 := [(h0, .inr (13, z_3)), (qf150, .inl (cf150, 60, .inl f150)), (qf102, .inl (cf102, 2048, .inl f102)), (qf100, .inl (cf100, 48000, .inl f100))]) hP hD [16, 0, 1, 2] [3, 4, 5, 6, 7, 8, 9, 10, 11, 12, 13, 14, 15, 17, 18] rfl rfl (by decide) (by decide) hk1 hFc hP1 hD1
        clear hP hD
        obtain ⟨hP, hD⟩ := hPD
        replace hK := (hK.sub (tys' := [(cf104, .int), (cf105, .int), (cf106, .int), (cf108, .int), (cf107, .int), (cf109, .int), (cf145, .int), (cf147, .int), (cf152, .int), (cf146, .int), (cf144, .int), (cf151, .int), (cf110, .int), (cf153, .int), (cf154, .int)]) [3, 4, 5, 6, 7, 8, 9, 10, 11, 12, 13, 14, 15, 16, 17] rfl).app hK1
        clear hPc hDc hKc hFc hP1 hK1 hD1 hz1 hk1 ht hvm
        generalize H1 = H at hP hS ⊢
        replace hP : va_P (dC, dI) vwCl [(qf104, .inl (cf104, 8, .inl f104)), (qf105, .inl (cf105, 8, .inl f105)), (qf106, .inl (cf106, 8, .inl f106)), (qf108, .inl (cf108, 8, .inl f108)), (qf107, .inl (cf107, 96, .inl f107)), (qf109, .inl (cf109, 96, .inl f109)), (qf145, .inl (cf145, 2001, .inl g145_15)), (qf147, .inl (cf147, 20000, .inl g147_15)), (qf152, .inl (cf152, 60, .inl g152_15)), (qf146, .inl (cf146, 2001, .inl g146_15)), (qf144, .inl (cf144, 2001, .inl g144_15)), (qf151, .inl (cf151, 60, .inl f151)), (qf110, .inl (cf110, 96, .inl f110)), (qf153, .inl (cf153, 60, .inl g902_1)), (qf154, .inl (cf154, 3600, .inl g154_15)), (h0, .inr (13, z_3)), (qf150, .inl (cf150, 60, .inl f150)), (qf102, .inl (cf102, 2048, .inl f102)), (qf100, .inl (cf100, 48000, .inl f100))] H := hP
        replace hD : va_D A [(qf104, .inl (cf104, 8, .inl f104)), (qf105, .inl (cf105, 8, .inl f105)), (qf106, .inl (cf106, 8, .inl f106)), (qf108, .inl (cf108, 8, .inl f108)), (qf107, .inl (cf107, 96, .inl f107)), (qf109, .inl (cf109, 96, .inl f109)), (qf145, .inl (cf145, 2001, .inl g145_15)), (qf147, .inl (cf147, 20000, .inl g147_15)), (qf152, .inl (cf152, 60, .inl g152_15)), (qf146, .inl (cf146, 2001, .inl g146_15)), (qf144, .inl (cf144, 2001, .inl g144_15)), (qf151, .inl (cf151, 60, .inl f151)), (qf110, .inl (cf110, 96, .inl f110)), (qf153, .inl (cf153, 60, .inl g902_1)), (qf154, .inl (cf154, 3600, .inl g154_15)), (h0, .inr (13, z_3)), (qf150, .inl (cf150, 60, .inl f150)), (qf102, .inl (cf102, 2048, .inl f102)), (qf100, .inl (cf100, 48000, .inl f100))] := hD
        replace hK : va_K (dC, dI) vwCl [(cf104, .int), (cf105, .int), (cf106, .int), (cf108, .int), (cf107, .int), (cf109, .int), (cf145, .int), (cf147, .int), (cf152, .int), (cf146, .int), (cf144, .int), (cf151, .int), (cf110, .int), (cf153, .int), (cf154, .int), (cf150, .int), (cf102, .int), (cf100, .int)] s := hK
        obtain ⟨hwa_3, hln_3, hre_3⟩ := hw
        have hfk_3_98 : z_3[98]? = some (.int v98) := (hre_3 98 ).trans (hfk_2_98)
        have hfk_3_100 : z_3[100]? = some (.ref qf100) := (hre_3 100 ).trans (hfk_2_100)
        have hfk_3_102 : z_3[102]? = some (.ref qf102) := (hre_3 102 ).trans (hfk_2_102)
        have hfk_3_104 : z_3[104]? = some (.ref qf104) := (hre_3 104 ).trans (hfk_2_104)
        have hfk_3_105 : z_3[105]? = some (.ref qf105) := (hre_3 105 ).trans (hfk_2_105)
        have hfk_3_106 : z_3[106]? = some (.ref qf106) := (hre_3 106 ).trans (hfk_2_106)
        have hfk_3_107 : z_3[107]? = some (.ref qf107) := (hre_3 107 ).trans (hfk_2_107)
        have hfk_3_108 : z_3[108]? = some (.ref qf108) := (hre_3 108 ).trans (hfk_2_108)
        have hfk_3_109 : z_3[109]? = some (.ref qf109) := (hre_3 109 ).trans (hfk_2_109)
        have hfk_3_110 : z_3[110]? = some (.ref qf110) := (hre_3 110 ).trans (hfk_2_110)
        have hfk_3_121 : z_3[121]? = some (.int x121_15) := (hre_3 121 ).trans (hfk_2_121)
        have hfk_3_138 : z_3[138]? = some (.int x138_15) := (hre_3 138 ).trans (hfk_2_138)
        have hfk_3_139 : z_3[139]? = some (.int x139_15) := (hre_3 139 ).trans (hfk_2_139)
        have hfk_3_141 : z_3[141]? = some (.int x141_15) := (hre_3 141 ).trans (hfk_2_141)
        have hfk_3_142 : z_3[142]? = some (.int x142_15) := (hre_3 142 ).trans (hfk_2_142)
        have hfk_3_144 : z_3[144]? = some (.ref qf144) := (hre_3 144 ).trans (hfk_2_144)
        have hfk_3_145 : z_3[145]? = some (.ref qf145) := (hre_3 145 ).trans (hfk_2_145)
        have hfk_3_146 : z_3[146]? = some (.ref qf146) := (hre_3 146 ).trans (hfk_2_146)
        have hfk_3_147 : z_3[147]? = some (.ref qf147) := (hre_3 147 ).trans (hfk_2_147)
        have hfk_3_149 : z_3[149]? = some (.int x149_15) := (hre_3 149 ).trans (hfk_2_149)
        have hfk_3_150 : z_3[150]? = some (.ref qf150) := (hre_3 150 ).trans (hfk_2_150)
        have hfk_3_151 : z_3[151]? = some (.ref qf151) := (hre_3 151 ).trans (hfk_2_151)
        have hfk_3_152 : z_3[152]? = some (.ref qf152) := (hre_3 152 ).trans (hfk_2_152)
        have hfk_3_153 : z_3[153]? = some (.ref qf153) := (hre_3 153 ).trans (hfk_2_153)
        have hfk_3_154 : z_3[154]? = some (.ref qf154) := (hre_3 154 ).trans (hfk_2_154)
        have hrq_3 : ∀ j : Nat, j ≠ 121 → j ≠ 138 → j ≠ 139 → j ≠ 141 → j ≠ 142 → j ≠ 149 → z_3[j]? = zs[j]? := fun j g121 g138 g139 g141 g142 g149 => (hre_3 j ).trans (hrq_2 j g121 g138 g139 g141 g142 g149)
        obtain rfl := hwa_3
        obtain ⟨u4_0, hu_4, hsp⟩ := ox_bind hsp
        try dsimp only at hsp
        have hPc := hP.sub (ws' := [(h0, .inr (13, z_3)), (qf150, .inl (cf150, 60, .inl f150)), (qf102, .inl (cf102, 2048, .inl f102)), (qf100, .inl (cf100, 48000, .inl f100)), (qf104, .inl (cf104, 8, .inl f104))]) [15, 16, 17, 18, 0] rfl
        have hDc := hD.sub (ws' := [(h0, .inr (13, z_3)), (qf150, .inl (cf150, 60, .inl f150)), (qf102, .inl (cf102, 2048, .inl f102)), (qf100, .inl (cf100, 48000, .inl f100)), (qf104, .inl (cf104, 8, .inl f104))]) [15, 16, 17, 18, 0] (by decide) rfl
        have hKc := hK.sub (tys' := [(cf150, .int), (cf102, .int), (cf100, .int), (cf104, .int)]) [15, 16, 17, 0] rfl
        have hFc := va_free (wc := [(h0, .inr (13, z_3)), (qf150, .inl (cf150, 60, .inl f150)), (qf102, .inl (cf102, 2048, .inl f102)), (qf100, .inl (cf100, 48000, .inl f100)), (qf104, .inl (cf104, 8, .inl f104))]) hD hS hA [15, 16, 17, 18, 0] rfl
        refine va_calli (va_runV (As := [.int u3_0]) (rest := [.ref h0]) ⟨hx, hb, hml, hown, hts⟩ (vm_classIn l dC dI H.size h0 z_3 u3_0 v98 qf100 qf102 qf104 x149_15 qf150 cf150 f150 cf102 f102 cf100 f100 cf104 f104 nS477 fS477 hS477 qS477 tS477 nf u4_0 hln_3 hfk_3_98 hfk_3_100 hfk_3_102 hfk_3_104 hfk_3_149 hfk_3_150 hu_4) (cwV 1 hts gv_h9_117 rfl rfl rfl (by decide +kernel) ⟨Nat.le_of_ble_eq_true rfl, Nat.le_of_ble_eq_true rfl⟩) ⟨fun a U g mk q => by obtain ⟨q0, q1, qP, qK, qD, qhZWS477, qhZRS477⟩ := q; exact ⟨q0, q1, qP, va_K.moved (u := U) (U := U.calling g mk a) (Vm.Alike.refl U.vm) qK, qD, pz_W.moved (u := U) (U := U.calling g mk a) (Vm.Alike.refl U.vm) qhZWS477, vk_R.same rfl qhZRS477⟩, va_recv hKc hPc (ci := 13) (q0 := 0) rfl rfl, fun U hU hW => ⟨rfl, by rw [hU], by rw [hU]; exact hPc, va_K.moved hW.alike hKc, hDc.weaken (fun _ _ _ _ => trivial), by rw [hU]; exact ((pz_W.moved hW.alike hZWS477).kept hS.2.1).narrow hFc, vk_R.warm hW hZRS477⟩⟩ rfl rfl hl.1 rfl (lv_room (Nat.le_of_ble_eq_true rfl)) dX13_fieldOf_63 ⟨Nat.le_of_ble_eq_true rfl, Nat.le_of_ble_eq_true rfl⟩) hS (fun q _ h => hFc q h) hFc ?_
        clear hS
        intro r_7 u t H1 locs ht hvm hw hB hz1 hk1 hS
        obtain ⟨z_4, rfl⟩ : ∃ z, z = u := ⟨_, rfl⟩
        obtain ⟨hP1, hK1, hD1⟩ := hB
        rw [ht] at hP1
        have hK1 := va_K.moved hvm.symm hK1
        try dsimp only at hw
        have hPD := va_join (wr := [(qf105, .inl (cf105, 8, .inl f105)), (qf106, .inl (cf106, 8, .inl f106)), (qf108, .inl (cf108, 8, .inl f108)), (qf107, .inl (cf107, 96, .inl f107)), (qf109, .inl (cf109, 96, .inl f109)), (qf145, .inl (cf145, 2001, .inl g145_15)), (qf147, .inl (cf147, 20000, .inl g147_15)), (qf152, .inl (cf152, 60, .inl g152_15)), (qf146, .inl (cf146, 2001, .inl g146_15)), (qf144, .inl (cf144, 2001, .inl g144_15)), (qf151, .inl (cf151, 60, .inl f151)), (qf110, .inl (cf110, 96, .inl f110)), (qf153, .inl (cf153, 60, .inl g902_1)), (qf154, .inl (cf154, 3600, .inl g154_15))]) (w1 := [(h0, .inr (13, z_4)), (qf150, .inl (cf150, 60, .inl f150)), (qf102, .inl (cf102, 2048, .inl f102)), (qf100, .inl (cf100, 48000, .inl f100)), (qf104, .inl (cf104, 8, .inl f104))]) hP hD [15, 16, 17, 18, 0] [1, 2, 3, 4, 5, 6, 7, 8, 9, 10, 11, 12, 13, 14] rfl rfl (by decide) (by decide) hk1 hFc hP1 hD1
        clear hP hD
        obtain ⟨hP, hD⟩ := hPD
        replace hK := (hK.sub (tys' := [(cf105, .int), (cf106, .int), (cf108, .int), (cf107, .int), (cf109, .int), (cf145, .int), (cf147, .int), (cf152, .int), (cf146, .int), (cf144, .int), (cf151, .int), (cf110, .int), (cf153, .int), (cf154, .int)]) [1, 2, 3, 4, 5, 6, 7, 8, 9, 10, 11, 12, 13, 14] rfl).app hK1
        clear hPc hDc hKc hFc hP1 hK1 hD1 hz1 hk1 ht hvm
        generalize H1 = H at hP hS ⊢
        replace hP : va_P (dC, dI) vwCl [(qf105, .inl (cf105, 8, .inl f105)), (qf106, .inl (cf106, 8, .inl f106)), (qf108, .inl (cf108, 8, .inl f108)), (qf107, .inl (cf107, 96, .inl f107)), (qf109, .inl (cf109, 96, .inl f109)), (qf145, .inl (cf145, 2001, .inl g145_15)), (qf147, .inl (cf147, 20000, .inl g147_15)), (qf152, .inl (cf152, 60, .inl g152_15)), (qf146, .inl (cf146, 2001, .inl g146_15)), (qf144, .inl (cf144, 2001, .inl g144_15)), (qf151, .inl (cf151, 60, .inl f151)), (qf110, .inl (cf110, 96, .inl f110)), (qf153, .inl (cf153, 60, .inl g902_1)), (qf154, .inl (cf154, 3600, .inl g154_15)), (h0, .inr (13, z_4)), (qf150, .inl (cf150, 60, .inl f150)), (qf102, .inl (cf102, 2048, .inl f102)), (qf100, .inl (cf100, 48000, .inl f100)), (qf104, .inl (cf104, 8, .inl f104))] H := hP
        replace hD : va_D A [(qf105, .inl (cf105, 8, .inl f105)), (qf106, .inl (cf106, 8, .inl f106)), (qf108, .inl (cf108, 8, .inl f108)), (qf107, .inl (cf107, 96, .inl f107)), (qf109, .inl (cf109, 96, .inl f109)), (qf145, .inl (cf145, 2001, .inl g145_15)), (qf147, .inl (cf147, 20000, .inl g147_15)), (qf152, .inl (cf152, 60, .inl g152_15)), (qf146, .inl (cf146, 2001, .inl g146_15)), (qf144, .inl (cf144, 2001, .inl g144_15)), (qf151, .inl (cf151, 60, .inl f151)), (qf110, .inl (cf110, 96, .inl f110)), (qf153, .inl (cf153, 60, .inl g902_1)), (qf154, .inl (cf154, 3600, .inl g154_15)), (h0, .inr (13, z_4)), (qf150, .inl (cf150, 60, .inl f150)), (qf102, .inl (cf102, 2048, .inl f102)), (qf100, .inl (cf100, 48000, .inl f100)), (qf104, .inl (cf104, 8, .inl f104))] := hD
        replace hK : va_K (dC, dI) vwCl [(cf105, .int), (cf106, .int), (cf108, .int), (cf107, .int), (cf109, .int), (cf145, .int), (cf147, .int), (cf152, .int), (cf146, .int), (cf144, .int), (cf151, .int), (cf110, .int), (cf153, .int), (cf154, .int), (cf150, .int), (cf102, .int), (cf100, .int), (cf104, .int)] s := hK
        obtain ⟨hwa_4, hln_4, hre_4⟩ := hw
        have hfk_4_98 : z_4[98]? = some (.int v98) := (hre_4 98 ).trans (hfk_3_98)
        have hfk_4_100 : z_4[100]? = some (.ref qf100) := (hre_4 100 ).trans (hfk_3_100)
        have hfk_4_102 : z_4[102]? = some (.ref qf102) := (hre_4 102 ).trans (hfk_3_102)
        have hfk_4_104 : z_4[104]? = some (.ref qf104) := (hre_4 104 ).trans (hfk_3_104)
        have hfk_4_105 : z_4[105]? = some (.ref qf105) := (hre_4 105 ).trans (hfk_3_105)
        have hfk_4_106 : z_4[106]? = some (.ref qf106) := (hre_4 106 ).trans (hfk_3_106)
        have hfk_4_107 : z_4[107]? = some (.ref qf107) := (hre_4 107 ).trans (hfk_3_107)
        have hfk_4_108 : z_4[108]? = some (.ref qf108) := (hre_4 108 ).trans (hfk_3_108)
        have hfk_4_109 : z_4[109]? = some (.ref qf109) := (hre_4 109 ).trans (hfk_3_109)
        have hfk_4_110 : z_4[110]? = some (.ref qf110) := (hre_4 110 ).trans (hfk_3_110)
        have hfk_4_121 : z_4[121]? = some (.int x121_15) := (hre_4 121 ).trans (hfk_3_121)
        have hfk_4_138 : z_4[138]? = some (.int x138_15) := (hre_4 138 ).trans (hfk_3_138)
        have hfk_4_139 : z_4[139]? = some (.int x139_15) := (hre_4 139 ).trans (hfk_3_139)
        have hfk_4_141 : z_4[141]? = some (.int x141_15) := (hre_4 141 ).trans (hfk_3_141)
        have hfk_4_142 : z_4[142]? = some (.int x142_15) := (hre_4 142 ).trans (hfk_3_142)
        have hfk_4_144 : z_4[144]? = some (.ref qf144) := (hre_4 144 ).trans (hfk_3_144)
        have hfk_4_145 : z_4[145]? = some (.ref qf145) := (hre_4 145 ).trans (hfk_3_145)
        have hfk_4_146 : z_4[146]? = some (.ref qf146) := (hre_4 146 ).trans (hfk_3_146)
        have hfk_4_147 : z_4[147]? = some (.ref qf147) := (hre_4 147 ).trans (hfk_3_147)
        have hfk_4_149 : z_4[149]? = some (.int x149_15) := (hre_4 149 ).trans (hfk_3_149)
        have hfk_4_150 : z_4[150]? = some (.ref qf150) := (hre_4 150 ).trans (hfk_3_150)
        have hfk_4_151 : z_4[151]? = some (.ref qf151) := (hre_4 151 ).trans (hfk_3_151)
        have hfk_4_152 : z_4[152]? = some (.ref qf152) := (hre_4 152 ).trans (hfk_3_152)
        have hfk_4_153 : z_4[153]? = some (.ref qf153) := (hre_4 153 ).trans (hfk_3_153)
        have hfk_4_154 : z_4[154]? = some (.ref qf154) := (hre_4 154 ).trans (hfk_3_154)
        have hrq_4 : ∀ j : Nat, j ≠ 121 → j ≠ 138 → j ≠ 139 → j ≠ 141 → j ≠ 142 → j ≠ 149 → z_4[j]? = zs[j]? := fun j g121 g138 g139 g141 g142 g149 => (hre_4 j ).trans (hrq_3 j g121 g138 g139 g141 g142 g149)
        obtain rfl := hwa_4
        refine lv_aload_n hx hb dX13_fieldOf_66 rfl (lv_at hl 2 rfl) ?_
        refine va_get (D := (dC, dI)) (ci := 13) (v := .ref qf150) (C := RX13) (T := TX13) (N := 155) hx hb hts uV_h9_X13 hown hK hP 14 rfl rfl 150 (by decide) (hts (.fieldLink RX13 294 "ClassMillModel" "runClass" "[I") mw_h9_387) (fun _ h9 => h9) hfk_4_150 dX13_fieldOf_67 ?_
        refine lv_aload_n hx hb dX13_fieldOf_70 rfl (lv_at hl 2 rfl) ?_
        refine va_get (D := (dC, dI)) (ci := 13) (v := .int x149_15) (C := RX13) (T := TX13) (N := 155) hx hb hts uV_h9_X13 hown hK hP 14 rfl rfl 149 (by decide) (hts (.fieldLink RX13 1058 "ClassMillModel" "depth" "I") mw_h9_370) (fun _ h9 => h9) hfk_4_149 dX13_fieldOf_71 ?_
        refine lv_iconst (v := 1) hx hb dX13_fieldOf_74 (by decide) ?_
        refine lv_isub hx hb dX13_fieldOf_75 ?_
        obtain ⟨hi_8, hsp⟩ := ox_in hsp
        refine va_iald hx hb hK hP 15 14 rfl rfl (i := (x149_15 - 1)) hi_8 dX13_fieldOf_76 ?_
        refine lv_bipush (v := 8) hx hb dX13_fieldOf_77 (by decide) ?_
        refine lv_isub hx hb dX13_fieldOf_79 ?_
        refine lv_aload_n hx hb dX13_fieldOf_80 rfl (lv_at hl 2 rfl) ?_
        refine lv_iload_n hx hb dX13_fieldOf_81 rfl (lv_at hl 4 rfl) ?_
        refine lv_iconst (v := 1) hx hb dX13_fieldOf_82 (by decide) ?_
        obtain ⟨u5_0, hu_5, hsp⟩ := ox_bind hsp
        try dsimp only at hsp
        have hPc := hP.sub (ws' := [(h0, .inr (13, z_4)), (qf150, .inl (cf150, 60, .inl f150)), (qf102, .inl (cf102, 2048, .inl f102)), (qf100, .inl (cf100, 48000, .inl f100))]) [14, 15, 16, 17] rfl
        have hDc := hD.sub (ws' := [(h0, .inr (13, z_4)), (qf150, .inl (cf150, 60, .inl f150)), (qf102, .inl (cf102, 2048, .inl f102)), (qf100, .inl (cf100, 48000, .inl f100))]) [14, 15, 16, 17] (by decide) rfl
        have hKc := hK.sub (tys' := [(cf150, .int), (cf102, .int), (cf100, .int)]) [14, 15, 16] rfl
        have hFc := va_free (wc := [(h0, .inr (13, z_4)), (qf150, .inl (cf150, 60, .inl f150)), (qf102, .inl (cf102, 2048, .inl f102)), (qf100, .inl (cf100, 48000, .inl f100))]) hD hS hA [14, 15, 16, 17] rfl
        refine va_calli (va_runV (As := [.int l2_15, .int 1]) (rest := [.int ((f150 ((x149_15 - 1) : Int32).toNatClampNeg) - 8), .int u4_0, .ref h0]) ⟨hx, hb, hml, hown, hts⟩ (tm_memberPart l dC dI H.size h0 z_4 l2_15 1 qf100 qf102 x149_15 qf150 cf150 f150 cf102 f102 cf100 f100 nf u5_0 hln_4 hfk_4_100 hfk_4_102 hfk_4_149 hfk_4_150 hu_5) (cwV 2 hts gv_h9_76 rfl rfl rfl (by decide +kernel) ⟨Nat.le_of_ble_eq_true rfl, Nat.le_of_ble_eq_true rfl⟩) ⟨fun a U g mk q => by obtain ⟨q0, q1, qP, qK, qD⟩ := q; exact ⟨q0, q1, qP, va_K.moved (u := U) (U := U.calling g mk a) (Vm.Alike.refl U.vm) qK, qD⟩, va_recv hKc hPc (ci := 13) (q0 := 0) rfl rfl, fun U hU hW => ⟨rfl, by rw [hU], by rw [hU]; exact hPc, va_K.moved hW.alike hKc, hDc.weaken (fun _ _ _ _ => trivial)⟩⟩ rfl rfl hl.1 rfl (lv_room (Nat.le_of_ble_eq_true rfl)) dX13_fieldOf_83 ⟨Nat.le_of_ble_eq_true rfl, Nat.le_of_ble_eq_true rfl⟩) hS (fun q _ h => hFc q h) hFc ?_
        clear hS
        intro r_9 u t H1 locs ht hvm hw hB hz1 hk1 hS
        obtain ⟨z_5, rfl⟩ : ∃ z, z = u := ⟨_, rfl⟩
        obtain ⟨hP1, hK1, hD1⟩ := hB
        rw [ht] at hP1
        have hK1 := va_K.moved hvm.symm hK1
        try dsimp only at hw
        have hPD := va_join (wr := [(qf105, .inl (cf105, 8, .inl f105)), (qf106, .inl (cf106, 8, .inl f106)), (qf108, .inl (cf108, 8, .inl f108)), (qf107, .inl (cf107, 96, .inl f107)), (qf109, .inl (cf109, 96, .inl f109)), (qf145, .inl (cf145, 2001, .inl g145_15)), (qf147, .inl (cf147, 20000, .inl g147_15)), (qf152, .inl (cf152, 60, .inl g152_15)), (qf146, .inl (cf146, 2001, .inl g146_15)), (qf144, .inl (cf144, 2001, .inl g144_15)), (qf151, .inl (cf151, 60, .inl f151)), (qf110, .inl (cf110, 96, .inl f110)), (qf153, .inl (cf153, 60, .inl g902_1)), (qf154, .inl (cf154, 3600, .inl g154_15)), (qf104, .inl (cf104, 8, .inl f104))]) (w1 := [(h0, .inr (13, z_5)), (qf150, .inl (cf150, 60, .inl f150)), (qf102, .inl (cf102, 2048, .inl f102)), (qf100, .inl (cf100, 48000, .inl f100))]) hP hD [14, 15, 16, 17] [0, 1, 2, 3, 4, 5, 6, 7, 8, 9, 10, 11, 12, 13, 18] rfl rfl (by decide) (by decide) hk1 hFc hP1 hD1
        clear hP hD
        obtain ⟨hP, hD⟩ := hPD
        replace hK := (hK.sub (tys' := [(cf105, .int), (cf106, .int), (cf108, .int), (cf107, .int), (cf109, .int), (cf145, .int), (cf147, .int), (cf152, .int), (cf146, .int), (cf144, .int), (cf151, .int), (cf110, .int), (cf153, .int), (cf154, .int), (cf104, .int)]) [0, 1, 2, 3, 4, 5, 6, 7, 8, 9, 10, 11, 12, 13, 17] rfl).app hK1
        clear hPc hDc hKc hFc hP1 hK1 hD1 hz1 hk1 ht hvm
        generalize H1 = H at hP hS ⊢
        replace hP : va_P (dC, dI) vwCl [(qf105, .inl (cf105, 8, .inl f105)), (qf106, .inl (cf106, 8, .inl f106)), (qf108, .inl (cf108, 8, .inl f108)), (qf107, .inl (cf107, 96, .inl f107)), (qf109, .inl (cf109, 96, .inl f109)), (qf145, .inl (cf145, 2001, .inl g145_15)), (qf147, .inl (cf147, 20000, .inl g147_15)), (qf152, .inl (cf152, 60, .inl g152_15)), (qf146, .inl (cf146, 2001, .inl g146_15)), (qf144, .inl (cf144, 2001, .inl g144_15)), (qf151, .inl (cf151, 60, .inl f151)), (qf110, .inl (cf110, 96, .inl f110)), (qf153, .inl (cf153, 60, .inl g902_1)), (qf154, .inl (cf154, 3600, .inl g154_15)), (qf104, .inl (cf104, 8, .inl f104)), (h0, .inr (13, z_5)), (qf150, .inl (cf150, 60, .inl f150)), (qf102, .inl (cf102, 2048, .inl f102)), (qf100, .inl (cf100, 48000, .inl f100))] H := hP
        replace hD : va_D A [(qf105, .inl (cf105, 8, .inl f105)), (qf106, .inl (cf106, 8, .inl f106)), (qf108, .inl (cf108, 8, .inl f108)), (qf107, .inl (cf107, 96, .inl f107)), (qf109, .inl (cf109, 96, .inl f109)), (qf145, .inl (cf145, 2001, .inl g145_15)), (qf147, .inl (cf147, 20000, .inl g147_15)), (qf152, .inl (cf152, 60, .inl g152_15)), (qf146, .inl (cf146, 2001, .inl g146_15)), (qf144, .inl (cf144, 2001, .inl g144_15)), (qf151, .inl (cf151, 60, .inl f151)), (qf110, .inl (cf110, 96, .inl f110)), (qf153, .inl (cf153, 60, .inl g902_1)), (qf154, .inl (cf154, 3600, .inl g154_15)), (qf104, .inl (cf104, 8, .inl f104)), (h0, .inr (13, z_5)), (qf150, .inl (cf150, 60, .inl f150)), (qf102, .inl (cf102, 2048, .inl f102)), (qf100, .inl (cf100, 48000, .inl f100))] := hD
        replace hK : va_K (dC, dI) vwCl [(cf105, .int), (cf106, .int), (cf108, .int), (cf107, .int), (cf109, .int), (cf145, .int), (cf147, .int), (cf152, .int), (cf146, .int), (cf144, .int), (cf151, .int), (cf110, .int), (cf153, .int), (cf154, .int), (cf104, .int), (cf150, .int), (cf102, .int), (cf100, .int)] s := hK
        obtain ⟨hwa_5, hln_5, hre_5⟩ := hw
        have hfk_5_98 : z_5[98]? = some (.int v98) := (hre_5 98 ).trans (hfk_4_98)
        have hfk_5_100 : z_5[100]? = some (.ref qf100) := (hre_5 100 ).trans (hfk_4_100)
        have hfk_5_102 : z_5[102]? = some (.ref qf102) := (hre_5 102 ).trans (hfk_4_102)
        have hfk_5_104 : z_5[104]? = some (.ref qf104) := (hre_5 104 ).trans (hfk_4_104)
        have hfk_5_105 : z_5[105]? = some (.ref qf105) := (hre_5 105 ).trans (hfk_4_105)
        have hfk_5_106 : z_5[106]? = some (.ref qf106) := (hre_5 106 ).trans (hfk_4_106)
        have hfk_5_107 : z_5[107]? = some (.ref qf107) := (hre_5 107 ).trans (hfk_4_107)
        have hfk_5_108 : z_5[108]? = some (.ref qf108) := (hre_5 108 ).trans (hfk_4_108)
        have hfk_5_109 : z_5[109]? = some (.ref qf109) := (hre_5 109 ).trans (hfk_4_109)
        have hfk_5_110 : z_5[110]? = some (.ref qf110) := (hre_5 110 ).trans (hfk_4_110)
        have hfk_5_121 : z_5[121]? = some (.int x121_15) := (hre_5 121 ).trans (hfk_4_121)
        have hfk_5_138 : z_5[138]? = some (.int x138_15) := (hre_5 138 ).trans (hfk_4_138)
        have hfk_5_139 : z_5[139]? = some (.int x139_15) := (hre_5 139 ).trans (hfk_4_139)
        have hfk_5_141 : z_5[141]? = some (.int x141_15) := (hre_5 141 ).trans (hfk_4_141)
        have hfk_5_142 : z_5[142]? = some (.int x142_15) := (hre_5 142 ).trans (hfk_4_142)
        have hfk_5_144 : z_5[144]? = some (.ref qf144) := (hre_5 144 ).trans (hfk_4_144)
        have hfk_5_145 : z_5[145]? = some (.ref qf145) := (hre_5 145 ).trans (hfk_4_145)
        have hfk_5_146 : z_5[146]? = some (.ref qf146) := (hre_5 146 ).trans (hfk_4_146)
        have hfk_5_147 : z_5[147]? = some (.ref qf147) := (hre_5 147 ).trans (hfk_4_147)
        have hfk_5_149 : z_5[149]? = some (.int x149_15) := (hre_5 149 ).trans (hfk_4_149)
        have hfk_5_150 : z_5[150]? = some (.ref qf150) := (hre_5 150 ).trans (hfk_4_150)
        have hfk_5_151 : z_5[151]? = some (.ref qf151) := (hre_5 151 ).trans (hfk_4_151)
        have hfk_5_152 : z_5[152]? = some (.ref qf152) := (hre_5 152 ).trans (hfk_4_152)
        have hfk_5_153 : z_5[153]? = some (.ref qf153) := (hre_5 153 ).trans (hfk_4_153)
        have hfk_5_154 : z_5[154]? = some (.ref qf154) := (hre_5 154 ).trans (hfk_4_154)
        have hrq_5 : ∀ j : Nat, j ≠ 121 → j ≠ 138 → j ≠ 139 → j ≠ 141 → j ≠ 142 → j ≠ 149 → z_5[j]? = zs[j]? := fun j g121 g138 g139 g141 g142 g149 => (hre_5 j ).trans (hrq_4 j g121 g138 g139 g141 g142 g149)
        obtain rfl := hwa_5
        refine lv_iconst (v := 0) hx hb dX13_fieldOf_86 (by decide) ?_
        obtain ⟨⟨u6_0, u6_1⟩, hu_6, hsp⟩ := ox_bind hsp
        try dsimp only at hsp
        have hPc := hP.sub (ws' := [(h0, .inr (13, z_5)), (qf105, .inl (cf105, 8, .inl f105)), (qf102, .inl (cf102, 2048, .inl f102)), (qf100, .inl (cf100, 48000, .inl f100)), (qf104, .inl (cf104, 8, .inl f104)), (qf106, .inl (cf106, 8, .inl f106)), (qf108, .inl (cf108, 8, .inl f108)), (qf107, .inl (cf107, 96, .inl f107)), (qf109, .inl (cf109, 96, .inl f109))]) [15, 0, 17, 18, 14, 1, 2, 3, 4] rfl
        have hDc := hD.sub (ws' := [(h0, .inr (13, z_5)), (qf105, .inl (cf105, 8, .inl f105)), (qf102, .inl (cf102, 2048, .inl f102)), (qf100, .inl (cf100, 48000, .inl f100)), (qf104, .inl (cf104, 8, .inl f104)), (qf106, .inl (cf106, 8, .inl f106)), (qf108, .inl (cf108, 8, .inl f108)), (qf107, .inl (cf107, 96, .inl f107)), (qf109, .inl (cf109, 96, .inl f109))]) [15, 0, 17, 18, 14, 1, 2, 3, 4] (by decide) rfl
        have hKc := hK.sub (tys' := [(cf105, .int), (cf102, .int), (cf100, .int), (cf104, .int), (cf106, .int), (cf108, .int), (cf107, .int), (cf109, .int)]) [0, 16, 17, 14, 1, 2, 3, 4] rfl
        have hFc := va_free (wc := [(h0, .inr (13, z_5)), (qf105, .inl (cf105, 8, .inl f105)), (qf102, .inl (cf102, 2048, .inl f102)), (qf100, .inl (cf100, 48000, .inl f100)), (qf104, .inl (cf104, 8, .inl f104)), (qf106, .inl (cf106, 8, .inl f106)), (qf108, .inl (cf108, 8, .inl f108)), (qf107, .inl (cf107, 96, .inl f107)), (qf109, .inl (cf109, 96, .inl f109))]) hD hS hA [15, 0, 17, 18, 14, 1, 2, 3, 4] rfl
        refine va_calli (va_runV (As := [.int u4_0, .int ((f150 ((x149_15 - 1) : Int32).toNatClampNeg) - 8), .int u5_0, .int 0]) (rest := []) ⟨hx, hb, hml, hown, hts⟩ (vm_holder l dC dI H.size h0 z_5 u4_0 (((f150 ((x149_15 - 1) : Int32).toNatClampNeg) - 8)) u5_0 0 v98 qf100 qf102 qf104 qf105 qf106 qf107 qf108 qf109 x121_15 cf105 f105 cf102 f102 cf100 f100 cf104 f104 cf106 f106 cf108 f108 cf107 f107 cf109 f109 nS477 fS477 hS477 qS477 tS477 nf u6_0 u6_1 hln_5 hfk_5_98 hfk_5_100 hfk_5_102 hfk_5_104 hfk_5_105 hfk_5_106 hfk_5_107 hfk_5_108 hfk_5_109 hfk_5_121 hu_6) (cwV 4 hts gv_h9_107 rfl rfl rfl (by decide +kernel) ⟨Nat.le_of_ble_eq_true rfl, Nat.le_of_ble_eq_true rfl⟩) ⟨fun a U g mk q => by obtain ⟨q0, q1, qP, qK, qD, qhZWS477, qhZRS477⟩ := q; exact ⟨q0, q1, qP, va_K.moved (u := U) (U := U.calling g mk a) (Vm.Alike.refl U.vm) qK, qD, pz_W.moved (u := U) (U := U.calling g mk a) (Vm.Alike.refl U.vm) qhZWS477, vk_R.same rfl qhZRS477⟩, va_recv hKc hPc (ci := 13) (q0 := 0) rfl rfl, fun U hU hW => ⟨rfl, by rw [hU], by rw [hU]; exact hPc, va_K.moved hW.alike hKc, hDc.weaken (fun _ _ _ _ => trivial), by rw [hU]; exact ((pz_W.moved hW.alike hZWS477).kept hS.2.1).narrow hFc, vk_R.warm hW hZRS477⟩⟩ rfl rfl hl.1 rfl (lv_room (Nat.le_of_ble_eq_true rfl)) dX13_fieldOf_87 ⟨Nat.le_of_ble_eq_true rfl, Nat.le_of_ble_eq_true rfl⟩) hS (fun q _ h => hFc q h) hFc ?_
        clear hS
        intro r_10 u t H1 locs ht hvm hw hB hz1 hk1 hS
        obtain ⟨z_6, rfl⟩ : ∃ z, z = u := ⟨_, rfl⟩
        obtain ⟨hP1, hK1, hD1⟩ := hB
        rw [ht] at hP1
        have hK1 := va_K.moved hvm.symm hK1
        try dsimp only at hw
        have hPD := va_join (wr := [(qf145, .inl (cf145, 2001, .inl g145_15)), (qf147, .inl (cf147, 20000, .inl g147_15)), (qf152, .inl (cf152, 60, .inl g152_15)), (qf146, .inl (cf146, 2001, .inl g146_15)), (qf144, .inl (cf144, 2001, .inl g144_15)), (qf151, .inl (cf151, 60, .inl f151)), (qf110, .inl (cf110, 96, .inl f110)), (qf153, .inl (cf153, 60, .inl g902_1)), (qf154, .inl (cf154, 3600, .inl g154_15)), (qf150, .inl (cf150, 60, .inl f150))]) (w1 := [(h0, .inr (13, z_6)), (qf105, .inl (cf105, 8, .inl f105)), (qf102, .inl (cf102, 2048, .inl f102)), (qf100, .inl (cf100, 48000, .inl f100)), (qf104, .inl (cf104, 8, .inl f104)), (qf106, .inl (cf106, 8, .inl f106)), (qf108, .inl (cf108, 8, .inl f108)), (qf107, .inl (cf107, 96, .inl f107)), (qf109, .inl (cf109, 96, .inl f109))]) hP hD [15, 0, 17, 18, 14, 1, 2, 3, 4] [5, 6, 7, 8, 9, 10, 11, 12, 13, 16] rfl rfl (by decide) (by decide) hk1 hFc hP1 hD1
        clear hP hD
        obtain ⟨hP, hD⟩ := hPD
        replace hK := (hK.sub (tys' := [(cf145, .int), (cf147, .int), (cf152, .int), (cf146, .int), (cf144, .int), (cf151, .int), (cf110, .int), (cf153, .int), (cf154, .int), (cf150, .int)]) [5, 6, 7, 8, 9, 10, 11, 12, 13, 15] rfl).app hK1
        clear hPc hDc hKc hFc hP1 hK1 hD1 hz1 hk1 ht hvm
        generalize H1 = H at hP hS ⊢
        replace hP : va_P (dC, dI) vwCl [(qf145, .inl (cf145, 2001, .inl g145_15)), (qf147, .inl (cf147, 20000, .inl g147_15)), (qf152, .inl (cf152, 60, .inl g152_15)), (qf146, .inl (cf146, 2001, .inl g146_15)), (qf144, .inl (cf144, 2001, .inl g144_15)), (qf151, .inl (cf151, 60, .inl f151)), (qf110, .inl (cf110, 96, .inl f110)), (qf153, .inl (cf153, 60, .inl g902_1)), (qf154, .inl (cf154, 3600, .inl g154_15)), (qf150, .inl (cf150, 60, .inl f150)), (h0, .inr (13, z_6)), (qf105, .inl (cf105, 8, .inl f105)), (qf102, .inl (cf102, 2048, .inl f102)), (qf100, .inl (cf100, 48000, .inl f100)), (qf104, .inl (cf104, 8, .inl f104)), (qf106, .inl (cf106, 8, .inl f106)), (qf108, .inl (cf108, 8, .inl f108)), (qf107, .inl (cf107, 96, .inl f107)), (qf109, .inl (cf109, 96, .inl f109))] H := hP
        replace hD : va_D A [(qf145, .inl (cf145, 2001, .inl g145_15)), (qf147, .inl (cf147, 20000, .inl g147_15)), (qf152, .inl (cf152, 60, .inl g152_15)), (qf146, .inl (cf146, 2001, .inl g146_15)), (qf144, .inl (cf144, 2001, .inl g144_15)), (qf151, .inl (cf151, 60, .inl f151)), (qf110, .inl (cf110, 96, .inl f110)), (qf153, .inl (cf153, 60, .inl g902_1)), (qf154, .inl (cf154, 3600, .inl g154_15)), (qf150, .inl (cf150, 60, .inl f150)), (h0, .inr (13, z_6)), (qf105, .inl (cf105, 8, .inl f105)), (qf102, .inl (cf102, 2048, .inl f102)), (qf100, .inl (cf100, 48000, .inl f100)), (qf104, .inl (cf104, 8, .inl f104)), (qf106, .inl (cf106, 8, .inl f106)), (qf108, .inl (cf108, 8, .inl f108)), (qf107, .inl (cf107, 96, .inl f107)), (qf109, .inl (cf109, 96, .inl f109))] := hD
        replace hK : va_K (dC, dI) vwCl [(cf145, .int), (cf147, .int), (cf152, .int), (cf146, .int), (cf144, .int), (cf151, .int), (cf110, .int), (cf153, .int), (cf154, .int), (cf150, .int), (cf105, .int), (cf102, .int), (cf100, .int), (cf104, .int), (cf106, .int), (cf108, .int), (cf107, .int), (cf109, .int)] s := hK
        obtain ⟨hwa_6, hln_6, hre_6, hch_6_121⟩ := hw
        have hfk_6_98 : z_6[98]? = some (.int v98) := (hre_6 98 (by decide)).trans (hfk_5_98)
        have hfk_6_100 : z_6[100]? = some (.ref qf100) := (hre_6 100 (by decide)).trans (hfk_5_100)
        have hfk_6_102 : z_6[102]? = some (.ref qf102) := (hre_6 102 (by decide)).trans (hfk_5_102)
        have hfk_6_104 : z_6[104]? = some (.ref qf104) := (hre_6 104 (by decide)).trans (hfk_5_104)
        have hfk_6_105 : z_6[105]? = some (.ref qf105) := (hre_6 105 (by decide)).trans (hfk_5_105)
        have hfk_6_106 : z_6[106]? = some (.ref qf106) := (hre_6 106 (by decide)).trans (hfk_5_106)
        have hfk_6_107 : z_6[107]? = some (.ref qf107) := (hre_6 107 (by decide)).trans (hfk_5_107)
        have hfk_6_108 : z_6[108]? = some (.ref qf108) := (hre_6 108 (by decide)).trans (hfk_5_108)
        have hfk_6_109 : z_6[109]? = some (.ref qf109) := (hre_6 109 (by decide)).trans (hfk_5_109)
        have hfk_6_110 : z_6[110]? = some (.ref qf110) := (hre_6 110 (by decide)).trans (hfk_5_110)
        have hfk_6_138 : z_6[138]? = some (.int x138_15) := (hre_6 138 (by decide)).trans (hfk_5_138)
        have hfk_6_139 : z_6[139]? = some (.int x139_15) := (hre_6 139 (by decide)).trans (hfk_5_139)
        have hfk_6_141 : z_6[141]? = some (.int x141_15) := (hre_6 141 (by decide)).trans (hfk_5_141)
        have hfk_6_142 : z_6[142]? = some (.int x142_15) := (hre_6 142 (by decide)).trans (hfk_5_142)
        have hfk_6_144 : z_6[144]? = some (.ref qf144) := (hre_6 144 (by decide)).trans (hfk_5_144)
        have hfk_6_145 : z_6[145]? = some (.ref qf145) := (hre_6 145 (by decide)).trans (hfk_5_145)
        have hfk_6_146 : z_6[146]? = some (.ref qf146) := (hre_6 146 (by decide)).trans (hfk_5_146)
        have hfk_6_147 : z_6[147]? = some (.ref qf147) := (hre_6 147 (by decide)).trans (hfk_5_147)
        have hfk_6_149 : z_6[149]? = some (.int x149_15) := (hre_6 149 (by decide)).trans (hfk_5_149)
        have hfk_6_150 : z_6[150]? = some (.ref qf150) := (hre_6 150 (by decide)).trans (hfk_5_150)
        have hfk_6_151 : z_6[151]? = some (.ref qf151) := (hre_6 151 (by decide)).trans (hfk_5_151)
        have hfk_6_152 : z_6[152]? = some (.ref qf152) := (hre_6 152 (by decide)).trans (hfk_5_152)
        have hfk_6_153 : z_6[153]? = some (.ref qf153) := (hre_6 153 (by decide)).trans (hfk_5_153)
        have hfk_6_154 : z_6[154]? = some (.ref qf154) := (hre_6 154 (by decide)).trans (hfk_5_154)
        have hrq_6 : ∀ j : Nat, j ≠ 121 → j ≠ 138 → j ≠ 139 → j ≠ 141 → j ≠ 142 → j ≠ 149 → z_6[j]? = zs[j]? := fun j g121 g138 g139 g141 g142 g149 => (hre_6 j g121).trans (hrq_5 j g121 g138 g139 g141 g142 g149)
        obtain rfl := hwa_6
        refine lv_istore (lv' := [(6, .int u6_0), (5, .int u2_0), (4, .int s0_15), (0, .ref h0), (1, .int l1_15), (2, .int l2_15), (3, .int l3_15)]) hx hb dX13_fieldOf_90 hl (by decide) rfl (fun ls hl => ?_)
        refine lv_aload_n hx hb dX13_fieldOf_92 rfl (lv_at hl 3 rfl) ?_
        refine va_get (D := (dC, dI)) (ci := 13) (v := .ref qf145) (C := RX13) (T := TX13) (N := 155) hx hb hts uV_h9_X13 hown hK hP 10 rfl rfl 145 (by decide) (hts (.fieldLink RX13 282 "ClassMillModel" "begin" "[I") mw_h9_372) (fun _ h9 => h9) hfk_6_145 dX13_fieldOf_93 ?_
        refine lv_iload hx hb dX13_fieldOf_96 (lv_at hl 1 rfl) ?_
        obtain ⟨hi_11, hsp⟩ := ox_in hsp
        refine va_iald hx hb hK hP 0 0 rfl rfl (i := u2_0) hi_11 dX13_fieldOf_98 ?_
        refine lv_aload_n hx hb dX13_fieldOf_99 rfl (lv_at hl 3 rfl) ?_
        refine lv_aload_n hx hb dX13_fieldOf_100 rfl (lv_at hl 3 rfl) ?_
        refine lv_iload hx hb dX13_fieldOf_101 (lv_at hl 0 rfl) ?_
        obtain ⟨u7_0, hu_7, hsp⟩ := ox_bind hsp
        try dsimp only at hsp
        have hPc := hP.sub (ws' := [(h0, .inr (13, z_6)), (qf105, .inl (cf105, 8, .inl f105)), (qf102, .inl (cf102, 2048, .inl f102)), (qf100, .inl (cf100, 48000, .inl f100)), (qf104, .inl (cf104, 8, .inl f104))]) [10, 11, 12, 13, 14] rfl
        have hDc := hD.sub (ws' := [(h0, .inr (13, z_6)), (qf105, .inl (cf105, 8, .inl f105)), (qf102, .inl (cf102, 2048, .inl f102)), (qf100, .inl (cf100, 48000, .inl f100)), (qf104, .inl (cf104, 8, .inl f104))]) [10, 11, 12, 13, 14] (by decide) rfl
        have hKc := hK.sub (tys' := [(cf105, .int), (cf102, .int), (cf100, .int), (cf104, .int)]) [10, 11, 12, 13] rfl
        have hFc := va_free (wc := [(h0, .inr (13, z_6)), (qf105, .inl (cf105, 8, .inl f105)), (qf102, .inl (cf102, 2048, .inl f102)), (qf100, .inl (cf100, 48000, .inl f100)), (qf104, .inl (cf104, 8, .inl f104))]) hD hS hA [10, 11, 12, 13, 14] rfl
        refine va_calli (va_runV (As := [.int u6_0]) (rest := [.ref h0, .int (g145_15 (u2_0 : Int32).toNatClampNeg)]) ⟨hx, hb, hml, hown, hts⟩ (vm_superOf l dC dI H.size h0 z_6 u6_0 v98 qf100 qf102 qf104 qf105 cf105 f105 cf102 f102 cf100 f100 cf104 f104 nS477 fS477 hS477 qS477 tS477 nf u7_0 hln_6 hfk_6_98 hfk_6_100 hfk_6_102 hfk_6_104 hfk_6_105 hu_7) (cwV 1 hts gv_h9_98 rfl rfl rfl (by decide +kernel) ⟨Nat.le_of_ble_eq_true rfl, Nat.le_of_ble_eq_true rfl⟩) ⟨fun a U g mk q => by obtain ⟨q0, q1, qP, qK, qD, qhZWS477, qhZRS477⟩ := q; exact ⟨q0, q1, qP, va_K.moved (u := U) (U := U.calling g mk a) (Vm.Alike.refl U.vm) qK, qD, pz_W.moved (u := U) (U := U.calling g mk a) (Vm.Alike.refl U.vm) qhZWS477, vk_R.same rfl qhZRS477⟩, va_recv hKc hPc (ci := 13) (q0 := 0) rfl rfl, fun U hU hW => ⟨rfl, by rw [hU], by rw [hU]; exact hPc, va_K.moved hW.alike hKc, hDc.weaken (fun _ _ _ _ => trivial), by rw [hU]; exact ((pz_W.moved hW.alike hZWS477).kept hS.2.1).narrow hFc, vk_R.warm hW hZRS477⟩⟩ rfl rfl hl.1 rfl (lv_room (Nat.le_of_ble_eq_true rfl)) dX13_fieldOf_103 ⟨Nat.le_of_ble_eq_true rfl, Nat.le_of_ble_eq_true rfl⟩) hS (fun q _ h => hFc q h) hFc ?_
        clear hS
        intro r_12 u t H1 locs ht hvm hw hB hz1 hk1 hS
        obtain ⟨z_7, rfl⟩ : ∃ z, z = u := ⟨_, rfl⟩
        obtain ⟨hP1, hK1, hD1⟩ := hB
        rw [ht] at hP1
        have hK1 := va_K.moved hvm.symm hK1
        try dsimp only at hw
        have hPD := va_join (wr := [(qf145, .inl (cf145, 2001, .inl g145_15)), (qf147, .inl (cf147, 20000, .inl g147_15)), (qf152, .inl (cf152, 60, .inl g152_15)), (qf146, .inl (cf146, 2001, .inl g146_15)), (qf144, .inl (cf144, 2001, .inl g144_15)), (qf151, .inl (cf151, 60, .inl f151)), (qf110, .inl (cf110, 96, .inl f110)), (qf153, .inl (cf153, 60, .inl g902_1)), (qf154, .inl (cf154, 3600, .inl g154_15)), (qf150, .inl (cf150, 60, .inl f150)), (qf106, .inl (cf106, 8, .inl f106)), (qf108, .inl (cf108, 8, .inl f108)), (qf107, .inl (cf107, 96, .inl f107)), (qf109, .inl (cf109, 96, .inl f109))]) (w1 := [(h0, .inr (13, z_7)), (qf105, .inl (cf105, 8, .inl f105)), (qf102, .inl (cf102, 2048, .inl f102)), (qf100, .inl (cf100, 48000, .inl f100)), (qf104, .inl (cf104, 8, .inl f104))]) hP hD [10, 11, 12, 13, 14] [0, 1, 2, 3, 4, 5, 6, 7, 8, 9, 15, 16, 17, 18] rfl rfl (by decide) (by decide) hk1 hFc hP1 hD1
        clear hP hD
        obtain ⟨hP, hD⟩ := hPD
        replace hK := (hK.sub (tys' := [(cf145, .int), (cf147, .int), (cf152, .int), (cf146, .int), (cf144, .int), (cf151, .int), (cf110, .int), (cf153, .int), (cf154, .int), (cf150, .int), (cf106, .int), (cf108, .int), (cf107, .int), (cf109, .int)]) [0, 1, 2, 3, 4, 5, 6, 7, 8, 9, 14, 15, 16, 17] rfl).app hK1
        clear hPc hDc hKc hFc hP1 hK1 hD1 hz1 hk1 ht hvm
        generalize H1 = H at hP hS ⊢
        replace hP : va_P (dC, dI) vwCl [(qf145, .inl (cf145, 2001, .inl g145_15)), (qf147, .inl (cf147, 20000, .inl g147_15)), (qf152, .inl (cf152, 60, .inl g152_15)), (qf146, .inl (cf146, 2001, .inl g146_15)), (qf144, .inl (cf144, 2001, .inl g144_15)), (qf151, .inl (cf151, 60, .inl f151)), (qf110, .inl (cf110, 96, .inl f110)), (qf153, .inl (cf153, 60, .inl g902_1)), (qf154, .inl (cf154, 3600, .inl g154_15)), (qf150, .inl (cf150, 60, .inl f150)), (qf106, .inl (cf106, 8, .inl f106)), (qf108, .inl (cf108, 8, .inl f108)), (qf107, .inl (cf107, 96, .inl f107)), (qf109, .inl (cf109, 96, .inl f109)), (h0, .inr (13, z_7)), (qf105, .inl (cf105, 8, .inl f105)), (qf102, .inl (cf102, 2048, .inl f102)), (qf100, .inl (cf100, 48000, .inl f100)), (qf104, .inl (cf104, 8, .inl f104))] H := hP
        replace hD : va_D A [(qf145, .inl (cf145, 2001, .inl g145_15)), (qf147, .inl (cf147, 20000, .inl g147_15)), (qf152, .inl (cf152, 60, .inl g152_15)), (qf146, .inl (cf146, 2001, .inl g146_15)), (qf144, .inl (cf144, 2001, .inl g144_15)), (qf151, .inl (cf151, 60, .inl f151)), (qf110, .inl (cf110, 96, .inl f110)), (qf153, .inl (cf153, 60, .inl g902_1)), (qf154, .inl (cf154, 3600, .inl g154_15)), (qf150, .inl (cf150, 60, .inl f150)), (qf106, .inl (cf106, 8, .inl f106)), (qf108, .inl (cf108, 8, .inl f108)), (qf107, .inl (cf107, 96, .inl f107)), (qf109, .inl (cf109, 96, .inl f109)), (h0, .inr (13, z_7)), (qf105, .inl (cf105, 8, .inl f105)), (qf102, .inl (cf102, 2048, .inl f102)), (qf100, .inl (cf100, 48000, .inl f100)), (qf104, .inl (cf104, 8, .inl f104))] := hD
        replace hK : va_K (dC, dI) vwCl [(cf145, .int), (cf147, .int), (cf152, .int), (cf146, .int), (cf144, .int), (cf151, .int), (cf110, .int), (cf153, .int), (cf154, .int), (cf150, .int), (cf106, .int), (cf108, .int), (cf107, .int), (cf109, .int), (cf105, .int), (cf102, .int), (cf100, .int), (cf104, .int)] s := hK
        obtain ⟨hwa_7, hln_7, hre_7⟩ := hw
        have hfk_7_98 : z_7[98]? = some (.int v98) := (hre_7 98 ).trans (hfk_6_98)
        have hfk_7_100 : z_7[100]? = some (.ref qf100) := (hre_7 100 ).trans (hfk_6_100)
        have hfk_7_102 : z_7[102]? = some (.ref qf102) := (hre_7 102 ).trans (hfk_6_102)
        have hfk_7_104 : z_7[104]? = some (.ref qf104) := (hre_7 104 ).trans (hfk_6_104)
        have hfk_7_105 : z_7[105]? = some (.ref qf105) := (hre_7 105 ).trans (hfk_6_105)
        have hfk_7_106 : z_7[106]? = some (.ref qf106) := (hre_7 106 ).trans (hfk_6_106)
        have hfk_7_107 : z_7[107]? = some (.ref qf107) := (hre_7 107 ).trans (hfk_6_107)
        have hfk_7_108 : z_7[108]? = some (.ref qf108) := (hre_7 108 ).trans (hfk_6_108)
        have hfk_7_109 : z_7[109]? = some (.ref qf109) := (hre_7 109 ).trans (hfk_6_109)
        have hfk_7_110 : z_7[110]? = some (.ref qf110) := (hre_7 110 ).trans (hfk_6_110)
        have hfk_7_121 : z_7[121]? = some (.int u6_1) := (hre_7 121 ).trans (hch_6_121)
        have hfk_7_138 : z_7[138]? = some (.int x138_15) := (hre_7 138 ).trans (hfk_6_138)
        have hfk_7_139 : z_7[139]? = some (.int x139_15) := (hre_7 139 ).trans (hfk_6_139)
        have hfk_7_141 : z_7[141]? = some (.int x141_15) := (hre_7 141 ).trans (hfk_6_141)
        have hfk_7_142 : z_7[142]? = some (.int x142_15) := (hre_7 142 ).trans (hfk_6_142)
        have hfk_7_144 : z_7[144]? = some (.ref qf144) := (hre_7 144 ).trans (hfk_6_144)
        have hfk_7_145 : z_7[145]? = some (.ref qf145) := (hre_7 145 ).trans (hfk_6_145)
        have hfk_7_146 : z_7[146]? = some (.ref qf146) := (hre_7 146 ).trans (hfk_6_146)
        have hfk_7_147 : z_7[147]? = some (.ref qf147) := (hre_7 147 ).trans (hfk_6_147)
        have hfk_7_149 : z_7[149]? = some (.int x149_15) := (hre_7 149 ).trans (hfk_6_149)
        have hfk_7_150 : z_7[150]? = some (.ref qf150) := (hre_7 150 ).trans (hfk_6_150)
        have hfk_7_151 : z_7[151]? = some (.ref qf151) := (hre_7 151 ).trans (hfk_6_151)
        have hfk_7_152 : z_7[152]? = some (.ref qf152) := (hre_7 152 ).trans (hfk_6_152)
        have hfk_7_153 : z_7[153]? = some (.ref qf153) := (hre_7 153 ).trans (hfk_6_153)
        have hfk_7_154 : z_7[154]? = some (.ref qf154) := (hre_7 154 ).trans (hfk_6_154)
        have hrq_7 : ∀ j : Nat, j ≠ 121 → j ≠ 138 → j ≠ 139 → j ≠ 141 → j ≠ 142 → j ≠ 149 → z_7[j]? = zs[j]? := fun j g121 g138 g139 g141 g142 g149 => (hre_7 j ).trans (hrq_6 j g121 g138 g139 g141 g142 g149)
        obtain rfl := hwa_7
        obtain ⟨u8_0, hu_8, hsp⟩ := ox_bind hsp
        try dsimp only at hsp
        have hPc := hP.sub (ws' := [(h0, .inr (13, z_7)), (qf106, .inl (cf106, 8, .inl f106)), (qf105, .inl (cf105, 8, .inl f105)), (qf102, .inl (cf102, 2048, .inl f102)), (qf100, .inl (cf100, 48000, .inl f100)), (qf104, .inl (cf104, 8, .inl f104))]) [14, 10, 15, 16, 17, 18] rfl
        have hDc := hD.sub (ws' := [(h0, .inr (13, z_7)), (qf106, .inl (cf106, 8, .inl f106)), (qf105, .inl (cf105, 8, .inl f105)), (qf102, .inl (cf102, 2048, .inl f102)), (qf100, .inl (cf100, 48000, .inl f100)), (qf104, .inl (cf104, 8, .inl f104))]) [14, 10, 15, 16, 17, 18] (by decide) rfl
        have hKc := hK.sub (tys' := [(cf106, .int), (cf105, .int), (cf102, .int), (cf100, .int), (cf104, .int)]) [10, 14, 15, 16, 17] rfl
        have hFc := va_free (wc := [(h0, .inr (13, z_7)), (qf106, .inl (cf106, 8, .inl f106)), (qf105, .inl (cf105, 8, .inl f105)), (qf102, .inl (cf102, 2048, .inl f102)), (qf100, .inl (cf100, 48000, .inl f100)), (qf104, .inl (cf104, 8, .inl f104))]) hD hS hA [14, 10, 15, 16, 17, 18] rfl
        refine va_calli (va_runV (As := [.int u7_0]) (rest := [.int (g145_15 (u2_0 : Int32).toNatClampNeg)]) ⟨hx, hb, hml, hown, hts⟩ (vm_fieldsOf l dC dI H.size h0 z_7 u7_0 v98 qf100 qf102 qf104 qf105 qf106 cf106 f106 cf105 f105 cf102 f102 cf100 f100 cf104 f104 nS477 fS477 hS477 qS477 tS477 nf u8_0 hln_7 hfk_7_98 hfk_7_100 hfk_7_102 hfk_7_104 hfk_7_105 hfk_7_106 hu_8) (cwV 1 hts gv_h9_118 rfl rfl rfl (by decide +kernel) ⟨Nat.le_of_ble_eq_true rfl, Nat.le_of_ble_eq_true rfl⟩) ⟨fun a U g mk q => by obtain ⟨q0, q1, qP, qK, qD, qhZWS477, qhZRS477⟩ := q; exact ⟨q0, q1, qP, va_K.moved (u := U) (U := U.calling g mk a) (Vm.Alike.refl U.vm) qK, qD, pz_W.moved (u := U) (U := U.calling g mk a) (Vm.Alike.refl U.vm) qhZWS477, vk_R.same rfl qhZRS477⟩, va_recv hKc hPc (ci := 13) (q0 := 0) rfl rfl, fun U hU hW => ⟨rfl, by rw [hU], by rw [hU]; exact hPc, va_K.moved hW.alike hKc, hDc.weaken (fun _ _ _ _ => trivial), by rw [hU]; exact ((pz_W.moved hW.alike hZWS477).kept hS.2.1).narrow hFc, vk_R.warm hW hZRS477⟩⟩ rfl rfl hl.1 rfl (lv_room (Nat.le_of_ble_eq_true rfl)) dX13_fieldOf_106 ⟨Nat.le_of_ble_eq_true rfl, Nat.le_of_ble_eq_true rfl⟩) hS (fun q _ h => hFc q h) hFc ?_
        clear hS
        intro r_13 u t H1 locs ht hvm hw hB hz1 hk1 hS
        obtain ⟨z_8, rfl⟩ : ∃ z, z = u := ⟨_, rfl⟩
        obtain ⟨hP1, hK1, hD1⟩ := hB
        rw [ht] at hP1
        have hK1 := va_K.moved hvm.symm hK1
        try dsimp only at hw
        have hPD := va_join (wr := [(qf145, .inl (cf145, 2001, .inl g145_15)), (qf147, .inl (cf147, 20000, .inl g147_15)), (qf152, .inl (cf152, 60, .inl g152_15)), (qf146, .inl (cf146, 2001, .inl g146_15)), (qf144, .inl (cf144, 2001, .inl g144_15)), (qf151, .inl (cf151, 60, .inl f151)), (qf110, .inl (cf110, 96, .inl f110)), (qf153, .inl (cf153, 60, .inl g902_1)), (qf154, .inl (cf154, 3600, .inl g154_15)), (qf150, .inl (cf150, 60, .inl f150)), (qf108, .inl (cf108, 8, .inl f108)), (qf107, .inl (cf107, 96, .inl f107)), (qf109, .inl (cf109, 96, .inl f109))]) (w1 := [(h0, .inr (13, z_8)), (qf106, .inl (cf106, 8, .inl f106)), (qf105, .inl (cf105, 8, .inl f105)), (qf102, .inl (cf102, 2048, .inl f102)), (qf100, .inl (cf100, 48000, .inl f100)), (qf104, .inl (cf104, 8, .inl f104))]) hP hD [14, 10, 15, 16, 17, 18] [0, 1, 2, 3, 4, 5, 6, 7, 8, 9, 11, 12, 13] rfl rfl (by decide) (by decide) hk1 hFc hP1 hD1
        clear hP hD
        obtain ⟨hP, hD⟩ := hPD
        replace hK := (hK.sub (tys' := [(cf145, .int), (cf147, .int), (cf152, .int), (cf146, .int), (cf144, .int), (cf151, .int), (cf110, .int), (cf153, .int), (cf154, .int), (cf150, .int), (cf108, .int), (cf107, .int), (cf109, .int)]) [0, 1, 2, 3, 4, 5, 6, 7, 8, 9, 11, 12, 13] rfl).app hK1
        clear hPc hDc hKc hFc hP1 hK1 hD1 hz1 hk1 ht hvm
        generalize H1 = H at hP hS ⊢
        replace hP : va_P (dC, dI) vwCl [(qf145, .inl (cf145, 2001, .inl g145_15)), (qf147, .inl (cf147, 20000, .inl g147_15)), (qf152, .inl (cf152, 60, .inl g152_15)), (qf146, .inl (cf146, 2001, .inl g146_15)), (qf144, .inl (cf144, 2001, .inl g144_15)), (qf151, .inl (cf151, 60, .inl f151)), (qf110, .inl (cf110, 96, .inl f110)), (qf153, .inl (cf153, 60, .inl g902_1)), (qf154, .inl (cf154, 3600, .inl g154_15)), (qf150, .inl (cf150, 60, .inl f150)), (qf108, .inl (cf108, 8, .inl f108)), (qf107, .inl (cf107, 96, .inl f107)), (qf109, .inl (cf109, 96, .inl f109)), (h0, .inr (13, z_8)), (qf106, .inl (cf106, 8, .inl f106)), (qf105, .inl (cf105, 8, .inl f105)), (qf102, .inl (cf102, 2048, .inl f102)), (qf100, .inl (cf100, 48000, .inl f100)), (qf104, .inl (cf104, 8, .inl f104))] H := hP
        replace hD : va_D A [(qf145, .inl (cf145, 2001, .inl g145_15)), (qf147, .inl (cf147, 20000, .inl g147_15)), (qf152, .inl (cf152, 60, .inl g152_15)), (qf146, .inl (cf146, 2001, .inl g146_15)), (qf144, .inl (cf144, 2001, .inl g144_15)), (qf151, .inl (cf151, 60, .inl f151)), (qf110, .inl (cf110, 96, .inl f110)), (qf153, .inl (cf153, 60, .inl g902_1)), (qf154, .inl (cf154, 3600, .inl g154_15)), (qf150, .inl (cf150, 60, .inl f150)), (qf108, .inl (cf108, 8, .inl f108)), (qf107, .inl (cf107, 96, .inl f107)), (qf109, .inl (cf109, 96, .inl f109)), (h0, .inr (13, z_8)), (qf106, .inl (cf106, 8, .inl f106)), (qf105, .inl (cf105, 8, .inl f105)), (qf102, .inl (cf102, 2048, .inl f102)), (qf100, .inl (cf100, 48000, .inl f100)), (qf104, .inl (cf104, 8, .inl f104))] := hD
        replace hK : va_K (dC, dI) vwCl [(cf145, .int), (cf147, .int), (cf152, .int), (cf146, .int), (cf144, .int), (cf151, .int), (cf110, .int), (cf153, .int), (cf154, .int), (cf150, .int), (cf108, .int), (cf107, .int), (cf109, .int), (cf106, .int), (cf105, .int), (cf102, .int), (cf100, .int), (cf104, .int)] s := hK
        obtain ⟨hwa_8, hln_8, hre_8⟩ := hw
        have hfk_8_98 : z_8[98]? = some (.int v98) := (hre_8 98 ).trans (hfk_7_98)
        have hfk_8_100 : z_8[100]? = some (.ref qf100) := (hre_8 100 ).trans (hfk_7_100)
        have hfk_8_102 : z_8[102]? = some (.ref qf102) := (hre_8 102 ).trans (hfk_7_102)
        have hfk_8_104 : z_8[104]? = some (.ref qf104) := (hre_8 104 ).trans (hfk_7_104)
        have hfk_8_105 : z_8[105]? = some (.ref qf105) := (hre_8 105 ).trans (hfk_7_105)
        have hfk_8_106 : z_8[106]? = some (.ref qf106) := (hre_8 106 ).trans (hfk_7_106)
        have hfk_8_107 : z_8[107]? = some (.ref qf107) := (hre_8 107 ).trans (hfk_7_107)
        have hfk_8_108 : z_8[108]? = some (.ref qf108) := (hre_8 108 ).trans (hfk_7_108)
        have hfk_8_109 : z_8[109]? = some (.ref qf109) := (hre_8 109 ).trans (hfk_7_109)
        have hfk_8_110 : z_8[110]? = some (.ref qf110) := (hre_8 110 ).trans (hfk_7_110)
        have hfk_8_121 : z_8[121]? = some (.int u6_1) := (hre_8 121 ).trans (hfk_7_121)
        have hfk_8_138 : z_8[138]? = some (.int x138_15) := (hre_8 138 ).trans (hfk_7_138)
        have hfk_8_139 : z_8[139]? = some (.int x139_15) := (hre_8 139 ).trans (hfk_7_139)
        have hfk_8_141 : z_8[141]? = some (.int x141_15) := (hre_8 141 ).trans (hfk_7_141)
        have hfk_8_142 : z_8[142]? = some (.int x142_15) := (hre_8 142 ).trans (hfk_7_142)
        have hfk_8_144 : z_8[144]? = some (.ref qf144) := (hre_8 144 ).trans (hfk_7_144)
        have hfk_8_145 : z_8[145]? = some (.ref qf145) := (hre_8 145 ).trans (hfk_7_145)
        have hfk_8_146 : z_8[146]? = some (.ref qf146) := (hre_8 146 ).trans (hfk_7_146)
        have hfk_8_147 : z_8[147]? = some (.ref qf147) := (hre_8 147 ).trans (hfk_7_147)
        have hfk_8_149 : z_8[149]? = some (.int x149_15) := (hre_8 149 ).trans (hfk_7_149)
        have hfk_8_150 : z_8[150]? = some (.ref qf150) := (hre_8 150 ).trans (hfk_7_150)
        have hfk_8_151 : z_8[151]? = some (.ref qf151) := (hre_8 151 ).trans (hfk_7_151)
        have hfk_8_152 : z_8[152]? = some (.ref qf152) := (hre_8 152 ).trans (hfk_7_152)
        have hfk_8_153 : z_8[153]? = some (.ref qf153) := (hre_8 153 ).trans (hfk_7_153)
        have hfk_8_154 : z_8[154]? = some (.ref qf154) := (hre_8 154 ).trans (hfk_7_154)
        have hrq_8 : ∀ j : Nat, j ≠ 121 → j ≠ 138 → j ≠ 139 → j ≠ 141 → j ≠ 142 → j ≠ 149 → z_8[j]? = zs[j]? := fun j g121 g138 g139 g141 g142 g149 => (hre_8 j ).trans (hrq_7 j g121 g138 g139 g141 g142 g149)
        obtain rfl := hwa_8
        refine lv_iadd hx hb dX13_fieldOf_109 ?_
        refine lv_aload_n hx hb dX13_fieldOf_110 rfl (lv_at hl 3 rfl) ?_
        refine va_get (D := (dC, dI)) (ci := 13) (v := .int u6_1) (C := RX13) (T := TX13) (N := 155) hx hb hts uV_h9_X13 hown hK hP 13 rfl rfl 121 (by decide) (hts (.fieldLink RX13 898 "ClassMillModel" "found" "I") mw_h9_509) (fun _ h9 => h9) hfk_8_121 dX13_fieldOf_111 ?_
        refine lv_iadd hx hb dX13_fieldOf_114 ?_
        refine lv_istore (lv' := [(7, .int (((g145_15 (u2_0 : Int32).toNatClampNeg) + u8_0) + u6_1)), (6, .int u6_0), (5, .int u2_0), (4, .int s0_15), (0, .ref h0), (1, .int l1_15), (2, .int l2_15), (3, .int l3_15)]) hx hb dX13_fieldOf_115 hl (by decide) rfl (fun ls hl => ?_)
        refine lv_iload_n hx hb dX13_fieldOf_117 rfl (lv_at hl 5 rfl) ?_
        refine lv_sipush (v := 180) hx hb dX13_fieldOf_118 (by decide) ?_
        refine lv_icmp_ne (tgt := 138) hx hb dX13_fieldOf_121 (by decide) (fun c_14 => ?_) (fun c_14 => ?_)
        · rw [if_neg c_14] at hsp
          refine lv_aload_n hx hb dX13_fieldOf_138 rfl (lv_at hl 4 rfl) ?_
          refine va_get (D := (dC, dI)) (ci := 13) (v := .ref qf147) (C := RX13) (T := TX13) (N := 155) hx hb hts uV_h9_X13 hown hK hP 13 rfl rfl 147 (by decide) (hts (.fieldLink RX13 288 "ClassMillModel" "values" "[I") mw_h9_374) (fun _ h9 => h9) hfk_8_147 dX13_fieldOf_139 ?_
          refine lv_iload hx hb dX13_fieldOf_142 (lv_at hl 0 rfl) ?_
          refine lv_iload hx hb dX13_fieldOf_144 (lv_at hl 3 rfl) ?_
          obtain ⟨hi_15, hsp⟩ := ox_in hsp
          refine va_iast hx hb hK hP hD hS 1 1 rfl rfl (i := (((g145_15 (u2_0 : Int32).toNatClampNeg) + u8_0) + u6_1)) (x := s0_15) hi_15 dX13_fieldOf_146 ?_
          clear hP hD hS
          intro H locs hP hD hS
          replace hP : va_P (dC, dI) vwCl [(qf145, .inl (cf145, 2001, .inl g145_15)), (qf147, .inl (cf147, 20000, .inl (upd g147_15 ((((g145_15 (u2_0 : Int32).toNatClampNeg) + u8_0) + u6_1) : Int32).toNatClampNeg s0_15))), (qf152, .inl (cf152, 60, .inl g152_15)), (qf146, .inl (cf146, 2001, .inl g146_15)), (qf144, .inl (cf144, 2001, .inl g144_15)), (qf151, .inl (cf151, 60, .inl f151)), (qf110, .inl (cf110, 96, .inl f110)), (qf153, .inl (cf153, 60, .inl g902_1)), (qf154, .inl (cf154, 3600, .inl g154_15)), (qf150, .inl (cf150, 60, .inl f150)), (qf108, .inl (cf108, 8, .inl f108)), (qf107, .inl (cf107, 96, .inl f107)), (qf109, .inl (cf109, 96, .inl f109)), (h0, .inr (13, z_8)), (qf106, .inl (cf106, 8, .inl f106)), (qf105, .inl (cf105, 8, .inl f105)), (qf102, .inl (cf102, 2048, .inl f102)), (qf100, .inl (cf100, 48000, .inl f100)), (qf104, .inl (cf104, 8, .inl f104))] H := hP
          replace hD : va_D A [(qf145, .inl (cf145, 2001, .inl g145_15)), (qf147, .inl (cf147, 20000, .inl (upd g147_15 ((((g145_15 (u2_0 : Int32).toNatClampNeg) + u8_0) + u6_1) : Int32).toNatClampNeg s0_15))), (qf152, .inl (cf152, 60, .inl g152_15)), (qf146, .inl (cf146, 2001, .inl g146_15)), (qf144, .inl (cf144, 2001, .inl g144_15)), (qf151, .inl (cf151, 60, .inl f151)), (qf110, .inl (cf110, 96, .inl f110)), (qf153, .inl (cf153, 60, .inl g902_1)), (qf154, .inl (cf154, 3600, .inl g154_15)), (qf150, .inl (cf150, 60, .inl f150)), (qf108, .inl (cf108, 8, .inl f108)), (qf107, .inl (cf107, 96, .inl f107)), (qf109, .inl (cf109, 96, .inl f109)), (h0, .inr (13, z_8)), (qf106, .inl (cf106, 8, .inl f106)), (qf105, .inl (cf105, 8, .inl f105)), (qf102, .inl (cf102, 2048, .inl f102)), (qf100, .inl (cf100, 48000, .inl f100)), (qf104, .inl (cf104, 8, .inl f104))] := hD
          refine lv_aload_n hx hb dX13_fieldOf_147 rfl (lv_at hl 4 rfl) ?_
          refine lv_iload_n hx hb dX13_fieldOf_148 rfl (lv_at hl 7 rfl) ?_
          obtain ⟨g909_0, hu_9, hsp⟩ := ox_bind hsp
          try dsimp only at hsp
          have hPc := hP.sub (ws' := [(h0, .inr (13, z_8)), (qf152, .inl (cf152, 60, .inl g152_15))]) [13, 2] rfl
          have hDc := hD.sub (ws' := [(h0, .inr (13, z_8)), (qf152, .inl (cf152, 60, .inl g152_15))]) [13, 2] (by decide) rfl
          have hKc := hK.sub (tys' := [(cf152, .int)]) [2] rfl
          have hFc := va_free (wc := [(h0, .inr (13, z_8)), (qf152, .inl (cf152, 60, .inl g152_15))]) hD hS hA [13, 2] rfl
          refine va_callv (va_runV (As := [.int l3_15]) (rest := []) ⟨hx, hb, hml, hown, hts⟩ (tm_on l dC dI H.size h0 z_8 l3_15 x149_15 qf152 cf152 g152_15 nf g909_0 hln_8 hfk_8_149 hfk_8_152 hu_9) (cwV 1 hts gv_h9_119 rfl rfl rfl (by decide +kernel) ⟨Nat.le_of_ble_eq_true rfl, Nat.le_of_ble_eq_true rfl⟩) ⟨fun a U g mk q => by obtain ⟨q0, q1, qP, qK, qD⟩ := q; exact ⟨q0, q1, qP, va_K.moved (u := U) (U := U.calling g mk a) (Vm.Alike.refl U.vm) qK, qD⟩, va_recv hKc hPc (ci := 13) (q0 := 0) rfl rfl, fun U hU hW => ⟨rfl, by rw [hU], by rw [hU]; exact hPc, va_K.moved hW.alike hKc, hDc.weaken (fun _ _ _ _ => trivial)⟩⟩ rfl rfl hl.1 rfl (lv_room (Nat.le_of_ble_eq_true rfl)) dX13_fieldOf_149 ⟨Nat.le_of_ble_eq_true rfl, Nat.le_of_ble_eq_true rfl⟩) hS (fun q _ h => hFc q h) hFc ?_
          clear hS
          intro u t H1 locs ht hvm hw hB hz1 hk1 hS
          obtain ⟨z_9, rfl⟩ : ∃ z, z = u := ⟨_, rfl⟩
          obtain ⟨hP1, hK1, hD1⟩ := hB
          rw [ht] at hP1
          have hK1 := va_K.moved hvm.symm hK1
          try dsimp only at hw
          have hPD := va_join (wr := [(qf145, .inl (cf145, 2001, .inl g145_15)), (qf147, .inl (cf147, 20000, .inl (upd g147_15 ((((g145_15 (u2_0 : Int32).toNatClampNeg) + u8_0) + u6_1) : Int32).toNatClampNeg s0_15))), (qf146, .inl (cf146, 2001, .inl g146_15)), (qf144, .inl (cf144, 2001, .inl g144_15)), (qf151, .inl (cf151, 60, .inl f151)), (qf110, .inl (cf110, 96, .inl f110)), (qf153, .inl (cf153, 60, .inl g902_1)), (qf154, .inl (cf154, 3600, .inl g154_15)), (qf150, .inl (cf150, 60, .inl f150)), (qf108, .inl (cf108, 8, .inl f108)), (qf107, .inl (cf107, 96, .inl f107)), (qf109, .inl (cf109, 96, .inl f109)), (qf106, .inl (cf106, 8, .inl f106)), (qf105, .inl (cf105, 8, .inl f105)), (qf102, .inl (cf102, 2048, .inl f102)), (qf100, .inl (cf100, 48000, .inl f100)), (qf104, .inl (cf104, 8, .inl f104))]) (w1 := [(h0, .inr (13, z_9)), (qf152, .inl (cf152, 60, .inl g909_0))]) hP hD [13, 2] [0, 1, 3, 4, 5, 6, 7, 8, 9, 10, 11, 12, 14, 15, 16, 17, 18] rfl rfl (by decide) (by decide) hk1 hFc hP1 hD1
          clear hP hD
          obtain ⟨hP, hD⟩ := hPD
          replace hK := (hK.sub (tys' := [(cf145, .int), (cf147, .int), (cf146, .int), (cf144, .int), (cf151, .int), (cf110, .int), (cf153, .int), (cf154, .int), (cf150, .int), (cf108, .int), (cf107, .int), (cf109, .int), (cf106, .int), (cf105, .int), (cf102, .int), (cf100, .int), (cf104, .int)]) [0, 1, 3, 4, 5, 6, 7, 8, 9, 10, 11, 12, 13, 14, 15, 16, 17] rfl).app hK1
          clear hPc hDc hKc hFc hP1 hK1 hD1 hz1 hk1 ht hvm
          generalize H1 = H at hP hS ⊢
          replace hP : va_P (dC, dI) vwCl [(qf145, .inl (cf145, 2001, .inl g145_15)), (qf147, .inl (cf147, 20000, .inl (upd g147_15 ((((g145_15 (u2_0 : Int32).toNatClampNeg) + u8_0) + u6_1) : Int32).toNatClampNeg s0_15))), (qf146, .inl (cf146, 2001, .inl g146_15)), (qf144, .inl (cf144, 2001, .inl g144_15)), (qf151, .inl (cf151, 60, .inl f151)), (qf110, .inl (cf110, 96, .inl f110)), (qf153, .inl (cf153, 60, .inl g902_1)), (qf154, .inl (cf154, 3600, .inl g154_15)), (qf150, .inl (cf150, 60, .inl f150)), (qf108, .inl (cf108, 8, .inl f108)), (qf107, .inl (cf107, 96, .inl f107)), (qf109, .inl (cf109, 96, .inl f109)), (qf106, .inl (cf106, 8, .inl f106)), (qf105, .inl (cf105, 8, .inl f105)), (qf102, .inl (cf102, 2048, .inl f102)), (qf100, .inl (cf100, 48000, .inl f100)), (qf104, .inl (cf104, 8, .inl f104)), (h0, .inr (13, z_9)), (qf152, .inl (cf152, 60, .inl g909_0))] H := hP
          replace hD : va_D A [(qf145, .inl (cf145, 2001, .inl g145_15)), (qf147, .inl (cf147, 20000, .inl (upd g147_15 ((((g145_15 (u2_0 : Int32).toNatClampNeg) + u8_0) + u6_1) : Int32).toNatClampNeg s0_15))), (qf146, .inl (cf146, 2001, .inl g146_15)), (qf144, .inl (cf144, 2001, .inl g144_15)), (qf151, .inl (cf151, 60, .inl f151)), (qf110, .inl (cf110, 96, .inl f110)), (qf153, .inl (cf153, 60, .inl g902_1)), (qf154, .inl (cf154, 3600, .inl g154_15)), (qf150, .inl (cf150, 60, .inl f150)), (qf108, .inl (cf108, 8, .inl f108)), (qf107, .inl (cf107, 96, .inl f107)), (qf109, .inl (cf109, 96, .inl f109)), (qf106, .inl (cf106, 8, .inl f106)), (qf105, .inl (cf105, 8, .inl f105)), (qf102, .inl (cf102, 2048, .inl f102)), (qf100, .inl (cf100, 48000, .inl f100)), (qf104, .inl (cf104, 8, .inl f104)), (h0, .inr (13, z_9)), (qf152, .inl (cf152, 60, .inl g909_0))] := hD
          replace hK : va_K (dC, dI) vwCl [(cf145, .int), (cf147, .int), (cf146, .int), (cf144, .int), (cf151, .int), (cf110, .int), (cf153, .int), (cf154, .int), (cf150, .int), (cf108, .int), (cf107, .int), (cf109, .int), (cf106, .int), (cf105, .int), (cf102, .int), (cf100, .int), (cf104, .int), (cf152, .int)] s := hK
          obtain ⟨hwa_9, hln_9, hre_9⟩ := hw
          have hfk_9_98 : z_9[98]? = some (.int v98) := (hre_9 98 ).trans (hfk_8_98)
          have hfk_9_100 : z_9[100]? = some (.ref qf100) := (hre_9 100 ).trans (hfk_8_100)
          have hfk_9_102 : z_9[102]? = some (.ref qf102) := (hre_9 102 ).trans (hfk_8_102)
          have hfk_9_104 : z_9[104]? = some (.ref qf104) := (hre_9 104 ).trans (hfk_8_104)
          have hfk_9_105 : z_9[105]? = some (.ref qf105) := (hre_9 105 ).trans (hfk_8_105)
          have hfk_9_106 : z_9[106]? = some (.ref qf106) := (hre_9 106 ).trans (hfk_8_106)
          have hfk_9_107 : z_9[107]? = some (.ref qf107) := (hre_9 107 ).trans (hfk_8_107)
          have hfk_9_108 : z_9[108]? = some (.ref qf108) := (hre_9 108 ).trans (hfk_8_108)
          have hfk_9_109 : z_9[109]? = some (.ref qf109) := (hre_9 109 ).trans (hfk_8_109)
          have hfk_9_110 : z_9[110]? = some (.ref qf110) := (hre_9 110 ).trans (hfk_8_110)
          have hfk_9_121 : z_9[121]? = some (.int u6_1) := (hre_9 121 ).trans (hfk_8_121)
          have hfk_9_138 : z_9[138]? = some (.int x138_15) := (hre_9 138 ).trans (hfk_8_138)
          have hfk_9_139 : z_9[139]? = some (.int x139_15) := (hre_9 139 ).trans (hfk_8_139)
          have hfk_9_141 : z_9[141]? = some (.int x141_15) := (hre_9 141 ).trans (hfk_8_141)
          have hfk_9_142 : z_9[142]? = some (.int x142_15) := (hre_9 142 ).trans (hfk_8_142)
          have hfk_9_144 : z_9[144]? = some (.ref qf144) := (hre_9 144 ).trans (hfk_8_144)
          have hfk_9_145 : z_9[145]? = some (.ref qf145) := (hre_9 145 ).trans (hfk_8_145)
          have hfk_9_146 : z_9[146]? = some (.ref qf146) := (hre_9 146 ).trans (hfk_8_146)
          have hfk_9_147 : z_9[147]? = some (.ref qf147) := (hre_9 147 ).trans (hfk_8_147)
          have hfk_9_149 : z_9[149]? = some (.int x149_15) := (hre_9 149 ).trans (hfk_8_149)
          have hfk_9_150 : z_9[150]? = some (.ref qf150) := (hre_9 150 ).trans (hfk_8_150)
          have hfk_9_151 : z_9[151]? = some (.ref qf151) := (hre_9 151 ).trans (hfk_8_151)
          have hfk_9_152 : z_9[152]? = some (.ref qf152) := (hre_9 152 ).trans (hfk_8_152)
          have hfk_9_153 : z_9[153]? = some (.ref qf153) := (hre_9 153 ).trans (hfk_8_153)
          have hfk_9_154 : z_9[154]? = some (.ref qf154) := (hre_9 154 ).trans (hfk_8_154)
          have hrq_9 : ∀ j : Nat, j ≠ 121 → j ≠ 138 → j ≠ 139 → j ≠ 141 → j ≠ 142 → j ≠ 149 → z_9[j]? = zs[j]? := fun j g121 g138 g139 g141 g142 g149 => (hre_9 j ).trans (hrq_8 j g121 g138 g139 g141 g142 g149)
          have hr0 := Option.some.inj hsp
          clear hsp
          obtain ⟨hq0, hr1⟩ := Prod.mk.inj hr0
          clear hr0
          obtain ⟨hq1, hr2⟩ := Prod.mk.inj hr1
          clear hr1
          obtain ⟨hq2, hr3⟩ := Prod.mk.inj hr2
          clear hr2
          obtain ⟨hq3, hr4⟩ := Prod.mk.inj hr3
          clear hr3
          obtain ⟨hq4, hr5⟩ := Prod.mk.inj hr4
          clear hr4
          obtain ⟨hq5, hr6⟩ := Prod.mk.inj hr5
          clear hr5
          obtain ⟨hq6, hr7⟩ := Prod.mk.inj hr6
          clear hr6
          obtain ⟨hq7, hr8⟩ := Prod.mk.inj hr7
          clear hr7
          obtain ⟨hq8, hr9⟩ := Prod.mk.inj hr8
          clear hr8
          obtain ⟨hq9, hr10⟩ := Prod.mk.inj hr9
          clear hr9
          obtain ⟨hq10, hr11⟩ := Prod.mk.inj hr10
          clear hr10
          obtain ⟨hq11, hr12⟩ := Prod.mk.inj hr11
          clear hr11
          subst hq0
          subst hq1
          subst hq2
          subst hq3
          subst hq4
          subst hq5
          subst hq6
          subst hq7
          subst hq8
          subst hq9
          subst hq10
          subst hq11
          subst hr12
          have hP9 := hP.sub (ws' := [(h0, .inr (13, z_9)), (qf153, .inl (cf153, 60, .inl g902_1)), (qf154, .inl (cf154, 3600, .inl g154_15)), (qf150, .inl (cf150, 60, .inl f150)), (qf102, .inl (cf102, 2048, .inl f102)), (qf100, .inl (cf100, 48000, .inl f100)), (qf104, .inl (cf104, 8, .inl f104)), (qf105, .inl (cf105, 8, .inl f105)), (qf106, .inl (cf106, 8, .inl f106)), (qf108, .inl (cf108, 8, .inl f108)), (qf107, .inl (cf107, 96, .inl f107)), (qf109, .inl (cf109, 96, .inl f109)), (qf145, .inl (cf145, 2001, .inl g145_15)), (qf147, .inl (cf147, 20000, .inl (upd g147_15 ((((g145_15 (u2_0 : Int32).toNatClampNeg) + u8_0) + u6_1) : Int32).toNatClampNeg s0_15))), (qf152, .inl (cf152, 60, .inl g909_0)), (qf146, .inl (cf146, 2001, .inl g146_15)), (qf144, .inl (cf144, 2001, .inl g144_15)), (qf151, .inl (cf151, 60, .inl f151)), (qf110, .inl (cf110, 96, .inl f110))]) [17, 6, 7, 8, 14, 15, 16, 13, 12, 9, 10, 11, 0, 1, 18, 2, 3, 4, 5] rfl
          have hD9 := hD.sub (ws' := [(h0, .inr (13, z_9)), (qf153, .inl (cf153, 60, .inl g902_1)), (qf154, .inl (cf154, 3600, .inl g154_15)), (qf150, .inl (cf150, 60, .inl f150)), (qf102, .inl (cf102, 2048, .inl f102)), (qf100, .inl (cf100, 48000, .inl f100)), (qf104, .inl (cf104, 8, .inl f104)), (qf105, .inl (cf105, 8, .inl f105)), (qf106, .inl (cf106, 8, .inl f106)), (qf108, .inl (cf108, 8, .inl f108)), (qf107, .inl (cf107, 96, .inl f107)), (qf109, .inl (cf109, 96, .inl f109)), (qf145, .inl (cf145, 2001, .inl g145_15)), (qf147, .inl (cf147, 20000, .inl (upd g147_15 ((((g145_15 (u2_0 : Int32).toNatClampNeg) + u8_0) + u6_1) : Int32).toNatClampNeg s0_15))), (qf152, .inl (cf152, 60, .inl g909_0)), (qf146, .inl (cf146, 2001, .inl g146_15)), (qf144, .inl (cf144, 2001, .inl g144_15)), (qf151, .inl (cf151, 60, .inl f151)), (qf110, .inl (cf110, 96, .inl f110))]) [17, 6, 7, 8, 14, 15, 16, 13, 12, 9, 10, 11, 0, 1, 18, 2, 3, 4, 5] (by decide) rfl
          have hK9 := hK.sub (tys' := [(cf153, .int), (cf154, .int), (cf150, .int), (cf102, .int), (cf100, .int), (cf104, .int), (cf105, .int), (cf106, .int), (cf108, .int), (cf107, .int), (cf109, .int), (cf145, .int), (cf147, .int), (cf152, .int), (cf146, .int), (cf144, .int), (cf151, .int), (cf110, .int)]) [6, 7, 8, 14, 15, 16, 13, 12, 9, 10, 11, 0, 1, 17, 2, 3, 4, 5] rfl
          exact W.vret hx hb hr (fun t ht hW => ⟨⟨(z_9), rfl, ⟨trivial, hln_9, hrq_9, hfk_9_121, hfk_9_138, hfk_9_139, hfk_9_141, hfk_9_142, hfk_9_149⟩, by rw [ht]; exact hP9, va_K.moved hW.alike hK9, hD9⟩, hS.F ht⟩) hS.2.2 dX13_fieldOf_152
        · rw [if_pos c_14] at hsp
          refine lv_aload_n hx hb dX13_fieldOf_124 rfl (lv_at hl 4 rfl) ?_
          refine lv_aload_n hx hb dX13_fieldOf_125 rfl (lv_at hl 4 rfl) ?_
          refine va_get (D := (dC, dI)) (ci := 13) (v := .ref qf147) (C := RX13) (T := TX13) (N := 155) hx hb hts uV_h9_X13 hown hK hP 13 rfl rfl 147 (by decide) (hts (.fieldLink RX13 288 "ClassMillModel" "values" "[I") mw_h9_374) (fun _ h9 => h9) hfk_8_147 dX13_fieldOf_126 ?_
          refine lv_iload hx hb dX13_fieldOf_129 (lv_at hl 0 rfl) ?_
          obtain ⟨hi_16, hsp⟩ := ox_in hsp
          refine va_iald hx hb hK hP 1 1 rfl rfl (i := (((g145_15 (u2_0 : Int32).toNatClampNeg) + u8_0) + u6_1)) hi_16 dX13_fieldOf_131 ?_
          obtain ⟨⟨g910_0, g910_1⟩, hu_10, hsp⟩ := ox_bind hsp
          try dsimp only at hsp
          have hPc := hP.sub (ws' := [(h0, .inr (13, z_8)), (qf153, .inl (cf153, 60, .inl g902_1)), (qf154, .inl (cf154, 3600, .inl g154_15))]) [13, 7, 8] rfl
          have hDc := hD.sub (ws' := [(h0, .inr (13, z_8)), (qf153, .inl (cf153, 60, .inl g902_1)), (qf154, .inl (cf154, 3600, .inl g154_15))]) [13, 7, 8] (by decide) rfl
          have hKc := hK.sub (tys' := [(cf153, .int), (cf154, .int)]) [7, 8] rfl
          have hFc := va_free (wc := [(h0, .inr (13, z_8)), (qf153, .inl (cf153, 60, .inl g902_1)), (qf154, .inl (cf154, 3600, .inl g154_15))]) hD hS hA [13, 7, 8] rfl
          refine va_callv (va_runV (As := [.int (g147_15 ((((g145_15 (u2_0 : Int32).toNatClampNeg) + u8_0) + u6_1) : Int32).toNatClampNeg)]) (rest := []) ⟨hx, hb, hml, hown, hts⟩ (tm_give l dC dI H.size h0 z_8 ((g147_15 ((((g145_15 (u2_0 : Int32).toNatClampNeg) + u8_0) + u6_1) : Int32).toNatClampNeg)) x149_15 qf153 qf154 cf153 g902_1 cf154 g154_15 nf g910_0 g910_1 hln_8 hfk_8_149 hfk_8_153 hfk_8_154 hu_10) (cwV 1 hts gv_h9_116 rfl rfl rfl (by decide +kernel) ⟨Nat.le_of_ble_eq_true rfl, Nat.le_of_ble_eq_true rfl⟩) ⟨fun a U g mk q => by obtain ⟨q0, q1, qP, qK, qD⟩ := q; exact ⟨q0, q1, qP, va_K.moved (u := U) (U := U.calling g mk a) (Vm.Alike.refl U.vm) qK, qD⟩, va_recv hKc hPc (ci := 13) (q0 := 0) rfl rfl, fun U hU hW => ⟨rfl, by rw [hU], by rw [hU]; exact hPc, va_K.moved hW.alike hKc, hDc.weaken (fun _ _ _ _ => trivial)⟩⟩ rfl rfl hl.1 rfl (lv_room (Nat.le_of_ble_eq_true rfl)) dX13_fieldOf_132 ⟨Nat.le_of_ble_eq_true rfl, Nat.le_of_ble_eq_true rfl⟩) hS (fun q _ h => hFc q h) hFc ?_
          clear hS
          intro u t H1 locs ht hvm hw hB hz1 hk1 hS
          obtain ⟨z_10, rfl⟩ : ∃ z, z = u := ⟨_, rfl⟩
          obtain ⟨hP1, hK1, hD1⟩ := hB
          rw [ht] at hP1
          have hK1 := va_K.moved hvm.symm hK1
          try dsimp only at hw
          have hPD := va_join (wr := [(qf145, .inl (cf145, 2001, .inl g145_15)), (qf147, .inl (cf147, 20000, .inl g147_15)), (qf152, .inl (cf152, 60, .inl g152_15)), (qf146, .inl (cf146, 2001, .inl g146_15)), (qf144, .inl (cf144, 2001, .inl g144_15)), (qf151, .inl (cf151, 60, .inl f151)), (qf110, .inl (cf110, 96, .inl f110)), (qf150, .inl (cf150, 60, .inl f150)), (qf108, .inl (cf108, 8, .inl f108)), (qf107, .inl (cf107, 96, .inl f107)), (qf109, .inl (cf109, 96, .inl f109)), (qf106, .inl (cf106, 8, .inl f106)), (qf105, .inl (cf105, 8, .inl f105)), (qf102, .inl (cf102, 2048, .inl f102)), (qf100, .inl (cf100, 48000, .inl f100)), (qf104, .inl (cf104, 8, .inl f104))]) (w1 := [(h0, .inr (13, z_10)), (qf153, .inl (cf153, 60, .inl g910_0)), (qf154, .inl (cf154, 3600, .inl g910_1))]) hP hD [13, 7, 8] [0, 1, 2, 3, 4, 5, 6, 9, 10, 11, 12, 14, 15, 16, 17, 18] rfl rfl (by decide) (by decide) hk1 hFc hP1 hD1
          clear hP hD
          obtain ⟨hP, hD⟩ := hPD
          replace hK := (hK.sub (tys' := [(cf145, .int), (cf147, .int), (cf152, .int), (cf146, .int), (cf144, .int), (cf151, .int), (cf110, .int), (cf150, .int), (cf108, .int), (cf107, .int), (cf109, .int), (cf106, .int), (cf105, .int), (cf102, .int), (cf100, .int), (cf104, .int)]) [0, 1, 2, 3, 4, 5, 6, 9, 10, 11, 12, 13, 14, 15, 16, 17] rfl).app hK1
          clear hPc hDc hKc hFc hP1 hK1 hD1 hz1 hk1 ht hvm
          generalize H1 = H at hP hS ⊢
          replace hP : va_P (dC, dI) vwCl [(qf145, .inl (cf145, 2001, .inl g145_15)), (qf147, .inl (cf147, 20000, .inl g147_15)), (qf152, .inl (cf152, 60, .inl g152_15)), (qf146, .inl (cf146, 2001, .inl g146_15)), (qf144, .inl (cf144, 2001, .inl g144_15)), (qf151, .inl (cf151, 60, .inl f151)), (qf110, .inl (cf110, 96, .inl f110)), (qf150, .inl (cf150, 60, .inl f150)), (qf108, .inl (cf108, 8, .inl f108)), (qf107, .inl (cf107, 96, .inl f107)), (qf109, .inl (cf109, 96, .inl f109)), (qf106, .inl (cf106, 8, .inl f106)), (qf105, .inl (cf105, 8, .inl f105)), (qf102, .inl (cf102, 2048, .inl f102)), (qf100, .inl (cf100, 48000, .inl f100)), (qf104, .inl (cf104, 8, .inl f104)), (h0, .inr (13, z_10)), (qf153, .inl (cf153, 60, .inl g910_0)), (qf154, .inl (cf154, 3600, .inl g910_1))] H := hP
          replace hD : va_D A [(qf145, .inl (cf145, 2001, .inl g145_15)), (qf147, .inl (cf147, 20000, .inl g147_15)), (qf152, .inl (cf152, 60, .inl g152_15)), (qf146, .inl (cf146, 2001, .inl g146_15)), (qf144, .inl (cf144, 2001, .inl g144_15)), (qf151, .inl (cf151, 60, .inl f151)), (qf110, .inl (cf110, 96, .inl f110)), (qf150, .inl (cf150, 60, .inl f150)), (qf108, .inl (cf108, 8, .inl f108)), (qf107, .inl (cf107, 96, .inl f107)), (qf109, .inl (cf109, 96, .inl f109)), (qf106, .inl (cf106, 8, .inl f106)), (qf105, .inl (cf105, 8, .inl f105)), (qf102, .inl (cf102, 2048, .inl f102)), (qf100, .inl (cf100, 48000, .inl f100)), (qf104, .inl (cf104, 8, .inl f104)), (h0, .inr (13, z_10)), (qf153, .inl (cf153, 60, .inl g910_0)), (qf154, .inl (cf154, 3600, .inl g910_1))] := hD
          replace hK : va_K (dC, dI) vwCl [(cf145, .int), (cf147, .int), (cf152, .int), (cf146, .int), (cf144, .int), (cf151, .int), (cf110, .int), (cf150, .int), (cf108, .int), (cf107, .int), (cf109, .int), (cf106, .int), (cf105, .int), (cf102, .int), (cf100, .int), (cf104, .int), (cf153, .int), (cf154, .int)] s := hK
          obtain ⟨hwa_10, hln_10, hre_10⟩ := hw
          have hfk_10_98 : z_10[98]? = some (.int v98) := (hre_10 98 ).trans (hfk_8_98)
          have hfk_10_100 : z_10[100]? = some (.ref qf100) := (hre_10 100 ).trans (hfk_8_100)
          have hfk_10_102 : z_10[102]? = some (.ref qf102) := (hre_10 102 ).trans (hfk_8_102)
          have hfk_10_104 : z_10[104]? = some (.ref qf104) := (hre_10 104 ).trans (hfk_8_104)
          have hfk_10_105 : z_10[105]? = some (.ref qf105) := (hre_10 105 ).trans (hfk_8_105)
          have hfk_10_106 : z_10[106]? = some (.ref qf106) := (hre_10 106 ).trans (hfk_8_106)
          have hfk_10_107 : z_10[107]? = some (.ref qf107) := (hre_10 107 ).trans (hfk_8_107)
          have hfk_10_108 : z_10[108]? = some (.ref qf108) := (hre_10 108 ).trans (hfk_8_108)
          have hfk_10_109 : z_10[109]? = some (.ref qf109) := (hre_10 109 ).trans (hfk_8_109)
          have hfk_10_110 : z_10[110]? = some (.ref qf110) := (hre_10 110 ).trans (hfk_8_110)
          have hfk_10_121 : z_10[121]? = some (.int u6_1) := (hre_10 121 ).trans (hfk_8_121)
          have hfk_10_138 : z_10[138]? = some (.int x138_15) := (hre_10 138 ).trans (hfk_8_138)
          have hfk_10_139 : z_10[139]? = some (.int x139_15) := (hre_10 139 ).trans (hfk_8_139)
          have hfk_10_141 : z_10[141]? = some (.int x141_15) := (hre_10 141 ).trans (hfk_8_141)
          have hfk_10_142 : z_10[142]? = some (.int x142_15) := (hre_10 142 ).trans (hfk_8_142)
          have hfk_10_144 : z_10[144]? = some (.ref qf144) := (hre_10 144 ).trans (hfk_8_144)
          have hfk_10_145 : z_10[145]? = some (.ref qf145) := (hre_10 145 ).trans (hfk_8_145)
          have hfk_10_146 : z_10[146]? = some (.ref qf146) := (hre_10 146 ).trans (hfk_8_146)
          have hfk_10_147 : z_10[147]? = some (.ref qf147) := (hre_10 147 ).trans (hfk_8_147)
          have hfk_10_149 : z_10[149]? = some (.int x149_15) := (hre_10 149 ).trans (hfk_8_149)
          have hfk_10_150 : z_10[150]? = some (.ref qf150) := (hre_10 150 ).trans (hfk_8_150)
          have hfk_10_151 : z_10[151]? = some (.ref qf151) := (hre_10 151 ).trans (hfk_8_151)
          have hfk_10_152 : z_10[152]? = some (.ref qf152) := (hre_10 152 ).trans (hfk_8_152)
          have hfk_10_153 : z_10[153]? = some (.ref qf153) := (hre_10 153 ).trans (hfk_8_153)
          have hfk_10_154 : z_10[154]? = some (.ref qf154) := (hre_10 154 ).trans (hfk_8_154)
          have hrq_10 : ∀ j : Nat, j ≠ 121 → j ≠ 138 → j ≠ 139 → j ≠ 141 → j ≠ 142 → j ≠ 149 → z_10[j]? = zs[j]? := fun j g121 g138 g139 g141 g142 g149 => (hre_10 j ).trans (hrq_8 j g121 g138 g139 g141 g142 g149)
          refine lv_goto (tgt := 147) hx hb dX13_fieldOf_135 (by decide) ?_
          refine lv_aload_n hx hb dX13_fieldOf_147 rfl (lv_at hl 4 rfl) ?_
          refine lv_iload_n hx hb dX13_fieldOf_148 rfl (lv_at hl 7 rfl) ?_
          obtain ⟨g911_0, hu_11, hsp⟩ := ox_bind hsp
          try dsimp only at hsp
          have hPc := hP.sub (ws' := [(h0, .inr (13, z_10)), (qf152, .inl (cf152, 60, .inl g152_15))]) [16, 2] rfl
          have hDc := hD.sub (ws' := [(h0, .inr (13, z_10)), (qf152, .inl (cf152, 60, .inl g152_15))]) [16, 2] (by decide) rfl
          have hKc := hK.sub (tys' := [(cf152, .int)]) [2] rfl
          have hFc := va_free (wc := [(h0, .inr (13, z_10)), (qf152, .inl (cf152, 60, .inl g152_15))]) hD hS hA [16, 2] rfl
          refine va_callv (va_runV (As := [.int l3_15]) (rest := []) ⟨hx, hb, hml, hown, hts⟩ (tm_on l dC dI H.size h0 z_10 l3_15 x149_15 qf152 cf152 g152_15 nf g911_0 hln_10 hfk_10_149 hfk_10_152 hu_11) (cwV 1 hts gv_h9_119 rfl rfl rfl (by decide +kernel) ⟨Nat.le_of_ble_eq_true rfl, Nat.le_of_ble_eq_true rfl⟩) ⟨fun a U g mk q => by obtain ⟨q0, q1, qP, qK, qD⟩ := q; exact ⟨q0, q1, qP, va_K.moved (u := U) (U := U.calling g mk a) (Vm.Alike.refl U.vm) qK, qD⟩, va_recv hKc hPc (ci := 13) (q0 := 0) rfl rfl, fun U hU hW => ⟨rfl, by rw [hU], by rw [hU]; exact hPc, va_K.moved hW.alike hKc, hDc.weaken (fun _ _ _ _ => trivial)⟩⟩ rfl rfl hl.1 rfl (lv_room (Nat.le_of_ble_eq_true rfl)) dX13_fieldOf_149 ⟨Nat.le_of_ble_eq_true rfl, Nat.le_of_ble_eq_true rfl⟩) hS (fun q _ h => hFc q h) hFc ?_
          clear hS
          intro u t H1 locs ht hvm hw hB hz1 hk1 hS
          obtain ⟨z_11, rfl⟩ : ∃ z, z = u := ⟨_, rfl⟩
          obtain ⟨hP1, hK1, hD1⟩ := hB
          rw [ht] at hP1
          have hK1 := va_K.moved hvm.symm hK1
          try dsimp only at hw
          have hPD := va_join (wr := [(qf145, .inl (cf145, 2001, .inl g145_15)), (qf147, .inl (cf147, 20000, .inl g147_15)), (qf146, .inl (cf146, 2001, .inl g146_15)), (qf144, .inl (cf144, 2001, .inl g144_15)), (qf151, .inl (cf151, 60, .inl f151)), (qf110, .inl (cf110, 96, .inl f110)), (qf150, .inl (cf150, 60, .inl f150)), (qf108, .inl (cf108, 8, .inl f108)), (qf107, .inl (cf107, 96, .inl f107)), (qf109, .inl (cf109, 96, .inl f109)), (qf106, .inl (cf106, 8, .inl f106)), (qf105, .inl (cf105, 8, .inl f105)), (qf102, .inl (cf102, 2048, .inl f102)), (qf100, .inl (cf100, 48000, .inl f100)), (qf104, .inl (cf104, 8, .inl f104)), (qf153, .inl (cf153, 60, .inl g910_0)), (qf154, .inl (cf154, 3600, .inl g910_1))]) (w1 := [(h0, .inr (13, z_11)), (qf152, .inl (cf152, 60, .inl g911_0))]) hP hD [16, 2] [0, 1, 3, 4, 5, 6, 7, 8, 9, 10, 11, 12, 13, 14, 15, 17, 18] rfl rfl (by decide) (by decide) hk1 hFc hP1 hD1
          clear hP hD
          obtain ⟨hP, hD⟩ := hPD
          replace hK := (hK.sub (tys' := [(cf145, .int), (cf147, .int), (cf146, .int), (cf144, .int), (cf151, .int), (cf110, .int), (cf150, .int), (cf108, .int), (cf107, .int), (cf109, .int), (cf106, .int), (cf105, .int), (cf102, .int), (cf100, .int), (cf104, .int), (cf153, .int), (cf154, .int)]) [0, 1, 3, 4, 5, 6, 7, 8, 9, 10, 11, 12, 13, 14, 15, 16, 17] rfl).app hK1
          clear hPc hDc hKc hFc hP1 hK1 hD1 hz1 hk1 ht hvm
          generalize H1 = H at hP hS ⊢
          replace hP : va_P (dC, dI) vwCl [(qf145, .inl (cf145, 2001, .inl g145_15)), (qf147, .inl (cf147, 20000, .inl g147_15)), (qf146, .inl (cf146, 2001, .inl g146_15)), (qf144, .inl (cf144, 2001, .inl g144_15)), (qf151, .inl (cf151, 60, .inl f151)), (qf110, .inl (cf110, 96, .inl f110)), (qf150, .inl (cf150, 60, .inl f150)), (qf108, .inl (cf108, 8, .inl f108)), (qf107, .inl (cf107, 96, .inl f107)), (qf109, .inl (cf109, 96, .inl f109)), (qf106, .inl (cf106, 8, .inl f106)), (qf105, .inl (cf105, 8, .inl f105)), (qf102, .inl (cf102, 2048, .inl f102)), (qf100, .inl (cf100, 48000, .inl f100)), (qf104, .inl (cf104, 8, .inl f104)), (qf153, .inl (cf153, 60, .inl g910_0)), (qf154, .inl (cf154, 3600, .inl g910_1)), (h0, .inr (13, z_11)), (qf152, .inl (cf152, 60, .inl g911_0))] H := hP
          replace hD : va_D A [(qf145, .inl (cf145, 2001, .inl g145_15)), (qf147, .inl (cf147, 20000, .inl g147_15)), (qf146, .inl (cf146, 2001, .inl g146_15)), (qf144, .inl (cf144, 2001, .inl g144_15)), (qf151, .inl (cf151, 60, .inl f151)), (qf110, .inl (cf110, 96, .inl f110)), (qf150, .inl (cf150, 60, .inl f150)), (qf108, .inl (cf108, 8, .inl f108)), (qf107, .inl (cf107, 96, .inl f107)), (qf109, .inl (cf109, 96, .inl f109)), (qf106, .inl (cf106, 8, .inl f106)), (qf105, .inl (cf105, 8, .inl f105)), (qf102, .inl (cf102, 2048, .inl f102)), (qf100, .inl (cf100, 48000, .inl f100)), (qf104, .inl (cf104, 8, .inl f104)), (qf153, .inl (cf153, 60, .inl g910_0)), (qf154, .inl (cf154, 3600, .inl g910_1)), (h0, .inr (13, z_11)), (qf152, .inl (cf152, 60, .inl g911_0))] := hD
          replace hK : va_K (dC, dI) vwCl [(cf145, .int), (cf147, .int), (cf146, .int), (cf144, .int), (cf151, .int), (cf110, .int), (cf150, .int), (cf108, .int), (cf107, .int), (cf109, .int), (cf106, .int), (cf105, .int), (cf102, .int), (cf100, .int), (cf104, .int), (cf153, .int), (cf154, .int), (cf152, .int)] s := hK
          obtain ⟨hwa_11, hln_11, hre_11⟩ := hw
          have hfk_11_98 : z_11[98]? = some (.int v98) := (hre_11 98 ).trans (hfk_10_98)
          have hfk_11_100 : z_11[100]? = some (.ref qf100) := (hre_11 100 ).trans (hfk_10_100)
          have hfk_11_102 : z_11[102]? = some (.ref qf102) := (hre_11 102 ).trans (hfk_10_102)
          have hfk_11_104 : z_11[104]? = some (.ref qf104) := (hre_11 104 ).trans (hfk_10_104)
          have hfk_11_105 : z_11[105]? = some (.ref qf105) := (hre_11 105 ).trans (hfk_10_105)
          have hfk_11_106 : z_11[106]? = some (.ref qf106) := (hre_11 106 ).trans (hfk_10_106)
          have hfk_11_107 : z_11[107]? = some (.ref qf107) := (hre_11 107 ).trans (hfk_10_107)
          have hfk_11_108 : z_11[108]? = some (.ref qf108) := (hre_11 108 ).trans (hfk_10_108)
          have hfk_11_109 : z_11[109]? = some (.ref qf109) := (hre_11 109 ).trans (hfk_10_109)
          have hfk_11_110 : z_11[110]? = some (.ref qf110) := (hre_11 110 ).trans (hfk_10_110)
          have hfk_11_121 : z_11[121]? = some (.int u6_1) := (hre_11 121 ).trans (hfk_10_121)
          have hfk_11_138 : z_11[138]? = some (.int x138_15) := (hre_11 138 ).trans (hfk_10_138)
          have hfk_11_139 : z_11[139]? = some (.int x139_15) := (hre_11 139 ).trans (hfk_10_139)
          have hfk_11_141 : z_11[141]? = some (.int x141_15) := (hre_11 141 ).trans (hfk_10_141)
          have hfk_11_142 : z_11[142]? = some (.int x142_15) := (hre_11 142 ).trans (hfk_10_142)
          have hfk_11_144 : z_11[144]? = some (.ref qf144) := (hre_11 144 ).trans (hfk_10_144)
          have hfk_11_145 : z_11[145]? = some (.ref qf145) := (hre_11 145 ).trans (hfk_10_145)
          have hfk_11_146 : z_11[146]? = some (.ref qf146) := (hre_11 146 ).trans (hfk_10_146)
          have hfk_11_147 : z_11[147]? = some (.ref qf147) := (hre_11 147 ).trans (hfk_10_147)
          have hfk_11_149 : z_11[149]? = some (.int x149_15) := (hre_11 149 ).trans (hfk_10_149)
          have hfk_11_150 : z_11[150]? = some (.ref qf150) := (hre_11 150 ).trans (hfk_10_150)
          have hfk_11_151 : z_11[151]? = some (.ref qf151) := (hre_11 151 ).trans (hfk_10_151)
          have hfk_11_152 : z_11[152]? = some (.ref qf152) := (hre_11 152 ).trans (hfk_10_152)
          have hfk_11_153 : z_11[153]? = some (.ref qf153) := (hre_11 153 ).trans (hfk_10_153)
          have hfk_11_154 : z_11[154]? = some (.ref qf154) := (hre_11 154 ).trans (hfk_10_154)
          have hrq_11 : ∀ j : Nat, j ≠ 121 → j ≠ 138 → j ≠ 139 → j ≠ 141 → j ≠ 142 → j ≠ 149 → z_11[j]? = zs[j]? := fun j g121 g138 g139 g141 g142 g149 => (hre_11 j ).trans (hrq_10 j g121 g138 g139 g141 g142 g149)
          have hr0 := Option.some.inj hsp
          clear hsp
          obtain ⟨hq0, hr1⟩ := Prod.mk.inj hr0
          clear hr0
          obtain ⟨hq1, hr2⟩ := Prod.mk.inj hr1
          clear hr1
          obtain ⟨hq2, hr3⟩ := Prod.mk.inj hr2
          clear hr2
          obtain ⟨hq3, hr4⟩ := Prod.mk.inj hr3
          clear hr3
          obtain ⟨hq4, hr5⟩ := Prod.mk.inj hr4
          clear hr4
          obtain ⟨hq5, hr6⟩ := Prod.mk.inj hr5
          clear hr5
          obtain ⟨hq6, hr7⟩ := Prod.mk.inj hr6
          clear hr6
          obtain ⟨hq7, hr8⟩ := Prod.mk.inj hr7
          clear hr7
          obtain ⟨hq8, hr9⟩ := Prod.mk.inj hr8
          clear hr8
          obtain ⟨hq9, hr10⟩ := Prod.mk.inj hr9
          clear hr9
          obtain ⟨hq10, hr11⟩ := Prod.mk.inj hr10
          clear hr10
          obtain ⟨hq11, hr12⟩ := Prod.mk.inj hr11
          clear hr11
          subst hq0
          subst hq1
          subst hq2
          subst hq3
          subst hq4
          subst hq5
          subst hq6
          subst hq7
          subst hq8
          subst hq9
          subst hq10
          subst hq11
          subst hr12
          have hP9 := hP.sub (ws' := [(h0, .inr (13, z_11)), (qf153, .inl (cf153, 60, .inl g910_0)), (qf154, .inl (cf154, 3600, .inl g910_1)), (qf150, .inl (cf150, 60, .inl f150)), (qf102, .inl (cf102, 2048, .inl f102)), (qf100, .inl (cf100, 48000, .inl f100)), (qf104, .inl (cf104, 8, .inl f104)), (qf105, .inl (cf105, 8, .inl f105)), (qf106, .inl (cf106, 8, .inl f106)), (qf108, .inl (cf108, 8, .inl f108)), (qf107, .inl (cf107, 96, .inl f107)), (qf109, .inl (cf109, 96, .inl f109)), (qf145, .inl (cf145, 2001, .inl g145_15)), (qf147, .inl (cf147, 20000, .inl g147_15)), (qf152, .inl (cf152, 60, .inl g911_0)), (qf146, .inl (cf146, 2001, .inl g146_15)), (qf144, .inl (cf144, 2001, .inl g144_15)), (qf151, .inl (cf151, 60, .inl f151)), (qf110, .inl (cf110, 96, .inl f110))]) [17, 15, 16, 6, 12, 13, 14, 11, 10, 7, 8, 9, 0, 1, 18, 2, 3, 4, 5] rfl
          have hD9 := hD.sub (ws' := [(h0, .inr (13, z_11)), (qf153, .inl (cf153, 60, .inl g910_0)), (qf154, .inl (cf154, 3600, .inl g910_1)), (qf150, .inl (cf150, 60, .inl f150)), (qf102, .inl (cf102, 2048, .inl f102)), (qf100, .inl (cf100, 48000, .inl f100)), (qf104, .inl (cf104, 8, .inl f104)), (qf105, .inl (cf105, 8, .inl f105)), (qf106, .inl (cf106, 8, .inl f106)), (qf108, .inl (cf108, 8, .inl f108)), (qf107, .inl (cf107, 96, .inl f107)), (qf109, .inl (cf109, 96, .inl f109)), (qf145, .inl (cf145, 2001, .inl g145_15)), (qf147, .inl (cf147, 20000, .inl g147_15)), (qf152, .inl (cf152, 60, .inl g911_0)), (qf146, .inl (cf146, 2001, .inl g146_15)), (qf144, .inl (cf144, 2001, .inl g144_15)), (qf151, .inl (cf151, 60, .inl f151)), (qf110, .inl (cf110, 96, .inl f110))]) [17, 15, 16, 6, 12, 13, 14, 11, 10, 7, 8, 9, 0, 1, 18, 2, 3, 4, 5] (by decide) rfl
          have hK9 := hK.sub (tys' := [(cf153, .int), (cf154, .int), (cf150, .int), (cf102, .int), (cf100, .int), (cf104, .int), (cf105, .int), (cf106, .int), (cf108, .int), (cf107, .int), (cf109, .int), (cf145, .int), (cf147, .int), (cf152, .int), (cf146, .int), (cf144, .int), (cf151, .int), (cf110, .int)]) [15, 16, 6, 12, 13, 14, 11, 10, 7, 8, 9, 0, 1, 17, 2, 3, 4, 5] rfl
          exact W.vret hx hb hr (fun t ht hW => ⟨⟨(z_11), rfl, ⟨trivial, hln_11, hrq_11, hfk_11_121, hfk_11_138, hfk_11_139, hfk_11_141, hfk_11_142, hfk_11_149⟩, by rw [ht]; exact hP9, va_K.moved hW.alike hK9, hD9⟩, hS.F ht⟩) hS.2.2 dX13_fieldOf_152
      · rw [if_pos c_5] at hsp
        refine lv_aload_n hx hb dX13_fieldOf_41 rfl (lv_at hl 2 rfl) ?_
        refine lv_aload_n hx hb dX13_fieldOf_42 rfl (lv_at hl 2 rfl) ?_
        refine va_get (D := (dC, dI)) (ci := 13) (v := .ref qf146) (C := RX13) (T := TX13) (N := 155) hx hb hts uV_h9_X13 hown hK hP 16 rfl rfl 146 (by decide) (hts (.fieldLink RX13 285 "ClassMillModel" "count" "[I") mw_h9_373) (fun _ h9 => h9) hfk_2_146 dX13_fieldOf_43 ?_
        refine lv_iload hx hb dX13_fieldOf_46 (lv_at hl 0 rfl) ?_
        obtain ⟨hi_17, hsp⟩ := ox_in hsp
        refine va_iald hx hb hK hP 12 12 rfl rfl (i := u2_0) hi_17 dX13_fieldOf_48 ?_
        obtain ⟨⟨g912_0, g912_1⟩, hu_12, hsp⟩ := ox_bind hsp
        try dsimp only at hsp
        have hPc := hP.sub (ws' := [(h0, .inr (13, z_2)), (qf153, .inl (cf153, 60, .inl g902_1)), (qf154, .inl (cf154, 3600, .inl g154_15))]) [16, 17, 18] rfl
        have hDc := hD.sub (ws' := [(h0, .inr (13, z_2)), (qf153, .inl (cf153, 60, .inl g902_1)), (qf154, .inl (cf154, 3600, .inl g154_15))]) [16, 17, 18] (by decide) rfl
        have hKc := hK.sub (tys' := [(cf153, .int), (cf154, .int)]) [16, 17] rfl
        have hFc := va_free (wc := [(h0, .inr (13, z_2)), (qf153, .inl (cf153, 60, .inl g902_1)), (qf154, .inl (cf154, 3600, .inl g154_15))]) hD hS hA [16, 17, 18] rfl
        refine va_callv (va_runV (As := [.int (g146_15 (u2_0 : Int32).toNatClampNeg)]) (rest := []) ⟨hx, hb, hml, hown, hts⟩ (tm_give l dC dI H.size h0 z_2 ((g146_15 (u2_0 : Int32).toNatClampNeg)) x149_15 qf153 qf154 cf153 g902_1 cf154 g154_15 nf g912_0 g912_1 hln_2 hfk_2_149 hfk_2_153 hfk_2_154 hu_12) (cwV 1 hts gv_h9_116 rfl rfl rfl (by decide +kernel) ⟨Nat.le_of_ble_eq_true rfl, Nat.le_of_ble_eq_true rfl⟩) ⟨fun a U g mk q => by obtain ⟨q0, q1, qP, qK, qD⟩ := q; exact ⟨q0, q1, qP, va_K.moved (u := U) (U := U.calling g mk a) (Vm.Alike.refl U.vm) qK, qD⟩, va_recv hKc hPc (ci := 13) (q0 := 0) rfl rfl, fun U hU hW => ⟨rfl, by rw [hU], by rw [hU]; exact hPc, va_K.moved hW.alike hKc, hDc.weaken (fun _ _ _ _ => trivial)⟩⟩ rfl rfl hl.1 rfl (lv_room (Nat.le_of_ble_eq_true rfl)) dX13_fieldOf_49 ⟨Nat.le_of_ble_eq_true rfl, Nat.le_of_ble_eq_true rfl⟩) hS (fun q _ h => hFc q h) hFc ?_
        clear hS
        intro u t H1 locs ht hvm hw hB hz1 hk1 hS
        obtain ⟨z_12, rfl⟩ : ∃ z, z = u := ⟨_, rfl⟩
        obtain ⟨hP1, hK1, hD1⟩ := hB
        rw [ht] at hP1
        have hK1 := va_K.moved hvm.symm hK1
        try dsimp only at hw
        have hPD := va_join (wr := [(qf150, .inl (cf150, 60, .inl f150)), (qf102, .inl (cf102, 2048, .inl f102)), (qf100, .inl (cf100, 48000, .inl f100)), (qf104, .inl (cf104, 8, .inl f104)), (qf105, .inl (cf105, 8, .inl f105)), (qf106, .inl (cf106, 8, .inl f106)), (qf108, .inl (cf108, 8, .inl f108)), (qf107, .inl (cf107, 96, .inl f107)), (qf109, .inl (cf109, 96, .inl f109)), (qf145, .inl (cf145, 2001, .inl g145_15)), (qf147, .inl (cf147, 20000, .inl g147_15)), (qf152, .inl (cf152, 60, .inl g152_15)), (qf146, .inl (cf146, 2001, .inl g146_15)), (qf144, .inl (cf144, 2001, .inl g144_15)), (qf151, .inl (cf151, 60, .inl f151)), (qf110, .inl (cf110, 96, .inl f110))]) (w1 := [(h0, .inr (13, z_12)), (qf153, .inl (cf153, 60, .inl g912_0)), (qf154, .inl (cf154, 3600, .inl g912_1))]) hP hD [16, 17, 18] [0, 1, 2, 3, 4, 5, 6, 7, 8, 9, 10, 11, 12, 13, 14, 15] rfl rfl (by decide) (by decide) hk1 hFc hP1 hD1
        clear hP hD
        obtain ⟨hP, hD⟩ := hPD
        replace hK := (hK.sub (tys' := [(cf150, .int), (cf102, .int), (cf100, .int), (cf104, .int), (cf105, .int), (cf106, .int), (cf108, .int), (cf107, .int), (cf109, .int), (cf145, .int), (cf147, .int), (cf152, .int), (cf146, .int), (cf144, .int), (cf151, .int), (cf110, .int)]) [0, 1, 2, 3, 4, 5, 6, 7, 8, 9, 10, 11, 12, 13, 14, 15] rfl).app hK1
        clear hPc hDc hKc hFc hP1 hK1 hD1 hz1 hk1 ht hvm
        generalize H1 = H at hP hS ⊢
        replace hP : va_P (dC, dI) vwCl [(qf150, .inl (cf150, 60, .inl f150)), (qf102, .inl (cf102, 2048, .inl f102)), (qf100, .inl (cf100, 48000, .inl f100)), (qf104, .inl (cf104, 8, .inl f104)), (qf105, .inl (cf105, 8, .inl f105)), (qf106, .inl (cf106, 8, .inl f106)), (qf108, .inl (cf108, 8, .inl f108)), (qf107, .inl (cf107, 96, .inl f107)), (qf109, .inl (cf109, 96, .inl f109)), (qf145, .inl (cf145, 2001, .inl g145_15)), (qf147, .inl (cf147, 20000, .inl g147_15)), (qf152, .inl (cf152, 60, .inl g152_15)), (qf146, .inl (cf146, 2001, .inl g146_15)), (qf144, .inl (cf144, 2001, .inl g144_15)), (qf151, .inl (cf151, 60, .inl f151)), (qf110, .inl (cf110, 96, .inl f110)), (h0, .inr (13, z_12)), (qf153, .inl (cf153, 60, .inl g912_0)), (qf154, .inl (cf154, 3600, .inl g912_1))] H := hP
        replace hD : va_D A [(qf150, .inl (cf150, 60, .inl f150)), (qf102, .inl (cf102, 2048, .inl f102)), (qf100, .inl (cf100, 48000, .inl f100)), (qf104, .inl (cf104, 8, .inl f104)), (qf105, .inl (cf105, 8, .inl f105)), (qf106, .inl (cf106, 8, .inl f106)), (qf108, .inl (cf108, 8, .inl f108)), (qf107, .inl (cf107, 96, .inl f107)), (qf109, .inl (cf109, 96, .inl f109)), (qf145, .inl (cf145, 2001, .inl g145_15)), (qf147, .inl (cf147, 20000, .inl g147_15)), (qf152, .inl (cf152, 60, .inl g152_15)), (qf146, .inl (cf146, 2001, .inl g146_15)), (qf144, .inl (cf144, 2001, .inl g144_15)), (qf151, .inl (cf151, 60, .inl f151)), (qf110, .inl (cf110, 96, .inl f110)), (h0, .inr (13, z_12)), (qf153, .inl (cf153, 60, .inl g912_0)), (qf154, .inl (cf154, 3600, .inl g912_1))] := hD
        replace hK : va_K (dC, dI) vwCl [(cf150, .int), (cf102, .int), (cf100, .int), (cf104, .int), (cf105, .int), (cf106, .int), (cf108, .int), (cf107, .int), (cf109, .int), (cf145, .int), (cf147, .int), (cf152, .int), (cf146, .int), (cf144, .int), (cf151, .int), (cf110, .int), (cf153, .int), (cf154, .int)] s := hK
        obtain ⟨hwa_12, hln_12, hre_12⟩ := hw
        have hfk_12_98 : z_12[98]? = some (.int v98) := (hre_12 98 ).trans (hfk_2_98)
        have hfk_12_100 : z_12[100]? = some (.ref qf100) := (hre_12 100 ).trans (hfk_2_100)
        have hfk_12_102 : z_12[102]? = some (.ref qf102) := (hre_12 102 ).trans (hfk_2_102)
        have hfk_12_104 : z_12[104]? = some (.ref qf104) := (hre_12 104 ).trans (hfk_2_104)
        have hfk_12_105 : z_12[105]? = some (.ref qf105) := (hre_12 105 ).trans (hfk_2_105)
        have hfk_12_106 : z_12[106]? = some (.ref qf106) := (hre_12 106 ).trans (hfk_2_106)
        have hfk_12_107 : z_12[107]? = some (.ref qf107) := (hre_12 107 ).trans (hfk_2_107)
        have hfk_12_108 : z_12[108]? = some (.ref qf108) := (hre_12 108 ).trans (hfk_2_108)
        have hfk_12_109 : z_12[109]? = some (.ref qf109) := (hre_12 109 ).trans (hfk_2_109)
        have hfk_12_110 : z_12[110]? = some (.ref qf110) := (hre_12 110 ).trans (hfk_2_110)
        have hfk_12_121 : z_12[121]? = some (.int x121_15) := (hre_12 121 ).trans (hfk_2_121)
        have hfk_12_138 : z_12[138]? = some (.int x138_15) := (hre_12 138 ).trans (hfk_2_138)
        have hfk_12_139 : z_12[139]? = some (.int x139_15) := (hre_12 139 ).trans (hfk_2_139)
        have hfk_12_141 : z_12[141]? = some (.int x141_15) := (hre_12 141 ).trans (hfk_2_141)
        have hfk_12_142 : z_12[142]? = some (.int x142_15) := (hre_12 142 ).trans (hfk_2_142)
        have hfk_12_144 : z_12[144]? = some (.ref qf144) := (hre_12 144 ).trans (hfk_2_144)
        have hfk_12_145 : z_12[145]? = some (.ref qf145) := (hre_12 145 ).trans (hfk_2_145)
        have hfk_12_146 : z_12[146]? = some (.ref qf146) := (hre_12 146 ).trans (hfk_2_146)
        have hfk_12_147 : z_12[147]? = some (.ref qf147) := (hre_12 147 ).trans (hfk_2_147)
        have hfk_12_149 : z_12[149]? = some (.int x149_15) := (hre_12 149 ).trans (hfk_2_149)
        have hfk_12_150 : z_12[150]? = some (.ref qf150) := (hre_12 150 ).trans (hfk_2_150)
        have hfk_12_151 : z_12[151]? = some (.ref qf151) := (hre_12 151 ).trans (hfk_2_151)
        have hfk_12_152 : z_12[152]? = some (.ref qf152) := (hre_12 152 ).trans (hfk_2_152)
        have hfk_12_153 : z_12[153]? = some (.ref qf153) := (hre_12 153 ).trans (hfk_2_153)
        have hfk_12_154 : z_12[154]? = some (.ref qf154) := (hre_12 154 ).trans (hfk_2_154)
        have hrq_12 : ∀ j : Nat, j ≠ 121 → j ≠ 138 → j ≠ 139 → j ≠ 141 → j ≠ 142 → j ≠ 149 → z_12[j]? = zs[j]? := fun j g121 g138 g139 g141 g142 g149 => (hre_12 j ).trans (hrq_2 j g121 g138 g139 g141 g142 g149)
        refine lv_goto (tgt := 147) hx hb dX13_fieldOf_52 (by decide) ?_
        refine lv_aload_n hx hb dX13_fieldOf_147 rfl (lv_at hl 2 rfl) ?_
        refine lv_iload_n hx hb dX13_fieldOf_148 rfl (lv_at hl 5 rfl) ?_
        obtain ⟨g913_0, hu_13, hsp⟩ := ox_bind hsp
        try dsimp only at hsp
        have hPc := hP.sub (ws' := [(h0, .inr (13, z_12)), (qf152, .inl (cf152, 60, .inl g152_15))]) [16, 11] rfl
        have hDc := hD.sub (ws' := [(h0, .inr (13, z_12)), (qf152, .inl (cf152, 60, .inl g152_15))]) [16, 11] (by decide) rfl
        have hKc := hK.sub (tys' := [(cf152, .int)]) [11] rfl
        have hFc := va_free (wc := [(h0, .inr (13, z_12)), (qf152, .inl (cf152, 60, .inl g152_15))]) hD hS hA [16, 11] rfl
        refine va_callv (va_runV (As := [.int l3_15]) (rest := []) ⟨hx, hb, hml, hown, hts⟩ (tm_on l dC dI H.size h0 z_12 l3_15 x149_15 qf152 cf152 g152_15 nf g913_0 hln_12 hfk_12_149 hfk_12_152 hu_13) (cwV 1 hts gv_h9_119 rfl rfl rfl (by decide +kernel) ⟨Nat.le_of_ble_eq_true rfl, Nat.le_of_ble_eq_true rfl⟩) ⟨fun a U g mk q => by obtain ⟨q0, q1, qP, qK, qD⟩ := q; exact ⟨q0, q1, qP, va_K.moved (u := U) (U := U.calling g mk a) (Vm.Alike.refl U.vm) qK, qD⟩, va_recv hKc hPc (ci := 13) (q0 := 0) rfl rfl, fun U hU hW => ⟨rfl, by rw [hU], by rw [hU]; exact hPc, va_K.moved hW.alike hKc, hDc.weaken (fun _ _ _ _ => trivial)⟩⟩ rfl rfl hl.1 rfl (lv_room (Nat.le_of_ble_eq_true rfl)) dX13_fieldOf_149 ⟨Nat.le_of_ble_eq_true rfl, Nat.le_of_ble_eq_true rfl⟩) hS (fun q _ h => hFc q h) hFc ?_
        clear hS
        intro u t H1 locs ht hvm hw hB hz1 hk1 hS
        obtain ⟨z_13, rfl⟩ : ∃ z, z = u := ⟨_, rfl⟩
        obtain ⟨hP1, hK1, hD1⟩ := hB
        rw [ht] at hP1
        have hK1 := va_K.moved hvm.symm hK1
        try dsimp only at hw
        have hPD := va_join (wr := [(qf150, .inl (cf150, 60, .inl f150)), (qf102, .inl (cf102, 2048, .inl f102)), (qf100, .inl (cf100, 48000, .inl f100)), (qf104, .inl (cf104, 8, .inl f104)), (qf105, .inl (cf105, 8, .inl f105)), (qf106, .inl (cf106, 8, .inl f106)), (qf108, .inl (cf108, 8, .inl f108)), (qf107, .inl (cf107, 96, .inl f107)), (qf109, .inl (cf109, 96, .inl f109)), (qf145, .inl (cf145, 2001, .inl g145_15)), (qf147, .inl (cf147, 20000, .inl g147_15)), (qf146, .inl (cf146, 2001, .inl g146_15)), (qf144, .inl (cf144, 2001, .inl g144_15)), (qf151, .inl (cf151, 60, .inl f151)), (qf110, .inl (cf110, 96, .inl f110)), (qf153, .inl (cf153, 60, .inl g912_0)), (qf154, .inl (cf154, 3600, .inl g912_1))]) (w1 := [(h0, .inr (13, z_13)), (qf152, .inl (cf152, 60, .inl g913_0))]) hP hD [16, 11] [0, 1, 2, 3, 4, 5, 6, 7, 8, 9, 10, 12, 13, 14, 15, 17, 18] rfl rfl (by decide) (by decide) hk1 hFc hP1 hD1
        clear hP hD
        obtain ⟨hP, hD⟩ := hPD
        replace hK := (hK.sub (tys' := [(cf150, .int), (cf102, .int), (cf100, .int), (cf104, .int), (cf105, .int), (cf106, .int), (cf108, .int), (cf107, .int), (cf109, .int), (cf145, .int), (cf147, .int), (cf146, .int), (cf144, .int), (cf151, .int), (cf110, .int), (cf153, .int), (cf154, .int)]) [0, 1, 2, 3, 4, 5, 6, 7, 8, 9, 10, 12, 13, 14, 15, 16, 17] rfl).app hK1
        clear hPc hDc hKc hFc hP1 hK1 hD1 hz1 hk1 ht hvm
        generalize H1 = H at hP hS ⊢
        replace hP : va_P (dC, dI) vwCl [(qf150, .inl (cf150, 60, .inl f150)), (qf102, .inl (cf102, 2048, .inl f102)), (qf100, .inl (cf100, 48000, .inl f100)), (qf104, .inl (cf104, 8, .inl f104)), (qf105, .inl (cf105, 8, .inl f105)), (qf106, .inl (cf106, 8, .inl f106)), (qf108, .inl (cf108, 8, .inl f108)), (qf107, .inl (cf107, 96, .inl f107)), (qf109, .inl (cf109, 96, .inl f109)), (qf145, .inl (cf145, 2001, .inl g145_15)), (qf147, .inl (cf147, 20000, .inl g147_15)), (qf146, .inl (cf146, 2001, .inl g146_15)), (qf144, .inl (cf144, 2001, .inl g144_15)), (qf151, .inl (cf151, 60, .inl f151)), (qf110, .inl (cf110, 96, .inl f110)), (qf153, .inl (cf153, 60, .inl g912_0)), (qf154, .inl (cf154, 3600, .inl g912_1)), (h0, .inr (13, z_13)), (qf152, .inl (cf152, 60, .inl g913_0))] H := hP
        replace hD : va_D A [(qf150, .inl (cf150, 60, .inl f150)), (qf102, .inl (cf102, 2048, .inl f102)), (qf100, .inl (cf100, 48000, .inl f100)), (qf104, .inl (cf104, 8, .inl f104)), (qf105, .inl (cf105, 8, .inl f105)), (qf106, .inl (cf106, 8, .inl f106)), (qf108, .inl (cf108, 8, .inl f108)), (qf107, .inl (cf107, 96, .inl f107)), (qf109, .inl (cf109, 96, .inl f109)), (qf145, .inl (cf145, 2001, .inl g145_15)), (qf147, .inl (cf147, 20000, .inl g147_15)), (qf146, .inl (cf146, 2001, .inl g146_15)), (qf144, .inl (cf144, 2001, .inl g144_15)), (qf151, .inl (cf151, 60, .inl f151)), (qf110, .inl (cf110, 96, .inl f110)), (qf153, .inl (cf153, 60, .inl g912_0)), (qf154, .inl (cf154, 3600, .inl g912_1)), (h0, .inr (13, z_13)), (qf152, .inl (cf152, 60, .inl g913_0))] := hD
        replace hK : va_K (dC, dI) vwCl [(cf150, .int), (cf102, .int), (cf100, .int), (cf104, .int), (cf105, .int), (cf106, .int), (cf108, .int), (cf107, .int), (cf109, .int), (cf145, .int), (cf147, .int), (cf146, .int), (cf144, .int), (cf151, .int), (cf110, .int), (cf153, .int), (cf154, .int), (cf152, .int)] s := hK
        obtain ⟨hwa_13, hln_13, hre_13⟩ := hw
        have hfk_13_98 : z_13[98]? = some (.int v98) := (hre_13 98 ).trans (hfk_12_98)
        have hfk_13_100 : z_13[100]? = some (.ref qf100) := (hre_13 100 ).trans (hfk_12_100)
        have hfk_13_102 : z_13[102]? = some (.ref qf102) := (hre_13 102 ).trans (hfk_12_102)
        have hfk_13_104 : z_13[104]? = some (.ref qf104) := (hre_13 104 ).trans (hfk_12_104)
        have hfk_13_105 : z_13[105]? = some (.ref qf105) := (hre_13 105 ).trans (hfk_12_105)
        have hfk_13_106 : z_13[106]? = some (.ref qf106) := (hre_13 106 ).trans (hfk_12_106)
        have hfk_13_107 : z_13[107]? = some (.ref qf107) := (hre_13 107 ).trans (hfk_12_107)
        have hfk_13_108 : z_13[108]? = some (.ref qf108) := (hre_13 108 ).trans (hfk_12_108)
        have hfk_13_109 : z_13[109]? = some (.ref qf109) := (hre_13 109 ).trans (hfk_12_109)
        have hfk_13_110 : z_13[110]? = some (.ref qf110) := (hre_13 110 ).trans (hfk_12_110)
        have hfk_13_121 : z_13[121]? = some (.int x121_15) := (hre_13 121 ).trans (hfk_12_121)
        have hfk_13_138 : z_13[138]? = some (.int x138_15) := (hre_13 138 ).trans (hfk_12_138)
        have hfk_13_139 : z_13[139]? = some (.int x139_15) := (hre_13 139 ).trans (hfk_12_139)
        have hfk_13_141 : z_13[141]? = some (.int x141_15) := (hre_13 141 ).trans (hfk_12_141)
        have hfk_13_142 : z_13[142]? = some (.int x142_15) := (hre_13 142 ).trans (hfk_12_142)
        have hfk_13_144 : z_13[144]? = some (.ref qf144) := (hre_13 144 ).trans (hfk_12_144)
        have hfk_13_145 : z_13[145]? = some (.ref qf145) := (hre_13 145 ).trans (hfk_12_145)
        have hfk_13_146 : z_13[146]? = some (.ref qf146) := (hre_13 146 ).trans (hfk_12_146)
        have hfk_13_147 : z_13[147]? = some (.ref qf147) := (hre_13 147 ).trans (hfk_12_147)
        have hfk_13_149 : z_13[149]? = some (.int x149_15) := (hre_13 149 ).trans (hfk_12_149)
        have hfk_13_150 : z_13[150]? = some (.ref qf150) := (hre_13 150 ).trans (hfk_12_150)
        have hfk_13_151 : z_13[151]? = some (.ref qf151) := (hre_13 151 ).trans (hfk_12_151)
        have hfk_13_152 : z_13[152]? = some (.ref qf152) := (hre_13 152 ).trans (hfk_12_152)
        have hfk_13_153 : z_13[153]? = some (.ref qf153) := (hre_13 153 ).trans (hfk_12_153)
        have hfk_13_154 : z_13[154]? = some (.ref qf154) := (hre_13 154 ).trans (hfk_12_154)
        have hrq_13 : ∀ j : Nat, j ≠ 121 → j ≠ 138 → j ≠ 139 → j ≠ 141 → j ≠ 142 → j ≠ 149 → z_13[j]? = zs[j]? := fun j g121 g138 g139 g141 g142 g149 => (hre_13 j ).trans (hrq_12 j g121 g138 g139 g141 g142 g149)
        have hr0 := Option.some.inj hsp
        clear hsp
        obtain ⟨hq0, hr1⟩ := Prod.mk.inj hr0
        clear hr0
        obtain ⟨hq1, hr2⟩ := Prod.mk.inj hr1
        clear hr1
        obtain ⟨hq2, hr3⟩ := Prod.mk.inj hr2
        clear hr2
        obtain ⟨hq3, hr4⟩ := Prod.mk.inj hr3
        clear hr3
        obtain ⟨hq4, hr5⟩ := Prod.mk.inj hr4
        clear hr4
        obtain ⟨hq5, hr6⟩ := Prod.mk.inj hr5
        clear hr5
        obtain ⟨hq6, hr7⟩ := Prod.mk.inj hr6
        clear hr6
        obtain ⟨hq7, hr8⟩ := Prod.mk.inj hr7
        clear hr7
        obtain ⟨hq8, hr9⟩ := Prod.mk.inj hr8
        clear hr8
        obtain ⟨hq9, hr10⟩ := Prod.mk.inj hr9
        clear hr9
        obtain ⟨hq10, hr11⟩ := Prod.mk.inj hr10
        clear hr10
        obtain ⟨hq11, hr12⟩ := Prod.mk.inj hr11
        clear hr11
        subst hq0
        subst hq1
        subst hq2
        subst hq3
        subst hq4
        subst hq5
        subst hq6
        subst hq7
        subst hq8
        subst hq9
        subst hq10
        subst hq11
        subst hr12
        have hP9 := hP.sub (ws' := [(h0, .inr (13, z_13)), (qf153, .inl (cf153, 60, .inl g912_0)), (qf154, .inl (cf154, 3600, .inl g912_1)), (qf150, .inl (cf150, 60, .inl f150)), (qf102, .inl (cf102, 2048, .inl f102)), (qf100, .inl (cf100, 48000, .inl f100)), (qf104, .inl (cf104, 8, .inl f104)), (qf105, .inl (cf105, 8, .inl f105)), (qf106, .inl (cf106, 8, .inl f106)), (qf108, .inl (cf108, 8, .inl f108)), (qf107, .inl (cf107, 96, .inl f107)), (qf109, .inl (cf109, 96, .inl f109)), (qf145, .inl (cf145, 2001, .inl g145_15)), (qf147, .inl (cf147, 20000, .inl g147_15)), (qf152, .inl (cf152, 60, .inl g913_0)), (qf146, .inl (cf146, 2001, .inl g146_15)), (qf144, .inl (cf144, 2001, .inl g144_15)), (qf151, .inl (cf151, 60, .inl f151)), (qf110, .inl (cf110, 96, .inl f110))]) [17, 15, 16, 0, 1, 2, 3, 4, 5, 6, 7, 8, 9, 10, 18, 11, 12, 13, 14] rfl
        have hD9 := hD.sub (ws' := [(h0, .inr (13, z_13)), (qf153, .inl (cf153, 60, .inl g912_0)), (qf154, .inl (cf154, 3600, .inl g912_1)), (qf150, .inl (cf150, 60, .inl f150)), (qf102, .inl (cf102, 2048, .inl f102)), (qf100, .inl (cf100, 48000, .inl f100)), (qf104, .inl (cf104, 8, .inl f104)), (qf105, .inl (cf105, 8, .inl f105)), (qf106, .inl (cf106, 8, .inl f106)), (qf108, .inl (cf108, 8, .inl f108)), (qf107, .inl (cf107, 96, .inl f107)), (qf109, .inl (cf109, 96, .inl f109)), (qf145, .inl (cf145, 2001, .inl g145_15)), (qf147, .inl (cf147, 20000, .inl g147_15)), (qf152, .inl (cf152, 60, .inl g913_0)), (qf146, .inl (cf146, 2001, .inl g146_15)), (qf144, .inl (cf144, 2001, .inl g144_15)), (qf151, .inl (cf151, 60, .inl f151)), (qf110, .inl (cf110, 96, .inl f110))]) [17, 15, 16, 0, 1, 2, 3, 4, 5, 6, 7, 8, 9, 10, 18, 11, 12, 13, 14] (by decide) rfl
        have hK9 := hK.sub (tys' := [(cf153, .int), (cf154, .int), (cf150, .int), (cf102, .int), (cf100, .int), (cf104, .int), (cf105, .int), (cf106, .int), (cf108, .int), (cf107, .int), (cf109, .int), (cf145, .int), (cf147, .int), (cf152, .int), (cf146, .int), (cf144, .int), (cf151, .int), (cf110, .int)]) [15, 16, 0, 1, 2, 3, 4, 5, 6, 7, 8, 9, 10, 17, 11, 12, 13, 14] rfl
        exact W.vret hx hb hr (fun t ht hW => ⟨⟨(z_13), rfl, ⟨trivial, hln_13, hrq_13, hfk_13_121, hfk_13_138, hfk_13_139, hfk_13_141, hfk_13_142, hfk_13_149⟩, by rw [ht]; exact hP9, va_K.moved hW.alike hK9, hD9⟩, hS.F ht⟩) hS.2.2 dX13_fieldOf_152
    · rw [if_pos c_4] at hsp
      refine lv_aload_n hx hb dX13_fieldOf_28 rfl (lv_at hl 2 rfl) ?_
      refine lv_iconst (v := 2) hx hb dX13_fieldOf_29 (by decide) ?_
      obtain ⟨⟨g914_0, g914_1, g914_2, g914_3, g914_4, g914_5, g914_6, u14_7, u14_8, u14_9, u14_10, u14_11⟩, hu_14, hsp⟩ := ox_bind hsp
      try dsimp only at hsp
      have hPc := hP.sub (ws' := [(h0, .inr (13, z_2)), (qf144, .inl (cf144, 2001, .inl g144_15)), (qf145, .inl (cf145, 2001, .inl g145_15)), (qf146, .inl (cf146, 2001, .inl g146_15)), (qf147, .inl (cf147, 20000, .inl g147_15)), (qf150, .inl (cf150, 60, .inl f150)), (qf151, .inl (cf151, 60, .inl f151)), (qf110, .inl (cf110, 96, .inl f110)), (qf100, .inl (cf100, 48000, .inl f100)), (qf152, .inl (cf152, 60, .inl g152_15)), (qf102, .inl (cf102, 2048, .inl f102)), (qf104, .inl (cf104, 8, .inl f104)), (qf105, .inl (cf105, 8, .inl f105)), (qf153, .inl (cf153, 60, .inl g902_1)), (qf154, .inl (cf154, 3600, .inl g154_15))]) [16, 13, 9, 12, 10, 0, 14, 15, 2, 11, 1, 3, 4, 17, 18] rfl
      have hDc := hD.sub (ws' := [(h0, .inr (13, z_2)), (qf144, .inl (cf144, 2001, .inl g144_15)), (qf145, .inl (cf145, 2001, .inl g145_15)), (qf146, .inl (cf146, 2001, .inl g146_15)), (qf147, .inl (cf147, 20000, .inl g147_15)), (qf150, .inl (cf150, 60, .inl f150)), (qf151, .inl (cf151, 60, .inl f151)), (qf110, .inl (cf110, 96, .inl f110)), (qf100, .inl (cf100, 48000, .inl f100)), (qf152, .inl (cf152, 60, .inl g152_15)), (qf102, .inl (cf102, 2048, .inl f102)), (qf104, .inl (cf104, 8, .inl f104)), (qf105, .inl (cf105, 8, .inl f105)), (qf153, .inl (cf153, 60, .inl g902_1)), (qf154, .inl (cf154, 3600, .inl g154_15))]) [16, 13, 9, 12, 10, 0, 14, 15, 2, 11, 1, 3, 4, 17, 18] (by decide) rfl
      have hKc := hK.sub (tys' := [(cf144, .int), (cf145, .int), (cf146, .int), (cf147, .int), (cf150, .int), (cf151, .int), (cf110, .int), (cf100, .int), (cf152, .int), (cf102, .int), (cf104, .int), (cf105, .int), (cf153, .int), (cf154, .int)]) [13, 9, 12, 10, 0, 14, 15, 2, 11, 1, 3, 4, 16, 17] rfl
      have hFc := va_free (wc := [(h0, .inr (13, z_2)), (qf144, .inl (cf144, 2001, .inl g144_15)), (qf145, .inl (cf145, 2001, .inl g145_15)), (qf146, .inl (cf146, 2001, .inl g146_15)), (qf147, .inl (cf147, 20000, .inl g147_15)), (qf150, .inl (cf150, 60, .inl f150)), (qf151, .inl (cf151, 60, .inl f151)), (qf110, .inl (cf110, 96, .inl f110)), (qf100, .inl (cf100, 48000, .inl f100)), (qf152, .inl (cf152, 60, .inl g152_15)), (qf102, .inl (cf102, 2048, .inl f102)), (qf104, .inl (cf104, 8, .inl f104)), (qf105, .inl (cf105, 8, .inl f105)), (qf153, .inl (cf153, 60, .inl g902_1)), (qf154, .inl (cf154, 3600, .inl g154_15))]) hD hS hA [16, 13, 9, 12, 10, 0, 14, 15, 2, 11, 1, 3, 4, 17, 18] rfl
      refine va_callv (va_runV (As := [.int 2]) (rest := []) ⟨hx, hb, hml, hown, hts⟩ (vm_fails l dC dI H.size h0 z_2 2 v98 qf100 qf102 qf104 qf105 qf110 x138_15 x139_15 x141_15 x142_15 qf144 qf145 qf146 qf147 x149_15 qf150 qf151 qf152 qf153 qf154 cf144 g144_15 cf145 g145_15 cf146 g146_15 cf147 g147_15 cf150 f150 cf151 f151 cf110 f110 cf100 f100 cf152 g152_15 cf102 f102 cf104 f104 cf105 f105 cf153 g902_1 cf154 g154_15 nS477 fS477 hS477 qS477 tS477 nf g914_0 g914_1 g914_2 g914_3 g914_4 g914_5 g914_6 u14_7 u14_8 u14_9 u14_10 u14_11 hln_2 hfk_2_98 hfk_2_100 hfk_2_102 hfk_2_104 hfk_2_105 hfk_2_110 hfk_2_138 hfk_2_139 hfk_2_141 hfk_2_142 hfk_2_144 hfk_2_145 hfk_2_146 hfk_2_147 hfk_2_149 hfk_2_150 hfk_2_151 hfk_2_152 hfk_2_153 hfk_2_154 hu_14) (cwV 1 hts gv_h9_125 rfl rfl rfl (by decide +kernel) ⟨Nat.le_of_ble_eq_true rfl, Nat.le_of_ble_eq_true rfl⟩) ⟨fun a U g mk q => by obtain ⟨q0, q1, qP, qK, qD, qhZWS477, qhZRS477⟩ := q; exact ⟨q0, q1, qP, va_K.moved (u := U) (U := U.calling g mk a) (Vm.Alike.refl U.vm) qK, qD, pz_W.moved (u := U) (U := U.calling g mk a) (Vm.Alike.refl U.vm) qhZWS477, vk_R.same rfl qhZRS477⟩, va_recv hKc hPc (ci := 13) (q0 := 0) rfl rfl, fun U hU hW => ⟨rfl, by rw [hU], by rw [hU]; exact hPc, va_K.moved hW.alike hKc, hDc.weaken (fun _ _ _ _ => trivial), by rw [hU]; exact ((pz_W.moved hW.alike hZWS477).kept hS.2.1).narrow hFc, vk_R.warm hW hZRS477⟩⟩ rfl rfl hl.1 rfl (lv_room (Nat.le_of_ble_eq_true rfl)) dX13_fieldOf_30 ⟨Nat.le_of_ble_eq_true rfl, Nat.le_of_ble_eq_true rfl⟩) hS (fun q _ h => hFc q h) hFc ?_
      clear hS
      intro u t H1 locs ht hvm hw hB hz1 hk1 hS
      obtain ⟨z_14, rfl⟩ : ∃ z, z = u := ⟨_, rfl⟩
      obtain ⟨hP1, hK1, hD1⟩ := hB
      rw [ht] at hP1
      have hK1 := va_K.moved hvm.symm hK1
      try dsimp only at hw
      have hPD := va_join (wr := [(qf106, .inl (cf106, 8, .inl f106)), (qf108, .inl (cf108, 8, .inl f108)), (qf107, .inl (cf107, 96, .inl f107)), (qf109, .inl (cf109, 96, .inl f109))]) (w1 := [(h0, .inr (13, z_14)), (qf144, .inl (cf144, 2001, .inl g914_0)), (qf145, .inl (cf145, 2001, .inl g914_1)), (qf146, .inl (cf146, 2001, .inl g914_2)), (qf147, .inl (cf147, 20000, .inl g914_3)), (qf150, .inl (cf150, 60, .inl f150)), (qf151, .inl (cf151, 60, .inl f151)), (qf110, .inl (cf110, 96, .inl f110)), (qf100, .inl (cf100, 48000, .inl f100)), (qf152, .inl (cf152, 60, .inl g914_4)), (qf102, .inl (cf102, 2048, .inl f102)), (qf104, .inl (cf104, 8, .inl f104)), (qf105, .inl (cf105, 8, .inl f105)), (qf153, .inl (cf153, 60, .inl g914_5)), (qf154, .inl (cf154, 3600, .inl g914_6))]) hP hD [16, 13, 9, 12, 10, 0, 14, 15, 2, 11, 1, 3, 4, 17, 18] [5, 6, 7, 8] rfl rfl (by decide) (by decide) hk1 hFc hP1 hD1
      clear hP hD
      obtain ⟨hP, hD⟩ := hPD
      replace hK := (hK.sub (tys' := [(cf106, .int), (cf108, .int), (cf107, .int), (cf109, .int)]) [5, 6, 7, 8] rfl).app hK1
      clear hPc hDc hKc hFc hP1 hK1 hD1 hz1 hk1 ht hvm
      generalize H1 = H at hP hS ⊢
      replace hP : va_P (dC, dI) vwCl [(qf106, .inl (cf106, 8, .inl f106)), (qf108, .inl (cf108, 8, .inl f108)), (qf107, .inl (cf107, 96, .inl f107)), (qf109, .inl (cf109, 96, .inl f109)), (h0, .inr (13, z_14)), (qf144, .inl (cf144, 2001, .inl g914_0)), (qf145, .inl (cf145, 2001, .inl g914_1)), (qf146, .inl (cf146, 2001, .inl g914_2)), (qf147, .inl (cf147, 20000, .inl g914_3)), (qf150, .inl (cf150, 60, .inl f150)), (qf151, .inl (cf151, 60, .inl f151)), (qf110, .inl (cf110, 96, .inl f110)), (qf100, .inl (cf100, 48000, .inl f100)), (qf152, .inl (cf152, 60, .inl g914_4)), (qf102, .inl (cf102, 2048, .inl f102)), (qf104, .inl (cf104, 8, .inl f104)), (qf105, .inl (cf105, 8, .inl f105)), (qf153, .inl (cf153, 60, .inl g914_5)), (qf154, .inl (cf154, 3600, .inl g914_6))] H := hP
      replace hD : va_D A [(qf106, .inl (cf106, 8, .inl f106)), (qf108, .inl (cf108, 8, .inl f108)), (qf107, .inl (cf107, 96, .inl f107)), (qf109, .inl (cf109, 96, .inl f109)), (h0, .inr (13, z_14)), (qf144, .inl (cf144, 2001, .inl g914_0)), (qf145, .inl (cf145, 2001, .inl g914_1)), (qf146, .inl (cf146, 2001, .inl g914_2)), (qf147, .inl (cf147, 20000, .inl g914_3)), (qf150, .inl (cf150, 60, .inl f150)), (qf151, .inl (cf151, 60, .inl f151)), (qf110, .inl (cf110, 96, .inl f110)), (qf100, .inl (cf100, 48000, .inl f100)), (qf152, .inl (cf152, 60, .inl g914_4)), (qf102, .inl (cf102, 2048, .inl f102)), (qf104, .inl (cf104, 8, .inl f104)), (qf105, .inl (cf105, 8, .inl f105)), (qf153, .inl (cf153, 60, .inl g914_5)), (qf154, .inl (cf154, 3600, .inl g914_6))] := hD
      replace hK : va_K (dC, dI) vwCl [(cf106, .int), (cf108, .int), (cf107, .int), (cf109, .int), (cf144, .int), (cf145, .int), (cf146, .int), (cf147, .int), (cf150, .int), (cf151, .int), (cf110, .int), (cf100, .int), (cf152, .int), (cf102, .int), (cf104, .int), (cf105, .int), (cf153, .int), (cf154, .int)] s := hK
      obtain ⟨hwa_14, hln_14, hre_14, hch_14_138, hch_14_139, hch_14_141, hch_14_142, hch_14_149⟩ := hw
      have hfk_14_98 : z_14[98]? = some (.int v98) := (hre_14 98 (by decide) (by decide) (by decide) (by decide) (by decide)).trans (hfk_2_98)
      have hfk_14_100 : z_14[100]? = some (.ref qf100) := (hre_14 100 (by decide) (by decide) (by decide) (by decide) (by decide)).trans (hfk_2_100)
      have hfk_14_102 : z_14[102]? = some (.ref qf102) := (hre_14 102 (by decide) (by decide) (by decide) (by decide) (by decide)).trans (hfk_2_102)
      have hfk_14_104 : z_14[104]? = some (.ref qf104) := (hre_14 104 (by decide) (by decide) (by decide) (by decide) (by decide)).trans (hfk_2_104)
      have hfk_14_105 : z_14[105]? = some (.ref qf105) := (hre_14 105 (by decide) (by decide) (by decide) (by decide) (by decide)).trans (hfk_2_105)
      have hfk_14_106 : z_14[106]? = some (.ref qf106) := (hre_14 106 (by decide) (by decide) (by decide) (by decide) (by decide)).trans (hfk_2_106)
      have hfk_14_107 : z_14[107]? = some (.ref qf107) := (hre_14 107 (by decide) (by decide) (by decide) (by decide) (by decide)).trans (hfk_2_107)
      have hfk_14_108 : z_14[108]? = some (.ref qf108) := (hre_14 108 (by decide) (by decide) (by decide) (by decide) (by decide)).trans (hfk_2_108)
      have hfk_14_109 : z_14[109]? = some (.ref qf109) := (hre_14 109 (by decide) (by decide) (by decide) (by decide) (by decide)).trans (hfk_2_109)
      have hfk_14_110 : z_14[110]? = some (.ref qf110) := (hre_14 110 (by decide) (by decide) (by decide) (by decide) (by decide)).trans (hfk_2_110)
      have hfk_14_121 : z_14[121]? = some (.int x121_15) := (hre_14 121 (by decide) (by decide) (by decide) (by decide) (by decide)).trans (hfk_2_121)
      have hfk_14_144 : z_14[144]? = some (.ref qf144) := (hre_14 144 (by decide) (by decide) (by decide) (by decide) (by decide)).trans (hfk_2_144)
      have hfk_14_145 : z_14[145]? = some (.ref qf145) := (hre_14 145 (by decide) (by decide) (by decide) (by decide) (by decide)).trans (hfk_2_145)
      have hfk_14_146 : z_14[146]? = some (.ref qf146) := (hre_14 146 (by decide) (by decide) (by decide) (by decide) (by decide)).trans (hfk_2_146)
      have hfk_14_147 : z_14[147]? = some (.ref qf147) := (hre_14 147 (by decide) (by decide) (by decide) (by decide) (by decide)).trans (hfk_2_147)
      have hfk_14_150 : z_14[150]? = some (.ref qf150) := (hre_14 150 (by decide) (by decide) (by decide) (by decide) (by decide)).trans (hfk_2_150)
      have hfk_14_151 : z_14[151]? = some (.ref qf151) := (hre_14 151 (by decide) (by decide) (by decide) (by decide) (by decide)).trans (hfk_2_151)
      have hfk_14_152 : z_14[152]? = some (.ref qf152) := (hre_14 152 (by decide) (by decide) (by decide) (by decide) (by decide)).trans (hfk_2_152)
      have hfk_14_153 : z_14[153]? = some (.ref qf153) := (hre_14 153 (by decide) (by decide) (by decide) (by decide) (by decide)).trans (hfk_2_153)
      have hfk_14_154 : z_14[154]? = some (.ref qf154) := (hre_14 154 (by decide) (by decide) (by decide) (by decide) (by decide)).trans (hfk_2_154)
      have hrq_14 : ∀ j : Nat, j ≠ 121 → j ≠ 138 → j ≠ 139 → j ≠ 141 → j ≠ 142 → j ≠ 149 → z_14[j]? = zs[j]? := fun j g121 g138 g139 g141 g142 g149 => (hre_14 j g138 g139 g141 g142 g149).trans (hrq_2 j g121 g138 g139 g141 g142 g149)
      have hr0 := Option.some.inj hsp
      clear hsp
      obtain ⟨hq0, hr1⟩ := Prod.mk.inj hr0
      clear hr0
      obtain ⟨hq1, hr2⟩ := Prod.mk.inj hr1
      clear hr1
      obtain ⟨hq2, hr3⟩ := Prod.mk.inj hr2
      clear hr2
      obtain ⟨hq3, hr4⟩ := Prod.mk.inj hr3
      clear hr3
      obtain ⟨hq4, hr5⟩ := Prod.mk.inj hr4
      clear hr4
      obtain ⟨hq5, hr6⟩ := Prod.mk.inj hr5
      clear hr5
      obtain ⟨hq6, hr7⟩ := Prod.mk.inj hr6
      clear hr6
      obtain ⟨hq7, hr8⟩ := Prod.mk.inj hr7
      clear hr7
      obtain ⟨hq8, hr9⟩ := Prod.mk.inj hr8
      clear hr8
      obtain ⟨hq9, hr10⟩ := Prod.mk.inj hr9
      clear hr9
      obtain ⟨hq10, hr11⟩ := Prod.mk.inj hr10
      clear hr10
      obtain ⟨hq11, hr12⟩ := Prod.mk.inj hr11
      clear hr11
      subst hq0
      subst hq1
      subst hq2
      subst hq3
      subst hq4
      subst hq5
      subst hq6
      subst hq7
      subst hq8
      subst hq9
      subst hq10
      subst hq11
      subst hr12
      have hP9 := hP.sub (ws' := [(h0, .inr (13, z_14)), (qf153, .inl (cf153, 60, .inl g914_5)), (qf154, .inl (cf154, 3600, .inl g914_6)), (qf150, .inl (cf150, 60, .inl f150)), (qf102, .inl (cf102, 2048, .inl f102)), (qf100, .inl (cf100, 48000, .inl f100)), (qf104, .inl (cf104, 8, .inl f104)), (qf105, .inl (cf105, 8, .inl f105)), (qf106, .inl (cf106, 8, .inl f106)), (qf108, .inl (cf108, 8, .inl f108)), (qf107, .inl (cf107, 96, .inl f107)), (qf109, .inl (cf109, 96, .inl f109)), (qf145, .inl (cf145, 2001, .inl g914_1)), (qf147, .inl (cf147, 20000, .inl g914_3)), (qf152, .inl (cf152, 60, .inl g914_4)), (qf146, .inl (cf146, 2001, .inl g914_2)), (qf144, .inl (cf144, 2001, .inl g914_0)), (qf151, .inl (cf151, 60, .inl f151)), (qf110, .inl (cf110, 96, .inl f110))]) [4, 17, 18, 9, 14, 12, 15, 16, 0, 1, 2, 3, 6, 8, 13, 7, 5, 10, 11] rfl
      have hD9 := hD.sub (ws' := [(h0, .inr (13, z_14)), (qf153, .inl (cf153, 60, .inl g914_5)), (qf154, .inl (cf154, 3600, .inl g914_6)), (qf150, .inl (cf150, 60, .inl f150)), (qf102, .inl (cf102, 2048, .inl f102)), (qf100, .inl (cf100, 48000, .inl f100)), (qf104, .inl (cf104, 8, .inl f104)), (qf105, .inl (cf105, 8, .inl f105)), (qf106, .inl (cf106, 8, .inl f106)), (qf108, .inl (cf108, 8, .inl f108)), (qf107, .inl (cf107, 96, .inl f107)), (qf109, .inl (cf109, 96, .inl f109)), (qf145, .inl (cf145, 2001, .inl g914_1)), (qf147, .inl (cf147, 20000, .inl g914_3)), (qf152, .inl (cf152, 60, .inl g914_4)), (qf146, .inl (cf146, 2001, .inl g914_2)), (qf144, .inl (cf144, 2001, .inl g914_0)), (qf151, .inl (cf151, 60, .inl f151)), (qf110, .inl (cf110, 96, .inl f110))]) [4, 17, 18, 9, 14, 12, 15, 16, 0, 1, 2, 3, 6, 8, 13, 7, 5, 10, 11] (by decide) rfl
      have hK9 := hK.sub (tys' := [(cf153, .int), (cf154, .int), (cf150, .int), (cf102, .int), (cf100, .int), (cf104, .int), (cf105, .int), (cf106, .int), (cf108, .int), (cf107, .int), (cf109, .int), (cf145, .int), (cf147, .int), (cf152, .int), (cf146, .int), (cf144, .int), (cf151, .int), (cf110, .int)]) [16, 17, 8, 13, 11, 14, 15, 0, 1, 2, 3, 5, 7, 12, 6, 4, 9, 10] rfl
      exact W.vret hx hb hr (fun t ht hW => ⟨⟨(z_14), rfl, ⟨trivial, hln_14, hrq_14, hfk_14_121, hch_14_138, hch_14_139, hch_14_141, hch_14_142, hch_14_149⟩, by rw [ht]; exact hP9, va_K.moved hW.alike hK9, hD9⟩, hS.F ht⟩) hS.2.2 dX13_fieldOf_33
  intro hj_15
  refine lv_iload_n hx hb dX13_fieldOf_0 rfl (lv_at hl 1 rfl) ?_
  refine lv_sipush (v := 181) hx hb dX13_fieldOf_1 (by decide) ?_
  refine lv_icmp_ne (tgt := 14) hx hb dX13_fieldOf_4 (by decide) (fun c_1 => ?_) (fun c_1 => ?_)
  · rw [if_neg c_1] at hsp
    refine lv_iconst (v := 0) hx hb dX13_fieldOf_14 (by decide) ?_
    exact hj_15 (H, locs, ls, zs, a1, a2, a3, 0, f144, f145, f146, f147, f152, f153, f154, v121, v138, v139, v141, v142, v149) ⟨lv_sub hl [0, 1, 2, 3] rfl, hS, hD.sub (ws' := [(h0, .inr (13, zs)), (qf153, .inl (cf153, 60, .inl f153)), (qf154, .inl (cf154, 3600, .inl f154)), (qf150, .inl (cf150, 60, .inl f150)), (qf102, .inl (cf102, 2048, .inl f102)), (qf100, .inl (cf100, 48000, .inl f100)), (qf104, .inl (cf104, 8, .inl f104)), (qf105, .inl (cf105, 8, .inl f105)), (qf106, .inl (cf106, 8, .inl f106)), (qf108, .inl (cf108, 8, .inl f108)), (qf107, .inl (cf107, 96, .inl f107)), (qf109, .inl (cf109, 96, .inl f109)), (qf145, .inl (cf145, 2001, .inl f145)), (qf147, .inl (cf147, 20000, .inl f147)), (qf152, .inl (cf152, 60, .inl f152)), (qf146, .inl (cf146, 2001, .inl f146)), (qf144, .inl (cf144, 2001, .inl f144)), (qf151, .inl (cf151, 60, .inl f151)), (qf110, .inl (cf110, 96, .inl f110))]) [0, 1, 2, 3, 4, 5, 6, 7, 8, 9, 10, 11, 12, 13, 14, 15, 16, 17, 18] (by decide) rfl, hP.sub (ws' := [(h0, .inr (13, zs)), (qf153, .inl (cf153, 60, .inl f153)), (qf154, .inl (cf154, 3600, .inl f154)), (qf150, .inl (cf150, 60, .inl f150)), (qf102, .inl (cf102, 2048, .inl f102)), (qf100, .inl (cf100, 48000, .inl f100)), (qf104, .inl (cf104, 8, .inl f104)), (qf105, .inl (cf105, 8, .inl f105)), (qf106, .inl (cf106, 8, .inl f106)), (qf108, .inl (cf108, 8, .inl f108)), (qf107, .inl (cf107, 96, .inl f107)), (qf109, .inl (cf109, 96, .inl f109)), (qf145, .inl (cf145, 2001, .inl f145)), (qf147, .inl (cf147, 20000, .inl f147)), (qf152, .inl (cf152, 60, .inl f152)), (qf146, .inl (cf146, 2001, .inl f146)), (qf144, .inl (cf144, 2001, .inl f144)), (qf151, .inl (cf151, 60, .inl f151)), (qf110, .inl (cf110, 96, .inl f110))]) [0, 1, 2, 3, 4, 5, 6, 7, 8, 9, 10, 11, 12, 13, 14, 15, 16, 17, 18] rfl, hf98, hf100, hf102, hf104, hf105, hf106, hf107, hf108, hf109, hf110, hf121, hf138, hf139, hf141, hf142, hf144, hf145, hf146, hf147, hf149, hf150, hf151, hf152, hf153, hf154, hlen, hrs0, hsp⟩
  · rw [if_pos c_1] at hsp
    refine lv_aload_n hx hb dX13_fieldOf_7 rfl (lv_at hl 0 rfl) ?_
    obtain ⟨⟨u1_0, g901_1⟩, hu_1, hsp⟩ := ox_bind hsp
    try dsimp only at hsp
    have hPc := hP.sub (ws' := [(h0, .inr (13, zs)), (qf153, .inl (cf153, 60, .inl f153)), (qf154, .inl (cf154, 3600, .inl f154))]) [0, 1, 2] rfl
    have hDc := hD.sub (ws' := [(h0, .inr (13, zs)), (qf153, .inl (cf153, 60, .inl f153)), (qf154, .inl (cf154, 3600, .inl f154))]) [0, 1, 2] (by decide) rfl
    have hKc := hK.sub (tys' := [(cf153, .int), (cf154, .int)]) [0, 1] rfl
    have hFc := va_free (wc := [(h0, .inr (13, zs)), (qf153, .inl (cf153, 60, .inl f153)), (qf154, .inl (cf154, 3600, .inl f154))]) hD hS hA [0, 1, 2] rfl
    refine va_calli (va_runV (As := []) (rest := []) ⟨hx, hb, hml, hown, hts⟩ (tm_drop l dC dI H.size h0 zs v149 qf153 qf154 cf153 f153 cf154 f154 nf u1_0 g901_1 hlen hf149 hf153 hf154 hu_1) (cwV 0 hts gv_h9_75 rfl rfl rfl (by decide +kernel) ⟨Nat.le_of_ble_eq_true rfl, Nat.le_of_ble_eq_true rfl⟩) ⟨fun a U g mk q => by obtain ⟨q0, q1, qP, qK, qD⟩ := q; exact ⟨q0, q1, qP, va_K.moved (u := U) (U := U.calling g mk a) (Vm.Alike.refl U.vm) qK, qD⟩, va_recv hKc hPc (ci := 13) (q0 := 0) rfl rfl, fun U hU hW => ⟨rfl, by rw [hU], by rw [hU]; exact hPc, va_K.moved hW.alike hKc, hDc.weaken (fun _ _ _ _ => trivial)⟩⟩ rfl rfl hl.1 rfl (lv_room (Nat.le_of_ble_eq_true rfl)) dX13_fieldOf_8 ⟨Nat.le_of_ble_eq_true rfl, Nat.le_of_ble_eq_true rfl⟩) hS (fun q _ h => hFc q h) hFc ?_
    clear hS
    intro r_2 u t H1 locs ht hvm hw hB hz1 hk1 hS
    obtain ⟨z_1, rfl⟩ : ∃ z, z = u := ⟨_, rfl⟩
    obtain ⟨hP1, hK1, hD1⟩ := hB
    rw [ht] at hP1
    have hK1 := va_K.moved hvm.symm hK1
    try dsimp only at hw
    have hPD := va_join (wr := [(qf150, .inl (cf150, 60, .inl f150)), (qf102, .inl (cf102, 2048, .inl f102)), (qf100, .inl (cf100, 48000, .inl f100)), (qf104, .inl (cf104, 8, .inl f104)), (qf105, .inl (cf105, 8, .inl f105)), (qf106, .inl (cf106, 8, .inl f106)), (qf108, .inl (cf108, 8, .inl f108)), (qf107, .inl (cf107, 96, .inl f107)), (qf109, .inl (cf109, 96, .inl f109)), (qf145, .inl (cf145, 2001, .inl f145)), (qf147, .inl (cf147, 20000, .inl f147)), (qf152, .inl (cf152, 60, .inl f152)), (qf146, .inl (cf146, 2001, .inl f146)), (qf144, .inl (cf144, 2001, .inl f144)), (qf151, .inl (cf151, 60, .inl f151)), (qf110, .inl (cf110, 96, .inl f110))]) (w1 := [(h0, .inr (13, z_1)), (qf153, .inl (cf153, 60, .inl g901_1)), (qf154, .inl (cf154, 3600, .inl f154))]) hP hD [0, 1, 2] [3, 4, 5, 6, 7, 8, 9, 10, 11, 12, 13, 14, 15, 16, 17, 18] rfl rfl (by decide) (by decide) hk1 hFc hP1 hD1
    clear hP hD
    obtain ⟨hP, hD⟩ := hPD
    replace hK := (hK.sub (tys' := [(cf150, .int), (cf102, .int), (cf100, .int), (cf104, .int), (cf105, .int), (cf106, .int), (cf108, .int), (cf107, .int), (cf109, .int), (cf145, .int), (cf147, .int), (cf152, .int), (cf146, .int), (cf144, .int), (cf151, .int), (cf110, .int)]) [2, 3, 4, 5, 6, 7, 8, 9, 10, 11, 12, 13, 14, 15, 16, 17] rfl).app hK1
    clear hPc hDc hKc hFc hP1 hK1 hD1 hz1 hk1 ht hvm
    generalize H1 = H at hP hS ⊢
    replace hP : va_P (dC, dI) vwCl [(qf150, .inl (cf150, 60, .inl f150)), (qf102, .inl (cf102, 2048, .inl f102)), (qf100, .inl (cf100, 48000, .inl f100)), (qf104, .inl (cf104, 8, .inl f104)), (qf105, .inl (cf105, 8, .inl f105)), (qf106, .inl (cf106, 8, .inl f106)), (qf108, .inl (cf108, 8, .inl f108)), (qf107, .inl (cf107, 96, .inl f107)), (qf109, .inl (cf109, 96, .inl f109)), (qf145, .inl (cf145, 2001, .inl f145)), (qf147, .inl (cf147, 20000, .inl f147)), (qf152, .inl (cf152, 60, .inl f152)), (qf146, .inl (cf146, 2001, .inl f146)), (qf144, .inl (cf144, 2001, .inl f144)), (qf151, .inl (cf151, 60, .inl f151)), (qf110, .inl (cf110, 96, .inl f110)), (h0, .inr (13, z_1)), (qf153, .inl (cf153, 60, .inl g901_1)), (qf154, .inl (cf154, 3600, .inl f154))] H := hP
    replace hD : va_D A [(qf150, .inl (cf150, 60, .inl f150)), (qf102, .inl (cf102, 2048, .inl f102)), (qf100, .inl (cf100, 48000, .inl f100)), (qf104, .inl (cf104, 8, .inl f104)), (qf105, .inl (cf105, 8, .inl f105)), (qf106, .inl (cf106, 8, .inl f106)), (qf108, .inl (cf108, 8, .inl f108)), (qf107, .inl (cf107, 96, .inl f107)), (qf109, .inl (cf109, 96, .inl f109)), (qf145, .inl (cf145, 2001, .inl f145)), (qf147, .inl (cf147, 20000, .inl f147)), (qf152, .inl (cf152, 60, .inl f152)), (qf146, .inl (cf146, 2001, .inl f146)), (qf144, .inl (cf144, 2001, .inl f144)), (qf151, .inl (cf151, 60, .inl f151)), (qf110, .inl (cf110, 96, .inl f110)), (h0, .inr (13, z_1)), (qf153, .inl (cf153, 60, .inl g901_1)), (qf154, .inl (cf154, 3600, .inl f154))] := hD
    replace hK : va_K (dC, dI) vwCl [(cf150, .int), (cf102, .int), (cf100, .int), (cf104, .int), (cf105, .int), (cf106, .int), (cf108, .int), (cf107, .int), (cf109, .int), (cf145, .int), (cf147, .int), (cf152, .int), (cf146, .int), (cf144, .int), (cf151, .int), (cf110, .int), (cf153, .int), (cf154, .int)] s := hK
    obtain ⟨hwa_1, hln_1, hre_1⟩ := hw
    have hfk_1_98 : z_1[98]? = some (.int v98) := (hre_1 98 ).trans (hf98)
    have hfk_1_100 : z_1[100]? = some (.ref qf100) := (hre_1 100 ).trans (hf100)
    have hfk_1_102 : z_1[102]? = some (.ref qf102) := (hre_1 102 ).trans (hf102)
    have hfk_1_104 : z_1[104]? = some (.ref qf104) := (hre_1 104 ).trans (hf104)
    have hfk_1_105 : z_1[105]? = some (.ref qf105) := (hre_1 105 ).trans (hf105)
    have hfk_1_106 : z_1[106]? = some (.ref qf106) := (hre_1 106 ).trans (hf106)
    have hfk_1_107 : z_1[107]? = some (.ref qf107) := (hre_1 107 ).trans (hf107)
    have hfk_1_108 : z_1[108]? = some (.ref qf108) := (hre_1 108 ).trans (hf108)
    have hfk_1_109 : z_1[109]? = some (.ref qf109) := (hre_1 109 ).trans (hf109)
    have hfk_1_110 : z_1[110]? = some (.ref qf110) := (hre_1 110 ).trans (hf110)
    have hfk_1_121 : z_1[121]? = some (.int v121) := (hre_1 121 ).trans (hf121)
    have hfk_1_138 : z_1[138]? = some (.int v138) := (hre_1 138 ).trans (hf138)
    have hfk_1_139 : z_1[139]? = some (.int v139) := (hre_1 139 ).trans (hf139)
    have hfk_1_141 : z_1[141]? = some (.int v141) := (hre_1 141 ).trans (hf141)
    have hfk_1_142 : z_1[142]? = some (.int v142) := (hre_1 142 ).trans (hf142)
    have hfk_1_144 : z_1[144]? = some (.ref qf144) := (hre_1 144 ).trans (hf144)
    have hfk_1_145 : z_1[145]? = some (.ref qf145) := (hre_1 145 ).trans (hf145)
    have hfk_1_146 : z_1[146]? = some (.ref qf146) := (hre_1 146 ).trans (hf146)
    have hfk_1_147 : z_1[147]? = some (.ref qf147) := (hre_1 147 ).trans (hf147)
    have hfk_1_149 : z_1[149]? = some (.int v149) := (hre_1 149 ).trans (hf149)
    have hfk_1_150 : z_1[150]? = some (.ref qf150) := (hre_1 150 ).trans (hf150)
    have hfk_1_151 : z_1[151]? = some (.ref qf151) := (hre_1 151 ).trans (hf151)
    have hfk_1_152 : z_1[152]? = some (.ref qf152) := (hre_1 152 ).trans (hf152)
    have hfk_1_153 : z_1[153]? = some (.ref qf153) := (hre_1 153 ).trans (hf153)
    have hfk_1_154 : z_1[154]? = some (.ref qf154) := (hre_1 154 ).trans (hf154)
    have hrq_1 : ∀ j : Nat, j ≠ 121 → j ≠ 138 → j ≠ 139 → j ≠ 141 → j ≠ 142 → j ≠ 149 → z_1[j]? = zs[j]? := fun j g121 g138 g139 g141 g142 g149 => (hre_1 j ).trans (hrs0 j g121 g138 g139 g141 g142 g149)
    obtain rfl := hwa_1
    refine lv_goto (tgt := 15) hx hb dX13_fieldOf_11 (by decide) ?_
    exact hj_15 (H, locs, ls, z_1, a1, a2, a3, u1_0, f144, f145, f146, f147, f152, g901_1, f154, v121, v138, v139, v141, v142, v149) ⟨lv_sub hl [0, 1, 2, 3] rfl, hS, hD.sub (ws' := [(h0, .inr (13, z_1)), (qf153, .inl (cf153, 60, .inl g901_1)), (qf154, .inl (cf154, 3600, .inl f154)), (qf150, .inl (cf150, 60, .inl f150)), (qf102, .inl (cf102, 2048, .inl f102)), (qf100, .inl (cf100, 48000, .inl f100)), (qf104, .inl (cf104, 8, .inl f104)), (qf105, .inl (cf105, 8, .inl f105)), (qf106, .inl (cf106, 8, .inl f106)), (qf108, .inl (cf108, 8, .inl f108)), (qf107, .inl (cf107, 96, .inl f107)), (qf109, .inl (cf109, 96, .inl f109)), (qf145, .inl (cf145, 2001, .inl f145)), (qf147, .inl (cf147, 20000, .inl f147)), (qf152, .inl (cf152, 60, .inl f152)), (qf146, .inl (cf146, 2001, .inl f146)), (qf144, .inl (cf144, 2001, .inl f144)), (qf151, .inl (cf151, 60, .inl f151)), (qf110, .inl (cf110, 96, .inl f110))]) [16, 17, 18, 0, 1, 2, 3, 4, 5, 6, 7, 8, 9, 10, 11, 12, 13, 14, 15] (by decide) rfl, hP.sub (ws' := [(h0, .inr (13, z_1)), (qf153, .inl (cf153, 60, .inl g901_1)), (qf154, .inl (cf154, 3600, .inl f154)), (qf150, .inl (cf150, 60, .inl f150)), (qf102, .inl (cf102, 2048, .inl f102)), (qf100, .inl (cf100, 48000, .inl f100)), (qf104, .inl (cf104, 8, .inl f104)), (qf105, .inl (cf105, 8, .inl f105)), (qf106, .inl (cf106, 8, .inl f106)), (qf108, .inl (cf108, 8, .inl f108)), (qf107, .inl (cf107, 96, .inl f107)), (qf109, .inl (cf109, 96, .inl f109)), (qf145, .inl (cf145, 2001, .inl f145)), (qf147, .inl (cf147, 20000, .inl f147)), (qf152, .inl (cf152, 60, .inl f152)), (qf146, .inl (cf146, 2001, .inl f146)), (qf144, .inl (cf144, 2001, .inl f144)), (qf151, .inl (cf151, 60, .inl f151)), (qf110, .inl (cf110, 96, .inl f110))]) [16, 17, 18, 0, 1, 2, 3, 4, 5, 6, 7, 8, 9, 10, 11, 12, 13, 14, 15] rfl, hfk_1_98, hfk_1_100, hfk_1_102, hfk_1_104, hfk_1_105, hfk_1_106, hfk_1_107, hfk_1_108, hfk_1_109, hfk_1_110, hfk_1_121, hfk_1_138, hfk_1_139, hfk_1_141, hfk_1_142, hfk_1_144, hfk_1_145, hfk_1_146, hfk_1_147, hfk_1_149, hfk_1_150, hfk_1_151, hfk_1_152, hfk_1_153, hfk_1_154, hln_1, hrq_1, hsp⟩
def lp_vm_call_228 (nf n : Nat) (a1 : Int32) (a2 : Int32) (v98 : Int32) (v121 : Int32) (v138 : Int32) (v139 : Int32) (v141 : Int32) (v142 : Int32) (v149 : Int32) (f150 : Nat → Int32) (f102 : Nat → Int32) (f100 : Nat → Int32) (f153 : Nat → Int32) (f104 : Nat → Int32) (f154 : Nat → Int32) (f144 : Nat → Int32) (f145 : Nat → Int32) (f146 : Nat → Int32) (f147 : Nat → Int32) (f151 : Nat → Int32) (f110 : Nat → Int32) (f152 : Nat → Int32) (f105 : Nat → Int32) (f106 : Nat → Int32) (f108 : Nat → Int32) (f107 : Nat → Int32) (f109 : Nat → Int32) (nS477 : Nat) (fS477 : Nat → Int32)  (l5_228 : Int32) (l7_228 : Int32) (l11_228 : Int32) (g144_228 : Nat → Int32) (g145_228 : Nat → Int32) (g146_228 : Nat → Int32) (g147_228 : Nat → Int32) (g150_228 : Nat → Int32) (g151_228 : Nat → Int32) (g152_228 : Nat → Int32) (g153_228 : Nat → Int32) (g154_228 : Nat → Int32) (x121_228 : Int32) (x138_228 : Int32) (x139_228 : Int32) (x141_228 : Int32) (x142_228 : Int32) (x149_228 : Int32) : Option ((Nat → Int32) × (Nat → Int32) × (Nat → Int32) × (Nat → Int32) × (Nat → Int32) × (Nat → Int32) × (Nat → Int32) × (Nat → Int32) × (Nat → Int32) × Int32 × Int32 × Int32 × Int32 × Int32 × Int32) := match n with
  | 0 => none
  | n + 1 => (if l5_228 ≤ l11_228 then (some (g144_228, g145_228, g146_228, g147_228, g150_228, g151_228, g152_228, g153_228, g154_228, x121_228, x138_228, x139_228, x141_228, x142_228, x149_228)) else (if (l7_228 + l11_228) < 0 then none else if 3600 ≤ ((l7_228 + l11_228) : Int32).toNatClampNeg then none else (if ((60 * (x149_228 - 1)) + l11_228) < 0 then none else if 3600 ≤ (((60 * (x149_228 - 1)) + l11_228) : Int32).toNatClampNeg then none else (lp_vm_call_228 nf n a1 a2 v98 v121 v138 v139 v141 v142 v149 f150 f102 f100 f153 f104 f154 f144 f145 f146 f147 f151 f110 f152 f105 f106 f108 f107 f109 nS477 fS477 l5_228 l7_228 (l11_228 + 1) g144_228 g145_228 g146_228 g147_228 g150_228 g151_228 g152_228 g153_228 (upd g154_228 (((60 * (x149_228 - 1)) + l11_228) : Int32).toNatClampNeg (g154_228 ((l7_228 + l11_228) : Int32).toNatClampNeg)) x121_228 x138_228 x139_228 x141_228 x142_228 x149_228))))
def jn_vm_call_168 (nf : Nat) (a1 : Int32) (a2 : Int32) (v98 : Int32) (v121 : Int32) (v138 : Int32) (v139 : Int32) (v141 : Int32) (v142 : Int32) (v149 : Int32) (f150 : Nat → Int32) (f102 : Nat → Int32) (f100 : Nat → Int32) (f153 : Nat → Int32) (f104 : Nat → Int32) (f154 : Nat → Int32) (f144 : Nat → Int32) (f145 : Nat → Int32) (f146 : Nat → Int32) (f147 : Nat → Int32) (f151 : Nat → Int32) (f110 : Nat → Int32) (f152 : Nat → Int32) (f105 : Nat → Int32) (f106 : Nat → Int32) (f108 : Nat → Int32) (f107 : Nat → Int32) (f109 : Nat → Int32) (nS477 : Nat) (fS477 : Nat → Int32)  (l2_168 : Int32) (l3_168 : Int32) (l5_168 : Int32) (l6_168 : Int32) (l7_168 : Int32) (l8_168 : Int32) (g144_168 : Nat → Int32) (g145_168 : Nat → Int32) (g146_168 : Nat → Int32) (g147_168 : Nat → Int32) (g150_168 : Nat → Int32) (g151_168 : Nat → Int32) (g152_168 : Nat → Int32) (g153_168 : Nat → Int32) (g154_168 : Nat → Int32) (x121_168 : Int32) (x138_168 : Int32) (x139_168 : Int32) (x141_168 : Int32) (x142_168 : Int32) (x149_168 : Int32) : Option ((Nat → Int32) × (Nat → Int32) × (Nat → Int32) × (Nat → Int32) × (Nat → Int32) × (Nat → Int32) × (Nat → Int32) × (Nat → Int32) × (Nat → Int32) × Int32 × Int32 × Int32 × Int32 × Int32 × Int32) := ((sp_tm_memberPart nf l2_168 1 x149_168 g150_168 f102 f100).bind (fun p1 => ((sp_vm_holder nf l8_168 l3_168 p1 1 v98 x121_168 f105 f102 f100 f104 f106 f108 f107 f109 nS477 fS477).bind (fun p2 => (if x149_168 = 60 then (some (g144_168, g145_168, g146_168, g147_168, g150_168, g151_168, g152_168, g153_168, g154_168, p2.2, 5, x139_168, x141_168, x142_168, x149_168)) else (if l6_168 < 0 then none else if 60 ≤ (l6_168 : Int32).toNatClampNeg then none else (if l6_168 < 0 then none else if 60 ≤ (l6_168 : Int32).toNatClampNeg then none else ((sp_tn_enter nf p2.1 p2.2 x149_168 g150_168 g151_168 g152_168 (upd g153_168 (l6_168 : Int32).toNatClampNeg ((g153_168 (l6_168 : Int32).toNatClampNeg) - l5_168)) g154_168).bind (fun p3 => (lp_vm_call_228 nf nf a1 a2 v98 v121 v138 v139 v141 v142 v149 f150 f102 f100 f153 f104 f154 f144 f145 f146 f147 f151 f110 f152 f105 f106 f108 f107 f109 nS477 fS477  l5_168 l7_168 0 g144_168 g145_168 g146_168 g147_168 p3.1 p3.2.1 p3.2.2.1 p3.2.2.2.1 p3.2.2.2.2.1 p2.2 x138_168 x139_168 x141_168 x142_168 p3.2.2.2.2.2))))))))))
def jn_vm_call_166 (nf : Nat) (a1 : Int32) (a2 : Int32) (v98 : Int32) (v121 : Int32) (v138 : Int32) (v139 : Int32) (v141 : Int32) (v142 : Int32) (v149 : Int32) (f150 : Nat → Int32) (f102 : Nat → Int32) (f100 : Nat → Int32) (f153 : Nat → Int32) (f104 : Nat → Int32) (f154 : Nat → Int32) (f144 : Nat → Int32) (f145 : Nat → Int32) (f146 : Nat → Int32) (f147 : Nat → Int32) (f151 : Nat → Int32) (f110 : Nat → Int32) (f152 : Nat → Int32) (f105 : Nat → Int32) (f106 : Nat → Int32) (f108 : Nat → Int32) (f107 : Nat → Int32) (f109 : Nat → Int32) (nS477 : Nat) (fS477 : Nat → Int32)  (l2_166 : Int32) (l3_166 : Int32) (l5_166 : Int32) (l6_166 : Int32) (l7_166 : Int32) (s0_166 : Int32) (g144_166 : Nat → Int32) (g145_166 : Nat → Int32) (g146_166 : Nat → Int32) (g147_166 : Nat → Int32) (g150_166 : Nat → Int32) (g151_166 : Nat → Int32) (g152_166 : Nat → Int32) (g153_166 : Nat → Int32) (g154_166 : Nat → Int32) (x121_166 : Int32) (x138_166 : Int32) (x139_166 : Int32) (x141_166 : Int32) (x142_166 : Int32) (x149_166 : Int32) : Option ((Nat → Int32) × (Nat → Int32) × (Nat → Int32) × (Nat → Int32) × (Nat → Int32) × (Nat → Int32) × (Nat → Int32) × (Nat → Int32) × (Nat → Int32) × Int32 × Int32 × Int32 × Int32 × Int32 × Int32) := (jn_vm_call_168 nf a1 a2 v98 v121 v138 v139 v141 v142 v149 f150 f102 f100 f153 f104 f154 f144 f145 f146 f147 f151 f110 f152 f105 f106 f108 f107 f109 nS477 fS477  l2_166 l3_166 l5_166 l6_166 l7_166 s0_166 g144_166 g145_166 g146_166 g147_166 g150_166 g151_166 g152_166 g153_166 g154_166 x121_166 x138_166 x139_166 x141_166 x142_166 x149_166)
def jn_vm_call_72 (nf : Nat) (a1 : Int32) (a2 : Int32) (v98 : Int32) (v121 : Int32) (v138 : Int32) (v139 : Int32) (v141 : Int32) (v142 : Int32) (v149 : Int32) (f150 : Nat → Int32) (f102 : Nat → Int32) (f100 : Nat → Int32) (f153 : Nat → Int32) (f104 : Nat → Int32) (f154 : Nat → Int32) (f144 : Nat → Int32) (f145 : Nat → Int32) (f146 : Nat → Int32) (f147 : Nat → Int32) (f151 : Nat → Int32) (f110 : Nat → Int32) (f152 : Nat → Int32) (f105 : Nat → Int32) (f106 : Nat → Int32) (f108 : Nat → Int32) (f107 : Nat → Int32) (f109 : Nat → Int32) (nS477 : Nat) (fS477 : Nat → Int32)  (l1_72 : Int32) (l2_72 : Int32) (l3_72 : Int32) (s0_72 : Int32) (s1_72 : Int32) (g144_72 : Nat → Int32) (g145_72 : Nat → Int32) (g146_72 : Nat → Int32) (g147_72 : Nat → Int32) (g150_72 : Nat → Int32) (g151_72 : Nat → Int32) (g152_72 : Nat → Int32) (g153_72 : Nat → Int32) (g154_72 : Nat → Int32) (x121_72 : Int32) (x138_72 : Int32) (x139_72 : Int32) (x141_72 : Int32) (x142_72 : Int32) (x149_72 : Int32) : Option ((Nat → Int32) × (Nat → Int32) × (Nat → Int32) × (Nat → Int32) × (Nat → Int32) × (Nat → Int32) × (Nat → Int32) × (Nat → Int32) × (Nat → Int32) × Int32 × Int32 × Int32 × Int32 × Int32 × Int32) := (if (x149_72 - 1) < 0 then none else if 60 ≤ ((x149_72 - 1) : Int32).toNatClampNeg then none else ((sp_tm_memberPart nf l2_72 0 x149_72 g150_72 f102 f100).bind (fun p1 => ((sp_vm_classIn nf p1 v98 x149_72 g150_72 f102 f100 f104 nS477 fS477).bind (fun p2 => (if l1_72 = 182 then (if ((((60 * (x149_72 - 1)) + 30) + (g153_72 ((x149_72 - 1) : Int32).toNatClampNeg)) - (s1_72 + s0_72)) < 0 then none else if 3600 ≤ (((((60 * (x149_72 - 1)) + 30) + (g153_72 ((x149_72 - 1) : Int32).toNatClampNeg)) - (s1_72 + s0_72)) : Int32).toNatClampNeg then none else (if (g154_72 (((((60 * (x149_72 - 1)) + 30) + (g153_72 ((x149_72 - 1) : Int32).toNatClampNeg)) - (s1_72 + s0_72)) : Int32).toNatClampNeg) = 0 then ((sp_vm_fails nf 2 v98 x138_72 x139_72 x141_72 x142_72 x149_72 g144_72 g145_72 g146_72 g147_72 g150_72 g151_72 f110 f100 g152_72 f102 f104 f105 g153_72 g154_72 nS477 fS477).bind (fun p3 => (some (p3.1, p3.2.1, p3.2.2.1, p3.2.2.2.1, g150_72, g151_72, p3.2.2.2.2.1, p3.2.2.2.2.2.1, p3.2.2.2.2.2.2.1, x121_72, p3.2.2.2.2.2.2.2.1, p3.2.2.2.2.2.2.2.2.1, p3.2.2.2.2.2.2.2.2.2.1, p3.2.2.2.2.2.2.2.2.2.2.1, p3.2.2.2.2.2.2.2.2.2.2.2)))) else (if (g154_72 (((((60 * (x149_72 - 1)) + 30) + (g153_72 ((x149_72 - 1) : Int32).toNatClampNeg)) - (s1_72 + s0_72)) : Int32).toNatClampNeg) < 0 then none else if 2001 ≤ ((g154_72 (((((60 * (x149_72 - 1)) + 30) + (g153_72 ((x149_72 - 1) : Int32).toNatClampNeg)) - (s1_72 + s0_72)) : Int32).toNatClampNeg) : Int32).toNatClampNeg then none else (if (g144_72 ((g154_72 (((((60 * (x149_72 - 1)) + 30) + (g153_72 ((x149_72 - 1) : Int32).toNatClampNeg)) - (s1_72 + s0_72)) : Int32).toNatClampNeg) : Int32).toNatClampNeg) < 99 then (if (g154_72 (((((60 * (x149_72 - 1)) + 30) + (g153_72 ((x149_72 - 1) : Int32).toNatClampNeg)) - (s1_72 + s0_72)) : Int32).toNatClampNeg) < 0 then none else if 2001 ≤ ((g154_72 (((((60 * (x149_72 - 1)) + 30) + (g153_72 ((x149_72 - 1) : Int32).toNatClampNeg)) - (s1_72 + s0_72)) : Int32).toNatClampNeg) : Int32).toNatClampNeg then none else (jn_vm_call_166 nf a1 a2 v98 v121 v138 v139 v141 v142 v149 f150 f102 f100 f153 f104 f154 f144 f145 f146 f147 f151 f110 f152 f105 f106 f108 f107 f109 nS477 fS477  l2_72 l3_72 (s1_72 + s0_72) (x149_72 - 1) ((((60 * (x149_72 - 1)) + 30) + (g153_72 ((x149_72 - 1) : Int32).toNatClampNeg)) - (s1_72 + s0_72)) (g144_72 ((g154_72 (((((60 * (x149_72 - 1)) + 30) + (g153_72 ((x149_72 - 1) : Int32).toNatClampNeg)) - (s1_72 + s0_72)) : Int32).toNatClampNeg) : Int32).toNatClampNeg) g144_72 g145_72 g146_72 g147_72 g150_72 g151_72 g152_72 g153_72 g154_72 x121_72 x138_72 x139_72 x141_72 x142_72 x149_72)) else (jn_vm_call_166 nf a1 a2 v98 v121 v138 v139 v141 v142 v149 f150 f102 f100 f153 f104 f154 f144 f145 f146 f147 f151 f110 f152 f105 f106 f108 f107 f109 nS477 fS477  l2_72 l3_72 (s1_72 + s0_72) (x149_72 - 1) ((((60 * (x149_72 - 1)) + 30) + (g153_72 ((x149_72 - 1) : Int32).toNatClampNeg)) - (s1_72 + s0_72)) 0 g144_72 g145_72 g146_72 g147_72 g150_72 g151_72 g152_72 g153_72 g154_72 x121_72 x138_72 x139_72 x141_72 x142_72 x149_72))))) else (jn_vm_call_168 nf a1 a2 v98 v121 v138 v139 v141 v142 v149 f150 f102 f100 f153 f104 f154 f144 f145 f146 f147 f151 f110 f152 f105 f106 f108 f107 f109 nS477 fS477  l2_72 l3_72 (s1_72 + s0_72) (x149_72 - 1) ((((60 * (x149_72 - 1)) + 30) + (g153_72 ((x149_72 - 1) : Int32).toNatClampNeg)) - (s1_72 + s0_72)) p2 g144_72 g145_72 g146_72 g147_72 g150_72 g151_72 g152_72 g153_72 g154_72 x121_72 x138_72 x139_72 x141_72 x142_72 x149_72)))))))
def sp_vm_call (nf : Nat) (a1 : Int32) (a2 : Int32) (v98 : Int32) (v121 : Int32) (v138 : Int32) (v139 : Int32) (v141 : Int32) (v142 : Int32) (v149 : Int32) (f150 : Nat → Int32) (f102 : Nat → Int32) (f100 : Nat → Int32) (f153 : Nat → Int32) (f104 : Nat → Int32) (f154 : Nat → Int32) (f144 : Nat → Int32) (f145 : Nat → Int32) (f146 : Nat → Int32) (f147 : Nat → Int32) (f151 : Nat → Int32) (f110 : Nat → Int32) (f152 : Nat → Int32) (f105 : Nat → Int32) (f106 : Nat → Int32) (f108 : Nat → Int32) (f107 : Nat → Int32) (f109 : Nat → Int32) (nS477 : Nat) (fS477 : Nat → Int32) : Option ((Nat → Int32) × (Nat → Int32) × (Nat → Int32) × (Nat → Int32) × (Nat → Int32) × (Nat → Int32) × (Nat → Int32) × (Nat → Int32) × (Nat → Int32) × Int32 × Int32 × Int32 × Int32 × Int32 × Int32) := (if (v149 - 1) < 0 then none else if 60 ≤ ((v149 - 1) : Int32).toNatClampNeg then none else ((sp_tm_memberPart nf a2 2 v149 f150 f102 f100).bind (fun p1 => (if ((256 * ((f150 ((v149 - 1) : Int32).toNatClampNeg) - 8)) + p1) < 0 then none else if 2048 ≤ (((256 * ((f150 ((v149 - 1) : Int32).toNatClampNeg) - 8)) + p1) : Int32).toNatClampNeg then none else (if (((6000 * ((f150 ((v149 - 1) : Int32).toNatClampNeg) - 8)) + (f102 (((256 * ((f150 ((v149 - 1) : Int32).toNatClampNeg) - 8)) + p1) : Int32).toNatClampNeg)) + 1) < 0 then none else if 48000 ≤ ((((6000 * ((f150 ((v149 - 1) : Int32).toNatClampNeg) - 8)) + (f102 (((256 * ((f150 ((v149 - 1) : Int32).toNatClampNeg) - 8)) + p1) : Int32).toNatClampNeg)) + 1) : Int32).toNatClampNeg then none else ((sp_vm_parametersIn nf (((6000 * ((f150 ((v149 - 1) : Int32).toNatClampNeg) - 8)) + (f102 (((256 * ((f150 ((v149 - 1) : Int32).toNatClampNeg) - 8)) + p1) : Int32).toNatClampNeg)) + 2) (f100 ((((6000 * ((f150 ((v149 - 1) : Int32).toNatClampNeg) - 8)) + (f102 (((256 * ((f150 ((v149 - 1) : Int32).toNatClampNeg) - 8)) + p1) : Int32).toNatClampNeg)) + 1) : Int32).toNatClampNeg) 48000 f100).bind (fun p2 => (if a1 = 182 then (jn_vm_call_72 nf a1 a2 v98 v121 v138 v139 v141 v142 v149 f150 f102 f100 f153 f104 f154 f144 f145 f146 f147 f151 f110 f152 f105 f106 f108 f107 f109 nS477 fS477  a1 a2 ((f150 ((v149 - 1) : Int32).toNatClampNeg) - 8) 1 p2 f144 f145 f146 f147 f150 f151 f152 f153 f154 v121 v138 v139 v141 v142 v149) else (jn_vm_call_72 nf a1 a2 v98 v121 v138 v139 v141 v142 v149 f150 f102 f100 f153 f104 f154 f144 f145 f146 f147 f151 f110 f152 f105 f106 f108 f107 f109 nS477 fS477  a1 a2 ((f150 ((v149 - 1) : Int32).toNatClampNeg) - 8) 0 p2 f144 f145 f146 f147 f150 f151 f152 f153 f154 v121 v138 v139 v141 v142 v149)))))))))

set_option maxHeartbeats 4000000 in
set_option maxRecDepth 100000 in
/-- ClassMillModel.is -/
theorem vm_is (l : Launch) (dC : Nat → ClassId) (dI : Nat → Nat → Nat) (sz : Nat) (h0 : Nat) (zs : (List Value)) (a1 : Int32) (a2 : Int32) (v98 : Int32) (qf100 : Nat) (qf102 : Nat) (qf104 : Nat) (qf105 : Nat) (qf110 : Nat) (v138 : Int32) (v139 : Int32) (v141 : Int32) (v142 : Int32) (qf144 : Nat) (qf145 : Nat) (qf146 : Nat) (qf147 : Nat) (v149 : Int32) (qf150 : Nat) (qf151 : Nat) (qf152 : Nat) (qf153 : Nat) (qf154 : Nat) (cf153 : ClassId) (f153 : (Nat → Int32)) (cf154 : ClassId) (f154 : (Nat → Int32)) (cf150 : ClassId) (f150 : (Nat → Int32)) (cf102 : ClassId) (f102 : (Nat → Int32)) (cf100 : ClassId) (f100 : (Nat → Int32)) (cf104 : ClassId) (f104 : (Nat → Int32)) (cf144 : ClassId) (f144 : (Nat → Int32)) (cf105 : ClassId) (f105 : (Nat → Int32)) (cf145 : ClassId) (f145 : (Nat → Int32)) (cf146 : ClassId) (f146 : (Nat → Int32)) (cf147 : ClassId) (f147 : (Nat → Int32)) (cf151 : ClassId) (f151 : (Nat → Int32)) (cf110 : ClassId) (f110 : (Nat → Int32)) (cf152 : ClassId) (f152 : (Nat → Int32)) (nS477 : Nat) (fS477 : (Nat → Int32)) (hS477 : Nat) (qS477 : Nat) (tS477 : String) (nf : Nat) (r0 : Int32) (o144 : (Nat → Int32)) (o145 : (Nat → Int32)) (o146 : (Nat → Int32)) (o147 : (Nat → Int32)) (o152 : (Nat → Int32)) (o153 : (Nat → Int32)) (o154 : (Nat → Int32)) (w138 : Int32) (w139 : Int32) (w141 : Int32) (w142 : Int32) (w149 : Int32) (hlen : zs.length = 155) (hf98 : zs[98]? = some (.int v98)) (hf100 : zs[100]? = some (.ref qf100)) (hf102 : zs[102]? = some (.ref qf102)) (hf104 : zs[104]? = some (.ref qf104)) (hf105 : zs[105]? = some (.ref qf105)) (hf110 : zs[110]? = some (.ref qf110)) (hf138 : zs[138]? = some (.int v138)) (hf139 : zs[139]? = some (.int v139)) (hf141 : zs[141]? = some (.int v141)) (hf142 : zs[142]? = some (.int v142)) (hf144 : zs[144]? = some (.ref qf144)) (hf145 : zs[145]? = some (.ref qf145)) (hf146 : zs[146]? = some (.ref qf146)) (hf147 : zs[147]? = some (.ref qf147)) (hf149 : zs[149]? = some (.int v149)) (hf150 : zs[150]? = some (.ref qf150)) (hf151 : zs[151]? = some (.ref qf151)) (hf152 : zs[152]? = some (.ref qf152)) (hf153 : zs[153]? = some (.ref qf153)) (hf154 : zs[154]? = some (.ref qf154)) (hsp : sp_vm_is nf a1 a2 v98 v138 v139 v141 v142 v149 f153 f154 f150 f102 f100 f104 f144 f105 f145 f146 f147 f151 f110 f152 nS477 fS477 = some (r0, o144, o145, o146, o147, o152, o153, o154, w138, w139, w141, w142, w149)) : Met l yX13_is (.code yX13_is cX13_is 5 (some .boolean) :: VS_h9) ({ frames := 12, cells := 0, slots := 0, locals := 277 }) (va_Pc [.ref h0, .int a1, .int a2] (fun U => U.heap.size = sz ∧ va_P (dC, dI) vwCl [(h0, .inr (13, zs)), (qf153, .inl (cf153, 60, .inl f153)), (qf154, .inl (cf154, 3600, .inl f154)), (qf150, .inl (cf150, 60, .inl f150)), (qf102, .inl (cf102, 2048, .inl f102)), (qf100, .inl (cf100, 48000, .inl f100)), (qf104, .inl (cf104, 8, .inl f104)), (qf144, .inl (cf144, 2001, .inl f144)), (qf105, .inl (cf105, 8, .inl f105)), (qf145, .inl (cf145, 2001, .inl f145)), (qf146, .inl (cf146, 2001, .inl f146)), (qf147, .inl (cf147, 20000, .inl f147)), (qf151, .inl (cf151, 60, .inl f151)), (qf110, .inl (cf110, 96, .inl f110)), (qf152, .inl (cf152, 60, .inl f152))] U.heap ∧ va_K (dC, dI) vwCl [(cf153, .int), (cf154, .int), (cf150, .int), (cf102, .int), (cf100, .int), (cf104, .int), (cf144, .int), (cf105, .int), (cf145, .int), (cf146, .int), (cf147, .int), (cf151, .int), (cf110, .int), (cf152, .int)] U ∧ va_D (fun _ => True) [(h0, .inr (13, zs)), (qf153, .inl (cf153, 60, .inl f153)), (qf154, .inl (cf154, 3600, .inl f154)), (qf150, .inl (cf150, 60, .inl f150)), (qf102, .inl (cf102, 2048, .inl f102)), (qf100, .inl (cf100, 48000, .inl f100)), (qf104, .inl (cf104, 8, .inl f104)), (qf144, .inl (cf144, 2001, .inl f144)), (qf105, .inl (cf105, 8, .inl f105)), (qf145, .inl (cf145, 2001, .inl f145)), (qf146, .inl (cf146, 2001, .inl f146)), (qf147, .inl (cf147, 20000, .inl f147)), (qf151, .inl (cf151, 60, .inl f151)), (qf110, .inl (cf110, 96, .inl f110)), (qf152, .inl (cf152, 60, .inl f152))] ∧ pz_W nS477 fS477 hS477 qS477 (va_A [(h0, .inr (13, zs)), (qf153, .inl (cf153, 60, .inl f153)), (qf154, .inl (cf154, 3600, .inl f154)), (qf150, .inl (cf150, 60, .inl f150)), (qf102, .inl (cf102, 2048, .inl f102)), (qf100, .inl (cf100, 48000, .inl f100)), (qf104, .inl (cf104, 8, .inl f104)), (qf144, .inl (cf144, 2001, .inl f144)), (qf105, .inl (cf105, 8, .inl f105)), (qf145, .inl (cf145, 2001, .inl f145)), (qf146, .inl (cf146, 2001, .inl f146)), (qf147, .inl (cf147, 20000, .inl f147)), (qf151, .inl (cf151, 60, .inl f151)), (qf110, .inl (cf110, 96, .inl f110)), (qf152, .inl (cf152, 60, .inl f152))] sz) U U.heap ∧ vk_R RX13 477 tS477 hS477 U)) (va_Qi (fun (r : Int32) (u : (List Value)) => match u with | (zo1) => (r0 = r ∧ (r0 = 0 ∨ r0 = 1)) ∧ zo1.length = 155 ∧ (∀ j : Nat, j ≠ 138 → j ≠ 139 → j ≠ 141 → j ≠ 142 → j ≠ 149 → zo1[j]? = zs[j]?) ∧ zo1[138]? = some (.int w138) ∧ zo1[139]? = some (.int w139) ∧ zo1[141]? = some (.int w141) ∧ zo1[142]? = some (.int w142) ∧ zo1[149]? = some (.int w149)) (fun (u : (List Value)) (t : State) => match u with | (zo1) => va_P (dC, dI) vwCl [(h0, .inr (13, zo1)), (qf153, .inl (cf153, 60, .inl o153)), (qf154, .inl (cf154, 3600, .inl o154)), (qf150, .inl (cf150, 60, .inl f150)), (qf102, .inl (cf102, 2048, .inl f102)), (qf100, .inl (cf100, 48000, .inl f100)), (qf104, .inl (cf104, 8, .inl f104)), (qf144, .inl (cf144, 2001, .inl o144)), (qf105, .inl (cf105, 8, .inl f105)), (qf145, .inl (cf145, 2001, .inl o145)), (qf146, .inl (cf146, 2001, .inl o146)), (qf147, .inl (cf147, 20000, .inl o147)), (qf151, .inl (cf151, 60, .inl f151)), (qf110, .inl (cf110, 96, .inl f110)), (qf152, .inl (cf152, 60, .inl o152))] t.heap ∧ va_K (dC, dI) vwCl [(cf153, .int), (cf154, .int), (cf150, .int), (cf102, .int), (cf100, .int), (cf104, .int), (cf144, .int), (cf105, .int), (cf145, .int), (cf146, .int), (cf147, .int), (cf151, .int), (cf110, .int), (cf152, .int)] t ∧ va_D (va_A [(h0, .inr (13, zs)), (qf153, .inl (cf153, 60, .inl f153)), (qf154, .inl (cf154, 3600, .inl f154)), (qf150, .inl (cf150, 60, .inl f150)), (qf102, .inl (cf102, 2048, .inl f102)), (qf100, .inl (cf100, 48000, .inl f100)), (qf104, .inl (cf104, 8, .inl f104)), (qf144, .inl (cf144, 2001, .inl f144)), (qf105, .inl (cf105, 8, .inl f105)), (qf145, .inl (cf145, 2001, .inl f145)), (qf146, .inl (cf146, 2001, .inl f146)), (qf147, .inl (cf147, 20000, .inl f147)), (qf151, .inl (cf151, 60, .inl f151)), (qf110, .inl (cf110, 96, .inl f110)), (qf152, .inl (cf152, 60, .inl f152))] sz) [(h0, .inr (13, zo1)), (qf153, .inl (cf153, 60, .inl o153)), (qf154, .inl (cf154, 3600, .inl o154)), (qf150, .inl (cf150, 60, .inl f150)), (qf102, .inl (cf102, 2048, .inl f102)), (qf100, .inl (cf100, 48000, .inl f100)), (qf104, .inl (cf104, 8, .inl f104)), (qf144, .inl (cf144, 2001, .inl o144)), (qf105, .inl (cf105, 8, .inl f105)), (qf145, .inl (cf145, 2001, .inl o145)), (qf146, .inl (cf146, 2001, .inl o146)), (qf147, .inl (cf147, 20000, .inl o147)), (qf151, .inl (cf151, 60, .inl f151)), (qf110, .inl (cf110, 96, .inl f110)), (qf152, .inl (cf152, 60, .inl o152))]) (va_A [(h0, .inr (13, zs)), (qf153, .inl (cf153, 60, .inl f153)), (qf154, .inl (cf154, 3600, .inl f154)), (qf150, .inl (cf150, 60, .inl f150)), (qf102, .inl (cf102, 2048, .inl f102)), (qf100, .inl (cf100, 48000, .inl f100)), (qf104, .inl (cf104, 8, .inl f104)), (qf144, .inl (cf144, 2001, .inl f144)), (qf105, .inl (cf105, 8, .inl f105)), (qf145, .inl (cf145, 2001, .inl f145)), (qf146, .inl (cf146, 2001, .inl f146)), (qf147, .inl (cf147, 20000, .inl f147)), (qf151, .inl (cf151, 60, .inl f151)), (qf110, .inl (cf110, 96, .inl f110)), (qf152, .inl (cf152, 60, .inl f152))] sz)) 0 0 (va_A [(h0, .inr (13, zs)), (qf153, .inl (cf153, 60, .inl f153)), (qf154, .inl (cf154, 3600, .inl f154)), (qf150, .inl (cf150, 60, .inl f150)), (qf102, .inl (cf102, 2048, .inl f102)), (qf100, .inl (cf100, 48000, .inl f100)), (qf104, .inl (cf104, 8, .inl f104)), (qf144, .inl (cf144, 2001, .inl f144)), (qf105, .inl (cf105, 8, .inl f105)), (qf145, .inl (cf145, 2001, .inl f145)), (qf146, .inl (cf146, 2001, .inl f146)), (qf147, .inl (cf147, 20000, .inl f147)), (qf151, .inl (cf151, 60, .inl f151)), (qf110, .inl (cf110, 96, .inl f110)), (qf152, .inl (cf152, 60, .inl f152))] sz) := by
  refine Met.ofW (cc := cX13_is) (maxL := 5) (ret := (some .boolean)) (by decide) rfl ?_
  intro p e s m args below meth c s₁ B hml hv
  obtain ⟨rfl, hsz, hP, hK, hD0, hZWS477, hZRS477⟩ := hv
  have hx := B.exec
  have hb := B.bytes
  have hr := B.returns
  have hts := atoms_spec (ws := (.code yX13_is cX13_is 5 (some .boolean) :: VS_h9)) B.pre
  replace hts := fun w (h : w ∈ VS_h9) => hts w (List.mem_cons_of_mem _ h)
  have hown : s.vm.findClass RX13 = some m.cls := findClass_of_methodNamed B.named
  have hlocks := B.notSynchronized
  subst hsz
  have hD := hD0.self (sz := s.heap.size)
  generalize hAe : va_A [(h0, .inr (13, zs)), (qf153, .inl (cf153, 60, .inl f153)), (qf154, .inl (cf154, 3600, .inl f154)), (qf150, .inl (cf150, 60, .inl f150)), (qf102, .inl (cf102, 2048, .inl f102)), (qf100, .inl (cf100, 48000, .inl f100)), (qf104, .inl (cf104, 8, .inl f104)), (qf144, .inl (cf144, 2001, .inl f144)), (qf105, .inl (cf105, 8, .inl f105)), (qf145, .inl (cf145, 2001, .inl f145)), (qf146, .inl (cf146, 2001, .inl f146)), (qf147, .inl (cf147, 20000, .inl f147)), (qf151, .inl (cf151, 60, .inl f151)), (qf110, .inl (cf110, 96, .inl f110)), (qf152, .inl (cf152, 60, .inl f152))] s.heap.size = A at hD hZWS477 ⊢
  have hA : ∀ q : Nat, s.heap.size ≤ q → A q := fun q h => by rw [← hAe]; exact Or.inr h
  have hP : va_P (dC, dI) vwCl [(h0, .inr (13, zs)), (qf153, .inl (cf153, 60, .inl f153)), (qf154, .inl (cf154, 3600, .inl f154)), (qf150, .inl (cf150, 60, .inl f150)), (qf102, .inl (cf102, 2048, .inl f102)), (qf100, .inl (cf100, 48000, .inl f100)), (qf104, .inl (cf104, 8, .inl f104)), (qf144, .inl (cf144, 2001, .inl f144)), (qf105, .inl (cf105, 8, .inl f105)), (qf145, .inl (cf145, 2001, .inl f145)), (qf146, .inl (cf146, 2001, .inl f146)), (qf147, .inl (cf147, 20000, .inl f147)), (qf151, .inl (cf151, 60, .inl f151)), (qf110, .inl (cf110, 96, .inl f110)), (qf152, .inl (cf152, 60, .inl f152))] s.heap := hP
  have hl := lv_entry ([.ref h0, .int a1, .int a2]) (n := 5) (Nat.le_of_ble_eq_true rfl)
  rw [lg_entry_eq]
  generalize (lg_sl ([.ref h0, .int a1, .int a2]) ++ List.replicate (5 - (lg_sl ([.ref h0, .int a1, .int a2])).length) Slot.unset).toArray = ls at hl ⊢
  have hl : lv_has ls 5 [(0, .ref h0), (1, .int a1), (2, .int a2)] := hl
  obtain ⟨H, hH⟩ : ∃ H : Heap, s.heap = H := ⟨_, rfl⟩
  rw [hH] at hP ⊢
  have hS : va_S A s.heap H [] := by rw [← hH]; exact va_S.rf
  obtain ⟨locs, hlo⟩ : ∃ locs : List Loc, locs = [] := ⟨_, rfl⟩
  rw [← hlo] at hS ⊢
  have hrs0 : ∀ j : Nat, j ≠ 138 → j ≠ 139 → j ≠ 141 → j ≠ 142 → j ≠ 149 → zs[j]? = zs[j]? := fun _ _ _ _ _ _  => rfl
  unfold sp_vm_is at hsp
  refine jn_use (α := Heap × List Loc × Array Slot × List Value × Int32 × Int32 × Int32 × (Nat → Int32) × (Nat → Int32) × (Nat → Int32) × (Nat → Int32) × (Nat → Int32) × (Nat → Int32) × (Nat → Int32) × Int32 × Int32 × Int32 × Int32 × Int32) (fun x9 => x9.1) (fun x9 => x9.2.1) (fun x9 => F0 m 27 x9.2.2.1 [.int (x9.2.2.2.2.2.2.1)]) (fun x9 => match x9 with | (H, locs, ls, z27, l1_27, l3_27, s0_27, g144_27, g145_27, g146_27, g147_27, g152_27, g153_27, g154_27, x138_27, x139_27, x141_27, x142_27, x149_27) => lv_has ls 5 [(0, .ref h0), (1, .int l1_27), (3, .int l3_27)] ∧ va_S A s.heap H locs ∧ va_D A [(h0, .inr (13, z27)), (qf153, .inl (cf153, 60, .inl g153_27)), (qf154, .inl (cf154, 3600, .inl g154_27)), (qf150, .inl (cf150, 60, .inl f150)), (qf102, .inl (cf102, 2048, .inl f102)), (qf100, .inl (cf100, 48000, .inl f100)), (qf104, .inl (cf104, 8, .inl f104)), (qf144, .inl (cf144, 2001, .inl g144_27)), (qf105, .inl (cf105, 8, .inl f105)), (qf145, .inl (cf145, 2001, .inl g145_27)), (qf146, .inl (cf146, 2001, .inl g146_27)), (qf147, .inl (cf147, 20000, .inl g147_27)), (qf151, .inl (cf151, 60, .inl f151)), (qf110, .inl (cf110, 96, .inl f110)), (qf152, .inl (cf152, 60, .inl g152_27))] ∧ va_P (dC, dI) vwCl [(h0, .inr (13, z27)), (qf153, .inl (cf153, 60, .inl g153_27)), (qf154, .inl (cf154, 3600, .inl g154_27)), (qf150, .inl (cf150, 60, .inl f150)), (qf102, .inl (cf102, 2048, .inl f102)), (qf100, .inl (cf100, 48000, .inl f100)), (qf104, .inl (cf104, 8, .inl f104)), (qf144, .inl (cf144, 2001, .inl g144_27)), (qf105, .inl (cf105, 8, .inl f105)), (qf145, .inl (cf145, 2001, .inl g145_27)), (qf146, .inl (cf146, 2001, .inl g146_27)), (qf147, .inl (cf147, 20000, .inl g147_27)), (qf151, .inl (cf151, 60, .inl f151)), (qf110, .inl (cf110, 96, .inl f110)), (qf152, .inl (cf152, 60, .inl g152_27))] H ∧ z27[98]? = some (.int v98) ∧ z27[100]? = some (.ref qf100) ∧ z27[102]? = some (.ref qf102) ∧ z27[104]? = some (.ref qf104) ∧ z27[105]? = some (.ref qf105) ∧ z27[110]? = some (.ref qf110) ∧ z27[138]? = some (.int x138_27) ∧ z27[139]? = some (.int x139_27) ∧ z27[141]? = some (.int x141_27) ∧ z27[142]? = some (.int x142_27) ∧ z27[144]? = some (.ref qf144) ∧ z27[145]? = some (.ref qf145) ∧ z27[146]? = some (.ref qf146) ∧ z27[147]? = some (.ref qf147) ∧ z27[149]? = some (.int x149_27) ∧ z27[150]? = some (.ref qf150) ∧ z27[151]? = some (.ref qf151) ∧ z27[152]? = some (.ref qf152) ∧ z27[153]? = some (.ref qf153) ∧ z27[154]? = some (.ref qf154) ∧ z27.length = 155 ∧ (∀ j : Nat, j ≠ 138 → j ≠ 139 → j ≠ 141 → j ≠ 142 → j ≠ 149 → z27[j]? = zs[j]?) ∧ jn_vm_is_27 nf a1 a2 v98 v138 v139 v141 v142 v149 f153 f154 f150 f102 f100 f104 f144 f105 f145 f146 f147 f151 f110 f152 nS477 fS477 l1_27 l3_27 s0_27 g144_27 g145_27 g146_27 g147_27 g152_27 g153_27 g154_27 x138_27 x139_27 x141_27 x142_27 x149_27 = some (r0, o144, o145, o146, o147, o152, o153, o154, w138, w139, w141, w142, w149)) ?_ ?_
  · intro x9 hJ9
    obtain ⟨H, locs, ls, z27, l1_27, l3_27, s0_27, g144_27, g145_27, g146_27, g147_27, g152_27, g153_27, g154_27, x138_27, x139_27, x141_27, x142_27, x149_27⟩ := x9
    obtain ⟨hl, hS, hD, hP, hfh_27_98, hfh_27_100, hfh_27_102, hfh_27_104, hfh_27_105, hfh_27_110, hfh_27_138, hfh_27_139, hfh_27_141, hfh_27_142, hfh_27_144, hfh_27_145, hfh_27_146, hfh_27_147, hfh_27_149, hfh_27_150, hfh_27_151, hfh_27_152, hfh_27_153, hfh_27_154, hlh_27, hrh_27, hsp⟩ := hJ9
    replace hl : lv_has ls 5 [(0, .ref h0), (1, .int l1_27), (3, .int l3_27)] := hl
    replace hS : va_S A s.heap H locs := hS
    replace hD : va_D A [(h0, .inr (13, z27)), (qf153, .inl (cf153, 60, .inl g153_27)), (qf154, .inl (cf154, 3600, .inl g154_27)), (qf150, .inl (cf150, 60, .inl f150)), (qf102, .inl (cf102, 2048, .inl f102)), (qf100, .inl (cf100, 48000, .inl f100)), (qf104, .inl (cf104, 8, .inl f104)), (qf144, .inl (cf144, 2001, .inl g144_27)), (qf105, .inl (cf105, 8, .inl f105)), (qf145, .inl (cf145, 2001, .inl g145_27)), (qf146, .inl (cf146, 2001, .inl g146_27)), (qf147, .inl (cf147, 20000, .inl g147_27)), (qf151, .inl (cf151, 60, .inl f151)), (qf110, .inl (cf110, 96, .inl f110)), (qf152, .inl (cf152, 60, .inl g152_27))] := hD
    replace hP : va_P (dC, dI) vwCl [(h0, .inr (13, z27)), (qf153, .inl (cf153, 60, .inl g153_27)), (qf154, .inl (cf154, 3600, .inl g154_27)), (qf150, .inl (cf150, 60, .inl f150)), (qf102, .inl (cf102, 2048, .inl f102)), (qf100, .inl (cf100, 48000, .inl f100)), (qf104, .inl (cf104, 8, .inl f104)), (qf144, .inl (cf144, 2001, .inl g144_27)), (qf105, .inl (cf105, 8, .inl f105)), (qf145, .inl (cf145, 2001, .inl g145_27)), (qf146, .inl (cf146, 2001, .inl g146_27)), (qf147, .inl (cf147, 20000, .inl g147_27)), (qf151, .inl (cf151, 60, .inl f151)), (qf110, .inl (cf110, 96, .inl f110)), (qf152, .inl (cf152, 60, .inl g152_27))] H := hP
    replace hsp : jn_vm_is_27 nf a1 a2 v98 v138 v139 v141 v142 v149 f153 f154 f150 f102 f100 f104 f144 f105 f145 f146 f147 f151 f110 f152 nS477 fS477 l1_27 l3_27 s0_27 g144_27 g145_27 g146_27 g147_27 g152_27 g153_27 g154_27 x138_27 x139_27 x141_27 x142_27 x149_27 = some (r0, o144, o145, o146, o147, o152, o153, o154, w138, w139, w141, w142, w149) := hsp
    show W _ _ _ _ _ _ _ _ _ _ H locs _ _ _ (F0 m 27 ls [.int s0_27])
    unfold jn_vm_is_27 at hsp
    try dsimp only at hsp
    refine lv_istore (lv' := [(4, .int s0_27), (0, .ref h0), (1, .int l1_27), (3, .int l3_27)]) hx hb dX13_is_27 hl (by decide) rfl (fun ls hl => ?_)
    refine lv_iload_n hx hb dX13_is_29 rfl (lv_at hl 2 rfl) ?_
    refine lv_sipush (v := 193) hx hb dX13_is_30 (by decide) ?_
    refine lv_icmp_ne (tgt := 52) hx hb dX13_is_33 (by decide) (fun c_7 => ?_) (fun c_7 => ?_)
    · rw [if_neg c_7] at hsp
      refine lv_iload_n hx hb dX13_is_52 rfl (lv_at hl 3 rfl) ?_
      refine lv_if_eq (tgt := 68) hx hb dX13_is_53 (by decide) (fun c_8 => ?_) (fun c_8 => ?_)
      · rw [if_pos c_8] at hsp
        refine lv_aload_n hx hb dX13_is_68 rfl (lv_at hl 1 rfl) ?_
        refine lv_iload_n hx hb dX13_is_69 rfl (lv_at hl 3 rfl) ?_
        obtain ⟨⟨g904_0, g904_1⟩, hu_4, hsp⟩ := ox_bind hsp
        try dsimp only at hsp
        have hPc := hP.sub (ws' := [(h0, .inr (13, z27)), (qf153, .inl (cf153, 60, .inl g153_27)), (qf154, .inl (cf154, 3600, .inl g154_27))]) [0, 1, 2] rfl
        have hDc := hD.sub (ws' := [(h0, .inr (13, z27)), (qf153, .inl (cf153, 60, .inl g153_27)), (qf154, .inl (cf154, 3600, .inl g154_27))]) [0, 1, 2] (by decide) rfl
        have hKc := hK.sub (tys' := [(cf153, .int), (cf154, .int)]) [0, 1] rfl
        have hFc := va_free (wc := [(h0, .inr (13, z27)), (qf153, .inl (cf153, 60, .inl g153_27)), (qf154, .inl (cf154, 3600, .inl g154_27))]) hD hS hA [0, 1, 2] rfl
        refine va_callv (va_runV (As := [.int l3_27]) (rest := []) ⟨hx, hb, hml, hown, hts⟩ (tm_give l dC dI H.size h0 z27 l3_27 x149_27 qf153 qf154 cf153 g153_27 cf154 g154_27 nf g904_0 g904_1 hlh_27 hfh_27_149 hfh_27_153 hfh_27_154 hu_4) (cwV 1 hts gv_h9_116 rfl rfl rfl (by decide +kernel) ⟨Nat.le_of_ble_eq_true rfl, Nat.le_of_ble_eq_true rfl⟩) ⟨fun a U g mk q => by obtain ⟨q0, q1, qP, qK, qD⟩ := q; exact ⟨q0, q1, qP, va_K.moved (u := U) (U := U.calling g mk a) (Vm.Alike.refl U.vm) qK, qD⟩, va_recv hKc hPc (ci := 13) (q0 := 0) rfl rfl, fun U hU hW => ⟨rfl, by rw [hU], by rw [hU]; exact hPc, va_K.moved hW.alike hKc, hDc.weaken (fun _ _ _ _ => trivial)⟩⟩ rfl rfl hl.1 rfl (lv_room (Nat.le_of_ble_eq_true rfl)) dX13_is_70 ⟨Nat.le_of_ble_eq_true rfl, Nat.le_of_ble_eq_true rfl⟩) hS (fun q _ h => hFc q h) hFc ?_
        clear hS
        intro u t H1 locs ht hvm hw hB hz1 hk1 hS
        obtain ⟨z_4, rfl⟩ : ∃ z, z = u := ⟨_, rfl⟩
        obtain ⟨hP1, hK1, hD1⟩ := hB
        rw [ht] at hP1
        have hK1 := va_K.moved hvm.symm hK1
        try dsimp only at hw
        have hPD := va_join (wr := [(qf150, .inl (cf150, 60, .inl f150)), (qf102, .inl (cf102, 2048, .inl f102)), (qf100, .inl (cf100, 48000, .inl f100)), (qf104, .inl (cf104, 8, .inl f104)), (qf144, .inl (cf144, 2001, .inl g144_27)), (qf105, .inl (cf105, 8, .inl f105)), (qf145, .inl (cf145, 2001, .inl g145_27)), (qf146, .inl (cf146, 2001, .inl g146_27)), (qf147, .inl (cf147, 20000, .inl g147_27)), (qf151, .inl (cf151, 60, .inl f151)), (qf110, .inl (cf110, 96, .inl f110)), (qf152, .inl (cf152, 60, .inl g152_27))]) (w1 := [(h0, .inr (13, z_4)), (qf153, .inl (cf153, 60, .inl g904_0)), (qf154, .inl (cf154, 3600, .inl g904_1))]) hP hD [0, 1, 2] [3, 4, 5, 6, 7, 8, 9, 10, 11, 12, 13, 14] rfl rfl (by decide) (by decide) hk1 hFc hP1 hD1
        clear hP hD
        obtain ⟨hP, hD⟩ := hPD
        replace hK := (hK.sub (tys' := [(cf150, .int), (cf102, .int), (cf100, .int), (cf104, .int), (cf144, .int), (cf105, .int), (cf145, .int), (cf146, .int), (cf147, .int), (cf151, .int), (cf110, .int), (cf152, .int)]) [2, 3, 4, 5, 6, 7, 8, 9, 10, 11, 12, 13] rfl).app hK1
        clear hPc hDc hKc hFc hP1 hK1 hD1 hz1 hk1 ht hvm
        generalize H1 = H at hP hS ⊢
        replace hP : va_P (dC, dI) vwCl [(qf150, .inl (cf150, 60, .inl f150)), (qf102, .inl (cf102, 2048, .inl f102)), (qf100, .inl (cf100, 48000, .inl f100)), (qf104, .inl (cf104, 8, .inl f104)), (qf144, .inl (cf144, 2001, .inl g144_27)), (qf105, .inl (cf105, 8, .inl f105)), (qf145, .inl (cf145, 2001, .inl g145_27)), (qf146, .inl (cf146, 2001, .inl g146_27)), (qf147, .inl (cf147, 20000, .inl g147_27)), (qf151, .inl (cf151, 60, .inl f151)), (qf110, .inl (cf110, 96, .inl f110)), (qf152, .inl (cf152, 60, .inl g152_27)), (h0, .inr (13, z_4)), (qf153, .inl (cf153, 60, .inl g904_0)), (qf154, .inl (cf154, 3600, .inl g904_1))] H := hP
        replace hD : va_D A [(qf150, .inl (cf150, 60, .inl f150)), (qf102, .inl (cf102, 2048, .inl f102)), (qf100, .inl (cf100, 48000, .inl f100)), (qf104, .inl (cf104, 8, .inl f104)), (qf144, .inl (cf144, 2001, .inl g144_27)), (qf105, .inl (cf105, 8, .inl f105)), (qf145, .inl (cf145, 2001, .inl g145_27)), (qf146, .inl (cf146, 2001, .inl g146_27)), (qf147, .inl (cf147, 20000, .inl g147_27)), (qf151, .inl (cf151, 60, .inl f151)), (qf110, .inl (cf110, 96, .inl f110)), (qf152, .inl (cf152, 60, .inl g152_27)), (h0, .inr (13, z_4)), (qf153, .inl (cf153, 60, .inl g904_0)), (qf154, .inl (cf154, 3600, .inl g904_1))] := hD
        replace hK : va_K (dC, dI) vwCl [(cf150, .int), (cf102, .int), (cf100, .int), (cf104, .int), (cf144, .int), (cf105, .int), (cf145, .int), (cf146, .int), (cf147, .int), (cf151, .int), (cf110, .int), (cf152, .int), (cf153, .int), (cf154, .int)] s := hK
        obtain ⟨hwa_4, hln_4, hre_4⟩ := hw
        have hfk_4_98 : z_4[98]? = some (.int v98) := (hre_4 98 ).trans (hfh_27_98)
        have hfk_4_100 : z_4[100]? = some (.ref qf100) := (hre_4 100 ).trans (hfh_27_100)
        have hfk_4_102 : z_4[102]? = some (.ref qf102) := (hre_4 102 ).trans (hfh_27_102)
        have hfk_4_104 : z_4[104]? = some (.ref qf104) := (hre_4 104 ).trans (hfh_27_104)
        have hfk_4_105 : z_4[105]? = some (.ref qf105) := (hre_4 105 ).trans (hfh_27_105)
        have hfk_4_110 : z_4[110]? = some (.ref qf110) := (hre_4 110 ).trans (hfh_27_110)
        have hfk_4_138 : z_4[138]? = some (.int x138_27) := (hre_4 138 ).trans (hfh_27_138)
        have hfk_4_139 : z_4[139]? = some (.int x139_27) := (hre_4 139 ).trans (hfh_27_139)
        have hfk_4_141 : z_4[141]? = some (.int x141_27) := (hre_4 141 ).trans (hfh_27_141)
        have hfk_4_142 : z_4[142]? = some (.int x142_27) := (hre_4 142 ).trans (hfh_27_142)
        have hfk_4_144 : z_4[144]? = some (.ref qf144) := (hre_4 144 ).trans (hfh_27_144)
        have hfk_4_145 : z_4[145]? = some (.ref qf145) := (hre_4 145 ).trans (hfh_27_145)
        have hfk_4_146 : z_4[146]? = some (.ref qf146) := (hre_4 146 ).trans (hfh_27_146)
        have hfk_4_147 : z_4[147]? = some (.ref qf147) := (hre_4 147 ).trans (hfh_27_147)
        have hfk_4_149 : z_4[149]? = some (.int x149_27) := (hre_4 149 ).trans (hfh_27_149)
        have hfk_4_150 : z_4[150]? = some (.ref qf150) := (hre_4 150 ).trans (hfh_27_150)
        have hfk_4_151 : z_4[151]? = some (.ref qf151) := (hre_4 151 ).trans (hfh_27_151)
        have hfk_4_152 : z_4[152]? = some (.ref qf152) := (hre_4 152 ).trans (hfh_27_152)
        have hfk_4_153 : z_4[153]? = some (.ref qf153) := (hre_4 153 ).trans (hfh_27_153)
        have hfk_4_154 : z_4[154]? = some (.ref qf154) := (hre_4 154 ).trans (hfh_27_154)
        have hrq_4 : ∀ j : Nat, j ≠ 138 → j ≠ 139 → j ≠ 141 → j ≠ 142 → j ≠ 149 → z_4[j]? = zs[j]? := fun j g138 g139 g141 g142 g149 => (hre_4 j ).trans (hrh_27 j g138 g139 g141 g142 g149)
        refine lv_iconst (v := 1) hx hb dX13_is_73 (by decide) ?_
        have hr0 := Option.some.inj hsp
        clear hsp
        obtain ⟨hq0, hr1⟩ := Prod.mk.inj hr0
        clear hr0
        obtain ⟨hq1, hr2⟩ := Prod.mk.inj hr1
        clear hr1
        obtain ⟨hq2, hr3⟩ := Prod.mk.inj hr2
        clear hr2
        obtain ⟨hq3, hr4⟩ := Prod.mk.inj hr3
        clear hr3
        obtain ⟨hq4, hr5⟩ := Prod.mk.inj hr4
        clear hr4
        obtain ⟨hq5, hr6⟩ := Prod.mk.inj hr5
        clear hr5
        obtain ⟨hq6, hr7⟩ := Prod.mk.inj hr6
        clear hr6
        obtain ⟨hq7, hr8⟩ := Prod.mk.inj hr7
        clear hr7
        obtain ⟨hq8, hr9⟩ := Prod.mk.inj hr8
        clear hr8
        obtain ⟨hq9, hr10⟩ := Prod.mk.inj hr9
        clear hr9
        obtain ⟨hq10, hr11⟩ := Prod.mk.inj hr10
        clear hr10
        obtain ⟨hq11, hr12⟩ := Prod.mk.inj hr11
        clear hr11
        subst hq0
        subst hq1
        subst hq2
        subst hq3
        subst hq4
        subst hq5
        subst hq6
        subst hq7
        subst hq8
        subst hq9
        subst hq10
        subst hq11
        subst hr12
        have hP9 := hP.sub (ws' := [(h0, .inr (13, z_4)), (qf153, .inl (cf153, 60, .inl g904_0)), (qf154, .inl (cf154, 3600, .inl g904_1)), (qf150, .inl (cf150, 60, .inl f150)), (qf102, .inl (cf102, 2048, .inl f102)), (qf100, .inl (cf100, 48000, .inl f100)), (qf104, .inl (cf104, 8, .inl f104)), (qf144, .inl (cf144, 2001, .inl g144_27)), (qf105, .inl (cf105, 8, .inl f105)), (qf145, .inl (cf145, 2001, .inl g145_27)), (qf146, .inl (cf146, 2001, .inl g146_27)), (qf147, .inl (cf147, 20000, .inl g147_27)), (qf151, .inl (cf151, 60, .inl f151)), (qf110, .inl (cf110, 96, .inl f110)), (qf152, .inl (cf152, 60, .inl g152_27))]) [12, 13, 14, 0, 1, 2, 3, 4, 5, 6, 7, 8, 9, 10, 11] rfl
        have hD9 := hD.sub (ws' := [(h0, .inr (13, z_4)), (qf153, .inl (cf153, 60, .inl g904_0)), (qf154, .inl (cf154, 3600, .inl g904_1)), (qf150, .inl (cf150, 60, .inl f150)), (qf102, .inl (cf102, 2048, .inl f102)), (qf100, .inl (cf100, 48000, .inl f100)), (qf104, .inl (cf104, 8, .inl f104)), (qf144, .inl (cf144, 2001, .inl g144_27)), (qf105, .inl (cf105, 8, .inl f105)), (qf145, .inl (cf145, 2001, .inl g145_27)), (qf146, .inl (cf146, 2001, .inl g146_27)), (qf147, .inl (cf147, 20000, .inl g147_27)), (qf151, .inl (cf151, 60, .inl f151)), (qf110, .inl (cf110, 96, .inl f110)), (qf152, .inl (cf152, 60, .inl g152_27))]) [12, 13, 14, 0, 1, 2, 3, 4, 5, 6, 7, 8, 9, 10, 11] (by decide) rfl
        have hK9 := hK.sub (tys' := [(cf153, .int), (cf154, .int), (cf150, .int), (cf102, .int), (cf100, .int), (cf104, .int), (cf144, .int), (cf105, .int), (cf145, .int), (cf146, .int), (cf147, .int), (cf151, .int), (cf110, .int), (cf152, .int)]) [12, 13, 0, 1, 2, 3, 4, 5, 6, 7, 8, 9, 10, 11] rfl
        exact W.zret hx hb hr (by decide) (fun t ht hW => ⟨⟨(1), (z_4), rfl, ⟨⟨rfl, Or.inr rfl⟩, hln_4, hrq_4, hfk_4_138, hfk_4_139, hfk_4_141, hfk_4_142, hfk_4_149⟩, by rw [ht]; exact hP9, va_K.moved hW.alike hK9, hD9⟩, hS.F ht⟩) hS.2.2 dX13_is_74
      · rw [if_neg c_8] at hsp
        refine lv_iload hx hb dX13_is_56 (lv_at hl 0 rfl) ?_
        refine lv_if_ne (tgt := 68) hx hb dX13_is_58 (by decide) (fun c_9 => ?_) (fun c_9 => ?_)
        · rw [if_neg c_9] at hsp
          refine lv_aload_n hx hb dX13_is_68 rfl (lv_at hl 1 rfl) ?_
          refine lv_iload_n hx hb dX13_is_69 rfl (lv_at hl 3 rfl) ?_
          obtain ⟨⟨g905_0, g905_1⟩, hu_5, hsp⟩ := ox_bind hsp
          try dsimp only at hsp
          have hPc := hP.sub (ws' := [(h0, .inr (13, z27)), (qf153, .inl (cf153, 60, .inl g153_27)), (qf154, .inl (cf154, 3600, .inl g154_27))]) [0, 1, 2] rfl
          have hDc := hD.sub (ws' := [(h0, .inr (13, z27)), (qf153, .inl (cf153, 60, .inl g153_27)), (qf154, .inl (cf154, 3600, .inl g154_27))]) [0, 1, 2] (by decide) rfl
          have hKc := hK.sub (tys' := [(cf153, .int), (cf154, .int)]) [0, 1] rfl
          have hFc := va_free (wc := [(h0, .inr (13, z27)), (qf153, .inl (cf153, 60, .inl g153_27)), (qf154, .inl (cf154, 3600, .inl g154_27))]) hD hS hA [0, 1, 2] rfl
          refine va_callv (va_runV (As := [.int l3_27]) (rest := []) ⟨hx, hb, hml, hown, hts⟩ (tm_give l dC dI H.size h0 z27 l3_27 x149_27 qf153 qf154 cf153 g153_27 cf154 g154_27 nf g905_0 g905_1 hlh_27 hfh_27_149 hfh_27_153 hfh_27_154 hu_5) (cwV 1 hts gv_h9_116 rfl rfl rfl (by decide +kernel) ⟨Nat.le_of_ble_eq_true rfl, Nat.le_of_ble_eq_true rfl⟩) ⟨fun a U g mk q => by obtain ⟨q0, q1, qP, qK, qD⟩ := q; exact ⟨q0, q1, qP, va_K.moved (u := U) (U := U.calling g mk a) (Vm.Alike.refl U.vm) qK, qD⟩, va_recv hKc hPc (ci := 13) (q0 := 0) rfl rfl, fun U hU hW => ⟨rfl, by rw [hU], by rw [hU]; exact hPc, va_K.moved hW.alike hKc, hDc.weaken (fun _ _ _ _ => trivial)⟩⟩ rfl rfl hl.1 rfl (lv_room (Nat.le_of_ble_eq_true rfl)) dX13_is_70 ⟨Nat.le_of_ble_eq_true rfl, Nat.le_of_ble_eq_true rfl⟩) hS (fun q _ h => hFc q h) hFc ?_
          clear hS
          intro u t H1 locs ht hvm hw hB hz1 hk1 hS
          obtain ⟨z_5, rfl⟩ : ∃ z, z = u := ⟨_, rfl⟩
          obtain ⟨hP1, hK1, hD1⟩ := hB
          rw [ht] at hP1
          have hK1 := va_K.moved hvm.symm hK1
          try dsimp only at hw
          have hPD := va_join (wr := [(qf150, .inl (cf150, 60, .inl f150)), (qf102, .inl (cf102, 2048, .inl f102)), (qf100, .inl (cf100, 48000, .inl f100)), (qf104, .inl (cf104, 8, .inl f104)), (qf144, .inl (cf144, 2001, .inl g144_27)), (qf105, .inl (cf105, 8, .inl f105)), (qf145, .inl (cf145, 2001, .inl g145_27)), (qf146, .inl (cf146, 2001, .inl g146_27)), (qf147, .inl (cf147, 20000, .inl g147_27)), (qf151, .inl (cf151, 60, .inl f151)), (qf110, .inl (cf110, 96, .inl f110)), (qf152, .inl (cf152, 60, .inl g152_27))]) (w1 := [(h0, .inr (13, z_5)), (qf153, .inl (cf153, 60, .inl g905_0)), (qf154, .inl (cf154, 3600, .inl g905_1))]) hP hD [0, 1, 2] [3, 4, 5, 6, 7, 8, 9, 10, 11, 12, 13, 14] rfl rfl (by decide) (by decide) hk1 hFc hP1 hD1
          clear hP hD
          obtain ⟨hP, hD⟩ := hPD
          replace hK := (hK.sub (tys' := [(cf150, .int), (cf102, .int), (cf100, .int), (cf104, .int), (cf144, .int), (cf105, .int), (cf145, .int), (cf146, .int), (cf147, .int), (cf151, .int), (cf110, .int), (cf152, .int)]) [2, 3, 4, 5, 6, 7, 8, 9, 10, 11, 12, 13] rfl).app hK1
          clear hPc hDc hKc hFc hP1 hK1 hD1 hz1 hk1 ht hvm
          generalize H1 = H at hP hS ⊢
          replace hP : va_P (dC, dI) vwCl [(qf150, .inl (cf150, 60, .inl f150)), (qf102, .inl (cf102, 2048, .inl f102)), (qf100, .inl (cf100, 48000, .inl f100)), (qf104, .inl (cf104, 8, .inl f104)), (qf144, .inl (cf144, 2001, .inl g144_27)), (qf105, .inl (cf105, 8, .inl f105)), (qf145, .inl (cf145, 2001, .inl g145_27)), (qf146, .inl (cf146, 2001, .inl g146_27)), (qf147, .inl (cf147, 20000, .inl g147_27)), (qf151, .inl (cf151, 60, .inl f151)), (qf110, .inl (cf110, 96, .inl f110)), (qf152, .inl (cf152, 60, .inl g152_27)), (h0, .inr (13, z_5)), (qf153, .inl (cf153, 60, .inl g905_0)), (qf154, .inl (cf154, 3600, .inl g905_1))] H := hP
          replace hD : va_D A [(qf150, .inl (cf150, 60, .inl f150)), (qf102, .inl (cf102, 2048, .inl f102)), (qf100, .inl (cf100, 48000, .inl f100)), (qf104, .inl (cf104, 8, .inl f104)), (qf144, .inl (cf144, 2001, .inl g144_27)), (qf105, .inl (cf105, 8, .inl f105)), (qf145, .inl (cf145, 2001, .inl g145_27)), (qf146, .inl (cf146, 2001, .inl g146_27)), (qf147, .inl (cf147, 20000, .inl g147_27)), (qf151, .inl (cf151, 60, .inl f151)), (qf110, .inl (cf110, 96, .inl f110)), (qf152, .inl (cf152, 60, .inl g152_27)), (h0, .inr (13, z_5)), (qf153, .inl (cf153, 60, .inl g905_0)), (qf154, .inl (cf154, 3600, .inl g905_1))] := hD
          replace hK : va_K (dC, dI) vwCl [(cf150, .int), (cf102, .int), (cf100, .int), (cf104, .int), (cf144, .int), (cf105, .int), (cf145, .int), (cf146, .int), (cf147, .int), (cf151, .int), (cf110, .int), (cf152, .int), (cf153, .int), (cf154, .int)] s := hK
          obtain ⟨hwa_5, hln_5, hre_5⟩ := hw
          have hfk_5_98 : z_5[98]? = some (.int v98) := (hre_5 98 ).trans (hfh_27_98)
          have hfk_5_100 : z_5[100]? = some (.ref qf100) := (hre_5 100 ).trans (hfh_27_100)
          have hfk_5_102 : z_5[102]? = some (.ref qf102) := (hre_5 102 ).trans (hfh_27_102)
          have hfk_5_104 : z_5[104]? = some (.ref qf104) := (hre_5 104 ).trans (hfh_27_104)
          have hfk_5_105 : z_5[105]? = some (.ref qf105) := (hre_5 105 ).trans (hfh_27_105)
          have hfk_5_110 : z_5[110]? = some (.ref qf110) := (hre_5 110 ).trans (hfh_27_110)
          have hfk_5_138 : z_5[138]? = some (.int x138_27) := (hre_5 138 ).trans (hfh_27_138)
          have hfk_5_139 : z_5[139]? = some (.int x139_27) := (hre_5 139 ).trans (hfh_27_139)
          have hfk_5_141 : z_5[141]? = some (.int x141_27) := (hre_5 141 ).trans (hfh_27_141)
          have hfk_5_142 : z_5[142]? = some (.int x142_27) := (hre_5 142 ).trans (hfh_27_142)
          have hfk_5_144 : z_5[144]? = some (.ref qf144) := (hre_5 144 ).trans (hfh_27_144)
          have hfk_5_145 : z_5[145]? = some (.ref qf145) := (hre_5 145 ).trans (hfh_27_145)
          have hfk_5_146 : z_5[146]? = some (.ref qf146) := (hre_5 146 ).trans (hfh_27_146)
          have hfk_5_147 : z_5[147]? = some (.ref qf147) := (hre_5 147 ).trans (hfh_27_147)
          have hfk_5_149 : z_5[149]? = some (.int x149_27) := (hre_5 149 ).trans (hfh_27_149)
          have hfk_5_150 : z_5[150]? = some (.ref qf150) := (hre_5 150 ).trans (hfh_27_150)
          have hfk_5_151 : z_5[151]? = some (.ref qf151) := (hre_5 151 ).trans (hfh_27_151)
          have hfk_5_152 : z_5[152]? = some (.ref qf152) := (hre_5 152 ).trans (hfh_27_152)
          have hfk_5_153 : z_5[153]? = some (.ref qf153) := (hre_5 153 ).trans (hfh_27_153)
          have hfk_5_154 : z_5[154]? = some (.ref qf154) := (hre_5 154 ).trans (hfh_27_154)
          have hrq_5 : ∀ j : Nat, j ≠ 138 → j ≠ 139 → j ≠ 141 → j ≠ 142 → j ≠ 149 → z_5[j]? = zs[j]? := fun j g138 g139 g141 g142 g149 => (hre_5 j ).trans (hrh_27 j g138 g139 g141 g142 g149)
          refine lv_iconst (v := 1) hx hb dX13_is_73 (by decide) ?_
          have hr0 := Option.some.inj hsp
          clear hsp
          obtain ⟨hq0, hr1⟩ := Prod.mk.inj hr0
          clear hr0
          obtain ⟨hq1, hr2⟩ := Prod.mk.inj hr1
          clear hr1
          obtain ⟨hq2, hr3⟩ := Prod.mk.inj hr2
          clear hr2
          obtain ⟨hq3, hr4⟩ := Prod.mk.inj hr3
          clear hr3
          obtain ⟨hq4, hr5⟩ := Prod.mk.inj hr4
          clear hr4
          obtain ⟨hq5, hr6⟩ := Prod.mk.inj hr5
          clear hr5
          obtain ⟨hq6, hr7⟩ := Prod.mk.inj hr6
          clear hr6
          obtain ⟨hq7, hr8⟩ := Prod.mk.inj hr7
          clear hr7
          obtain ⟨hq8, hr9⟩ := Prod.mk.inj hr8
          clear hr8
          obtain ⟨hq9, hr10⟩ := Prod.mk.inj hr9
          clear hr9
          obtain ⟨hq10, hr11⟩ := Prod.mk.inj hr10
          clear hr10
          obtain ⟨hq11, hr12⟩ := Prod.mk.inj hr11
          clear hr11
          subst hq0
          subst hq1
          subst hq2
          subst hq3
          subst hq4
          subst hq5
          subst hq6
          subst hq7
          subst hq8
          subst hq9
          subst hq10
          subst hq11
          subst hr12
          have hP9 := hP.sub (ws' := [(h0, .inr (13, z_5)), (qf153, .inl (cf153, 60, .inl g905_0)), (qf154, .inl (cf154, 3600, .inl g905_1)), (qf150, .inl (cf150, 60, .inl f150)), (qf102, .inl (cf102, 2048, .inl f102)), (qf100, .inl (cf100, 48000, .inl f100)), (qf104, .inl (cf104, 8, .inl f104)), (qf144, .inl (cf144, 2001, .inl g144_27)), (qf105, .inl (cf105, 8, .inl f105)), (qf145, .inl (cf145, 2001, .inl g145_27)), (qf146, .inl (cf146, 2001, .inl g146_27)), (qf147, .inl (cf147, 20000, .inl g147_27)), (qf151, .inl (cf151, 60, .inl f151)), (qf110, .inl (cf110, 96, .inl f110)), (qf152, .inl (cf152, 60, .inl g152_27))]) [12, 13, 14, 0, 1, 2, 3, 4, 5, 6, 7, 8, 9, 10, 11] rfl
          have hD9 := hD.sub (ws' := [(h0, .inr (13, z_5)), (qf153, .inl (cf153, 60, .inl g905_0)), (qf154, .inl (cf154, 3600, .inl g905_1)), (qf150, .inl (cf150, 60, .inl f150)), (qf102, .inl (cf102, 2048, .inl f102)), (qf100, .inl (cf100, 48000, .inl f100)), (qf104, .inl (cf104, 8, .inl f104)), (qf144, .inl (cf144, 2001, .inl g144_27)), (qf105, .inl (cf105, 8, .inl f105)), (qf145, .inl (cf145, 2001, .inl g145_27)), (qf146, .inl (cf146, 2001, .inl g146_27)), (qf147, .inl (cf147, 20000, .inl g147_27)), (qf151, .inl (cf151, 60, .inl f151)), (qf110, .inl (cf110, 96, .inl f110)), (qf152, .inl (cf152, 60, .inl g152_27))]) [12, 13, 14, 0, 1, 2, 3, 4, 5, 6, 7, 8, 9, 10, 11] (by decide) rfl
          have hK9 := hK.sub (tys' := [(cf153, .int), (cf154, .int), (cf150, .int), (cf102, .int), (cf100, .int), (cf104, .int), (cf144, .int), (cf105, .int), (cf145, .int), (cf146, .int), (cf147, .int), (cf151, .int), (cf110, .int), (cf152, .int)]) [12, 13, 0, 1, 2, 3, 4, 5, 6, 7, 8, 9, 10, 11] rfl
          exact W.zret hx hb hr (by decide) (fun t ht hW => ⟨⟨(1), (z_5), rfl, ⟨⟨rfl, Or.inr rfl⟩, hln_5, hrq_5, hfk_5_138, hfk_5_139, hfk_5_141, hfk_5_142, hfk_5_149⟩, by rw [ht]; exact hP9, va_K.moved hW.alike hK9, hD9⟩, hS.F ht⟩) hS.2.2 dX13_is_74
        · rw [if_pos c_9] at hsp
          refine lv_aload_n hx hb dX13_is_61 rfl (lv_at hl 1 rfl) ?_
          refine lv_iconst (v := 5) hx hb dX13_is_62 (by decide) ?_
          obtain ⟨⟨g906_0, g906_1, g906_2, g906_3, g906_4, g906_5, g906_6, u6_7, u6_8, u6_9, u6_10, u6_11⟩, hu_6, hsp⟩ := ox_bind hsp
          try dsimp only at hsp
          have hPc := hP.sub (ws' := [(h0, .inr (13, z27)), (qf144, .inl (cf144, 2001, .inl g144_27)), (qf145, .inl (cf145, 2001, .inl g145_27)), (qf146, .inl (cf146, 2001, .inl g146_27)), (qf147, .inl (cf147, 20000, .inl g147_27)), (qf150, .inl (cf150, 60, .inl f150)), (qf151, .inl (cf151, 60, .inl f151)), (qf110, .inl (cf110, 96, .inl f110)), (qf100, .inl (cf100, 48000, .inl f100)), (qf152, .inl (cf152, 60, .inl g152_27)), (qf102, .inl (cf102, 2048, .inl f102)), (qf104, .inl (cf104, 8, .inl f104)), (qf105, .inl (cf105, 8, .inl f105)), (qf153, .inl (cf153, 60, .inl g153_27)), (qf154, .inl (cf154, 3600, .inl g154_27))]) [0, 7, 9, 10, 11, 3, 12, 13, 5, 14, 4, 6, 8, 1, 2] rfl
          have hDc := hD.sub (ws' := [(h0, .inr (13, z27)), (qf144, .inl (cf144, 2001, .inl g144_27)), (qf145, .inl (cf145, 2001, .inl g145_27)), (qf146, .inl (cf146, 2001, .inl g146_27)), (qf147, .inl (cf147, 20000, .inl g147_27)), (qf150, .inl (cf150, 60, .inl f150)), (qf151, .inl (cf151, 60, .inl f151)), (qf110, .inl (cf110, 96, .inl f110)), (qf100, .inl (cf100, 48000, .inl f100)), (qf152, .inl (cf152, 60, .inl g152_27)), (qf102, .inl (cf102, 2048, .inl f102)), (qf104, .inl (cf104, 8, .inl f104)), (qf105, .inl (cf105, 8, .inl f105)), (qf153, .inl (cf153, 60, .inl g153_27)), (qf154, .inl (cf154, 3600, .inl g154_27))]) [0, 7, 9, 10, 11, 3, 12, 13, 5, 14, 4, 6, 8, 1, 2] (by decide) rfl
          have hKc := hK.sub (tys' := [(cf144, .int), (cf145, .int), (cf146, .int), (cf147, .int), (cf150, .int), (cf151, .int), (cf110, .int), (cf100, .int), (cf152, .int), (cf102, .int), (cf104, .int), (cf105, .int), (cf153, .int), (cf154, .int)]) [6, 8, 9, 10, 2, 11, 12, 4, 13, 3, 5, 7, 0, 1] rfl
          have hFc := va_free (wc := [(h0, .inr (13, z27)), (qf144, .inl (cf144, 2001, .inl g144_27)), (qf145, .inl (cf145, 2001, .inl g145_27)), (qf146, .inl (cf146, 2001, .inl g146_27)), (qf147, .inl (cf147, 20000, .inl g147_27)), (qf150, .inl (cf150, 60, .inl f150)), (qf151, .inl (cf151, 60, .inl f151)), (qf110, .inl (cf110, 96, .inl f110)), (qf100, .inl (cf100, 48000, .inl f100)), (qf152, .inl (cf152, 60, .inl g152_27)), (qf102, .inl (cf102, 2048, .inl f102)), (qf104, .inl (cf104, 8, .inl f104)), (qf105, .inl (cf105, 8, .inl f105)), (qf153, .inl (cf153, 60, .inl g153_27)), (qf154, .inl (cf154, 3600, .inl g154_27))]) hD hS hA [0, 7, 9, 10, 11, 3, 12, 13, 5, 14, 4, 6, 8, 1, 2] rfl
          refine va_callv (va_runV (As := [.int 5]) (rest := []) ⟨hx, hb, hml, hown, hts⟩ (vm_fails l dC dI H.size h0 z27 5 v98 qf100 qf102 qf104 qf105 qf110 x138_27 x139_27 x141_27 x142_27 qf144 qf145 qf146 qf147 x149_27 qf150 qf151 qf152 qf153 qf154 cf144 g144_27 cf145 g145_27 cf146 g146_27 cf147 g147_27 cf150 f150 cf151 f151 cf110 f110 cf100 f100 cf152 g152_27 cf102 f102 cf104 f104 cf105 f105 cf153 g153_27 cf154 g154_27 nS477 fS477 hS477 qS477 tS477 nf g906_0 g906_1 g906_2 g906_3 g906_4 g906_5 g906_6 u6_7 u6_8 u6_9 u6_10 u6_11 hlh_27 hfh_27_98 hfh_27_100 hfh_27_102 hfh_27_104 hfh_27_105 hfh_27_110 hfh_27_138 hfh_27_139 hfh_27_141 hfh_27_142 hfh_27_144 hfh_27_145 hfh_27_146 hfh_27_147 hfh_27_149 hfh_27_150 hfh_27_151 hfh_27_152 hfh_27_153 hfh_27_154 hu_6) (cwV 1 hts gv_h9_125 rfl rfl rfl (by decide +kernel) ⟨Nat.le_of_ble_eq_true rfl, Nat.le_of_ble_eq_true rfl⟩) ⟨fun a U g mk q => by obtain ⟨q0, q1, qP, qK, qD, qhZWS477, qhZRS477⟩ := q; exact ⟨q0, q1, qP, va_K.moved (u := U) (U := U.calling g mk a) (Vm.Alike.refl U.vm) qK, qD, pz_W.moved (u := U) (U := U.calling g mk a) (Vm.Alike.refl U.vm) qhZWS477, vk_R.same rfl qhZRS477⟩, va_recv hKc hPc (ci := 13) (q0 := 0) rfl rfl, fun U hU hW => ⟨rfl, by rw [hU], by rw [hU]; exact hPc, va_K.moved hW.alike hKc, hDc.weaken (fun _ _ _ _ => trivial), by rw [hU]; exact ((pz_W.moved hW.alike hZWS477).kept hS.2.1).narrow hFc, vk_R.warm hW hZRS477⟩⟩ rfl rfl hl.1 rfl (lv_room (Nat.le_of_ble_eq_true rfl)) dX13_is_63 ⟨Nat.le_of_ble_eq_true rfl, Nat.le_of_ble_eq_true rfl⟩) hS (fun q _ h => hFc q h) hFc ?_
          clear hS
          intro u t H1 locs ht hvm hw hB hz1 hk1 hS
          obtain ⟨z_6, rfl⟩ : ∃ z, z = u := ⟨_, rfl⟩
          obtain ⟨hP1, hK1, hD1⟩ := hB
          rw [ht] at hP1
          have hK1 := va_K.moved hvm.symm hK1
          try dsimp only at hw
          have hPD := va_join (wr := []) (w1 := [(h0, .inr (13, z_6)), (qf144, .inl (cf144, 2001, .inl g906_0)), (qf145, .inl (cf145, 2001, .inl g906_1)), (qf146, .inl (cf146, 2001, .inl g906_2)), (qf147, .inl (cf147, 20000, .inl g906_3)), (qf150, .inl (cf150, 60, .inl f150)), (qf151, .inl (cf151, 60, .inl f151)), (qf110, .inl (cf110, 96, .inl f110)), (qf100, .inl (cf100, 48000, .inl f100)), (qf152, .inl (cf152, 60, .inl g906_4)), (qf102, .inl (cf102, 2048, .inl f102)), (qf104, .inl (cf104, 8, .inl f104)), (qf105, .inl (cf105, 8, .inl f105)), (qf153, .inl (cf153, 60, .inl g906_5)), (qf154, .inl (cf154, 3600, .inl g906_6))]) hP hD [0, 7, 9, 10, 11, 3, 12, 13, 5, 14, 4, 6, 8, 1, 2] [] rfl rfl (by decide) (by decide) hk1 hFc hP1 hD1
          clear hP hD
          obtain ⟨hP, hD⟩ := hPD
          replace hK := (hK.sub (tys' := []) [] rfl).app hK1
          clear hPc hDc hKc hFc hP1 hK1 hD1 hz1 hk1 ht hvm
          generalize H1 = H at hP hS ⊢
          replace hP : va_P (dC, dI) vwCl [(h0, .inr (13, z_6)), (qf144, .inl (cf144, 2001, .inl g906_0)), (qf145, .inl (cf145, 2001, .inl g906_1)), (qf146, .inl (cf146, 2001, .inl g906_2)), (qf147, .inl (cf147, 20000, .inl g906_3)), (qf150, .inl (cf150, 60, .inl f150)), (qf151, .inl (cf151, 60, .inl f151)), (qf110, .inl (cf110, 96, .inl f110)), (qf100, .inl (cf100, 48000, .inl f100)), (qf152, .inl (cf152, 60, .inl g906_4)), (qf102, .inl (cf102, 2048, .inl f102)), (qf104, .inl (cf104, 8, .inl f104)), (qf105, .inl (cf105, 8, .inl f105)), (qf153, .inl (cf153, 60, .inl g906_5)), (qf154, .inl (cf154, 3600, .inl g906_6))] H := hP
          replace hD : va_D A [(h0, .inr (13, z_6)), (qf144, .inl (cf144, 2001, .inl g906_0)), (qf145, .inl (cf145, 2001, .inl g906_1)), (qf146, .inl (cf146, 2001, .inl g906_2)), (qf147, .inl (cf147, 20000, .inl g906_3)), (qf150, .inl (cf150, 60, .inl f150)), (qf151, .inl (cf151, 60, .inl f151)), (qf110, .inl (cf110, 96, .inl f110)), (qf100, .inl (cf100, 48000, .inl f100)), (qf152, .inl (cf152, 60, .inl g906_4)), (qf102, .inl (cf102, 2048, .inl f102)), (qf104, .inl (cf104, 8, .inl f104)), (qf105, .inl (cf105, 8, .inl f105)), (qf153, .inl (cf153, 60, .inl g906_5)), (qf154, .inl (cf154, 3600, .inl g906_6))] := hD
          replace hK : va_K (dC, dI) vwCl [(cf144, .int), (cf145, .int), (cf146, .int), (cf147, .int), (cf150, .int), (cf151, .int), (cf110, .int), (cf100, .int), (cf152, .int), (cf102, .int), (cf104, .int), (cf105, .int), (cf153, .int), (cf154, .int)] s := hK
          obtain ⟨hwa_6, hln_6, hre_6, hch_6_138, hch_6_139, hch_6_141, hch_6_142, hch_6_149⟩ := hw
          have hfk_6_98 : z_6[98]? = some (.int v98) := (hre_6 98 (by decide) (by decide) (by decide) (by decide) (by decide)).trans (hfh_27_98)
          have hfk_6_100 : z_6[100]? = some (.ref qf100) := (hre_6 100 (by decide) (by decide) (by decide) (by decide) (by decide)).trans (hfh_27_100)
          have hfk_6_102 : z_6[102]? = some (.ref qf102) := (hre_6 102 (by decide) (by decide) (by decide) (by decide) (by decide)).trans (hfh_27_102)
          have hfk_6_104 : z_6[104]? = some (.ref qf104) := (hre_6 104 (by decide) (by decide) (by decide) (by decide) (by decide)).trans (hfh_27_104)
          have hfk_6_105 : z_6[105]? = some (.ref qf105) := (hre_6 105 (by decide) (by decide) (by decide) (by decide) (by decide)).trans (hfh_27_105)
          have hfk_6_110 : z_6[110]? = some (.ref qf110) := (hre_6 110 (by decide) (by decide) (by decide) (by decide) (by decide)).trans (hfh_27_110)
          have hfk_6_144 : z_6[144]? = some (.ref qf144) := (hre_6 144 (by decide) (by decide) (by decide) (by decide) (by decide)).trans (hfh_27_144)
          have hfk_6_145 : z_6[145]? = some (.ref qf145) := (hre_6 145 (by decide) (by decide) (by decide) (by decide) (by decide)).trans (hfh_27_145)
          have hfk_6_146 : z_6[146]? = some (.ref qf146) := (hre_6 146 (by decide) (by decide) (by decide) (by decide) (by decide)).trans (hfh_27_146)
          have hfk_6_147 : z_6[147]? = some (.ref qf147) := (hre_6 147 (by decide) (by decide) (by decide) (by decide) (by decide)).trans (hfh_27_147)
          have hfk_6_150 : z_6[150]? = some (.ref qf150) := (hre_6 150 (by decide) (by decide) (by decide) (by decide) (by decide)).trans (hfh_27_150)
          have hfk_6_151 : z_6[151]? = some (.ref qf151) := (hre_6 151 (by decide) (by decide) (by decide) (by decide) (by decide)).trans (hfh_27_151)
          have hfk_6_152 : z_6[152]? = some (.ref qf152) := (hre_6 152 (by decide) (by decide) (by decide) (by decide) (by decide)).trans (hfh_27_152)
          have hfk_6_153 : z_6[153]? = some (.ref qf153) := (hre_6 153 (by decide) (by decide) (by decide) (by decide) (by decide)).trans (hfh_27_153)
          have hfk_6_154 : z_6[154]? = some (.ref qf154) := (hre_6 154 (by decide) (by decide) (by decide) (by decide) (by decide)).trans (hfh_27_154)
          have hrq_6 : ∀ j : Nat, j ≠ 138 → j ≠ 139 → j ≠ 141 → j ≠ 142 → j ≠ 149 → z_6[j]? = zs[j]? := fun j g138 g139 g141 g142 g149 => (hre_6 j g138 g139 g141 g142 g149).trans (hrh_27 j g138 g139 g141 g142 g149)
          refine lv_iconst (v := 0) hx hb dX13_is_66 (by decide) ?_
          have hr0 := Option.some.inj hsp
          clear hsp
          obtain ⟨hq0, hr1⟩ := Prod.mk.inj hr0
          clear hr0
          obtain ⟨hq1, hr2⟩ := Prod.mk.inj hr1
          clear hr1
          obtain ⟨hq2, hr3⟩ := Prod.mk.inj hr2
          clear hr2
          obtain ⟨hq3, hr4⟩ := Prod.mk.inj hr3
          clear hr3
          obtain ⟨hq4, hr5⟩ := Prod.mk.inj hr4
          clear hr4
          obtain ⟨hq5, hr6⟩ := Prod.mk.inj hr5
          clear hr5
          obtain ⟨hq6, hr7⟩ := Prod.mk.inj hr6
          clear hr6
          obtain ⟨hq7, hr8⟩ := Prod.mk.inj hr7
          clear hr7
          obtain ⟨hq8, hr9⟩ := Prod.mk.inj hr8
          clear hr8
          obtain ⟨hq9, hr10⟩ := Prod.mk.inj hr9
          clear hr9
          obtain ⟨hq10, hr11⟩ := Prod.mk.inj hr10
          clear hr10
          obtain ⟨hq11, hr12⟩ := Prod.mk.inj hr11
          clear hr11
          subst hq0
          subst hq1
          subst hq2
          subst hq3
          subst hq4
          subst hq5
          subst hq6
          subst hq7
          subst hq8
          subst hq9
          subst hq10
          subst hq11
          subst hr12
          have hP9 := hP.sub (ws' := [(h0, .inr (13, z_6)), (qf153, .inl (cf153, 60, .inl g906_5)), (qf154, .inl (cf154, 3600, .inl g906_6)), (qf150, .inl (cf150, 60, .inl f150)), (qf102, .inl (cf102, 2048, .inl f102)), (qf100, .inl (cf100, 48000, .inl f100)), (qf104, .inl (cf104, 8, .inl f104)), (qf144, .inl (cf144, 2001, .inl g906_0)), (qf105, .inl (cf105, 8, .inl f105)), (qf145, .inl (cf145, 2001, .inl g906_1)), (qf146, .inl (cf146, 2001, .inl g906_2)), (qf147, .inl (cf147, 20000, .inl g906_3)), (qf151, .inl (cf151, 60, .inl f151)), (qf110, .inl (cf110, 96, .inl f110)), (qf152, .inl (cf152, 60, .inl g906_4))]) [0, 13, 14, 5, 10, 8, 11, 1, 12, 2, 3, 4, 6, 7, 9] rfl
          have hD9 := hD.sub (ws' := [(h0, .inr (13, z_6)), (qf153, .inl (cf153, 60, .inl g906_5)), (qf154, .inl (cf154, 3600, .inl g906_6)), (qf150, .inl (cf150, 60, .inl f150)), (qf102, .inl (cf102, 2048, .inl f102)), (qf100, .inl (cf100, 48000, .inl f100)), (qf104, .inl (cf104, 8, .inl f104)), (qf144, .inl (cf144, 2001, .inl g906_0)), (qf105, .inl (cf105, 8, .inl f105)), (qf145, .inl (cf145, 2001, .inl g906_1)), (qf146, .inl (cf146, 2001, .inl g906_2)), (qf147, .inl (cf147, 20000, .inl g906_3)), (qf151, .inl (cf151, 60, .inl f151)), (qf110, .inl (cf110, 96, .inl f110)), (qf152, .inl (cf152, 60, .inl g906_4))]) [0, 13, 14, 5, 10, 8, 11, 1, 12, 2, 3, 4, 6, 7, 9] (by decide) rfl
          have hK9 := hK.sub (tys' := [(cf153, .int), (cf154, .int), (cf150, .int), (cf102, .int), (cf100, .int), (cf104, .int), (cf144, .int), (cf105, .int), (cf145, .int), (cf146, .int), (cf147, .int), (cf151, .int), (cf110, .int), (cf152, .int)]) [12, 13, 4, 9, 7, 10, 0, 11, 1, 2, 3, 5, 6, 8] rfl
          exact W.zret hx hb hr (by decide) (fun t ht hW => ⟨⟨(0), (z_6), rfl, ⟨⟨rfl, Or.inl rfl⟩, hln_6, hrq_6, hch_6_138, hch_6_139, hch_6_141, hch_6_142, hch_6_149⟩, by rw [ht]; exact hP9, va_K.moved hW.alike hK9, hD9⟩, hS.F ht⟩) hS.2.2 dX13_is_67
    · rw [if_pos c_7] at hsp
      refine lv_aload_n hx hb dX13_is_36 rfl (lv_at hl 1 rfl) ?_
      refine lv_iload hx hb dX13_is_37 (lv_at hl 0 rfl) ?_
      refine lv_if_eq (tgt := 46) hx hb dX13_is_39 (by decide) (fun c_10 => ?_) (fun c_10 => ?_)
      · rw [if_pos c_10] at hsp
        refine lv_iconst (v := 0) hx hb dX13_is_46 (by decide) ?_
        obtain ⟨⟨g907_0, g907_1⟩, hu_7, hsp⟩ := ox_bind hsp
        try dsimp only at hsp
        have hPc := hP.sub (ws' := [(h0, .inr (13, z27)), (qf153, .inl (cf153, 60, .inl g153_27)), (qf154, .inl (cf154, 3600, .inl g154_27))]) [0, 1, 2] rfl
        have hDc := hD.sub (ws' := [(h0, .inr (13, z27)), (qf153, .inl (cf153, 60, .inl g153_27)), (qf154, .inl (cf154, 3600, .inl g154_27))]) [0, 1, 2] (by decide) rfl
        have hKc := hK.sub (tys' := [(cf153, .int), (cf154, .int)]) [0, 1] rfl
        have hFc := va_free (wc := [(h0, .inr (13, z27)), (qf153, .inl (cf153, 60, .inl g153_27)), (qf154, .inl (cf154, 3600, .inl g154_27))]) hD hS hA [0, 1, 2] rfl
        refine va_callv (va_runV (As := [.int 0]) (rest := []) ⟨hx, hb, hml, hown, hts⟩ (tm_give l dC dI H.size h0 z27 0 x149_27 qf153 qf154 cf153 g153_27 cf154 g154_27 nf g907_0 g907_1 hlh_27 hfh_27_149 hfh_27_153 hfh_27_154 hu_7) (cwV 1 hts gv_h9_116 rfl rfl rfl (by decide +kernel) ⟨Nat.le_of_ble_eq_true rfl, Nat.le_of_ble_eq_true rfl⟩) ⟨fun a U g mk q => by obtain ⟨q0, q1, qP, qK, qD⟩ := q; exact ⟨q0, q1, qP, va_K.moved (u := U) (U := U.calling g mk a) (Vm.Alike.refl U.vm) qK, qD⟩, va_recv hKc hPc (ci := 13) (q0 := 0) rfl rfl, fun U hU hW => ⟨rfl, by rw [hU], by rw [hU]; exact hPc, va_K.moved hW.alike hKc, hDc.weaken (fun _ _ _ _ => trivial)⟩⟩ rfl rfl hl.1 rfl (lv_room (Nat.le_of_ble_eq_true rfl)) dX13_is_47 ⟨Nat.le_of_ble_eq_true rfl, Nat.le_of_ble_eq_true rfl⟩) hS (fun q _ h => hFc q h) hFc ?_
        clear hS
        intro u t H1 locs ht hvm hw hB hz1 hk1 hS
        obtain ⟨z_7, rfl⟩ : ∃ z, z = u := ⟨_, rfl⟩
        obtain ⟨hP1, hK1, hD1⟩ := hB
        rw [ht] at hP1
        have hK1 := va_K.moved hvm.symm hK1
        try dsimp only at hw
        have hPD := va_join (wr := [(qf150, .inl (cf150, 60, .inl f150)), (qf102, .inl (cf102, 2048, .inl f102)), (qf100, .inl (cf100, 48000, .inl f100)), (qf104, .inl (cf104, 8, .inl f104)), (qf144, .inl (cf144, 2001, .inl g144_27)), (qf105, .inl (cf105, 8, .inl f105)), (qf145, .inl (cf145, 2001, .inl g145_27)), (qf146, .inl (cf146, 2001, .inl g146_27)), (qf147, .inl (cf147, 20000, .inl g147_27)), (qf151, .inl (cf151, 60, .inl f151)), (qf110, .inl (cf110, 96, .inl f110)), (qf152, .inl (cf152, 60, .inl g152_27))]) (w1 := [(h0, .inr (13, z_7)), (qf153, .inl (cf153, 60, .inl g907_0)), (qf154, .inl (cf154, 3600, .inl g907_1))]) hP hD [0, 1, 2] [3, 4, 5, 6, 7, 8, 9, 10, 11, 12, 13, 14] rfl rfl (by decide) (by decide) hk1 hFc hP1 hD1
        clear hP hD
        obtain ⟨hP, hD⟩ := hPD
        replace hK := (hK.sub (tys' := [(cf150, .int), (cf102, .int), (cf100, .int), (cf104, .int), (cf144, .int), (cf105, .int), (cf145, .int), (cf146, .int), (cf147, .int), (cf151, .int), (cf110, .int), (cf152, .int)]) [2, 3, 4, 5, 6, 7, 8, 9, 10, 11, 12, 13] rfl).app hK1
        clear hPc hDc hKc hFc hP1 hK1 hD1 hz1 hk1 ht hvm
        generalize H1 = H at hP hS ⊢
        replace hP : va_P (dC, dI) vwCl [(qf150, .inl (cf150, 60, .inl f150)), (qf102, .inl (cf102, 2048, .inl f102)), (qf100, .inl (cf100, 48000, .inl f100)), (qf104, .inl (cf104, 8, .inl f104)), (qf144, .inl (cf144, 2001, .inl g144_27)), (qf105, .inl (cf105, 8, .inl f105)), (qf145, .inl (cf145, 2001, .inl g145_27)), (qf146, .inl (cf146, 2001, .inl g146_27)), (qf147, .inl (cf147, 20000, .inl g147_27)), (qf151, .inl (cf151, 60, .inl f151)), (qf110, .inl (cf110, 96, .inl f110)), (qf152, .inl (cf152, 60, .inl g152_27)), (h0, .inr (13, z_7)), (qf153, .inl (cf153, 60, .inl g907_0)), (qf154, .inl (cf154, 3600, .inl g907_1))] H := hP
        replace hD : va_D A [(qf150, .inl (cf150, 60, .inl f150)), (qf102, .inl (cf102, 2048, .inl f102)), (qf100, .inl (cf100, 48000, .inl f100)), (qf104, .inl (cf104, 8, .inl f104)), (qf144, .inl (cf144, 2001, .inl g144_27)), (qf105, .inl (cf105, 8, .inl f105)), (qf145, .inl (cf145, 2001, .inl g145_27)), (qf146, .inl (cf146, 2001, .inl g146_27)), (qf147, .inl (cf147, 20000, .inl g147_27)), (qf151, .inl (cf151, 60, .inl f151)), (qf110, .inl (cf110, 96, .inl f110)), (qf152, .inl (cf152, 60, .inl g152_27)), (h0, .inr (13, z_7)), (qf153, .inl (cf153, 60, .inl g907_0)), (qf154, .inl (cf154, 3600, .inl g907_1))] := hD
        replace hK : va_K (dC, dI) vwCl [(cf150, .int), (cf102, .int), (cf100, .int), (cf104, .int), (cf144, .int), (cf105, .int), (cf145, .int), (cf146, .int), (cf147, .int), (cf151, .int), (cf110, .int), (cf152, .int), (cf153, .int), (cf154, .int)] s := hK
        obtain ⟨hwa_7, hln_7, hre_7⟩ := hw
        have hfk_7_98 : z_7[98]? = some (.int v98) := (hre_7 98 ).trans (hfh_27_98)
        have hfk_7_100 : z_7[100]? = some (.ref qf100) := (hre_7 100 ).trans (hfh_27_100)
        have hfk_7_102 : z_7[102]? = some (.ref qf102) := (hre_7 102 ).trans (hfh_27_102)
        have hfk_7_104 : z_7[104]? = some (.ref qf104) := (hre_7 104 ).trans (hfh_27_104)
        have hfk_7_105 : z_7[105]? = some (.ref qf105) := (hre_7 105 ).trans (hfh_27_105)
        have hfk_7_110 : z_7[110]? = some (.ref qf110) := (hre_7 110 ).trans (hfh_27_110)
        have hfk_7_138 : z_7[138]? = some (.int x138_27) := (hre_7 138 ).trans (hfh_27_138)
        have hfk_7_139 : z_7[139]? = some (.int x139_27) := (hre_7 139 ).trans (hfh_27_139)
        have hfk_7_141 : z_7[141]? = some (.int x141_27) := (hre_7 141 ).trans (hfh_27_141)
        have hfk_7_142 : z_7[142]? = some (.int x142_27) := (hre_7 142 ).trans (hfh_27_142)
        have hfk_7_144 : z_7[144]? = some (.ref qf144) := (hre_7 144 ).trans (hfh_27_144)
        have hfk_7_145 : z_7[145]? = some (.ref qf145) := (hre_7 145 ).trans (hfh_27_145)
        have hfk_7_146 : z_7[146]? = some (.ref qf146) := (hre_7 146 ).trans (hfh_27_146)
        have hfk_7_147 : z_7[147]? = some (.ref qf147) := (hre_7 147 ).trans (hfh_27_147)
        have hfk_7_149 : z_7[149]? = some (.int x149_27) := (hre_7 149 ).trans (hfh_27_149)
        have hfk_7_150 : z_7[150]? = some (.ref qf150) := (hre_7 150 ).trans (hfh_27_150)
        have hfk_7_151 : z_7[151]? = some (.ref qf151) := (hre_7 151 ).trans (hfh_27_151)
        have hfk_7_152 : z_7[152]? = some (.ref qf152) := (hre_7 152 ).trans (hfh_27_152)
        have hfk_7_153 : z_7[153]? = some (.ref qf153) := (hre_7 153 ).trans (hfh_27_153)
        have hfk_7_154 : z_7[154]? = some (.ref qf154) := (hre_7 154 ).trans (hfh_27_154)
        have hrq_7 : ∀ j : Nat, j ≠ 138 → j ≠ 139 → j ≠ 141 → j ≠ 142 → j ≠ 149 → z_7[j]? = zs[j]? := fun j g138 g139 g141 g142 g149 => (hre_7 j ).trans (hrh_27 j g138 g139 g141 g142 g149)
        refine lv_iconst (v := 1) hx hb dX13_is_50 (by decide) ?_
        have hr0 := Option.some.inj hsp
        clear hsp
        obtain ⟨hq0, hr1⟩ := Prod.mk.inj hr0
        clear hr0
        obtain ⟨hq1, hr2⟩ := Prod.mk.inj hr1
        clear hr1
        obtain ⟨hq2, hr3⟩ := Prod.mk.inj hr2
        clear hr2
        obtain ⟨hq3, hr4⟩ := Prod.mk.inj hr3
        clear hr3
        obtain ⟨hq4, hr5⟩ := Prod.mk.inj hr4
        clear hr4
        obtain ⟨hq5, hr6⟩ := Prod.mk.inj hr5
        clear hr5
        obtain ⟨hq6, hr7⟩ := Prod.mk.inj hr6
        clear hr6
        obtain ⟨hq7, hr8⟩ := Prod.mk.inj hr7
        clear hr7
        obtain ⟨hq8, hr9⟩ := Prod.mk.inj hr8
        clear hr8
        obtain ⟨hq9, hr10⟩ := Prod.mk.inj hr9
        clear hr9
        obtain ⟨hq10, hr11⟩ := Prod.mk.inj hr10
        clear hr10
        obtain ⟨hq11, hr12⟩ := Prod.mk.inj hr11
        clear hr11
        subst hq0
        subst hq1
        subst hq2
        subst hq3
        subst hq4
        subst hq5
        subst hq6
        subst hq7
        subst hq8
        subst hq9
        subst hq10
        subst hq11
        subst hr12
        have hP9 := hP.sub (ws' := [(h0, .inr (13, z_7)), (qf153, .inl (cf153, 60, .inl g907_0)), (qf154, .inl (cf154, 3600, .inl g907_1)), (qf150, .inl (cf150, 60, .inl f150)), (qf102, .inl (cf102, 2048, .inl f102)), (qf100, .inl (cf100, 48000, .inl f100)), (qf104, .inl (cf104, 8, .inl f104)), (qf144, .inl (cf144, 2001, .inl g144_27)), (qf105, .inl (cf105, 8, .inl f105)), (qf145, .inl (cf145, 2001, .inl g145_27)), (qf146, .inl (cf146, 2001, .inl g146_27)), (qf147, .inl (cf147, 20000, .inl g147_27)), (qf151, .inl (cf151, 60, .inl f151)), (qf110, .inl (cf110, 96, .inl f110)), (qf152, .inl (cf152, 60, .inl g152_27))]) [12, 13, 14, 0, 1, 2, 3, 4, 5, 6, 7, 8, 9, 10, 11] rfl
        have hD9 := hD.sub (ws' := [(h0, .inr (13, z_7)), (qf153, .inl (cf153, 60, .inl g907_0)), (qf154, .inl (cf154, 3600, .inl g907_1)), (qf150, .inl (cf150, 60, .inl f150)), (qf102, .inl (cf102, 2048, .inl f102)), (qf100, .inl (cf100, 48000, .inl f100)), (qf104, .inl (cf104, 8, .inl f104)), (qf144, .inl (cf144, 2001, .inl g144_27)), (qf105, .inl (cf105, 8, .inl f105)), (qf145, .inl (cf145, 2001, .inl g145_27)), (qf146, .inl (cf146, 2001, .inl g146_27)), (qf147, .inl (cf147, 20000, .inl g147_27)), (qf151, .inl (cf151, 60, .inl f151)), (qf110, .inl (cf110, 96, .inl f110)), (qf152, .inl (cf152, 60, .inl g152_27))]) [12, 13, 14, 0, 1, 2, 3, 4, 5, 6, 7, 8, 9, 10, 11] (by decide) rfl
        have hK9 := hK.sub (tys' := [(cf153, .int), (cf154, .int), (cf150, .int), (cf102, .int), (cf100, .int), (cf104, .int), (cf144, .int), (cf105, .int), (cf145, .int), (cf146, .int), (cf147, .int), (cf151, .int), (cf110, .int), (cf152, .int)]) [12, 13, 0, 1, 2, 3, 4, 5, 6, 7, 8, 9, 10, 11] rfl
        exact W.zret hx hb hr (by decide) (fun t ht hW => ⟨⟨(1), (z_7), rfl, ⟨⟨rfl, Or.inr rfl⟩, hln_7, hrq_7, hfk_7_138, hfk_7_139, hfk_7_141, hfk_7_142, hfk_7_149⟩, by rw [ht]; exact hP9, va_K.moved hW.alike hK9, hD9⟩, hS.F ht⟩) hS.2.2 dX13_is_51
      · rw [if_neg c_10] at hsp
        refine lv_iconst (v := 1) hx hb dX13_is_42 (by decide) ?_
        refine lv_goto (tgt := 47) hx hb dX13_is_43 (by decide) ?_
        obtain ⟨⟨g908_0, g908_1⟩, hu_8, hsp⟩ := ox_bind hsp
        try dsimp only at hsp
        have hPc := hP.sub (ws' := [(h0, .inr (13, z27)), (qf153, .inl (cf153, 60, .inl g153_27)), (qf154, .inl (cf154, 3600, .inl g154_27))]) [0, 1, 2] rfl
        have hDc := hD.sub (ws' := [(h0, .inr (13, z27)), (qf153, .inl (cf153, 60, .inl g153_27)), (qf154, .inl (cf154, 3600, .inl g154_27))]) [0, 1, 2] (by decide) rfl
        have hKc := hK.sub (tys' := [(cf153, .int), (cf154, .int)]) [0, 1] rfl
        have hFc := va_free (wc := [(h0, .inr (13, z27)), (qf153, .inl (cf153, 60, .inl g153_27)), (qf154, .inl (cf154, 3600, .inl g154_27))]) hD hS hA [0, 1, 2] rfl
        refine va_callv (va_runV (As := [.int 1]) (rest := []) ⟨hx, hb, hml, hown, hts⟩ (tm_give l dC dI H.size h0 z27 1 x149_27 qf153 qf154 cf153 g153_27 cf154 g154_27 nf g908_0 g908_1 hlh_27 hfh_27_149 hfh_27_153 hfh_27_154 hu_8) (cwV 1 hts gv_h9_116 rfl rfl rfl (by decide +kernel) ⟨Nat.le_of_ble_eq_true rfl, Nat.le_of_ble_eq_true rfl⟩) ⟨fun a U g mk q => by obtain ⟨q0, q1, qP, qK, qD⟩ := q; exact ⟨q0, q1, qP, va_K.moved (u := U) (U := U.calling g mk a) (Vm.Alike.refl U.vm) qK, qD⟩, va_recv hKc hPc (ci := 13) (q0 := 0) rfl rfl, fun U hU hW => ⟨rfl, by rw [hU], by rw [hU]; exact hPc, va_K.moved hW.alike hKc, hDc.weaken (fun _ _ _ _ => trivial)⟩⟩ rfl rfl hl.1 rfl (lv_room (Nat.le_of_ble_eq_true rfl)) dX13_is_47 ⟨Nat.le_of_ble_eq_true rfl, Nat.le_of_ble_eq_true rfl⟩) hS (fun q _ h => hFc q h) hFc ?_
        clear hS
        intro u t H1 locs ht hvm hw hB hz1 hk1 hS
        obtain ⟨z_8, rfl⟩ : ∃ z, z = u := ⟨_, rfl⟩
        obtain ⟨hP1, hK1, hD1⟩ := hB
        rw [ht] at hP1
        have hK1 := va_K.moved hvm.symm hK1
        try dsimp only at hw
        have hPD := va_join (wr := [(qf150, .inl (cf150, 60, .inl f150)), (qf102, .inl (cf102, 2048, .inl f102)), (qf100, .inl (cf100, 48000, .inl f100)), (qf104, .inl (cf104, 8, .inl f104)), (qf144, .inl (cf144, 2001, .inl g144_27)), (qf105, .inl (cf105, 8, .inl f105)), (qf145, .inl (cf145, 2001, .inl g145_27)), (qf146, .inl (cf146, 2001, .inl g146_27)), (qf147, .inl (cf147, 20000, .inl g147_27)), (qf151, .inl (cf151, 60, .inl f151)), (qf110, .inl (cf110, 96, .inl f110)), (qf152, .inl (cf152, 60, .inl g152_27))]) (w1 := [(h0, .inr (13, z_8)), (qf153, .inl (cf153, 60, .inl g908_0)), (qf154, .inl (cf154, 3600, .inl g908_1))]) hP hD [0, 1, 2] [3, 4, 5, 6, 7, 8, 9, 10, 11, 12, 13, 14] rfl rfl (by decide) (by decide) hk1 hFc hP1 hD1
        clear hP hD
        obtain ⟨hP, hD⟩ := hPD
        replace hK := (hK.sub (tys' := [(cf150, .int), (cf102, .int), (cf100, .int), (cf104, .int), (cf144, .int), (cf105, .int), (cf145, .int), (cf146, .int), (cf147, .int), (cf151, .int), (cf110, .int), (cf152, .int)]) [2, 3, 4, 5, 6, 7, 8, 9, 10, 11, 12, 13] rfl).app hK1
        clear hPc hDc hKc hFc hP1 hK1 hD1 hz1 hk1 ht hvm
        generalize H1 = H at hP hS ⊢
        replace hP : va_P (dC, dI) vwCl [(qf150, .inl (cf150, 60, .inl f150)), (qf102, .inl (cf102, 2048, .inl f102)), (qf100, .inl (cf100, 48000, .inl f100)), (qf104, .inl (cf104, 8, .inl f104)), (qf144, .inl (cf144, 2001, .inl g144_27)), (qf105, .inl (cf105, 8, .inl f105)), (qf145, .inl (cf145, 2001, .inl g145_27)), (qf146, .inl (cf146, 2001, .inl g146_27)), (qf147, .inl (cf147, 20000, .inl g147_27)), (qf151, .inl (cf151, 60, .inl f151)), (qf110, .inl (cf110, 96, .inl f110)), (qf152, .inl (cf152, 60, .inl g152_27)), (h0, .inr (13, z_8)), (qf153, .inl (cf153, 60, .inl g908_0)), (qf154, .inl (cf154, 3600, .inl g908_1))] H := hP
        replace hD : va_D A [(qf150, .inl (cf150, 60, .inl f150)), (qf102, .inl (cf102, 2048, .inl f102)), (qf100, .inl (cf100, 48000, .inl f100)), (qf104, .inl (cf104, 8, .inl f104)), (qf144, .inl (cf144, 2001, .inl g144_27)), (qf105, .inl (cf105, 8, .inl f105)), (qf145, .inl (cf145, 2001, .inl g145_27)), (qf146, .inl (cf146, 2001, .inl g146_27)), (qf147, .inl (cf147, 20000, .inl g147_27)), (qf151, .inl (cf151, 60, .inl f151)), (qf110, .inl (cf110, 96, .inl f110)), (qf152, .inl (cf152, 60, .inl g152_27)), (h0, .inr (13, z_8)), (qf153, .inl (cf153, 60, .inl g908_0)), (qf154, .inl (cf154, 3600, .inl g908_1))] := hD
        replace hK : va_K (dC, dI) vwCl [(cf150, .int), (cf102, .int), (cf100, .int), (cf104, .int), (cf144, .int), (cf105, .int), (cf145, .int), (cf146, .int), (cf147, .int), (cf151, .int), (cf110, .int), (cf152, .int), (cf153, .int), (cf154, .int)] s := hK
        obtain ⟨hwa_8, hln_8, hre_8⟩ := hw
        have hfk_8_98 : z_8[98]? = some (.int v98) := (hre_8 98 ).trans (hfh_27_98)
        have hfk_8_100 : z_8[100]? = some (.ref qf100) := (hre_8 100 ).trans (hfh_27_100)
        have hfk_8_102 : z_8[102]? = some (.ref qf102) := (hre_8 102 ).trans (hfh_27_102)
        have hfk_8_104 : z_8[104]? = some (.ref qf104) := (hre_8 104 ).trans (hfh_27_104)
        have hfk_8_105 : z_8[105]? = some (.ref qf105) := (hre_8 105 ).trans (hfh_27_105)
        have hfk_8_110 : z_8[110]? = some (.ref qf110) := (hre_8 110 ).trans (hfh_27_110)
        have hfk_8_138 : z_8[138]? = some (.int x138_27) := (hre_8 138 ).trans (hfh_27_138)
        have hfk_8_139 : z_8[139]? = some (.int x139_27) := (hre_8 139 ).trans (hfh_27_139)
        have hfk_8_141 : z_8[141]? = some (.int x141_27) := (hre_8 141 ).trans (hfh_27_141)
        have hfk_8_142 : z_8[142]? = some (.int x142_27) := (hre_8 142 ).trans (hfh_27_142)
        have hfk_8_144 : z_8[144]? = some (.ref qf144) := (hre_8 144 ).trans (hfh_27_144)
        have hfk_8_145 : z_8[145]? = some (.ref qf145) := (hre_8 145 ).trans (hfh_27_145)
        have hfk_8_146 : z_8[146]? = some (.ref qf146) := (hre_8 146 ).trans (hfh_27_146)
        have hfk_8_147 : z_8[147]? = some (.ref qf147) := (hre_8 147 ).trans (hfh_27_147)
        have hfk_8_149 : z_8[149]? = some (.int x149_27) := (hre_8 149 ).trans (hfh_27_149)
        have hfk_8_150 : z_8[150]? = some (.ref qf150) := (hre_8 150 ).trans (hfh_27_150)
        have hfk_8_151 : z_8[151]? = some (.ref qf151) := (hre_8 151 ).trans (hfh_27_151)
        have hfk_8_152 : z_8[152]? = some (.ref qf152) := (hre_8 152 ).trans (hfh_27_152)
        have hfk_8_153 : z_8[153]? = some (.ref qf153) := (hre_8 153 ).trans (hfh_27_153)
        have hfk_8_154 : z_8[154]? = some (.ref qf154) := (hre_8 154 ).trans (hfh_27_154)
        have hrq_8 : ∀ j : Nat, j ≠ 138 → j ≠ 139 → j ≠ 141 → j ≠ 142 → j ≠ 149 → z_8[j]? = zs[j]? := fun j g138 g139 g141 g142 g149 => (hre_8 j ).trans (hrh_27 j g138 g139 g141 g142 g149)
        refine lv_iconst (v := 1) hx hb dX13_is_50 (by decide) ?_
        have hr0 := Option.some.inj hsp
        clear hsp
        obtain ⟨hq0, hr1⟩ := Prod.mk.inj hr0
        clear hr0
        obtain ⟨hq1, hr2⟩ := Prod.mk.inj hr1
        clear hr1
        obtain ⟨hq2, hr3⟩ := Prod.mk.inj hr2
        clear hr2
        obtain ⟨hq3, hr4⟩ := Prod.mk.inj hr3
        clear hr3
        obtain ⟨hq4, hr5⟩ := Prod.mk.inj hr4
        clear hr4
        obtain ⟨hq5, hr6⟩ := Prod.mk.inj hr5
        clear hr5
        obtain ⟨hq6, hr7⟩ := Prod.mk.inj hr6
        clear hr6
        obtain ⟨hq7, hr8⟩ := Prod.mk.inj hr7
        clear hr7
        obtain ⟨hq8, hr9⟩ := Prod.mk.inj hr8
        clear hr8
        obtain ⟨hq9, hr10⟩ := Prod.mk.inj hr9
        clear hr9
        obtain ⟨hq10, hr11⟩ := Prod.mk.inj hr10
        clear hr10
        obtain ⟨hq11, hr12⟩ := Prod.mk.inj hr11
        clear hr11
        subst hq0
        subst hq1
        subst hq2
        subst hq3
        subst hq4
        subst hq5
        subst hq6
        subst hq7
        subst hq8
        subst hq9
        subst hq10
        subst hq11
        subst hr12
        have hP9 := hP.sub (ws' := [(h0, .inr (13, z_8)), (qf153, .inl (cf153, 60, .inl g908_0)), (qf154, .inl (cf154, 3600, .inl g908_1)), (qf150, .inl (cf150, 60, .inl f150)), (qf102, .inl (cf102, 2048, .inl f102)), (qf100, .inl (cf100, 48000, .inl f100)), (qf104, .inl (cf104, 8, .inl f104)), (qf144, .inl (cf144, 2001, .inl g144_27)), (qf105, .inl (cf105, 8, .inl f105)), (qf145, .inl (cf145, 2001, .inl g145_27)), (qf146, .inl (cf146, 2001, .inl g146_27)), (qf147, .inl (cf147, 20000, .inl g147_27)), (qf151, .inl (cf151, 60, .inl f151)), (qf110, .inl (cf110, 96, .inl f110)), (qf152, .inl (cf152, 60, .inl g152_27))]) [12, 13, 14, 0, 1, 2, 3, 4, 5, 6, 7, 8, 9, 10, 11] rfl
        have hD9 := hD.sub (ws' := [(h0, .inr (13, z_8)), (qf153, .inl (cf153, 60, .inl g908_0)), (qf154, .inl (cf154, 3600, .inl g908_1)), (qf150, .inl (cf150, 60, .inl f150)), (qf102, .inl (cf102, 2048, .inl f102)), (qf100, .inl (cf100, 48000, .inl f100)), (qf104, .inl (cf104, 8, .inl f104)), (qf144, .inl (cf144, 2001, .inl g144_27)), (qf105, .inl (cf105, 8, .inl f105)), (qf145, .inl (cf145, 2001, .inl g145_27)), (qf146, .inl (cf146, 2001, .inl g146_27)), (qf147, .inl (cf147, 20000, .inl g147_27)), (qf151, .inl (cf151, 60, .inl f151)), (qf110, .inl (cf110, 96, .inl f110)), (qf152, .inl (cf152, 60, .inl g152_27))]) [12, 13, 14, 0, 1, 2, 3, 4, 5, 6, 7, 8, 9, 10, 11] (by decide) rfl
        have hK9 := hK.sub (tys' := [(cf153, .int), (cf154, .int), (cf150, .int), (cf102, .int), (cf100, .int), (cf104, .int), (cf144, .int), (cf105, .int), (cf145, .int), (cf146, .int), (cf147, .int), (cf151, .int), (cf110, .int), (cf152, .int)]) [12, 13, 0, 1, 2, 3, 4, 5, 6, 7, 8, 9, 10, 11] rfl
        exact W.zret hx hb hr (by decide) (fun t ht hW => ⟨⟨(1), (z_8), rfl, ⟨⟨rfl, Or.inr rfl⟩, hln_8, hrq_8, hfk_8_138, hfk_8_139, hfk_8_141, hfk_8_142, hfk_8_149⟩, by rw [ht]; exact hP9, va_K.moved hW.alike hK9, hD9⟩, hS.F ht⟩) hS.2.2 dX13_is_51
  intro hj_27
  refine jn_use (α := Heap × List Loc × Array Slot × List Value × Int32 × Int32 × (Nat → Int32) × (Nat → Int32) × (Nat → Int32) × (Nat → Int32) × (Nat → Int32) × (Nat → Int32) × (Nat → Int32) × Int32 × Int32 × Int32 × Int32 × Int32) (fun x9 => x9.1) (fun x9 => x9.2.1) (fun x9 => F0 m 26 x9.2.2.1 []) (fun x9 => match x9 with | (H, locs, ls, z26, l1_26, l3_26, g144_26, g145_26, g146_26, g147_26, g152_26, g153_26, g154_26, x138_26, x139_26, x141_26, x142_26, x149_26) => lv_has ls 5 [(0, .ref h0), (1, .int l1_26), (3, .int l3_26)] ∧ va_S A s.heap H locs ∧ va_D A [(h0, .inr (13, z26)), (qf153, .inl (cf153, 60, .inl g153_26)), (qf154, .inl (cf154, 3600, .inl g154_26)), (qf150, .inl (cf150, 60, .inl f150)), (qf102, .inl (cf102, 2048, .inl f102)), (qf100, .inl (cf100, 48000, .inl f100)), (qf104, .inl (cf104, 8, .inl f104)), (qf144, .inl (cf144, 2001, .inl g144_26)), (qf105, .inl (cf105, 8, .inl f105)), (qf145, .inl (cf145, 2001, .inl g145_26)), (qf146, .inl (cf146, 2001, .inl g146_26)), (qf147, .inl (cf147, 20000, .inl g147_26)), (qf151, .inl (cf151, 60, .inl f151)), (qf110, .inl (cf110, 96, .inl f110)), (qf152, .inl (cf152, 60, .inl g152_26))] ∧ va_P (dC, dI) vwCl [(h0, .inr (13, z26)), (qf153, .inl (cf153, 60, .inl g153_26)), (qf154, .inl (cf154, 3600, .inl g154_26)), (qf150, .inl (cf150, 60, .inl f150)), (qf102, .inl (cf102, 2048, .inl f102)), (qf100, .inl (cf100, 48000, .inl f100)), (qf104, .inl (cf104, 8, .inl f104)), (qf144, .inl (cf144, 2001, .inl g144_26)), (qf105, .inl (cf105, 8, .inl f105)), (qf145, .inl (cf145, 2001, .inl g145_26)), (qf146, .inl (cf146, 2001, .inl g146_26)), (qf147, .inl (cf147, 20000, .inl g147_26)), (qf151, .inl (cf151, 60, .inl f151)), (qf110, .inl (cf110, 96, .inl f110)), (qf152, .inl (cf152, 60, .inl g152_26))] H ∧ z26[98]? = some (.int v98) ∧ z26[100]? = some (.ref qf100) ∧ z26[102]? = some (.ref qf102) ∧ z26[104]? = some (.ref qf104) ∧ z26[105]? = some (.ref qf105) ∧ z26[110]? = some (.ref qf110) ∧ z26[138]? = some (.int x138_26) ∧ z26[139]? = some (.int x139_26) ∧ z26[141]? = some (.int x141_26) ∧ z26[142]? = some (.int x142_26) ∧ z26[144]? = some (.ref qf144) ∧ z26[145]? = some (.ref qf145) ∧ z26[146]? = some (.ref qf146) ∧ z26[147]? = some (.ref qf147) ∧ z26[149]? = some (.int x149_26) ∧ z26[150]? = some (.ref qf150) ∧ z26[151]? = some (.ref qf151) ∧ z26[152]? = some (.ref qf152) ∧ z26[153]? = some (.ref qf153) ∧ z26[154]? = some (.ref qf154) ∧ z26.length = 155 ∧ (∀ j : Nat, j ≠ 138 → j ≠ 139 → j ≠ 141 → j ≠ 142 → j ≠ 149 → z26[j]? = zs[j]?) ∧ jn_vm_is_26 nf a1 a2 v98 v138 v139 v141 v142 v149 f153 f154 f150 f102 f100 f104 f144 f105 f145 f146 f147 f151 f110 f152 nS477 fS477 l1_26 l3_26 g144_26 g145_26 g146_26 g147_26 g152_26 g153_26 g154_26 x138_26 x139_26 x141_26 x142_26 x149_26 = some (r0, o144, o145, o146, o147, o152, o153, o154, w138, w139, w141, w142, w149)) ?_ ?_
  · intro x9 hJ9
    obtain ⟨H, locs, ls, z26, l1_26, l3_26, g144_26, g145_26, g146_26, g147_26, g152_26, g153_26, g154_26, x138_26, x139_26, x141_26, x142_26, x149_26⟩ := x9
    obtain ⟨hl, hS, hD, hP, hfh_26_98, hfh_26_100, hfh_26_102, hfh_26_104, hfh_26_105, hfh_26_110, hfh_26_138, hfh_26_139, hfh_26_141, hfh_26_142, hfh_26_144, hfh_26_145, hfh_26_146, hfh_26_147, hfh_26_149, hfh_26_150, hfh_26_151, hfh_26_152, hfh_26_153, hfh_26_154, hlh_26, hrh_26, hsp⟩ := hJ9
    replace hl : lv_has ls 5 [(0, .ref h0), (1, .int l1_26), (3, .int l3_26)] := hl
    replace hS : va_S A s.heap H locs := hS
    replace hD : va_D A [(h0, .inr (13, z26)), (qf153, .inl (cf153, 60, .inl g153_26)), (qf154, .inl (cf154, 3600, .inl g154_26)), (qf150, .inl (cf150, 60, .inl f150)), (qf102, .inl (cf102, 2048, .inl f102)), (qf100, .inl (cf100, 48000, .inl f100)), (qf104, .inl (cf104, 8, .inl f104)), (qf144, .inl (cf144, 2001, .inl g144_26)), (qf105, .inl (cf105, 8, .inl f105)), (qf145, .inl (cf145, 2001, .inl g145_26)), (qf146, .inl (cf146, 2001, .inl g146_26)), (qf147, .inl (cf147, 20000, .inl g147_26)), (qf151, .inl (cf151, 60, .inl f151)), (qf110, .inl (cf110, 96, .inl f110)), (qf152, .inl (cf152, 60, .inl g152_26))] := hD
    replace hP : va_P (dC, dI) vwCl [(h0, .inr (13, z26)), (qf153, .inl (cf153, 60, .inl g153_26)), (qf154, .inl (cf154, 3600, .inl g154_26)), (qf150, .inl (cf150, 60, .inl f150)), (qf102, .inl (cf102, 2048, .inl f102)), (qf100, .inl (cf100, 48000, .inl f100)), (qf104, .inl (cf104, 8, .inl f104)), (qf144, .inl (cf144, 2001, .inl g144_26)), (qf105, .inl (cf105, 8, .inl f105)), (qf145, .inl (cf145, 2001, .inl g145_26)), (qf146, .inl (cf146, 2001, .inl g146_26)), (qf147, .inl (cf147, 20000, .inl g147_26)), (qf151, .inl (cf151, 60, .inl f151)), (qf110, .inl (cf110, 96, .inl f110)), (qf152, .inl (cf152, 60, .inl g152_26))] H := hP
    replace hsp : jn_vm_is_26 nf a1 a2 v98 v138 v139 v141 v142 v149 f153 f154 f150 f102 f100 f104 f144 f105 f145 f146 f147 f151 f110 f152 nS477 fS477 l1_26 l3_26 g144_26 g145_26 g146_26 g147_26 g152_26 g153_26 g154_26 x138_26 x139_26 x141_26 x142_26 x149_26 = some (r0, o144, o145, o146, o147, o152, o153, o154, w138, w139, w141, w142, w149) := hsp
    show W _ _ _ _ _ _ _ _ _ _ H locs _ _ _ (F0 m 26 ls [])
    unfold jn_vm_is_26 at hsp
    try dsimp only at hsp
    refine lv_iconst (v := 0) hx hb dX13_is_26 (by decide) ?_
    exact hj_27 (H, locs, ls, z26, l1_26, l3_26, 0, g144_26, g145_26, g146_26, g147_26, g152_26, g153_26, g154_26, x138_26, x139_26, x141_26, x142_26, x149_26) ⟨lv_sub hl [0, 1, 2] rfl, hS, hD.sub (ws' := [(h0, .inr (13, z26)), (qf153, .inl (cf153, 60, .inl g153_26)), (qf154, .inl (cf154, 3600, .inl g154_26)), (qf150, .inl (cf150, 60, .inl f150)), (qf102, .inl (cf102, 2048, .inl f102)), (qf100, .inl (cf100, 48000, .inl f100)), (qf104, .inl (cf104, 8, .inl f104)), (qf144, .inl (cf144, 2001, .inl g144_26)), (qf105, .inl (cf105, 8, .inl f105)), (qf145, .inl (cf145, 2001, .inl g145_26)), (qf146, .inl (cf146, 2001, .inl g146_26)), (qf147, .inl (cf147, 20000, .inl g147_26)), (qf151, .inl (cf151, 60, .inl f151)), (qf110, .inl (cf110, 96, .inl f110)), (qf152, .inl (cf152, 60, .inl g152_26))]) [0, 1, 2, 3, 4, 5, 6, 7, 8, 9, 10, 11, 12, 13, 14] (by decide) rfl, hP.sub (ws' := [(h0, .inr (13, z26)), (qf153, .inl (cf153, 60, .inl g153_26)), (qf154, .inl (cf154, 3600, .inl g154_26)), (qf150, .inl (cf150, 60, .inl f150)), (qf102, .inl (cf102, 2048, .inl f102)), (qf100, .inl (cf100, 48000, .inl f100)), (qf104, .inl (cf104, 8, .inl f104)), (qf144, .inl (cf144, 2001, .inl g144_26)), (qf105, .inl (cf105, 8, .inl f105)), (qf145, .inl (cf145, 2001, .inl g145_26)), (qf146, .inl (cf146, 2001, .inl g146_26)), (qf147, .inl (cf147, 20000, .inl g147_26)), (qf151, .inl (cf151, 60, .inl f151)), (qf110, .inl (cf110, 96, .inl f110)), (qf152, .inl (cf152, 60, .inl g152_26))]) [0, 1, 2, 3, 4, 5, 6, 7, 8, 9, 10, 11, 12, 13, 14] rfl, hfh_26_98, hfh_26_100, hfh_26_102, hfh_26_104, hfh_26_105, hfh_26_110, hfh_26_138, hfh_26_139, hfh_26_141, hfh_26_142, hfh_26_144, hfh_26_145, hfh_26_146, hfh_26_147, hfh_26_149, hfh_26_150, hfh_26_151, hfh_26_152, hfh_26_153, hfh_26_154, hlh_26, hrh_26, hsp⟩
  intro hj_26
  refine lv_aload_n hx hb dX13_is_0 rfl (lv_at hl 0 rfl) ?_
  obtain ⟨⟨u1_0, g901_1⟩, hu_1, hsp⟩ := ox_bind hsp
  try dsimp only at hsp
  have hPc := hP.sub (ws' := [(h0, .inr (13, zs)), (qf153, .inl (cf153, 60, .inl f153)), (qf154, .inl (cf154, 3600, .inl f154))]) [0, 1, 2] rfl
  have hDc := hD.sub (ws' := [(h0, .inr (13, zs)), (qf153, .inl (cf153, 60, .inl f153)), (qf154, .inl (cf154, 3600, .inl f154))]) [0, 1, 2] (by decide) rfl
  have hKc := hK.sub (tys' := [(cf153, .int), (cf154, .int)]) [0, 1] rfl
  have hFc := va_free (wc := [(h0, .inr (13, zs)), (qf153, .inl (cf153, 60, .inl f153)), (qf154, .inl (cf154, 3600, .inl f154))]) hD hS hA [0, 1, 2] rfl
  refine va_calli (va_runV (As := []) (rest := []) ⟨hx, hb, hml, hown, hts⟩ (tm_drop l dC dI H.size h0 zs v149 qf153 qf154 cf153 f153 cf154 f154 nf u1_0 g901_1 hlen hf149 hf153 hf154 hu_1) (cwV 0 hts gv_h9_75 rfl rfl rfl (by decide +kernel) ⟨Nat.le_of_ble_eq_true rfl, Nat.le_of_ble_eq_true rfl⟩) ⟨fun a U g mk q => by obtain ⟨q0, q1, qP, qK, qD⟩ := q; exact ⟨q0, q1, qP, va_K.moved (u := U) (U := U.calling g mk a) (Vm.Alike.refl U.vm) qK, qD⟩, va_recv hKc hPc (ci := 13) (q0 := 0) rfl rfl, fun U hU hW => ⟨rfl, by rw [hU], by rw [hU]; exact hPc, va_K.moved hW.alike hKc, hDc.weaken (fun _ _ _ _ => trivial)⟩⟩ rfl rfl hl.1 rfl (lv_room (Nat.le_of_ble_eq_true rfl)) dX13_is_1 ⟨Nat.le_of_ble_eq_true rfl, Nat.le_of_ble_eq_true rfl⟩) hS (fun q _ h => hFc q h) hFc ?_
  clear hS
  intro r_1 u t H1 locs ht hvm hw hB hz1 hk1 hS
  obtain ⟨z_1, rfl⟩ : ∃ z, z = u := ⟨_, rfl⟩
  obtain ⟨hP1, hK1, hD1⟩ := hB
  rw [ht] at hP1
  have hK1 := va_K.moved hvm.symm hK1
  try dsimp only at hw
  have hPD := va_join (wr := [(qf150, .inl (cf150, 60, .inl f150)), (qf102, .inl (cf102, 2048, .inl f102)), (qf100, .inl (cf100, 48000, .inl f100)), (qf104, .inl (cf104, 8, .inl f104)), (qf144, .inl (cf144, 2001, .inl f144)), (qf105, .inl (cf105, 8, .inl f105)), (qf145, .inl (cf145, 2001, .inl f145)), (qf146, .inl (cf146, 2001, .inl f146)), (qf147, .inl (cf147, 20000, .inl f147)), (qf151, .inl (cf151, 60, .inl f151)), (qf110, .inl (cf110, 96, .inl f110)), (qf152, .inl (cf152, 60, .inl f152))]) (w1 := [(h0, .inr (13, z_1)), (qf153, .inl (cf153, 60, .inl g901_1)), (qf154, .inl (cf154, 3600, .inl f154))]) hP hD [0, 1, 2] [3, 4, 5, 6, 7, 8, 9, 10, 11, 12, 13, 14] rfl rfl (by decide) (by decide) hk1 hFc hP1 hD1
  clear hP hD
  obtain ⟨hP, hD⟩ := hPD
  replace hK := (hK.sub (tys' := [(cf150, .int), (cf102, .int), (cf100, .int), (cf104, .int), (cf144, .int), (cf105, .int), (cf145, .int), (cf146, .int), (cf147, .int), (cf151, .int), (cf110, .int), (cf152, .int)]) [2, 3, 4, 5, 6, 7, 8, 9, 10, 11, 12, 13] rfl).app hK1
  clear hPc hDc hKc hFc hP1 hK1 hD1 hz1 hk1 ht hvm
  generalize H1 = H at hP hS ⊢
  replace hP : va_P (dC, dI) vwCl [(qf150, .inl (cf150, 60, .inl f150)), (qf102, .inl (cf102, 2048, .inl f102)), (qf100, .inl (cf100, 48000, .inl f100)), (qf104, .inl (cf104, 8, .inl f104)), (qf144, .inl (cf144, 2001, .inl f144)), (qf105, .inl (cf105, 8, .inl f105)), (qf145, .inl (cf145, 2001, .inl f145)), (qf146, .inl (cf146, 2001, .inl f146)), (qf147, .inl (cf147, 20000, .inl f147)), (qf151, .inl (cf151, 60, .inl f151)), (qf110, .inl (cf110, 96, .inl f110)), (qf152, .inl (cf152, 60, .inl f152)), (h0, .inr (13, z_1)), (qf153, .inl (cf153, 60, .inl g901_1)), (qf154, .inl (cf154, 3600, .inl f154))] H := hP
  replace hD : va_D A [(qf150, .inl (cf150, 60, .inl f150)), (qf102, .inl (cf102, 2048, .inl f102)), (qf100, .inl (cf100, 48000, .inl f100)), (qf104, .inl (cf104, 8, .inl f104)), (qf144, .inl (cf144, 2001, .inl f144)), (qf105, .inl (cf105, 8, .inl f105)), (qf145, .inl (cf145, 2001, .inl f145)), (qf146, .inl (cf146, 2001, .inl f146)), (qf147, .inl (cf147, 20000, .inl f147)), (qf151, .inl (cf151, 60, .inl f151)), (qf110, .inl (cf110, 96, .inl f110)), (qf152, .inl (cf152, 60, .inl f152)), (h0, .inr (13, z_1)), (qf153, .inl (cf153, 60, .inl g901_1)), (qf154, .inl (cf154, 3600, .inl f154))] := hD
  replace hK : va_K (dC, dI) vwCl [(cf150, .int), (cf102, .int), (cf100, .int), (cf104, .int), (cf144, .int), (cf105, .int), (cf145, .int), (cf146, .int), (cf147, .int), (cf151, .int), (cf110, .int), (cf152, .int), (cf153, .int), (cf154, .int)] s := hK
  obtain ⟨hwa_1, hln_1, hre_1⟩ := hw
  have hfk_1_98 : z_1[98]? = some (.int v98) := (hre_1 98 ).trans (hf98)
  have hfk_1_100 : z_1[100]? = some (.ref qf100) := (hre_1 100 ).trans (hf100)
  have hfk_1_102 : z_1[102]? = some (.ref qf102) := (hre_1 102 ).trans (hf102)
  have hfk_1_104 : z_1[104]? = some (.ref qf104) := (hre_1 104 ).trans (hf104)
  have hfk_1_105 : z_1[105]? = some (.ref qf105) := (hre_1 105 ).trans (hf105)
  have hfk_1_110 : z_1[110]? = some (.ref qf110) := (hre_1 110 ).trans (hf110)
  have hfk_1_138 : z_1[138]? = some (.int v138) := (hre_1 138 ).trans (hf138)
  have hfk_1_139 : z_1[139]? = some (.int v139) := (hre_1 139 ).trans (hf139)
  have hfk_1_141 : z_1[141]? = some (.int v141) := (hre_1 141 ).trans (hf141)
  have hfk_1_142 : z_1[142]? = some (.int v142) := (hre_1 142 ).trans (hf142)
  have hfk_1_144 : z_1[144]? = some (.ref qf144) := (hre_1 144 ).trans (hf144)
  have hfk_1_145 : z_1[145]? = some (.ref qf145) := (hre_1 145 ).trans (hf145)
  have hfk_1_146 : z_1[146]? = some (.ref qf146) := (hre_1 146 ).trans (hf146)
  have hfk_1_147 : z_1[147]? = some (.ref qf147) := (hre_1 147 ).trans (hf147)
  have hfk_1_149 : z_1[149]? = some (.int v149) := (hre_1 149 ).trans (hf149)
  have hfk_1_150 : z_1[150]? = some (.ref qf150) := (hre_1 150 ).trans (hf150)
  have hfk_1_151 : z_1[151]? = some (.ref qf151) := (hre_1 151 ).trans (hf151)
  have hfk_1_152 : z_1[152]? = some (.ref qf152) := (hre_1 152 ).trans (hf152)
  have hfk_1_153 : z_1[153]? = some (.ref qf153) := (hre_1 153 ).trans (hf153)
  have hfk_1_154 : z_1[154]? = some (.ref qf154) := (hre_1 154 ).trans (hf154)
  have hrq_1 : ∀ j : Nat, j ≠ 138 → j ≠ 139 → j ≠ 141 → j ≠ 142 → j ≠ 149 → z_1[j]? = zs[j]? := fun j g138 g139 g141 g142 g149 => (hre_1 j ).trans (hrs0 j g138 g139 g141 g142 g149)
  obtain rfl := hwa_1
  refine lv_istore_n (lv' := [(3, .int u1_0), (0, .ref h0), (1, .int a1), (2, .int a2)]) hx hb dX13_is_4 rfl hl (by decide) rfl (fun ls hl => ?_)
  refine lv_iload_n hx hb dX13_is_5 rfl (lv_at hl 0 rfl) ?_
  refine lv_if_eq (tgt := 26) hx hb dX13_is_6 (by decide) (fun c_2 => ?_) (fun c_2 => ?_)
  · rw [if_pos c_2] at hsp
    exact hj_26 (H, locs, ls, z_1, a1, u1_0, f144, f145, f146, f147, f152, g901_1, f154, v138, v139, v141, v142, v149) ⟨lv_sub hl [1, 2, 0] rfl, hS, hD.sub (ws' := [(h0, .inr (13, z_1)), (qf153, .inl (cf153, 60, .inl g901_1)), (qf154, .inl (cf154, 3600, .inl f154)), (qf150, .inl (cf150, 60, .inl f150)), (qf102, .inl (cf102, 2048, .inl f102)), (qf100, .inl (cf100, 48000, .inl f100)), (qf104, .inl (cf104, 8, .inl f104)), (qf144, .inl (cf144, 2001, .inl f144)), (qf105, .inl (cf105, 8, .inl f105)), (qf145, .inl (cf145, 2001, .inl f145)), (qf146, .inl (cf146, 2001, .inl f146)), (qf147, .inl (cf147, 20000, .inl f147)), (qf151, .inl (cf151, 60, .inl f151)), (qf110, .inl (cf110, 96, .inl f110)), (qf152, .inl (cf152, 60, .inl f152))]) [12, 13, 14, 0, 1, 2, 3, 4, 5, 6, 7, 8, 9, 10, 11] (by decide) rfl, hP.sub (ws' := [(h0, .inr (13, z_1)), (qf153, .inl (cf153, 60, .inl g901_1)), (qf154, .inl (cf154, 3600, .inl f154)), (qf150, .inl (cf150, 60, .inl f150)), (qf102, .inl (cf102, 2048, .inl f102)), (qf100, .inl (cf100, 48000, .inl f100)), (qf104, .inl (cf104, 8, .inl f104)), (qf144, .inl (cf144, 2001, .inl f144)), (qf105, .inl (cf105, 8, .inl f105)), (qf145, .inl (cf145, 2001, .inl f145)), (qf146, .inl (cf146, 2001, .inl f146)), (qf147, .inl (cf147, 20000, .inl f147)), (qf151, .inl (cf151, 60, .inl f151)), (qf110, .inl (cf110, 96, .inl f110)), (qf152, .inl (cf152, 60, .inl f152))]) [12, 13, 14, 0, 1, 2, 3, 4, 5, 6, 7, 8, 9, 10, 11] rfl, hfk_1_98, hfk_1_100, hfk_1_102, hfk_1_104, hfk_1_105, hfk_1_110, hfk_1_138, hfk_1_139, hfk_1_141, hfk_1_142, hfk_1_144, hfk_1_145, hfk_1_146, hfk_1_147, hfk_1_149, hfk_1_150, hfk_1_151, hfk_1_152, hfk_1_153, hfk_1_154, hln_1, hrq_1, hsp⟩
  · rw [if_neg c_2] at hsp
    refine lv_aload_n hx hb dX13_is_9 rfl (lv_at hl 1 rfl) ?_
    refine lv_iload_n hx hb dX13_is_10 rfl (lv_at hl 0 rfl) ?_
    refine lv_aload_n hx hb dX13_is_11 rfl (lv_at hl 1 rfl) ?_
    refine lv_iload_n hx hb dX13_is_12 rfl (lv_at hl 3 rfl) ?_
    obtain ⟨u2_0, hu_2, hsp⟩ := ox_bind hsp
    try dsimp only at hsp
    have hPc := hP.sub (ws' := [(h0, .inr (13, z_1)), (qf150, .inl (cf150, 60, .inl f150)), (qf102, .inl (cf102, 2048, .inl f102)), (qf100, .inl (cf100, 48000, .inl f100)), (qf104, .inl (cf104, 8, .inl f104))]) [12, 0, 1, 2, 3] rfl
    have hDc := hD.sub (ws' := [(h0, .inr (13, z_1)), (qf150, .inl (cf150, 60, .inl f150)), (qf102, .inl (cf102, 2048, .inl f102)), (qf100, .inl (cf100, 48000, .inl f100)), (qf104, .inl (cf104, 8, .inl f104))]) [12, 0, 1, 2, 3] (by decide) rfl
    have hKc := hK.sub (tys' := [(cf150, .int), (cf102, .int), (cf100, .int), (cf104, .int)]) [0, 1, 2, 3] rfl
    have hFc := va_free (wc := [(h0, .inr (13, z_1)), (qf150, .inl (cf150, 60, .inl f150)), (qf102, .inl (cf102, 2048, .inl f102)), (qf100, .inl (cf100, 48000, .inl f100)), (qf104, .inl (cf104, 8, .inl f104))]) hD hS hA [12, 0, 1, 2, 3] rfl
    refine va_calli (va_runV (As := [.int a2]) (rest := [.int u1_0, .ref h0]) ⟨hx, hb, hml, hown, hts⟩ (vm_classIn l dC dI H.size h0 z_1 a2 v98 qf100 qf102 qf104 v149 qf150 cf150 f150 cf102 f102 cf100 f100 cf104 f104 nS477 fS477 hS477 qS477 tS477 nf u2_0 hln_1 hfk_1_98 hfk_1_100 hfk_1_102 hfk_1_104 hfk_1_149 hfk_1_150 hu_2) (cwV 1 hts gv_h9_117 rfl rfl rfl (by decide +kernel) ⟨Nat.le_of_ble_eq_true rfl, Nat.le_of_ble_eq_true rfl⟩) ⟨fun a U g mk q => by obtain ⟨q0, q1, qP, qK, qD, qhZWS477, qhZRS477⟩ := q; exact ⟨q0, q1, qP, va_K.moved (u := U) (U := U.calling g mk a) (Vm.Alike.refl U.vm) qK, qD, pz_W.moved (u := U) (U := U.calling g mk a) (Vm.Alike.refl U.vm) qhZWS477, vk_R.same rfl qhZRS477⟩, va_recv hKc hPc (ci := 13) (q0 := 0) rfl rfl, fun U hU hW => ⟨rfl, by rw [hU], by rw [hU]; exact hPc, va_K.moved hW.alike hKc, hDc.weaken (fun _ _ _ _ => trivial), by rw [hU]; exact ((pz_W.moved hW.alike hZWS477).kept hS.2.1).narrow hFc, vk_R.warm hW hZRS477⟩⟩ rfl rfl hl.1 rfl (lv_room (Nat.le_of_ble_eq_true rfl)) dX13_is_13 ⟨Nat.le_of_ble_eq_true rfl, Nat.le_of_ble_eq_true rfl⟩) hS (fun q _ h => hFc q h) hFc ?_
    clear hS
    intro r_3 u t H1 locs ht hvm hw hB hz1 hk1 hS
    obtain ⟨z_2, rfl⟩ : ∃ z, z = u := ⟨_, rfl⟩
    obtain ⟨hP1, hK1, hD1⟩ := hB
    rw [ht] at hP1
    have hK1 := va_K.moved hvm.symm hK1
    try dsimp only at hw
    have hPD := va_join (wr := [(qf144, .inl (cf144, 2001, .inl f144)), (qf105, .inl (cf105, 8, .inl f105)), (qf145, .inl (cf145, 2001, .inl f145)), (qf146, .inl (cf146, 2001, .inl f146)), (qf147, .inl (cf147, 20000, .inl f147)), (qf151, .inl (cf151, 60, .inl f151)), (qf110, .inl (cf110, 96, .inl f110)), (qf152, .inl (cf152, 60, .inl f152)), (qf153, .inl (cf153, 60, .inl g901_1)), (qf154, .inl (cf154, 3600, .inl f154))]) (w1 := [(h0, .inr (13, z_2)), (qf150, .inl (cf150, 60, .inl f150)), (qf102, .inl (cf102, 2048, .inl f102)), (qf100, .inl (cf100, 48000, .inl f100)), (qf104, .inl (cf104, 8, .inl f104))]) hP hD [12, 0, 1, 2, 3] [4, 5, 6, 7, 8, 9, 10, 11, 13, 14] rfl rfl (by decide) (by decide) hk1 hFc hP1 hD1
    clear hP hD
    obtain ⟨hP, hD⟩ := hPD
    replace hK := (hK.sub (tys' := [(cf144, .int), (cf105, .int), (cf145, .int), (cf146, .int), (cf147, .int), (cf151, .int), (cf110, .int), (cf152, .int), (cf153, .int), (cf154, .int)]) [4, 5, 6, 7, 8, 9, 10, 11, 12, 13] rfl).app hK1
    clear hPc hDc hKc hFc hP1 hK1 hD1 hz1 hk1 ht hvm
    generalize H1 = H at hP hS ⊢
    replace hP : va_P (dC, dI) vwCl [(qf144, .inl (cf144, 2001, .inl f144)), (qf105, .inl (cf105, 8, .inl f105)), (qf145, .inl (cf145, 2001, .inl f145)), (qf146, .inl (cf146, 2001, .inl f146)), (qf147, .inl (cf147, 20000, .inl f147)), (qf151, .inl (cf151, 60, .inl f151)), (qf110, .inl (cf110, 96, .inl f110)), (qf152, .inl (cf152, 60, .inl f152)), (qf153, .inl (cf153, 60, .inl g901_1)), (qf154, .inl (cf154, 3600, .inl f154)), (h0, .inr (13, z_2)), (qf150, .inl (cf150, 60, .inl f150)), (qf102, .inl (cf102, 2048, .inl f102)), (qf100, .inl (cf100, 48000, .inl f100)), (qf104, .inl (cf104, 8, .inl f104))] H := hP
    replace hD : va_D A [(qf144, .inl (cf144, 2001, .inl f144)), (qf105, .inl (cf105, 8, .inl f105)), (qf145, .inl (cf145, 2001, .inl f145)), (qf146, .inl (cf146, 2001, .inl f146)), (qf147, .inl (cf147, 20000, .inl f147)), (qf151, .inl (cf151, 60, .inl f151)), (qf110, .inl (cf110, 96, .inl f110)), (qf152, .inl (cf152, 60, .inl f152)), (qf153, .inl (cf153, 60, .inl g901_1)), (qf154, .inl (cf154, 3600, .inl f154)), (h0, .inr (13, z_2)), (qf150, .inl (cf150, 60, .inl f150)), (qf102, .inl (cf102, 2048, .inl f102)), (qf100, .inl (cf100, 48000, .inl f100)), (qf104, .inl (cf104, 8, .inl f104))] := hD
    replace hK : va_K (dC, dI) vwCl [(cf144, .int), (cf105, .int), (cf145, .int), (cf146, .int), (cf147, .int), (cf151, .int), (cf110, .int), (cf152, .int), (cf153, .int), (cf154, .int), (cf150, .int), (cf102, .int), (cf100, .int), (cf104, .int)] s := hK
    obtain ⟨hwa_2, hln_2, hre_2⟩ := hw
    have hfk_2_98 : z_2[98]? = some (.int v98) := (hre_2 98 ).trans (hfk_1_98)
    have hfk_2_100 : z_2[100]? = some (.ref qf100) := (hre_2 100 ).trans (hfk_1_100)
    have hfk_2_102 : z_2[102]? = some (.ref qf102) := (hre_2 102 ).trans (hfk_1_102)
    have hfk_2_104 : z_2[104]? = some (.ref qf104) := (hre_2 104 ).trans (hfk_1_104)
    have hfk_2_105 : z_2[105]? = some (.ref qf105) := (hre_2 105 ).trans (hfk_1_105)
    have hfk_2_110 : z_2[110]? = some (.ref qf110) := (hre_2 110 ).trans (hfk_1_110)
    have hfk_2_138 : z_2[138]? = some (.int v138) := (hre_2 138 ).trans (hfk_1_138)
    have hfk_2_139 : z_2[139]? = some (.int v139) := (hre_2 139 ).trans (hfk_1_139)
    have hfk_2_141 : z_2[141]? = some (.int v141) := (hre_2 141 ).trans (hfk_1_141)
    have hfk_2_142 : z_2[142]? = some (.int v142) := (hre_2 142 ).trans (hfk_1_142)
    have hfk_2_144 : z_2[144]? = some (.ref qf144) := (hre_2 144 ).trans (hfk_1_144)
    have hfk_2_145 : z_2[145]? = some (.ref qf145) := (hre_2 145 ).trans (hfk_1_145)
    have hfk_2_146 : z_2[146]? = some (.ref qf146) := (hre_2 146 ).trans (hfk_1_146)
    have hfk_2_147 : z_2[147]? = some (.ref qf147) := (hre_2 147 ).trans (hfk_1_147)
    have hfk_2_149 : z_2[149]? = some (.int v149) := (hre_2 149 ).trans (hfk_1_149)
    have hfk_2_150 : z_2[150]? = some (.ref qf150) := (hre_2 150 ).trans (hfk_1_150)
    have hfk_2_151 : z_2[151]? = some (.ref qf151) := (hre_2 151 ).trans (hfk_1_151)
    have hfk_2_152 : z_2[152]? = some (.ref qf152) := (hre_2 152 ).trans (hfk_1_152)
    have hfk_2_153 : z_2[153]? = some (.ref qf153) := (hre_2 153 ).trans (hfk_1_153)
    have hfk_2_154 : z_2[154]? = some (.ref qf154) := (hre_2 154 ).trans (hfk_1_154)
    have hrq_2 : ∀ j : Nat, j ≠ 138 → j ≠ 139 → j ≠ 141 → j ≠ 142 → j ≠ 149 → z_2[j]? = zs[j]? := fun j g138 g139 g141 g142 g149 => (hre_2 j ).trans (hrq_1 j g138 g139 g141 g142 g149)
    obtain rfl := hwa_2
    obtain ⟨u3_0, hu_3, hsp⟩ := ox_bind hsp
    try dsimp only at hsp
    have hPc := hP.sub (ws' := [(h0, .inr (13, z_2)), (qf144, .inl (cf144, 2001, .inl f144)), (qf105, .inl (cf105, 8, .inl f105)), (qf102, .inl (cf102, 2048, .inl f102)), (qf100, .inl (cf100, 48000, .inl f100)), (qf104, .inl (cf104, 8, .inl f104))]) [10, 0, 1, 12, 13, 14] rfl
    have hDc := hD.sub (ws' := [(h0, .inr (13, z_2)), (qf144, .inl (cf144, 2001, .inl f144)), (qf105, .inl (cf105, 8, .inl f105)), (qf102, .inl (cf102, 2048, .inl f102)), (qf100, .inl (cf100, 48000, .inl f100)), (qf104, .inl (cf104, 8, .inl f104))]) [10, 0, 1, 12, 13, 14] (by decide) rfl
    have hKc := hK.sub (tys' := [(cf144, .int), (cf105, .int), (cf102, .int), (cf100, .int), (cf104, .int)]) [0, 1, 11, 12, 13] rfl
    have hFc := va_free (wc := [(h0, .inr (13, z_2)), (qf144, .inl (cf144, 2001, .inl f144)), (qf105, .inl (cf105, 8, .inl f105)), (qf102, .inl (cf102, 2048, .inl f102)), (qf100, .inl (cf100, 48000, .inl f100)), (qf104, .inl (cf104, 8, .inl f104))]) hD hS hA [10, 0, 1, 12, 13, 14] rfl
    refine va_calli (va_runV (As := [.int u1_0, .int u2_0]) (rest := []) ⟨hx, hb, hml, hown, hts⟩ (vm_isOne l dC dI H.size h0 z_2 u1_0 u2_0 v98 qf100 qf102 qf104 qf105 qf144 cf144 f144 cf105 f105 cf102 f102 cf100 f100 cf104 f104 nS477 fS477 hS477 qS477 tS477 nf u3_0 hln_2 hfk_2_98 hfk_2_100 hfk_2_102 hfk_2_104 hfk_2_105 hfk_2_144 hu_3) (cwV 2 hts gv_h9_115 rfl rfl rfl (by decide +kernel) ⟨Nat.le_of_ble_eq_true rfl, Nat.le_of_ble_eq_true rfl⟩) ⟨fun a U g mk q => by obtain ⟨q0, q1, qP, qK, qD, qhZWS477, qhZRS477⟩ := q; exact ⟨q0, q1, qP, va_K.moved (u := U) (U := U.calling g mk a) (Vm.Alike.refl U.vm) qK, qD, pz_W.moved (u := U) (U := U.calling g mk a) (Vm.Alike.refl U.vm) qhZWS477, vk_R.same rfl qhZRS477⟩, va_recv hKc hPc (ci := 13) (q0 := 0) rfl rfl, fun U hU hW => ⟨rfl, by rw [hU], by rw [hU]; exact hPc, va_K.moved hW.alike hKc, hDc.weaken (fun _ _ _ _ => trivial), by rw [hU]; exact ((pz_W.moved hW.alike hZWS477).kept hS.2.1).narrow hFc, vk_R.warm hW hZRS477⟩⟩ rfl rfl hl.1 rfl (lv_room (Nat.le_of_ble_eq_true rfl)) dX13_is_16 ⟨Nat.le_of_ble_eq_true rfl, Nat.le_of_ble_eq_true rfl⟩) hS (fun q _ h => hFc q h) hFc ?_
    clear hS
    intro r_4 u t H1 locs ht hvm hw hB hz1 hk1 hS
    obtain ⟨z_3, rfl⟩ : ∃ z, z = u := ⟨_, rfl⟩
    obtain ⟨hP1, hK1, hD1⟩ := hB
    rw [ht] at hP1
    have hK1 := va_K.moved hvm.symm hK1
    try dsimp only at hw
    have hPD := va_join (wr := [(qf145, .inl (cf145, 2001, .inl f145)), (qf146, .inl (cf146, 2001, .inl f146)), (qf147, .inl (cf147, 20000, .inl f147)), (qf151, .inl (cf151, 60, .inl f151)), (qf110, .inl (cf110, 96, .inl f110)), (qf152, .inl (cf152, 60, .inl f152)), (qf153, .inl (cf153, 60, .inl g901_1)), (qf154, .inl (cf154, 3600, .inl f154)), (qf150, .inl (cf150, 60, .inl f150))]) (w1 := [(h0, .inr (13, z_3)), (qf144, .inl (cf144, 2001, .inl f144)), (qf105, .inl (cf105, 8, .inl f105)), (qf102, .inl (cf102, 2048, .inl f102)), (qf100, .inl (cf100, 48000, .inl f100)), (qf104, .inl (cf104, 8, .inl f104))]) hP hD [10, 0, 1, 12, 13, 14] [2, 3, 4, 5, 6, 7, 8, 9, 11] rfl rfl (by decide) (by decide) hk1 hFc hP1 hD1
    clear hP hD
    obtain ⟨hP, hD⟩ := hPD
    replace hK := (hK.sub (tys' := [(cf145, .int), (cf146, .int), (cf147, .int), (cf151, .int), (cf110, .int), (cf152, .int), (cf153, .int), (cf154, .int), (cf150, .int)]) [2, 3, 4, 5, 6, 7, 8, 9, 10] rfl).app hK1
    clear hPc hDc hKc hFc hP1 hK1 hD1 hz1 hk1 ht hvm
    generalize H1 = H at hP hS ⊢
    replace hP : va_P (dC, dI) vwCl [(qf145, .inl (cf145, 2001, .inl f145)), (qf146, .inl (cf146, 2001, .inl f146)), (qf147, .inl (cf147, 20000, .inl f147)), (qf151, .inl (cf151, 60, .inl f151)), (qf110, .inl (cf110, 96, .inl f110)), (qf152, .inl (cf152, 60, .inl f152)), (qf153, .inl (cf153, 60, .inl g901_1)), (qf154, .inl (cf154, 3600, .inl f154)), (qf150, .inl (cf150, 60, .inl f150)), (h0, .inr (13, z_3)), (qf144, .inl (cf144, 2001, .inl f144)), (qf105, .inl (cf105, 8, .inl f105)), (qf102, .inl (cf102, 2048, .inl f102)), (qf100, .inl (cf100, 48000, .inl f100)), (qf104, .inl (cf104, 8, .inl f104))] H := hP
    replace hD : va_D A [(qf145, .inl (cf145, 2001, .inl f145)), (qf146, .inl (cf146, 2001, .inl f146)), (qf147, .inl (cf147, 20000, .inl f147)), (qf151, .inl (cf151, 60, .inl f151)), (qf110, .inl (cf110, 96, .inl f110)), (qf152, .inl (cf152, 60, .inl f152)), (qf153, .inl (cf153, 60, .inl g901_1)), (qf154, .inl (cf154, 3600, .inl f154)), (qf150, .inl (cf150, 60, .inl f150)), (h0, .inr (13, z_3)), (qf144, .inl (cf144, 2001, .inl f144)), (qf105, .inl (cf105, 8, .inl f105)), (qf102, .inl (cf102, 2048, .inl f102)), (qf100, .inl (cf100, 48000, .inl f100)), (qf104, .inl (cf104, 8, .inl f104))] := hD
    replace hK : va_K (dC, dI) vwCl [(cf145, .int), (cf146, .int), (cf147, .int), (cf151, .int), (cf110, .int), (cf152, .int), (cf153, .int), (cf154, .int), (cf150, .int), (cf144, .int), (cf105, .int), (cf102, .int), (cf100, .int), (cf104, .int)] s := hK
    obtain ⟨hwa_3, hln_3, hre_3⟩ := hw
    have hfk_3_98 : z_3[98]? = some (.int v98) := (hre_3 98 ).trans (hfk_2_98)
    have hfk_3_100 : z_3[100]? = some (.ref qf100) := (hre_3 100 ).trans (hfk_2_100)
    have hfk_3_102 : z_3[102]? = some (.ref qf102) := (hre_3 102 ).trans (hfk_2_102)
    have hfk_3_104 : z_3[104]? = some (.ref qf104) := (hre_3 104 ).trans (hfk_2_104)
    have hfk_3_105 : z_3[105]? = some (.ref qf105) := (hre_3 105 ).trans (hfk_2_105)
    have hfk_3_110 : z_3[110]? = some (.ref qf110) := (hre_3 110 ).trans (hfk_2_110)
    have hfk_3_138 : z_3[138]? = some (.int v138) := (hre_3 138 ).trans (hfk_2_138)
    have hfk_3_139 : z_3[139]? = some (.int v139) := (hre_3 139 ).trans (hfk_2_139)
    have hfk_3_141 : z_3[141]? = some (.int v141) := (hre_3 141 ).trans (hfk_2_141)
    have hfk_3_142 : z_3[142]? = some (.int v142) := (hre_3 142 ).trans (hfk_2_142)
    have hfk_3_144 : z_3[144]? = some (.ref qf144) := (hre_3 144 ).trans (hfk_2_144)
    have hfk_3_145 : z_3[145]? = some (.ref qf145) := (hre_3 145 ).trans (hfk_2_145)
    have hfk_3_146 : z_3[146]? = some (.ref qf146) := (hre_3 146 ).trans (hfk_2_146)
    have hfk_3_147 : z_3[147]? = some (.ref qf147) := (hre_3 147 ).trans (hfk_2_147)
    have hfk_3_149 : z_3[149]? = some (.int v149) := (hre_3 149 ).trans (hfk_2_149)
    have hfk_3_150 : z_3[150]? = some (.ref qf150) := (hre_3 150 ).trans (hfk_2_150)
    have hfk_3_151 : z_3[151]? = some (.ref qf151) := (hre_3 151 ).trans (hfk_2_151)
    have hfk_3_152 : z_3[152]? = some (.ref qf152) := (hre_3 152 ).trans (hfk_2_152)
    have hfk_3_153 : z_3[153]? = some (.ref qf153) := (hre_3 153 ).trans (hfk_2_153)
    have hfk_3_154 : z_3[154]? = some (.ref qf154) := (hre_3 154 ).trans (hfk_2_154)
    have hrq_3 : ∀ j : Nat, j ≠ 138 → j ≠ 139 → j ≠ 141 → j ≠ 142 → j ≠ 149 → z_3[j]? = zs[j]? := fun j g138 g139 g141 g142 g149 => (hre_3 j ).trans (hrq_2 j g138 g139 g141 g142 g149)
    obtain ⟨rfl, hz_3⟩ := hwa_3
    rcases hz_3 with rfl | rfl
    · rw [if_pos rfl] at hsp
      refine lv_if_eq (tgt := 26) hx hb dX13_is_19 (by decide) (fun c_5 => ?_) (fun c_5 => (show False by revert c_5; decide).elim)
      exact hj_26 (H, locs, ls, z_3, a1, u1_0, f144, f145, f146, f147, f152, g901_1, f154, v138, v139, v141, v142, v149) ⟨lv_sub hl [1, 2, 0] rfl, hS, hD.sub (ws' := [(h0, .inr (13, z_3)), (qf153, .inl (cf153, 60, .inl g901_1)), (qf154, .inl (cf154, 3600, .inl f154)), (qf150, .inl (cf150, 60, .inl f150)), (qf102, .inl (cf102, 2048, .inl f102)), (qf100, .inl (cf100, 48000, .inl f100)), (qf104, .inl (cf104, 8, .inl f104)), (qf144, .inl (cf144, 2001, .inl f144)), (qf105, .inl (cf105, 8, .inl f105)), (qf145, .inl (cf145, 2001, .inl f145)), (qf146, .inl (cf146, 2001, .inl f146)), (qf147, .inl (cf147, 20000, .inl f147)), (qf151, .inl (cf151, 60, .inl f151)), (qf110, .inl (cf110, 96, .inl f110)), (qf152, .inl (cf152, 60, .inl f152))]) [9, 6, 7, 8, 12, 13, 14, 10, 11, 0, 1, 2, 3, 4, 5] (by decide) rfl, hP.sub (ws' := [(h0, .inr (13, z_3)), (qf153, .inl (cf153, 60, .inl g901_1)), (qf154, .inl (cf154, 3600, .inl f154)), (qf150, .inl (cf150, 60, .inl f150)), (qf102, .inl (cf102, 2048, .inl f102)), (qf100, .inl (cf100, 48000, .inl f100)), (qf104, .inl (cf104, 8, .inl f104)), (qf144, .inl (cf144, 2001, .inl f144)), (qf105, .inl (cf105, 8, .inl f105)), (qf145, .inl (cf145, 2001, .inl f145)), (qf146, .inl (cf146, 2001, .inl f146)), (qf147, .inl (cf147, 20000, .inl f147)), (qf151, .inl (cf151, 60, .inl f151)), (qf110, .inl (cf110, 96, .inl f110)), (qf152, .inl (cf152, 60, .inl f152))]) [9, 6, 7, 8, 12, 13, 14, 10, 11, 0, 1, 2, 3, 4, 5] rfl, hfk_3_98, hfk_3_100, hfk_3_102, hfk_3_104, hfk_3_105, hfk_3_110, hfk_3_138, hfk_3_139, hfk_3_141, hfk_3_142, hfk_3_144, hfk_3_145, hfk_3_146, hfk_3_147, hfk_3_149, hfk_3_150, hfk_3_151, hfk_3_152, hfk_3_153, hfk_3_154, hln_3, hrq_3, hsp⟩
    · rw [if_neg (by decide)] at hsp
      refine lv_if_eq (tgt := 26) hx hb dX13_is_19 (by decide) (fun c_6 => (show False by revert c_6; decide).elim) (fun c_6 => ?_)
      refine lv_iconst (v := 1) hx hb dX13_is_22 (by decide) ?_
      refine lv_goto (tgt := 27) hx hb dX13_is_23 (by decide) ?_
      exact hj_27 (H, locs, ls, z_3, a1, u1_0, 1, f144, f145, f146, f147, f152, g901_1, f154, v138, v139, v141, v142, v149) ⟨lv_sub hl [1, 2, 0] rfl, hS, hD.sub (ws' := [(h0, .inr (13, z_3)), (qf153, .inl (cf153, 60, .inl g901_1)), (qf154, .inl (cf154, 3600, .inl f154)), (qf150, .inl (cf150, 60, .inl f150)), (qf102, .inl (cf102, 2048, .inl f102)), (qf100, .inl (cf100, 48000, .inl f100)), (qf104, .inl (cf104, 8, .inl f104)), (qf144, .inl (cf144, 2001, .inl f144)), (qf105, .inl (cf105, 8, .inl f105)), (qf145, .inl (cf145, 2001, .inl f145)), (qf146, .inl (cf146, 2001, .inl f146)), (qf147, .inl (cf147, 20000, .inl f147)), (qf151, .inl (cf151, 60, .inl f151)), (qf110, .inl (cf110, 96, .inl f110)), (qf152, .inl (cf152, 60, .inl f152))]) [9, 6, 7, 8, 12, 13, 14, 10, 11, 0, 1, 2, 3, 4, 5] (by decide) rfl, hP.sub (ws' := [(h0, .inr (13, z_3)), (qf153, .inl (cf153, 60, .inl g901_1)), (qf154, .inl (cf154, 3600, .inl f154)), (qf150, .inl (cf150, 60, .inl f150)), (qf102, .inl (cf102, 2048, .inl f102)), (qf100, .inl (cf100, 48000, .inl f100)), (qf104, .inl (cf104, 8, .inl f104)), (qf144, .inl (cf144, 2001, .inl f144)), (qf105, .inl (cf105, 8, .inl f105)), (qf145, .inl (cf145, 2001, .inl f145)), (qf146, .inl (cf146, 2001, .inl f146)), (qf147, .inl (cf147, 20000, .inl f147)), (qf151, .inl (cf151, 60, .inl f151)), (qf110, .inl (cf110, 96, .inl f110)), (qf152, .inl (cf152, 60, .inl f152))]) [9, 6, 7, 8, 12, 13, 14, 10, 11, 0, 1, 2, 3, 4, 5] rfl, hfk_3_98, hfk_3_100, hfk_3_102, hfk_3_104, hfk_3_105, hfk_3_110, hfk_3_138, hfk_3_139, hfk_3_141, hfk_3_142, hfk_3_144, hfk_3_145, hfk_3_146, hfk_3_147, hfk_3_149, hfk_3_150, hfk_3_151, hfk_3_152, hfk_3_153, hfk_3_154, hln_3, hrq_3, hsp⟩
def jn_vm_flows_408 (nf : Nat) (a1 : Int32) (a2 : Int32) (v98 : Int32) (v117 : Int32) (v120 : Int32) (v121 : Int32) (v122 : Int32) (v123 : Int32) (v124 : Int32) (v125 : Int32) (v129 : Int32) (v130 : Int32) (v131 : Int32) (v132 : Int32) (v133 : Int32) (v134 : Int32) (v135 : Int32) (v136 : Int32) (f109 : Nat → Int32) (f100 : Nat → Int32) (f127 : Nat → Int32) (f107 : Nat → Int32) (f102 : Nat → Int32) (f111 : Nat → Int32) (f104 : Nat → Int32) (f118 : Nat → Int32) (f119 : Nat → Int32) (f105 : Nat → Int32) (f128 : Nat → Int32) (f110 : Nat → Int32) (f103 : Nat → Int32) (f106 : Nat → Int32) (f108 : Nat → Int32) (f137 : Nat → Int32) (nS477 : Nat) (fS477 : Nat → Int32) (kk_155 : Int32 → Int32 → Int32 → Int32 → (Nat → Int32) → (Nat → Int32) → (Nat → Int32) → (Nat → Int32) → (Nat → Int32) → Int32 → Int32 → Int32 → Int32 → Int32 → Int32 → Int32 → Int32 → Int32 → Option (Int32 × (Nat → Int32) × (Nat → Int32) × (Nat → Int32) × (Nat → Int32) × (Nat → Int32) × Int32 × Int32 × Int32 × Int32 × Int32 × Int32 × Int32 × Int32 × Int32)) (l1_408 : Int32) (l2_408 : Int32) (l6_408 : Int32) (s0_408 : Int32) (g118_408 : Nat → Int32) (g119_408 : Nat → Int32) (g127_408 : Nat → Int32) (g128_408 : Nat → Int32) (g137_408 : Nat → Int32) (x117_408 : Int32) (x120_408 : Int32) (x121_408 : Int32) (x122_408 : Int32) (x123_408 : Int32) (x124_408 : Int32) (x125_408 : Int32) (x131_408 : Int32) (x136_408 : Int32) : Option (Int32 × (Nat → Int32) × (Nat → Int32) × (Nat → Int32) × (Nat → Int32) × (Nat → Int32) × Int32 × Int32 × Int32 × Int32 × Int32 × Int32 × Int32 × Int32 × Int32) := ((sp_tm_code nf l6_408 v132 v134 f100).bind (fun p1 => ((sp_tm_widthOf nf p1).bind (fun p2 => (kk_155 l1_408 l2_408 s0_408 (l6_408 + p2) g118_408 g119_408 g127_408 g128_408 g137_408 x117_408 x120_408 x121_408 x122_408 x123_408 x124_408 x125_408 x131_408 x136_408)))))
def jn_vm_flows_407 (nf : Nat) (a1 : Int32) (a2 : Int32) (v98 : Int32) (v117 : Int32) (v120 : Int32) (v121 : Int32) (v122 : Int32) (v123 : Int32) (v124 : Int32) (v125 : Int32) (v129 : Int32) (v130 : Int32) (v131 : Int32) (v132 : Int32) (v133 : Int32) (v134 : Int32) (v135 : Int32) (v136 : Int32) (f109 : Nat → Int32) (f100 : Nat → Int32) (f127 : Nat → Int32) (f107 : Nat → Int32) (f102 : Nat → Int32) (f111 : Nat → Int32) (f104 : Nat → Int32) (f118 : Nat → Int32) (f119 : Nat → Int32) (f105 : Nat → Int32) (f128 : Nat → Int32) (f110 : Nat → Int32) (f103 : Nat → Int32) (f106 : Nat → Int32) (f108 : Nat → Int32) (f137 : Nat → Int32) (nS477 : Nat) (fS477 : Nat → Int32) (kk_155 : Int32 → Int32 → Int32 → Int32 → (Nat → Int32) → (Nat → Int32) → (Nat → Int32) → (Nat → Int32) → (Nat → Int32) → Int32 → Int32 → Int32 → Int32 → Int32 → Int32 → Int32 → Int32 → Int32 → Option (Int32 × (Nat → Int32) × (Nat → Int32) × (Nat → Int32) × (Nat → Int32) × (Nat → Int32) × Int32 × Int32 × Int32 × Int32 × Int32 × Int32 × Int32 × Int32 × Int32)) (l1_407 : Int32) (l2_407 : Int32) (l6_407 : Int32) (g118_407 : Nat → Int32) (g119_407 : Nat → Int32) (g127_407 : Nat → Int32) (g128_407 : Nat → Int32) (g137_407 : Nat → Int32) (x117_407 : Int32) (x120_407 : Int32) (x121_407 : Int32) (x122_407 : Int32) (x123_407 : Int32) (x124_407 : Int32) (x125_407 : Int32) (x131_407 : Int32) (x136_407 : Int32) : Option (Int32 × (Nat → Int32) × (Nat → Int32) × (Nat → Int32) × (Nat → Int32) × (Nat → Int32) × Int32 × Int32 × Int32 × Int32 × Int32 × Int32 × Int32 × Int32 × Int32) := (jn_vm_flows_408 nf a1 a2 v98 v117 v120 v121 v122 v123 v124 v125 v129 v130 v131 v132 v133 v134 v135 v136 f109 f100 f127 f107 f102 f111 f104 f118 f119 f105 f128 f110 f103 f106 f108 f137 nS477 fS477 kk_155 l1_407 l2_407 l6_407 0 g118_407 g119_407 g127_407 g128_407 g137_407 x117_407 x120_407 x121_407 x122_407 x123_407 x124_407 x125_407 x131_407 x136_407)
def jn_vm_flows_363 (nf : Nat) (a1 : Int32) (a2 : Int32) (v98 : Int32) (v117 : Int32) (v120 : Int32) (v121 : Int32) (v122 : Int32) (v123 : Int32) (v124 : Int32) (v125 : Int32) (v129 : Int32) (v130 : Int32) (v131 : Int32) (v132 : Int32) (v133 : Int32) (v134 : Int32) (v135 : Int32) (v136 : Int32) (f109 : Nat → Int32) (f100 : Nat → Int32) (f127 : Nat → Int32) (f107 : Nat → Int32) (f102 : Nat → Int32) (f111 : Nat → Int32) (f104 : Nat → Int32) (f118 : Nat → Int32) (f119 : Nat → Int32) (f105 : Nat → Int32) (f128 : Nat → Int32) (f110 : Nat → Int32) (f103 : Nat → Int32) (f106 : Nat → Int32) (f108 : Nat → Int32) (f137 : Nat → Int32) (nS477 : Nat) (fS477 : Nat → Int32) (kk_155 : Int32 → Int32 → Int32 → Int32 → (Nat → Int32) → (Nat → Int32) → (Nat → Int32) → (Nat → Int32) → (Nat → Int32) → Int32 → Int32 → Int32 → Int32 → Int32 → Int32 → Int32 → Int32 → Int32 → Option (Int32 × (Nat → Int32) × (Nat → Int32) × (Nat → Int32) × (Nat → Int32) × (Nat → Int32) × Int32 × Int32 × Int32 × Int32 × Int32 × Int32 × Int32 × Int32 × Int32)) (l1_363 : Int32) (l2_363 : Int32) (l6_363 : Int32) (l8_363 : Int32) (g118_363 : Nat → Int32) (g119_363 : Nat → Int32) (g127_363 : Nat → Int32) (g128_363 : Nat → Int32) (g137_363 : Nat → Int32) (x117_363 : Int32) (x120_363 : Int32) (x121_363 : Int32) (x122_363 : Int32) (x123_363 : Int32) (x124_363 : Int32) (x125_363 : Int32) (x131_363 : Int32) (x136_363 : Int32) : Option (Int32 × (Nat → Int32) × (Nat → Int32) × (Nat → Int32) × (Nat → Int32) × (Nat → Int32) × Int32 × Int32 × Int32 × Int32 × Int32 × Int32 × Int32 × Int32 × Int32) := (if l8_363 = 167 then (jn_vm_flows_407 nf a1 a2 v98 v117 v120 v121 v122 v123 v124 v125 v129 v130 v131 v132 v133 v134 v135 v136 f109 f100 f127 f107 f102 f111 f104 f118 f119 f105 f128 f110 f103 f106 f108 f137 nS477 fS477 kk_155 l1_363 l2_363 l6_363 g118_363 g119_363 g127_363 g128_363 g137_363 x117_363 x120_363 x121_363 x122_363 x123_363 x124_363 x125_363 x131_363 x136_363) else (if l8_363 = 172 then (jn_vm_flows_407 nf a1 a2 v98 v117 v120 v121 v122 v123 v124 v125 v129 v130 v131 v132 v133 v134 v135 v136 f109 f100 f127 f107 f102 f111 f104 f118 f119 f105 f128 f110 f103 f106 f108 f137 nS477 fS477 kk_155 l1_363 l2_363 l6_363 g118_363 g119_363 g127_363 g128_363 g137_363 x117_363 x120_363 x121_363 x122_363 x123_363 x124_363 x125_363 x131_363 x136_363) else (if l8_363 = 176 then (jn_vm_flows_407 nf a1 a2 v98 v117 v120 v121 v122 v123 v124 v125 v129 v130 v131 v132 v133 v134 v135 v136 f109 f100 f127 f107 f102 f111 f104 f118 f119 f105 f128 f110 f103 f106 f108 f137 nS477 fS477 kk_155 l1_363 l2_363 l6_363 g118_363 g119_363 g127_363 g128_363 g137_363 x117_363 x120_363 x121_363 x122_363 x123_363 x124_363 x125_363 x131_363 x136_363) else (if l8_363 = 177 then (jn_vm_flows_407 nf a1 a2 v98 v117 v120 v121 v122 v123 v124 v125 v129 v130 v131 v132 v133 v134 v135 v136 f109 f100 f127 f107 f102 f111 f104 f118 f119 f105 f128 f110 f103 f106 f108 f137 nS477 fS477 kk_155 l1_363 l2_363 l6_363 g118_363 g119_363 g127_363 g128_363 g137_363 x117_363 x120_363 x121_363 x122_363 x123_363 x124_363 x125_363 x131_363 x136_363) else (if l8_363 = 191 then (jn_vm_flows_407 nf a1 a2 v98 v117 v120 v121 v122 v123 v124 v125 v129 v130 v131 v132 v133 v134 v135 v136 f109 f100 f127 f107 f102 f111 f104 f118 f119 f105 f128 f110 f103 f106 f108 f137 nS477 fS477 kk_155 l1_363 l2_363 l6_363 g118_363 g119_363 g127_363 g128_363 g137_363 x117_363 x120_363 x121_363 x122_363 x123_363 x124_363 x125_363 x131_363 x136_363) else (jn_vm_flows_408 nf a1 a2 v98 v117 v120 v121 v122 v123 v124 v125 v129 v130 v131 v132 v133 v134 v135 v136 f109 f100 f127 f107 f102 f111 f104 f118 f119 f105 f128 f110 f103 f106 f108 f137 nS477 fS477 kk_155 l1_363 l2_363 l6_363 1 g118_363 g119_363 g127_363 g128_363 g137_363 x117_363 x120_363 x121_363 x122_363 x123_363 x124_363 x125_363 x131_363 x136_363))))))
def jn_vm_flows_240 (nf : Nat) (a1 : Int32) (a2 : Int32) (v98 : Int32) (v117 : Int32) (v120 : Int32) (v121 : Int32) (v122 : Int32) (v123 : Int32) (v124 : Int32) (v125 : Int32) (v129 : Int32) (v130 : Int32) (v131 : Int32) (v132 : Int32) (v133 : Int32) (v134 : Int32) (v135 : Int32) (v136 : Int32) (f109 : Nat → Int32) (f100 : Nat → Int32) (f127 : Nat → Int32) (f107 : Nat → Int32) (f102 : Nat → Int32) (f111 : Nat → Int32) (f104 : Nat → Int32) (f118 : Nat → Int32) (f119 : Nat → Int32) (f105 : Nat → Int32) (f128 : Nat → Int32) (f110 : Nat → Int32) (f103 : Nat → Int32) (f106 : Nat → Int32) (f108 : Nat → Int32) (f137 : Nat → Int32) (nS477 : Nat) (fS477 : Nat → Int32) (kk_155 : Int32 → Int32 → Int32 → Int32 → (Nat → Int32) → (Nat → Int32) → (Nat → Int32) → (Nat → Int32) → (Nat → Int32) → Int32 → Int32 → Int32 → Int32 → Int32 → Int32 → Int32 → Int32 → Int32 → Option (Int32 × (Nat → Int32) × (Nat → Int32) × (Nat → Int32) × (Nat → Int32) × (Nat → Int32) × Int32 × Int32 × Int32 × Int32 × Int32 × Int32 × Int32 × Int32 × Int32)) (l1_240 : Int32) (l2_240 : Int32) (l6_240 : Int32) (g118_240 : Nat → Int32) (g119_240 : Nat → Int32) (g127_240 : Nat → Int32) (g128_240 : Nat → Int32) (g137_240 : Nat → Int32) (x117_240 : Int32) (x120_240 : Int32) (x121_240 : Int32) (x122_240 : Int32) (x123_240 : Int32) (x124_240 : Int32) (x125_240 : Int32) (x131_240 : Int32) (x136_240 : Int32) : Option (Int32 × (Nat → Int32) × (Nat → Int32) × (Nat → Int32) × (Nat → Int32) × (Nat → Int32) × Int32 × Int32 × Int32 × Int32 × Int32 × Int32 × Int32 × Int32 × Int32) := ((sp_vm_handled nf l6_240 v98 x117_240 x120_240 v132 v133 f110 f100 f111 g127_240 f102 f104 g118_240 g119_240 f105 nS477 fS477).bind (fun p1 => (if p1.1 = 0 then ((sp_tm_bad nf 12 l1_240 l2_240 l6_240).bind (fun p2 => (if p2.1 = 0 then (some (0, p1.2.1, p1.2.2.1, g127_240, g128_240, g137_240, p1.2.2.2.1, p1.2.2.2.2, x121_240, p2.2.1, p2.2.2.1, p2.2.2.2.1, p2.2.2.2.2, x131_240, x136_240)) else (some (1, p1.2.1, p1.2.2.1, g127_240, g128_240, g137_240, p1.2.2.2.1, p1.2.2.2.2, x121_240, p2.2.1, p2.2.2.1, p2.2.2.2.1, p2.2.2.2.2, x131_240, x136_240))))) else ((sp_vm_right nf l6_240 v98 p1.2.2.2.1 p1.2.2.2.2 x121_240 v132 v134 f100 f103 f102 f104 p1.2.1 p1.2.2.1 f105 f106 f108 f107 f109 nS477 fS477).bind (fun p3 => (if p3.1 = 0 then ((sp_tm_bad nf 11 l1_240 l2_240 l6_240).bind (fun p4 => (if p4.1 = 0 then (some (0, p3.2.1, p3.2.2.1, g127_240, g128_240, g137_240, p3.2.2.2.1, p3.2.2.2.2.1, p3.2.2.2.2.2, p4.2.1, p4.2.2.1, p4.2.2.2.1, p4.2.2.2.2, x131_240, x136_240)) else (some (1, p3.2.1, p3.2.2.1, g127_240, g128_240, g137_240, p3.2.2.2.1, p3.2.2.2.2.1, p3.2.2.2.2.2, p4.2.1, p4.2.2.1, p4.2.2.2.1, p4.2.2.2.2, x131_240, x136_240))))) else ((sp_vm_wanted nf l6_240 v98 p3.2.2.2.1 p3.2.2.2.2.1 v129 v130 x131_240 v132 v134 x136_240 f100 g128_240 g127_240 f104 f102 p3.2.1 p3.2.2.1 f105 g137_240 nS477 fS477).bind (fun p5 => (if p5.1 = 0 then ((sp_tm_bad nf 12 l1_240 l2_240 l6_240).bind (fun p6 => (if p6.1 = 0 then (some (0, p5.2.1, p5.2.2.1, p5.2.2.2.1, p5.2.2.2.2.1, p5.2.2.2.2.2.1, p5.2.2.2.2.2.2.1, p5.2.2.2.2.2.2.2.1, p3.2.2.2.2.2, p6.2.1, p6.2.2.1, p6.2.2.2.1, p6.2.2.2.2, p5.2.2.2.2.2.2.2.2, x136_240)) else (some (1, p5.2.1, p5.2.2.1, p5.2.2.2.1, p5.2.2.2.2.1, p5.2.2.2.2.2.1, p5.2.2.2.2.2.2.1, p5.2.2.2.2.2.2.2.1, p3.2.2.2.2.2, p6.2.1, p6.2.2.1, p6.2.2.2.1, p6.2.2.2.2, p5.2.2.2.2.2.2.2.2, x136_240))))) else ((sp_tm_code nf l6_240 v132 v134 f100).bind (fun p7 => ((sp_tm_isJump nf p7).bind (fun p8 => (if p8 = 0 then (jn_vm_flows_363 nf a1 a2 v98 v117 v120 v121 v122 v123 v124 v125 v129 v130 v131 v132 v133 v134 v135 v136 f109 f100 f127 f107 f102 f111 f104 f118 f119 f105 f128 f110 f103 f106 f108 f137 nS477 fS477 kk_155 l1_240 l2_240 l6_240 p7 p5.2.1 p5.2.2.1 p5.2.2.2.1 p5.2.2.2.2.1 p5.2.2.2.2.2.1 p5.2.2.2.2.2.2.1 p5.2.2.2.2.2.2.2.1 p3.2.2.2.2.2 x122_240 x123_240 x124_240 x125_240 p5.2.2.2.2.2.2.2.2 x136_240) else ((sp_tm_aimOf nf l6_240 v132 v134 f100).bind (fun p9 => ((sp_tn_frameFor nf p9 v132 v133 f111 f100).bind (fun p10 => (if p10 = (-1) then ((sp_tm_bad nf 12 l1_240 l2_240 l6_240).bind (fun p11 => (if p11.1 = 0 then (some (0, p5.2.1, p5.2.2.1, p5.2.2.2.1, p5.2.2.2.2.1, p5.2.2.2.2.2.1, p5.2.2.2.2.2.2.1, p5.2.2.2.2.2.2.2.1, p3.2.2.2.2.2, p11.2.1, p11.2.2.1, p11.2.2.2.1, p11.2.2.2.2, p5.2.2.2.2.2.2.2.2, x136_240)) else (some (1, p5.2.1, p5.2.2.1, p5.2.2.2.1, p5.2.2.2.2.1, p5.2.2.2.2.2.1, p5.2.2.2.2.2.2.1, p5.2.2.2.2.2.2.2.1, p3.2.2.2.2.2, p11.2.1, p11.2.2.1, p11.2.2.2.1, p11.2.2.2.2, p5.2.2.2.2.2.2.2.2, x136_240))))) else ((sp_vm_localsFit nf p10 v98 p5.2.2.2.2.2.2.1 p5.2.2.2.2.2.2.2.1 v132 f100 p5.2.2.2.1 f102 f104 p5.2.1 p5.2.2.1 f105 nS477 fS477).bind (fun p12 => (if p12.1 = 0 then ((sp_tm_bad nf 12 l1_240 l2_240 l6_240).bind (fun p13 => (if p13.1 = 0 then (some (0, p12.2.1, p12.2.2.1, p5.2.2.2.1, p5.2.2.2.2.1, p5.2.2.2.2.2.1, p12.2.2.2.1, p12.2.2.2.2, p3.2.2.2.2.2, p13.2.1, p13.2.2.1, p13.2.2.2.1, p13.2.2.2.2, p5.2.2.2.2.2.2.2.2, x136_240)) else (some (1, p12.2.1, p12.2.2.1, p5.2.2.2.1, p5.2.2.2.2.1, p5.2.2.2.2.2.1, p12.2.2.2.1, p12.2.2.2.2, p3.2.2.2.2.2, p13.2.1, p13.2.2.1, p13.2.2.2.1, p13.2.2.2.2, p5.2.2.2.2.2.2.2.2, x136_240))))) else ((sp_vm_stackFits nf p10 v98 p12.2.2.2.1 p12.2.2.2.2 p5.2.2.2.2.2.2.2.2 v132 f100 p5.2.2.2.2.1 f102 f104 p12.2.1 p12.2.2.1 f105 nS477 fS477).bind (fun p14 => (if p14.1 = 0 then ((sp_tm_bad nf 12 l1_240 l2_240 l6_240).bind (fun p15 => (if p15.1 = 0 then (some (0, p14.2.1, p14.2.2.1, p5.2.2.2.1, p5.2.2.2.2.1, p5.2.2.2.2.2.1, p14.2.2.2.1, p14.2.2.2.2, p3.2.2.2.2.2, p15.2.1, p15.2.2.1, p15.2.2.2.1, p15.2.2.2.2, p5.2.2.2.2.2.2.2.2, x136_240)) else (some (1, p14.2.1, p14.2.2.1, p5.2.2.2.1, p5.2.2.2.2.1, p5.2.2.2.2.2.1, p14.2.2.2.1, p14.2.2.2.2, p3.2.2.2.2.2, p15.2.1, p15.2.2.1, p15.2.2.2.1, p15.2.2.2.2, p5.2.2.2.2.2.2.2.2, x136_240))))) else (jn_vm_flows_363 nf a1 a2 v98 v117 v120 v121 v122 v123 v124 v125 v129 v130 v131 v132 v133 v134 v135 v136 f109 f100 f127 f107 f102 f111 f104 f118 f119 f105 f128 f110 f103 f106 f108 f137 nS477 fS477 kk_155 l1_240 l2_240 l6_240 p7 p14.2.1 p14.2.2.1 p5.2.2.2.1 p5.2.2.2.2.1 p5.2.2.2.2.2.1 p14.2.2.2.1 p14.2.2.2.2 p3.2.2.2.2.2 x122_240 x123_240 x124_240 x125_240 p5.2.2.2.2.2.2.2.2 x136_240))))))))))))))))))))))))))
def jn_vm_flows_234 (nf : Nat) (a1 : Int32) (a2 : Int32) (v98 : Int32) (v117 : Int32) (v120 : Int32) (v121 : Int32) (v122 : Int32) (v123 : Int32) (v124 : Int32) (v125 : Int32) (v129 : Int32) (v130 : Int32) (v131 : Int32) (v132 : Int32) (v133 : Int32) (v134 : Int32) (v135 : Int32) (v136 : Int32) (f109 : Nat → Int32) (f100 : Nat → Int32) (f127 : Nat → Int32) (f107 : Nat → Int32) (f102 : Nat → Int32) (f111 : Nat → Int32) (f104 : Nat → Int32) (f118 : Nat → Int32) (f119 : Nat → Int32) (f105 : Nat → Int32) (f128 : Nat → Int32) (f110 : Nat → Int32) (f103 : Nat → Int32) (f106 : Nat → Int32) (f108 : Nat → Int32) (f137 : Nat → Int32) (nS477 : Nat) (fS477 : Nat → Int32) (kk_155 : Int32 → Int32 → Int32 → Int32 → (Nat → Int32) → (Nat → Int32) → (Nat → Int32) → (Nat → Int32) → (Nat → Int32) → Int32 → Int32 → Int32 → Int32 → Int32 → Int32 → Int32 → Int32 → Int32 → Option (Int32 × (Nat → Int32) × (Nat → Int32) × (Nat → Int32) × (Nat → Int32) × (Nat → Int32) × Int32 × Int32 × Int32 × Int32 × Int32 × Int32 × Int32 × Int32 × Int32)) (l1_234 : Int32) (l2_234 : Int32) (l6_234 : Int32) (l7_234 : Int32) (g118_234 : Nat → Int32) (g119_234 : Nat → Int32) (g127_234 : Nat → Int32) (g128_234 : Nat → Int32) (g137_234 : Nat → Int32) (x117_234 : Int32) (x120_234 : Int32) (x121_234 : Int32) (x122_234 : Int32) (x123_234 : Int32) (x124_234 : Int32) (x125_234 : Int32) (x131_234 : Int32) (x136_234 : Int32) : Option (Int32 × (Nat → Int32) × (Nat → Int32) × (Nat → Int32) × (Nat → Int32) × (Nat → Int32) × Int32 × Int32 × Int32 × Int32 × Int32 × Int32 × Int32 × Int32 × Int32) := ((sp_vm_becomes nf l7_234 v98 x117_234 x120_234 v129 x131_234 v132 f100 f102 f104 g118_234 g119_234 g128_234 g127_234 nS477 fS477).bind (fun p1 => (jn_vm_flows_240 nf a1 a2 v98 v117 v120 v121 v122 v123 v124 v125 v129 v130 v131 v132 v133 v134 v135 v136 f109 f100 f127 f107 f102 f111 f104 f118 f119 f105 f128 f110 f103 f106 f108 f137 nS477 fS477 kk_155 l1_234 l2_234 l6_234 p1.1 p1.2.1 p1.2.2.1 p1.2.2.2.1 g137_234 p1.2.2.2.2.1 p1.2.2.2.2.2.1 x121_234 x122_234 x123_234 x124_234 x125_234 p1.2.2.2.2.2.2 x136_234)))
def jn_vm_flows_194 (nf : Nat) (a1 : Int32) (a2 : Int32) (v98 : Int32) (v117 : Int32) (v120 : Int32) (v121 : Int32) (v122 : Int32) (v123 : Int32) (v124 : Int32) (v125 : Int32) (v129 : Int32) (v130 : Int32) (v131 : Int32) (v132 : Int32) (v133 : Int32) (v134 : Int32) (v135 : Int32) (v136 : Int32) (f109 : Nat → Int32) (f100 : Nat → Int32) (f127 : Nat → Int32) (f107 : Nat → Int32) (f102 : Nat → Int32) (f111 : Nat → Int32) (f104 : Nat → Int32) (f118 : Nat → Int32) (f119 : Nat → Int32) (f105 : Nat → Int32) (f128 : Nat → Int32) (f110 : Nat → Int32) (f103 : Nat → Int32) (f106 : Nat → Int32) (f108 : Nat → Int32) (f137 : Nat → Int32) (nS477 : Nat) (fS477 : Nat → Int32) (kk_155 : Int32 → Int32 → Int32 → Int32 → (Nat → Int32) → (Nat → Int32) → (Nat → Int32) → (Nat → Int32) → (Nat → Int32) → Int32 → Int32 → Int32 → Int32 → Int32 → Int32 → Int32 → Int32 → Int32 → Option (Int32 × (Nat → Int32) × (Nat → Int32) × (Nat → Int32) × (Nat → Int32) × (Nat → Int32) × Int32 × Int32 × Int32 × Int32 × Int32 × Int32 × Int32 × Int32 × Int32)) (l1_194 : Int32) (l2_194 : Int32) (l5_194 : Int32) (l6_194 : Int32) (l7_194 : Int32) (g118_194 : Nat → Int32) (g119_194 : Nat → Int32) (g127_194 : Nat → Int32) (g128_194 : Nat → Int32) (g137_194 : Nat → Int32) (x117_194 : Int32) (x120_194 : Int32) (x121_194 : Int32) (x122_194 : Int32) (x123_194 : Int32) (x124_194 : Int32) (x125_194 : Int32) (x131_194 : Int32) (x136_194 : Int32) : Option (Int32 × (Nat → Int32) × (Nat → Int32) × (Nat → Int32) × (Nat → Int32) × (Nat → Int32) × Int32 × Int32 × Int32 × Int32 × Int32 × Int32 × Int32 × Int32 × Int32) := (if l7_194 = (-1) then (jn_vm_flows_240 nf a1 a2 v98 v117 v120 v121 v122 v123 v124 v125 v129 v130 v131 v132 v133 v134 v135 v136 f109 f100 f127 f107 f102 f111 f104 f118 f119 f105 f128 f110 f103 f106 f108 f137 nS477 fS477 kk_155 l1_194 l2_194 l6_194 g118_194 g119_194 g127_194 g128_194 g137_194 x117_194 x120_194 x121_194 x122_194 x123_194 x124_194 x125_194 x131_194 x136_194) else (if l5_194 = 0 then (jn_vm_flows_234 nf a1 a2 v98 v117 v120 v121 v122 v123 v124 v125 v129 v130 v131 v132 v133 v134 v135 v136 f109 f100 f127 f107 f102 f111 f104 f118 f119 f105 f128 f110 f103 f106 f108 f137 nS477 fS477 kk_155 l1_194 l2_194 l6_194 l7_194 g118_194 g119_194 g127_194 g128_194 g137_194 x117_194 x120_194 x121_194 x122_194 x123_194 x124_194 x125_194 x131_194 x136_194) else ((sp_vm_localsFit nf l7_194 v98 x117_194 x120_194 v132 f100 g127_194 f102 f104 g118_194 g119_194 f105 nS477 fS477).bind (fun p1 => (if p1.1 = 0 then ((sp_tm_bad nf 12 l1_194 l2_194 l6_194).bind (fun p2 => (if p2.1 = 0 then (some (0, p1.2.1, p1.2.2.1, g127_194, g128_194, g137_194, p1.2.2.2.1, p1.2.2.2.2, x121_194, p2.2.1, p2.2.2.1, p2.2.2.2.1, p2.2.2.2.2, x131_194, x136_194)) else (some (1, p1.2.1, p1.2.2.1, g127_194, g128_194, g137_194, p1.2.2.2.1, p1.2.2.2.2, x121_194, p2.2.1, p2.2.2.1, p2.2.2.2.1, p2.2.2.2.2, x131_194, x136_194))))) else ((sp_vm_stackFits nf l7_194 v98 p1.2.2.2.1 p1.2.2.2.2 x131_194 v132 f100 g128_194 f102 f104 p1.2.1 p1.2.2.1 f105 nS477 fS477).bind (fun p3 => (if p3.1 = 0 then ((sp_tm_bad nf 12 l1_194 l2_194 l6_194).bind (fun p4 => (if p4.1 = 0 then (some (0, p3.2.1, p3.2.2.1, g127_194, g128_194, g137_194, p3.2.2.2.1, p3.2.2.2.2, x121_194, p4.2.1, p4.2.2.1, p4.2.2.2.1, p4.2.2.2.2, x131_194, x136_194)) else (some (1, p3.2.1, p3.2.2.1, g127_194, g128_194, g137_194, p3.2.2.2.1, p3.2.2.2.2, x121_194, p4.2.1, p4.2.2.1, p4.2.2.2.1, p4.2.2.2.2, x131_194, x136_194))))) else (jn_vm_flows_234 nf a1 a2 v98 v117 v120 v121 v122 v123 v124 v125 v129 v130 v131 v132 v133 v134 v135 v136 f109 f100 f127 f107 f102 f111 f104 f118 f119 f105 f128 f110 f103 f106 f108 f137 nS477 fS477 kk_155 l1_194 l2_194 l6_194 l7_194 p3.2.1 p3.2.2.1 g127_194 g128_194 g137_194 p3.2.2.2.1 p3.2.2.2.2 x121_194 x122_194 x123_194 x124_194 x125_194 x131_194 x136_194)))))))))
def lp_vm_flows_155 (nf n : Nat) (a1 : Int32) (a2 : Int32) (v98 : Int32) (v117 : Int32) (v120 : Int32) (v121 : Int32) (v122 : Int32) (v123 : Int32) (v124 : Int32) (v125 : Int32) (v129 : Int32) (v130 : Int32) (v131 : Int32) (v132 : Int32) (v133 : Int32) (v134 : Int32) (v135 : Int32) (v136 : Int32) (f109 : Nat → Int32) (f100 : Nat → Int32) (f127 : Nat → Int32) (f107 : Nat → Int32) (f102 : Nat → Int32) (f111 : Nat → Int32) (f104 : Nat → Int32) (f118 : Nat → Int32) (f119 : Nat → Int32) (f105 : Nat → Int32) (f128 : Nat → Int32) (f110 : Nat → Int32) (f103 : Nat → Int32) (f106 : Nat → Int32) (f108 : Nat → Int32) (f137 : Nat → Int32) (nS477 : Nat) (fS477 : Nat → Int32)  (l1_155 : Int32) (l2_155 : Int32) (l5_155 : Int32) (l6_155 : Int32) (g118_155 : Nat → Int32) (g119_155 : Nat → Int32) (g127_155 : Nat → Int32) (g128_155 : Nat → Int32) (g137_155 : Nat → Int32) (x117_155 : Int32) (x120_155 : Int32) (x121_155 : Int32) (x122_155 : Int32) (x123_155 : Int32) (x124_155 : Int32) (x125_155 : Int32) (x131_155 : Int32) (x136_155 : Int32) : Option (Int32 × (Nat → Int32) × (Nat → Int32) × (Nat → Int32) × (Nat → Int32) × (Nat → Int32) × Int32 × Int32 × Int32 × Int32 × Int32 × Int32 × Int32 × Int32 × Int32) := match n with
  | 0 => none
  | n + 1 => (if v135 ≤ l6_155 then (if l5_155 = 0 then (some (1, g118_155, g119_155, g127_155, g128_155, g137_155, x117_155, x120_155, x121_155, x122_155, x123_155, x124_155, x125_155, x131_155, x136_155)) else ((sp_tm_bad nf 10 l1_155 l2_155 v135).bind (fun p1 => (if p1.1 = 0 then (some (0, g118_155, g119_155, g127_155, g128_155, g137_155, x117_155, x120_155, x121_155, p1.2.1, p1.2.2.1, p1.2.2.2.1, p1.2.2.2.2, x131_155, x136_155)) else (some (1, g118_155, g119_155, g127_155, g128_155, g137_155, x117_155, x120_155, x121_155, p1.2.1, p1.2.2.1, p1.2.2.2.1, p1.2.2.2.2, x131_155, x136_155)))))) else ((sp_tn_frameFor nf l6_155 v132 v133 f111 f100).bind (fun p2 => (if l5_155 = 0 then (if p2 = (-1) then ((sp_tm_bad nf 10 l1_155 l2_155 l6_155).bind (fun p3 => (if p3.1 = 0 then (some (0, g118_155, g119_155, g127_155, g128_155, g137_155, x117_155, x120_155, x121_155, p3.2.1, p3.2.2.1, p3.2.2.2.1, p3.2.2.2.2, x131_155, x136_155)) else (some (1, g118_155, g119_155, g127_155, g128_155, g137_155, x117_155, x120_155, x121_155, p3.2.1, p3.2.2.1, p3.2.2.2.1, p3.2.2.2.2, x131_155, x136_155))))) else (jn_vm_flows_194 nf a1 a2 v98 v117 v120 v121 v122 v123 v124 v125 v129 v130 v131 v132 v133 v134 v135 v136 f109 f100 f127 f107 f102 f111 f104 f118 f119 f105 f128 f110 f103 f106 f108 f137 nS477 fS477 (lp_vm_flows_155 nf n a1 a2 v98 v117 v120 v121 v122 v123 v124 v125 v129 v130 v131 v132 v133 v134 v135 v136 f109 f100 f127 f107 f102 f111 f104 f118 f119 f105 f128 f110 f103 f106 f108 f137 nS477 fS477) l1_155 l2_155 l5_155 l6_155 p2 g118_155 g119_155 g127_155 g128_155 g137_155 x117_155 x120_155 x121_155 x122_155 x123_155 x124_155 x125_155 x131_155 x136_155)) else (jn_vm_flows_194 nf a1 a2 v98 v117 v120 v121 v122 v123 v124 v125 v129 v130 v131 v132 v133 v134 v135 v136 f109 f100 f127 f107 f102 f111 f104 f118 f119 f105 f128 f110 f103 f106 f108 f137 nS477 fS477 (lp_vm_flows_155 nf n a1 a2 v98 v117 v120 v121 v122 v123 v124 v125 v129 v130 v131 v132 v133 v134 v135 v136 f109 f100 f127 f107 f102 f111 f104 f118 f119 f105 f128 f110 f103 f106 f108 f137 nS477 fS477) l1_155 l2_155 l5_155 l6_155 p2 g118_155 g119_155 g127_155 g128_155 g137_155 x117_155 x120_155 x121_155 x122_155 x123_155 x124_155 x125_155 x131_155 x136_155)))))
def lp_vm_flows_105 (nf n : Nat) (a1 : Int32) (a2 : Int32) (v98 : Int32) (v117 : Int32) (v120 : Int32) (v121 : Int32) (v122 : Int32) (v123 : Int32) (v124 : Int32) (v125 : Int32) (v129 : Int32) (v130 : Int32) (v131 : Int32) (v132 : Int32) (v133 : Int32) (v134 : Int32) (v135 : Int32) (v136 : Int32) (f109 : Nat → Int32) (f100 : Nat → Int32) (f127 : Nat → Int32) (f107 : Nat → Int32) (f102 : Nat → Int32) (f111 : Nat → Int32) (f104 : Nat → Int32) (f118 : Nat → Int32) (f119 : Nat → Int32) (f105 : Nat → Int32) (f128 : Nat → Int32) (f110 : Nat → Int32) (f103 : Nat → Int32) (f106 : Nat → Int32) (f108 : Nat → Int32) (f137 : Nat → Int32) (nS477 : Nat) (fS477 : Nat → Int32)  (l1_105 : Int32) (l2_105 : Int32) (l3_105 : Int32) (l4_105 : Int32) (g118_105 : Nat → Int32) (g119_105 : Nat → Int32) (g127_105 : Nat → Int32) (g128_105 : Nat → Int32) (g137_105 : Nat → Int32) (x117_105 : Int32) (x120_105 : Int32) (x121_105 : Int32) (x122_105 : Int32) (x123_105 : Int32) (x124_105 : Int32) (x125_105 : Int32) (x131_105 : Int32) (x136_105 : Int32) : Option (Int32 × (Nat → Int32) × (Nat → Int32) × (Nat → Int32) × (Nat → Int32) × (Nat → Int32) × Int32 × Int32 × Int32 × Int32 × Int32 × Int32 × Int32 × Int32 × Int32) := match n with
  | 0 => none
  | n + 1 => (if l4_105 < 0 then none else if 48000 ≤ (l4_105 : Int32).toNatClampNeg then none else (if (f100 (l4_105 : Int32).toNatClampNeg) = 41 then (lp_vm_flows_155 nf nf a1 a2 v98 v117 v120 v121 v122 v123 v124 v125 v129 v130 v131 v132 v133 v134 v135 v136 f109 f100 f127 f107 f102 f111 f104 f118 f119 f105 f128 f110 f103 f106 f108 f137 nS477 fS477  l1_105 l2_105 1 0 g118_105 g119_105 g127_105 g128_105 g137_105 x117_105 x120_105 x121_105 x122_105 x123_105 x124_105 x125_105 x131_105 (l4_105 + 1)) else ((sp_vm_typeAt nf l4_105 v98 x117_105 f100 f104 f102 g118_105 g119_105 nS477 fS477).bind (fun p1 => (if l3_105 < 0 then none else if 30 ≤ (l3_105 : Int32).toNatClampNeg then none else (lp_vm_flows_105 nf n a1 a2 v98 v117 v120 v121 v122 v123 v124 v125 v129 v130 v131 v132 v133 v134 v135 v136 f109 f100 f127 f107 f102 f111 f104 f118 f119 f105 f128 f110 f103 f106 f108 f137 nS477 fS477 l1_105 l2_105 (l3_105 + 1) p1.2.2.2.2 p1.2.1 p1.2.2.1 (upd g127_105 (l3_105 : Int32).toNatClampNeg p1.1) g128_105 g137_105 p1.2.2.2.1 p1.2.2.2.2 x121_105 x122_105 x123_105 x124_105 x125_105 x131_105 x136_105))))))
def jn_vm_flows_68 (nf : Nat) (a1 : Int32) (a2 : Int32) (v98 : Int32) (v117 : Int32) (v120 : Int32) (v121 : Int32) (v122 : Int32) (v123 : Int32) (v124 : Int32) (v125 : Int32) (v129 : Int32) (v130 : Int32) (v131 : Int32) (v132 : Int32) (v133 : Int32) (v134 : Int32) (v135 : Int32) (v136 : Int32) (f109 : Nat → Int32) (f100 : Nat → Int32) (f127 : Nat → Int32) (f107 : Nat → Int32) (f102 : Nat → Int32) (f111 : Nat → Int32) (f104 : Nat → Int32) (f118 : Nat → Int32) (f119 : Nat → Int32) (f105 : Nat → Int32) (f128 : Nat → Int32) (f110 : Nat → Int32) (f103 : Nat → Int32) (f106 : Nat → Int32) (f108 : Nat → Int32) (f137 : Nat → Int32) (nS477 : Nat) (fS477 : Nat → Int32)  (l1_68 : Int32) (l2_68 : Int32) (l3_68 : Int32) (g118_68 : Nat → Int32) (g119_68 : Nat → Int32) (g127_68 : Nat → Int32) (g128_68 : Nat → Int32) (g137_68 : Nat → Int32) (x117_68 : Int32) (x120_68 : Int32) (x121_68 : Int32) (x122_68 : Int32) (x123_68 : Int32) (x124_68 : Int32) (x125_68 : Int32) (x131_68 : Int32) (x136_68 : Int32) : Option (Int32 × (Nat → Int32) × (Nat → Int32) × (Nat → Int32) × (Nat → Int32) × (Nat → Int32) × Int32 × Int32 × Int32 × Int32 × Int32 × Int32 × Int32 × Int32 × Int32) := ((sp_tm_kindText nf v132 l2_68 1 f107 f100 f109).bind (fun p1 => (if ((256 * v132) + p1) < 0 then none else if 2048 ≤ (((256 * v132) + p1) : Int32).toNatClampNeg then none else (lp_vm_flows_105 nf nf a1 a2 v98 v117 v120 v121 v122 v123 v124 v125 v129 v130 v131 v132 v133 v134 v135 v136 f109 f100 f127 f107 f102 f111 f104 f118 f119 f105 f128 f110 f103 f106 f108 f137 nS477 fS477  l1_68 l2_68 l3_68 (((6000 * v132) + (f102 (((256 * v132) + p1) : Int32).toNatClampNeg)) + 3) g118_68 g119_68 g127_68 g128_68 g137_68 x117_68 x120_68 x121_68 x122_68 x123_68 x124_68 x125_68 x131_68 x136_68))))
def lp_vm_flows_2 (nf n : Nat) (a1 : Int32) (a2 : Int32) (v98 : Int32) (v117 : Int32) (v120 : Int32) (v121 : Int32) (v122 : Int32) (v123 : Int32) (v124 : Int32) (v125 : Int32) (v129 : Int32) (v130 : Int32) (v131 : Int32) (v132 : Int32) (v133 : Int32) (v134 : Int32) (v135 : Int32) (v136 : Int32) (f109 : Nat → Int32) (f100 : Nat → Int32) (f127 : Nat → Int32) (f107 : Nat → Int32) (f102 : Nat → Int32) (f111 : Nat → Int32) (f104 : Nat → Int32) (f118 : Nat → Int32) (f119 : Nat → Int32) (f105 : Nat → Int32) (f128 : Nat → Int32) (f110 : Nat → Int32) (f103 : Nat → Int32) (f106 : Nat → Int32) (f108 : Nat → Int32) (f137 : Nat → Int32) (nS477 : Nat) (fS477 : Nat → Int32)  (l1_2 : Int32) (l2_2 : Int32) (l3_2 : Int32) (g118_2 : Nat → Int32) (g119_2 : Nat → Int32) (g127_2 : Nat → Int32) (g128_2 : Nat → Int32) (g137_2 : Nat → Int32) (x117_2 : Int32) (x120_2 : Int32) (x121_2 : Int32) (x122_2 : Int32) (x123_2 : Int32) (x124_2 : Int32) (x125_2 : Int32) (x131_2 : Int32) (x136_2 : Int32) : Option (Int32 × (Nat → Int32) × (Nat → Int32) × (Nat → Int32) × (Nat → Int32) × (Nat → Int32) × Int32 × Int32 × Int32 × Int32 × Int32 × Int32 × Int32 × Int32 × Int32) := match n with
  | 0 => none
  | n + 1 => (if v129 ≤ l3_2 then (if ((12 * v132) + l2_2) < 0 then none else if 96 ≤ (((12 * v132) + l2_2) : Int32).toNatClampNeg then none else ((sp_tm_byteAt nf v132 (f109 (((12 * v132) + l2_2) : Int32).toNatClampNeg) f100).bind (fun p1 => (if p1 = 0 then (jn_vm_flows_68 nf a1 a2 v98 v117 v120 v121 v122 v123 v124 v125 v129 v130 v131 v132 v133 v134 v135 v136 f109 f100 f127 f107 f102 f111 f104 f118 f119 f105 f128 f110 f103 f106 f108 f137 nS477 fS477  l1_2 l2_2 1 g118_2 g119_2 (upd g127_2 (0 : Int32).toNatClampNeg (4 + (2 * l1_2))) g128_2 g137_2 x117_2 x120_2 x121_2 x122_2 x123_2 x124_2 x125_2 0 x136_2) else (jn_vm_flows_68 nf a1 a2 v98 v117 v120 v121 v122 v123 v124 v125 v129 v130 v131 v132 v133 v134 v135 v136 f109 f100 f127 f107 f102 f111 f104 f118 f119 f105 f128 f110 f103 f106 f108 f137 nS477 fS477  l1_2 l2_2 0 g118_2 g119_2 g127_2 g128_2 g137_2 x117_2 x120_2 x121_2 x122_2 x123_2 x124_2 x125_2 0 x136_2))))) else (if l3_2 < 0 then none else if 30 ≤ (l3_2 : Int32).toNatClampNeg then none else (lp_vm_flows_2 nf n a1 a2 v98 v117 v120 v121 v122 v123 v124 v125 v129 v130 v131 v132 v133 v134 v135 v136 f109 f100 f127 f107 f102 f111 f104 f118 f119 f105 f128 f110 f103 f106 f108 f137 nS477 fS477 l1_2 l2_2 (l3_2 + 1) g118_2 g119_2 (upd g127_2 (l3_2 : Int32).toNatClampNeg 0) g128_2 g137_2 x117_2 x120_2 x121_2 x122_2 x123_2 x124_2 x125_2 x131_2 x136_2)))
def sp_vm_flows (nf : Nat) (a1 : Int32) (a2 : Int32) (v98 : Int32) (v117 : Int32) (v120 : Int32) (v121 : Int32) (v122 : Int32) (v123 : Int32) (v124 : Int32) (v125 : Int32) (v129 : Int32) (v130 : Int32) (v131 : Int32) (v132 : Int32) (v133 : Int32) (v134 : Int32) (v135 : Int32) (v136 : Int32) (f109 : Nat → Int32) (f100 : Nat → Int32) (f127 : Nat → Int32) (f107 : Nat → Int32) (f102 : Nat → Int32) (f111 : Nat → Int32) (f104 : Nat → Int32) (f118 : Nat → Int32) (f119 : Nat → Int32) (f105 : Nat → Int32) (f128 : Nat → Int32) (f110 : Nat → Int32) (f103 : Nat → Int32) (f106 : Nat → Int32) (f108 : Nat → Int32) (f137 : Nat → Int32) (nS477 : Nat) (fS477 : Nat → Int32) : Option (Int32 × (Nat → Int32) × (Nat → Int32) × (Nat → Int32) × (Nat → Int32) × (Nat → Int32) × Int32 × Int32 × Int32 × Int32 × Int32 × Int32 × Int32 × Int32 × Int32) := (lp_vm_flows_2 nf nf a1 a2 v98 v117 v120 v121 v122 v123 v124 v125 v129 v130 v131 v132 v133 v134 v135 v136 f109 f100 f127 f107 f102 f111 f104 f118 f119 f105 f128 f110 f103 f106 f108 f137 nS477 fS477  a1 a2 0 f118 f119 f127 f128 f137 v117 v120 v121 v122 v123 v124 v125 v131 v136)

set_option maxHeartbeats 4000000 in
set_option maxRecDepth 100000 in
/-- ClassMillModel.fresh -/
theorem vm_fresh_ (l : Launch) (dC : Nat → ClassId) (dI : Nat → Nat → Nat) (sz : Nat) (h0 : Nat) (zs : (List Value)) (a1 : Int32) (a2 : Int32) (v98 : Int32) (qf100 : Nat) (qf102 : Nat) (qf104 : Nat) (qf105 : Nat) (qf106 : Nat) (qf110 : Nat) (v138 : Int32) (v139 : Int32) (v141 : Int32) (v142 : Int32) (qf144 : Nat) (qf145 : Nat) (qf146 : Nat) (qf147 : Nat) (v149 : Int32) (qf150 : Nat) (qf151 : Nat) (qf152 : Nat) (qf153 : Nat) (qf154 : Nat) (cf153 : ClassId) (f153 : (Nat → Int32)) (cf154 : ClassId) (f154 : (Nat → Int32)) (cf150 : ClassId) (f150 : (Nat → Int32)) (cf102 : ClassId) (f102 : (Nat → Int32)) (cf100 : ClassId) (f100 : (Nat → Int32)) (cf104 : ClassId) (f104 : (Nat → Int32)) (cf144 : ClassId) (f144 : (Nat → Int32)) (cf145 : ClassId) (f145 : (Nat → Int32)) (cf146 : ClassId) (f146 : (Nat → Int32)) (cf147 : ClassId) (f147 : (Nat → Int32)) (cf151 : ClassId) (f151 : (Nat → Int32)) (cf110 : ClassId) (f110 : (Nat → Int32)) (cf152 : ClassId) (f152 : (Nat → Int32)) (cf105 : ClassId) (f105 : (Nat → Int32)) (cf106 : ClassId) (f106 : (Nat → Int32)) (nS477 : Nat) (fS477 : (Nat → Int32)) (hS477 : Nat) (qS477 : Nat) (tS477 : String) (nf : Nat) (o144 : (Nat → Int32)) (o145 : (Nat → Int32)) (o146 : (Nat → Int32)) (o147 : (Nat → Int32)) (o152 : (Nat → Int32)) (o153 : (Nat → Int32)) (o154 : (Nat → Int32)) (w138 : Int32) (w139 : Int32) (w141 : Int32) (w142 : Int32) (w149 : Int32) (hlen : zs.length = 155) (hf98 : zs[98]? = some (.int v98)) (hf100 : zs[100]? = some (.ref qf100)) (hf102 : zs[102]? = some (.ref qf102)) (hf104 : zs[104]? = some (.ref qf104)) (hf105 : zs[105]? = some (.ref qf105)) (hf106 : zs[106]? = some (.ref qf106)) (hf110 : zs[110]? = some (.ref qf110)) (hf138 : zs[138]? = some (.int v138)) (hf139 : zs[139]? = some (.int v139)) (hf141 : zs[141]? = some (.int v141)) (hf142 : zs[142]? = some (.int v142)) (hf144 : zs[144]? = some (.ref qf144)) (hf145 : zs[145]? = some (.ref qf145)) (hf146 : zs[146]? = some (.ref qf146)) (hf147 : zs[147]? = some (.ref qf147)) (hf149 : zs[149]? = some (.int v149)) (hf150 : zs[150]? = some (.ref qf150)) (hf151 : zs[151]? = some (.ref qf151)) (hf152 : zs[152]? = some (.ref qf152)) (hf153 : zs[153]? = some (.ref qf153)) (hf154 : zs[154]? = some (.ref qf154)) (hsp : sp_vm_fresh_ nf a1 a2 v98 v138 v139 v141 v142 v149 f153 f154 f150 f102 f100 f104 f144 f145 f146 f147 f151 f110 f152 f105 f106 nS477 fS477 = some (o144, o145, o146, o147, o152, o153, o154, w138, w139, w141, w142, w149)) : Met l yX13_fresh_ (.code yX13_fresh_ cX13_fresh_ 6 none :: VS_h9) ({ frames := 12, cells := 0, slots := 0, locals := 277 }) (va_Pc [.ref h0, .int a1, .int a2] (fun U => U.heap.size = sz ∧ va_P (dC, dI) vwCl [(h0, .inr (13, zs)), (qf153, .inl (cf153, 60, .inl f153)), (qf154, .inl (cf154, 3600, .inl f154)), (qf150, .inl (cf150, 60, .inl f150)), (qf102, .inl (cf102, 2048, .inl f102)), (qf100, .inl (cf100, 48000, .inl f100)), (qf104, .inl (cf104, 8, .inl f104)), (qf144, .inl (cf144, 2001, .inl f144)), (qf145, .inl (cf145, 2001, .inl f145)), (qf146, .inl (cf146, 2001, .inl f146)), (qf147, .inl (cf147, 20000, .inl f147)), (qf151, .inl (cf151, 60, .inl f151)), (qf110, .inl (cf110, 96, .inl f110)), (qf152, .inl (cf152, 60, .inl f152)), (qf105, .inl (cf105, 8, .inl f105)), (qf106, .inl (cf106, 8, .inl f106))] U.heap ∧ va_K (dC, dI) vwCl [(cf153, .int), (cf154, .int), (cf150, .int), (cf102, .int), (cf100, .int), (cf104, .int), (cf144, .int), (cf145, .int), (cf146, .int), (cf147, .int), (cf151, .int), (cf110, .int), (cf152, .int), (cf105, .int), (cf106, .int)] U ∧ va_D (fun _ => True) [(h0, .inr (13, zs)), (qf153, .inl (cf153, 60, .inl f153)), (qf154, .inl (cf154, 3600, .inl f154)), (qf150, .inl (cf150, 60, .inl f150)), (qf102, .inl (cf102, 2048, .inl f102)), (qf100, .inl (cf100, 48000, .inl f100)), (qf104, .inl (cf104, 8, .inl f104)), (qf144, .inl (cf144, 2001, .inl f144)), (qf145, .inl (cf145, 2001, .inl f145)), (qf146, .inl (cf146, 2001, .inl f146)), (qf147, .inl (cf147, 20000, .inl f147)), (qf151, .inl (cf151, 60, .inl f151)), (qf110, .inl (cf110, 96, .inl f110)), (qf152, .inl (cf152, 60, .inl f152)), (qf105, .inl (cf105, 8, .inl f105)), (qf106, .inl (cf106, 8, .inl f106))] ∧ pz_W nS477 fS477 hS477 qS477 (va_A [(h0, .inr (13, zs)), (qf153, .inl (cf153, 60, .inl f153)), (qf154, .inl (cf154, 3600, .inl f154)), (qf150, .inl (cf150, 60, .inl f150)), (qf102, .inl (cf102, 2048, .inl f102)), (qf100, .inl (cf100, 48000, .inl f100)), (qf104, .inl (cf104, 8, .inl f104)), (qf144, .inl (cf144, 2001, .inl f144)), (qf145, .inl (cf145, 2001, .inl f145)), (qf146, .inl (cf146, 2001, .inl f146)), (qf147, .inl (cf147, 20000, .inl f147)), (qf151, .inl (cf151, 60, .inl f151)), (qf110, .inl (cf110, 96, .inl f110)), (qf152, .inl (cf152, 60, .inl f152)), (qf105, .inl (cf105, 8, .inl f105)), (qf106, .inl (cf106, 8, .inl f106))] sz) U U.heap ∧ vk_R RX13 477 tS477 hS477 U)) (va_Qv (fun (u : (List Value)) => match u with | (zo1) => True ∧ zo1.length = 155 ∧ (∀ j : Nat, j ≠ 138 → j ≠ 139 → j ≠ 141 → j ≠ 142 → j ≠ 149 → zo1[j]? = zs[j]?) ∧ zo1[138]? = some (.int w138) ∧ zo1[139]? = some (.int w139) ∧ zo1[141]? = some (.int w141) ∧ zo1[142]? = some (.int w142) ∧ zo1[149]? = some (.int w149)) (fun (u : (List Value)) (t : State) => match u with | (zo1) => va_P (dC, dI) vwCl [(h0, .inr (13, zo1)), (qf153, .inl (cf153, 60, .inl o153)), (qf154, .inl (cf154, 3600, .inl o154)), (qf150, .inl (cf150, 60, .inl f150)), (qf102, .inl (cf102, 2048, .inl f102)), (qf100, .inl (cf100, 48000, .inl f100)), (qf104, .inl (cf104, 8, .inl f104)), (qf144, .inl (cf144, 2001, .inl o144)), (qf145, .inl (cf145, 2001, .inl o145)), (qf146, .inl (cf146, 2001, .inl o146)), (qf147, .inl (cf147, 20000, .inl o147)), (qf151, .inl (cf151, 60, .inl f151)), (qf110, .inl (cf110, 96, .inl f110)), (qf152, .inl (cf152, 60, .inl o152)), (qf105, .inl (cf105, 8, .inl f105)), (qf106, .inl (cf106, 8, .inl f106))] t.heap ∧ va_K (dC, dI) vwCl [(cf153, .int), (cf154, .int), (cf150, .int), (cf102, .int), (cf100, .int), (cf104, .int), (cf144, .int), (cf145, .int), (cf146, .int), (cf147, .int), (cf151, .int), (cf110, .int), (cf152, .int), (cf105, .int), (cf106, .int)] t ∧ va_D (va_A [(h0, .inr (13, zs)), (qf153, .inl (cf153, 60, .inl f153)), (qf154, .inl (cf154, 3600, .inl f154)), (qf150, .inl (cf150, 60, .inl f150)), (qf102, .inl (cf102, 2048, .inl f102)), (qf100, .inl (cf100, 48000, .inl f100)), (qf104, .inl (cf104, 8, .inl f104)), (qf144, .inl (cf144, 2001, .inl f144)), (qf145, .inl (cf145, 2001, .inl f145)), (qf146, .inl (cf146, 2001, .inl f146)), (qf147, .inl (cf147, 20000, .inl f147)), (qf151, .inl (cf151, 60, .inl f151)), (qf110, .inl (cf110, 96, .inl f110)), (qf152, .inl (cf152, 60, .inl f152)), (qf105, .inl (cf105, 8, .inl f105)), (qf106, .inl (cf106, 8, .inl f106))] sz) [(h0, .inr (13, zo1)), (qf153, .inl (cf153, 60, .inl o153)), (qf154, .inl (cf154, 3600, .inl o154)), (qf150, .inl (cf150, 60, .inl f150)), (qf102, .inl (cf102, 2048, .inl f102)), (qf100, .inl (cf100, 48000, .inl f100)), (qf104, .inl (cf104, 8, .inl f104)), (qf144, .inl (cf144, 2001, .inl o144)), (qf145, .inl (cf145, 2001, .inl o145)), (qf146, .inl (cf146, 2001, .inl o146)), (qf147, .inl (cf147, 20000, .inl o147)), (qf151, .inl (cf151, 60, .inl f151)), (qf110, .inl (cf110, 96, .inl f110)), (qf152, .inl (cf152, 60, .inl o152)), (qf105, .inl (cf105, 8, .inl f105)), (qf106, .inl (cf106, 8, .inl f106))]) (va_A [(h0, .inr (13, zs)), (qf153, .inl (cf153, 60, .inl f153)), (qf154, .inl (cf154, 3600, .inl f154)), (qf150, .inl (cf150, 60, .inl f150)), (qf102, .inl (cf102, 2048, .inl f102)), (qf100, .inl (cf100, 48000, .inl f100)), (qf104, .inl (cf104, 8, .inl f104)), (qf144, .inl (cf144, 2001, .inl f144)), (qf145, .inl (cf145, 2001, .inl f145)), (qf146, .inl (cf146, 2001, .inl f146)), (qf147, .inl (cf147, 20000, .inl f147)), (qf151, .inl (cf151, 60, .inl f151)), (qf110, .inl (cf110, 96, .inl f110)), (qf152, .inl (cf152, 60, .inl f152)), (qf105, .inl (cf105, 8, .inl f105)), (qf106, .inl (cf106, 8, .inl f106))] sz)) 0 0 (va_A [(h0, .inr (13, zs)), (qf153, .inl (cf153, 60, .inl f153)), (qf154, .inl (cf154, 3600, .inl f154)), (qf150, .inl (cf150, 60, .inl f150)), (qf102, .inl (cf102, 2048, .inl f102)), (qf100, .inl (cf100, 48000, .inl f100)), (qf104, .inl (cf104, 8, .inl f104)), (qf144, .inl (cf144, 2001, .inl f144)), (qf145, .inl (cf145, 2001, .inl f145)), (qf146, .inl (cf146, 2001, .inl f146)), (qf147, .inl (cf147, 20000, .inl f147)), (qf151, .inl (cf151, 60, .inl f151)), (qf110, .inl (cf110, 96, .inl f110)), (qf152, .inl (cf152, 60, .inl f152)), (qf105, .inl (cf105, 8, .inl f105)), (qf106, .inl (cf106, 8, .inl f106))] sz) := by
  refine Met.ofW (cc := cX13_fresh_) (maxL := 6) (ret := none) (by decide) rfl ?_
  intro p e s m args below meth c s₁ B hml hv
  obtain ⟨rfl, hsz, hP, hK, hD0, hZWS477, hZRS477⟩ := hv
  have hx := B.exec
  have hb := B.bytes
  have hr := B.returns
  have hts := atoms_spec (ws := (.code yX13_fresh_ cX13_fresh_ 6 none :: VS_h9)) B.pre
  replace hts := fun w (h : w ∈ VS_h9) => hts w (List.mem_cons_of_mem _ h)
  have hown : s.vm.findClass RX13 = some m.cls := findClass_of_methodNamed B.named
  have hlocks := B.notSynchronized
  subst hsz
  have hD := hD0.self (sz := s.heap.size)
  generalize hAe : va_A [(h0, .inr (13, zs)), (qf153, .inl (cf153, 60, .inl f153)), (qf154, .inl (cf154, 3600, .inl f154)), (qf150, .inl (cf150, 60, .inl f150)), (qf102, .inl (cf102, 2048, .inl f102)), (qf100, .inl (cf100, 48000, .inl f100)), (qf104, .inl (cf104, 8, .inl f104)), (qf144, .inl (cf144, 2001, .inl f144)), (qf145, .inl (cf145, 2001, .inl f145)), (qf146, .inl (cf146, 2001, .inl f146)), (qf147, .inl (cf147, 20000, .inl f147)), (qf151, .inl (cf151, 60, .inl f151)), (qf110, .inl (cf110, 96, .inl f110)), (qf152, .inl (cf152, 60, .inl f152)), (qf105, .inl (cf105, 8, .inl f105)), (qf106, .inl (cf106, 8, .inl f106))] s.heap.size = A at hD hZWS477 ⊢
  have hA : ∀ q : Nat, s.heap.size ≤ q → A q := fun q h => by rw [← hAe]; exact Or.inr h
  have hP : va_P (dC, dI) vwCl [(h0, .inr (13, zs)), (qf153, .inl (cf153, 60, .inl f153)), (qf154, .inl (cf154, 3600, .inl f154)), (qf150, .inl (cf150, 60, .inl f150)), (qf102, .inl (cf102, 2048, .inl f102)), (qf100, .inl (cf100, 48000, .inl f100)), (qf104, .inl (cf104, 8, .inl f104)), (qf144, .inl (cf144, 2001, .inl f144)), (qf145, .inl (cf145, 2001, .inl f145)), (qf146, .inl (cf146, 2001, .inl f146)), (qf147, .inl (cf147, 20000, .inl f147)), (qf151, .inl (cf151, 60, .inl f151)), (qf110, .inl (cf110, 96, .inl f110)), (qf152, .inl (cf152, 60, .inl f152)), (qf105, .inl (cf105, 8, .inl f105)), (qf106, .inl (cf106, 8, .inl f106))] s.heap := hP
  have hl := lv_entry ([.ref h0, .int a1, .int a2]) (n := 6) (Nat.le_of_ble_eq_true rfl)
  rw [lg_entry_eq]
  generalize (lg_sl ([.ref h0, .int a1, .int a2]) ++ List.replicate (6 - (lg_sl ([.ref h0, .int a1, .int a2])).length) Slot.unset).toArray = ls at hl ⊢
  have hl : lv_has ls 6 [(0, .ref h0), (1, .int a1), (2, .int a2)] := hl
  obtain ⟨H, hH⟩ : ∃ H : Heap, s.heap = H := ⟨_, rfl⟩
  rw [hH] at hP ⊢
  have hS : va_S A s.heap H [] := by rw [← hH]; exact va_S.rf
  obtain ⟨locs, hlo⟩ : ∃ locs : List Loc, locs = [] := ⟨_, rfl⟩
  rw [← hlo] at hS ⊢
  have hrs0 : ∀ j : Nat, j ≠ 138 → j ≠ 139 → j ≠ 141 → j ≠ 142 → j ≠ 149 → zs[j]? = zs[j]? := fun _ _ _ _ _ _  => rfl
  unfold sp_vm_fresh_ at hsp
  refine jn_use (α := Heap × List Loc × Array Slot × List Value × Int32 × (Nat → Int32) × (Nat → Int32) × (Nat → Int32) × (Nat → Int32) × (Nat → Int32) × (Nat → Int32) × (Nat → Int32) × Int32 × Int32 × Int32 × Int32 × Int32) (fun x9 => x9.1) (fun x9 => x9.2.1) (fun x9 => F0 m 89 x9.2.2.1 [.int (x9.2.2.2.2.1)]) (fun x9 => match x9 with | (H, locs, ls, z89, s0_89, g144_89, g145_89, g146_89, g147_89, g152_89, g153_89, g154_89, x138_89, x139_89, x141_89, x142_89, x149_89) => lv_has ls 6 [(0, .ref h0)] ∧ va_S A s.heap H locs ∧ va_D A [(h0, .inr (13, z89)), (qf153, .inl (cf153, 60, .inl g153_89)), (qf154, .inl (cf154, 3600, .inl g154_89)), (qf150, .inl (cf150, 60, .inl f150)), (qf102, .inl (cf102, 2048, .inl f102)), (qf100, .inl (cf100, 48000, .inl f100)), (qf104, .inl (cf104, 8, .inl f104)), (qf144, .inl (cf144, 2001, .inl g144_89)), (qf145, .inl (cf145, 2001, .inl g145_89)), (qf146, .inl (cf146, 2001, .inl g146_89)), (qf147, .inl (cf147, 20000, .inl g147_89)), (qf151, .inl (cf151, 60, .inl f151)), (qf110, .inl (cf110, 96, .inl f110)), (qf152, .inl (cf152, 60, .inl g152_89)), (qf105, .inl (cf105, 8, .inl f105)), (qf106, .inl (cf106, 8, .inl f106))] ∧ va_P (dC, dI) vwCl [(h0, .inr (13, z89)), (qf153, .inl (cf153, 60, .inl g153_89)), (qf154, .inl (cf154, 3600, .inl g154_89)), (qf150, .inl (cf150, 60, .inl f150)), (qf102, .inl (cf102, 2048, .inl f102)), (qf100, .inl (cf100, 48000, .inl f100)), (qf104, .inl (cf104, 8, .inl f104)), (qf144, .inl (cf144, 2001, .inl g144_89)), (qf145, .inl (cf145, 2001, .inl g145_89)), (qf146, .inl (cf146, 2001, .inl g146_89)), (qf147, .inl (cf147, 20000, .inl g147_89)), (qf151, .inl (cf151, 60, .inl f151)), (qf110, .inl (cf110, 96, .inl f110)), (qf152, .inl (cf152, 60, .inl g152_89)), (qf105, .inl (cf105, 8, .inl f105)), (qf106, .inl (cf106, 8, .inl f106))] H ∧ z89[98]? = some (.int v98) ∧ z89[100]? = some (.ref qf100) ∧ z89[102]? = some (.ref qf102) ∧ z89[104]? = some (.ref qf104) ∧ z89[105]? = some (.ref qf105) ∧ z89[106]? = some (.ref qf106) ∧ z89[110]? = some (.ref qf110) ∧ z89[138]? = some (.int x138_89) ∧ z89[139]? = some (.int x139_89) ∧ z89[141]? = some (.int x141_89) ∧ z89[142]? = some (.int x142_89) ∧ z89[144]? = some (.ref qf144) ∧ z89[145]? = some (.ref qf145) ∧ z89[146]? = some (.ref qf146) ∧ z89[147]? = some (.ref qf147) ∧ z89[149]? = some (.int x149_89) ∧ z89[150]? = some (.ref qf150) ∧ z89[151]? = some (.ref qf151) ∧ z89[152]? = some (.ref qf152) ∧ z89[153]? = some (.ref qf153) ∧ z89[154]? = some (.ref qf154) ∧ z89.length = 155 ∧ (∀ j : Nat, j ≠ 138 → j ≠ 139 → j ≠ 141 → j ≠ 142 → j ≠ 149 → z89[j]? = zs[j]?) ∧ jn_vm_fresh__89 nf a1 a2 v98 v138 v139 v141 v142 v149 f153 f154 f150 f102 f100 f104 f144 f145 f146 f147 f151 f110 f152 f105 f106 nS477 fS477 s0_89 g144_89 g145_89 g146_89 g147_89 g152_89 g153_89 g154_89 x138_89 x139_89 x141_89 x142_89 x149_89 = some (o144, o145, o146, o147, o152, o153, o154, w138, w139, w141, w142, w149)) ?_ ?_
  · intro x9 hJ9
    obtain ⟨H, locs, ls, z89, s0_89, g144_89, g145_89, g146_89, g147_89, g152_89, g153_89, g154_89, x138_89, x139_89, x141_89, x142_89, x149_89⟩ := x9
    obtain ⟨hl, hS, hD, hP, hfh_89_98, hfh_89_100, hfh_89_102, hfh_89_104, hfh_89_105, hfh_89_106, hfh_89_110, hfh_89_138, hfh_89_139, hfh_89_141, hfh_89_142, hfh_89_144, hfh_89_145, hfh_89_146, hfh_89_147, hfh_89_149, hfh_89_150, hfh_89_151, hfh_89_152, hfh_89_153, hfh_89_154, hlh_89, hrh_89, hsp⟩ := hJ9
    replace hl : lv_has ls 6 [(0, .ref h0)] := hl
    replace hS : va_S A s.heap H locs := hS
    replace hD : va_D A [(h0, .inr (13, z89)), (qf153, .inl (cf153, 60, .inl g153_89)), (qf154, .inl (cf154, 3600, .inl g154_89)), (qf150, .inl (cf150, 60, .inl f150)), (qf102, .inl (cf102, 2048, .inl f102)), (qf100, .inl (cf100, 48000, .inl f100)), (qf104, .inl (cf104, 8, .inl f104)), (qf144, .inl (cf144, 2001, .inl g144_89)), (qf145, .inl (cf145, 2001, .inl g145_89)), (qf146, .inl (cf146, 2001, .inl g146_89)), (qf147, .inl (cf147, 20000, .inl g147_89)), (qf151, .inl (cf151, 60, .inl f151)), (qf110, .inl (cf110, 96, .inl f110)), (qf152, .inl (cf152, 60, .inl g152_89)), (qf105, .inl (cf105, 8, .inl f105)), (qf106, .inl (cf106, 8, .inl f106))] := hD
    replace hP : va_P (dC, dI) vwCl [(h0, .inr (13, z89)), (qf153, .inl (cf153, 60, .inl g153_89)), (qf154, .inl (cf154, 3600, .inl g154_89)), (qf150, .inl (cf150, 60, .inl f150)), (qf102, .inl (cf102, 2048, .inl f102)), (qf100, .inl (cf100, 48000, .inl f100)), (qf104, .inl (cf104, 8, .inl f104)), (qf144, .inl (cf144, 2001, .inl g144_89)), (qf145, .inl (cf145, 2001, .inl g145_89)), (qf146, .inl (cf146, 2001, .inl g146_89)), (qf147, .inl (cf147, 20000, .inl g147_89)), (qf151, .inl (cf151, 60, .inl f151)), (qf110, .inl (cf110, 96, .inl f110)), (qf152, .inl (cf152, 60, .inl g152_89)), (qf105, .inl (cf105, 8, .inl f105)), (qf106, .inl (cf106, 8, .inl f106))] H := hP
    replace hsp : jn_vm_fresh__89 nf a1 a2 v98 v138 v139 v141 v142 v149 f153 f154 f150 f102 f100 f104 f144 f145 f146 f147 f151 f110 f152 f105 f106 nS477 fS477 s0_89 g144_89 g145_89 g146_89 g147_89 g152_89 g153_89 g154_89 x138_89 x139_89 x141_89 x142_89 x149_89 = some (o144, o145, o146, o147, o152, o153, o154, w138, w139, w141, w142, w149) := hsp
    show W _ _ _ _ _ _ _ _ _ _ H locs _ _ _ (F0 m 89 ls [.int s0_89])
    unfold jn_vm_fresh__89 at hsp
    try dsimp only at hsp
    refine lv_istore (lv' := [(5, .int s0_89), (0, .ref h0)]) hx hb dX13_fresh__89 hl (by decide) rfl (fun ls hl => ?_)
    refine lv_iload hx hb dX13_fresh__91 (lv_at hl 0 rfl) ?_
    refine lv_if_ne (tgt := 97) hx hb dX13_fresh__93 (by decide) (fun c_11 => ?_) (fun c_11 => ?_)
    · rw [if_neg c_11] at hsp
      refine lv_aload_n hx hb dX13_fresh__97 rfl (lv_at hl 1 rfl) ?_
      refine lv_iload hx hb dX13_fresh__98 (lv_at hl 0 rfl) ?_
      obtain ⟨⟨g907_0, g907_1⟩, hu_7, hsp⟩ := ox_bind hsp
      try dsimp only at hsp
      have hPc := hP.sub (ws' := [(h0, .inr (13, z89)), (qf153, .inl (cf153, 60, .inl g153_89)), (qf154, .inl (cf154, 3600, .inl g154_89))]) [0, 1, 2] rfl
      have hDc := hD.sub (ws' := [(h0, .inr (13, z89)), (qf153, .inl (cf153, 60, .inl g153_89)), (qf154, .inl (cf154, 3600, .inl g154_89))]) [0, 1, 2] (by decide) rfl
      have hKc := hK.sub (tys' := [(cf153, .int), (cf154, .int)]) [0, 1] rfl
      have hFc := va_free (wc := [(h0, .inr (13, z89)), (qf153, .inl (cf153, 60, .inl g153_89)), (qf154, .inl (cf154, 3600, .inl g154_89))]) hD hS hA [0, 1, 2] rfl
      refine va_callv (va_runV (As := [.int s0_89]) (rest := []) ⟨hx, hb, hml, hown, hts⟩ (tm_give l dC dI H.size h0 z89 s0_89 x149_89 qf153 qf154 cf153 g153_89 cf154 g154_89 nf g907_0 g907_1 hlh_89 hfh_89_149 hfh_89_153 hfh_89_154 hu_7) (cwV 1 hts gv_h9_116 rfl rfl rfl (by decide +kernel) ⟨Nat.le_of_ble_eq_true rfl, Nat.le_of_ble_eq_true rfl⟩) ⟨fun a U g mk q => by obtain ⟨q0, q1, qP, qK, qD⟩ := q; exact ⟨q0, q1, qP, va_K.moved (u := U) (U := U.calling g mk a) (Vm.Alike.refl U.vm) qK, qD⟩, va_recv hKc hPc (ci := 13) (q0 := 0) rfl rfl, fun U hU hW => ⟨rfl, by rw [hU], by rw [hU]; exact hPc, va_K.moved hW.alike hKc, hDc.weaken (fun _ _ _ _ => trivial)⟩⟩ rfl rfl hl.1 rfl (lv_room (Nat.le_of_ble_eq_true rfl)) dX13_fresh__100 ⟨Nat.le_of_ble_eq_true rfl, Nat.le_of_ble_eq_true rfl⟩) hS (fun q _ h => hFc q h) hFc ?_
      clear hS
      intro u t H1 locs ht hvm hw hB hz1 hk1 hS
      obtain ⟨z_7, rfl⟩ : ∃ z, z = u := ⟨_, rfl⟩
      obtain ⟨hP1, hK1, hD1⟩ := hB
      rw [ht] at hP1
      have hK1 := va_K.moved hvm.symm hK1
      try dsimp only at hw
      have hPD := va_join (wr := [(qf150, .inl (cf150, 60, .inl f150)), (qf102, .inl (cf102, 2048, .inl f102)), (qf100, .inl (cf100, 48000, .inl f100)), (qf104, .inl (cf104, 8, .inl f104)), (qf144, .inl (cf144, 2001, .inl g144_89)), (qf145, .inl (cf145, 2001, .inl g145_89)), (qf146, .inl (cf146, 2001, .inl g146_89)), (qf147, .inl (cf147, 20000, .inl g147_89)), (qf151, .inl (cf151, 60, .inl f151)), (qf110, .inl (cf110, 96, .inl f110)), (qf152, .inl (cf152, 60, .inl g152_89)), (qf105, .inl (cf105, 8, .inl f105)), (qf106, .inl (cf106, 8, .inl f106))]) (w1 := [(h0, .inr (13, z_7)), (qf153, .inl (cf153, 60, .inl g907_0)), (qf154, .inl (cf154, 3600, .inl g907_1))]) hP hD [0, 1, 2] [3, 4, 5, 6, 7, 8, 9, 10, 11, 12, 13, 14, 15] rfl rfl (by decide) (by decide) hk1 hFc hP1 hD1
      clear hP hD
      obtain ⟨hP, hD⟩ := hPD
      replace hK := (hK.sub (tys' := [(cf150, .int), (cf102, .int), (cf100, .int), (cf104, .int), (cf144, .int), (cf145, .int), (cf146, .int), (cf147, .int), (cf151, .int), (cf110, .int), (cf152, .int), (cf105, .int), (cf106, .int)]) [2, 3, 4, 5, 6, 7, 8, 9, 10, 11, 12, 13, 14] rfl).app hK1
      clear hPc hDc hKc hFc hP1 hK1 hD1 hz1 hk1 ht hvm
      generalize H1 = H at hP hS ⊢
      replace hP : va_P (dC, dI) vwCl [(qf150, .inl (cf150, 60, .inl f150)), (qf102, .inl (cf102, 2048, .inl f102)), (qf100, .inl (cf100, 48000, .inl f100)), (qf104, .inl (cf104, 8, .inl f104)), (qf144, .inl (cf144, 2001, .inl g144_89)), (qf145, .inl (cf145, 2001, .inl g145_89)), (qf146, .inl (cf146, 2001, .inl g146_89)), (qf147, .inl (cf147, 20000, .inl g147_89)), (qf151, .inl (cf151, 60, .inl f151)), (qf110, .inl (cf110, 96, .inl f110)), (qf152, .inl (cf152, 60, .inl g152_89)), (qf105, .inl (cf105, 8, .inl f105)), (qf106, .inl (cf106, 8, .inl f106)), (h0, .inr (13, z_7)), (qf153, .inl (cf153, 60, .inl g907_0)), (qf154, .inl (cf154, 3600, .inl g907_1))] H := hP
      replace hD : va_D A [(qf150, .inl (cf150, 60, .inl f150)), (qf102, .inl (cf102, 2048, .inl f102)), (qf100, .inl (cf100, 48000, .inl f100)), (qf104, .inl (cf104, 8, .inl f104)), (qf144, .inl (cf144, 2001, .inl g144_89)), (qf145, .inl (cf145, 2001, .inl g145_89)), (qf146, .inl (cf146, 2001, .inl g146_89)), (qf147, .inl (cf147, 20000, .inl g147_89)), (qf151, .inl (cf151, 60, .inl f151)), (qf110, .inl (cf110, 96, .inl f110)), (qf152, .inl (cf152, 60, .inl g152_89)), (qf105, .inl (cf105, 8, .inl f105)), (qf106, .inl (cf106, 8, .inl f106)), (h0, .inr (13, z_7)), (qf153, .inl (cf153, 60, .inl g907_0)), (qf154, .inl (cf154, 3600, .inl g907_1))] := hD
      replace hK : va_K (dC, dI) vwCl [(cf150, .int), (cf102, .int), (cf100, .int), (cf104, .int), (cf144, .int), (cf145, .int), (cf146, .int), (cf147, .int), (cf151, .int), (cf110, .int), (cf152, .int), (cf105, .int), (cf106, .int), (cf153, .int), (cf154, .int)] s := hK
      obtain ⟨hwa_7, hln_7, hre_7⟩ := hw
      have hfk_7_98 : z_7[98]? = some (.int v98) := (hre_7 98 ).trans (hfh_89_98)
      have hfk_7_100 : z_7[100]? = some (.ref qf100) := (hre_7 100 ).trans (hfh_89_100)
      have hfk_7_102 : z_7[102]? = some (.ref qf102) := (hre_7 102 ).trans (hfh_89_102)
      have hfk_7_104 : z_7[104]? = some (.ref qf104) := (hre_7 104 ).trans (hfh_89_104)
      have hfk_7_105 : z_7[105]? = some (.ref qf105) := (hre_7 105 ).trans (hfh_89_105)
      have hfk_7_106 : z_7[106]? = some (.ref qf106) := (hre_7 106 ).trans (hfh_89_106)
      have hfk_7_110 : z_7[110]? = some (.ref qf110) := (hre_7 110 ).trans (hfh_89_110)
      have hfk_7_138 : z_7[138]? = some (.int x138_89) := (hre_7 138 ).trans (hfh_89_138)
      have hfk_7_139 : z_7[139]? = some (.int x139_89) := (hre_7 139 ).trans (hfh_89_139)
      have hfk_7_141 : z_7[141]? = some (.int x141_89) := (hre_7 141 ).trans (hfh_89_141)
      have hfk_7_142 : z_7[142]? = some (.int x142_89) := (hre_7 142 ).trans (hfh_89_142)
      have hfk_7_144 : z_7[144]? = some (.ref qf144) := (hre_7 144 ).trans (hfh_89_144)
      have hfk_7_145 : z_7[145]? = some (.ref qf145) := (hre_7 145 ).trans (hfh_89_145)
      have hfk_7_146 : z_7[146]? = some (.ref qf146) := (hre_7 146 ).trans (hfh_89_146)
      have hfk_7_147 : z_7[147]? = some (.ref qf147) := (hre_7 147 ).trans (hfh_89_147)
      have hfk_7_149 : z_7[149]? = some (.int x149_89) := (hre_7 149 ).trans (hfh_89_149)
      have hfk_7_150 : z_7[150]? = some (.ref qf150) := (hre_7 150 ).trans (hfh_89_150)
      have hfk_7_151 : z_7[151]? = some (.ref qf151) := (hre_7 151 ).trans (hfh_89_151)
      have hfk_7_152 : z_7[152]? = some (.ref qf152) := (hre_7 152 ).trans (hfh_89_152)
      have hfk_7_153 : z_7[153]? = some (.ref qf153) := (hre_7 153 ).trans (hfh_89_153)
      have hfk_7_154 : z_7[154]? = some (.ref qf154) := (hre_7 154 ).trans (hfh_89_154)
      have hrq_7 : ∀ j : Nat, j ≠ 138 → j ≠ 139 → j ≠ 141 → j ≠ 142 → j ≠ 149 → z_7[j]? = zs[j]? := fun j g138 g139 g141 g142 g149 => (hre_7 j ).trans (hrh_89 j g138 g139 g141 g142 g149)
      refine lv_aload_n hx hb dX13_fresh__103 rfl (lv_at hl 1 rfl) ?_
      refine lv_iconst (v := 2) hx hb dX13_fresh__104 (by decide) ?_
      obtain ⟨g908_0, hu_8, hsp⟩ := ox_bind hsp
      try dsimp only at hsp
      have hPc := hP.sub (ws' := [(h0, .inr (13, z_7)), (qf152, .inl (cf152, 60, .inl g152_89))]) [13, 10] rfl
      have hDc := hD.sub (ws' := [(h0, .inr (13, z_7)), (qf152, .inl (cf152, 60, .inl g152_89))]) [13, 10] (by decide) rfl
      have hKc := hK.sub (tys' := [(cf152, .int)]) [10] rfl
      have hFc := va_free (wc := [(h0, .inr (13, z_7)), (qf152, .inl (cf152, 60, .inl g152_89))]) hD hS hA [13, 10] rfl
      refine va_callv (va_runV (As := [.int 2]) (rest := []) ⟨hx, hb, hml, hown, hts⟩ (tm_on l dC dI H.size h0 z_7 2 x149_89 qf152 cf152 g152_89 nf g908_0 hln_7 hfk_7_149 hfk_7_152 hu_8) (cwV 1 hts gv_h9_119 rfl rfl rfl (by decide +kernel) ⟨Nat.le_of_ble_eq_true rfl, Nat.le_of_ble_eq_true rfl⟩) ⟨fun a U g mk q => by obtain ⟨q0, q1, qP, qK, qD⟩ := q; exact ⟨q0, q1, qP, va_K.moved (u := U) (U := U.calling g mk a) (Vm.Alike.refl U.vm) qK, qD⟩, va_recv hKc hPc (ci := 13) (q0 := 0) rfl rfl, fun U hU hW => ⟨rfl, by rw [hU], by rw [hU]; exact hPc, va_K.moved hW.alike hKc, hDc.weaken (fun _ _ _ _ => trivial)⟩⟩ rfl rfl hl.1 rfl (lv_room (Nat.le_of_ble_eq_true rfl)) dX13_fresh__105 ⟨Nat.le_of_ble_eq_true rfl, Nat.le_of_ble_eq_true rfl⟩) hS (fun q _ h => hFc q h) hFc ?_
      clear hS
      intro u t H1 locs ht hvm hw hB hz1 hk1 hS
      obtain ⟨z_8, rfl⟩ : ∃ z, z = u := ⟨_, rfl⟩
      obtain ⟨hP1, hK1, hD1⟩ := hB
      rw [ht] at hP1
      have hK1 := va_K.moved hvm.symm hK1
      try dsimp only at hw
      have hPD := va_join (wr := [(qf150, .inl (cf150, 60, .inl f150)), (qf102, .inl (cf102, 2048, .inl f102)), (qf100, .inl (cf100, 48000, .inl f100)), (qf104, .inl (cf104, 8, .inl f104)), (qf144, .inl (cf144, 2001, .inl g144_89)), (qf145, .inl (cf145, 2001, .inl g145_89)), (qf146, .inl (cf146, 2001, .inl g146_89)), (qf147, .inl (cf147, 20000, .inl g147_89)), (qf151, .inl (cf151, 60, .inl f151)), (qf110, .inl (cf110, 96, .inl f110)), (qf105, .inl (cf105, 8, .inl f105)), (qf106, .inl (cf106, 8, .inl f106)), (qf153, .inl (cf153, 60, .inl g907_0)), (qf154, .inl (cf154, 3600, .inl g907_1))]) (w1 := [(h0, .inr (13, z_8)), (qf152, .inl (cf152, 60, .inl g908_0))]) hP hD [13, 10] [0, 1, 2, 3, 4, 5, 6, 7, 8, 9, 11, 12, 14, 15] rfl rfl (by decide) (by decide) hk1 hFc hP1 hD1
      clear hP hD
      obtain ⟨hP, hD⟩ := hPD
      replace hK := (hK.sub (tys' := [(cf150, .int), (cf102, .int), (cf100, .int), (cf104, .int), (cf144, .int), (cf145, .int), (cf146, .int), (cf147, .int), (cf151, .int), (cf110, .int), (cf105, .int), (cf106, .int), (cf153, .int), (cf154, .int)]) [0, 1, 2, 3, 4, 5, 6, 7, 8, 9, 11, 12, 13, 14] rfl).app hK1
      clear hPc hDc hKc hFc hP1 hK1 hD1 hz1 hk1 ht hvm
      generalize H1 = H at hP hS ⊢
      replace hP : va_P (dC, dI) vwCl [(qf150, .inl (cf150, 60, .inl f150)), (qf102, .inl (cf102, 2048, .inl f102)), (qf100, .inl (cf100, 48000, .inl f100)), (qf104, .inl (cf104, 8, .inl f104)), (qf144, .inl (cf144, 2001, .inl g144_89)), (qf145, .inl (cf145, 2001, .inl g145_89)), (qf146, .inl (cf146, 2001, .inl g146_89)), (qf147, .inl (cf147, 20000, .inl g147_89)), (qf151, .inl (cf151, 60, .inl f151)), (qf110, .inl (cf110, 96, .inl f110)), (qf105, .inl (cf105, 8, .inl f105)), (qf106, .inl (cf106, 8, .inl f106)), (qf153, .inl (cf153, 60, .inl g907_0)), (qf154, .inl (cf154, 3600, .inl g907_1)), (h0, .inr (13, z_8)), (qf152, .inl (cf152, 60, .inl g908_0))] H := hP
      replace hD : va_D A [(qf150, .inl (cf150, 60, .inl f150)), (qf102, .inl (cf102, 2048, .inl f102)), (qf100, .inl (cf100, 48000, .inl f100)), (qf104, .inl (cf104, 8, .inl f104)), (qf144, .inl (cf144, 2001, .inl g144_89)), (qf145, .inl (cf145, 2001, .inl g145_89)), (qf146, .inl (cf146, 2001, .inl g146_89)), (qf147, .inl (cf147, 20000, .inl g147_89)), (qf151, .inl (cf151, 60, .inl f151)), (qf110, .inl (cf110, 96, .inl f110)), (qf105, .inl (cf105, 8, .inl f105)), (qf106, .inl (cf106, 8, .inl f106)), (qf153, .inl (cf153, 60, .inl g907_0)), (qf154, .inl (cf154, 3600, .inl g907_1)), (h0, .inr (13, z_8)), (qf152, .inl (cf152, 60, .inl g908_0))] := hD
      replace hK : va_K (dC, dI) vwCl [(cf150, .int), (cf102, .int), (cf100, .int), (cf104, .int), (cf144, .int), (cf145, .int), (cf146, .int), (cf147, .int), (cf151, .int), (cf110, .int), (cf105, .int), (cf106, .int), (cf153, .int), (cf154, .int), (cf152, .int)] s := hK
      obtain ⟨hwa_8, hln_8, hre_8⟩ := hw
      have hfk_8_98 : z_8[98]? = some (.int v98) := (hre_8 98 ).trans (hfk_7_98)
      have hfk_8_100 : z_8[100]? = some (.ref qf100) := (hre_8 100 ).trans (hfk_7_100)
      have hfk_8_102 : z_8[102]? = some (.ref qf102) := (hre_8 102 ).trans (hfk_7_102)
      have hfk_8_104 : z_8[104]? = some (.ref qf104) := (hre_8 104 ).trans (hfk_7_104)
      have hfk_8_105 : z_8[105]? = some (.ref qf105) := (hre_8 105 ).trans (hfk_7_105)
      have hfk_8_106 : z_8[106]? = some (.ref qf106) := (hre_8 106 ).trans (hfk_7_106)
      have hfk_8_110 : z_8[110]? = some (.ref qf110) := (hre_8 110 ).trans (hfk_7_110)
      have hfk_8_138 : z_8[138]? = some (.int x138_89) := (hre_8 138 ).trans (hfk_7_138)
      have hfk_8_139 : z_8[139]? = some (.int x139_89) := (hre_8 139 ).trans (hfk_7_139)
      have hfk_8_141 : z_8[141]? = some (.int x141_89) := (hre_8 141 ).trans (hfk_7_141)
      have hfk_8_142 : z_8[142]? = some (.int x142_89) := (hre_8 142 ).trans (hfk_7_142)
      have hfk_8_144 : z_8[144]? = some (.ref qf144) := (hre_8 144 ).trans (hfk_7_144)
      have hfk_8_145 : z_8[145]? = some (.ref qf145) := (hre_8 145 ).trans (hfk_7_145)
      have hfk_8_146 : z_8[146]? = some (.ref qf146) := (hre_8 146 ).trans (hfk_7_146)
      have hfk_8_147 : z_8[147]? = some (.ref qf147) := (hre_8 147 ).trans (hfk_7_147)
      have hfk_8_149 : z_8[149]? = some (.int x149_89) := (hre_8 149 ).trans (hfk_7_149)
      have hfk_8_150 : z_8[150]? = some (.ref qf150) := (hre_8 150 ).trans (hfk_7_150)
      have hfk_8_151 : z_8[151]? = some (.ref qf151) := (hre_8 151 ).trans (hfk_7_151)
      have hfk_8_152 : z_8[152]? = some (.ref qf152) := (hre_8 152 ).trans (hfk_7_152)
      have hfk_8_153 : z_8[153]? = some (.ref qf153) := (hre_8 153 ).trans (hfk_7_153)
      have hfk_8_154 : z_8[154]? = some (.ref qf154) := (hre_8 154 ).trans (hfk_7_154)
      have hrq_8 : ∀ j : Nat, j ≠ 138 → j ≠ 139 → j ≠ 141 → j ≠ 142 → j ≠ 149 → z_8[j]? = zs[j]? := fun j g138 g139 g141 g142 g149 => (hre_8 j ).trans (hrq_7 j g138 g139 g141 g142 g149)
      have hr0 := Option.some.inj hsp
      clear hsp
      obtain ⟨hq0, hr1⟩ := Prod.mk.inj hr0
      clear hr0
      obtain ⟨hq1, hr2⟩ := Prod.mk.inj hr1
      clear hr1
      obtain ⟨hq2, hr3⟩ := Prod.mk.inj hr2
      clear hr2
      obtain ⟨hq3, hr4⟩ := Prod.mk.inj hr3
      clear hr3
      obtain ⟨hq4, hr5⟩ := Prod.mk.inj hr4
      clear hr4
      obtain ⟨hq5, hr6⟩ := Prod.mk.inj hr5
      clear hr5
      obtain ⟨hq6, hr7⟩ := Prod.mk.inj hr6
      clear hr6
      obtain ⟨hq7, hr8⟩ := Prod.mk.inj hr7
      clear hr7
      obtain ⟨hq8, hr9⟩ := Prod.mk.inj hr8
      clear hr8
      obtain ⟨hq9, hr10⟩ := Prod.mk.inj hr9
      clear hr9
      obtain ⟨hq10, hr11⟩ := Prod.mk.inj hr10
      clear hr10
      subst hq0
      subst hq1
      subst hq2
      subst hq3
      subst hq4
      subst hq5
      subst hq6
      subst hq7
      subst hq8
      subst hq9
      subst hq10
      subst hr11
      have hP9 := hP.sub (ws' := [(h0, .inr (13, z_8)), (qf153, .inl (cf153, 60, .inl g907_0)), (qf154, .inl (cf154, 3600, .inl g907_1)), (qf150, .inl (cf150, 60, .inl f150)), (qf102, .inl (cf102, 2048, .inl f102)), (qf100, .inl (cf100, 48000, .inl f100)), (qf104, .inl (cf104, 8, .inl f104)), (qf144, .inl (cf144, 2001, .inl g144_89)), (qf145, .inl (cf145, 2001, .inl g145_89)), (qf146, .inl (cf146, 2001, .inl g146_89)), (qf147, .inl (cf147, 20000, .inl g147_89)), (qf151, .inl (cf151, 60, .inl f151)), (qf110, .inl (cf110, 96, .inl f110)), (qf152, .inl (cf152, 60, .inl g908_0)), (qf105, .inl (cf105, 8, .inl f105)), (qf106, .inl (cf106, 8, .inl f106))]) [14, 12, 13, 0, 1, 2, 3, 4, 5, 6, 7, 8, 9, 15, 10, 11] rfl
      have hD9 := hD.sub (ws' := [(h0, .inr (13, z_8)), (qf153, .inl (cf153, 60, .inl g907_0)), (qf154, .inl (cf154, 3600, .inl g907_1)), (qf150, .inl (cf150, 60, .inl f150)), (qf102, .inl (cf102, 2048, .inl f102)), (qf100, .inl (cf100, 48000, .inl f100)), (qf104, .inl (cf104, 8, .inl f104)), (qf144, .inl (cf144, 2001, .inl g144_89)), (qf145, .inl (cf145, 2001, .inl g145_89)), (qf146, .inl (cf146, 2001, .inl g146_89)), (qf147, .inl (cf147, 20000, .inl g147_89)), (qf151, .inl (cf151, 60, .inl f151)), (qf110, .inl (cf110, 96, .inl f110)), (qf152, .inl (cf152, 60, .inl g908_0)), (qf105, .inl (cf105, 8, .inl f105)), (qf106, .inl (cf106, 8, .inl f106))]) [14, 12, 13, 0, 1, 2, 3, 4, 5, 6, 7, 8, 9, 15, 10, 11] (by decide) rfl
      have hK9 := hK.sub (tys' := [(cf153, .int), (cf154, .int), (cf150, .int), (cf102, .int), (cf100, .int), (cf104, .int), (cf144, .int), (cf145, .int), (cf146, .int), (cf147, .int), (cf151, .int), (cf110, .int), (cf152, .int), (cf105, .int), (cf106, .int)]) [12, 13, 0, 1, 2, 3, 4, 5, 6, 7, 8, 9, 14, 10, 11] rfl
      exact W.vret hx hb hr (fun t ht hW => ⟨⟨(z_8), rfl, ⟨trivial, hln_8, hrq_8, hfk_8_138, hfk_8_139, hfk_8_141, hfk_8_142, hfk_8_149⟩, by rw [ht]; exact hP9, va_K.moved hW.alike hK9, hD9⟩, hS.F ht⟩) hS.2.2 dX13_fresh__108
    · rw [if_pos c_11] at hsp
      have hr0 := Option.some.inj hsp
      clear hsp
      obtain ⟨hq0, hr1⟩ := Prod.mk.inj hr0
      clear hr0
      obtain ⟨hq1, hr2⟩ := Prod.mk.inj hr1
      clear hr1
      obtain ⟨hq2, hr3⟩ := Prod.mk.inj hr2
      clear hr2
      obtain ⟨hq3, hr4⟩ := Prod.mk.inj hr3
      clear hr3
      obtain ⟨hq4, hr5⟩ := Prod.mk.inj hr4
      clear hr4
      obtain ⟨hq5, hr6⟩ := Prod.mk.inj hr5
      clear hr5
      obtain ⟨hq6, hr7⟩ := Prod.mk.inj hr6
      clear hr6
      obtain ⟨hq7, hr8⟩ := Prod.mk.inj hr7
      clear hr7
      obtain ⟨hq8, hr9⟩ := Prod.mk.inj hr8
      clear hr8
      obtain ⟨hq9, hr10⟩ := Prod.mk.inj hr9
      clear hr9
      obtain ⟨hq10, hr11⟩ := Prod.mk.inj hr10
      clear hr10
      subst hq0
      subst hq1
      subst hq2
      subst hq3
      subst hq4
      subst hq5
      subst hq6
      subst hq7
      subst hq8
      subst hq9
      subst hq10
      subst hr11
      have hP9 := hP.sub (ws' := [(h0, .inr (13, z89)), (qf153, .inl (cf153, 60, .inl g153_89)), (qf154, .inl (cf154, 3600, .inl g154_89)), (qf150, .inl (cf150, 60, .inl f150)), (qf102, .inl (cf102, 2048, .inl f102)), (qf100, .inl (cf100, 48000, .inl f100)), (qf104, .inl (cf104, 8, .inl f104)), (qf144, .inl (cf144, 2001, .inl g144_89)), (qf145, .inl (cf145, 2001, .inl g145_89)), (qf146, .inl (cf146, 2001, .inl g146_89)), (qf147, .inl (cf147, 20000, .inl g147_89)), (qf151, .inl (cf151, 60, .inl f151)), (qf110, .inl (cf110, 96, .inl f110)), (qf152, .inl (cf152, 60, .inl g152_89)), (qf105, .inl (cf105, 8, .inl f105)), (qf106, .inl (cf106, 8, .inl f106))]) [0, 1, 2, 3, 4, 5, 6, 7, 8, 9, 10, 11, 12, 13, 14, 15] rfl
      have hD9 := hD.sub (ws' := [(h0, .inr (13, z89)), (qf153, .inl (cf153, 60, .inl g153_89)), (qf154, .inl (cf154, 3600, .inl g154_89)), (qf150, .inl (cf150, 60, .inl f150)), (qf102, .inl (cf102, 2048, .inl f102)), (qf100, .inl (cf100, 48000, .inl f100)), (qf104, .inl (cf104, 8, .inl f104)), (qf144, .inl (cf144, 2001, .inl g144_89)), (qf145, .inl (cf145, 2001, .inl g145_89)), (qf146, .inl (cf146, 2001, .inl g146_89)), (qf147, .inl (cf147, 20000, .inl g147_89)), (qf151, .inl (cf151, 60, .inl f151)), (qf110, .inl (cf110, 96, .inl f110)), (qf152, .inl (cf152, 60, .inl g152_89)), (qf105, .inl (cf105, 8, .inl f105)), (qf106, .inl (cf106, 8, .inl f106))]) [0, 1, 2, 3, 4, 5, 6, 7, 8, 9, 10, 11, 12, 13, 14, 15] (by decide) rfl
      have hK9 := hK.sub (tys' := [(cf153, .int), (cf154, .int), (cf150, .int), (cf102, .int), (cf100, .int), (cf104, .int), (cf144, .int), (cf145, .int), (cf146, .int), (cf147, .int), (cf151, .int), (cf110, .int), (cf152, .int), (cf105, .int), (cf106, .int)]) [0, 1, 2, 3, 4, 5, 6, 7, 8, 9, 10, 11, 12, 13, 14] rfl
      exact W.vret hx hb hr (fun t ht hW => ⟨⟨(z89), rfl, ⟨trivial, hlh_89, hrh_89, hfh_89_138, hfh_89_139, hfh_89_141, hfh_89_142, hfh_89_149⟩, by rw [ht]; exact hP9, va_K.moved hW.alike hK9, hD9⟩, hS.F ht⟩) hS.2.2 dX13_fresh__96
  intro hj_89
  refine jn_use (α := Heap × List Loc × Array Slot × List Value × Int32 × Int32 × (Nat → Int32) × (Nat → Int32) × (Nat → Int32) × (Nat → Int32) × (Nat → Int32) × (Nat → Int32) × (Nat → Int32) × Int32 × Int32 × Int32 × Int32 × Int32) (fun x9 => x9.1) (fun x9 => x9.2.1) (fun x9 => F0 m 85 x9.2.2.1 [.int (x9.2.2.2.2.2.1), .ref h0]) (fun x9 => match x9 with | (H, locs, ls, z85, l3_85, s0_85, g144_85, g145_85, g146_85, g147_85, g152_85, g153_85, g154_85, x138_85, x139_85, x141_85, x142_85, x149_85) => lv_has ls 6 [(0, .ref h0), (3, .int l3_85)] ∧ va_S A s.heap H locs ∧ va_D A [(h0, .inr (13, z85)), (qf153, .inl (cf153, 60, .inl g153_85)), (qf154, .inl (cf154, 3600, .inl g154_85)), (qf150, .inl (cf150, 60, .inl f150)), (qf102, .inl (cf102, 2048, .inl f102)), (qf100, .inl (cf100, 48000, .inl f100)), (qf104, .inl (cf104, 8, .inl f104)), (qf144, .inl (cf144, 2001, .inl g144_85)), (qf145, .inl (cf145, 2001, .inl g145_85)), (qf146, .inl (cf146, 2001, .inl g146_85)), (qf147, .inl (cf147, 20000, .inl g147_85)), (qf151, .inl (cf151, 60, .inl f151)), (qf110, .inl (cf110, 96, .inl f110)), (qf152, .inl (cf152, 60, .inl g152_85)), (qf105, .inl (cf105, 8, .inl f105)), (qf106, .inl (cf106, 8, .inl f106))] ∧ va_P (dC, dI) vwCl [(h0, .inr (13, z85)), (qf153, .inl (cf153, 60, .inl g153_85)), (qf154, .inl (cf154, 3600, .inl g154_85)), (qf150, .inl (cf150, 60, .inl f150)), (qf102, .inl (cf102, 2048, .inl f102)), (qf100, .inl (cf100, 48000, .inl f100)), (qf104, .inl (cf104, 8, .inl f104)), (qf144, .inl (cf144, 2001, .inl g144_85)), (qf145, .inl (cf145, 2001, .inl g145_85)), (qf146, .inl (cf146, 2001, .inl g146_85)), (qf147, .inl (cf147, 20000, .inl g147_85)), (qf151, .inl (cf151, 60, .inl f151)), (qf110, .inl (cf110, 96, .inl f110)), (qf152, .inl (cf152, 60, .inl g152_85)), (qf105, .inl (cf105, 8, .inl f105)), (qf106, .inl (cf106, 8, .inl f106))] H ∧ z85[98]? = some (.int v98) ∧ z85[100]? = some (.ref qf100) ∧ z85[102]? = some (.ref qf102) ∧ z85[104]? = some (.ref qf104) ∧ z85[105]? = some (.ref qf105) ∧ z85[106]? = some (.ref qf106) ∧ z85[110]? = some (.ref qf110) ∧ z85[138]? = some (.int x138_85) ∧ z85[139]? = some (.int x139_85) ∧ z85[141]? = some (.int x141_85) ∧ z85[142]? = some (.int x142_85) ∧ z85[144]? = some (.ref qf144) ∧ z85[145]? = some (.ref qf145) ∧ z85[146]? = some (.ref qf146) ∧ z85[147]? = some (.ref qf147) ∧ z85[149]? = some (.int x149_85) ∧ z85[150]? = some (.ref qf150) ∧ z85[151]? = some (.ref qf151) ∧ z85[152]? = some (.ref qf152) ∧ z85[153]? = some (.ref qf153) ∧ z85[154]? = some (.ref qf154) ∧ z85.length = 155 ∧ (∀ j : Nat, j ≠ 138 → j ≠ 139 → j ≠ 141 → j ≠ 142 → j ≠ 149 → z85[j]? = zs[j]?) ∧ jn_vm_fresh__85 nf a1 a2 v98 v138 v139 v141 v142 v149 f153 f154 f150 f102 f100 f104 f144 f145 f146 f147 f151 f110 f152 f105 f106 nS477 fS477 l3_85 s0_85 g144_85 g145_85 g146_85 g147_85 g152_85 g153_85 g154_85 x138_85 x139_85 x141_85 x142_85 x149_85 = some (o144, o145, o146, o147, o152, o153, o154, w138, w139, w141, w142, w149)) ?_ ?_
  · intro x9 hJ9
    obtain ⟨H, locs, ls, z85, l3_85, s0_85, g144_85, g145_85, g146_85, g147_85, g152_85, g153_85, g154_85, x138_85, x139_85, x141_85, x142_85, x149_85⟩ := x9
    obtain ⟨hl, hS, hD, hP, hfh_85_98, hfh_85_100, hfh_85_102, hfh_85_104, hfh_85_105, hfh_85_106, hfh_85_110, hfh_85_138, hfh_85_139, hfh_85_141, hfh_85_142, hfh_85_144, hfh_85_145, hfh_85_146, hfh_85_147, hfh_85_149, hfh_85_150, hfh_85_151, hfh_85_152, hfh_85_153, hfh_85_154, hlh_85, hrh_85, hsp⟩ := hJ9
    replace hl : lv_has ls 6 [(0, .ref h0), (3, .int l3_85)] := hl
    replace hS : va_S A s.heap H locs := hS
    replace hD : va_D A [(h0, .inr (13, z85)), (qf153, .inl (cf153, 60, .inl g153_85)), (qf154, .inl (cf154, 3600, .inl g154_85)), (qf150, .inl (cf150, 60, .inl f150)), (qf102, .inl (cf102, 2048, .inl f102)), (qf100, .inl (cf100, 48000, .inl f100)), (qf104, .inl (cf104, 8, .inl f104)), (qf144, .inl (cf144, 2001, .inl g144_85)), (qf145, .inl (cf145, 2001, .inl g145_85)), (qf146, .inl (cf146, 2001, .inl g146_85)), (qf147, .inl (cf147, 20000, .inl g147_85)), (qf151, .inl (cf151, 60, .inl f151)), (qf110, .inl (cf110, 96, .inl f110)), (qf152, .inl (cf152, 60, .inl g152_85)), (qf105, .inl (cf105, 8, .inl f105)), (qf106, .inl (cf106, 8, .inl f106))] := hD
    replace hP : va_P (dC, dI) vwCl [(h0, .inr (13, z85)), (qf153, .inl (cf153, 60, .inl g153_85)), (qf154, .inl (cf154, 3600, .inl g154_85)), (qf150, .inl (cf150, 60, .inl f150)), (qf102, .inl (cf102, 2048, .inl f102)), (qf100, .inl (cf100, 48000, .inl f100)), (qf104, .inl (cf104, 8, .inl f104)), (qf144, .inl (cf144, 2001, .inl g144_85)), (qf145, .inl (cf145, 2001, .inl g145_85)), (qf146, .inl (cf146, 2001, .inl g146_85)), (qf147, .inl (cf147, 20000, .inl g147_85)), (qf151, .inl (cf151, 60, .inl f151)), (qf110, .inl (cf110, 96, .inl f110)), (qf152, .inl (cf152, 60, .inl g152_85)), (qf105, .inl (cf105, 8, .inl f105)), (qf106, .inl (cf106, 8, .inl f106))] H := hP
    replace hsp : jn_vm_fresh__85 nf a1 a2 v98 v138 v139 v141 v142 v149 f153 f154 f150 f102 f100 f104 f144 f145 f146 f147 f151 f110 f152 f105 f106 nS477 fS477 l3_85 s0_85 g144_85 g145_85 g146_85 g147_85 g152_85 g153_85 g154_85 x138_85 x139_85 x141_85 x142_85 x149_85 = some (o144, o145, o146, o147, o152, o153, o154, w138, w139, w141, w142, w149) := hsp
    show W _ _ _ _ _ _ _ _ _ _ H locs _ _ _ (F0 m 85 ls [.int s0_85, .ref h0])
    unfold jn_vm_fresh__85 at hsp
    try dsimp only at hsp
    refine lv_iload_n hx hb dX13_fresh__85 rfl (lv_at hl 1 rfl) ?_
    obtain ⟨⟨u6_0, g906_1, g906_2, g906_3, g906_4, u6_5, u6_6, u6_7⟩, hu_6, hsp⟩ := ox_bind hsp
    try dsimp only at hsp
    have hPc := hP.sub (ws' := [(h0, .inr (13, z85)), (qf144, .inl (cf144, 2001, .inl g144_85)), (qf145, .inl (cf145, 2001, .inl g145_85)), (qf146, .inl (cf146, 2001, .inl g146_85)), (qf147, .inl (cf147, 20000, .inl g147_85))]) [0, 7, 8, 9, 10] rfl
    have hDc := hD.sub (ws' := [(h0, .inr (13, z85)), (qf144, .inl (cf144, 2001, .inl g144_85)), (qf145, .inl (cf145, 2001, .inl g145_85)), (qf146, .inl (cf146, 2001, .inl g146_85)), (qf147, .inl (cf147, 20000, .inl g147_85))]) [0, 7, 8, 9, 10] (by decide) rfl
    have hKc := hK.sub (tys' := [(cf144, .int), (cf145, .int), (cf146, .int), (cf147, .int)]) [6, 7, 8, 9] rfl
    have hFc := va_free (wc := [(h0, .inr (13, z85)), (qf144, .inl (cf144, 2001, .inl g144_85)), (qf145, .inl (cf145, 2001, .inl g145_85)), (qf146, .inl (cf146, 2001, .inl g146_85)), (qf147, .inl (cf147, 20000, .inl g147_85))]) hD hS hA [0, 7, 8, 9, 10] rfl
    refine va_calli (va_runV (As := [.int s0_85, .int l3_85]) (rest := []) ⟨hx, hb, hml, hown, hts⟩ (vm_make_ l dC dI H.size h0 z85 s0_85 l3_85 x138_85 x141_85 x142_85 qf144 qf145 qf146 qf147 cf144 g144_85 cf145 g145_85 cf146 g146_85 cf147 g147_85 nf u6_0 g906_1 g906_2 g906_3 g906_4 u6_5 u6_6 u6_7 hlh_85 hfh_85_138 hfh_85_141 hfh_85_142 hfh_85_144 hfh_85_145 hfh_85_146 hfh_85_147 hu_6) (cwV 2 hts gv_h9_74 rfl rfl rfl (by decide +kernel) ⟨Nat.le_of_ble_eq_true rfl, Nat.le_of_ble_eq_true rfl⟩) ⟨fun a U g mk q => by obtain ⟨q0, q1, qP, qK, qD⟩ := q; exact ⟨q0, q1, qP, va_K.moved (u := U) (U := U.calling g mk a) (Vm.Alike.refl U.vm) qK, qD⟩, va_recv hKc hPc (ci := 13) (q0 := 0) rfl rfl, fun U hU hW => ⟨rfl, by rw [hU], by rw [hU]; exact hPc, va_K.moved hW.alike hKc, hDc.weaken (fun _ _ _ _ => trivial)⟩⟩ rfl rfl hl.1 rfl (lv_room (Nat.le_of_ble_eq_true rfl)) dX13_fresh__86 ⟨Nat.le_of_ble_eq_true rfl, Nat.le_of_ble_eq_true rfl⟩) hS (fun q _ h => hFc q h) hFc ?_
    clear hS
    intro r_10 u t H1 locs ht hvm hw hB hz1 hk1 hS
    obtain ⟨z_6, rfl⟩ : ∃ z, z = u := ⟨_, rfl⟩
    obtain ⟨hP1, hK1, hD1⟩ := hB
    rw [ht] at hP1
    have hK1 := va_K.moved hvm.symm hK1
    try dsimp only at hw
    have hPD := va_join (wr := [(qf153, .inl (cf153, 60, .inl g153_85)), (qf154, .inl (cf154, 3600, .inl g154_85)), (qf150, .inl (cf150, 60, .inl f150)), (qf102, .inl (cf102, 2048, .inl f102)), (qf100, .inl (cf100, 48000, .inl f100)), (qf104, .inl (cf104, 8, .inl f104)), (qf151, .inl (cf151, 60, .inl f151)), (qf110, .inl (cf110, 96, .inl f110)), (qf152, .inl (cf152, 60, .inl g152_85)), (qf105, .inl (cf105, 8, .inl f105)), (qf106, .inl (cf106, 8, .inl f106))]) (w1 := [(h0, .inr (13, z_6)), (qf144, .inl (cf144, 2001, .inl g906_1)), (qf145, .inl (cf145, 2001, .inl g906_2)), (qf146, .inl (cf146, 2001, .inl g906_3)), (qf147, .inl (cf147, 20000, .inl g906_4))]) hP hD [0, 7, 8, 9, 10] [1, 2, 3, 4, 5, 6, 11, 12, 13, 14, 15] rfl rfl (by decide) (by decide) hk1 hFc hP1 hD1
    clear hP hD
    obtain ⟨hP, hD⟩ := hPD
    replace hK := (hK.sub (tys' := [(cf153, .int), (cf154, .int), (cf150, .int), (cf102, .int), (cf100, .int), (cf104, .int), (cf151, .int), (cf110, .int), (cf152, .int), (cf105, .int), (cf106, .int)]) [0, 1, 2, 3, 4, 5, 10, 11, 12, 13, 14] rfl).app hK1
    clear hPc hDc hKc hFc hP1 hK1 hD1 hz1 hk1 ht hvm
    generalize H1 = H at hP hS ⊢
    replace hP : va_P (dC, dI) vwCl [(qf153, .inl (cf153, 60, .inl g153_85)), (qf154, .inl (cf154, 3600, .inl g154_85)), (qf150, .inl (cf150, 60, .inl f150)), (qf102, .inl (cf102, 2048, .inl f102)), (qf100, .inl (cf100, 48000, .inl f100)), (qf104, .inl (cf104, 8, .inl f104)), (qf151, .inl (cf151, 60, .inl f151)), (qf110, .inl (cf110, 96, .inl f110)), (qf152, .inl (cf152, 60, .inl g152_85)), (qf105, .inl (cf105, 8, .inl f105)), (qf106, .inl (cf106, 8, .inl f106)), (h0, .inr (13, z_6)), (qf144, .inl (cf144, 2001, .inl g906_1)), (qf145, .inl (cf145, 2001, .inl g906_2)), (qf146, .inl (cf146, 2001, .inl g906_3)), (qf147, .inl (cf147, 20000, .inl g906_4))] H := hP
    replace hD : va_D A [(qf153, .inl (cf153, 60, .inl g153_85)), (qf154, .inl (cf154, 3600, .inl g154_85)), (qf150, .inl (cf150, 60, .inl f150)), (qf102, .inl (cf102, 2048, .inl f102)), (qf100, .inl (cf100, 48000, .inl f100)), (qf104, .inl (cf104, 8, .inl f104)), (qf151, .inl (cf151, 60, .inl f151)), (qf110, .inl (cf110, 96, .inl f110)), (qf152, .inl (cf152, 60, .inl g152_85)), (qf105, .inl (cf105, 8, .inl f105)), (qf106, .inl (cf106, 8, .inl f106)), (h0, .inr (13, z_6)), (qf144, .inl (cf144, 2001, .inl g906_1)), (qf145, .inl (cf145, 2001, .inl g906_2)), (qf146, .inl (cf146, 2001, .inl g906_3)), (qf147, .inl (cf147, 20000, .inl g906_4))] := hD
    replace hK : va_K (dC, dI) vwCl [(cf153, .int), (cf154, .int), (cf150, .int), (cf102, .int), (cf100, .int), (cf104, .int), (cf151, .int), (cf110, .int), (cf152, .int), (cf105, .int), (cf106, .int), (cf144, .int), (cf145, .int), (cf146, .int), (cf147, .int)] s := hK
    obtain ⟨hwa_6, hln_6, hre_6, hch_6_138, hch_6_141, hch_6_142⟩ := hw
    have hfk_6_98 : z_6[98]? = some (.int v98) := (hre_6 98 (by decide) (by decide) (by decide)).trans (hfh_85_98)
    have hfk_6_100 : z_6[100]? = some (.ref qf100) := (hre_6 100 (by decide) (by decide) (by decide)).trans (hfh_85_100)
    have hfk_6_102 : z_6[102]? = some (.ref qf102) := (hre_6 102 (by decide) (by decide) (by decide)).trans (hfh_85_102)
    have hfk_6_104 : z_6[104]? = some (.ref qf104) := (hre_6 104 (by decide) (by decide) (by decide)).trans (hfh_85_104)
    have hfk_6_105 : z_6[105]? = some (.ref qf105) := (hre_6 105 (by decide) (by decide) (by decide)).trans (hfh_85_105)
    have hfk_6_106 : z_6[106]? = some (.ref qf106) := (hre_6 106 (by decide) (by decide) (by decide)).trans (hfh_85_106)
    have hfk_6_110 : z_6[110]? = some (.ref qf110) := (hre_6 110 (by decide) (by decide) (by decide)).trans (hfh_85_110)
    have hfk_6_139 : z_6[139]? = some (.int x139_85) := (hre_6 139 (by decide) (by decide) (by decide)).trans (hfh_85_139)
    have hfk_6_144 : z_6[144]? = some (.ref qf144) := (hre_6 144 (by decide) (by decide) (by decide)).trans (hfh_85_144)
    have hfk_6_145 : z_6[145]? = some (.ref qf145) := (hre_6 145 (by decide) (by decide) (by decide)).trans (hfh_85_145)
    have hfk_6_146 : z_6[146]? = some (.ref qf146) := (hre_6 146 (by decide) (by decide) (by decide)).trans (hfh_85_146)
    have hfk_6_147 : z_6[147]? = some (.ref qf147) := (hre_6 147 (by decide) (by decide) (by decide)).trans (hfh_85_147)
    have hfk_6_149 : z_6[149]? = some (.int x149_85) := (hre_6 149 (by decide) (by decide) (by decide)).trans (hfh_85_149)
    have hfk_6_150 : z_6[150]? = some (.ref qf150) := (hre_6 150 (by decide) (by decide) (by decide)).trans (hfh_85_150)
    have hfk_6_151 : z_6[151]? = some (.ref qf151) := (hre_6 151 (by decide) (by decide) (by decide)).trans (hfh_85_151)
    have hfk_6_152 : z_6[152]? = some (.ref qf152) := (hre_6 152 (by decide) (by decide) (by decide)).trans (hfh_85_152)
    have hfk_6_153 : z_6[153]? = some (.ref qf153) := (hre_6 153 (by decide) (by decide) (by decide)).trans (hfh_85_153)
    have hfk_6_154 : z_6[154]? = some (.ref qf154) := (hre_6 154 (by decide) (by decide) (by decide)).trans (hfh_85_154)
    have hrq_6 : ∀ j : Nat, j ≠ 138 → j ≠ 139 → j ≠ 141 → j ≠ 142 → j ≠ 149 → z_6[j]? = zs[j]? := fun j g138 g139 g141 g142 g149 => (hre_6 j g138 g141 g142).trans (hrh_85 j g138 g139 g141 g142 g149)
    obtain rfl := hwa_6
    exact hj_89 (H, locs, ls, z_6, u6_0, g906_1, g906_2, g906_3, g906_4, g152_85, g153_85, g154_85, u6_5, x139_85, u6_6, u6_7, x149_85) ⟨lv_sub hl [0] rfl, hS, hD.sub (ws' := [(h0, .inr (13, z_6)), (qf153, .inl (cf153, 60, .inl g153_85)), (qf154, .inl (cf154, 3600, .inl g154_85)), (qf150, .inl (cf150, 60, .inl f150)), (qf102, .inl (cf102, 2048, .inl f102)), (qf100, .inl (cf100, 48000, .inl f100)), (qf104, .inl (cf104, 8, .inl f104)), (qf144, .inl (cf144, 2001, .inl g906_1)), (qf145, .inl (cf145, 2001, .inl g906_2)), (qf146, .inl (cf146, 2001, .inl g906_3)), (qf147, .inl (cf147, 20000, .inl g906_4)), (qf151, .inl (cf151, 60, .inl f151)), (qf110, .inl (cf110, 96, .inl f110)), (qf152, .inl (cf152, 60, .inl g152_85)), (qf105, .inl (cf105, 8, .inl f105)), (qf106, .inl (cf106, 8, .inl f106))]) [11, 0, 1, 2, 3, 4, 5, 12, 13, 14, 15, 6, 7, 8, 9, 10] (by decide) rfl, hP.sub (ws' := [(h0, .inr (13, z_6)), (qf153, .inl (cf153, 60, .inl g153_85)), (qf154, .inl (cf154, 3600, .inl g154_85)), (qf150, .inl (cf150, 60, .inl f150)), (qf102, .inl (cf102, 2048, .inl f102)), (qf100, .inl (cf100, 48000, .inl f100)), (qf104, .inl (cf104, 8, .inl f104)), (qf144, .inl (cf144, 2001, .inl g906_1)), (qf145, .inl (cf145, 2001, .inl g906_2)), (qf146, .inl (cf146, 2001, .inl g906_3)), (qf147, .inl (cf147, 20000, .inl g906_4)), (qf151, .inl (cf151, 60, .inl f151)), (qf110, .inl (cf110, 96, .inl f110)), (qf152, .inl (cf152, 60, .inl g152_85)), (qf105, .inl (cf105, 8, .inl f105)), (qf106, .inl (cf106, 8, .inl f106))]) [11, 0, 1, 2, 3, 4, 5, 12, 13, 14, 15, 6, 7, 8, 9, 10] rfl, hfk_6_98, hfk_6_100, hfk_6_102, hfk_6_104, hfk_6_105, hfk_6_106, hfk_6_110, hch_6_138, hfk_6_139, hch_6_141, hch_6_142, hfk_6_144, hfk_6_145, hfk_6_146, hfk_6_147, hfk_6_149, hfk_6_150, hfk_6_151, hfk_6_152, hfk_6_153, hfk_6_154, hln_6, hrq_6, hsp⟩
  intro hj_85
  refine jn_use (α := Heap × List Loc × Array Slot × List Value × Int32 × Int32 × Int32 × (Nat → Int32) × (Nat → Int32) × (Nat → Int32) × (Nat → Int32) × (Nat → Int32) × (Nat → Int32) × (Nat → Int32) × Int32 × Int32 × Int32 × Int32 × Int32) (fun x9 => x9.1) (fun x9 => x9.2.1) (fun x9 => F0 m 43 x9.2.2.1 [.int (x9.2.2.2.2.2.2.1)]) (fun x9 => match x9 with | (H, locs, ls, z43, l1_43, l3_43, s0_43, g144_43, g145_43, g146_43, g147_43, g152_43, g153_43, g154_43, x138_43, x139_43, x141_43, x142_43, x149_43) => lv_has ls 6 [(0, .ref h0), (1, .int l1_43), (3, .int l3_43)] ∧ va_S A s.heap H locs ∧ va_D A [(h0, .inr (13, z43)), (qf153, .inl (cf153, 60, .inl g153_43)), (qf154, .inl (cf154, 3600, .inl g154_43)), (qf150, .inl (cf150, 60, .inl f150)), (qf102, .inl (cf102, 2048, .inl f102)), (qf100, .inl (cf100, 48000, .inl f100)), (qf104, .inl (cf104, 8, .inl f104)), (qf144, .inl (cf144, 2001, .inl g144_43)), (qf145, .inl (cf145, 2001, .inl g145_43)), (qf146, .inl (cf146, 2001, .inl g146_43)), (qf147, .inl (cf147, 20000, .inl g147_43)), (qf151, .inl (cf151, 60, .inl f151)), (qf110, .inl (cf110, 96, .inl f110)), (qf152, .inl (cf152, 60, .inl g152_43)), (qf105, .inl (cf105, 8, .inl f105)), (qf106, .inl (cf106, 8, .inl f106))] ∧ va_P (dC, dI) vwCl [(h0, .inr (13, z43)), (qf153, .inl (cf153, 60, .inl g153_43)), (qf154, .inl (cf154, 3600, .inl g154_43)), (qf150, .inl (cf150, 60, .inl f150)), (qf102, .inl (cf102, 2048, .inl f102)), (qf100, .inl (cf100, 48000, .inl f100)), (qf104, .inl (cf104, 8, .inl f104)), (qf144, .inl (cf144, 2001, .inl g144_43)), (qf145, .inl (cf145, 2001, .inl g145_43)), (qf146, .inl (cf146, 2001, .inl g146_43)), (qf147, .inl (cf147, 20000, .inl g147_43)), (qf151, .inl (cf151, 60, .inl f151)), (qf110, .inl (cf110, 96, .inl f110)), (qf152, .inl (cf152, 60, .inl g152_43)), (qf105, .inl (cf105, 8, .inl f105)), (qf106, .inl (cf106, 8, .inl f106))] H ∧ z43[98]? = some (.int v98) ∧ z43[100]? = some (.ref qf100) ∧ z43[102]? = some (.ref qf102) ∧ z43[104]? = some (.ref qf104) ∧ z43[105]? = some (.ref qf105) ∧ z43[106]? = some (.ref qf106) ∧ z43[110]? = some (.ref qf110) ∧ z43[138]? = some (.int x138_43) ∧ z43[139]? = some (.int x139_43) ∧ z43[141]? = some (.int x141_43) ∧ z43[142]? = some (.int x142_43) ∧ z43[144]? = some (.ref qf144) ∧ z43[145]? = some (.ref qf145) ∧ z43[146]? = some (.ref qf146) ∧ z43[147]? = some (.ref qf147) ∧ z43[149]? = some (.int x149_43) ∧ z43[150]? = some (.ref qf150) ∧ z43[151]? = some (.ref qf151) ∧ z43[152]? = some (.ref qf152) ∧ z43[153]? = some (.ref qf153) ∧ z43[154]? = some (.ref qf154) ∧ z43.length = 155 ∧ (∀ j : Nat, j ≠ 138 → j ≠ 139 → j ≠ 141 → j ≠ 142 → j ≠ 149 → z43[j]? = zs[j]?) ∧ jn_vm_fresh__43 nf a1 a2 v98 v138 v139 v141 v142 v149 f153 f154 f150 f102 f100 f104 f144 f145 f146 f147 f151 f110 f152 f105 f106 nS477 fS477 l1_43 l3_43 s0_43 g144_43 g145_43 g146_43 g147_43 g152_43 g153_43 g154_43 x138_43 x139_43 x141_43 x142_43 x149_43 = some (o144, o145, o146, o147, o152, o153, o154, w138, w139, w141, w142, w149)) ?_ ?_
  · intro x9 hJ9
    obtain ⟨H, locs, ls, z43, l1_43, l3_43, s0_43, g144_43, g145_43, g146_43, g147_43, g152_43, g153_43, g154_43, x138_43, x139_43, x141_43, x142_43, x149_43⟩ := x9
    obtain ⟨hl, hS, hD, hP, hfh_43_98, hfh_43_100, hfh_43_102, hfh_43_104, hfh_43_105, hfh_43_106, hfh_43_110, hfh_43_138, hfh_43_139, hfh_43_141, hfh_43_142, hfh_43_144, hfh_43_145, hfh_43_146, hfh_43_147, hfh_43_149, hfh_43_150, hfh_43_151, hfh_43_152, hfh_43_153, hfh_43_154, hlh_43, hrh_43, hsp⟩ := hJ9
    replace hl : lv_has ls 6 [(0, .ref h0), (1, .int l1_43), (3, .int l3_43)] := hl
    replace hS : va_S A s.heap H locs := hS
    replace hD : va_D A [(h0, .inr (13, z43)), (qf153, .inl (cf153, 60, .inl g153_43)), (qf154, .inl (cf154, 3600, .inl g154_43)), (qf150, .inl (cf150, 60, .inl f150)), (qf102, .inl (cf102, 2048, .inl f102)), (qf100, .inl (cf100, 48000, .inl f100)), (qf104, .inl (cf104, 8, .inl f104)), (qf144, .inl (cf144, 2001, .inl g144_43)), (qf145, .inl (cf145, 2001, .inl g145_43)), (qf146, .inl (cf146, 2001, .inl g146_43)), (qf147, .inl (cf147, 20000, .inl g147_43)), (qf151, .inl (cf151, 60, .inl f151)), (qf110, .inl (cf110, 96, .inl f110)), (qf152, .inl (cf152, 60, .inl g152_43)), (qf105, .inl (cf105, 8, .inl f105)), (qf106, .inl (cf106, 8, .inl f106))] := hD
    replace hP : va_P (dC, dI) vwCl [(h0, .inr (13, z43)), (qf153, .inl (cf153, 60, .inl g153_43)), (qf154, .inl (cf154, 3600, .inl g154_43)), (qf150, .inl (cf150, 60, .inl f150)), (qf102, .inl (cf102, 2048, .inl f102)), (qf100, .inl (cf100, 48000, .inl f100)), (qf104, .inl (cf104, 8, .inl f104)), (qf144, .inl (cf144, 2001, .inl g144_43)), (qf145, .inl (cf145, 2001, .inl g145_43)), (qf146, .inl (cf146, 2001, .inl g146_43)), (qf147, .inl (cf147, 20000, .inl g147_43)), (qf151, .inl (cf151, 60, .inl f151)), (qf110, .inl (cf110, 96, .inl f110)), (qf152, .inl (cf152, 60, .inl g152_43)), (qf105, .inl (cf105, 8, .inl f105)), (qf106, .inl (cf106, 8, .inl f106))] H := hP
    replace hsp : jn_vm_fresh__43 nf a1 a2 v98 v138 v139 v141 v142 v149 f153 f154 f150 f102 f100 f104 f144 f145 f146 f147 f151 f110 f152 f105 f106 nS477 fS477 l1_43 l3_43 s0_43 g144_43 g145_43 g146_43 g147_43 g152_43 g153_43 g154_43 x138_43 x139_43 x141_43 x142_43 x149_43 = some (o144, o145, o146, o147, o152, o153, o154, w138, w139, w141, w142, w149) := hsp
    show W _ _ _ _ _ _ _ _ _ _ H locs _ _ _ (F0 m 43 ls [.int s0_43])
    unfold jn_vm_fresh__43 at hsp
    try dsimp only at hsp
    refine lv_istore (lv' := [(4, .int s0_43), (0, .ref h0), (1, .int l1_43), (3, .int l3_43)]) hx hb dX13_fresh__43 hl (by decide) rfl (fun ls hl => ?_)
    refine lv_iload_n hx hb dX13_fresh__45 rfl (lv_at hl 2 rfl) ?_
    refine lv_sipush (v := 187) hx hb dX13_fresh__46 (by decide) ?_
    refine lv_icmp_ne (tgt := 67) hx hb dX13_fresh__49 (by decide) (fun c_6 => ?_) (fun c_6 => ?_)
    · rw [if_neg c_6] at hsp
      refine lv_aload_n hx hb dX13_fresh__67 rfl (lv_at hl 1 rfl) ?_
      refine lv_iload_n hx hb dX13_fresh__68 rfl (lv_at hl 2 rfl) ?_
      refine lv_sipush (v := 188) hx hb dX13_fresh__69 (by decide) ?_
      refine lv_icmp_ne (tgt := 80) hx hb dX13_fresh__72 (by decide) (fun c_7 => ?_) (fun c_7 => ?_)
      · rw [if_neg c_7] at hsp
        refine lv_bipush (v := 100) hx hb dX13_fresh__80 (by decide) ?_
        refine lv_iload hx hb dX13_fresh__82 (lv_at hl 0 rfl) ?_
        refine lv_iadd hx hb dX13_fresh__84 ?_
        exact hj_85 (H, locs, ls, z43, l3_43, (100 + s0_43), g144_43, g145_43, g146_43, g147_43, g152_43, g153_43, g154_43, x138_43, x139_43, x141_43, x142_43, x149_43) ⟨lv_sub hl [1, 3] rfl, hS, hD.sub (ws' := [(h0, .inr (13, z43)), (qf153, .inl (cf153, 60, .inl g153_43)), (qf154, .inl (cf154, 3600, .inl g154_43)), (qf150, .inl (cf150, 60, .inl f150)), (qf102, .inl (cf102, 2048, .inl f102)), (qf100, .inl (cf100, 48000, .inl f100)), (qf104, .inl (cf104, 8, .inl f104)), (qf144, .inl (cf144, 2001, .inl g144_43)), (qf145, .inl (cf145, 2001, .inl g145_43)), (qf146, .inl (cf146, 2001, .inl g146_43)), (qf147, .inl (cf147, 20000, .inl g147_43)), (qf151, .inl (cf151, 60, .inl f151)), (qf110, .inl (cf110, 96, .inl f110)), (qf152, .inl (cf152, 60, .inl g152_43)), (qf105, .inl (cf105, 8, .inl f105)), (qf106, .inl (cf106, 8, .inl f106))]) [0, 1, 2, 3, 4, 5, 6, 7, 8, 9, 10, 11, 12, 13, 14, 15] (by decide) rfl, hP.sub (ws' := [(h0, .inr (13, z43)), (qf153, .inl (cf153, 60, .inl g153_43)), (qf154, .inl (cf154, 3600, .inl g154_43)), (qf150, .inl (cf150, 60, .inl f150)), (qf102, .inl (cf102, 2048, .inl f102)), (qf100, .inl (cf100, 48000, .inl f100)), (qf104, .inl (cf104, 8, .inl f104)), (qf144, .inl (cf144, 2001, .inl g144_43)), (qf145, .inl (cf145, 2001, .inl g145_43)), (qf146, .inl (cf146, 2001, .inl g146_43)), (qf147, .inl (cf147, 20000, .inl g147_43)), (qf151, .inl (cf151, 60, .inl f151)), (qf110, .inl (cf110, 96, .inl f110)), (qf152, .inl (cf152, 60, .inl g152_43)), (qf105, .inl (cf105, 8, .inl f105)), (qf106, .inl (cf106, 8, .inl f106))]) [0, 1, 2, 3, 4, 5, 6, 7, 8, 9, 10, 11, 12, 13, 14, 15] rfl, hfh_43_98, hfh_43_100, hfh_43_102, hfh_43_104, hfh_43_105, hfh_43_106, hfh_43_110, hfh_43_138, hfh_43_139, hfh_43_141, hfh_43_142, hfh_43_144, hfh_43_145, hfh_43_146, hfh_43_147, hfh_43_149, hfh_43_150, hfh_43_151, hfh_43_152, hfh_43_153, hfh_43_154, hlh_43, hrh_43, hsp⟩
      · rw [if_pos c_7] at hsp
        refine lv_bipush (v := 99) hx hb dX13_fresh__75 (by decide) ?_
        refine lv_goto (tgt := 85) hx hb dX13_fresh__77 (by decide) ?_
        exact hj_85 (H, locs, ls, z43, l3_43, 99, g144_43, g145_43, g146_43, g147_43, g152_43, g153_43, g154_43, x138_43, x139_43, x141_43, x142_43, x149_43) ⟨lv_sub hl [1, 3] rfl, hS, hD.sub (ws' := [(h0, .inr (13, z43)), (qf153, .inl (cf153, 60, .inl g153_43)), (qf154, .inl (cf154, 3600, .inl g154_43)), (qf150, .inl (cf150, 60, .inl f150)), (qf102, .inl (cf102, 2048, .inl f102)), (qf100, .inl (cf100, 48000, .inl f100)), (qf104, .inl (cf104, 8, .inl f104)), (qf144, .inl (cf144, 2001, .inl g144_43)), (qf145, .inl (cf145, 2001, .inl g145_43)), (qf146, .inl (cf146, 2001, .inl g146_43)), (qf147, .inl (cf147, 20000, .inl g147_43)), (qf151, .inl (cf151, 60, .inl f151)), (qf110, .inl (cf110, 96, .inl f110)), (qf152, .inl (cf152, 60, .inl g152_43)), (qf105, .inl (cf105, 8, .inl f105)), (qf106, .inl (cf106, 8, .inl f106))]) [0, 1, 2, 3, 4, 5, 6, 7, 8, 9, 10, 11, 12, 13, 14, 15] (by decide) rfl, hP.sub (ws' := [(h0, .inr (13, z43)), (qf153, .inl (cf153, 60, .inl g153_43)), (qf154, .inl (cf154, 3600, .inl g154_43)), (qf150, .inl (cf150, 60, .inl f150)), (qf102, .inl (cf102, 2048, .inl f102)), (qf100, .inl (cf100, 48000, .inl f100)), (qf104, .inl (cf104, 8, .inl f104)), (qf144, .inl (cf144, 2001, .inl g144_43)), (qf145, .inl (cf145, 2001, .inl g145_43)), (qf146, .inl (cf146, 2001, .inl g146_43)), (qf147, .inl (cf147, 20000, .inl g147_43)), (qf151, .inl (cf151, 60, .inl f151)), (qf110, .inl (cf110, 96, .inl f110)), (qf152, .inl (cf152, 60, .inl g152_43)), (qf105, .inl (cf105, 8, .inl f105)), (qf106, .inl (cf106, 8, .inl f106))]) [0, 1, 2, 3, 4, 5, 6, 7, 8, 9, 10, 11, 12, 13, 14, 15] rfl, hfh_43_98, hfh_43_100, hfh_43_102, hfh_43_104, hfh_43_105, hfh_43_106, hfh_43_110, hfh_43_138, hfh_43_139, hfh_43_141, hfh_43_142, hfh_43_144, hfh_43_145, hfh_43_146, hfh_43_147, hfh_43_149, hfh_43_150, hfh_43_151, hfh_43_152, hfh_43_153, hfh_43_154, hlh_43, hrh_43, hsp⟩
    · rw [if_pos c_6] at hsp
      refine lv_aload_n hx hb dX13_fresh__52 rfl (lv_at hl 1 rfl) ?_
      refine lv_iload hx hb dX13_fresh__53 (lv_at hl 0 rfl) ?_
      refine lv_aload_n hx hb dX13_fresh__55 rfl (lv_at hl 1 rfl) ?_
      refine lv_iload hx hb dX13_fresh__56 (lv_at hl 0 rfl) ?_
      obtain ⟨u4_0, hu_4, hsp⟩ := ox_bind hsp
      try dsimp only at hsp
      have hPc := hP.sub (ws' := [(h0, .inr (13, z43)), (qf106, .inl (cf106, 8, .inl f106)), (qf105, .inl (cf105, 8, .inl f105)), (qf102, .inl (cf102, 2048, .inl f102)), (qf100, .inl (cf100, 48000, .inl f100)), (qf104, .inl (cf104, 8, .inl f104))]) [0, 15, 14, 4, 5, 6] rfl
      have hDc := hD.sub (ws' := [(h0, .inr (13, z43)), (qf106, .inl (cf106, 8, .inl f106)), (qf105, .inl (cf105, 8, .inl f105)), (qf102, .inl (cf102, 2048, .inl f102)), (qf100, .inl (cf100, 48000, .inl f100)), (qf104, .inl (cf104, 8, .inl f104))]) [0, 15, 14, 4, 5, 6] (by decide) rfl
      have hKc := hK.sub (tys' := [(cf106, .int), (cf105, .int), (cf102, .int), (cf100, .int), (cf104, .int)]) [14, 13, 3, 4, 5] rfl
      have hFc := va_free (wc := [(h0, .inr (13, z43)), (qf106, .inl (cf106, 8, .inl f106)), (qf105, .inl (cf105, 8, .inl f105)), (qf102, .inl (cf102, 2048, .inl f102)), (qf100, .inl (cf100, 48000, .inl f100)), (qf104, .inl (cf104, 8, .inl f104))]) hD hS hA [0, 15, 14, 4, 5, 6] rfl
      refine va_calli (va_runV (As := [.int s0_43]) (rest := [.int s0_43, .ref h0]) ⟨hx, hb, hml, hown, hts⟩ (vm_fieldsOf l dC dI H.size h0 z43 s0_43 v98 qf100 qf102 qf104 qf105 qf106 cf106 f106 cf105 f105 cf102 f102 cf100 f100 cf104 f104 nS477 fS477 hS477 qS477 tS477 nf u4_0 hlh_43 hfh_43_98 hfh_43_100 hfh_43_102 hfh_43_104 hfh_43_105 hfh_43_106 hu_4) (cwV 1 hts gv_h9_118 rfl rfl rfl (by decide +kernel) ⟨Nat.le_of_ble_eq_true rfl, Nat.le_of_ble_eq_true rfl⟩) ⟨fun a U g mk q => by obtain ⟨q0, q1, qP, qK, qD, qhZWS477, qhZRS477⟩ := q; exact ⟨q0, q1, qP, va_K.moved (u := U) (U := U.calling g mk a) (Vm.Alike.refl U.vm) qK, qD, pz_W.moved (u := U) (U := U.calling g mk a) (Vm.Alike.refl U.vm) qhZWS477, vk_R.same rfl qhZRS477⟩, va_recv hKc hPc (ci := 13) (q0 := 0) rfl rfl, fun U hU hW => ⟨rfl, by rw [hU], by rw [hU]; exact hPc, va_K.moved hW.alike hKc, hDc.weaken (fun _ _ _ _ => trivial), by rw [hU]; exact ((pz_W.moved hW.alike hZWS477).kept hS.2.1).narrow hFc, vk_R.warm hW hZRS477⟩⟩ rfl rfl hl.1 rfl (lv_room (Nat.le_of_ble_eq_true rfl)) dX13_fresh__58 ⟨Nat.le_of_ble_eq_true rfl, Nat.le_of_ble_eq_true rfl⟩) hS (fun q _ h => hFc q h) hFc ?_
      clear hS
      intro r_8 u t H1 locs ht hvm hw hB hz1 hk1 hS
      obtain ⟨z_4, rfl⟩ : ∃ z, z = u := ⟨_, rfl⟩
      obtain ⟨hP1, hK1, hD1⟩ := hB
      rw [ht] at hP1
      have hK1 := va_K.moved hvm.symm hK1
      try dsimp only at hw
      have hPD := va_join (wr := [(qf153, .inl (cf153, 60, .inl g153_43)), (qf154, .inl (cf154, 3600, .inl g154_43)), (qf150, .inl (cf150, 60, .inl f150)), (qf144, .inl (cf144, 2001, .inl g144_43)), (qf145, .inl (cf145, 2001, .inl g145_43)), (qf146, .inl (cf146, 2001, .inl g146_43)), (qf147, .inl (cf147, 20000, .inl g147_43)), (qf151, .inl (cf151, 60, .inl f151)), (qf110, .inl (cf110, 96, .inl f110)), (qf152, .inl (cf152, 60, .inl g152_43))]) (w1 := [(h0, .inr (13, z_4)), (qf106, .inl (cf106, 8, .inl f106)), (qf105, .inl (cf105, 8, .inl f105)), (qf102, .inl (cf102, 2048, .inl f102)), (qf100, .inl (cf100, 48000, .inl f100)), (qf104, .inl (cf104, 8, .inl f104))]) hP hD [0, 15, 14, 4, 5, 6] [1, 2, 3, 7, 8, 9, 10, 11, 12, 13] rfl rfl (by decide) (by decide) hk1 hFc hP1 hD1
      clear hP hD
      obtain ⟨hP, hD⟩ := hPD
      replace hK := (hK.sub (tys' := [(cf153, .int), (cf154, .int), (cf150, .int), (cf144, .int), (cf145, .int), (cf146, .int), (cf147, .int), (cf151, .int), (cf110, .int), (cf152, .int)]) [0, 1, 2, 6, 7, 8, 9, 10, 11, 12] rfl).app hK1
      clear hPc hDc hKc hFc hP1 hK1 hD1 hz1 hk1 ht hvm
      generalize H1 = H at hP hS ⊢
      replace hP : va_P (dC, dI) vwCl [(qf153, .inl (cf153, 60, .inl g153_43)), (qf154, .inl (cf154, 3600, .inl g154_43)), (qf150, .inl (cf150, 60, .inl f150)), (qf144, .inl (cf144, 2001, .inl g144_43)), (qf145, .inl (cf145, 2001, .inl g145_43)), (qf146, .inl (cf146, 2001, .inl g146_43)), (qf147, .inl (cf147, 20000, .inl g147_43)), (qf151, .inl (cf151, 60, .inl f151)), (qf110, .inl (cf110, 96, .inl f110)), (qf152, .inl (cf152, 60, .inl g152_43)), (h0, .inr (13, z_4)), (qf106, .inl (cf106, 8, .inl f106)), (qf105, .inl (cf105, 8, .inl f105)), (qf102, .inl (cf102, 2048, .inl f102)), (qf100, .inl (cf100, 48000, .inl f100)), (qf104, .inl (cf104, 8, .inl f104))] H := hP
      replace hD : va_D A [(qf153, .inl (cf153, 60, .inl g153_43)), (qf154, .inl (cf154, 3600, .inl g154_43)), (qf150, .inl (cf150, 60, .inl f150)), (qf144, .inl (cf144, 2001, .inl g144_43)), (qf145, .inl (cf145, 2001, .inl g145_43)), (qf146, .inl (cf146, 2001, .inl g146_43)), (qf147, .inl (cf147, 20000, .inl g147_43)), (qf151, .inl (cf151, 60, .inl f151)), (qf110, .inl (cf110, 96, .inl f110)), (qf152, .inl (cf152, 60, .inl g152_43)), (h0, .inr (13, z_4)), (qf106, .inl (cf106, 8, .inl f106)), (qf105, .inl (cf105, 8, .inl f105)), (qf102, .inl (cf102, 2048, .inl f102)), (qf100, .inl (cf100, 48000, .inl f100)), (qf104, .inl (cf104, 8, .inl f104))] := hD
      replace hK : va_K (dC, dI) vwCl [(cf153, .int), (cf154, .int), (cf150, .int), (cf144, .int), (cf145, .int), (cf146, .int), (cf147, .int), (cf151, .int), (cf110, .int), (cf152, .int), (cf106, .int), (cf105, .int), (cf102, .int), (cf100, .int), (cf104, .int)] s := hK
      obtain ⟨hwa_4, hln_4, hre_4⟩ := hw
      have hfk_4_98 : z_4[98]? = some (.int v98) := (hre_4 98 ).trans (hfh_43_98)
      have hfk_4_100 : z_4[100]? = some (.ref qf100) := (hre_4 100 ).trans (hfh_43_100)
      have hfk_4_102 : z_4[102]? = some (.ref qf102) := (hre_4 102 ).trans (hfh_43_102)
      have hfk_4_104 : z_4[104]? = some (.ref qf104) := (hre_4 104 ).trans (hfh_43_104)
      have hfk_4_105 : z_4[105]? = some (.ref qf105) := (hre_4 105 ).trans (hfh_43_105)
      have hfk_4_106 : z_4[106]? = some (.ref qf106) := (hre_4 106 ).trans (hfh_43_106)
      have hfk_4_110 : z_4[110]? = some (.ref qf110) := (hre_4 110 ).trans (hfh_43_110)
      have hfk_4_138 : z_4[138]? = some (.int x138_43) := (hre_4 138 ).trans (hfh_43_138)
      have hfk_4_139 : z_4[139]? = some (.int x139_43) := (hre_4 139 ).trans (hfh_43_139)
      have hfk_4_141 : z_4[141]? = some (.int x141_43) := (hre_4 141 ).trans (hfh_43_141)
      have hfk_4_142 : z_4[142]? = some (.int x142_43) := (hre_4 142 ).trans (hfh_43_142)
      have hfk_4_144 : z_4[144]? = some (.ref qf144) := (hre_4 144 ).trans (hfh_43_144)
      have hfk_4_145 : z_4[145]? = some (.ref qf145) := (hre_4 145 ).trans (hfh_43_145)
      have hfk_4_146 : z_4[146]? = some (.ref qf146) := (hre_4 146 ).trans (hfh_43_146)
      have hfk_4_147 : z_4[147]? = some (.ref qf147) := (hre_4 147 ).trans (hfh_43_147)
      have hfk_4_149 : z_4[149]? = some (.int x149_43) := (hre_4 149 ).trans (hfh_43_149)
      have hfk_4_150 : z_4[150]? = some (.ref qf150) := (hre_4 150 ).trans (hfh_43_150)
      have hfk_4_151 : z_4[151]? = some (.ref qf151) := (hre_4 151 ).trans (hfh_43_151)
      have hfk_4_152 : z_4[152]? = some (.ref qf152) := (hre_4 152 ).trans (hfh_43_152)
      have hfk_4_153 : z_4[153]? = some (.ref qf153) := (hre_4 153 ).trans (hfh_43_153)
      have hfk_4_154 : z_4[154]? = some (.ref qf154) := (hre_4 154 ).trans (hfh_43_154)
      have hrq_4 : ∀ j : Nat, j ≠ 138 → j ≠ 139 → j ≠ 141 → j ≠ 142 → j ≠ 149 → z_4[j]? = zs[j]? := fun j g138 g139 g141 g142 g149 => (hre_4 j ).trans (hrh_43 j g138 g139 g141 g142 g149)
      obtain rfl := hwa_4
      obtain ⟨⟨u5_0, g905_1, g905_2, g905_3, g905_4, u5_5, u5_6, u5_7⟩, hu_5, hsp⟩ := ox_bind hsp
      try dsimp only at hsp
      have hPc := hP.sub (ws' := [(h0, .inr (13, z_4)), (qf144, .inl (cf144, 2001, .inl g144_43)), (qf145, .inl (cf145, 2001, .inl g145_43)), (qf146, .inl (cf146, 2001, .inl g146_43)), (qf147, .inl (cf147, 20000, .inl g147_43))]) [10, 3, 4, 5, 6] rfl
      have hDc := hD.sub (ws' := [(h0, .inr (13, z_4)), (qf144, .inl (cf144, 2001, .inl g144_43)), (qf145, .inl (cf145, 2001, .inl g145_43)), (qf146, .inl (cf146, 2001, .inl g146_43)), (qf147, .inl (cf147, 20000, .inl g147_43))]) [10, 3, 4, 5, 6] (by decide) rfl
      have hKc := hK.sub (tys' := [(cf144, .int), (cf145, .int), (cf146, .int), (cf147, .int)]) [3, 4, 5, 6] rfl
      have hFc := va_free (wc := [(h0, .inr (13, z_4)), (qf144, .inl (cf144, 2001, .inl g144_43)), (qf145, .inl (cf145, 2001, .inl g145_43)), (qf146, .inl (cf146, 2001, .inl g146_43)), (qf147, .inl (cf147, 20000, .inl g147_43))]) hD hS hA [10, 3, 4, 5, 6] rfl
      refine va_calli (va_runV (As := [.int s0_43, .int u4_0]) (rest := []) ⟨hx, hb, hml, hown, hts⟩ (vm_make_ l dC dI H.size h0 z_4 s0_43 u4_0 x138_43 x141_43 x142_43 qf144 qf145 qf146 qf147 cf144 g144_43 cf145 g145_43 cf146 g146_43 cf147 g147_43 nf u5_0 g905_1 g905_2 g905_3 g905_4 u5_5 u5_6 u5_7 hln_4 hfk_4_138 hfk_4_141 hfk_4_142 hfk_4_144 hfk_4_145 hfk_4_146 hfk_4_147 hu_5) (cwV 2 hts gv_h9_74 rfl rfl rfl (by decide +kernel) ⟨Nat.le_of_ble_eq_true rfl, Nat.le_of_ble_eq_true rfl⟩) ⟨fun a U g mk q => by obtain ⟨q0, q1, qP, qK, qD⟩ := q; exact ⟨q0, q1, qP, va_K.moved (u := U) (U := U.calling g mk a) (Vm.Alike.refl U.vm) qK, qD⟩, va_recv hKc hPc (ci := 13) (q0 := 0) rfl rfl, fun U hU hW => ⟨rfl, by rw [hU], by rw [hU]; exact hPc, va_K.moved hW.alike hKc, hDc.weaken (fun _ _ _ _ => trivial)⟩⟩ rfl rfl hl.1 rfl (lv_room (Nat.le_of_ble_eq_true rfl)) dX13_fresh__61 ⟨Nat.le_of_ble_eq_true rfl, Nat.le_of_ble_eq_true rfl⟩) hS (fun q _ h => hFc q h) hFc ?_
      clear hS
      intro r_9 u t H1 locs ht hvm hw hB hz1 hk1 hS
      obtain ⟨z_5, rfl⟩ : ∃ z, z = u := ⟨_, rfl⟩
      obtain ⟨hP1, hK1, hD1⟩ := hB
      rw [ht] at hP1
      have hK1 := va_K.moved hvm.symm hK1
      try dsimp only at hw
      have hPD := va_join (wr := [(qf153, .inl (cf153, 60, .inl g153_43)), (qf154, .inl (cf154, 3600, .inl g154_43)), (qf150, .inl (cf150, 60, .inl f150)), (qf151, .inl (cf151, 60, .inl f151)), (qf110, .inl (cf110, 96, .inl f110)), (qf152, .inl (cf152, 60, .inl g152_43)), (qf106, .inl (cf106, 8, .inl f106)), (qf105, .inl (cf105, 8, .inl f105)), (qf102, .inl (cf102, 2048, .inl f102)), (qf100, .inl (cf100, 48000, .inl f100)), (qf104, .inl (cf104, 8, .inl f104))]) (w1 := [(h0, .inr (13, z_5)), (qf144, .inl (cf144, 2001, .inl g905_1)), (qf145, .inl (cf145, 2001, .inl g905_2)), (qf146, .inl (cf146, 2001, .inl g905_3)), (qf147, .inl (cf147, 20000, .inl g905_4))]) hP hD [10, 3, 4, 5, 6] [0, 1, 2, 7, 8, 9, 11, 12, 13, 14, 15] rfl rfl (by decide) (by decide) hk1 hFc hP1 hD1
      clear hP hD
      obtain ⟨hP, hD⟩ := hPD
      replace hK := (hK.sub (tys' := [(cf153, .int), (cf154, .int), (cf150, .int), (cf151, .int), (cf110, .int), (cf152, .int), (cf106, .int), (cf105, .int), (cf102, .int), (cf100, .int), (cf104, .int)]) [0, 1, 2, 7, 8, 9, 10, 11, 12, 13, 14] rfl).app hK1
      clear hPc hDc hKc hFc hP1 hK1 hD1 hz1 hk1 ht hvm
      generalize H1 = H at hP hS ⊢
      replace hP : va_P (dC, dI) vwCl [(qf153, .inl (cf153, 60, .inl g153_43)), (qf154, .inl (cf154, 3600, .inl g154_43)), (qf150, .inl (cf150, 60, .inl f150)), (qf151, .inl (cf151, 60, .inl f151)), (qf110, .inl (cf110, 96, .inl f110)), (qf152, .inl (cf152, 60, .inl g152_43)), (qf106, .inl (cf106, 8, .inl f106)), (qf105, .inl (cf105, 8, .inl f105)), (qf102, .inl (cf102, 2048, .inl f102)), (qf100, .inl (cf100, 48000, .inl f100)), (qf104, .inl (cf104, 8, .inl f104)), (h0, .inr (13, z_5)), (qf144, .inl (cf144, 2001, .inl g905_1)), (qf145, .inl (cf145, 2001, .inl g905_2)), (qf146, .inl (cf146, 2001, .inl g905_3)), (qf147, .inl (cf147, 20000, .inl g905_4))] H := hP
      replace hD : va_D A [(qf153, .inl (cf153, 60, .inl g153_43)), (qf154, .inl (cf154, 3600, .inl g154_43)), (qf150, .inl (cf150, 60, .inl f150)), (qf151, .inl (cf151, 60, .inl f151)), (qf110, .inl (cf110, 96, .inl f110)), (qf152, .inl (cf152, 60, .inl g152_43)), (qf106, .inl (cf106, 8, .inl f106)), (qf105, .inl (cf105, 8, .inl f105)), (qf102, .inl (cf102, 2048, .inl f102)), (qf100, .inl (cf100, 48000, .inl f100)), (qf104, .inl (cf104, 8, .inl f104)), (h0, .inr (13, z_5)), (qf144, .inl (cf144, 2001, .inl g905_1)), (qf145, .inl (cf145, 2001, .inl g905_2)), (qf146, .inl (cf146, 2001, .inl g905_3)), (qf147, .inl (cf147, 20000, .inl g905_4))] := hD
      replace hK : va_K (dC, dI) vwCl [(cf153, .int), (cf154, .int), (cf150, .int), (cf151, .int), (cf110, .int), (cf152, .int), (cf106, .int), (cf105, .int), (cf102, .int), (cf100, .int), (cf104, .int), (cf144, .int), (cf145, .int), (cf146, .int), (cf147, .int)] s := hK
      obtain ⟨hwa_5, hln_5, hre_5, hch_5_138, hch_5_141, hch_5_142⟩ := hw
      have hfk_5_98 : z_5[98]? = some (.int v98) := (hre_5 98 (by decide) (by decide) (by decide)).trans (hfk_4_98)
      have hfk_5_100 : z_5[100]? = some (.ref qf100) := (hre_5 100 (by decide) (by decide) (by decide)).trans (hfk_4_100)
      have hfk_5_102 : z_5[102]? = some (.ref qf102) := (hre_5 102 (by decide) (by decide) (by decide)).trans (hfk_4_102)
      have hfk_5_104 : z_5[104]? = some (.ref qf104) := (hre_5 104 (by decide) (by decide) (by decide)).trans (hfk_4_104)
      have hfk_5_105 : z_5[105]? = some (.ref qf105) := (hre_5 105 (by decide) (by decide) (by decide)).trans (hfk_4_105)
      have hfk_5_106 : z_5[106]? = some (.ref qf106) := (hre_5 106 (by decide) (by decide) (by decide)).trans (hfk_4_106)
      have hfk_5_110 : z_5[110]? = some (.ref qf110) := (hre_5 110 (by decide) (by decide) (by decide)).trans (hfk_4_110)
      have hfk_5_139 : z_5[139]? = some (.int x139_43) := (hre_5 139 (by decide) (by decide) (by decide)).trans (hfk_4_139)
      have hfk_5_144 : z_5[144]? = some (.ref qf144) := (hre_5 144 (by decide) (by decide) (by decide)).trans (hfk_4_144)
      have hfk_5_145 : z_5[145]? = some (.ref qf145) := (hre_5 145 (by decide) (by decide) (by decide)).trans (hfk_4_145)
      have hfk_5_146 : z_5[146]? = some (.ref qf146) := (hre_5 146 (by decide) (by decide) (by decide)).trans (hfk_4_146)
      have hfk_5_147 : z_5[147]? = some (.ref qf147) := (hre_5 147 (by decide) (by decide) (by decide)).trans (hfk_4_147)
      have hfk_5_149 : z_5[149]? = some (.int x149_43) := (hre_5 149 (by decide) (by decide) (by decide)).trans (hfk_4_149)
      have hfk_5_150 : z_5[150]? = some (.ref qf150) := (hre_5 150 (by decide) (by decide) (by decide)).trans (hfk_4_150)
      have hfk_5_151 : z_5[151]? = some (.ref qf151) := (hre_5 151 (by decide) (by decide) (by decide)).trans (hfk_4_151)
      have hfk_5_152 : z_5[152]? = some (.ref qf152) := (hre_5 152 (by decide) (by decide) (by decide)).trans (hfk_4_152)
      have hfk_5_153 : z_5[153]? = some (.ref qf153) := (hre_5 153 (by decide) (by decide) (by decide)).trans (hfk_4_153)
      have hfk_5_154 : z_5[154]? = some (.ref qf154) := (hre_5 154 (by decide) (by decide) (by decide)).trans (hfk_4_154)
      have hrq_5 : ∀ j : Nat, j ≠ 138 → j ≠ 139 → j ≠ 141 → j ≠ 142 → j ≠ 149 → z_5[j]? = zs[j]? := fun j g138 g139 g141 g142 g149 => (hre_5 j g138 g141 g142).trans (hrq_4 j g138 g139 g141 g142 g149)
      obtain rfl := hwa_5
      refine lv_goto (tgt := 89) hx hb dX13_fresh__64 (by decide) ?_
      exact hj_89 (H, locs, ls, z_5, u5_0, g905_1, g905_2, g905_3, g905_4, g152_43, g153_43, g154_43, u5_5, x139_43, u5_6, u5_7, x149_43) ⟨lv_sub hl [1] rfl, hS, hD.sub (ws' := [(h0, .inr (13, z_5)), (qf153, .inl (cf153, 60, .inl g153_43)), (qf154, .inl (cf154, 3600, .inl g154_43)), (qf150, .inl (cf150, 60, .inl f150)), (qf102, .inl (cf102, 2048, .inl f102)), (qf100, .inl (cf100, 48000, .inl f100)), (qf104, .inl (cf104, 8, .inl f104)), (qf144, .inl (cf144, 2001, .inl g905_1)), (qf145, .inl (cf145, 2001, .inl g905_2)), (qf146, .inl (cf146, 2001, .inl g905_3)), (qf147, .inl (cf147, 20000, .inl g905_4)), (qf151, .inl (cf151, 60, .inl f151)), (qf110, .inl (cf110, 96, .inl f110)), (qf152, .inl (cf152, 60, .inl g152_43)), (qf105, .inl (cf105, 8, .inl f105)), (qf106, .inl (cf106, 8, .inl f106))]) [11, 0, 1, 2, 8, 9, 10, 12, 13, 14, 15, 3, 4, 5, 7, 6] (by decide) rfl, hP.sub (ws' := [(h0, .inr (13, z_5)), (qf153, .inl (cf153, 60, .inl g153_43)), (qf154, .inl (cf154, 3600, .inl g154_43)), (qf150, .inl (cf150, 60, .inl f150)), (qf102, .inl (cf102, 2048, .inl f102)), (qf100, .inl (cf100, 48000, .inl f100)), (qf104, .inl (cf104, 8, .inl f104)), (qf144, .inl (cf144, 2001, .inl g905_1)), (qf145, .inl (cf145, 2001, .inl g905_2)), (qf146, .inl (cf146, 2001, .inl g905_3)), (qf147, .inl (cf147, 20000, .inl g905_4)), (qf151, .inl (cf151, 60, .inl f151)), (qf110, .inl (cf110, 96, .inl f110)), (qf152, .inl (cf152, 60, .inl g152_43)), (qf105, .inl (cf105, 8, .inl f105)), (qf106, .inl (cf106, 8, .inl f106))]) [11, 0, 1, 2, 8, 9, 10, 12, 13, 14, 15, 3, 4, 5, 7, 6] rfl, hfk_5_98, hfk_5_100, hfk_5_102, hfk_5_104, hfk_5_105, hfk_5_106, hfk_5_110, hch_5_138, hfk_5_139, hch_5_141, hch_5_142, hfk_5_144, hfk_5_145, hfk_5_146, hfk_5_147, hfk_5_149, hfk_5_150, hfk_5_151, hfk_5_152, hfk_5_153, hfk_5_154, hln_5, hrq_5, hsp⟩
  intro hj_43
  refine jn_use (α := Heap × List Loc × Array Slot × List Value × Int32 × Int32 × Int32 × (Nat → Int32) × (Nat → Int32) × (Nat → Int32) × (Nat → Int32) × (Nat → Int32) × (Nat → Int32) × (Nat → Int32) × Int32 × Int32 × Int32 × Int32 × Int32) (fun x9 => x9.1) (fun x9 => x9.2.1) (fun x9 => F0 m 15 x9.2.2.1 [.int (x9.2.2.2.2.2.2.1)]) (fun x9 => match x9 with | (H, locs, ls, z15, l1_15, l2_15, s0_15, g144_15, g145_15, g146_15, g147_15, g152_15, g153_15, g154_15, x138_15, x139_15, x141_15, x142_15, x149_15) => lv_has ls 6 [(0, .ref h0), (1, .int l1_15), (2, .int l2_15)] ∧ va_S A s.heap H locs ∧ va_D A [(h0, .inr (13, z15)), (qf153, .inl (cf153, 60, .inl g153_15)), (qf154, .inl (cf154, 3600, .inl g154_15)), (qf150, .inl (cf150, 60, .inl f150)), (qf102, .inl (cf102, 2048, .inl f102)), (qf100, .inl (cf100, 48000, .inl f100)), (qf104, .inl (cf104, 8, .inl f104)), (qf144, .inl (cf144, 2001, .inl g144_15)), (qf145, .inl (cf145, 2001, .inl g145_15)), (qf146, .inl (cf146, 2001, .inl g146_15)), (qf147, .inl (cf147, 20000, .inl g147_15)), (qf151, .inl (cf151, 60, .inl f151)), (qf110, .inl (cf110, 96, .inl f110)), (qf152, .inl (cf152, 60, .inl g152_15)), (qf105, .inl (cf105, 8, .inl f105)), (qf106, .inl (cf106, 8, .inl f106))] ∧ va_P (dC, dI) vwCl [(h0, .inr (13, z15)), (qf153, .inl (cf153, 60, .inl g153_15)), (qf154, .inl (cf154, 3600, .inl g154_15)), (qf150, .inl (cf150, 60, .inl f150)), (qf102, .inl (cf102, 2048, .inl f102)), (qf100, .inl (cf100, 48000, .inl f100)), (qf104, .inl (cf104, 8, .inl f104)), (qf144, .inl (cf144, 2001, .inl g144_15)), (qf145, .inl (cf145, 2001, .inl g145_15)), (qf146, .inl (cf146, 2001, .inl g146_15)), (qf147, .inl (cf147, 20000, .inl g147_15)), (qf151, .inl (cf151, 60, .inl f151)), (qf110, .inl (cf110, 96, .inl f110)), (qf152, .inl (cf152, 60, .inl g152_15)), (qf105, .inl (cf105, 8, .inl f105)), (qf106, .inl (cf106, 8, .inl f106))] H ∧ z15[98]? = some (.int v98) ∧ z15[100]? = some (.ref qf100) ∧ z15[102]? = some (.ref qf102) ∧ z15[104]? = some (.ref qf104) ∧ z15[105]? = some (.ref qf105) ∧ z15[106]? = some (.ref qf106) ∧ z15[110]? = some (.ref qf110) ∧ z15[138]? = some (.int x138_15) ∧ z15[139]? = some (.int x139_15) ∧ z15[141]? = some (.int x141_15) ∧ z15[142]? = some (.int x142_15) ∧ z15[144]? = some (.ref qf144) ∧ z15[145]? = some (.ref qf145) ∧ z15[146]? = some (.ref qf146) ∧ z15[147]? = some (.ref qf147) ∧ z15[149]? = some (.int x149_15) ∧ z15[150]? = some (.ref qf150) ∧ z15[151]? = some (.ref qf151) ∧ z15[152]? = some (.ref qf152) ∧ z15[153]? = some (.ref qf153) ∧ z15[154]? = some (.ref qf154) ∧ z15.length = 155 ∧ (∀ j : Nat, j ≠ 138 → j ≠ 139 → j ≠ 141 → j ≠ 142 → j ≠ 149 → z15[j]? = zs[j]?) ∧ jn_vm_fresh__15 nf a1 a2 v98 v138 v139 v141 v142 v149 f153 f154 f150 f102 f100 f104 f144 f145 f146 f147 f151 f110 f152 f105 f106 nS477 fS477 l1_15 l2_15 s0_15 g144_15 g145_15 g146_15 g147_15 g152_15 g153_15 g154_15 x138_15 x139_15 x141_15 x142_15 x149_15 = some (o144, o145, o146, o147, o152, o153, o154, w138, w139, w141, w142, w149)) ?_ ?_
  · intro x9 hJ9
    obtain ⟨H, locs, ls, z15, l1_15, l2_15, s0_15, g144_15, g145_15, g146_15, g147_15, g152_15, g153_15, g154_15, x138_15, x139_15, x141_15, x142_15, x149_15⟩ := x9
    obtain ⟨hl, hS, hD, hP, hfh_15_98, hfh_15_100, hfh_15_102, hfh_15_104, hfh_15_105, hfh_15_106, hfh_15_110, hfh_15_138, hfh_15_139, hfh_15_141, hfh_15_142, hfh_15_144, hfh_15_145, hfh_15_146, hfh_15_147, hfh_15_149, hfh_15_150, hfh_15_151, hfh_15_152, hfh_15_153, hfh_15_154, hlh_15, hrh_15, hsp⟩ := hJ9
    replace hl : lv_has ls 6 [(0, .ref h0), (1, .int l1_15), (2, .int l2_15)] := hl
    replace hS : va_S A s.heap H locs := hS
    replace hD : va_D A [(h0, .inr (13, z15)), (qf153, .inl (cf153, 60, .inl g153_15)), (qf154, .inl (cf154, 3600, .inl g154_15)), (qf150, .inl (cf150, 60, .inl f150)), (qf102, .inl (cf102, 2048, .inl f102)), (qf100, .inl (cf100, 48000, .inl f100)), (qf104, .inl (cf104, 8, .inl f104)), (qf144, .inl (cf144, 2001, .inl g144_15)), (qf145, .inl (cf145, 2001, .inl g145_15)), (qf146, .inl (cf146, 2001, .inl g146_15)), (qf147, .inl (cf147, 20000, .inl g147_15)), (qf151, .inl (cf151, 60, .inl f151)), (qf110, .inl (cf110, 96, .inl f110)), (qf152, .inl (cf152, 60, .inl g152_15)), (qf105, .inl (cf105, 8, .inl f105)), (qf106, .inl (cf106, 8, .inl f106))] := hD
    replace hP : va_P (dC, dI) vwCl [(h0, .inr (13, z15)), (qf153, .inl (cf153, 60, .inl g153_15)), (qf154, .inl (cf154, 3600, .inl g154_15)), (qf150, .inl (cf150, 60, .inl f150)), (qf102, .inl (cf102, 2048, .inl f102)), (qf100, .inl (cf100, 48000, .inl f100)), (qf104, .inl (cf104, 8, .inl f104)), (qf144, .inl (cf144, 2001, .inl g144_15)), (qf145, .inl (cf145, 2001, .inl g145_15)), (qf146, .inl (cf146, 2001, .inl g146_15)), (qf147, .inl (cf147, 20000, .inl g147_15)), (qf151, .inl (cf151, 60, .inl f151)), (qf110, .inl (cf110, 96, .inl f110)), (qf152, .inl (cf152, 60, .inl g152_15)), (qf105, .inl (cf105, 8, .inl f105)), (qf106, .inl (cf106, 8, .inl f106))] H := hP
    replace hsp : jn_vm_fresh__15 nf a1 a2 v98 v138 v139 v141 v142 v149 f153 f154 f150 f102 f100 f104 f144 f145 f146 f147 f151 f110 f152 f105 f106 nS477 fS477 l1_15 l2_15 s0_15 g144_15 g145_15 g146_15 g147_15 g152_15 g153_15 g154_15 x138_15 x139_15 x141_15 x142_15 x149_15 = some (o144, o145, o146, o147, o152, o153, o154, w138, w139, w141, w142, w149) := hsp
    show W _ _ _ _ _ _ _ _ _ _ H locs _ _ _ (F0 m 15 ls [.int s0_15])
    unfold jn_vm_fresh__15 at hsp
    try dsimp only at hsp
    refine lv_istore_n (lv' := [(3, .int s0_15), (0, .ref h0), (1, .int l1_15), (2, .int l2_15)]) hx hb dX13_fresh__15 rfl hl (by decide) rfl (fun ls hl => ?_)
    refine lv_iload_n hx hb dX13_fresh__16 rfl (lv_at hl 0 rfl) ?_
    refine lv_if_ge (tgt := 27) hx hb dX13_fresh__17 (by decide) (fun c_3 => ?_) (fun c_3 => ?_)
    · rw [if_pos c_3] at hsp
      refine lv_iload_n hx hb dX13_fresh__27 rfl (lv_at hl 2 rfl) ?_
      refine lv_sipush (v := 188) hx hb dX13_fresh__28 (by decide) ?_
      refine lv_icmp_ne (tgt := 38) hx hb dX13_fresh__31 (by decide) (fun c_4 => ?_) (fun c_4 => ?_)
      · rw [if_neg c_4] at hsp
        refine lv_aload_n hx hb dX13_fresh__38 rfl (lv_at hl 1 rfl) ?_
        refine lv_iload_n hx hb dX13_fresh__39 rfl (lv_at hl 3 rfl) ?_
        obtain ⟨u2_0, hu_2, hsp⟩ := ox_bind hsp
        try dsimp only at hsp
        have hPc := hP.sub (ws' := [(h0, .inr (13, z15)), (qf150, .inl (cf150, 60, .inl f150)), (qf102, .inl (cf102, 2048, .inl f102)), (qf100, .inl (cf100, 48000, .inl f100)), (qf104, .inl (cf104, 8, .inl f104))]) [0, 3, 4, 5, 6] rfl
        have hDc := hD.sub (ws' := [(h0, .inr (13, z15)), (qf150, .inl (cf150, 60, .inl f150)), (qf102, .inl (cf102, 2048, .inl f102)), (qf100, .inl (cf100, 48000, .inl f100)), (qf104, .inl (cf104, 8, .inl f104))]) [0, 3, 4, 5, 6] (by decide) rfl
        have hKc := hK.sub (tys' := [(cf150, .int), (cf102, .int), (cf100, .int), (cf104, .int)]) [2, 3, 4, 5] rfl
        have hFc := va_free (wc := [(h0, .inr (13, z15)), (qf150, .inl (cf150, 60, .inl f150)), (qf102, .inl (cf102, 2048, .inl f102)), (qf100, .inl (cf100, 48000, .inl f100)), (qf104, .inl (cf104, 8, .inl f104))]) hD hS hA [0, 3, 4, 5, 6] rfl
        refine va_calli (va_runV (As := [.int l2_15]) (rest := []) ⟨hx, hb, hml, hown, hts⟩ (vm_classIn l dC dI H.size h0 z15 l2_15 v98 qf100 qf102 qf104 x149_15 qf150 cf150 f150 cf102 f102 cf100 f100 cf104 f104 nS477 fS477 hS477 qS477 tS477 nf u2_0 hlh_15 hfh_15_98 hfh_15_100 hfh_15_102 hfh_15_104 hfh_15_149 hfh_15_150 hu_2) (cwV 1 hts gv_h9_117 rfl rfl rfl (by decide +kernel) ⟨Nat.le_of_ble_eq_true rfl, Nat.le_of_ble_eq_true rfl⟩) ⟨fun a U g mk q => by obtain ⟨q0, q1, qP, qK, qD, qhZWS477, qhZRS477⟩ := q; exact ⟨q0, q1, qP, va_K.moved (u := U) (U := U.calling g mk a) (Vm.Alike.refl U.vm) qK, qD, pz_W.moved (u := U) (U := U.calling g mk a) (Vm.Alike.refl U.vm) qhZWS477, vk_R.same rfl qhZRS477⟩, va_recv hKc hPc (ci := 13) (q0 := 0) rfl rfl, fun U hU hW => ⟨rfl, by rw [hU], by rw [hU]; exact hPc, va_K.moved hW.alike hKc, hDc.weaken (fun _ _ _ _ => trivial), by rw [hU]; exact ((pz_W.moved hW.alike hZWS477).kept hS.2.1).narrow hFc, vk_R.warm hW hZRS477⟩⟩ rfl rfl hl.1 rfl (lv_room (Nat.le_of_ble_eq_true rfl)) dX13_fresh__40 ⟨Nat.le_of_ble_eq_true rfl, Nat.le_of_ble_eq_true rfl⟩) hS (fun q _ h => hFc q h) hFc ?_
        clear hS
        intro r_5 u t H1 locs ht hvm hw hB hz1 hk1 hS
        obtain ⟨z_2, rfl⟩ : ∃ z, z = u := ⟨_, rfl⟩
        obtain ⟨hP1, hK1, hD1⟩ := hB
        rw [ht] at hP1
        have hK1 := va_K.moved hvm.symm hK1
        try dsimp only at hw
        have hPD := va_join (wr := [(qf153, .inl (cf153, 60, .inl g153_15)), (qf154, .inl (cf154, 3600, .inl g154_15)), (qf144, .inl (cf144, 2001, .inl g144_15)), (qf145, .inl (cf145, 2001, .inl g145_15)), (qf146, .inl (cf146, 2001, .inl g146_15)), (qf147, .inl (cf147, 20000, .inl g147_15)), (qf151, .inl (cf151, 60, .inl f151)), (qf110, .inl (cf110, 96, .inl f110)), (qf152, .inl (cf152, 60, .inl g152_15)), (qf105, .inl (cf105, 8, .inl f105)), (qf106, .inl (cf106, 8, .inl f106))]) (w1 := [(h0, .inr (13, z_2)), (qf150, .inl (cf150, 60, .inl f150)), (qf102, .inl (cf102, 2048, .inl f102)), (qf100, .inl (cf100, 48000, .inl f100)), (qf104, .inl (cf104, 8, .inl f104))]) hP hD [0, 3, 4, 5, 6] [1, 2, 7, 8, 9, 10, 11, 12, 13, 14, 15] rfl rfl (by decide) (by decide) hk1 hFc hP1 hD1
        clear hP hD
        obtain ⟨hP, hD⟩ := hPD
        replace hK := (hK.sub (tys' := [(cf153, .int), (cf154, .int), (cf144, .int), (cf145, .int), (cf146, .int), (cf147, .int), (cf151, .int), (cf110, .int), (cf152, .int), (cf105, .int), (cf106, .int)]) [0, 1, 6, 7, 8, 9, 10, 11, 12, 13, 14] rfl).app hK1
        clear hPc hDc hKc hFc hP1 hK1 hD1 hz1 hk1 ht hvm
        generalize H1 = H at hP hS ⊢
        replace hP : va_P (dC, dI) vwCl [(qf153, .inl (cf153, 60, .inl g153_15)), (qf154, .inl (cf154, 3600, .inl g154_15)), (qf144, .inl (cf144, 2001, .inl g144_15)), (qf145, .inl (cf145, 2001, .inl g145_15)), (qf146, .inl (cf146, 2001, .inl g146_15)), (qf147, .inl (cf147, 20000, .inl g147_15)), (qf151, .inl (cf151, 60, .inl f151)), (qf110, .inl (cf110, 96, .inl f110)), (qf152, .inl (cf152, 60, .inl g152_15)), (qf105, .inl (cf105, 8, .inl f105)), (qf106, .inl (cf106, 8, .inl f106)), (h0, .inr (13, z_2)), (qf150, .inl (cf150, 60, .inl f150)), (qf102, .inl (cf102, 2048, .inl f102)), (qf100, .inl (cf100, 48000, .inl f100)), (qf104, .inl (cf104, 8, .inl f104))] H := hP
        replace hD : va_D A [(qf153, .inl (cf153, 60, .inl g153_15)), (qf154, .inl (cf154, 3600, .inl g154_15)), (qf144, .inl (cf144, 2001, .inl g144_15)), (qf145, .inl (cf145, 2001, .inl g145_15)), (qf146, .inl (cf146, 2001, .inl g146_15)), (qf147, .inl (cf147, 20000, .inl g147_15)), (qf151, .inl (cf151, 60, .inl f151)), (qf110, .inl (cf110, 96, .inl f110)), (qf152, .inl (cf152, 60, .inl g152_15)), (qf105, .inl (cf105, 8, .inl f105)), (qf106, .inl (cf106, 8, .inl f106)), (h0, .inr (13, z_2)), (qf150, .inl (cf150, 60, .inl f150)), (qf102, .inl (cf102, 2048, .inl f102)), (qf100, .inl (cf100, 48000, .inl f100)), (qf104, .inl (cf104, 8, .inl f104))] := hD
        replace hK : va_K (dC, dI) vwCl [(cf153, .int), (cf154, .int), (cf144, .int), (cf145, .int), (cf146, .int), (cf147, .int), (cf151, .int), (cf110, .int), (cf152, .int), (cf105, .int), (cf106, .int), (cf150, .int), (cf102, .int), (cf100, .int), (cf104, .int)] s := hK
        obtain ⟨hwa_2, hln_2, hre_2⟩ := hw
        have hfk_2_98 : z_2[98]? = some (.int v98) := (hre_2 98 ).trans (hfh_15_98)
        have hfk_2_100 : z_2[100]? = some (.ref qf100) := (hre_2 100 ).trans (hfh_15_100)
        have hfk_2_102 : z_2[102]? = some (.ref qf102) := (hre_2 102 ).trans (hfh_15_102)
        have hfk_2_104 : z_2[104]? = some (.ref qf104) := (hre_2 104 ).trans (hfh_15_104)
        have hfk_2_105 : z_2[105]? = some (.ref qf105) := (hre_2 105 ).trans (hfh_15_105)
        have hfk_2_106 : z_2[106]? = some (.ref qf106) := (hre_2 106 ).trans (hfh_15_106)
        have hfk_2_110 : z_2[110]? = some (.ref qf110) := (hre_2 110 ).trans (hfh_15_110)
        have hfk_2_138 : z_2[138]? = some (.int x138_15) := (hre_2 138 ).trans (hfh_15_138)
        have hfk_2_139 : z_2[139]? = some (.int x139_15) := (hre_2 139 ).trans (hfh_15_139)
        have hfk_2_141 : z_2[141]? = some (.int x141_15) := (hre_2 141 ).trans (hfh_15_141)
        have hfk_2_142 : z_2[142]? = some (.int x142_15) := (hre_2 142 ).trans (hfh_15_142)
        have hfk_2_144 : z_2[144]? = some (.ref qf144) := (hre_2 144 ).trans (hfh_15_144)
        have hfk_2_145 : z_2[145]? = some (.ref qf145) := (hre_2 145 ).trans (hfh_15_145)
        have hfk_2_146 : z_2[146]? = some (.ref qf146) := (hre_2 146 ).trans (hfh_15_146)
        have hfk_2_147 : z_2[147]? = some (.ref qf147) := (hre_2 147 ).trans (hfh_15_147)
        have hfk_2_149 : z_2[149]? = some (.int x149_15) := (hre_2 149 ).trans (hfh_15_149)
        have hfk_2_150 : z_2[150]? = some (.ref qf150) := (hre_2 150 ).trans (hfh_15_150)
        have hfk_2_151 : z_2[151]? = some (.ref qf151) := (hre_2 151 ).trans (hfh_15_151)
        have hfk_2_152 : z_2[152]? = some (.ref qf152) := (hre_2 152 ).trans (hfh_15_152)
        have hfk_2_153 : z_2[153]? = some (.ref qf153) := (hre_2 153 ).trans (hfh_15_153)
        have hfk_2_154 : z_2[154]? = some (.ref qf154) := (hre_2 154 ).trans (hfh_15_154)
        have hrq_2 : ∀ j : Nat, j ≠ 138 → j ≠ 139 → j ≠ 141 → j ≠ 142 → j ≠ 149 → z_2[j]? = zs[j]? := fun j g138 g139 g141 g142 g149 => (hre_2 j ).trans (hrh_15 j g138 g139 g141 g142 g149)
        obtain rfl := hwa_2
        exact hj_43 (H, locs, ls, z_2, l1_15, s0_15, u2_0, g144_15, g145_15, g146_15, g147_15, g152_15, g153_15, g154_15, x138_15, x139_15, x141_15, x142_15, x149_15) ⟨lv_sub hl [1, 2, 0] rfl, hS, hD.sub (ws' := [(h0, .inr (13, z_2)), (qf153, .inl (cf153, 60, .inl g153_15)), (qf154, .inl (cf154, 3600, .inl g154_15)), (qf150, .inl (cf150, 60, .inl f150)), (qf102, .inl (cf102, 2048, .inl f102)), (qf100, .inl (cf100, 48000, .inl f100)), (qf104, .inl (cf104, 8, .inl f104)), (qf144, .inl (cf144, 2001, .inl g144_15)), (qf145, .inl (cf145, 2001, .inl g145_15)), (qf146, .inl (cf146, 2001, .inl g146_15)), (qf147, .inl (cf147, 20000, .inl g147_15)), (qf151, .inl (cf151, 60, .inl f151)), (qf110, .inl (cf110, 96, .inl f110)), (qf152, .inl (cf152, 60, .inl g152_15)), (qf105, .inl (cf105, 8, .inl f105)), (qf106, .inl (cf106, 8, .inl f106))]) [11, 0, 1, 12, 13, 14, 15, 2, 3, 4, 5, 6, 7, 8, 9, 10] (by decide) rfl, hP.sub (ws' := [(h0, .inr (13, z_2)), (qf153, .inl (cf153, 60, .inl g153_15)), (qf154, .inl (cf154, 3600, .inl g154_15)), (qf150, .inl (cf150, 60, .inl f150)), (qf102, .inl (cf102, 2048, .inl f102)), (qf100, .inl (cf100, 48000, .inl f100)), (qf104, .inl (cf104, 8, .inl f104)), (qf144, .inl (cf144, 2001, .inl g144_15)), (qf145, .inl (cf145, 2001, .inl g145_15)), (qf146, .inl (cf146, 2001, .inl g146_15)), (qf147, .inl (cf147, 20000, .inl g147_15)), (qf151, .inl (cf151, 60, .inl f151)), (qf110, .inl (cf110, 96, .inl f110)), (qf152, .inl (cf152, 60, .inl g152_15)), (qf105, .inl (cf105, 8, .inl f105)), (qf106, .inl (cf106, 8, .inl f106))]) [11, 0, 1, 12, 13, 14, 15, 2, 3, 4, 5, 6, 7, 8, 9, 10] rfl, hfk_2_98, hfk_2_100, hfk_2_102, hfk_2_104, hfk_2_105, hfk_2_106, hfk_2_110, hfk_2_138, hfk_2_139, hfk_2_141, hfk_2_142, hfk_2_144, hfk_2_145, hfk_2_146, hfk_2_147, hfk_2_149, hfk_2_150, hfk_2_151, hfk_2_152, hfk_2_153, hfk_2_154, hln_2, hrq_2, hsp⟩
      · rw [if_pos c_4] at hsp
        refine lv_iconst (v := 0) hx hb dX13_fresh__34 (by decide) ?_
        refine lv_goto (tgt := 43) hx hb dX13_fresh__35 (by decide) ?_
        exact hj_43 (H, locs, ls, z15, l1_15, s0_15, 0, g144_15, g145_15, g146_15, g147_15, g152_15, g153_15, g154_15, x138_15, x139_15, x141_15, x142_15, x149_15) ⟨lv_sub hl [1, 2, 0] rfl, hS, hD.sub (ws' := [(h0, .inr (13, z15)), (qf153, .inl (cf153, 60, .inl g153_15)), (qf154, .inl (cf154, 3600, .inl g154_15)), (qf150, .inl (cf150, 60, .inl f150)), (qf102, .inl (cf102, 2048, .inl f102)), (qf100, .inl (cf100, 48000, .inl f100)), (qf104, .inl (cf104, 8, .inl f104)), (qf144, .inl (cf144, 2001, .inl g144_15)), (qf145, .inl (cf145, 2001, .inl g145_15)), (qf146, .inl (cf146, 2001, .inl g146_15)), (qf147, .inl (cf147, 20000, .inl g147_15)), (qf151, .inl (cf151, 60, .inl f151)), (qf110, .inl (cf110, 96, .inl f110)), (qf152, .inl (cf152, 60, .inl g152_15)), (qf105, .inl (cf105, 8, .inl f105)), (qf106, .inl (cf106, 8, .inl f106))]) [0, 1, 2, 3, 4, 5, 6, 7, 8, 9, 10, 11, 12, 13, 14, 15] (by decide) rfl, hP.sub (ws' := [(h0, .inr (13, z15)), (qf153, .inl (cf153, 60, .inl g153_15)), (qf154, .inl (cf154, 3600, .inl g154_15)), (qf150, .inl (cf150, 60, .inl f150)), (qf102, .inl (cf102, 2048, .inl f102)), (qf100, .inl (cf100, 48000, .inl f100)), (qf104, .inl (cf104, 8, .inl f104)), (qf144, .inl (cf144, 2001, .inl g144_15)), (qf145, .inl (cf145, 2001, .inl g145_15)), (qf146, .inl (cf146, 2001, .inl g146_15)), (qf147, .inl (cf147, 20000, .inl g147_15)), (qf151, .inl (cf151, 60, .inl f151)), (qf110, .inl (cf110, 96, .inl f110)), (qf152, .inl (cf152, 60, .inl g152_15)), (qf105, .inl (cf105, 8, .inl f105)), (qf106, .inl (cf106, 8, .inl f106))]) [0, 1, 2, 3, 4, 5, 6, 7, 8, 9, 10, 11, 12, 13, 14, 15] rfl, hfh_15_98, hfh_15_100, hfh_15_102, hfh_15_104, hfh_15_105, hfh_15_106, hfh_15_110, hfh_15_138, hfh_15_139, hfh_15_141, hfh_15_142, hfh_15_144, hfh_15_145, hfh_15_146, hfh_15_147, hfh_15_149, hfh_15_150, hfh_15_151, hfh_15_152, hfh_15_153, hfh_15_154, hlh_15, hrh_15, hsp⟩
    · rw [if_neg c_3] at hsp
      refine lv_aload_n hx hb dX13_fresh__20 rfl (lv_at hl 1 rfl) ?_
      refine lv_bipush (v := 6) hx hb dX13_fresh__21 (by decide) ?_
      obtain ⟨⟨g903_0, g903_1, g903_2, g903_3, g903_4, g903_5, g903_6, u3_7, u3_8, u3_9, u3_10, u3_11⟩, hu_3, hsp⟩ := ox_bind hsp
      try dsimp only at hsp
      have hPc := hP.sub (ws' := [(h0, .inr (13, z15)), (qf144, .inl (cf144, 2001, .inl g144_15)), (qf145, .inl (cf145, 2001, .inl g145_15)), (qf146, .inl (cf146, 2001, .inl g146_15)), (qf147, .inl (cf147, 20000, .inl g147_15)), (qf150, .inl (cf150, 60, .inl f150)), (qf151, .inl (cf151, 60, .inl f151)), (qf110, .inl (cf110, 96, .inl f110)), (qf100, .inl (cf100, 48000, .inl f100)), (qf152, .inl (cf152, 60, .inl g152_15)), (qf102, .inl (cf102, 2048, .inl f102)), (qf104, .inl (cf104, 8, .inl f104)), (qf105, .inl (cf105, 8, .inl f105)), (qf153, .inl (cf153, 60, .inl g153_15)), (qf154, .inl (cf154, 3600, .inl g154_15))]) [0, 7, 8, 9, 10, 3, 11, 12, 5, 13, 4, 6, 14, 1, 2] rfl
      have hDc := hD.sub (ws' := [(h0, .inr (13, z15)), (qf144, .inl (cf144, 2001, .inl g144_15)), (qf145, .inl (cf145, 2001, .inl g145_15)), (qf146, .inl (cf146, 2001, .inl g146_15)), (qf147, .inl (cf147, 20000, .inl g147_15)), (qf150, .inl (cf150, 60, .inl f150)), (qf151, .inl (cf151, 60, .inl f151)), (qf110, .inl (cf110, 96, .inl f110)), (qf100, .inl (cf100, 48000, .inl f100)), (qf152, .inl (cf152, 60, .inl g152_15)), (qf102, .inl (cf102, 2048, .inl f102)), (qf104, .inl (cf104, 8, .inl f104)), (qf105, .inl (cf105, 8, .inl f105)), (qf153, .inl (cf153, 60, .inl g153_15)), (qf154, .inl (cf154, 3600, .inl g154_15))]) [0, 7, 8, 9, 10, 3, 11, 12, 5, 13, 4, 6, 14, 1, 2] (by decide) rfl
      have hKc := hK.sub (tys' := [(cf144, .int), (cf145, .int), (cf146, .int), (cf147, .int), (cf150, .int), (cf151, .int), (cf110, .int), (cf100, .int), (cf152, .int), (cf102, .int), (cf104, .int), (cf105, .int), (cf153, .int), (cf154, .int)]) [6, 7, 8, 9, 2, 10, 11, 4, 12, 3, 5, 13, 0, 1] rfl
      have hFc := va_free (wc := [(h0, .inr (13, z15)), (qf144, .inl (cf144, 2001, .inl g144_15)), (qf145, .inl (cf145, 2001, .inl g145_15)), (qf146, .inl (cf146, 2001, .inl g146_15)), (qf147, .inl (cf147, 20000, .inl g147_15)), (qf150, .inl (cf150, 60, .inl f150)), (qf151, .inl (cf151, 60, .inl f151)), (qf110, .inl (cf110, 96, .inl f110)), (qf100, .inl (cf100, 48000, .inl f100)), (qf152, .inl (cf152, 60, .inl g152_15)), (qf102, .inl (cf102, 2048, .inl f102)), (qf104, .inl (cf104, 8, .inl f104)), (qf105, .inl (cf105, 8, .inl f105)), (qf153, .inl (cf153, 60, .inl g153_15)), (qf154, .inl (cf154, 3600, .inl g154_15))]) hD hS hA [0, 7, 8, 9, 10, 3, 11, 12, 5, 13, 4, 6, 14, 1, 2] rfl
      refine va_callv (va_runV (As := [.int 6]) (rest := []) ⟨hx, hb, hml, hown, hts⟩ (vm_fails l dC dI H.size h0 z15 6 v98 qf100 qf102 qf104 qf105 qf110 x138_15 x139_15 x141_15 x142_15 qf144 qf145 qf146 qf147 x149_15 qf150 qf151 qf152 qf153 qf154 cf144 g144_15 cf145 g145_15 cf146 g146_15 cf147 g147_15 cf150 f150 cf151 f151 cf110 f110 cf100 f100 cf152 g152_15 cf102 f102 cf104 f104 cf105 f105 cf153 g153_15 cf154 g154_15 nS477 fS477 hS477 qS477 tS477 nf g903_0 g903_1 g903_2 g903_3 g903_4 g903_5 g903_6 u3_7 u3_8 u3_9 u3_10 u3_11 hlh_15 hfh_15_98 hfh_15_100 hfh_15_102 hfh_15_104 hfh_15_105 hfh_15_110 hfh_15_138 hfh_15_139 hfh_15_141 hfh_15_142 hfh_15_144 hfh_15_145 hfh_15_146 hfh_15_147 hfh_15_149 hfh_15_150 hfh_15_151 hfh_15_152 hfh_15_153 hfh_15_154 hu_3) (cwV 1 hts gv_h9_125 rfl rfl rfl (by decide +kernel) ⟨Nat.le_of_ble_eq_true rfl, Nat.le_of_ble_eq_true rfl⟩) ⟨fun a U g mk q => by obtain ⟨q0, q1, qP, qK, qD, qhZWS477, qhZRS477⟩ := q; exact ⟨q0, q1, qP, va_K.moved (u := U) (U := U.calling g mk a) (Vm.Alike.refl U.vm) qK, qD, pz_W.moved (u := U) (U := U.calling g mk a) (Vm.Alike.refl U.vm) qhZWS477, vk_R.same rfl qhZRS477⟩, va_recv hKc hPc (ci := 13) (q0 := 0) rfl rfl, fun U hU hW => ⟨rfl, by rw [hU], by rw [hU]; exact hPc, va_K.moved hW.alike hKc, hDc.weaken (fun _ _ _ _ => trivial), by rw [hU]; exact ((pz_W.moved hW.alike hZWS477).kept hS.2.1).narrow hFc, vk_R.warm hW hZRS477⟩⟩ rfl rfl hl.1 rfl (lv_room (Nat.le_of_ble_eq_true rfl)) dX13_fresh__23 ⟨Nat.le_of_ble_eq_true rfl, Nat.le_of_ble_eq_true rfl⟩) hS (fun q _ h => hFc q h) hFc ?_
      clear hS
      intro u t H1 locs ht hvm hw hB hz1 hk1 hS
      obtain ⟨z_3, rfl⟩ : ∃ z, z = u := ⟨_, rfl⟩
      obtain ⟨hP1, hK1, hD1⟩ := hB
      rw [ht] at hP1
      have hK1 := va_K.moved hvm.symm hK1
      try dsimp only at hw
      have hPD := va_join (wr := [(qf106, .inl (cf106, 8, .inl f106))]) (w1 := [(h0, .inr (13, z_3)), (qf144, .inl (cf144, 2001, .inl g903_0)), (qf145, .inl (cf145, 2001, .inl g903_1)), (qf146, .inl (cf146, 2001, .inl g903_2)), (qf147, .inl (cf147, 20000, .inl g903_3)), (qf150, .inl (cf150, 60, .inl f150)), (qf151, .inl (cf151, 60, .inl f151)), (qf110, .inl (cf110, 96, .inl f110)), (qf100, .inl (cf100, 48000, .inl f100)), (qf152, .inl (cf152, 60, .inl g903_4)), (qf102, .inl (cf102, 2048, .inl f102)), (qf104, .inl (cf104, 8, .inl f104)), (qf105, .inl (cf105, 8, .inl f105)), (qf153, .inl (cf153, 60, .inl g903_5)), (qf154, .inl (cf154, 3600, .inl g903_6))]) hP hD [0, 7, 8, 9, 10, 3, 11, 12, 5, 13, 4, 6, 14, 1, 2] [15] rfl rfl (by decide) (by decide) hk1 hFc hP1 hD1
      clear hP hD
      obtain ⟨hP, hD⟩ := hPD
      replace hK := (hK.sub (tys' := [(cf106, .int)]) [14] rfl).app hK1
      clear hPc hDc hKc hFc hP1 hK1 hD1 hz1 hk1 ht hvm
      generalize H1 = H at hP hS ⊢
      replace hP : va_P (dC, dI) vwCl [(qf106, .inl (cf106, 8, .inl f106)), (h0, .inr (13, z_3)), (qf144, .inl (cf144, 2001, .inl g903_0)), (qf145, .inl (cf145, 2001, .inl g903_1)), (qf146, .inl (cf146, 2001, .inl g903_2)), (qf147, .inl (cf147, 20000, .inl g903_3)), (qf150, .inl (cf150, 60, .inl f150)), (qf151, .inl (cf151, 60, .inl f151)), (qf110, .inl (cf110, 96, .inl f110)), (qf100, .inl (cf100, 48000, .inl f100)), (qf152, .inl (cf152, 60, .inl g903_4)), (qf102, .inl (cf102, 2048, .inl f102)), (qf104, .inl (cf104, 8, .inl f104)), (qf105, .inl (cf105, 8, .inl f105)), (qf153, .inl (cf153, 60, .inl g903_5)), (qf154, .inl (cf154, 3600, .inl g903_6))] H := hP
      replace hD : va_D A [(qf106, .inl (cf106, 8, .inl f106)), (h0, .inr (13, z_3)), (qf144, .inl (cf144, 2001, .inl g903_0)), (qf145, .inl (cf145, 2001, .inl g903_1)), (qf146, .inl (cf146, 2001, .inl g903_2)), (qf147, .inl (cf147, 20000, .inl g903_3)), (qf150, .inl (cf150, 60, .inl f150)), (qf151, .inl (cf151, 60, .inl f151)), (qf110, .inl (cf110, 96, .inl f110)), (qf100, .inl (cf100, 48000, .inl f100)), (qf152, .inl (cf152, 60, .inl g903_4)), (qf102, .inl (cf102, 2048, .inl f102)), (qf104, .inl (cf104, 8, .inl f104)), (qf105, .inl (cf105, 8, .inl f105)), (qf153, .inl (cf153, 60, .inl g903_5)), (qf154, .inl (cf154, 3600, .inl g903_6))] := hD
      replace hK : va_K (dC, dI) vwCl [(cf106, .int), (cf144, .int), (cf145, .int), (cf146, .int), (cf147, .int), (cf150, .int), (cf151, .int), (cf110, .int), (cf100, .int), (cf152, .int), (cf102, .int), (cf104, .int), (cf105, .int), (cf153, .int), (cf154, .int)] s := hK
      obtain ⟨hwa_3, hln_3, hre_3, hch_3_138, hch_3_139, hch_3_141, hch_3_142, hch_3_149⟩ := hw
      have hfk_3_98 : z_3[98]? = some (.int v98) := (hre_3 98 (by decide) (by decide) (by decide) (by decide) (by decide)).trans (hfh_15_98)
      have hfk_3_100 : z_3[100]? = some (.ref qf100) := (hre_3 100 (by decide) (by decide) (by decide) (by decide) (by decide)).trans (hfh_15_100)
      have hfk_3_102 : z_3[102]? = some (.ref qf102) := (hre_3 102 (by decide) (by decide) (by decide) (by decide) (by decide)).trans (hfh_15_102)
      have hfk_3_104 : z_3[104]? = some (.ref qf104) := (hre_3 104 (by decide) (by decide) (by decide) (by decide) (by decide)).trans (hfh_15_104)
      have hfk_3_105 : z_3[105]? = some (.ref qf105) := (hre_3 105 (by decide) (by decide) (by decide) (by decide) (by decide)).trans (hfh_15_105)
      have hfk_3_106 : z_3[106]? = some (.ref qf106) := (hre_3 106 (by decide) (by decide) (by decide) (by decide) (by decide)).trans (hfh_15_106)
      have hfk_3_110 : z_3[110]? = some (.ref qf110) := (hre_3 110 (by decide) (by decide) (by decide) (by decide) (by decide)).trans (hfh_15_110)
      have hfk_3_144 : z_3[144]? = some (.ref qf144) := (hre_3 144 (by decide) (by decide) (by decide) (by decide) (by decide)).trans (hfh_15_144)
      have hfk_3_145 : z_3[145]? = some (.ref qf145) := (hre_3 145 (by decide) (by decide) (by decide) (by decide) (by decide)).trans (hfh_15_145)
      have hfk_3_146 : z_3[146]? = some (.ref qf146) := (hre_3 146 (by decide) (by decide) (by decide) (by decide) (by decide)).trans (hfh_15_146)
      have hfk_3_147 : z_3[147]? = some (.ref qf147) := (hre_3 147 (by decide) (by decide) (by decide) (by decide) (by decide)).trans (hfh_15_147)
      have hfk_3_150 : z_3[150]? = some (.ref qf150) := (hre_3 150 (by decide) (by decide) (by decide) (by decide) (by decide)).trans (hfh_15_150)
      have hfk_3_151 : z_3[151]? = some (.ref qf151) := (hre_3 151 (by decide) (by decide) (by decide) (by decide) (by decide)).trans (hfh_15_151)
      have hfk_3_152 : z_3[152]? = some (.ref qf152) := (hre_3 152 (by decide) (by decide) (by decide) (by decide) (by decide)).trans (hfh_15_152)
      have hfk_3_153 : z_3[153]? = some (.ref qf153) := (hre_3 153 (by decide) (by decide) (by decide) (by decide) (by decide)).trans (hfh_15_153)
      have hfk_3_154 : z_3[154]? = some (.ref qf154) := (hre_3 154 (by decide) (by decide) (by decide) (by decide) (by decide)).trans (hfh_15_154)
      have hrq_3 : ∀ j : Nat, j ≠ 138 → j ≠ 139 → j ≠ 141 → j ≠ 142 → j ≠ 149 → z_3[j]? = zs[j]? := fun j g138 g139 g141 g142 g149 => (hre_3 j g138 g139 g141 g142 g149).trans (hrh_15 j g138 g139 g141 g142 g149)
      have hr0 := Option.some.inj hsp
      clear hsp
      obtain ⟨hq0, hr1⟩ := Prod.mk.inj hr0
      clear hr0
      obtain ⟨hq1, hr2⟩ := Prod.mk.inj hr1
      clear hr1
      obtain ⟨hq2, hr3⟩ := Prod.mk.inj hr2
      clear hr2
      obtain ⟨hq3, hr4⟩ := Prod.mk.inj hr3
      clear hr3
      obtain ⟨hq4, hr5⟩ := Prod.mk.inj hr4
      clear hr4
      obtain ⟨hq5, hr6⟩ := Prod.mk.inj hr5
      clear hr5
      obtain ⟨hq6, hr7⟩ := Prod.mk.inj hr6
      clear hr6
      obtain ⟨hq7, hr8⟩ := Prod.mk.inj hr7
      clear hr7
      obtain ⟨hq8, hr9⟩ := Prod.mk.inj hr8
      clear hr8
      obtain ⟨hq9, hr10⟩ := Prod.mk.inj hr9
      clear hr9
      obtain ⟨hq10, hr11⟩ := Prod.mk.inj hr10
      clear hr10
      subst hq0
      subst hq1
      subst hq2
      subst hq3
      subst hq4
      subst hq5
      subst hq6
      subst hq7
      subst hq8
      subst hq9
      subst hq10
      subst hr11
      have hP9 := hP.sub (ws' := [(h0, .inr (13, z_3)), (qf153, .inl (cf153, 60, .inl g903_5)), (qf154, .inl (cf154, 3600, .inl g903_6)), (qf150, .inl (cf150, 60, .inl f150)), (qf102, .inl (cf102, 2048, .inl f102)), (qf100, .inl (cf100, 48000, .inl f100)), (qf104, .inl (cf104, 8, .inl f104)), (qf144, .inl (cf144, 2001, .inl g903_0)), (qf145, .inl (cf145, 2001, .inl g903_1)), (qf146, .inl (cf146, 2001, .inl g903_2)), (qf147, .inl (cf147, 20000, .inl g903_3)), (qf151, .inl (cf151, 60, .inl f151)), (qf110, .inl (cf110, 96, .inl f110)), (qf152, .inl (cf152, 60, .inl g903_4)), (qf105, .inl (cf105, 8, .inl f105)), (qf106, .inl (cf106, 8, .inl f106))]) [1, 14, 15, 6, 11, 9, 12, 2, 3, 4, 5, 7, 8, 10, 13, 0] rfl
      have hD9 := hD.sub (ws' := [(h0, .inr (13, z_3)), (qf153, .inl (cf153, 60, .inl g903_5)), (qf154, .inl (cf154, 3600, .inl g903_6)), (qf150, .inl (cf150, 60, .inl f150)), (qf102, .inl (cf102, 2048, .inl f102)), (qf100, .inl (cf100, 48000, .inl f100)), (qf104, .inl (cf104, 8, .inl f104)), (qf144, .inl (cf144, 2001, .inl g903_0)), (qf145, .inl (cf145, 2001, .inl g903_1)), (qf146, .inl (cf146, 2001, .inl g903_2)), (qf147, .inl (cf147, 20000, .inl g903_3)), (qf151, .inl (cf151, 60, .inl f151)), (qf110, .inl (cf110, 96, .inl f110)), (qf152, .inl (cf152, 60, .inl g903_4)), (qf105, .inl (cf105, 8, .inl f105)), (qf106, .inl (cf106, 8, .inl f106))]) [1, 14, 15, 6, 11, 9, 12, 2, 3, 4, 5, 7, 8, 10, 13, 0] (by decide) rfl
      have hK9 := hK.sub (tys' := [(cf153, .int), (cf154, .int), (cf150, .int), (cf102, .int), (cf100, .int), (cf104, .int), (cf144, .int), (cf145, .int), (cf146, .int), (cf147, .int), (cf151, .int), (cf110, .int), (cf152, .int), (cf105, .int), (cf106, .int)]) [13, 14, 5, 10, 8, 11, 1, 2, 3, 4, 6, 7, 9, 12, 0] rfl
      exact W.vret hx hb hr (fun t ht hW => ⟨⟨(z_3), rfl, ⟨trivial, hln_3, hrq_3, hch_3_138, hch_3_139, hch_3_141, hch_3_142, hch_3_149⟩, by rw [ht]; exact hP9, va_K.moved hW.alike hK9, hD9⟩, hS.F ht⟩) hS.2.2 dX13_fresh__26
  intro hj_15
  refine lv_iload_n hx hb dX13_fresh__0 rfl (lv_at hl 1 rfl) ?_
  refine lv_sipush (v := 187) hx hb dX13_fresh__1 (by decide) ?_
  refine lv_icmp_ne (tgt := 11) hx hb dX13_fresh__4 (by decide) (fun c_1 => ?_) (fun c_1 => ?_)
  · rw [if_neg c_1] at hsp
    refine lv_aload_n hx hb dX13_fresh__11 rfl (lv_at hl 0 rfl) ?_
    obtain ⟨⟨u1_0, g901_1⟩, hu_1, hsp⟩ := ox_bind hsp
    try dsimp only at hsp
    have hPc := hP.sub (ws' := [(h0, .inr (13, zs)), (qf153, .inl (cf153, 60, .inl f153)), (qf154, .inl (cf154, 3600, .inl f154))]) [0, 1, 2] rfl
    have hDc := hD.sub (ws' := [(h0, .inr (13, zs)), (qf153, .inl (cf153, 60, .inl f153)), (qf154, .inl (cf154, 3600, .inl f154))]) [0, 1, 2] (by decide) rfl
    have hKc := hK.sub (tys' := [(cf153, .int), (cf154, .int)]) [0, 1] rfl
    have hFc := va_free (wc := [(h0, .inr (13, zs)), (qf153, .inl (cf153, 60, .inl f153)), (qf154, .inl (cf154, 3600, .inl f154))]) hD hS hA [0, 1, 2] rfl
    refine va_calli (va_runV (As := []) (rest := []) ⟨hx, hb, hml, hown, hts⟩ (tm_drop l dC dI H.size h0 zs v149 qf153 qf154 cf153 f153 cf154 f154 nf u1_0 g901_1 hlen hf149 hf153 hf154 hu_1) (cwV 0 hts gv_h9_75 rfl rfl rfl (by decide +kernel) ⟨Nat.le_of_ble_eq_true rfl, Nat.le_of_ble_eq_true rfl⟩) ⟨fun a U g mk q => by obtain ⟨q0, q1, qP, qK, qD⟩ := q; exact ⟨q0, q1, qP, va_K.moved (u := U) (U := U.calling g mk a) (Vm.Alike.refl U.vm) qK, qD⟩, va_recv hKc hPc (ci := 13) (q0 := 0) rfl rfl, fun U hU hW => ⟨rfl, by rw [hU], by rw [hU]; exact hPc, va_K.moved hW.alike hKc, hDc.weaken (fun _ _ _ _ => trivial)⟩⟩ rfl rfl hl.1 rfl (lv_room (Nat.le_of_ble_eq_true rfl)) dX13_fresh__12 ⟨Nat.le_of_ble_eq_true rfl, Nat.le_of_ble_eq_true rfl⟩) hS (fun q _ h => hFc q h) hFc ?_
    clear hS
    intro r_2 u t H1 locs ht hvm hw hB hz1 hk1 hS
    obtain ⟨z_1, rfl⟩ : ∃ z, z = u := ⟨_, rfl⟩
    obtain ⟨hP1, hK1, hD1⟩ := hB
    rw [ht] at hP1
    have hK1 := va_K.moved hvm.symm hK1
    try dsimp only at hw
    have hPD := va_join (wr := [(qf150, .inl (cf150, 60, .inl f150)), (qf102, .inl (cf102, 2048, .inl f102)), (qf100, .inl (cf100, 48000, .inl f100)), (qf104, .inl (cf104, 8, .inl f104)), (qf144, .inl (cf144, 2001, .inl f144)), (qf145, .inl (cf145, 2001, .inl f145)), (qf146, .inl (cf146, 2001, .inl f146)), (qf147, .inl (cf147, 20000, .inl f147)), (qf151, .inl (cf151, 60, .inl f151)), (qf110, .inl (cf110, 96, .inl f110)), (qf152, .inl (cf152, 60, .inl f152)), (qf105, .inl (cf105, 8, .inl f105)), (qf106, .inl (cf106, 8, .inl f106))]) (w1 := [(h0, .inr (13, z_1)), (qf153, .inl (cf153, 60, .inl g901_1)), (qf154, .inl (cf154, 3600, .inl f154))]) hP hD [0, 1, 2] [3, 4, 5, 6, 7, 8, 9, 10, 11, 12, 13, 14, 15] rfl rfl (by decide) (by decide) hk1 hFc hP1 hD1
    clear hP hD
    obtain ⟨hP, hD⟩ := hPD
    replace hK := (hK.sub (tys' := [(cf150, .int), (cf102, .int), (cf100, .int), (cf104, .int), (cf144, .int), (cf145, .int), (cf146, .int), (cf147, .int), (cf151, .int), (cf110, .int), (cf152, .int), (cf105, .int), (cf106, .int)]) [2, 3, 4, 5, 6, 7, 8, 9, 10, 11, 12, 13, 14] rfl).app hK1
    clear hPc hDc hKc hFc hP1 hK1 hD1 hz1 hk1 ht hvm
    generalize H1 = H at hP hS ⊢
    replace hP : va_P (dC, dI) vwCl [(qf150, .inl (cf150, 60, .inl f150)), (qf102, .inl (cf102, 2048, .inl f102)), (qf100, .inl (cf100, 48000, .inl f100)), (qf104, .inl (cf104, 8, .inl f104)), (qf144, .inl (cf144, 2001, .inl f144)), (qf145, .inl (cf145, 2001, .inl f145)), (qf146, .inl (cf146, 2001, .inl f146)), (qf147, .inl (cf147, 20000, .inl f147)), (qf151, .inl (cf151, 60, .inl f151)), (qf110, .inl (cf110, 96, .inl f110)), (qf152, .inl (cf152, 60, .inl f152)), (qf105, .inl (cf105, 8, .inl f105)), (qf106, .inl (cf106, 8, .inl f106)), (h0, .inr (13, z_1)), (qf153, .inl (cf153, 60, .inl g901_1)), (qf154, .inl (cf154, 3600, .inl f154))] H := hP
    replace hD : va_D A [(qf150, .inl (cf150, 60, .inl f150)), (qf102, .inl (cf102, 2048, .inl f102)), (qf100, .inl (cf100, 48000, .inl f100)), (qf104, .inl (cf104, 8, .inl f104)), (qf144, .inl (cf144, 2001, .inl f144)), (qf145, .inl (cf145, 2001, .inl f145)), (qf146, .inl (cf146, 2001, .inl f146)), (qf147, .inl (cf147, 20000, .inl f147)), (qf151, .inl (cf151, 60, .inl f151)), (qf110, .inl (cf110, 96, .inl f110)), (qf152, .inl (cf152, 60, .inl f152)), (qf105, .inl (cf105, 8, .inl f105)), (qf106, .inl (cf106, 8, .inl f106)), (h0, .inr (13, z_1)), (qf153, .inl (cf153, 60, .inl g901_1)), (qf154, .inl (cf154, 3600, .inl f154))] := hD
    replace hK : va_K (dC, dI) vwCl [(cf150, .int), (cf102, .int), (cf100, .int), (cf104, .int), (cf144, .int), (cf145, .int), (cf146, .int), (cf147, .int), (cf151, .int), (cf110, .int), (cf152, .int), (cf105, .int), (cf106, .int), (cf153, .int), (cf154, .int)] s := hK
    obtain ⟨hwa_1, hln_1, hre_1⟩ := hw
    have hfk_1_98 : z_1[98]? = some (.int v98) := (hre_1 98 ).trans (hf98)
    have hfk_1_100 : z_1[100]? = some (.ref qf100) := (hre_1 100 ).trans (hf100)
    have hfk_1_102 : z_1[102]? = some (.ref qf102) := (hre_1 102 ).trans (hf102)
    have hfk_1_104 : z_1[104]? = some (.ref qf104) := (hre_1 104 ).trans (hf104)
    have hfk_1_105 : z_1[105]? = some (.ref qf105) := (hre_1 105 ).trans (hf105)
    have hfk_1_106 : z_1[106]? = some (.ref qf106) := (hre_1 106 ).trans (hf106)
    have hfk_1_110 : z_1[110]? = some (.ref qf110) := (hre_1 110 ).trans (hf110)
    have hfk_1_138 : z_1[138]? = some (.int v138) := (hre_1 138 ).trans (hf138)
    have hfk_1_139 : z_1[139]? = some (.int v139) := (hre_1 139 ).trans (hf139)
    have hfk_1_141 : z_1[141]? = some (.int v141) := (hre_1 141 ).trans (hf141)
    have hfk_1_142 : z_1[142]? = some (.int v142) := (hre_1 142 ).trans (hf142)
    have hfk_1_144 : z_1[144]? = some (.ref qf144) := (hre_1 144 ).trans (hf144)
    have hfk_1_145 : z_1[145]? = some (.ref qf145) := (hre_1 145 ).trans (hf145)
    have hfk_1_146 : z_1[146]? = some (.ref qf146) := (hre_1 146 ).trans (hf146)
    have hfk_1_147 : z_1[147]? = some (.ref qf147) := (hre_1 147 ).trans (hf147)
    have hfk_1_149 : z_1[149]? = some (.int v149) := (hre_1 149 ).trans (hf149)
    have hfk_1_150 : z_1[150]? = some (.ref qf150) := (hre_1 150 ).trans (hf150)
    have hfk_1_151 : z_1[151]? = some (.ref qf151) := (hre_1 151 ).trans (hf151)
    have hfk_1_152 : z_1[152]? = some (.ref qf152) := (hre_1 152 ).trans (hf152)
    have hfk_1_153 : z_1[153]? = some (.ref qf153) := (hre_1 153 ).trans (hf153)
    have hfk_1_154 : z_1[154]? = some (.ref qf154) := (hre_1 154 ).trans (hf154)
    have hrq_1 : ∀ j : Nat, j ≠ 138 → j ≠ 139 → j ≠ 141 → j ≠ 142 → j ≠ 149 → z_1[j]? = zs[j]? := fun j g138 g139 g141 g142 g149 => (hre_1 j ).trans (hrs0 j g138 g139 g141 g142 g149)
    obtain rfl := hwa_1
    exact hj_15 (H, locs, ls, z_1, a1, a2, u1_0, f144, f145, f146, f147, f152, g901_1, f154, v138, v139, v141, v142, v149) ⟨lv_sub hl [0, 1, 2] rfl, hS, hD.sub (ws' := [(h0, .inr (13, z_1)), (qf153, .inl (cf153, 60, .inl g901_1)), (qf154, .inl (cf154, 3600, .inl f154)), (qf150, .inl (cf150, 60, .inl f150)), (qf102, .inl (cf102, 2048, .inl f102)), (qf100, .inl (cf100, 48000, .inl f100)), (qf104, .inl (cf104, 8, .inl f104)), (qf144, .inl (cf144, 2001, .inl f144)), (qf145, .inl (cf145, 2001, .inl f145)), (qf146, .inl (cf146, 2001, .inl f146)), (qf147, .inl (cf147, 20000, .inl f147)), (qf151, .inl (cf151, 60, .inl f151)), (qf110, .inl (cf110, 96, .inl f110)), (qf152, .inl (cf152, 60, .inl f152)), (qf105, .inl (cf105, 8, .inl f105)), (qf106, .inl (cf106, 8, .inl f106))]) [13, 14, 15, 0, 1, 2, 3, 4, 5, 6, 7, 8, 9, 10, 11, 12] (by decide) rfl, hP.sub (ws' := [(h0, .inr (13, z_1)), (qf153, .inl (cf153, 60, .inl g901_1)), (qf154, .inl (cf154, 3600, .inl f154)), (qf150, .inl (cf150, 60, .inl f150)), (qf102, .inl (cf102, 2048, .inl f102)), (qf100, .inl (cf100, 48000, .inl f100)), (qf104, .inl (cf104, 8, .inl f104)), (qf144, .inl (cf144, 2001, .inl f144)), (qf145, .inl (cf145, 2001, .inl f145)), (qf146, .inl (cf146, 2001, .inl f146)), (qf147, .inl (cf147, 20000, .inl f147)), (qf151, .inl (cf151, 60, .inl f151)), (qf110, .inl (cf110, 96, .inl f110)), (qf152, .inl (cf152, 60, .inl f152)), (qf105, .inl (cf105, 8, .inl f105)), (qf106, .inl (cf106, 8, .inl f106))]) [13, 14, 15, 0, 1, 2, 3, 4, 5, 6, 7, 8, 9, 10, 11, 12] rfl, hfk_1_98, hfk_1_100, hfk_1_102, hfk_1_104, hfk_1_105, hfk_1_106, hfk_1_110, hfk_1_138, hfk_1_139, hfk_1_141, hfk_1_142, hfk_1_144, hfk_1_145, hfk_1_146, hfk_1_147, hfk_1_149, hfk_1_150, hfk_1_151, hfk_1_152, hfk_1_153, hfk_1_154, hln_1, hrq_1, hsp⟩
  · rw [if_pos c_1] at hsp
    refine lv_iconst (v := 0) hx hb dX13_fresh__7 (by decide) ?_
    refine lv_goto (tgt := 15) hx hb dX13_fresh__8 (by decide) ?_
    exact hj_15 (H, locs, ls, zs, a1, a2, 0, f144, f145, f146, f147, f152, f153, f154, v138, v139, v141, v142, v149) ⟨lv_sub hl [0, 1, 2] rfl, hS, hD.sub (ws' := [(h0, .inr (13, zs)), (qf153, .inl (cf153, 60, .inl f153)), (qf154, .inl (cf154, 3600, .inl f154)), (qf150, .inl (cf150, 60, .inl f150)), (qf102, .inl (cf102, 2048, .inl f102)), (qf100, .inl (cf100, 48000, .inl f100)), (qf104, .inl (cf104, 8, .inl f104)), (qf144, .inl (cf144, 2001, .inl f144)), (qf145, .inl (cf145, 2001, .inl f145)), (qf146, .inl (cf146, 2001, .inl f146)), (qf147, .inl (cf147, 20000, .inl f147)), (qf151, .inl (cf151, 60, .inl f151)), (qf110, .inl (cf110, 96, .inl f110)), (qf152, .inl (cf152, 60, .inl f152)), (qf105, .inl (cf105, 8, .inl f105)), (qf106, .inl (cf106, 8, .inl f106))]) [0, 1, 2, 3, 4, 5, 6, 7, 8, 9, 10, 11, 12, 13, 14, 15] (by decide) rfl, hP.sub (ws' := [(h0, .inr (13, zs)), (qf153, .inl (cf153, 60, .inl f153)), (qf154, .inl (cf154, 3600, .inl f154)), (qf150, .inl (cf150, 60, .inl f150)), (qf102, .inl (cf102, 2048, .inl f102)), (qf100, .inl (cf100, 48000, .inl f100)), (qf104, .inl (cf104, 8, .inl f104)), (qf144, .inl (cf144, 2001, .inl f144)), (qf145, .inl (cf145, 2001, .inl f145)), (qf146, .inl (cf146, 2001, .inl f146)), (qf147, .inl (cf147, 20000, .inl f147)), (qf151, .inl (cf151, 60, .inl f151)), (qf110, .inl (cf110, 96, .inl f110)), (qf152, .inl (cf152, 60, .inl f152)), (qf105, .inl (cf105, 8, .inl f105)), (qf106, .inl (cf106, 8, .inl f106))]) [0, 1, 2, 3, 4, 5, 6, 7, 8, 9, 10, 11, 12, 13, 14, 15] rfl, hf98, hf100, hf102, hf104, hf105, hf106, hf110, hf138, hf139, hf141, hf142, hf144, hf145, hf146, hf147, hf149, hf150, hf151, hf152, hf153, hf154, hlen, hrs0, hsp⟩
def jn_vm_is_27 (nf : Nat) (a1 : Int32) (a2 : Int32) (v98 : Int32) (v138 : Int32) (v139 : Int32) (v141 : Int32) (v142 : Int32) (v149 : Int32) (f153 : Nat → Int32) (f154 : Nat → Int32) (f150 : Nat → Int32) (f102 : Nat → Int32) (f100 : Nat → Int32) (f104 : Nat → Int32) (f144 : Nat → Int32) (f105 : Nat → Int32) (f145 : Nat → Int32) (f146 : Nat → Int32) (f147 : Nat → Int32) (f151 : Nat → Int32) (f110 : Nat → Int32) (f152 : Nat → Int32) (nS477 : Nat) (fS477 : Nat → Int32)  (l1_27 : Int32) (l3_27 : Int32) (s0_27 : Int32) (g144_27 : Nat → Int32) (g145_27 : Nat → Int32) (g146_27 : Nat → Int32) (g147_27 : Nat → Int32) (g152_27 : Nat → Int32) (g153_27 : Nat → Int32) (g154_27 : Nat → Int32) (x138_27 : Int32) (x139_27 : Int32) (x141_27 : Int32) (x142_27 : Int32) (x149_27 : Int32) : Option (Int32 × (Nat → Int32) × (Nat → Int32) × (Nat → Int32) × (Nat → Int32) × (Nat → Int32) × (Nat → Int32) × (Nat → Int32) × Int32 × Int32 × Int32 × Int32 × Int32) := (if l1_27 = 193 then (if s0_27 = 0 then ((sp_tm_give nf 0 x149_27 g153_27 g154_27).bind (fun p1 => (some (1, g144_27, g145_27, g146_27, g147_27, g152_27, p1.1, p1.2, x138_27, x139_27, x141_27, x142_27, x149_27)))) else ((sp_tm_give nf 1 x149_27 g153_27 g154_27).bind (fun p2 => (some (1, g144_27, g145_27, g146_27, g147_27, g152_27, p2.1, p2.2, x138_27, x139_27, x141_27, x142_27, x149_27))))) else (if l3_27 = 0 then ((sp_tm_give nf l3_27 x149_27 g153_27 g154_27).bind (fun p3 => (some (1, g144_27, g145_27, g146_27, g147_27, g152_27, p3.1, p3.2, x138_27, x139_27, x141_27, x142_27, x149_27)))) else (if s0_27 = 0 then ((sp_vm_fails nf 5 v98 x138_27 x139_27 x141_27 x142_27 x149_27 g144_27 g145_27 g146_27 g147_27 f150 f151 f110 f100 g152_27 f102 f104 f105 g153_27 g154_27 nS477 fS477).bind (fun p4 => (some (0, p4.1, p4.2.1, p4.2.2.1, p4.2.2.2.1, p4.2.2.2.2.1, p4.2.2.2.2.2.1, p4.2.2.2.2.2.2.1, p4.2.2.2.2.2.2.2.1, p4.2.2.2.2.2.2.2.2.1, p4.2.2.2.2.2.2.2.2.2.1, p4.2.2.2.2.2.2.2.2.2.2.1, p4.2.2.2.2.2.2.2.2.2.2.2)))) else ((sp_tm_give nf l3_27 x149_27 g153_27 g154_27).bind (fun p5 => (some (1, g144_27, g145_27, g146_27, g147_27, g152_27, p5.1, p5.2, x138_27, x139_27, x141_27, x142_27, x149_27)))))))
def jn_vm_is_26 (nf : Nat) (a1 : Int32) (a2 : Int32) (v98 : Int32) (v138 : Int32) (v139 : Int32) (v141 : Int32) (v142 : Int32) (v149 : Int32) (f153 : Nat → Int32) (f154 : Nat → Int32) (f150 : Nat → Int32) (f102 : Nat → Int32) (f100 : Nat → Int32) (f104 : Nat → Int32) (f144 : Nat → Int32) (f105 : Nat → Int32) (f145 : Nat → Int32) (f146 : Nat → Int32) (f147 : Nat → Int32) (f151 : Nat → Int32) (f110 : Nat → Int32) (f152 : Nat → Int32) (nS477 : Nat) (fS477 : Nat → Int32)  (l1_26 : Int32) (l3_26 : Int32) (g144_26 : Nat → Int32) (g145_26 : Nat → Int32) (g146_26 : Nat → Int32) (g147_26 : Nat → Int32) (g152_26 : Nat → Int32) (g153_26 : Nat → Int32) (g154_26 : Nat → Int32) (x138_26 : Int32) (x139_26 : Int32) (x141_26 : Int32) (x142_26 : Int32) (x149_26 : Int32) : Option (Int32 × (Nat → Int32) × (Nat → Int32) × (Nat → Int32) × (Nat → Int32) × (Nat → Int32) × (Nat → Int32) × (Nat → Int32) × Int32 × Int32 × Int32 × Int32 × Int32) := (jn_vm_is_27 nf a1 a2 v98 v138 v139 v141 v142 v149 f153 f154 f150 f102 f100 f104 f144 f105 f145 f146 f147 f151 f110 f152 nS477 fS477  l1_26 l3_26 0 g144_26 g145_26 g146_26 g147_26 g152_26 g153_26 g154_26 x138_26 x139_26 x141_26 x142_26 x149_26)
def sp_vm_is (nf : Nat) (a1 : Int32) (a2 : Int32) (v98 : Int32) (v138 : Int32) (v139 : Int32) (v141 : Int32) (v142 : Int32) (v149 : Int32) (f153 : Nat → Int32) (f154 : Nat → Int32) (f150 : Nat → Int32) (f102 : Nat → Int32) (f100 : Nat → Int32) (f104 : Nat → Int32) (f144 : Nat → Int32) (f105 : Nat → Int32) (f145 : Nat → Int32) (f146 : Nat → Int32) (f147 : Nat → Int32) (f151 : Nat → Int32) (f110 : Nat → Int32) (f152 : Nat → Int32) (nS477 : Nat) (fS477 : Nat → Int32) : Option (Int32 × (Nat → Int32) × (Nat → Int32) × (Nat → Int32) × (Nat → Int32) × (Nat → Int32) × (Nat → Int32) × (Nat → Int32) × Int32 × Int32 × Int32 × Int32 × Int32) := ((sp_tm_drop nf v149 f153 f154).bind (fun p1 => (if p1.1 = 0 then (jn_vm_is_26 nf a1 a2 v98 v138 v139 v141 v142 v149 f153 f154 f150 f102 f100 f104 f144 f105 f145 f146 f147 f151 f110 f152 nS477 fS477  a1 p1.1 f144 f145 f146 f147 f152 p1.2 f154 v138 v139 v141 v142 v149) else ((sp_vm_classIn nf a2 v98 v149 f150 f102 f100 f104 nS477 fS477).bind (fun p2 => ((sp_vm_isOne nf p1.1 p2 v98 f144 f105 f102 f100 f104 nS477 fS477).bind (fun p3 => (if p3 = 0 then (jn_vm_is_26 nf a1 a2 v98 v138 v139 v141 v142 v149 f153 f154 f150 f102 f100 f104 f144 f105 f145 f146 f147 f151 f110 f152 nS477 fS477  a1 p1.1 f144 f145 f146 f147 f152 p1.2 f154 v138 v139 v141 v142 v149) else (jn_vm_is_27 nf a1 a2 v98 v138 v139 v141 v142 v149 f153 f154 f150 f102 f100 f104 f144 f105 f145 f146 f147 f151 f110 f152 nS477 fS477  a1 p1.1 1 f144 f145 f146 f147 f152 p1.2 f154 v138 v139 v141 v142 v149)))))))))

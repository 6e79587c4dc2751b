set_option maxHeartbeats 4000000 in
set_option maxRecDepth 100000 in
/-- ClassMillModel.flows -/
theorem vm_flows (l : Launch) (dC : Nat → ClassId) (dI : Nat → Nat → Nat) (sz : Nat) (h0 : Nat) (zs : (List Value)) (a1 : Int32) (a2 : Int32) (v98 : Int32) (qf100 : Nat) (qf102 : Nat) (qf103 : Nat) (qf104 : Nat) (qf105 : Nat) (qf106 : Nat) (qf107 : Nat) (qf108 : Nat) (qf109 : Nat) (qf110 : Nat) (qf111 : Nat) (v117 : Int32) (qf118 : Nat) (qf119 : Nat) (v120 : Int32) (v121 : Int32) (v122 : Int32) (v123 : Int32) (v124 : Int32) (v125 : Int32) (qf127 : Nat) (qf128 : Nat) (v129 : Int32) (v130 : Int32) (v131 : Int32) (v132 : Int32) (v133 : Int32) (v134 : Int32) (v135 : Int32) (v136 : Int32) (qf137 : Nat) (cf109 : ClassId) (f109 : (Nat → Int32)) (cf100 : ClassId) (f100 : (Nat → Int32)) (cf127 : ClassId) (f127 : (Nat → Int32)) (cf107 : ClassId) (f107 : (Nat → Int32)) (cf102 : ClassId) (f102 : (Nat → Int32)) (cf111 : ClassId) (f111 : (Nat → Int32)) (cf104 : ClassId) (f104 : (Nat → Int32)) (cf118 : ClassId) (f118 : (Nat → Int32)) (cf119 : ClassId) (f119 : (Nat → Int32)) (cf105 : ClassId) (f105 : (Nat → Int32)) (cf128 : ClassId) (f128 : (Nat → Int32)) (cf110 : ClassId) (f110 : (Nat → Int32)) (cf103 : ClassId) (f103 : (Nat → Int32)) (cf106 : ClassId) (f106 : (Nat → Int32)) (cf108 : ClassId) (f108 : (Nat → Int32)) (cf137 : ClassId) (f137 : (Nat → Int32)) (nS477 : Nat) (fS477 : (Nat → Int32)) (hS477 : Nat) (qS477 : Nat) (tS477 : String) (nf : Nat) (r0 : Int32) (o118 : (Nat → Int32)) (o119 : (Nat → Int32)) (o127 : (Nat → Int32)) (o128 : (Nat → Int32)) (o137 : (Nat → Int32)) (w117 : Int32) (w120 : Int32) (w121 : Int32) (w122 : Int32) (w123 : Int32) (w124 : Int32) (w125 : Int32) (w131 : Int32) (w136 : Int32) (hlen : zs.length = 155) (hf98 : zs[98]? = some (.int v98)) (hf100 : zs[100]? = some (.ref qf100)) (hf102 : zs[102]? = some (.ref qf102)) (hf103 : zs[103]? = some (.ref qf103)) (hf104 : zs[104]? = some (.ref qf104)) (hf105 : zs[105]? = some (.ref qf105)) (hf106 : zs[106]? = some (.ref qf106)) (hf107 : zs[107]? = some (.ref qf107)) (hf108 : zs[108]? = some (.ref qf108)) (hf109 : zs[109]? = some (.ref qf109)) (hf110 : zs[110]? = some (.ref qf110)) (hf111 : zs[111]? = some (.ref qf111)) (hf117 : zs[117]? = some (.int v117)) (hf118 : zs[118]? = some (.ref qf118)) (hf119 : zs[119]? = some (.ref qf119)) (hf120 : zs[120]? = some (.int v120)) (hf121 : zs[121]? = some (.int v121)) (hf122 : zs[122]? = some (.int v122)) (hf123 : zs[123]? = some (.int v123)) (hf124 : zs[124]? = some (.int v124)) (hf125 : zs[125]? = some (.int v125)) (hf127 : zs[127]? = some (.ref qf127)) (hf128 : zs[128]? = some (.ref qf128)) (hf129 : zs[129]? = some (.int v129)) (hf130 : zs[130]? = some (.int v130)) (hf131 : zs[131]? = some (.int v131)) (hf132 : zs[132]? = some (.int v132)) (hf133 : zs[133]? = some (.int v133)) (hf134 : zs[134]? = some (.int v134)) (hf135 : zs[135]? = some (.int v135)) (hf136 : zs[136]? = some (.int v136)) (hf137 : zs[137]? = some (.ref qf137)) (hsp : sp_vm_flows nf a1 a2 v98 v117 v120 v121 v122 v123 v124 v125 v129 v130 v131 v132 v133 v134 v135 v136 f109 f100 f127 f107 f102 f111 f104 f118 f119 f105 f128 f110 f103 f106 f108 f137 nS477 fS477 = some (r0, o118, o119, o127, o128, o137, w117, w120, w121, w122, w123, w124, w125, w131, w136)) : Met l yX13_flows (.code yX13_flows cX13_flows 10 (some .boolean) :: VS_h9) ({ frames := 13, cells := 0, slots := 0, locals := 300 }) (va_Pc [.ref h0, .int a1, .int a2] (fun U => U.heap.size = sz ∧ va_P (dC, dI) vwCl [(h0, .inr (13, zs)), (qf109, .inl (cf109, 96, .inl f109)), (qf100, .inl (cf100, 48000, .inl f100)), (qf127, .inl (cf127, 30, .inl f127)), (qf107, .inl (cf107, 96, .inl f107)), (qf102, .inl (cf102, 2048, .inl f102)), (qf111, .inl (cf111, 96, .inl f111)), (qf104, .inl (cf104, 8, .inl f104)), (qf118, .inl (cf118, 2100, .inl f118)), (qf119, .inl (cf119, 2100, .inl f119)), (qf105, .inl (cf105, 8, .inl f105)), (qf128, .inl (cf128, 31, .inl f128)), (qf110, .inl (cf110, 96, .inl f110)), (qf103, .inl (cf103, 8, .inl f103)), (qf106, .inl (cf106, 8, .inl f106)), (qf108, .inl (cf108, 8, .inl f108)), (qf137, .inl (cf137, 6, .inl f137))] U.heap ∧ va_K (dC, dI) vwCl [(cf109, .int), (cf100, .int), (cf127, .int), (cf107, .int), (cf102, .int), (cf111, .int), (cf104, .int), (cf118, .int), (cf119, .int), (cf105, .int), (cf128, .int), (cf110, .int), (cf103, .int), (cf106, .int), (cf108, .int), (cf137, .int)] U ∧ va_D (fun _ => True) [(h0, .inr (13, zs)), (qf109, .inl (cf109, 96, .inl f109)), (qf100, .inl (cf100, 48000, .inl f100)), (qf127, .inl (cf127, 30, .inl f127)), (qf107, .inl (cf107, 96, .inl f107)), (qf102, .inl (cf102, 2048, .inl f102)), (qf111, .inl (cf111, 96, .inl f111)), (qf104, .inl (cf104, 8, .inl f104)), (qf118, .inl (cf118, 2100, .inl f118)), (qf119, .inl (cf119, 2100, .inl f119)), (qf105, .inl (cf105, 8, .inl f105)), (qf128, .inl (cf128, 31, .inl f128)), (qf110, .inl (cf110, 96, .inl f110)), (qf103, .inl (cf103, 8, .inl f103)), (qf106, .inl (cf106, 8, .inl f106)), (qf108, .inl (cf108, 8, .inl f108)), (qf137, .inl (cf137, 6, .inl f137))] ∧ pz_W nS477 fS477 hS477 qS477 (va_A [(h0, .inr (13, zs)), (qf109, .inl (cf109, 96, .inl f109)), (qf100, .inl (cf100, 48000, .inl f100)), (qf127, .inl (cf127, 30, .inl f127)), (qf107, .inl (cf107, 96, .inl f107)), (qf102, .inl (cf102, 2048, .inl f102)), (qf111, .inl (cf111, 96, .inl f111)), (qf104, .inl (cf104, 8, .inl f104)), (qf118, .inl (cf118, 2100, .inl f118)), (qf119, .inl (cf119, 2100, .inl f119)), (qf105, .inl (cf105, 8, .inl f105)), (qf128, .inl (cf128, 31, .inl f128)), (qf110, .inl (cf110, 96, .inl f110)), (qf103, .inl (cf103, 8, .inl f103)), (qf106, .inl (cf106, 8, .inl f106)), (qf108, .inl (cf108, 8, .inl f108)), (qf137, .inl (cf137, 6, .inl f137))] sz) U U.heap ∧ vk_R RX13 477 tS477 hS477 U)) (va_Qi (fun (r : Int32) (u : (List Value)) => match u with | (zo1) => (r0 = r ∧ (r0 = 0 ∨ r0 = 1)) ∧ zo1.length = 155 ∧ (∀ j : Nat, j ≠ 117 → j ≠ 120 → j ≠ 121 → j ≠ 122 → j ≠ 123 → j ≠ 124 → j ≠ 125 → j ≠ 131 → j ≠ 136 → zo1[j]? = zs[j]?) ∧ zo1[117]? = some (.int w117) ∧ zo1[120]? = some (.int w120) ∧ zo1[121]? = some (.int w121) ∧ zo1[122]? = some (.int w122) ∧ zo1[123]? = some (.int w123) ∧ zo1[124]? = some (.int w124) ∧ zo1[125]? = some (.int w125) ∧ zo1[131]? = some (.int w131) ∧ zo1[136]? = some (.int w136)) (fun (u : (List Value)) (t : State) => match u with | (zo1) => va_P (dC, dI) vwCl [(h0, .inr (13, zo1)), (qf109, .inl (cf109, 96, .inl f109)), (qf100, .inl (cf100, 48000, .inl f100)), (qf127, .inl (cf127, 30, .inl o127)), (qf107, .inl (cf107, 96, .inl f107)), (qf102, .inl (cf102, 2048, .inl f102)), (qf111, .inl (cf111, 96, .inl f111)), (qf104, .inl (cf104, 8, .inl f104)), (qf118, .inl (cf118, 2100, .inl o118)), (qf119, .inl (cf119, 2100, .inl o119)), (qf105, .inl (cf105, 8, .inl f105)), (qf128, .inl (cf128, 31, .inl o128)), (qf110, .inl (cf110, 96, .inl f110)), (qf103, .inl (cf103, 8, .inl f103)), (qf106, .inl (cf106, 8, .inl f106)), (qf108, .inl (cf108, 8, .inl f108)), (qf137, .inl (cf137, 6, .inl o137))] t.heap ∧ va_K (dC, dI) vwCl [(cf109, .int), (cf100, .int), (cf127, .int), (cf107, .int), (cf102, .int), (cf111, .int), (cf104, .int), (cf118, .int), (cf119, .int), (cf105, .int), (cf128, .int), (cf110, .int), (cf103, .int), (cf106, .int), (cf108, .int), (cf137, .int)] t ∧ va_D (va_A [(h0, .inr (13, zs)), (qf109, .inl (cf109, 96, .inl f109)), (qf100, .inl (cf100, 48000, .inl f100)), (qf127, .inl (cf127, 30, .inl f127)), (qf107, .inl (cf107, 96, .inl f107)), (qf102, .inl (cf102, 2048, .inl f102)), (qf111, .inl (cf111, 96, .inl f111)), (qf104, .inl (cf104, 8, .inl f104)), (qf118, .inl (cf118, 2100, .inl f118)), (qf119, .inl (cf119, 2100, .inl f119)), (qf105, .inl (cf105, 8, .inl f105)), (qf128, .inl (cf128, 31, .inl f128)), (qf110, .inl (cf110, 96, .inl f110)), (qf103, .inl (cf103, 8, .inl f103)), (qf106, .inl (cf106, 8, .inl f106)), (qf108, .inl (cf108, 8, .inl f108)), (qf137, .inl (cf137, 6, .inl f137))] sz) [(h0, .inr (13, zo1)), (qf109, .inl (cf109, 96, .inl f109)), (qf100, .inl (cf100, 48000, .inl f100)), (qf127, .inl (cf127, 30, .inl o127)), (qf107, .inl (cf107, 96, .inl f107)), (qf102, .inl (cf102, 2048, .inl f102)), (qf111, .inl (cf111, 96, .inl f111)), (qf104, .inl (cf104, 8, .inl f104)), (qf118, .inl (cf118, 2100, .inl o118)), (qf119, .inl (cf119, 2100, .inl o119)), (qf105, .inl (cf105, 8, .inl f105)), (qf128, .inl (cf128, 31, .inl o128)), (qf110, .inl (cf110, 96, .inl f110)), (qf103, .inl (cf103, 8, .inl f103)), (qf106, .inl (cf106, 8, .inl f106)), (qf108, .inl (cf108, 8, .inl f108)), (qf137, .inl (cf137, 6, .inl o137))]) (va_A [(h0, .inr (13, zs)), (qf109, .inl (cf109, 96, .inl f109)), (qf100, .inl (cf100, 48000, .inl f100)), (qf127, .inl (cf127, 30, .inl f127)), (qf107, .inl (cf107, 96, .inl f107)), (qf102, .inl (cf102, 2048, .inl f102)), (qf111, .inl (cf111, 96, .inl f111)), (qf104, .inl (cf104, 8, .inl f104)), (qf118, .inl (cf118, 2100, .inl f118)), (qf119, .inl (cf119, 2100, .inl f119)), (qf105, .inl (cf105, 8, .inl f105)), (qf128, .inl (cf128, 31, .inl f128)), (qf110, .inl (cf110, 96, .inl f110)), (qf103, .inl (cf103, 8, .inl f103)), (qf106, .inl (cf106, 8, .inl f106)), (qf108, .inl (cf108, 8, .inl f108)), (qf137, .inl (cf137, 6, .inl f137))] sz)) 0 0 (va_A [(h0, .inr (13, zs)), (qf109, .inl (cf109, 96, .inl f109)), (qf100, .inl (cf100, 48000, .inl f100)), (qf127, .inl (cf127, 30, .inl f127)), (qf107, .inl (cf107, 96, .inl f107)), (qf102, .inl (cf102, 2048, .inl f102)), (qf111, .inl (cf111, 96, .inl f111)), (qf104, .inl (cf104, 8, .inl f104)), (qf118, .inl (cf118, 2100, .inl f118)), (qf119, .inl (cf119, 2100, .inl f119)), (qf105, .inl (cf105, 8, .inl f105)), (qf128, .inl (cf128, 31, .inl f128)), (qf110, .inl (cf110, 96, .inl f110)), (qf103, .inl (cf103, 8, .inl f103)), (qf106, .inl (cf106, 8, .inl f106)), (qf108, .inl (cf108, 8, .inl f108)), (qf137, .inl (cf137, 6, .inl f137))] sz) := by
  refine Met.ofW (cc := cX13_flows) (maxL := 10) (ret := (some .boolean)) (by decide) rfl ?_
  intro p e s m args below meth c s₁ B hml hv
  obtain ⟨rfl, hsz, hP, hK, hD0, hZWS477, hZRS477⟩ := hv
  have hx := B.exec
  have hb := B.bytes
  have hr := B.returns
  have hts := atoms_spec (ws := (.code yX13_flows cX13_flows 10 (some .boolean) :: VS_h9)) B.pre
  replace hts := fun w (h : w ∈ VS_h9) => hts w (List.mem_cons_of_mem _ h)
  have hown : s.vm.findClass RX13 = some m.cls := findClass_of_methodNamed B.named
  have hlocks := B.notSynchronized
  subst hsz
  have hD := hD0.self (sz := s.heap.size)
  generalize hAe : va_A [(h0, .inr (13, zs)), (qf109, .inl (cf109, 96, .inl f109)), (qf100, .inl (cf100, 48000, .inl f100)), (qf127, .inl (cf127, 30, .inl f127)), (qf107, .inl (cf107, 96, .inl f107)), (qf102, .inl (cf102, 2048, .inl f102)), (qf111, .inl (cf111, 96, .inl f111)), (qf104, .inl (cf104, 8, .inl f104)), (qf118, .inl (cf118, 2100, .inl f118)), (qf119, .inl (cf119, 2100, .inl f119)), (qf105, .inl (cf105, 8, .inl f105)), (qf128, .inl (cf128, 31, .inl f128)), (qf110, .inl (cf110, 96, .inl f110)), (qf103, .inl (cf103, 8, .inl f103)), (qf106, .inl (cf106, 8, .inl f106)), (qf108, .inl (cf108, 8, .inl f108)), (qf137, .inl (cf137, 6, .inl f137))] s.heap.size = A at hD hZWS477 ⊢
  have hA : ∀ q : Nat, s.heap.size ≤ q → A q := fun q h => by rw [← hAe]; exact Or.inr h
  have hP : va_P (dC, dI) vwCl [(h0, .inr (13, zs)), (qf109, .inl (cf109, 96, .inl f109)), (qf100, .inl (cf100, 48000, .inl f100)), (qf127, .inl (cf127, 30, .inl f127)), (qf107, .inl (cf107, 96, .inl f107)), (qf102, .inl (cf102, 2048, .inl f102)), (qf111, .inl (cf111, 96, .inl f111)), (qf104, .inl (cf104, 8, .inl f104)), (qf118, .inl (cf118, 2100, .inl f118)), (qf119, .inl (cf119, 2100, .inl f119)), (qf105, .inl (cf105, 8, .inl f105)), (qf128, .inl (cf128, 31, .inl f128)), (qf110, .inl (cf110, 96, .inl f110)), (qf103, .inl (cf103, 8, .inl f103)), (qf106, .inl (cf106, 8, .inl f106)), (qf108, .inl (cf108, 8, .inl f108)), (qf137, .inl (cf137, 6, .inl f137))] s.heap := hP
  have hl := lv_entry ([.ref h0, .int a1, .int a2]) (n := 10) (Nat.le_of_ble_eq_true rfl)
  rw [lg_entry_eq]
  generalize (lg_sl ([.ref h0, .int a1, .int a2]) ++ List.replicate (10 - (lg_sl ([.ref h0, .int a1, .int a2])).length) Slot.unset).toArray = ls at hl ⊢
  have hl : lv_has ls 10 [(0, .ref h0), (1, .int a1), (2, .int a2)] := hl
  obtain ⟨H, hH⟩ : ∃ H : Heap, s.heap = H := ⟨_, rfl⟩
  rw [hH] at hP ⊢
  have hS : va_S A s.heap H [] := by rw [← hH]; exact va_S.rf
  obtain ⟨locs, hlo⟩ : ∃ locs : List Loc, locs = [] := ⟨_, rfl⟩
  rw [← hlo] at hS ⊢
  have hrs0 : ∀ j : Nat, j ≠ 117 → j ≠ 120 → j ≠ 121 → j ≠ 122 → j ≠ 123 → j ≠ 124 → j ≠ 125 → j ≠ 131 → j ≠ 136 → zs[j]? = zs[j]? := fun _ _ _ _ _ _ _ _ _ _  => rfl
  unfold sp_vm_flows at hsp
  refine jn_use (α := Heap × List Loc × Array Slot × List Value × Int32 × Int32 × Int32 × (Nat → Int32) × (Nat → Int32) × (Nat → Int32) × (Nat → Int32) × (Nat → Int32) × Int32 × Int32 × Int32 × Int32 × Int32 × Int32 × Int32 × Int32 × Int32) (fun x9 => x9.1) (fun x9 => x9.2.1) (fun x9 => F0 m 68 x9.2.2.1 []) (fun x9 => match x9 with | (H, locs, ls, z68, l1_68, l2_68, l3_68, g118_68, g119_68, g127_68, g128_68, g137_68, x117_68, x120_68, x121_68, x122_68, x123_68, x124_68, x125_68, x131_68, x136_68) => lv_has ls 10 [(0, .ref h0), (1, .int l1_68), (2, .int l2_68), (3, .int l3_68)] ∧ va_S A s.heap H locs ∧ va_D A [(h0, .inr (13, z68)), (qf109, .inl (cf109, 96, .inl f109)), (qf100, .inl (cf100, 48000, .inl f100)), (qf127, .inl (cf127, 30, .inl g127_68)), (qf107, .inl (cf107, 96, .inl f107)), (qf102, .inl (cf102, 2048, .inl f102)), (qf111, .inl (cf111, 96, .inl f111)), (qf104, .inl (cf104, 8, .inl f104)), (qf118, .inl (cf118, 2100, .inl g118_68)), (qf119, .inl (cf119, 2100, .inl g119_68)), (qf105, .inl (cf105, 8, .inl f105)), (qf128, .inl (cf128, 31, .inl g128_68)), (qf110, .inl (cf110, 96, .inl f110)), (qf103, .inl (cf103, 8, .inl f103)), (qf106, .inl (cf106, 8, .inl f106)), (qf108, .inl (cf108, 8, .inl f108)), (qf137, .inl (cf137, 6, .inl g137_68))] ∧ va_P (dC, dI) vwCl [(h0, .inr (13, z68)), (qf109, .inl (cf109, 96, .inl f109)), (qf100, .inl (cf100, 48000, .inl f100)), (qf127, .inl (cf127, 30, .inl g127_68)), (qf107, .inl (cf107, 96, .inl f107)), (qf102, .inl (cf102, 2048, .inl f102)), (qf111, .inl (cf111, 96, .inl f111)), (qf104, .inl (cf104, 8, .inl f104)), (qf118, .inl (cf118, 2100, .inl g118_68)), (qf119, .inl (cf119, 2100, .inl g119_68)), (qf105, .inl (cf105, 8, .inl f105)), (qf128, .inl (cf128, 31, .inl g128_68)), (qf110, .inl (cf110, 96, .inl f110)), (qf103, .inl (cf103, 8, .inl f103)), (qf106, .inl (cf106, 8, .inl f106)), (qf108, .inl (cf108, 8, .inl f108)), (qf137, .inl (cf137, 6, .inl g137_68))] H ∧ z68[98]? = some (.int v98) ∧ z68[100]? = some (.ref qf100) ∧ z68[102]? = some (.ref qf102) ∧ z68[103]? = some (.ref qf103) ∧ z68[104]? = some (.ref qf104) ∧ z68[105]? = some (.ref qf105) ∧ z68[106]? = some (.ref qf106) ∧ z68[107]? = some (.ref qf107) ∧ z68[108]? = some (.ref qf108) ∧ z68[109]? = some (.ref qf109) ∧ z68[110]? = some (.ref qf110) ∧ z68[111]? = some (.ref qf111) ∧ z68[117]? = some (.int x117_68) ∧ z68[118]? = some (.ref qf118) ∧ z68[119]? = some (.ref qf119) ∧ z68[120]? = some (.int x120_68) ∧ z68[121]? = some (.int x121_68) ∧ z68[122]? = some (.int x122_68) ∧ z68[123]? = some (.int x123_68) ∧ z68[124]? = some (.int x124_68) ∧ z68[125]? = some (.int x125_68) ∧ z68[127]? = some (.ref qf127) ∧ z68[128]? = some (.ref qf128) ∧ z68[129]? = some (.int v129) ∧ z68[130]? = some (.int v130) ∧ z68[131]? = some (.int x131_68) ∧ z68[132]? = some (.int v132) ∧ z68[133]? = some (.int v133) ∧ z68[134]? = some (.int v134) ∧ z68[135]? = some (.int v135) ∧ z68[136]? = some (.int x136_68) ∧ z68[137]? = some (.ref qf137) ∧ z68.length = 155 ∧ (∀ j : Nat, j ≠ 117 → j ≠ 120 → j ≠ 121 → j ≠ 122 → j ≠ 123 → j ≠ 124 → j ≠ 125 → j ≠ 131 → j ≠ 136 → z68[j]? = zs[j]?) ∧ jn_vm_flows_68 nf a1 a2 v98 v117 v120 v121 v122 v123 v124 v125 v129 v130 v131 v132 v133 v134 v135 v136 f109 f100 f127 f107 f102 f111 f104 f118 f119 f105 f128 f110 f103 f106 f108 f137 nS477 fS477 l1_68 l2_68 l3_68 g118_68 g119_68 g127_68 g128_68 g137_68 x117_68 x120_68 x121_68 x122_68 x123_68 x124_68 x125_68 x131_68 x136_68 = some (r0, o118, o119, o127, o128, o137, w117, w120, w121, w122, w123, w124, w125, w131, w136)) ?_ ?_
  · intro x9 hJ9
    obtain ⟨H, locs, ls, z68, l1_68, l2_68, l3_68, g118_68, g119_68, g127_68, g128_68, g137_68, x117_68, x120_68, x121_68, x122_68, x123_68, x124_68, x125_68, x131_68, x136_68⟩ := x9
    obtain ⟨hl, hS, hD, hP, hfh_68_98, hfh_68_100, hfh_68_102, hfh_68_103, hfh_68_104, hfh_68_105, hfh_68_106, hfh_68_107, hfh_68_108, hfh_68_109, hfh_68_110, hfh_68_111, hfh_68_117, hfh_68_118, hfh_68_119, hfh_68_120, hfh_68_121, hfh_68_122, hfh_68_123, hfh_68_124, hfh_68_125, hfh_68_127, hfh_68_128, hfh_68_129, hfh_68_130, hfh_68_131, hfh_68_132, hfh_68_133, hfh_68_134, hfh_68_135, hfh_68_136, hfh_68_137, hlh_68, hrh_68, hsp⟩ := hJ9
    replace hl : lv_has ls 10 [(0, .ref h0), (1, .int l1_68), (2, .int l2_68), (3, .int l3_68)] := hl
    replace hS : va_S A s.heap H locs := hS
    replace hD : va_D A [(h0, .inr (13, z68)), (qf109, .inl (cf109, 96, .inl f109)), (qf100, .inl (cf100, 48000, .inl f100)), (qf127, .inl (cf127, 30, .inl g127_68)), (qf107, .inl (cf107, 96, .inl f107)), (qf102, .inl (cf102, 2048, .inl f102)), (qf111, .inl (cf111, 96, .inl f111)), (qf104, .inl (cf104, 8, .inl f104)), (qf118, .inl (cf118, 2100, .inl g118_68)), (qf119, .inl (cf119, 2100, .inl g119_68)), (qf105, .inl (cf105, 8, .inl f105)), (qf128, .inl (cf128, 31, .inl g128_68)), (qf110, .inl (cf110, 96, .inl f110)), (qf103, .inl (cf103, 8, .inl f103)), (qf106, .inl (cf106, 8, .inl f106)), (qf108, .inl (cf108, 8, .inl f108)), (qf137, .inl (cf137, 6, .inl g137_68))] := hD
    replace hP : va_P (dC, dI) vwCl [(h0, .inr (13, z68)), (qf109, .inl (cf109, 96, .inl f109)), (qf100, .inl (cf100, 48000, .inl f100)), (qf127, .inl (cf127, 30, .inl g127_68)), (qf107, .inl (cf107, 96, .inl f107)), (qf102, .inl (cf102, 2048, .inl f102)), (qf111, .inl (cf111, 96, .inl f111)), (qf104, .inl (cf104, 8, .inl f104)), (qf118, .inl (cf118, 2100, .inl g118_68)), (qf119, .inl (cf119, 2100, .inl g119_68)), (qf105, .inl (cf105, 8, .inl f105)), (qf128, .inl (cf128, 31, .inl g128_68)), (qf110, .inl (cf110, 96, .inl f110)), (qf103, .inl (cf103, 8, .inl f103)), (qf106, .inl (cf106, 8, .inl f106)), (qf108, .inl (cf108, 8, .inl f108)), (qf137, .inl (cf137, 6, .inl g137_68))] H := hP
    replace hsp : jn_vm_flows_68 nf a1 a2 v98 v117 v120 v121 v122 v123 v124 v125 v129 v130 v131 v132 v133 v134 v135 v136 f109 f100 f127 f107 f102 f111 f104 f118 f119 f105 f128 f110 f103 f106 f108 f137 nS477 fS477 l1_68 l2_68 l3_68 g118_68 g119_68 g127_68 g128_68 g137_68 x117_68 x120_68 x121_68 x122_68 x123_68 x124_68 x125_68 x131_68 x136_68 = some (r0, o118, o119, o127, o128, o137, w117, w120, w121, w122, w123, w124, w125, w131, w136) := hsp
    show W _ _ _ _ _ _ _ _ _ _ H locs _ _ _ (F0 m 68 ls [])
    unfold jn_vm_flows_68 at hsp
    try dsimp only at hsp
    refine lv_sipush (v := 6000) hx hb dX13_flows_68 (by decide) ?_
    refine lv_aload_n hx hb dX13_flows_71 rfl (lv_at hl 0 rfl) ?_
    refine va_get (D := (dC, dI)) (ci := 13) (v := .int v132) (C := RX13) (T := TX13) (N := 155) hx hb hts uV_h9_X13 hown hK hP 0 rfl rfl 132 (by decide) (hts (.fieldLink RX13 932 "ClassMillModel" "inClass" "I") mw_h9_549) (fun _ h9 => h9) hfh_68_132 dX13_flows_72 ?_
    refine lv_imul hx hb dX13_flows_75 ?_
    refine lv_aload_n hx hb dX13_flows_76 rfl (lv_at hl 0 rfl) ?_
    refine va_get (D := (dC, dI)) (ci := 13) (v := .ref qf102) (C := RX13) (T := TX13) (N := 155) hx hb hts uV_h9_X13 hown hK hP 0 rfl rfl 102 (by decide) (hts (.fieldLink RX13 215 "ClassMillModel" "constantAt" "[I") mw_h9_267) (fun _ h9 => h9) hfh_68_102 dX13_flows_77 ?_
    refine lv_sipush (v := 256) hx hb dX13_flows_80 (by decide) ?_
    refine lv_aload_n hx hb dX13_flows_83 rfl (lv_at hl 0 rfl) ?_
    refine va_get (D := (dC, dI)) (ci := 13) (v := .int v132) (C := RX13) (T := TX13) (N := 155) hx hb hts uV_h9_X13 hown hK hP 0 rfl rfl 132 (by decide) (hts (.fieldLink RX13 932 "ClassMillModel" "inClass" "I") mw_h9_549) (fun _ h9 => h9) hfh_68_132 dX13_flows_84 ?_
    refine lv_imul hx hb dX13_flows_87 ?_
    refine lv_aload_n hx hb dX13_flows_88 rfl (lv_at hl 0 rfl) ?_
    refine lv_aload_n hx hb dX13_flows_89 rfl (lv_at hl 0 rfl) ?_
    refine va_get (D := (dC, dI)) (ci := 13) (v := .int v132) (C := RX13) (T := TX13) (N := 155) hx hb hts uV_h9_X13 hown hK hP 0 rfl rfl 132 (by decide) (hts (.fieldLink RX13 932 "ClassMillModel" "inClass" "I") mw_h9_549) (fun _ h9 => h9) hfh_68_132 dX13_flows_90 ?_
    refine lv_iload_n hx hb dX13_flows_93 rfl (lv_at hl 2 rfl) ?_
    refine lv_iconst (v := 1) hx hb dX13_flows_94 (by decide) ?_
    obtain ⟨u2_0, hu_2, hsp⟩ := ox_bind hsp
    try dsimp only at hsp
    have hPc := hP.sub (ws' := [(h0, .inr (13, z68)), (qf107, .inl (cf107, 96, .inl f107)), (qf100, .inl (cf100, 48000, .inl f100)), (qf109, .inl (cf109, 96, .inl f109))]) [0, 4, 2, 1] rfl
    have hDc := hD.sub (ws' := [(h0, .inr (13, z68)), (qf107, .inl (cf107, 96, .inl f107)), (qf100, .inl (cf100, 48000, .inl f100)), (qf109, .inl (cf109, 96, .inl f109))]) [0, 4, 2, 1] (by decide) rfl
    have hKc := hK.sub (tys' := [(cf107, .int), (cf100, .int), (cf109, .int)]) [3, 1, 0] rfl
    have hFc := va_free (wc := [(h0, .inr (13, z68)), (qf107, .inl (cf107, 96, .inl f107)), (qf100, .inl (cf100, 48000, .inl f100)), (qf109, .inl (cf109, 96, .inl f109))]) hD hS hA [0, 4, 2, 1] rfl
    refine va_calli (va_runV (As := [.int v132, .int l2_68, .int 1]) (rest := [.int (256 * v132), .ref qf102, .int (6000 * v132)]) ⟨hx, hb, hml, hown, hts⟩ (tm_kindText l dC dI H.size h0 z68 v132 l2_68 1 qf100 qf107 qf109 cf107 f107 cf100 f100 cf109 f109 nf u2_0 hlh_68 hfh_68_100 hfh_68_107 hfh_68_109 hu_2) (cwV 3 hts gv_h9_57 rfl rfl rfl (by decide +kernel) ⟨Nat.le_of_ble_eq_true rfl, Nat.le_of_ble_eq_true rfl⟩) ⟨fun a U g mk q => by obtain ⟨q0, q1, qP, qK, qD⟩ := q; exact ⟨q0, q1, qP, va_K.moved (u := U) (U := U.calling g mk a) (Vm.Alike.refl U.vm) qK, qD⟩, va_recv hKc hPc (ci := 13) (q0 := 0) rfl rfl, fun U hU hW => ⟨rfl, by rw [hU], by rw [hU]; exact hPc, va_K.moved hW.alike hKc, hDc.weaken (fun _ _ _ _ => trivial)⟩⟩ rfl rfl hl.1 rfl (lv_room (Nat.le_of_ble_eq_true rfl)) dX13_flows_95 ⟨Nat.le_of_ble_eq_true rfl, Nat.le_of_ble_eq_true rfl⟩) hS (fun q _ h => hFc q h) hFc ?_
    clear hS
    intro r_8 u t H1 locs ht hvm hw hB hz1 hk1 hS
    obtain ⟨z_2, rfl⟩ : ∃ z, z = u := ⟨_, rfl⟩
    obtain ⟨hP1, hK1, hD1⟩ := hB
    rw [ht] at hP1
    have hK1 := va_K.moved hvm.symm hK1
    try dsimp only at hw
    have hPD := va_join (wr := [(qf127, .inl (cf127, 30, .inl g127_68)), (qf102, .inl (cf102, 2048, .inl f102)), (qf111, .inl (cf111, 96, .inl f111)), (qf104, .inl (cf104, 8, .inl f104)), (qf118, .inl (cf118, 2100, .inl g118_68)), (qf119, .inl (cf119, 2100, .inl g119_68)), (qf105, .inl (cf105, 8, .inl f105)), (qf128, .inl (cf128, 31, .inl g128_68)), (qf110, .inl (cf110, 96, .inl f110)), (qf103, .inl (cf103, 8, .inl f103)), (qf106, .inl (cf106, 8, .inl f106)), (qf108, .inl (cf108, 8, .inl f108)), (qf137, .inl (cf137, 6, .inl g137_68))]) (w1 := [(h0, .inr (13, z_2)), (qf107, .inl (cf107, 96, .inl f107)), (qf100, .inl (cf100, 48000, .inl f100)), (qf109, .inl (cf109, 96, .inl f109))]) hP hD [0, 4, 2, 1] [3, 5, 6, 7, 8, 9, 10, 11, 12, 13, 14, 15, 16] rfl rfl (by decide) (by decide) hk1 hFc hP1 hD1
    clear hP hD
    obtain ⟨hP, hD⟩ := hPD
    replace hK := (hK.sub (tys' := [(cf127, .int), (cf102, .int), (cf111, .int), (cf104, .int), (cf118, .int), (cf119, .int), (cf105, .int), (cf128, .int), (cf110, .int), (cf103, .int), (cf106, .int), (cf108, .int), (cf137, .int)]) [2, 4, 5, 6, 7, 8, 9, 10, 11, 12, 13, 14, 15] rfl).app hK1
    clear hPc hDc hKc hFc hP1 hK1 hD1 hz1 hk1 ht hvm
    generalize H1 = H at hP hS ⊢
    replace hP : va_P (dC, dI) vwCl [(qf127, .inl (cf127, 30, .inl g127_68)), (qf102, .inl (cf102, 2048, .inl f102)), (qf111, .inl (cf111, 96, .inl f111)), (qf104, .inl (cf104, 8, .inl f104)), (qf118, .inl (cf118, 2100, .inl g118_68)), (qf119, .inl (cf119, 2100, .inl g119_68)), (qf105, .inl (cf105, 8, .inl f105)), (qf128, .inl (cf128, 31, .inl g128_68)), (qf110, .inl (cf110, 96, .inl f110)), (qf103, .inl (cf103, 8, .inl f103)), (qf106, .inl (cf106, 8, .inl f106)), (qf108, .inl (cf108, 8, .inl f108)), (qf137, .inl (cf137, 6, .inl g137_68)), (h0, .inr (13, z_2)), (qf107, .inl (cf107, 96, .inl f107)), (qf100, .inl (cf100, 48000, .inl f100)), (qf109, .inl (cf109, 96, .inl f109))] H := hP
    replace hD : va_D A [(qf127, .inl (cf127, 30, .inl g127_68)), (qf102, .inl (cf102, 2048, .inl f102)), (qf111, .inl (cf111, 96, .inl f111)), (qf104, .inl (cf104, 8, .inl f104)), (qf118, .inl (cf118, 2100, .inl g118_68)), (qf119, .inl (cf119, 2100, .inl g119_68)), (qf105, .inl (cf105, 8, .inl f105)), (qf128, .inl (cf128, 31, .inl g128_68)), (qf110, .inl (cf110, 96, .inl f110)), (qf103, .inl (cf103, 8, .inl f103)), (qf106, .inl (cf106, 8, .inl f106)), (qf108, .inl (cf108, 8, .inl f108)), (qf137, .inl (cf137, 6, .inl g137_68)), (h0, .inr (13, z_2)), (qf107, .inl (cf107, 96, .inl f107)), (qf100, .inl (cf100, 48000, .inl f100)), (qf109, .inl (cf109, 96, .inl f109))] := hD
    replace hK : va_K (dC, dI) vwCl [(cf127, .int), (cf102, .int), (cf111, .int), (cf104, .int), (cf118, .int), (cf119, .int), (cf105, .int), (cf128, .int), (cf110, .int), (cf103, .int), (cf106, .int), (cf108, .int), (cf137, .int), (cf107, .int), (cf100, .int), (cf109, .int)] s := hK
    obtain ⟨hwa_2, hln_2, hre_2⟩ := hw
    have hfk_2_98 : z_2[98]? = some (.int v98) := (hre_2 98 ).trans (hfh_68_98)
    have hfk_2_100 : z_2[100]? = some (.ref qf100) := (hre_2 100 ).trans (hfh_68_100)
    have hfk_2_102 : z_2[102]? = some (.ref qf102) := (hre_2 102 ).trans (hfh_68_102)
    have hfk_2_103 : z_2[103]? = some (.ref qf103) := (hre_2 103 ).trans (hfh_68_103)
    have hfk_2_104 : z_2[104]? = some (.ref qf104) := (hre_2 104 ).trans (hfh_68_104)
    have hfk_2_105 : z_2[105]? = some (.ref qf105) := (hre_2 105 ).trans (hfh_68_105)
    have hfk_2_106 : z_2[106]? = some (.ref qf106) := (hre_2 106 ).trans (hfh_68_106)
    have hfk_2_107 : z_2[107]? = some (.ref qf107) := (hre_2 107 ).trans (hfh_68_107)
    have hfk_2_108 : z_2[108]? = some (.ref qf108) := (hre_2 108 ).trans (hfh_68_108)
    have hfk_2_109 : z_2[109]? = some (.ref qf109) := (hre_2 109 ).trans (hfh_68_109)
    have hfk_2_110 : z_2[110]? = some (.ref qf110) := (hre_2 110 ).trans (hfh_68_110)
    have hfk_2_111 : z_2[111]? = some (.ref qf111) := (hre_2 111 ).trans (hfh_68_111)
    have hfk_2_117 : z_2[117]? = some (.int x117_68) := (hre_2 117 ).trans (hfh_68_117)
    have hfk_2_118 : z_2[118]? = some (.ref qf118) := (hre_2 118 ).trans (hfh_68_118)
    have hfk_2_119 : z_2[119]? = some (.ref qf119) := (hre_2 119 ).trans (hfh_68_119)
    have hfk_2_120 : z_2[120]? = some (.int x120_68) := (hre_2 120 ).trans (hfh_68_120)
    have hfk_2_121 : z_2[121]? = some (.int x121_68) := (hre_2 121 ).trans (hfh_68_121)
    have hfk_2_122 : z_2[122]? = some (.int x122_68) := (hre_2 122 ).trans (hfh_68_122)
    have hfk_2_123 : z_2[123]? = some (.int x123_68) := (hre_2 123 ).trans (hfh_68_123)
    have hfk_2_124 : z_2[124]? = some (.int x124_68) := (hre_2 124 ).trans (hfh_68_124)
    have hfk_2_125 : z_2[125]? = some (.int x125_68) := (hre_2 125 ).trans (hfh_68_125)
    have hfk_2_127 : z_2[127]? = some (.ref qf127) := (hre_2 127 ).trans (hfh_68_127)
    have hfk_2_128 : z_2[128]? = some (.ref qf128) := (hre_2 128 ).trans (hfh_68_128)
    have hfk_2_129 : z_2[129]? = some (.int v129) := (hre_2 129 ).trans (hfh_68_129)
    have hfk_2_130 : z_2[130]? = some (.int v130) := (hre_2 130 ).trans (hfh_68_130)
    have hfk_2_131 : z_2[131]? = some (.int x131_68) := (hre_2 131 ).trans (hfh_68_131)
    have hfk_2_132 : z_2[132]? = some (.int v132) := (hre_2 132 ).trans (hfh_68_132)
    have hfk_2_133 : z_2[133]? = some (.int v133) := (hre_2 133 ).trans (hfh_68_133)
    have hfk_2_134 : z_2[134]? = some (.int v134) := (hre_2 134 ).trans (hfh_68_134)
    have hfk_2_135 : z_2[135]? = some (.int v135) := (hre_2 135 ).trans (hfh_68_135)
    have hfk_2_136 : z_2[136]? = some (.int x136_68) := (hre_2 136 ).trans (hfh_68_136)
    have hfk_2_137 : z_2[137]? = some (.ref qf137) := (hre_2 137 ).trans (hfh_68_137)
    have hrq_2 : ∀ j : Nat, j ≠ 117 → j ≠ 120 → j ≠ 121 → j ≠ 122 → j ≠ 123 → j ≠ 124 → j ≠ 125 → j ≠ 131 → j ≠ 136 → z_2[j]? = zs[j]? := fun j g117 g120 g121 g122 g123 g124 g125 g131 g136 => (hre_2 j ).trans (hrh_68 j g117 g120 g121 g122 g123 g124 g125 g131 g136)
    obtain rfl := hwa_2
    refine lv_iadd hx hb dX13_flows_98 ?_
    obtain ⟨hi_9, hsp⟩ := ox_in hsp
    refine va_iald hx hb hK hP 1 1 rfl rfl (i := ((256 * v132) + u2_0)) hi_9 dX13_flows_99 ?_
    refine lv_iadd hx hb dX13_flows_100 ?_
    refine lv_iconst (v := 3) hx hb dX13_flows_101 (by decide) ?_
    refine lv_iadd hx hb dX13_flows_102 ?_
    refine lv_istore (lv' := [(4, .int (((6000 * v132) + (f102 (((256 * v132) + u2_0) : Int32).toNatClampNeg)) + 3)), (0, .ref h0), (1, .int l1_68), (2, .int l2_68), (3, .int l3_68)]) hx hb dX13_flows_103 hl (by decide) rfl (fun ls hl => ?_)
    replace hl : lv_has ls 10 [(4, .int (((6000 * v132) + (f102 (((256 * v132) + u2_0) : Int32).toNatClampNeg)) + 3)), (0, .ref h0), (1, .int l1_68), (2, .int l2_68), (3, .int l3_68)] := lv_sub hl [0, 1, 2, 3, 4] rfl
    replace hP := hP.sub (ws' := [(h0, .inr (13, z_2)), (qf109, .inl (cf109, 96, .inl f109)), (qf100, .inl (cf100, 48000, .inl f100)), (qf127, .inl (cf127, 30, .inl g127_68)), (qf107, .inl (cf107, 96, .inl f107)), (qf102, .inl (cf102, 2048, .inl f102)), (qf111, .inl (cf111, 96, .inl f111)), (qf104, .inl (cf104, 8, .inl f104)), (qf118, .inl (cf118, 2100, .inl g118_68)), (qf119, .inl (cf119, 2100, .inl g119_68)), (qf105, .inl (cf105, 8, .inl f105)), (qf128, .inl (cf128, 31, .inl g128_68)), (qf110, .inl (cf110, 96, .inl f110)), (qf103, .inl (cf103, 8, .inl f103)), (qf106, .inl (cf106, 8, .inl f106)), (qf108, .inl (cf108, 8, .inl f108)), (qf137, .inl (cf137, 6, .inl g137_68))]) [13, 16, 15, 0, 14, 1, 2, 3, 4, 5, 6, 7, 8, 9, 10, 11, 12] rfl
    replace hD := hD.sub (ws' := [(h0, .inr (13, z_2)), (qf109, .inl (cf109, 96, .inl f109)), (qf100, .inl (cf100, 48000, .inl f100)), (qf127, .inl (cf127, 30, .inl g127_68)), (qf107, .inl (cf107, 96, .inl f107)), (qf102, .inl (cf102, 2048, .inl f102)), (qf111, .inl (cf111, 96, .inl f111)), (qf104, .inl (cf104, 8, .inl f104)), (qf118, .inl (cf118, 2100, .inl g118_68)), (qf119, .inl (cf119, 2100, .inl g119_68)), (qf105, .inl (cf105, 8, .inl f105)), (qf128, .inl (cf128, 31, .inl g128_68)), (qf110, .inl (cf110, 96, .inl f110)), (qf103, .inl (cf103, 8, .inl f103)), (qf106, .inl (cf106, 8, .inl f106)), (qf108, .inl (cf108, 8, .inl f108)), (qf137, .inl (cf137, 6, .inl g137_68))]) [13, 16, 15, 0, 14, 1, 2, 3, 4, 5, 6, 7, 8, 9, 10, 11, 12] (by decide) rfl
    replace hK := hK.sub (tys' := [(cf109, .int), (cf100, .int), (cf127, .int), (cf107, .int), (cf102, .int), (cf111, .int), (cf104, .int), (cf118, .int), (cf119, .int), (cf105, .int), (cf128, .int), (cf110, .int), (cf103, .int), (cf106, .int), (cf108, .int), (cf137, .int)]) [15, 14, 0, 13, 1, 2, 3, 4, 5, 6, 7, 8, 9, 10, 11, 12] rfl
    obtain ⟨n_105, hn_105⟩ : ∃ z : Nat, z = nf := ⟨_, rfl⟩
    obtain ⟨l1_105, el1_105⟩ : ∃ z : Int32, z = l1_68 := ⟨_, rfl⟩
    obtain ⟨l2_105, el2_105⟩ : ∃ z : Int32, z = l2_68 := ⟨_, rfl⟩
    obtain ⟨l3_105, el3_105⟩ : ∃ z : Int32, z = l3_68 := ⟨_, rfl⟩
    obtain ⟨l4_105, el4_105⟩ : ∃ z : Int32, z = (((6000 * v132) + (f102 (((256 * v132) + u2_0) : Int32).toNatClampNeg)) + 3) := ⟨_, rfl⟩
    obtain ⟨g118_105, eg118_105⟩ : ∃ z : Nat → Int32, z = g118_68 := ⟨_, rfl⟩
    obtain ⟨g119_105, eg119_105⟩ : ∃ z : Nat → Int32, z = g119_68 := ⟨_, rfl⟩
    obtain ⟨g127_105, eg127_105⟩ : ∃ z : Nat → Int32, z = g127_68 := ⟨_, rfl⟩
    obtain ⟨g128_105, eg128_105⟩ : ∃ z : Nat → Int32, z = g128_68 := ⟨_, rfl⟩
    obtain ⟨g137_105, eg137_105⟩ : ∃ z : Nat → Int32, z = g137_68 := ⟨_, rfl⟩
    obtain ⟨x117_105, ex117_105⟩ : ∃ z : Int32, z = x117_68 := ⟨_, rfl⟩
    obtain ⟨x120_105, ex120_105⟩ : ∃ z : Int32, z = x120_68 := ⟨_, rfl⟩
    obtain ⟨x121_105, ex121_105⟩ : ∃ z : Int32, z = x121_68 := ⟨_, rfl⟩
    obtain ⟨x122_105, ex122_105⟩ : ∃ z : Int32, z = x122_68 := ⟨_, rfl⟩
    obtain ⟨x123_105, ex123_105⟩ : ∃ z : Int32, z = x123_68 := ⟨_, rfl⟩
    obtain ⟨x124_105, ex124_105⟩ : ∃ z : Int32, z = x124_68 := ⟨_, rfl⟩
    obtain ⟨x125_105, ex125_105⟩ : ∃ z : Int32, z = x125_68 := ⟨_, rfl⟩
    obtain ⟨x131_105, ex131_105⟩ : ∃ z : Int32, z = x131_68 := ⟨_, rfl⟩
    obtain ⟨x136_105, ex136_105⟩ : ∃ z : Int32, z = x136_68 := ⟨_, rfl⟩
    replace hsp : lp_vm_flows_105 nf n_105 a1 a2 v98 v117 v120 v121 v122 v123 v124 v125 v129 v130 v131 v132 v133 v134 v135 v136 f109 f100 f127 f107 f102 f111 f104 f118 f119 f105 f128 f110 f103 f106 f108 f137 nS477 fS477 l1_105 l2_105 l3_105 l4_105 g118_105 g119_105 g127_105 g128_105 g137_105 x117_105 x120_105 x121_105 x122_105 x123_105 x124_105 x125_105 x131_105 x136_105 = some (r0, o118, o119, o127, o128, o137, w117, w120, w121, w122, w123, w124, w125, w131, w136) := by rw [hn_105, el1_105, el2_105, el3_105, el4_105, eg118_105, eg119_105, eg127_105, eg128_105, eg137_105, ex117_105, ex120_105, ex121_105, ex122_105, ex123_105, ex124_105, ex125_105, ex131_105, ex136_105]; exact hsp
    replace hl : lv_has ls 10 [(4, .int l4_105), (0, .ref h0), (1, .int l1_105), (2, .int l2_105), (3, .int l3_105)] := by rw [el1_105, el2_105, el3_105, el4_105]; exact hl
    obtain ⟨z105, ez105⟩ : ∃ z : List Value, z = z_2 := ⟨_, rfl⟩
    have hfh_105_98 : z105[98]? = some (.int v98) := by rw [ez105]; exact hfk_2_98
    have hfh_105_100 : z105[100]? = some (.ref qf100) := by rw [ez105]; exact hfk_2_100
    have hfh_105_102 : z105[102]? = some (.ref qf102) := by rw [ez105]; exact hfk_2_102
    have hfh_105_103 : z105[103]? = some (.ref qf103) := by rw [ez105]; exact hfk_2_103
    have hfh_105_104 : z105[104]? = some (.ref qf104) := by rw [ez105]; exact hfk_2_104
    have hfh_105_105 : z105[105]? = some (.ref qf105) := by rw [ez105]; exact hfk_2_105
    have hfh_105_106 : z105[106]? = some (.ref qf106) := by rw [ez105]; exact hfk_2_106
    have hfh_105_107 : z105[107]? = some (.ref qf107) := by rw [ez105]; exact hfk_2_107
    have hfh_105_108 : z105[108]? = some (.ref qf108) := by rw [ez105]; exact hfk_2_108
    have hfh_105_109 : z105[109]? = some (.ref qf109) := by rw [ez105]; exact hfk_2_109
    have hfh_105_110 : z105[110]? = some (.ref qf110) := by rw [ez105]; exact hfk_2_110
    have hfh_105_111 : z105[111]? = some (.ref qf111) := by rw [ez105]; exact hfk_2_111
    have hfh_105_117 : z105[117]? = some (.int x117_105) := by rw [ez105, ex117_105]; exact hfk_2_117
    have hfh_105_118 : z105[118]? = some (.ref qf118) := by rw [ez105]; exact hfk_2_118
    have hfh_105_119 : z105[119]? = some (.ref qf119) := by rw [ez105]; exact hfk_2_119
    have hfh_105_120 : z105[120]? = some (.int x120_105) := by rw [ez105, ex120_105]; exact hfk_2_120
    have hfh_105_121 : z105[121]? = some (.int x121_105) := by rw [ez105, ex121_105]; exact hfk_2_121
    have hfh_105_122 : z105[122]? = some (.int x122_105) := by rw [ez105, ex122_105]; exact hfk_2_122
    have hfh_105_123 : z105[123]? = some (.int x123_105) := by rw [ez105, ex123_105]; exact hfk_2_123
    have hfh_105_124 : z105[124]? = some (.int x124_105) := by rw [ez105, ex124_105]; exact hfk_2_124
    have hfh_105_125 : z105[125]? = some (.int x125_105) := by rw [ez105, ex125_105]; exact hfk_2_125
    have hfh_105_127 : z105[127]? = some (.ref qf127) := by rw [ez105]; exact hfk_2_127
    have hfh_105_128 : z105[128]? = some (.ref qf128) := by rw [ez105]; exact hfk_2_128
    have hfh_105_129 : z105[129]? = some (.int v129) := by rw [ez105]; exact hfk_2_129
    have hfh_105_130 : z105[130]? = some (.int v130) := by rw [ez105]; exact hfk_2_130
    have hfh_105_131 : z105[131]? = some (.int x131_105) := by rw [ez105, ex131_105]; exact hfk_2_131
    have hfh_105_132 : z105[132]? = some (.int v132) := by rw [ez105]; exact hfk_2_132
    have hfh_105_133 : z105[133]? = some (.int v133) := by rw [ez105]; exact hfk_2_133
    have hfh_105_134 : z105[134]? = some (.int v134) := by rw [ez105]; exact hfk_2_134
    have hfh_105_135 : z105[135]? = some (.int v135) := by rw [ez105]; exact hfk_2_135
    have hfh_105_136 : z105[136]? = some (.int x136_105) := by rw [ez105, ex136_105]; exact hfk_2_136
    have hfh_105_137 : z105[137]? = some (.ref qf137) := by rw [ez105]; exact hfk_2_137
    have hlh_105 : z105.length = 155 := by rw [ez105]; exact hln_2
    have hrh_105 : ∀ j : Nat, j ≠ 117 → j ≠ 120 → j ≠ 121 → j ≠ 122 → j ≠ 123 → j ≠ 124 → j ≠ 125 → j ≠ 131 → j ≠ 136 → z105[j]? = zs[j]? := by rw [ez105]; exact hrq_2
    replace hP : va_P (dC, dI) vwCl [(h0, .inr (13, z105)), (qf109, .inl (cf109, 96, .inl f109)), (qf100, .inl (cf100, 48000, .inl f100)), (qf127, .inl (cf127, 30, .inl g127_105)), (qf107, .inl (cf107, 96, .inl f107)), (qf102, .inl (cf102, 2048, .inl f102)), (qf111, .inl (cf111, 96, .inl f111)), (qf104, .inl (cf104, 8, .inl f104)), (qf118, .inl (cf118, 2100, .inl g118_105)), (qf119, .inl (cf119, 2100, .inl g119_105)), (qf105, .inl (cf105, 8, .inl f105)), (qf128, .inl (cf128, 31, .inl g128_105)), (qf110, .inl (cf110, 96, .inl f110)), (qf103, .inl (cf103, 8, .inl f103)), (qf106, .inl (cf106, 8, .inl f106)), (qf108, .inl (cf108, 8, .inl f108)), (qf137, .inl (cf137, 6, .inl g137_105))] H := by rw [ez105, eg118_105, eg119_105, eg127_105, eg128_105, eg137_105]; exact hP
    replace hD : va_D A [(h0, .inr (13, z105)), (qf109, .inl (cf109, 96, .inl f109)), (qf100, .inl (cf100, 48000, .inl f100)), (qf127, .inl (cf127, 30, .inl g127_105)), (qf107, .inl (cf107, 96, .inl f107)), (qf102, .inl (cf102, 2048, .inl f102)), (qf111, .inl (cf111, 96, .inl f111)), (qf104, .inl (cf104, 8, .inl f104)), (qf118, .inl (cf118, 2100, .inl g118_105)), (qf119, .inl (cf119, 2100, .inl g119_105)), (qf105, .inl (cf105, 8, .inl f105)), (qf128, .inl (cf128, 31, .inl g128_105)), (qf110, .inl (cf110, 96, .inl f110)), (qf103, .inl (cf103, 8, .inl f103)), (qf106, .inl (cf106, 8, .inl f106)), (qf108, .inl (cf108, 8, .inl f108)), (qf137, .inl (cf137, 6, .inl g137_105))] := by rw [ez105, eg118_105, eg119_105, eg127_105, eg128_105, eg137_105]; exact hD
    clear hn_105 ez105 el1_105 el2_105 el3_105 el4_105 eg118_105 eg119_105 eg127_105 eg128_105 eg137_105 ex117_105 ex120_105 ex121_105 ex122_105 ex123_105 ex124_105 ex125_105 ex131_105 ex136_105
    try clear hlo
    try clear hH
    revert hsp
    revert hP
    revert hD
    revert hS
    revert hl
    revert hrh_105
    revert hlh_105
    revert hfh_105_137
    revert hfh_105_136
    revert hfh_105_135
    revert hfh_105_134
    revert hfh_105_133
    revert hfh_105_132
    revert hfh_105_131
    revert hfh_105_130
    revert hfh_105_129
    revert hfh_105_128
    revert hfh_105_127
    revert hfh_105_125
    revert hfh_105_124
    revert hfh_105_123
    revert hfh_105_122
    revert hfh_105_121
    revert hfh_105_120
    revert hfh_105_119
    revert hfh_105_118
    revert hfh_105_117
    revert hfh_105_111
    revert hfh_105_110
    revert hfh_105_109
    revert hfh_105_108
    revert hfh_105_107
    revert hfh_105_106
    revert hfh_105_105
    revert hfh_105_104
    revert hfh_105_103
    revert hfh_105_102
    revert hfh_105_100
    revert hfh_105_98
    revert x136_105
    revert x131_105
    revert x125_105
    revert x124_105
    revert x123_105
    revert x122_105
    revert x121_105
    revert x120_105
    revert x117_105
    revert g137_105
    revert g128_105
    revert g127_105
    revert g119_105
    revert g118_105
    revert l4_105
    revert l3_105
    revert l2_105
    revert l1_105
    revert z105
    revert ls
    revert locs
    revert H
    induction n_105 with
    | zero => intro H locs ls z105 l1_105 l2_105 l3_105 l4_105 g118_105 g119_105 g127_105 g128_105 g137_105 x117_105 x120_105 x121_105 x122_105 x123_105 x124_105 x125_105 x131_105 x136_105 hfh_105_98 hfh_105_100 hfh_105_102 hfh_105_103 hfh_105_104 hfh_105_105 hfh_105_106 hfh_105_107 hfh_105_108 hfh_105_109 hfh_105_110 hfh_105_111 hfh_105_117 hfh_105_118 hfh_105_119 hfh_105_120 hfh_105_121 hfh_105_122 hfh_105_123 hfh_105_124 hfh_105_125 hfh_105_127 hfh_105_128 hfh_105_129 hfh_105_130 hfh_105_131 hfh_105_132 hfh_105_133 hfh_105_134 hfh_105_135 hfh_105_136 hfh_105_137 hlh_105 hrh_105 hl hS hD hP hsp; unfold lp_vm_flows_105 at hsp; cases hsp
    | succ n_105 ih_105 =>
      intro H locs ls z105 l1_105 l2_105 l3_105 l4_105 g118_105 g119_105 g127_105 g128_105 g137_105 x117_105 x120_105 x121_105 x122_105 x123_105 x124_105 x125_105 x131_105 x136_105 hfh_105_98 hfh_105_100 hfh_105_102 hfh_105_103 hfh_105_104 hfh_105_105 hfh_105_106 hfh_105_107 hfh_105_108 hfh_105_109 hfh_105_110 hfh_105_111 hfh_105_117 hfh_105_118 hfh_105_119 hfh_105_120 hfh_105_121 hfh_105_122 hfh_105_123 hfh_105_124 hfh_105_125 hfh_105_127 hfh_105_128 hfh_105_129 hfh_105_130 hfh_105_131 hfh_105_132 hfh_105_133 hfh_105_134 hfh_105_135 hfh_105_136 hfh_105_137 hlh_105 hrh_105 hl hS hD hP hsp
      unfold lp_vm_flows_105 at hsp
      try dsimp only at hsp
      refine lv_aload_n hx hb dX13_flows_105 rfl (lv_at hl 1 rfl) ?_
      refine va_get (D := (dC, dI)) (ci := 13) (v := .ref qf100) (C := RX13) (T := TX13) (N := 155) hx hb hts uV_h9_X13 hown hK hP 0 rfl rfl 100 (by decide) (hts (.fieldLink RX13 209 "ClassMillModel" "bytes" "[I") mw_h9_266) (fun _ h9 => h9) hfh_105_100 dX13_flows_106 ?_
      refine lv_iload hx hb dX13_flows_109 (lv_at hl 0 rfl) ?_
      obtain ⟨hi_10, hsp⟩ := ox_in hsp
      refine va_iald hx hb hK hP 2 1 rfl rfl (i := l4_105) hi_10 dX13_flows_111 ?_
      refine lv_bipush (v := 41) hx hb dX13_flows_112 (by decide) ?_
      refine lv_icmp_eq (tgt := 141) hx hb dX13_flows_114 (by decide) (fun c_11 => ?_) (fun c_11 => ?_)
      · rw [if_pos c_11] at hsp
        refine lv_aload_n hx hb dX13_flows_141 rfl (lv_at hl 1 rfl) ?_
        refine lv_iload hx hb dX13_flows_142 (lv_at hl 0 rfl) ?_
        refine lv_iconst (v := 1) hx hb dX13_flows_144 (by decide) ?_
        refine lv_iadd hx hb dX13_flows_145 ?_
        refine va_put (D := (dC, dI)) (ci := 13) (v := .int (l4_105 + 1)) (ty := .int) (C := RX13) (T := TX13) (N := 155) hx hb hts uV_h9_X13 tyX13 tyX13_ok nmX13 hown hK hP hD hS 0 rfl rfl 136 (by decide) (hts (.fieldLink RX13 998 "ClassMillModel" "resultAt" "I") mw_h9_615) (fun _ h9 => h9) rfl (by decide +kernel) rfl rfl (by rw [hlh_105]; decide) dX13_flows_146 ?_
        clear hP hD hS
        intro H locs hP hD hS
        obtain ⟨fs_12, efs_12⟩ : ∃ zf : List Value, zf = z105.set 136 (.int (l4_105 + 1)) := ⟨_, rfl⟩
        rw [← efs_12] at hP hD
        have hlfs_12 : fs_12.length = 155 := by rw [efs_12, List.length_set]; exact hlh_105
        have hfs_12_98 : fs_12[98]? = some (.int v98) := by rw [efs_12, List.getElem?_set_ne (by decide)]; exact hfh_105_98
        have hfs_12_100 : fs_12[100]? = some (.ref qf100) := by rw [efs_12, List.getElem?_set_ne (by decide)]; exact hfh_105_100
        have hfs_12_102 : fs_12[102]? = some (.ref qf102) := by rw [efs_12, List.getElem?_set_ne (by decide)]; exact hfh_105_102
        have hfs_12_103 : fs_12[103]? = some (.ref qf103) := by rw [efs_12, List.getElem?_set_ne (by decide)]; exact hfh_105_103
        have hfs_12_104 : fs_12[104]? = some (.ref qf104) := by rw [efs_12, List.getElem?_set_ne (by decide)]; exact hfh_105_104
        have hfs_12_105 : fs_12[105]? = some (.ref qf105) := by rw [efs_12, List.getElem?_set_ne (by decide)]; exact hfh_105_105
        have hfs_12_106 : fs_12[106]? = some (.ref qf106) := by rw [efs_12, List.getElem?_set_ne (by decide)]; exact hfh_105_106
        have hfs_12_107 : fs_12[107]? = some (.ref qf107) := by rw [efs_12, List.getElem?_set_ne (by decide)]; exact hfh_105_107
        have hfs_12_108 : fs_12[108]? = some (.ref qf108) := by rw [efs_12, List.getElem?_set_ne (by decide)]; exact hfh_105_108
        have hfs_12_109 : fs_12[109]? = some (.ref qf109) := by rw [efs_12, List.getElem?_set_ne (by decide)]; exact hfh_105_109
        have hfs_12_110 : fs_12[110]? = some (.ref qf110) := by rw [efs_12, List.getElem?_set_ne (by decide)]; exact hfh_105_110
        have hfs_12_111 : fs_12[111]? = some (.ref qf111) := by rw [efs_12, List.getElem?_set_ne (by decide)]; exact hfh_105_111
        have hfs_12_117 : fs_12[117]? = some (.int x117_105) := by rw [efs_12, List.getElem?_set_ne (by decide)]; exact hfh_105_117
        have hfs_12_118 : fs_12[118]? = some (.ref qf118) := by rw [efs_12, List.getElem?_set_ne (by decide)]; exact hfh_105_118
        have hfs_12_119 : fs_12[119]? = some (.ref qf119) := by rw [efs_12, List.getElem?_set_ne (by decide)]; exact hfh_105_119
        have hfs_12_120 : fs_12[120]? = some (.int x120_105) := by rw [efs_12, List.getElem?_set_ne (by decide)]; exact hfh_105_120
        have hfs_12_121 : fs_12[121]? = some (.int x121_105) := by rw [efs_12, List.getElem?_set_ne (by decide)]; exact hfh_105_121
        have hfs_12_122 : fs_12[122]? = some (.int x122_105) := by rw [efs_12, List.getElem?_set_ne (by decide)]; exact hfh_105_122
        have hfs_12_123 : fs_12[123]? = some (.int x123_105) := by rw [efs_12, List.getElem?_set_ne (by decide)]; exact hfh_105_123
        have hfs_12_124 : fs_12[124]? = some (.int x124_105) := by rw [efs_12, List.getElem?_set_ne (by decide)]; exact hfh_105_124
        have hfs_12_125 : fs_12[125]? = some (.int x125_105) := by rw [efs_12, List.getElem?_set_ne (by decide)]; exact hfh_105_125
        have hfs_12_127 : fs_12[127]? = some (.ref qf127) := by rw [efs_12, List.getElem?_set_ne (by decide)]; exact hfh_105_127
        have hfs_12_128 : fs_12[128]? = some (.ref qf128) := by rw [efs_12, List.getElem?_set_ne (by decide)]; exact hfh_105_128
        have hfs_12_129 : fs_12[129]? = some (.int v129) := by rw [efs_12, List.getElem?_set_ne (by decide)]; exact hfh_105_129
        have hfs_12_130 : fs_12[130]? = some (.int v130) := by rw [efs_12, List.getElem?_set_ne (by decide)]; exact hfh_105_130
        have hfs_12_131 : fs_12[131]? = some (.int x131_105) := by rw [efs_12, List.getElem?_set_ne (by decide)]; exact hfh_105_131
        have hfs_12_132 : fs_12[132]? = some (.int v132) := by rw [efs_12, List.getElem?_set_ne (by decide)]; exact hfh_105_132
        have hfs_12_133 : fs_12[133]? = some (.int v133) := by rw [efs_12, List.getElem?_set_ne (by decide)]; exact hfh_105_133
        have hfs_12_134 : fs_12[134]? = some (.int v134) := by rw [efs_12, List.getElem?_set_ne (by decide)]; exact hfh_105_134
        have hfs_12_135 : fs_12[135]? = some (.int v135) := by rw [efs_12, List.getElem?_set_ne (by decide)]; exact hfh_105_135
        have hfs_12_137 : fs_12[137]? = some (.ref qf137) := by rw [efs_12, List.getElem?_set_ne (by decide)]; exact hfh_105_137
        have hfs_12_136 : fs_12[136]? = some (.int (l4_105 + 1)) := by rw [efs_12, List.getElem?_set_self (by rw [hlh_105]; decide)]
        replace hP : va_P (dC, dI) vwCl [(h0, .inr (13, fs_12)), (qf109, .inl (cf109, 96, .inl f109)), (qf100, .inl (cf100, 48000, .inl f100)), (qf127, .inl (cf127, 30, .inl g127_105)), (qf107, .inl (cf107, 96, .inl f107)), (qf102, .inl (cf102, 2048, .inl f102)), (qf111, .inl (cf111, 96, .inl f111)), (qf104, .inl (cf104, 8, .inl f104)), (qf118, .inl (cf118, 2100, .inl g118_105)), (qf119, .inl (cf119, 2100, .inl g119_105)), (qf105, .inl (cf105, 8, .inl f105)), (qf128, .inl (cf128, 31, .inl g128_105)), (qf110, .inl (cf110, 96, .inl f110)), (qf103, .inl (cf103, 8, .inl f103)), (qf106, .inl (cf106, 8, .inl f106)), (qf108, .inl (cf108, 8, .inl f108)), (qf137, .inl (cf137, 6, .inl g137_105))] H := hP
        replace hD : va_D A [(h0, .inr (13, fs_12)), (qf109, .inl (cf109, 96, .inl f109)), (qf100, .inl (cf100, 48000, .inl f100)), (qf127, .inl (cf127, 30, .inl g127_105)), (qf107, .inl (cf107, 96, .inl f107)), (qf102, .inl (cf102, 2048, .inl f102)), (qf111, .inl (cf111, 96, .inl f111)), (qf104, .inl (cf104, 8, .inl f104)), (qf118, .inl (cf118, 2100, .inl g118_105)), (qf119, .inl (cf119, 2100, .inl g119_105)), (qf105, .inl (cf105, 8, .inl f105)), (qf128, .inl (cf128, 31, .inl g128_105)), (qf110, .inl (cf110, 96, .inl f110)), (qf103, .inl (cf103, 8, .inl f103)), (qf106, .inl (cf106, 8, .inl f106)), (qf108, .inl (cf108, 8, .inl f108)), (qf137, .inl (cf137, 6, .inl g137_105))] := hD
        have hrs_13 : ∀ j : Nat, j ≠ 117 → j ≠ 120 → j ≠ 121 → j ≠ 122 → j ≠ 123 → j ≠ 124 → j ≠ 125 → j ≠ 131 → j ≠ 136 → fs_12[j]? = zs[j]? := fun j g117 g120 g121 g122 g123 g124 g125 g131 g136 => ((congrArg (fun z : List Value => z[j]?) efs_12).trans (List.getElem?_set_ne (Ne.symm g136))).trans (hrh_105 j g117 g120 g121 g122 g123 g124 g125 g131 g136)
        refine lv_iconst (v := 1) hx hb dX13_flows_149 (by decide) ?_
        refine lv_istore (lv' := [(5, .int 1), (4, .int l4_105), (0, .ref h0), (1, .int l1_105), (2, .int l2_105), (3, .int l3_105)]) hx hb dX13_flows_150 hl (by decide) rfl (fun ls hl => ?_)
        refine lv_iconst (v := 0) hx hb dX13_flows_152 (by decide) ?_
        refine lv_istore (lv' := [(6, .int 0), (5, .int 1), (4, .int l4_105), (0, .ref h0), (1, .int l1_105), (2, .int l2_105), (3, .int l3_105)]) hx hb dX13_flows_153 hl (by decide) rfl (fun ls hl => ?_)
        replace hl : lv_has ls 10 [(6, .int 0), (5, .int 1), (0, .ref h0), (1, .int l1_105), (2, .int l2_105)] := lv_sub hl [0, 1, 3, 4, 5] rfl
        replace hP := hP.sub (ws' := [(h0, .inr (13, fs_12)), (qf109, .inl (cf109, 96, .inl f109)), (qf100, .inl (cf100, 48000, .inl f100)), (qf127, .inl (cf127, 30, .inl g127_105)), (qf107, .inl (cf107, 96, .inl f107)), (qf102, .inl (cf102, 2048, .inl f102)), (qf111, .inl (cf111, 96, .inl f111)), (qf104, .inl (cf104, 8, .inl f104)), (qf118, .inl (cf118, 2100, .inl g118_105)), (qf119, .inl (cf119, 2100, .inl g119_105)), (qf105, .inl (cf105, 8, .inl f105)), (qf128, .inl (cf128, 31, .inl g128_105)), (qf110, .inl (cf110, 96, .inl f110)), (qf103, .inl (cf103, 8, .inl f103)), (qf106, .inl (cf106, 8, .inl f106)), (qf108, .inl (cf108, 8, .inl f108)), (qf137, .inl (cf137, 6, .inl g137_105))]) [0, 1, 2, 3, 4, 5, 6, 7, 8, 9, 10, 11, 12, 13, 14, 15, 16] rfl
        replace hD := hD.sub (ws' := [(h0, .inr (13, fs_12)), (qf109, .inl (cf109, 96, .inl f109)), (qf100, .inl (cf100, 48000, .inl f100)), (qf127, .inl (cf127, 30, .inl g127_105)), (qf107, .inl (cf107, 96, .inl f107)), (qf102, .inl (cf102, 2048, .inl f102)), (qf111, .inl (cf111, 96, .inl f111)), (qf104, .inl (cf104, 8, .inl f104)), (qf118, .inl (cf118, 2100, .inl g118_105)), (qf119, .inl (cf119, 2100, .inl g119_105)), (qf105, .inl (cf105, 8, .inl f105)), (qf128, .inl (cf128, 31, .inl g128_105)), (qf110, .inl (cf110, 96, .inl f110)), (qf103, .inl (cf103, 8, .inl f103)), (qf106, .inl (cf106, 8, .inl f106)), (qf108, .inl (cf108, 8, .inl f108)), (qf137, .inl (cf137, 6, .inl g137_105))]) [0, 1, 2, 3, 4, 5, 6, 7, 8, 9, 10, 11, 12, 13, 14, 15, 16] (by decide) rfl
        replace hK := hK.sub (tys' := [(cf109, .int), (cf100, .int), (cf127, .int), (cf107, .int), (cf102, .int), (cf111, .int), (cf104, .int), (cf118, .int), (cf119, .int), (cf105, .int), (cf128, .int), (cf110, .int), (cf103, .int), (cf106, .int), (cf108, .int), (cf137, .int)]) [0, 1, 2, 3, 4, 5, 6, 7, 8, 9, 10, 11, 12, 13, 14, 15] rfl
        obtain ⟨n_155, hn_155⟩ : ∃ z : Nat, z = nf := ⟨_, rfl⟩
        obtain ⟨l1_155, el1_155⟩ : ∃ z : Int32, z = l1_105 := ⟨_, rfl⟩
        obtain ⟨l2_155, el2_155⟩ : ∃ z : Int32, z = l2_105 := ⟨_, rfl⟩
        obtain ⟨l5_155, el5_155⟩ : ∃ z : Int32, z = 1 := ⟨_, rfl⟩
        obtain ⟨l6_155, el6_155⟩ : ∃ z : Int32, z = 0 := ⟨_, rfl⟩
        obtain ⟨g118_155, eg118_155⟩ : ∃ z : Nat → Int32, z = g118_105 := ⟨_, rfl⟩
        obtain ⟨g119_155, eg119_155⟩ : ∃ z : Nat → Int32, z = g119_105 := ⟨_, rfl⟩
        obtain ⟨g127_155, eg127_155⟩ : ∃ z : Nat → Int32, z = g127_105 := ⟨_, rfl⟩
        obtain ⟨g128_155, eg128_155⟩ : ∃ z : Nat → Int32, z = g128_105 := ⟨_, rfl⟩
        obtain ⟨g137_155, eg137_155⟩ : ∃ z : Nat → Int32, z = g137_105 := ⟨_, rfl⟩
        obtain ⟨x117_155, ex117_155⟩ : ∃ z : Int32, z = x117_105 := ⟨_, rfl⟩
        obtain ⟨x120_155, ex120_155⟩ : ∃ z : Int32, z = x120_105 := ⟨_, rfl⟩
        obtain ⟨x121_155, ex121_155⟩ : ∃ z : Int32, z = x121_105 := ⟨_, rfl⟩
        obtain ⟨x122_155, ex122_155⟩ : ∃ z : Int32, z = x122_105 := ⟨_, rfl⟩
        obtain ⟨x123_155, ex123_155⟩ : ∃ z : Int32, z = x123_105 := ⟨_, rfl⟩
        obtain ⟨x124_155, ex124_155⟩ : ∃ z : Int32, z = x124_105 := ⟨_, rfl⟩
        obtain ⟨x125_155, ex125_155⟩ : ∃ z : Int32, z = x125_105 := ⟨_, rfl⟩
        obtain ⟨x131_155, ex131_155⟩ : ∃ z : Int32, z = x131_105 := ⟨_, rfl⟩
        obtain ⟨x136_155, ex136_155⟩ : ∃ z : Int32, z = (l4_105 + 1) := ⟨_, rfl⟩
        replace hsp : lp_vm_flows_155 nf n_155 a1 a2 v98 v117 v120 v121 v122 v123 v124 v125 v129 v130 v131 v132 v133 v134 v135 v136 f109 f100 f127 f107 f102 f111 f104 f118 f119 f105 f128 f110 f103 f106 f108 f137 nS477 fS477 l1_155 l2_155 l5_155 l6_155 g118_155 g119_155 g127_155 g128_155 g137_155 x117_155 x120_155 x121_155 x122_155 x123_155 x124_155 x125_155 x131_155 x136_155 = some (r0, o118, o119, o127, o128, o137, w117, w120, w121, w122, w123, w124, w125, w131, w136) := by rw [hn_155, el1_155, el2_155, el5_155, el6_155, eg118_155, eg119_155, eg127_155, eg128_155, eg137_155, ex117_155, ex120_155, ex121_155, ex122_155, ex123_155, ex124_155, ex125_155, ex131_155, ex136_155]; exact hsp
        replace hl : lv_has ls 10 [(6, .int l6_155), (5, .int l5_155), (0, .ref h0), (1, .int l1_155), (2, .int l2_155)] := by rw [el1_155, el2_155, el5_155, el6_155]; exact hl
        obtain ⟨z155, ez155⟩ : ∃ z : List Value, z = fs_12 := ⟨_, rfl⟩
        have hfh_155_98 : z155[98]? = some (.int v98) := by rw [ez155]; exact hfs_12_98
        have hfh_155_100 : z155[100]? = some (.ref qf100) := by rw [ez155]; exact hfs_12_100
        have hfh_155_102 : z155[102]? = some (.ref qf102) := by rw [ez155]; exact hfs_12_102
        have hfh_155_103 : z155[103]? = some (.ref qf103) := by rw [ez155]; exact hfs_12_103
        have hfh_155_104 : z155[104]? = some (.ref qf104) := by rw [ez155]; exact hfs_12_104
        have hfh_155_105 : z155[105]? = some (.ref qf105) := by rw [ez155]; exact hfs_12_105
        have hfh_155_106 : z155[106]? = some (.ref qf106) := by rw [ez155]; exact hfs_12_106
        have hfh_155_107 : z155[107]? = some (.ref qf107) := by rw [ez155]; exact hfs_12_107
        have hfh_155_108 : z155[108]? = some (.ref qf108) := by rw [ez155]; exact hfs_12_108
        have hfh_155_109 : z155[109]? = some (.ref qf109) := by rw [ez155]; exact hfs_12_109
        have hfh_155_110 : z155[110]? = some (.ref qf110) := by rw [ez155]; exact hfs_12_110
        have hfh_155_111 : z155[111]? = some (.ref qf111) := by rw [ez155]; exact hfs_12_111
        have hfh_155_117 : z155[117]? = some (.int x117_155) := by rw [ez155, ex117_155]; exact hfs_12_117
        have hfh_155_118 : z155[118]? = some (.ref qf118) := by rw [ez155]; exact hfs_12_118
        have hfh_155_119 : z155[119]? = some (.ref qf119) := by rw [ez155]; exact hfs_12_119
        have hfh_155_120 : z155[120]? = some (.int x120_155) := by rw [ez155, ex120_155]; exact hfs_12_120
        have hfh_155_121 : z155[121]? = some (.int x121_155) := by rw [ez155, ex121_155]; exact hfs_12_121
        have hfh_155_122 : z155[122]? = some (.int x122_155) := by rw [ez155, ex122_155]; exact hfs_12_122
        have hfh_155_123 : z155[123]? = some (.int x123_155) := by rw [ez155, ex123_155]; exact hfs_12_123
        have hfh_155_124 : z155[124]? = some (.int x124_155) := by rw [ez155, ex124_155]; exact hfs_12_124
        have hfh_155_125 : z155[125]? = some (.int x125_155) := by rw [ez155, ex125_155]; exact hfs_12_125
        have hfh_155_127 : z155[127]? = some (.ref qf127) := by rw [ez155]; exact hfs_12_127
        have hfh_155_128 : z155[128]? = some (.ref qf128) := by rw [ez155]; exact hfs_12_128
        have hfh_155_129 : z155[129]? = some (.int v129) := by rw [ez155]; exact hfs_12_129
        have hfh_155_130 : z155[130]? = some (.int v130) := by rw [ez155]; exact hfs_12_130
        have hfh_155_131 : z155[131]? = some (.int x131_155) := by rw [ez155, ex131_155]; exact hfs_12_131
        have hfh_155_132 : z155[132]? = some (.int v132) := by rw [ez155]; exact hfs_12_132
        have hfh_155_133 : z155[133]? = some (.int v133) := by rw [ez155]; exact hfs_12_133
        have hfh_155_134 : z155[134]? = some (.int v134) := by rw [ez155]; exact hfs_12_134
        have hfh_155_135 : z155[135]? = some (.int v135) := by rw [ez155]; exact hfs_12_135
        have hfh_155_136 : z155[136]? = some (.int x136_155) := by rw [ez155, ex136_155]; exact hfs_12_136
        have hfh_155_137 : z155[137]? = some (.ref qf137) := by rw [ez155]; exact hfs_12_137
        have hlh_155 : z155.length = 155 := by rw [ez155]; exact hlfs_12
        have hrh_155 : ∀ j : Nat, j ≠ 117 → j ≠ 120 → j ≠ 121 → j ≠ 122 → j ≠ 123 → j ≠ 124 → j ≠ 125 → j ≠ 131 → j ≠ 136 → z155[j]? = zs[j]? := by rw [ez155]; exact hrs_13
        replace hP : va_P (dC, dI) vwCl [(h0, .inr (13, z155)), (qf109, .inl (cf109, 96, .inl f109)), (qf100, .inl (cf100, 48000, .inl f100)), (qf127, .inl (cf127, 30, .inl g127_155)), (qf107, .inl (cf107, 96, .inl f107)), (qf102, .inl (cf102, 2048, .inl f102)), (qf111, .inl (cf111, 96, .inl f111)), (qf104, .inl (cf104, 8, .inl f104)), (qf118, .inl (cf118, 2100, .inl g118_155)), (qf119, .inl (cf119, 2100, .inl g119_155)), (qf105, .inl (cf105, 8, .inl f105)), (qf128, .inl (cf128, 31, .inl g128_155)), (qf110, .inl (cf110, 96, .inl f110)), (qf103, .inl (cf103, 8, .inl f103)), (qf106, .inl (cf106, 8, .inl f106)), (qf108, .inl (cf108, 8, .inl f108)), (qf137, .inl (cf137, 6, .inl g137_155))] H := by rw [ez155, eg118_155, eg119_155, eg127_155, eg128_155, eg137_155]; exact hP
        replace hD : va_D A [(h0, .inr (13, z155)), (qf109, .inl (cf109, 96, .inl f109)), (qf100, .inl (cf100, 48000, .inl f100)), (qf127, .inl (cf127, 30, .inl g127_155)), (qf107, .inl (cf107, 96, .inl f107)), (qf102, .inl (cf102, 2048, .inl f102)), (qf111, .inl (cf111, 96, .inl f111)), (qf104, .inl (cf104, 8, .inl f104)), (qf118, .inl (cf118, 2100, .inl g118_155)), (qf119, .inl (cf119, 2100, .inl g119_155)), (qf105, .inl (cf105, 8, .inl f105)), (qf128, .inl (cf128, 31, .inl g128_155)), (qf110, .inl (cf110, 96, .inl f110)), (qf103, .inl (cf103, 8, .inl f103)), (qf106, .inl (cf106, 8, .inl f106)), (qf108, .inl (cf108, 8, .inl f108)), (qf137, .inl (cf137, 6, .inl g137_155))] := by rw [ez155, eg118_155, eg119_155, eg127_155, eg128_155, eg137_155]; exact hD
        clear hn_155 ez155 el1_155 el2_155 el5_155 el6_155 eg118_155 eg119_155 eg127_155 eg128_155 eg137_155 ex117_155 ex120_155 ex121_155 ex122_155 ex123_155 ex124_155 ex125_155 ex131_155 ex136_155
        try clear hlo
        try clear hH
        revert hsp
        revert hP
        revert hD
        revert hS
        revert hl
        revert hrh_155
        revert hlh_155
        revert hfh_155_137
        revert hfh_155_136
        revert hfh_155_135
        revert hfh_155_134
        revert hfh_155_133
        revert hfh_155_132
        revert hfh_155_131
        revert hfh_155_130
        revert hfh_155_129
        revert hfh_155_128
        revert hfh_155_127
        revert hfh_155_125
        revert hfh_155_124
        revert hfh_155_123
        revert hfh_155_122
        revert hfh_155_121
        revert hfh_155_120
        revert hfh_155_119
        revert hfh_155_118
        revert hfh_155_117
        revert hfh_155_111
        revert hfh_155_110
        revert hfh_155_109
        revert hfh_155_108
        revert hfh_155_107
        revert hfh_155_106
        revert hfh_155_105
        revert hfh_155_104
        revert hfh_155_103
        revert hfh_155_102
        revert hfh_155_100
        revert hfh_155_98
        revert x136_155
        revert x131_155
        revert x125_155
        revert x124_155
        revert x123_155
        revert x122_155
        revert x121_155
        revert x120_155
        revert x117_155
        revert g137_155
        revert g128_155
        revert g127_155
        revert g119_155
        revert g118_155
        revert l6_155
        revert l5_155
        revert l2_155
        revert l1_155
        revert z155
        revert ls
        revert locs
        revert H
        induction n_155 with
        | zero => intro H locs ls z155 l1_155 l2_155 l5_155 l6_155 g118_155 g119_155 g127_155 g128_155 g137_155 x117_155 x120_155 x121_155 x122_155 x123_155 x124_155 x125_155 x131_155 x136_155 hfh_155_98 hfh_155_100 hfh_155_102 hfh_155_103 hfh_155_104 hfh_155_105 hfh_155_106 hfh_155_107 hfh_155_108 hfh_155_109 hfh_155_110 hfh_155_111 hfh_155_117 hfh_155_118 hfh_155_119 hfh_155_120 hfh_155_121 hfh_155_122 hfh_155_123 hfh_155_124 hfh_155_125 hfh_155_127 hfh_155_128 hfh_155_129 hfh_155_130 hfh_155_131 hfh_155_132 hfh_155_133 hfh_155_134 hfh_155_135 hfh_155_136 hfh_155_137 hlh_155 hrh_155 hl hS hD hP hsp; unfold lp_vm_flows_155 at hsp; cases hsp
        | succ n_155 ih_155 =>
          intro H locs ls z155 l1_155 l2_155 l5_155 l6_155 g118_155 g119_155 g127_155 g128_155 g137_155 x117_155 x120_155 x121_155 x122_155 x123_155 x124_155 x125_155 x131_155 x136_155 hfh_155_98 hfh_155_100 hfh_155_102 hfh_155_103 hfh_155_104 hfh_155_105 hfh_155_106 hfh_155_107 hfh_155_108 hfh_155_109 hfh_155_110 hfh_155_111 hfh_155_117 hfh_155_118 hfh_155_119 hfh_155_120 hfh_155_121 hfh_155_122 hfh_155_123 hfh_155_124 hfh_155_125 hfh_155_127 hfh_155_128 hfh_155_129 hfh_155_130 hfh_155_131 hfh_155_132 hfh_155_133 hfh_155_134 hfh_155_135 hfh_155_136 hfh_155_137 hlh_155 hrh_155 hl hS hD hP hsp
          unfold lp_vm_flows_155 at hsp
          try dsimp only at hsp
          refine jn_use (α := Heap × List Loc × Array Slot × List Value × Int32 × Int32 × Int32 × Int32 × (Nat → Int32) × (Nat → Int32) × (Nat → Int32) × (Nat → Int32) × (Nat → Int32) × Int32 × Int32 × Int32 × Int32 × Int32 × Int32 × Int32 × Int32 × Int32) (fun x9 => x9.1) (fun x9 => x9.2.1) (fun x9 => F0 m 408 x9.2.2.1 [.int (x9.2.2.2.2.2.2.2.1)]) (fun x9 => match x9 with | (H, locs, ls, z408, l1_408, l2_408, l6_408, s0_408, g118_408, g119_408, g127_408, g128_408, g137_408, x117_408, x120_408, x121_408, x122_408, x123_408, x124_408, x125_408, x131_408, x136_408) => lv_has ls 10 [(0, .ref h0), (1, .int l1_408), (2, .int l2_408), (6, .int l6_408)] ∧ va_S A s.heap H locs ∧ va_D A [(h0, .inr (13, z408)), (qf109, .inl (cf109, 96, .inl f109)), (qf100, .inl (cf100, 48000, .inl f100)), (qf127, .inl (cf127, 30, .inl g127_408)), (qf107, .inl (cf107, 96, .inl f107)), (qf102, .inl (cf102, 2048, .inl f102)), (qf111, .inl (cf111, 96, .inl f111)), (qf104, .inl (cf104, 8, .inl f104)), (qf118, .inl (cf118, 2100, .inl g118_408)), (qf119, .inl (cf119, 2100, .inl g119_408)), (qf105, .inl (cf105, 8, .inl f105)), (qf128, .inl (cf128, 31, .inl g128_408)), (qf110, .inl (cf110, 96, .inl f110)), (qf103, .inl (cf103, 8, .inl f103)), (qf106, .inl (cf106, 8, .inl f106)), (qf108, .inl (cf108, 8, .inl f108)), (qf137, .inl (cf137, 6, .inl g137_408))] ∧ va_P (dC, dI) vwCl [(h0, .inr (13, z408)), (qf109, .inl (cf109, 96, .inl f109)), (qf100, .inl (cf100, 48000, .inl f100)), (qf127, .inl (cf127, 30, .inl g127_408)), (qf107, .inl (cf107, 96, .inl f107)), (qf102, .inl (cf102, 2048, .inl f102)), (qf111, .inl (cf111, 96, .inl f111)), (qf104, .inl (cf104, 8, .inl f104)), (qf118, .inl (cf118, 2100, .inl g118_408)), (qf119, .inl (cf119, 2100, .inl g119_408)), (qf105, .inl (cf105, 8, .inl f105)), (qf128, .inl (cf128, 31, .inl g128_408)), (qf110, .inl (cf110, 96, .inl f110)), (qf103, .inl (cf103, 8, .inl f103)), (qf106, .inl (cf106, 8, .inl f106)), (qf108, .inl (cf108, 8, .inl f108)), (qf137, .inl (cf137, 6, .inl g137_408))] H ∧ z408[98]? = some (.int v98) ∧ z408[100]? = some (.ref qf100) ∧ z408[102]? = some (.ref qf102) ∧ z408[103]? = some (.ref qf103) ∧ z408[104]? = some (.ref qf104) ∧ z408[105]? = some (.ref qf105) ∧ z408[106]? = some (.ref qf106) ∧ z408[107]? = some (.ref qf107) ∧ z408[108]? = some (.ref qf108) ∧ z408[109]? = some (.ref qf109) ∧ z408[110]? = some (.ref qf110) ∧ z408[111]? = some (.ref qf111) ∧ z408[117]? = some (.int x117_408) ∧ z408[118]? = some (.ref qf118) ∧ z408[119]? = some (.ref qf119) ∧ z408[120]? = some (.int x120_408) ∧ z408[121]? = some (.int x121_408) ∧ z408[122]? = some (.int x122_408) ∧ z408[123]? = some (.int x123_408) ∧ z408[124]? = some (.int x124_408) ∧ z408[125]? = some (.int x125_408) ∧ z408[127]? = some (.ref qf127) ∧ z408[128]? = some (.ref qf128) ∧ z408[129]? = some (.int v129) ∧ z408[130]? = some (.int v130) ∧ z408[131]? = some (.int x131_408) ∧ z408[132]? = some (.int v132) ∧ z408[133]? = some (.int v133) ∧ z408[134]? = some (.int v134) ∧ z408[135]? = some (.int v135) ∧ z408[136]? = some (.int x136_408) ∧ z408[137]? = some (.ref qf137) ∧ z408.length = 155 ∧ (∀ j : Nat, j ≠ 117 → j ≠ 120 → j ≠ 121 → j ≠ 122 → j ≠ 123 → j ≠ 124 → j ≠ 125 → j ≠ 131 → j ≠ 136 → z408[j]? = zs[j]?) ∧ jn_vm_flows_408 nf a1 a2 v98 v117 v120 v121 v122 v123 v124 v125 v129 v130 v131 v132 v133 v134 v135 v136 f109 f100 f127 f107 f102 f111 f104 f118 f119 f105 f128 f110 f103 f106 f108 f137 nS477 fS477 (lp_vm_flows_155 nf n_155 a1 a2 v98 v117 v120 v121 v122 v123 v124 v125 v129 v130 v131 v132 v133 v134 v135 v136 f109 f100 f127 f107 f102 f111 f104 f118 f119 f105 f128 f110 f103 f106 f108 f137 nS477 fS477) l1_408 l2_408 l6_408 s0_408 g118_408 g119_408 g127_408 g128_408 g137_408 x117_408 x120_408 x121_408 x122_408 x123_408 x124_408 x125_408 x131_408 x136_408 = some (r0, o118, o119, o127, o128, o137, w117, w120, w121, w122, w123, w124, w125, w131, w136)) ?_ ?_
          · intro x9 hJ9
            obtain ⟨H, locs, ls, z408, l1_408, l2_408, l6_408, s0_408, g118_408, g119_408, g127_408, g128_408, g137_408, x117_408, x120_408, x121_408, x122_408, x123_408, x124_408, x125_408, x131_408, x136_408⟩ := x9
            obtain ⟨hl, hS, hD, hP, hfh_408_98, hfh_408_100, hfh_408_102, hfh_408_103, hfh_408_104, hfh_408_105, hfh_408_106, hfh_408_107, hfh_408_108, hfh_408_109, hfh_408_110, hfh_408_111, hfh_408_117, hfh_408_118, hfh_408_119, hfh_408_120, hfh_408_121, hfh_408_122, hfh_408_123, hfh_408_124, hfh_408_125, hfh_408_127, hfh_408_128, hfh_408_129, hfh_408_130, hfh_408_131, hfh_408_132, hfh_408_133, hfh_408_134, hfh_408_135, hfh_408_136, hfh_408_137, hlh_408, hrh_408, hsp⟩ := hJ9
            replace hl : lv_has ls 10 [(0, .ref h0), (1, .int l1_408), (2, .int l2_408), (6, .int l6_408)] := hl
            replace hS : va_S A s.heap H locs := hS
            replace hD : va_D A [(h0, .inr (13, z408)), (qf109, .inl (cf109, 96, .inl f109)), (qf100, .inl (cf100, 48000, .inl f100)), (qf127, .inl (cf127, 30, .inl g127_408)), (qf107, .inl (cf107, 96, .inl f107)), (qf102, .inl (cf102, 2048, .inl f102)), (qf111, .inl (cf111, 96, .inl f111)), (qf104, .inl (cf104, 8, .inl f104)), (qf118, .inl (cf118, 2100, .inl g118_408)), (qf119, .inl (cf119, 2100, .inl g119_408)), (qf105, .inl (cf105, 8, .inl f105)), (qf128, .inl (cf128, 31, .inl g128_408)), (qf110, .inl (cf110, 96, .inl f110)), (qf103, .inl (cf103, 8, .inl f103)), (qf106, .inl (cf106, 8, .inl f106)), (qf108, .inl (cf108, 8, .inl f108)), (qf137, .inl (cf137, 6, .inl g137_408))] := hD
            replace hP : va_P (dC, dI) vwCl [(h0, .inr (13, z408)), (qf109, .inl (cf109, 96, .inl f109)), (qf100, .inl (cf100, 48000, .inl f100)), (qf127, .inl (cf127, 30, .inl g127_408)), (qf107, .inl (cf107, 96, .inl f107)), (qf102, .inl (cf102, 2048, .inl f102)), (qf111, .inl (cf111, 96, .inl f111)), (qf104, .inl (cf104, 8, .inl f104)), (qf118, .inl (cf118, 2100, .inl g118_408)), (qf119, .inl (cf119, 2100, .inl g119_408)), (qf105, .inl (cf105, 8, .inl f105)), (qf128, .inl (cf128, 31, .inl g128_408)), (qf110, .inl (cf110, 96, .inl f110)), (qf103, .inl (cf103, 8, .inl f103)), (qf106, .inl (cf106, 8, .inl f106)), (qf108, .inl (cf108, 8, .inl f108)), (qf137, .inl (cf137, 6, .inl g137_408))] H := hP
            replace hsp : jn_vm_flows_408 nf a1 a2 v98 v117 v120 v121 v122 v123 v124 v125 v129 v130 v131 v132 v133 v134 v135 v136 f109 f100 f127 f107 f102 f111 f104 f118 f119 f105 f128 f110 f103 f106 f108 f137 nS477 fS477 (lp_vm_flows_155 nf n_155 a1 a2 v98 v117 v120 v121 v122 v123 v124 v125 v129 v130 v131 v132 v133 v134 v135 v136 f109 f100 f127 f107 f102 f111 f104 f118 f119 f105 f128 f110 f103 f106 f108 f137 nS477 fS477) l1_408 l2_408 l6_408 s0_408 g118_408 g119_408 g127_408 g128_408 g137_408 x117_408 x120_408 x121_408 x122_408 x123_408 x124_408 x125_408 x131_408 x136_408 = some (r0, o118, o119, o127, o128, o137, w117, w120, w121, w122, w123, w124, w125, w131, w136) := hsp
            show W _ _ _ _ _ _ _ _ _ _ H locs _ _ _ (F0 m 408 ls [.int s0_408])
            unfold jn_vm_flows_408 at hsp
            try dsimp only at hsp
            refine lv_istore (lv' := [(5, .int s0_408), (0, .ref h0), (1, .int l1_408), (2, .int l2_408), (6, .int l6_408)]) hx hb dX13_flows_408 hl (by decide) rfl (fun ls hl => ?_)
            refine lv_iload hx hb dX13_flows_410 (lv_at hl 4 rfl) ?_
            refine lv_aload_n hx hb dX13_flows_412 rfl (lv_at hl 1 rfl) ?_
            refine lv_iload hx hb dX13_flows_413 (lv_at hl 4 rfl) ?_
            obtain ⟨u26_0, hu_26, hsp⟩ := ox_bind hsp
            try dsimp only at hsp
            have hPc := hP.sub (ws' := [(h0, .inr (13, z408)), (qf100, .inl (cf100, 48000, .inl f100))]) [0, 2] rfl
            have hDc := hD.sub (ws' := [(h0, .inr (13, z408)), (qf100, .inl (cf100, 48000, .inl f100))]) [0, 2] (by decide) rfl
            have hKc := hK.sub (tys' := [(cf100, .int)]) [1] rfl
            have hFc := va_free (wc := [(h0, .inr (13, z408)), (qf100, .inl (cf100, 48000, .inl f100))]) hD hS hA [0, 2] rfl
            refine va_calli (va_runV (As := [.int l6_408]) (rest := [.int l6_408]) ⟨hx, hb, hml, hown, hts⟩ (tm_code l dC dI H.size h0 z408 l6_408 qf100 v132 v134 cf100 f100 nf u26_0 hlh_408 hfh_408_100 hfh_408_132 hfh_408_134 hu_26) (cwV 1 hts gv_h9_65 rfl rfl rfl (by decide +kernel) ⟨Nat.le_of_ble_eq_true rfl, Nat.le_of_ble_eq_true rfl⟩) ⟨fun a U g mk q => by obtain ⟨q0, q1, qP, qK, qD⟩ := q; exact ⟨q0, q1, qP, va_K.moved (u := U) (U := U.calling g mk a) (Vm.Alike.refl U.vm) qK, qD⟩, va_recv hKc hPc (ci := 13) (q0 := 0) rfl rfl, fun U hU hW => ⟨rfl, by rw [hU], by rw [hU]; exact hPc, va_K.moved hW.alike hKc, hDc.weaken (fun _ _ _ _ => trivial)⟩⟩ rfl rfl hl.1 rfl (lv_room (Nat.le_of_ble_eq_true rfl)) dX13_flows_415 ⟨Nat.le_of_ble_eq_true rfl, Nat.le_of_ble_eq_true rfl⟩) hS (fun q _ h => hFc q h) hFc ?_
            clear hS
            intro r_64 u t H1 locs ht hvm hw hB hz1 hk1 hS
            obtain ⟨z_26, rfl⟩ : ∃ z, z = u := ⟨_, rfl⟩
            obtain ⟨hP1, hK1, hD1⟩ := hB
            rw [ht] at hP1
            have hK1 := va_K.moved hvm.symm hK1
            try dsimp only at hw
            have hPD := va_join (wr := [(qf109, .inl (cf109, 96, .inl f109)), (qf127, .inl (cf127, 30, .inl g127_408)), (qf107, .inl (cf107, 96, .inl f107)), (qf102, .inl (cf102, 2048, .inl f102)), (qf111, .inl (cf111, 96, .inl f111)), (qf104, .inl (cf104, 8, .inl f104)), (qf118, .inl (cf118, 2100, .inl g118_408)), (qf119, .inl (cf119, 2100, .inl g119_408)), (qf105, .inl (cf105, 8, .inl f105)), (qf128, .inl (cf128, 31, .inl g128_408)), (qf110, .inl (cf110, 96, .inl f110)), (qf103, .inl (cf103, 8, .inl f103)), (qf106, .inl (cf106, 8, .inl f106)), (qf108, .inl (cf108, 8, .inl f108)), (qf137, .inl (cf137, 6, .inl g137_408))]) (w1 := [(h0, .inr (13, z_26)), (qf100, .inl (cf100, 48000, .inl f100))]) hP hD [0, 2] [1, 3, 4, 5, 6, 7, 8, 9, 10, 11, 12, 13, 14, 15, 16] rfl rfl (by decide) (by decide) hk1 hFc hP1 hD1
            clear hP hD
            obtain ⟨hP, hD⟩ := hPD
            replace hK := (hK.sub (tys' := [(cf109, .int), (cf127, .int), (cf107, .int), (cf102, .int), (cf111, .int), (cf104, .int), (cf118, .int), (cf119, .int), (cf105, .int), (cf128, .int), (cf110, .int), (cf103, .int), (cf106, .int), (cf108, .int), (cf137, .int)]) [0, 2, 3, 4, 5, 6, 7, 8, 9, 10, 11, 12, 13, 14, 15] rfl).app hK1
            clear hPc hDc hKc hFc hP1 hK1 hD1 hz1 hk1 ht hvm
            generalize H1 = H at hP hS ⊢
            replace hP : va_P (dC, dI) vwCl [(qf109, .inl (cf109, 96, .inl f109)), (qf127, .inl (cf127, 30, .inl g127_408)), (qf107, .inl (cf107, 96, .inl f107)), (qf102, .inl (cf102, 2048, .inl f102)), (qf111, .inl (cf111, 96, .inl f111)), (qf104, .inl (cf104, 8, .inl f104)), (qf118, .inl (cf118, 2100, .inl g118_408)), (qf119, .inl (cf119, 2100, .inl g119_408)), (qf105, .inl (cf105, 8, .inl f105)), (qf128, .inl (cf128, 31, .inl g128_408)), (qf110, .inl (cf110, 96, .inl f110)), (qf103, .inl (cf103, 8, .inl f103)), (qf106, .inl (cf106, 8, .inl f106)), (qf108, .inl (cf108, 8, .inl f108)), (qf137, .inl (cf137, 6, .inl g137_408)), (h0, .inr (13, z_26)), (qf100, .inl (cf100, 48000, .inl f100))] H := hP
            replace hD : va_D A [(qf109, .inl (cf109, 96, .inl f109)), (qf127, .inl (cf127, 30, .inl g127_408)), (qf107, .inl (cf107, 96, .inl f107)), (qf102, .inl (cf102, 2048, .inl f102)), (qf111, .inl (cf111, 96, .inl f111)), (qf104, .inl (cf104, 8, .inl f104)), (qf118, .inl (cf118, 2100, .inl g118_408)), (qf119, .inl (cf119, 2100, .inl g119_408)), (qf105, .inl (cf105, 8, .inl f105)), (qf128, .inl (cf128, 31, .inl g128_408)), (qf110, .inl (cf110, 96, .inl f110)), (qf103, .inl (cf103, 8, .inl f103)), (qf106, .inl (cf106, 8, .inl f106)), (qf108, .inl (cf108, 8, .inl f108)), (qf137, .inl (cf137, 6, .inl g137_408)), (h0, .inr (13, z_26)), (qf100, .inl (cf100, 48000, .inl f100))] := hD
            replace hK : va_K (dC, dI) vwCl [(cf109, .int), (cf127, .int), (cf107, .int), (cf102, .int), (cf111, .int), (cf104, .int), (cf118, .int), (cf119, .int), (cf105, .int), (cf128, .int), (cf110, .int), (cf103, .int), (cf106, .int), (cf108, .int), (cf137, .int), (cf100, .int)] s := hK
            obtain ⟨hwa_26, hln_26, hre_26⟩ := hw
            have hfk_26_98 : z_26[98]? = some (.int v98) := (hre_26 98 ).trans (hfh_408_98)
            have hfk_26_100 : z_26[100]? = some (.ref qf100) := (hre_26 100 ).trans (hfh_408_100)
            have hfk_26_102 : z_26[102]? = some (.ref qf102) := (hre_26 102 ).trans (hfh_408_102)
            have hfk_26_103 : z_26[103]? = some (.ref qf103) := (hre_26 103 ).trans (hfh_408_103)
            have hfk_26_104 : z_26[104]? = some (.ref qf104) := (hre_26 104 ).trans (hfh_408_104)
            have hfk_26_105 : z_26[105]? = some (.ref qf105) := (hre_26 105 ).trans (hfh_408_105)
            have hfk_26_106 : z_26[106]? = some (.ref qf106) := (hre_26 106 ).trans (hfh_408_106)
            have hfk_26_107 : z_26[107]? = some (.ref qf107) := (hre_26 107 ).trans (hfh_408_107)
            have hfk_26_108 : z_26[108]? = some (.ref qf108) := (hre_26 108 ).trans (hfh_408_108)
            have hfk_26_109 : z_26[109]? = some (.ref qf109) := (hre_26 109 ).trans (hfh_408_109)
            have hfk_26_110 : z_26[110]? = some (.ref qf110) := (hre_26 110 ).trans (hfh_408_110)
            have hfk_26_111 : z_26[111]? = some (.ref qf111) := (hre_26 111 ).trans (hfh_408_111)
            have hfk_26_117 : z_26[117]? = some (.int x117_408) := (hre_26 117 ).trans (hfh_408_117)
            have hfk_26_118 : z_26[118]? = some (.ref qf118) := (hre_26 118 ).trans (hfh_408_118)
            have hfk_26_119 : z_26[119]? = some (.ref qf119) := (hre_26 119 ).trans (hfh_408_119)
            have hfk_26_120 : z_26[120]? = some (.int x120_408) := (hre_26 120 ).trans (hfh_408_120)
            have hfk_26_121 : z_26[121]? = some (.int x121_408) := (hre_26 121 ).trans (hfh_408_121)
            have hfk_26_122 : z_26[122]? = some (.int x122_408) := (hre_26 122 ).trans (hfh_408_122)
            have hfk_26_123 : z_26[123]? = some (.int x123_408) := (hre_26 123 ).trans (hfh_408_123)
            have hfk_26_124 : z_26[124]? = some (.int x124_408) := (hre_26 124 ).trans (hfh_408_124)
            have hfk_26_125 : z_26[125]? = some (.int x125_408) := (hre_26 125 ).trans (hfh_408_125)
            have hfk_26_127 : z_26[127]? = some (.ref qf127) := (hre_26 127 ).trans (hfh_408_127)
            have hfk_26_128 : z_26[128]? = some (.ref qf128) := (hre_26 128 ).trans (hfh_408_128)
            have hfk_26_129 : z_26[129]? = some (.int v129) := (hre_26 129 ).trans (hfh_408_129)
            have hfk_26_130 : z_26[130]? = some (.int v130) := (hre_26 130 ).trans (hfh_408_130)
            have hfk_26_131 : z_26[131]? = some (.int x131_408) := (hre_26 131 ).trans (hfh_408_131)
            have hfk_26_132 : z_26[132]? = some (.int v132) := (hre_26 132 ).trans (hfh_408_132)
            have hfk_26_133 : z_26[133]? = some (.int v133) := (hre_26 133 ).trans (hfh_408_133)
            have hfk_26_134 : z_26[134]? = some (.int v134) := (hre_26 134 ).trans (hfh_408_134)
            have hfk_26_135 : z_26[135]? = some (.int v135) := (hre_26 135 ).trans (hfh_408_135)
            have hfk_26_136 : z_26[136]? = some (.int x136_408) := (hre_26 136 ).trans (hfh_408_136)
            have hfk_26_137 : z_26[137]? = some (.ref qf137) := (hre_26 137 ).trans (hfh_408_137)
            have hrq_26 : ∀ j : Nat, j ≠ 117 → j ≠ 120 → j ≠ 121 → j ≠ 122 → j ≠ 123 → j ≠ 124 → j ≠ 125 → j ≠ 131 → j ≠ 136 → z_26[j]? = zs[j]? := fun j g117 g120 g121 g122 g123 g124 g125 g131 g136 => (hre_26 j ).trans (hrh_408 j g117 g120 g121 g122 g123 g124 g125 g131 g136)
            obtain rfl := hwa_26
            obtain ⟨u27_0, hu_27, hsp⟩ := ox_bind hsp
            try dsimp only at hsp
            have hPc := hP.sub (ws' := []) [] rfl
            have hDc := hD.sub (ws' := []) [] (by decide) rfl
            have hKc := hK.sub (tys' := []) [] rfl
            have hFc := va_free (wc := []) hD hS hA [] rfl
            refine va_calli (va_runS (As := [.int u26_0]) (rest := [.int l6_408]) ⟨hx, hb, hml, hown, hts⟩ (tm_widthOf l dC dI H.size u26_0 nf u27_0 hu_27) (va_cwS 1 hts gv_h9_66 rfl rfl rfl (by decide +kernel) ⟨Nat.le_of_ble_eq_true rfl, Nat.le_of_ble_eq_true rfl⟩) ⟨fun a U g mk q => by obtain ⟨q0, q1, qP, qK, qD⟩ := q; exact ⟨q0, q1, qP, va_K.moved (u := U) (U := U.calling g mk a) (Vm.Alike.refl U.vm) qK, qD⟩, fun U hU hW => ⟨rfl, by rw [hU], by rw [hU]; exact hPc, va_K.moved hW.alike hKc, hDc.weaken (fun _ _ _ _ => trivial)⟩⟩ rfl rfl hl.1 rfl (lv_room (Nat.le_of_ble_eq_true rfl)) dX13_flows_418 ⟨Nat.le_of_ble_eq_true rfl, Nat.le_of_ble_eq_true rfl⟩) hS (fun q _ h => hFc q h) hFc ?_
            clear hS
            intro r_65 u t H1 locs ht hvm hw hB hz1 hk1 hS
            obtain ⟨⟩ := u
            obtain ⟨hP1, hK1, hD1⟩ := hB
            rw [ht] at hP1
            have hK1 := va_K.moved hvm.symm hK1
            try dsimp only at hw
            have hPD := va_join (wr := [(qf109, .inl (cf109, 96, .inl f109)), (qf127, .inl (cf127, 30, .inl g127_408)), (qf107, .inl (cf107, 96, .inl f107)), (qf102, .inl (cf102, 2048, .inl f102)), (qf111, .inl (cf111, 96, .inl f111)), (qf104, .inl (cf104, 8, .inl f104)), (qf118, .inl (cf118, 2100, .inl g118_408)), (qf119, .inl (cf119, 2100, .inl g119_408)), (qf105, .inl (cf105, 8, .inl f105)), (qf128, .inl (cf128, 31, .inl g128_408)), (qf110, .inl (cf110, 96, .inl f110)), (qf103, .inl (cf103, 8, .inl f103)), (qf106, .inl (cf106, 8, .inl f106)), (qf108, .inl (cf108, 8, .inl f108)), (qf137, .inl (cf137, 6, .inl g137_408)), (h0, .inr (13, z_26)), (qf100, .inl (cf100, 48000, .inl f100))]) (w1 := []) hP hD [] [0, 1, 2, 3, 4, 5, 6, 7, 8, 9, 10, 11, 12, 13, 14, 15, 16] rfl rfl (by decide) (by decide) hk1 hFc hP1 hD1
            clear hP hD
            obtain ⟨hP, hD⟩ := hPD
            replace hK := (hK.sub (tys' := [(cf109, .int), (cf127, .int), (cf107, .int), (cf102, .int), (cf111, .int), (cf104, .int), (cf118, .int), (cf119, .int), (cf105, .int), (cf128, .int), (cf110, .int), (cf103, .int), (cf106, .int), (cf108, .int), (cf137, .int), (cf100, .int)]) [0, 1, 2, 3, 4, 5, 6, 7, 8, 9, 10, 11, 12, 13, 14, 15] rfl).app hK1
            clear hPc hDc hKc hFc hP1 hK1 hD1 hz1 hk1 ht hvm
            generalize H1 = H at hP hS ⊢
            replace hP : va_P (dC, dI) vwCl [(qf109, .inl (cf109, 96, .inl f109)), (qf127, .inl (cf127, 30, .inl g127_408)), (qf107, .inl (cf107, 96, .inl f107)), (qf102, .inl (cf102, 2048, .inl f102)), (qf111, .inl (cf111, 96, .inl f111)), (qf104, .inl (cf104, 8, .inl f104)), (qf118, .inl (cf118, 2100, .inl g118_408)), (qf119, .inl (cf119, 2100, .inl g119_408)), (qf105, .inl (cf105, 8, .inl f105)), (qf128, .inl (cf128, 31, .inl g128_408)), (qf110, .inl (cf110, 96, .inl f110)), (qf103, .inl (cf103, 8, .inl f103)), (qf106, .inl (cf106, 8, .inl f106)), (qf108, .inl (cf108, 8, .inl f108)), (qf137, .inl (cf137, 6, .inl g137_408)), (h0, .inr (13, z_26)), (qf100, .inl (cf100, 48000, .inl f100))] H := hP
            replace hD : va_D A [(qf109, .inl (cf109, 96, .inl f109)), (qf127, .inl (cf127, 30, .inl g127_408)), (qf107, .inl (cf107, 96, .inl f107)), (qf102, .inl (cf102, 2048, .inl f102)), (qf111, .inl (cf111, 96, .inl f111)), (qf104, .inl (cf104, 8, .inl f104)), (qf118, .inl (cf118, 2100, .inl g118_408)), (qf119, .inl (cf119, 2100, .inl g119_408)), (qf105, .inl (cf105, 8, .inl f105)), (qf128, .inl (cf128, 31, .inl g128_408)), (qf110, .inl (cf110, 96, .inl f110)), (qf103, .inl (cf103, 8, .inl f103)), (qf106, .inl (cf106, 8, .inl f106)), (qf108, .inl (cf108, 8, .inl f108)), (qf137, .inl (cf137, 6, .inl g137_408)), (h0, .inr (13, z_26)), (qf100, .inl (cf100, 48000, .inl f100))] := hD
            replace hK : va_K (dC, dI) vwCl [(cf109, .int), (cf127, .int), (cf107, .int), (cf102, .int), (cf111, .int), (cf104, .int), (cf118, .int), (cf119, .int), (cf105, .int), (cf128, .int), (cf110, .int), (cf103, .int), (cf106, .int), (cf108, .int), (cf137, .int), (cf100, .int)] s := hK
            obtain rfl := hw
            refine lv_iadd hx hb dX13_flows_421 ?_
            refine lv_istore (lv' := [(6, .int (l6_408 + u27_0)), (5, .int s0_408), (0, .ref h0), (1, .int l1_408), (2, .int l2_408)]) hx hb dX13_flows_422 hl (by decide) rfl (fun ls hl => ?_)
            refine lv_goto (tgt := 155) hx hb dX13_flows_424 (by decide) ?_
            exact ih_155 H locs ls z_26 l1_408 l2_408 s0_408 (l6_408 + u27_0) g118_408 g119_408 g127_408 g128_408 g137_408 x117_408 x120_408 x121_408 x122_408 x123_408 x124_408 x125_408 x131_408 x136_408 (hfk_26_98) (hfk_26_100) (hfk_26_102) (hfk_26_103) (hfk_26_104) (hfk_26_105) (hfk_26_106) (hfk_26_107) (hfk_26_108) (hfk_26_109) (hfk_26_110) (hfk_26_111) (hfk_26_117) (hfk_26_118) (hfk_26_119) (hfk_26_120) (hfk_26_121) (hfk_26_122) (hfk_26_123) (hfk_26_124) (hfk_26_125) (hfk_26_127) (hfk_26_128) (hfk_26_129) (hfk_26_130) (hfk_26_131) (hfk_26_132) (hfk_26_133) (hfk_26_134) (hfk_26_135) (hfk_26_136) (hfk_26_137) hln_26 hrq_26 (lv_sub hl [0, 1, 2, 3, 4] rfl) hS (hD.sub (ws' := [(h0, .inr (13, z_26)), (qf109, .inl (cf109, 96, .inl f109)), (qf100, .inl (cf100, 48000, .inl f100)), (qf127, .inl (cf127, 30, .inl g127_408)), (qf107, .inl (cf107, 96, .inl f107)), (qf102, .inl (cf102, 2048, .inl f102)), (qf111, .inl (cf111, 96, .inl f111)), (qf104, .inl (cf104, 8, .inl f104)), (qf118, .inl (cf118, 2100, .inl g118_408)), (qf119, .inl (cf119, 2100, .inl g119_408)), (qf105, .inl (cf105, 8, .inl f105)), (qf128, .inl (cf128, 31, .inl g128_408)), (qf110, .inl (cf110, 96, .inl f110)), (qf103, .inl (cf103, 8, .inl f103)), (qf106, .inl (cf106, 8, .inl f106)), (qf108, .inl (cf108, 8, .inl f108)), (qf137, .inl (cf137, 6, .inl g137_408))]) [15, 0, 16, 1, 2, 3, 4, 5, 6, 7, 8, 9, 10, 11, 12, 13, 14] (by decide) rfl) (hP.sub (ws' := [(h0, .inr (13, z_26)), (qf109, .inl (cf109, 96, .inl f109)), (qf100, .inl (cf100, 48000, .inl f100)), (qf127, .inl (cf127, 30, .inl g127_408)), (qf107, .inl (cf107, 96, .inl f107)), (qf102, .inl (cf102, 2048, .inl f102)), (qf111, .inl (cf111, 96, .inl f111)), (qf104, .inl (cf104, 8, .inl f104)), (qf118, .inl (cf118, 2100, .inl g118_408)), (qf119, .inl (cf119, 2100, .inl g119_408)), (qf105, .inl (cf105, 8, .inl f105)), (qf128, .inl (cf128, 31, .inl g128_408)), (qf110, .inl (cf110, 96, .inl f110)), (qf103, .inl (cf103, 8, .inl f103)), (qf106, .inl (cf106, 8, .inl f106)), (qf108, .inl (cf108, 8, .inl f108)), (qf137, .inl (cf137, 6, .inl g137_408))]) [15, 0, 16, 1, 2, 3, 4, 5, 6, 7, 8, 9, 10, 11, 12, 13, 14] rfl) hsp
          intro hj_408
          refine jn_use (α := Heap × List Loc × Array Slot × List Value × Int32 × Int32 × Int32 × (Nat → Int32) × (Nat → Int32) × (Nat → Int32) × (Nat → Int32) × (Nat → Int32) × Int32 × Int32 × Int32 × Int32 × Int32 × Int32 × Int32 × Int32 × Int32) (fun x9 => x9.1) (fun x9 => x9.2.1) (fun x9 => F0 m 407 x9.2.2.1 []) (fun x9 => match x9 with | (H, locs, ls, z407, l1_407, l2_407, l6_407, g118_407, g119_407, g127_407, g128_407, g137_407, x117_407, x120_407, x121_407, x122_407, x123_407, x124_407, x125_407, x131_407, x136_407) => lv_has ls 10 [(0, .ref h0), (1, .int l1_407), (2, .int l2_407), (6, .int l6_407)] ∧ va_S A s.heap H locs ∧ va_D A [(h0, .inr (13, z407)), (qf109, .inl (cf109, 96, .inl f109)), (qf100, .inl (cf100, 48000, .inl f100)), (qf127, .inl (cf127, 30, .inl g127_407)), (qf107, .inl (cf107, 96, .inl f107)), (qf102, .inl (cf102, 2048, .inl f102)), (qf111, .inl (cf111, 96, .inl f111)), (qf104, .inl (cf104, 8, .inl f104)), (qf118, .inl (cf118, 2100, .inl g118_407)), (qf119, .inl (cf119, 2100, .inl g119_407)), (qf105, .inl (cf105, 8, .inl f105)), (qf128, .inl (cf128, 31, .inl g128_407)), (qf110, .inl (cf110, 96, .inl f110)), (qf103, .inl (cf103, 8, .inl f103)), (qf106, .inl (cf106, 8, .inl f106)), (qf108, .inl (cf108, 8, .inl f108)), (qf137, .inl (cf137, 6, .inl g137_407))] ∧ va_P (dC, dI) vwCl [(h0, .inr (13, z407)), (qf109, .inl (cf109, 96, .inl f109)), (qf100, .inl (cf100, 48000, .inl f100)), (qf127, .inl (cf127, 30, .inl g127_407)), (qf107, .inl (cf107, 96, .inl f107)), (qf102, .inl (cf102, 2048, .inl f102)), (qf111, .inl (cf111, 96, .inl f111)), (qf104, .inl (cf104, 8, .inl f104)), (qf118, .inl (cf118, 2100, .inl g118_407)), (qf119, .inl (cf119, 2100, .inl g119_407)), (qf105, .inl (cf105, 8, .inl f105)), (qf128, .inl (cf128, 31, .inl g128_407)), (qf110, .inl (cf110, 96, .inl f110)), (qf103, .inl (cf103, 8, .inl f103)), (qf106, .inl (cf106, 8, .inl f106)), (qf108, .inl (cf108, 8, .inl f108)), (qf137, .inl (cf137, 6, .inl g137_407))] H ∧ z407[98]? = some (.int v98) ∧ z407[100]? = some (.ref qf100) ∧ z407[102]? = some (.ref qf102) ∧ z407[103]? = some (.ref qf103) ∧ z407[104]? = some (.ref qf104) ∧ z407[105]? = some (.ref qf105) ∧ z407[106]? = some (.ref qf106) ∧ z407[107]? = some (.ref qf107) ∧ z407[108]? = some (.ref qf108) ∧ z407[109]? = some (.ref qf109) ∧ z407[110]? = some (.ref qf110) ∧ z407[111]? = some (.ref qf111) ∧ z407[117]? = some (.int x117_407) ∧ z407[118]? = some (.ref qf118) ∧ z407[119]? = some (.ref qf119) ∧ z407[120]? = some (.int x120_407) ∧ z407[121]? = some (.int x121_407) ∧ z407[122]? = some (.int x122_407) ∧ z407[123]? = some (.int x123_407) ∧ z407[124]? = some (.int x124_407) ∧ z407[125]? = some (.int x125_407) ∧ z407[127]? = some (.ref qf127) ∧ z407[128]? = some (.ref qf128) ∧ z407[129]? = some (.int v129) ∧ z407[130]? = some (.int v130) ∧ z407[131]? = some (.int x131_407) ∧ z407[132]? = some (.int v132) ∧ z407[133]? = some (.int v133) ∧ z407[134]? = some (.int v134) ∧ z407[135]? = some (.int v135) ∧ z407[136]? = some (.int x136_407) ∧ z407[137]? = some (.ref qf137) ∧ z407.length = 155 ∧ (∀ j : Nat, j ≠ 117 → j ≠ 120 → j ≠ 121 → j ≠ 122 → j ≠ 123 → j ≠ 124 → j ≠ 125 → j ≠ 131 → j ≠ 136 → z407[j]? = zs[j]?) ∧ jn_vm_flows_407 nf a1 a2 v98 v117 v120 v121 v122 v123 v124 v125 v129 v130 v131 v132 v133 v134 v135 v136 f109 f100 f127 f107 f102 f111 f104 f118 f119 f105 f128 f110 f103 f106 f108 f137 nS477 fS477 (lp_vm_flows_155 nf n_155 a1 a2 v98 v117 v120 v121 v122 v123 v124 v125 v129 v130 v131 v132 v133 v134 v135 v136 f109 f100 f127 f107 f102 f111 f104 f118 f119 f105 f128 f110 f103 f106 f108 f137 nS477 fS477) l1_407 l2_407 l6_407 g118_407 g119_407 g127_407 g128_407 g137_407 x117_407 x120_407 x121_407 x122_407 x123_407 x124_407 x125_407 x131_407 x136_407 = some (r0, o118, o119, o127, o128, o137, w117, w120, w121, w122, w123, w124, w125, w131, w136)) ?_ ?_
          · intro x9 hJ9
            obtain ⟨H, locs, ls, z407, l1_407, l2_407, l6_407, g118_407, g119_407, g127_407, g128_407, g137_407, x117_407, x120_407, x121_407, x122_407, x123_407, x124_407, x125_407, x131_407, x136_407⟩ := x9
            obtain ⟨hl, hS, hD, hP, hfh_407_98, hfh_407_100, hfh_407_102, hfh_407_103, hfh_407_104, hfh_407_105, hfh_407_106, hfh_407_107, hfh_407_108, hfh_407_109, hfh_407_110, hfh_407_111, hfh_407_117, hfh_407_118, hfh_407_119, hfh_407_120, hfh_407_121, hfh_407_122, hfh_407_123, hfh_407_124, hfh_407_125, hfh_407_127, hfh_407_128, hfh_407_129, hfh_407_130, hfh_407_131, hfh_407_132, hfh_407_133, hfh_407_134, hfh_407_135, hfh_407_136, hfh_407_137, hlh_407, hrh_407, hsp⟩ := hJ9
            replace hl : lv_has ls 10 [(0, .ref h0), (1, .int l1_407), (2, .int l2_407), (6, .int l6_407)] := hl
            replace hS : va_S A s.heap H locs := hS
            replace hD : va_D A [(h0, .inr (13, z407)), (qf109, .inl (cf109, 96, .inl f109)), (qf100, .inl (cf100, 48000, .inl f100)), (qf127, .inl (cf127, 30, .inl g127_407)), (qf107, .inl (cf107, 96, .inl f107)), (qf102, .inl (cf102, 2048, .inl f102)), (qf111, .inl (cf111, 96, .inl f111)), (qf104, .inl (cf104, 8, .inl f104)), (qf118, .inl (cf118, 2100, .inl g118_407)), (qf119, .inl (cf119, 2100, .inl g119_407)), (qf105, .inl (cf105, 8, .inl f105)), (qf128, .inl (cf128, 31, .inl g128_407)), (qf110, .inl (cf110, 96, .inl f110)), (qf103, .inl (cf103, 8, .inl f103)), (qf106, .inl (cf106, 8, .inl f106)), (qf108, .inl (cf108, 8, .inl f108)), (qf137, .inl (cf137, 6, .inl g137_407))] := hD
            replace hP : va_P (dC, dI) vwCl [(h0, .inr (13, z407)), (qf109, .inl (cf109, 96, .inl f109)), (qf100, .inl (cf100, 48000, .inl f100)), (qf127, .inl (cf127, 30, .inl g127_407)), (qf107, .inl (cf107, 96, .inl f107)), (qf102, .inl (cf102, 2048, .inl f102)), (qf111, .inl (cf111, 96, .inl f111)), (qf104, .inl (cf104, 8, .inl f104)), (qf118, .inl (cf118, 2100, .inl g118_407)), (qf119, .inl (cf119, 2100, .inl g119_407)), (qf105, .inl (cf105, 8, .inl f105)), (qf128, .inl (cf128, 31, .inl g128_407)), (qf110, .inl (cf110, 96, .inl f110)), (qf103, .inl (cf103, 8, .inl f103)), (qf106, .inl (cf106, 8, .inl f106)), (qf108, .inl (cf108, 8, .inl f108)), (qf137, .inl (cf137, 6, .inl g137_407))] H := hP
            replace hsp : jn_vm_flows_407 nf a1 a2 v98 v117 v120 v121 v122 v123 v124 v125 v129 v130 v131 v132 v133 v134 v135 v136 f109 f100 f127 f107 f102 f111 f104 f118 f119 f105 f128 f110 f103 f106 f108 f137 nS477 fS477 (lp_vm_flows_155 nf n_155 a1 a2 v98 v117 v120 v121 v122 v123 v124 v125 v129 v130 v131 v132 v133 v134 v135 v136 f109 f100 f127 f107 f102 f111 f104 f118 f119 f105 f128 f110 f103 f106 f108 f137 nS477 fS477) l1_407 l2_407 l6_407 g118_407 g119_407 g127_407 g128_407 g137_407 x117_407 x120_407 x121_407 x122_407 x123_407 x124_407 x125_407 x131_407 x136_407 = some (r0, o118, o119, o127, o128, o137, w117, w120, w121, w122, w123, w124, w125, w131, w136) := hsp
            show W _ _ _ _ _ _ _ _ _ _ H locs _ _ _ (F0 m 407 ls [])
            unfold jn_vm_flows_407 at hsp
            try dsimp only at hsp
            refine lv_iconst (v := 0) hx hb dX13_flows_407 (by decide) ?_
            exact hj_408 (H, locs, ls, z407, l1_407, l2_407, l6_407, 0, g118_407, g119_407, g127_407, g128_407, g137_407, x117_407, x120_407, x121_407, x122_407, x123_407, x124_407, x125_407, x131_407, x136_407) ⟨lv_sub hl [0, 1, 2, 3] rfl, hS, hD.sub (ws' := [(h0, .inr (13, z407)), (qf109, .inl (cf109, 96, .inl f109)), (qf100, .inl (cf100, 48000, .inl f100)), (qf127, .inl (cf127, 30, .inl g127_407)), (qf107, .inl (cf107, 96, .inl f107)), (qf102, .inl (cf102, 2048, .inl f102)), (qf111, .inl (cf111, 96, .inl f111)), (qf104, .inl (cf104, 8, .inl f104)), (qf118, .inl (cf118, 2100, .inl g118_407)), (qf119, .inl (cf119, 2100, .inl g119_407)), (qf105, .inl (cf105, 8, .inl f105)), (qf128, .inl (cf128, 31, .inl g128_407)), (qf110, .inl (cf110, 96, .inl f110)), (qf103, .inl (cf103, 8, .inl f103)), (qf106, .inl (cf106, 8, .inl f106)), (qf108, .inl (cf108, 8, .inl f108)), (qf137, .inl (cf137, 6, .inl g137_407))]) [0, 1, 2, 3, 4, 5, 6, 7, 8, 9, 10, 11, 12, 13, 14, 15, 16] (by decide) rfl, hP.sub (ws' := [(h0, .inr (13, z407)), (qf109, .inl (cf109, 96, .inl f109)), (qf100, .inl (cf100, 48000, .inl f100)), (qf127, .inl (cf127, 30, .inl g127_407)), (qf107, .inl (cf107, 96, .inl f107)), (qf102, .inl (cf102, 2048, .inl f102)), (qf111, .inl (cf111, 96, .inl f111)), (qf104, .inl (cf104, 8, .inl f104)), (qf118, .inl (cf118, 2100, .inl g118_407)), (qf119, .inl (cf119, 2100, .inl g119_407)), (qf105, .inl (cf105, 8, .inl f105)), (qf128, .inl (cf128, 31, .inl g128_407)), (qf110, .inl (cf110, 96, .inl f110)), (qf103, .inl (cf103, 8, .inl f103)), (qf106, .inl (cf106, 8, .inl f106)), (qf108, .inl (cf108, 8, .inl f108)), (qf137, .inl (cf137, 6, .inl g137_407))]) [0, 1, 2, 3, 4, 5, 6, 7, 8, 9, 10, 11, 12, 13, 14, 15, 16] rfl, hfh_407_98, hfh_407_100, hfh_407_102, hfh_407_103, hfh_407_104, hfh_407_105, hfh_407_106, hfh_407_107, hfh_407_108, hfh_407_109, hfh_407_110, hfh_407_111, hfh_407_117, hfh_407_118, hfh_407_119, hfh_407_120, hfh_407_121, hfh_407_122, hfh_407_123, hfh_407_124, hfh_407_125, hfh_407_127, hfh_407_128, hfh_407_129, hfh_407_130, hfh_407_131, hfh_407_132, hfh_407_133, hfh_407_134, hfh_407_135, hfh_407_136, hfh_407_137, hlh_407, hrh_407, hsp⟩
          intro hj_407
          refine jn_use (α := Heap × List Loc × Array Slot × List Value × Int32 × Int32 × Int32 × Int32 × (Nat → Int32) × (Nat → Int32) × (Nat → Int32) × (Nat → Int32) × (Nat → Int32) × Int32 × Int32 × Int32 × Int32 × Int32 × Int32 × Int32 × Int32 × Int32) (fun x9 => x9.1) (fun x9 => x9.2.1) (fun x9 => F0 m 363 x9.2.2.1 []) (fun x9 => match x9 with | (H, locs, ls, z363, l1_363, l2_363, l6_363, l8_363, g118_363, g119_363, g127_363, g128_363, g137_363, x117_363, x120_363, x121_363, x122_363, x123_363, x124_363, x125_363, x131_363, x136_363) => lv_has ls 10 [(0, .ref h0), (1, .int l1_363), (2, .int l2_363), (6, .int l6_363), (8, .int l8_363)] ∧ va_S A s.heap H locs ∧ va_D A [(h0, .inr (13, z363)), (qf109, .inl (cf109, 96, .inl f109)), (qf100, .inl (cf100, 48000, .inl f100)), (qf127, .inl (cf127, 30, .inl g127_363)), (qf107, .inl (cf107, 96, .inl f107)), (qf102, .inl (cf102, 2048, .inl f102)), (qf111, .inl (cf111, 96, .inl f111)), (qf104, .inl (cf104, 8, .inl f104)), (qf118, .inl (cf118, 2100, .inl g118_363)), (qf119, .inl (cf119, 2100, .inl g119_363)), (qf105, .inl (cf105, 8, .inl f105)), (qf128, .inl (cf128, 31, .inl g128_363)), (qf110, .inl (cf110, 96, .inl f110)), (qf103, .inl (cf103, 8, .inl f103)), (qf106, .inl (cf106, 8, .inl f106)), (qf108, .inl (cf108, 8, .inl f108)), (qf137, .inl (cf137, 6, .inl g137_363))] ∧ va_P (dC, dI) vwCl [(h0, .inr (13, z363)), (qf109, .inl (cf109, 96, .inl f109)), (qf100, .inl (cf100, 48000, .inl f100)), (qf127, .inl (cf127, 30, .inl g127_363)), (qf107, .inl (cf107, 96, .inl f107)), (qf102, .inl (cf102, 2048, .inl f102)), (qf111, .inl (cf111, 96, .inl f111)), (qf104, .inl (cf104, 8, .inl f104)), (qf118, .inl (cf118, 2100, .inl g118_363)), (qf119, .inl (cf119, 2100, .inl g119_363)), (qf105, .inl (cf105, 8, .inl f105)), (qf128, .inl (cf128, 31, .inl g128_363)), (qf110, .inl (cf110, 96, .inl f110)), (qf103, .inl (cf103, 8, .inl f103)), (qf106, .inl (cf106, 8, .inl f106)), (qf108, .inl (cf108, 8, .inl f108)), (qf137, .inl (cf137, 6, .inl g137_363))] H ∧ z363[98]? = some (.int v98) ∧ z363[100]? = some (.ref qf100) ∧ z363[102]? = some (.ref qf102) ∧ z363[103]? = some (.ref qf103) ∧ z363[104]? = some (.ref qf104) ∧ z363[105]? = some (.ref qf105) ∧ z363[106]? = some (.ref qf106) ∧ z363[107]? = some (.ref qf107) ∧ z363[108]? = some (.ref qf108) ∧ z363[109]? = some (.ref qf109) ∧ z363[110]? = some (.ref qf110) ∧ z363[111]? = some (.ref qf111) ∧ z363[117]? = some (.int x117_363) ∧ z363[118]? = some (.ref qf118) ∧ z363[119]? = some (.ref qf119) ∧ z363[120]? = some (.int x120_363) ∧ z363[121]? = some (.int x121_363) ∧ z363[122]? = some (.int x122_363) ∧ z363[123]? = some (.int x123_363) ∧ z363[124]? = some (.int x124_363) ∧ z363[125]? = some (.int x125_363) ∧ z363[127]? = some (.ref qf127) ∧ z363[128]? = some (.ref qf128) ∧ z363[129]? = some (.int v129) ∧ z363[130]? = some (.int v130) ∧ z363[131]? = some (.int x131_363) ∧ z363[132]? = some (.int v132) ∧ z363[133]? = some (.int v133) ∧ z363[134]? = some (.int v134) ∧ z363[135]? = some (.int v135) ∧ z363[136]? = some (.int x136_363) ∧ z363[137]? = some (.ref qf137) ∧ z363.length = 155 ∧ (∀ j : Nat, j ≠ 117 → j ≠ 120 → j ≠ 121 → j ≠ 122 → j ≠ 123 → j ≠ 124 → j ≠ 125 → j ≠ 131 → j ≠ 136 → z363[j]? = zs[j]?) ∧ jn_vm_flows_363 nf a1 a2 v98 v117 v120 v121 v122 v123 v124 v125 v129 v130 v131 v132 v133 v134 v135 v136 f109 f100 f127 f107 f102 f111 f104 f118 f119 f105 f128 f110 f103 f106 f108 f137 nS477 fS477 (lp_vm_flows_155 nf n_155 a1 a2 v98 v117 v120 v121 v122 v123 v124 v125 v129 v130 v131 v132 v133 v134 v135 v136 f109 f100 f127 f107 f102 f111 f104 f118 f119 f105 f128 f110 f103 f106 f108 f137 nS477 fS477) l1_363 l2_363 l6_363 l8_363 g118_363 g119_363 g127_363 g128_363 g137_363 x117_363 x120_363 x121_363 x122_363 x123_363 x124_363 x125_363 x131_363 x136_363 = some (r0, o118, o119, o127, o128, o137, w117, w120, w121, w122, w123, w124, w125, w131, w136)) ?_ ?_
          · intro x9 hJ9
            obtain ⟨H, locs, ls, z363, l1_363, l2_363, l6_363, l8_363, g118_363, g119_363, g127_363, g128_363, g137_363, x117_363, x120_363, x121_363, x122_363, x123_363, x124_363, x125_363, x131_363, x136_363⟩ := x9
            obtain ⟨hl, hS, hD, hP, hfh_363_98, hfh_363_100, hfh_363_102, hfh_363_103, hfh_363_104, hfh_363_105, hfh_363_106, hfh_363_107, hfh_363_108, hfh_363_109, hfh_363_110, hfh_363_111, hfh_363_117, hfh_363_118, hfh_363_119, hfh_363_120, hfh_363_121, hfh_363_122, hfh_363_123, hfh_363_124, hfh_363_125, hfh_363_127, hfh_363_128, hfh_363_129, hfh_363_130, hfh_363_131, hfh_363_132, hfh_363_133, hfh_363_134, hfh_363_135, hfh_363_136, hfh_363_137, hlh_363, hrh_363, hsp⟩ := hJ9
            replace hl : lv_has ls 10 [(0, .ref h0), (1, .int l1_363), (2, .int l2_363), (6, .int l6_363), (8, .int l8_363)] := hl
            replace hS : va_S A s.heap H locs := hS
            replace hD : va_D A [(h0, .inr (13, z363)), (qf109, .inl (cf109, 96, .inl f109)), (qf100, .inl (cf100, 48000, .inl f100)), (qf127, .inl (cf127, 30, .inl g127_363)), (qf107, .inl (cf107, 96, .inl f107)), (qf102, .inl (cf102, 2048, .inl f102)), (qf111, .inl (cf111, 96, .inl f111)), (qf104, .inl (cf104, 8, .inl f104)), (qf118, .inl (cf118, 2100, .inl g118_363)), (qf119, .inl (cf119, 2100, .inl g119_363)), (qf105, .inl (cf105, 8, .inl f105)), (qf128, .inl (cf128, 31, .inl g128_363)), (qf110, .inl (cf110, 96, .inl f110)), (qf103, .inl (cf103, 8, .inl f103)), (qf106, .inl (cf106, 8, .inl f106)), (qf108, .inl (cf108, 8, .inl f108)), (qf137, .inl (cf137, 6, .inl g137_363))] := hD
            replace hP : va_P (dC, dI) vwCl [(h0, .inr (13, z363)), (qf109, .inl (cf109, 96, .inl f109)), (qf100, .inl (cf100, 48000, .inl f100)), (qf127, .inl (cf127, 30, .inl g127_363)), (qf107, .inl (cf107, 96, .inl f107)), (qf102, .inl (cf102, 2048, .inl f102)), (qf111, .inl (cf111, 96, .inl f111)), (qf104, .inl (cf104, 8, .inl f104)), (qf118, .inl (cf118, 2100, .inl g118_363)), (qf119, .inl (cf119, 2100, .inl g119_363)), (qf105, .inl (cf105, 8, .inl f105)), (qf128, .inl (cf128, 31, .inl g128_363)), (qf110, .inl (cf110, 96, .inl f110)), (qf103, .inl (cf103, 8, .inl f103)), (qf106, .inl (cf106, 8, .inl f106)), (qf108, .inl (cf108, 8, .inl f108)), (qf137, .inl (cf137, 6, .inl g137_363))] H := hP
            replace hsp : jn_vm_flows_363 nf a1 a2 v98 v117 v120 v121 v122 v123 v124 v125 v129 v130 v131 v132 v133 v134 v135 v136 f109 f100 f127 f107 f102 f111 f104 f118 f119 f105 f128 f110 f103 f106 f108 f137 nS477 fS477 (lp_vm_flows_155 nf n_155 a1 a2 v98 v117 v120 v121 v122 v123 v124 v125 v129 v130 v131 v132 v133 v134 v135 v136 f109 f100 f127 f107 f102 f111 f104 f118 f119 f105 f128 f110 f103 f106 f108 f137 nS477 fS477) l1_363 l2_363 l6_363 l8_363 g118_363 g119_363 g127_363 g128_363 g137_363 x117_363 x120_363 x121_363 x122_363 x123_363 x124_363 x125_363 x131_363 x136_363 = some (r0, o118, o119, o127, o128, o137, w117, w120, w121, w122, w123, w124, w125, w131, w136) := hsp
            show W _ _ _ _ _ _ _ _ _ _ H locs _ _ _ (F0 m 363 ls [])
            unfold jn_vm_flows_363 at hsp
            try dsimp only at hsp
            refine lv_iload hx hb dX13_flows_363 (lv_at hl 4 rfl) ?_
            refine lv_sipush (v := 167) hx hb dX13_flows_365 (by decide) ?_
            refine lv_icmp_eq (tgt := 407) hx hb dX13_flows_368 (by decide) (fun c_59 => ?_) (fun c_59 => ?_)
            · rw [if_pos c_59] at hsp
              exact hj_407 (H, locs, ls, z363, l1_363, l2_363, l6_363, g118_363, g119_363, g127_363, g128_363, g137_363, x117_363, x120_363, x121_363, x122_363, x123_363, x124_363, x125_363, x131_363, x136_363) ⟨lv_sub hl [0, 1, 2, 3] rfl, hS, hD.sub (ws' := [(h0, .inr (13, z363)), (qf109, .inl (cf109, 96, .inl f109)), (qf100, .inl (cf100, 48000, .inl f100)), (qf127, .inl (cf127, 30, .inl g127_363)), (qf107, .inl (cf107, 96, .inl f107)), (qf102, .inl (cf102, 2048, .inl f102)), (qf111, .inl (cf111, 96, .inl f111)), (qf104, .inl (cf104, 8, .inl f104)), (qf118, .inl (cf118, 2100, .inl g118_363)), (qf119, .inl (cf119, 2100, .inl g119_363)), (qf105, .inl (cf105, 8, .inl f105)), (qf128, .inl (cf128, 31, .inl g128_363)), (qf110, .inl (cf110, 96, .inl f110)), (qf103, .inl (cf103, 8, .inl f103)), (qf106, .inl (cf106, 8, .inl f106)), (qf108, .inl (cf108, 8, .inl f108)), (qf137, .inl (cf137, 6, .inl g137_363))]) [0, 1, 2, 3, 4, 5, 6, 7, 8, 9, 10, 11, 12, 13, 14, 15, 16] (by decide) rfl, hP.sub (ws' := [(h0, .inr (13, z363)), (qf109, .inl (cf109, 96, .inl f109)), (qf100, .inl (cf100, 48000, .inl f100)), (qf127, .inl (cf127, 30, .inl g127_363)), (qf107, .inl (cf107, 96, .inl f107)), (qf102, .inl (cf102, 2048, .inl f102)), (qf111, .inl (cf111, 96, .inl f111)), (qf104, .inl (cf104, 8, .inl f104)), (qf118, .inl (cf118, 2100, .inl g118_363)), (qf119, .inl (cf119, 2100, .inl g119_363)), (qf105, .inl (cf105, 8, .inl f105)), (qf128, .inl (cf128, 31, .inl g128_363)), (qf110, .inl (cf110, 96, .inl f110)), (qf103, .inl (cf103, 8, .inl f103)), (qf106, .inl (cf106, 8, .inl f106)), (qf108, .inl (cf108, 8, .inl f108)), (qf137, .inl (cf137, 6, .inl g137_363))]) [0, 1, 2, 3, 4, 5, 6, 7, 8, 9, 10, 11, 12, 13, 14, 15, 16] rfl, hfh_363_98, hfh_363_100, hfh_363_102, hfh_363_103, hfh_363_104, hfh_363_105, hfh_363_106, hfh_363_107, hfh_363_108, hfh_363_109, hfh_363_110, hfh_363_111, hfh_363_117, hfh_363_118, hfh_363_119, hfh_363_120, hfh_363_121, hfh_363_122, hfh_363_123, hfh_363_124, hfh_363_125, hfh_363_127, hfh_363_128, hfh_363_129, hfh_363_130, hfh_363_131, hfh_363_132, hfh_363_133, hfh_363_134, hfh_363_135, hfh_363_136, hfh_363_137, hlh_363, hrh_363, hsp⟩
            · rw [if_neg c_59] at hsp
              refine lv_iload hx hb dX13_flows_371 (lv_at hl 4 rfl) ?_
              refine lv_sipush (v := 172) hx hb dX13_flows_373 (by decide) ?_
              refine lv_icmp_eq (tgt := 407) hx hb dX13_flows_376 (by decide) (fun c_60 => ?_) (fun c_60 => ?_)
              · rw [if_pos c_60] at hsp
                exact hj_407 (H, locs, ls, z363, l1_363, l2_363, l6_363, g118_363, g119_363, g127_363, g128_363, g137_363, x117_363, x120_363, x121_363, x122_363, x123_363, x124_363, x125_363, x131_363, x136_363) ⟨lv_sub hl [0, 1, 2, 3] rfl, hS, hD.sub (ws' := [(h0, .inr (13, z363)), (qf109, .inl (cf109, 96, .inl f109)), (qf100, .inl (cf100, 48000, .inl f100)), (qf127, .inl (cf127, 30, .inl g127_363)), (qf107, .inl (cf107, 96, .inl f107)), (qf102, .inl (cf102, 2048, .inl f102)), (qf111, .inl (cf111, 96, .inl f111)), (qf104, .inl (cf104, 8, .inl f104)), (qf118, .inl (cf118, 2100, .inl g118_363)), (qf119, .inl (cf119, 2100, .inl g119_363)), (qf105, .inl (cf105, 8, .inl f105)), (qf128, .inl (cf128, 31, .inl g128_363)), (qf110, .inl (cf110, 96, .inl f110)), (qf103, .inl (cf103, 8, .inl f103)), (qf106, .inl (cf106, 8, .inl f106)), (qf108, .inl (cf108, 8, .inl f108)), (qf137, .inl (cf137, 6, .inl g137_363))]) [0, 1, 2, 3, 4, 5, 6, 7, 8, 9, 10, 11, 12, 13, 14, 15, 16] (by decide) rfl, hP.sub (ws' := [(h0, .inr (13, z363)), (qf109, .inl (cf109, 96, .inl f109)), (qf100, .inl (cf100, 48000, .inl f100)), (qf127, .inl (cf127, 30, .inl g127_363)), (qf107, .inl (cf107, 96, .inl f107)), (qf102, .inl (cf102, 2048, .inl f102)), (qf111, .inl (cf111, 96, .inl f111)), (qf104, .inl (cf104, 8, .inl f104)), (qf118, .inl (cf118, 2100, .inl g118_363)), (qf119, .inl (cf119, 2100, .inl g119_363)), (qf105, .inl (cf105, 8, .inl f105)), (qf128, .inl (cf128, 31, .inl g128_363)), (qf110, .inl (cf110, 96, .inl f110)), (qf103, .inl (cf103, 8, .inl f103)), (qf106, .inl (cf106, 8, .inl f106)), (qf108, .inl (cf108, 8, .inl f108)), (qf137, .inl (cf137, 6, .inl g137_363))]) [0, 1, 2, 3, 4, 5, 6, 7, 8, 9, 10, 11, 12, 13, 14, 15, 16] rfl, hfh_363_98, hfh_363_100, hfh_363_102, hfh_363_103, hfh_363_104, hfh_363_105, hfh_363_106, hfh_363_107, hfh_363_108, hfh_363_109, hfh_363_110, hfh_363_111, hfh_363_117, hfh_363_118, hfh_363_119, hfh_363_120, hfh_363_121, hfh_363_122, hfh_363_123, hfh_363_124, hfh_363_125, hfh_363_127, hfh_363_128, hfh_363_129, hfh_363_130, hfh_363_131, hfh_363_132, hfh_363_133, hfh_363_134, hfh_363_135, hfh_363_136, hfh_363_137, hlh_363, hrh_363, hsp⟩
              · rw [if_neg c_60] at hsp
                refine lv_iload hx hb dX13_flows_379 (lv_at hl 4 rfl) ?_
                refine lv_sipush (v := 176) hx hb dX13_flows_381 (by decide) ?_
                refine lv_icmp_eq (tgt := 407) hx hb dX13_flows_384 (by decide) (fun c_61 => ?_) (fun c_61 => ?_)
                · rw [if_pos c_61] at hsp
                  exact hj_407 (H, locs, ls, z363, l1_363, l2_363, l6_363, g118_363, g119_363, g127_363, g128_363, g137_363, x117_363, x120_363, x121_363, x122_363, x123_363, x124_363, x125_363, x131_363, x136_363) ⟨lv_sub hl [0, 1, 2, 3] rfl, hS, hD.sub (ws' := [(h0, .inr (13, z363)), (qf109, .inl (cf109, 96, .inl f109)), (qf100, .inl (cf100, 48000, .inl f100)), (qf127, .inl (cf127, 30, .inl g127_363)), (qf107, .inl (cf107, 96, .inl f107)), (qf102, .inl (cf102, 2048, .inl f102)), (qf111, .inl (cf111, 96, .inl f111)), (qf104, .inl (cf104, 8, .inl f104)), (qf118, .inl (cf118, 2100, .inl g118_363)), (qf119, .inl (cf119, 2100, .inl g119_363)), (qf105, .inl (cf105, 8, .inl f105)), (qf128, .inl (cf128, 31, .inl g128_363)), (qf110, .inl (cf110, 96, .inl f110)), (qf103, .inl (cf103, 8, .inl f103)), (qf106, .inl (cf106, 8, .inl f106)), (qf108, .inl (cf108, 8, .inl f108)), (qf137, .inl (cf137, 6, .inl g137_363))]) [0, 1, 2, 3, 4, 5, 6, 7, 8, 9, 10, 11, 12, 13, 14, 15, 16] (by decide) rfl, hP.sub (ws' := [(h0, .inr (13, z363)), (qf109, .inl (cf109, 96, .inl f109)), (qf100, .inl (cf100, 48000, .inl f100)), (qf127, .inl (cf127, 30, .inl g127_363)), (qf107, .inl (cf107, 96, .inl f107)), (qf102, .inl (cf102, 2048, .inl f102)), (qf111, .inl (cf111, 96, .inl f111)), (qf104, .inl (cf104, 8, .inl f104)), (qf118, .inl (cf118, 2100, .inl g118_363)), (qf119, .inl (cf119, 2100, .inl g119_363)), (qf105, .inl (cf105, 8, .inl f105)), (qf128, .inl (cf128, 31, .inl g128_363)), (qf110, .inl (cf110, 96, .inl f110)), (qf103, .inl (cf103, 8, .inl f103)), (qf106, .inl (cf106, 8, .inl f106)), (qf108, .inl (cf108, 8, .inl f108)), (qf137, .inl (cf137, 6, .inl g137_363))]) [0, 1, 2, 3, 4, 5, 6, 7, 8, 9, 10, 11, 12, 13, 14, 15, 16] rfl, hfh_363_98, hfh_363_100, hfh_363_102, hfh_363_103, hfh_363_104, hfh_363_105, hfh_363_106, hfh_363_107, hfh_363_108, hfh_363_109, hfh_363_110, hfh_363_111, hfh_363_117, hfh_363_118, hfh_363_119, hfh_363_120, hfh_363_121, hfh_363_122, hfh_363_123, hfh_363_124, hfh_363_125, hfh_363_127, hfh_363_128, hfh_363_129, hfh_363_130, hfh_363_131, hfh_363_132, hfh_363_133, hfh_363_134, hfh_363_135, hfh_363_136, hfh_363_137, hlh_363, hrh_363, hsp⟩
                · rw [if_neg c_61] at hsp
                  refine lv_iload hx hb dX13_flows_387 (lv_at hl 4 rfl) ?_
                  refine lv_sipush (v := 177) hx hb dX13_flows_389 (by decide) ?_
                  refine lv_icmp_eq (tgt := 407) hx hb dX13_flows_392 (by decide) (fun c_62 => ?_) (fun c_62 => ?_)
                  · rw [if_pos c_62] at hsp
                    exact hj_407 (H, locs, ls, z363, l1_363, l2_363, l6_363, g118_363, g119_363, g127_363, g128_363, g137_363, x117_363, x120_363, x121_363, x122_363, x123_363, x124_363, x125_363, x131_363, x136_363) ⟨lv_sub hl [0, 1, 2, 3] rfl, hS, hD.sub (ws' := [(h0, .inr (13, z363)), (qf109, .inl (cf109, 96, .inl f109)), (qf100, .inl (cf100, 48000, .inl f100)), (qf127, .inl (cf127, 30, .inl g127_363)), (qf107, .inl (cf107, 96, .inl f107)), (qf102, .inl (cf102, 2048, .inl f102)), (qf111, .inl (cf111, 96, .inl f111)), (qf104, .inl (cf104, 8, .inl f104)), (qf118, .inl (cf118, 2100, .inl g118_363)), (qf119, .inl (cf119, 2100, .inl g119_363)), (qf105, .inl (cf105, 8, .inl f105)), (qf128, .inl (cf128, 31, .inl g128_363)), (qf110, .inl (cf110, 96, .inl f110)), (qf103, .inl (cf103, 8, .inl f103)), (qf106, .inl (cf106, 8, .inl f106)), (qf108, .inl (cf108, 8, .inl f108)), (qf137, .inl (cf137, 6, .inl g137_363))]) [0, 1, 2, 3, 4, 5, 6, 7, 8, 9, 10, 11, 12, 13, 14, 15, 16] (by decide) rfl, hP.sub (ws' := [(h0, .inr (13, z363)), (qf109, .inl (cf109, 96, .inl f109)), (qf100, .inl (cf100, 48000, .inl f100)), (qf127, .inl (cf127, 30, .inl g127_363)), (qf107, .inl (cf107, 96, .inl f107)), (qf102, .inl (cf102, 2048, .inl f102)), (qf111, .inl (cf111, 96, .inl f111)), (qf104, .inl (cf104, 8, .inl f104)), (qf118, .inl (cf118, 2100, .inl g118_363)), (qf119, .inl (cf119, 2100, .inl g119_363)), (qf105, .inl (cf105, 8, .inl f105)), (qf128, .inl (cf128, 31, .inl g128_363)), (qf110, .inl (cf110, 96, .inl f110)), (qf103, .inl (cf103, 8, .inl f103)), (qf106, .inl (cf106, 8, .inl f106)), (qf108, .inl (cf108, 8, .inl f108)), (qf137, .inl (cf137, 6, .inl g137_363))]) [0, 1, 2, 3, 4, 5, 6, 7, 8, 9, 10, 11, 12, 13, 14, 15, 16] rfl, hfh_363_98, hfh_363_100, hfh_363_102, hfh_363_103, hfh_363_104, hfh_363_105, hfh_363_106, hfh_363_107, hfh_363_108, hfh_363_109, hfh_363_110, hfh_363_111, hfh_363_117, hfh_363_118, hfh_363_119, hfh_363_120, hfh_363_121, hfh_363_122, hfh_363_123, hfh_363_124, hfh_363_125, hfh_363_127, hfh_363_128, hfh_363_129, hfh_363_130, hfh_363_131, hfh_363_132, hfh_363_133, hfh_363_134, hfh_363_135, hfh_363_136, hfh_363_137, hlh_363, hrh_363, hsp⟩
                  · rw [if_neg c_62] at hsp
                    refine lv_iload hx hb dX13_flows_395 (lv_at hl 4 rfl) ?_
                    refine lv_sipush (v := 191) hx hb dX13_flows_397 (by decide) ?_
                    refine lv_icmp_eq (tgt := 407) hx hb dX13_flows_400 (by decide) (fun c_63 => ?_) (fun c_63 => ?_)
                    · rw [if_pos c_63] at hsp
                      exact hj_407 (H, locs, ls, z363, l1_363, l2_363, l6_363, g118_363, g119_363, g127_363, g128_363, g137_363, x117_363, x120_363, x121_363, x122_363, x123_363, x124_363, x125_363, x131_363, x136_363) ⟨lv_sub hl [0, 1, 2, 3] rfl, hS, hD.sub (ws' := [(h0, .inr (13, z363)), (qf109, .inl (cf109, 96, .inl f109)), (qf100, .inl (cf100, 48000, .inl f100)), (qf127, .inl (cf127, 30, .inl g127_363)), (qf107, .inl (cf107, 96, .inl f107)), (qf102, .inl (cf102, 2048, .inl f102)), (qf111, .inl (cf111, 96, .inl f111)), (qf104, .inl (cf104, 8, .inl f104)), (qf118, .inl (cf118, 2100, .inl g118_363)), (qf119, .inl (cf119, 2100, .inl g119_363)), (qf105, .inl (cf105, 8, .inl f105)), (qf128, .inl (cf128, 31, .inl g128_363)), (qf110, .inl (cf110, 96, .inl f110)), (qf103, .inl (cf103, 8, .inl f103)), (qf106, .inl (cf106, 8, .inl f106)), (qf108, .inl (cf108, 8, .inl f108)), (qf137, .inl (cf137, 6, .inl g137_363))]) [0, 1, 2, 3, 4, 5, 6, 7, 8, 9, 10, 11, 12, 13, 14, 15, 16] (by decide) rfl, hP.sub (ws' := [(h0, .inr (13, z363)), (qf109, .inl (cf109, 96, .inl f109)), (qf100, .inl (cf100, 48000, .inl f100)), (qf127, .inl (cf127, 30, .inl g127_363)), (qf107, .inl (cf107, 96, .inl f107)), (qf102, .inl (cf102, 2048, .inl f102)), (qf111, .inl (cf111, 96, .inl f111)), (qf104, .inl (cf104, 8, .inl f104)), (qf118, .inl (cf118, 2100, .inl g118_363)), (qf119, .inl (cf119, 2100, .inl g119_363)), (qf105, .inl (cf105, 8, .inl f105)), (qf128, .inl (cf128, 31, .inl g128_363)), (qf110, .inl (cf110, 96, .inl f110)), (qf103, .inl (cf103, 8, .inl f103)), (qf106, .inl (cf106, 8, .inl f106)), (qf108, .inl (cf108, 8, .inl f108)), (qf137, .inl (cf137, 6, .inl g137_363))]) [0, 1, 2, 3, 4, 5, 6, 7, 8, 9, 10, 11, 12, 13, 14, 15, 16] rfl, hfh_363_98, hfh_363_100, hfh_363_102, hfh_363_103, hfh_363_104, hfh_363_105, hfh_363_106, hfh_363_107, hfh_363_108, hfh_363_109, hfh_363_110, hfh_363_111, hfh_363_117, hfh_363_118, hfh_363_119, hfh_363_120, hfh_363_121, hfh_363_122, hfh_363_123, hfh_363_124, hfh_363_125, hfh_363_127, hfh_363_128, hfh_363_129, hfh_363_130, hfh_363_131, hfh_363_132, hfh_363_133, hfh_363_134, hfh_363_135, hfh_363_136, hfh_363_137, hlh_363, hrh_363, hsp⟩
                    · rw [if_neg c_63] at hsp
                      refine lv_iconst (v := 1) hx hb dX13_flows_403 (by decide) ?_
                      refine lv_goto (tgt := 408) hx hb dX13_flows_404 (by decide) ?_
                      exact hj_408 (H, locs, ls, z363, l1_363, l2_363, l6_363, 1, g118_363, g119_363, g127_363, g128_363, g137_363, x117_363, x120_363, x121_363, x122_363, x123_363, x124_363, x125_363, x131_363, x136_363) ⟨lv_sub hl [0, 1, 2, 3] rfl, hS, hD.sub (ws' := [(h0, .inr (13, z363)), (qf109, .inl (cf109, 96, .inl f109)), (qf100, .inl (cf100, 48000, .inl f100)), (qf127, .inl (cf127, 30, .inl g127_363)), (qf107, .inl (cf107, 96, .inl f107)), (qf102, .inl (cf102, 2048, .inl f102)), (qf111, .inl (cf111, 96, .inl f111)), (qf104, .inl (cf104, 8, .inl f104)), (qf118, .inl (cf118, 2100, .inl g118_363)), (qf119, .inl (cf119, 2100, .inl g119_363)), (qf105, .inl (cf105, 8, .inl f105)), (qf128, .inl (cf128, 31, .inl g128_363)), (qf110, .inl (cf110, 96, .inl f110)), (qf103, .inl (cf103, 8, .inl f103)), (qf106, .inl (cf106, 8, .inl f106)), (qf108, .inl (cf108, 8, .inl f108)), (qf137, .inl (cf137, 6, .inl g137_363))]) [0, 1, 2, 3, 4, 5, 6, 7, 8, 9, 10, 11, 12, 13, 14, 15, 16] (by decide) rfl, hP.sub (ws' := [(h0, .inr (13, z363)), (qf109, .inl (cf109, 96, .inl f109)), (qf100, .inl (cf100, 48000, .inl f100)), (qf127, .inl (cf127, 30, .inl g127_363)), (qf107, .inl (cf107, 96, .inl f107)), (qf102, .inl (cf102, 2048, .inl f102)), (qf111, .inl (cf111, 96, .inl f111)), (qf104, .inl (cf104, 8, .inl f104)), (qf118, .inl (cf118, 2100, .inl g118_363)), (qf119, .inl (cf119, 2100, .inl g119_363)), (qf105, .inl (cf105, 8, .inl f105)), (qf128, .inl (cf128, 31, .inl g128_363)), (qf110, .inl (cf110, 96, .inl f110)), (qf103, .inl (cf103, 8, .inl f103)), (qf106, .inl (cf106, 8, .inl f106)), (qf108, .inl (cf108, 8, .inl f108)), (qf137, .inl (cf137, 6, .inl g137_363))]) [0, 1, 2, 3, 4, 5, 6, 7, 8, 9, 10, 11, 12, 13, 14, 15, 16] rfl, hfh_363_98, hfh_363_100, hfh_363_102, hfh_363_103, hfh_363_104, hfh_363_105, hfh_363_106, hfh_363_107, hfh_363_108, hfh_363_109, hfh_363_110, hfh_363_111, hfh_363_117, hfh_363_118, hfh_363_119, hfh_363_120, hfh_363_121, hfh_363_122, hfh_363_123, hfh_363_124, hfh_363_125, hfh_363_127, hfh_363_128, hfh_363_129, hfh_363_130, hfh_363_131, hfh_363_132, hfh_363_133, hfh_363_134, hfh_363_135, hfh_363_136, hfh_363_137, hlh_363, hrh_363, hsp⟩
          intro hj_363
          refine jn_use (α := Heap × List Loc × Array Slot × List Value × Int32 × Int32 × Int32 × (Nat → Int32) × (Nat → Int32) × (Nat → Int32) × (Nat → Int32) × (Nat → Int32) × Int32 × Int32 × Int32 × Int32 × Int32 × Int32 × Int32 × Int32 × Int32) (fun x9 => x9.1) (fun x9 => x9.2.1) (fun x9 => F0 m 240 x9.2.2.1 []) (fun x9 => match x9 with | (H, locs, ls, z240, l1_240, l2_240, l6_240, g118_240, g119_240, g127_240, g128_240, g137_240, x117_240, x120_240, x121_240, x122_240, x123_240, x124_240, x125_240, x131_240, x136_240) => lv_has ls 10 [(0, .ref h0), (1, .int l1_240), (2, .int l2_240), (6, .int l6_240)] ∧ va_S A s.heap H locs ∧ va_D A [(h0, .inr (13, z240)), (qf109, .inl (cf109, 96, .inl f109)), (qf100, .inl (cf100, 48000, .inl f100)), (qf127, .inl (cf127, 30, .inl g127_240)), (qf107, .inl (cf107, 96, .inl f107)), (qf102, .inl (cf102, 2048, .inl f102)), (qf111, .inl (cf111, 96, .inl f111)), (qf104, .inl (cf104, 8, .inl f104)), (qf118, .inl (cf118, 2100, .inl g118_240)), (qf119, .inl (cf119, 2100, .inl g119_240)), (qf105, .inl (cf105, 8, .inl f105)), (qf128, .inl (cf128, 31, .inl g128_240)), (qf110, .inl (cf110, 96, .inl f110)), (qf103, .inl (cf103, 8, .inl f103)), (qf106, .inl (cf106, 8, .inl f106)), (qf108, .inl (cf108, 8, .inl f108)), (qf137, .inl (cf137, 6, .inl g137_240))] ∧ va_P (dC, dI) vwCl [(h0, .inr (13, z240)), (qf109, .inl (cf109, 96, .inl f109)), (qf100, .inl (cf100, 48000, .inl f100)), (qf127, .inl (cf127, 30, .inl g127_240)), (qf107, .inl (cf107, 96, .inl f107)), (qf102, .inl (cf102, 2048, .inl f102)), (qf111, .inl (cf111, 96, .inl f111)), (qf104, .inl (cf104, 8, .inl f104)), (qf118, .inl (cf118, 2100, .inl g118_240)), (qf119, .inl (cf119, 2100, .inl g119_240)), (qf105, .inl (cf105, 8, .inl f105)), (qf128, .inl (cf128, 31, .inl g128_240)), (qf110, .inl (cf110, 96, .inl f110)), (qf103, .inl (cf103, 8, .inl f103)), (qf106, .inl (cf106, 8, .inl f106)), (qf108, .inl (cf108, 8, .inl f108)), (qf137, .inl (cf137, 6, .inl g137_240))] H ∧ z240[98]? = some (.int v98) ∧ z240[100]? = some (.ref qf100) ∧ z240[102]? = some (.ref qf102) ∧ z240[103]? = some (.ref qf103) ∧ z240[104]? = some (.ref qf104) ∧ z240[105]? = some (.ref qf105) ∧ z240[106]? = some (.ref qf106) ∧ z240[107]? = some (.ref qf107) ∧ z240[108]? = some (.ref qf108) ∧ z240[109]? = some (.ref qf109) ∧ z240[110]? = some (.ref qf110) ∧ z240[111]? = some (.ref qf111) ∧ z240[117]? = some (.int x117_240) ∧ z240[118]? = some (.ref qf118) ∧ z240[119]? = some (.ref qf119) ∧ z240[120]? = some (.int x120_240) ∧ z240[121]? = some (.int x121_240) ∧ z240[122]? = some (.int x122_240) ∧ z240[123]? = some (.int x123_240) ∧ z240[124]? = some (.int x124_240) ∧ z240[125]? = some (.int x125_240) ∧ z240[127]? = some (.ref qf127) ∧ z240[128]? = some (.ref qf128) ∧ z240[129]? = some (.int v129) ∧ z240[130]? = some (.int v130) ∧ z240[131]? = some (.int x131_240) ∧ z240[132]? = some (.int v132) ∧ z240[133]? = some (.int v133) ∧ z240[134]? = some (.int v134) ∧ z240[135]? = some (.int v135) ∧ z240[136]? = some (.int x136_240) ∧ z240[137]? = some (.ref qf137) ∧ z240.length = 155 ∧ (∀ j : Nat, j ≠ 117 → j ≠ 120 → j ≠ 121 → j ≠ 122 → j ≠ 123 → j ≠ 124 → j ≠ 125 → j ≠ 131 → j ≠ 136 → z240[j]? = zs[j]?) ∧ jn_vm_flows_240 nf a1 a2 v98 v117 v120 v121 v122 v123 v124 v125 v129 v130 v131 v132 v133 v134 v135 v136 f109 f100 f127 f107 f102 f111 f104 f118 f119 f105 f128 f110 f103 f106 f108 f137 nS477 fS477 (lp_vm_flows_155 nf n_155 a1 a2 v98 v117 v120 v121 v122 v123 v124 v125 v129 v130 v131 v132 v133 v134 v135 v136 f109 f100 f127 f107 f102 f111 f104 f118 f119 f105 f128 f110 f103 f106 f108 f137 nS477 fS477) l1_240 l2_240 l6_240 g118_240 g119_240 g127_240 g128_240 g137_240 x117_240 x120_240 x121_240 x122_240 x123_240 x124_240 x125_240 x131_240 x136_240 = some (r0, o118, o119, o127, o128, o137, w117, w120, w121, w122, w123, w124, w125, w131, w136)) ?_ ?_
          · intro x9 hJ9
            obtain ⟨H, locs, ls, z240, l1_240, l2_240, l6_240, g118_240, g119_240, g127_240, g128_240, g137_240, x117_240, x120_240, x121_240, x122_240, x123_240, x124_240, x125_240, x131_240, x136_240⟩ := x9
            obtain ⟨hl, hS, hD, hP, hfh_240_98, hfh_240_100, hfh_240_102, hfh_240_103, hfh_240_104, hfh_240_105, hfh_240_106, hfh_240_107, hfh_240_108, hfh_240_109, hfh_240_110, hfh_240_111, hfh_240_117, hfh_240_118, hfh_240_119, hfh_240_120, hfh_240_121, hfh_240_122, hfh_240_123, hfh_240_124, hfh_240_125, hfh_240_127, hfh_240_128, hfh_240_129, hfh_240_130, hfh_240_131, hfh_240_132, hfh_240_133, hfh_240_134, hfh_240_135, hfh_240_136, hfh_240_137, hlh_240, hrh_240, hsp⟩ := hJ9
            replace hl : lv_has ls 10 [(0, .ref h0), (1, .int l1_240), (2, .int l2_240), (6, .int l6_240)] := hl
            replace hS : va_S A s.heap H locs := hS
            replace hD : va_D A [(h0, .inr (13, z240)), (qf109, .inl (cf109, 96, .inl f109)), (qf100, .inl (cf100, 48000, .inl f100)), (qf127, .inl (cf127, 30, .inl g127_240)), (qf107, .inl (cf107, 96, .inl f107)), (qf102, .inl (cf102, 2048, .inl f102)), (qf111, .inl (cf111, 96, .inl f111)), (qf104, .inl (cf104, 8, .inl f104)), (qf118, .inl (cf118, 2100, .inl g118_240)), (qf119, .inl (cf119, 2100, .inl g119_240)), (qf105, .inl (cf105, 8, .inl f105)), (qf128, .inl (cf128, 31, .inl g128_240)), (qf110, .inl (cf110, 96, .inl f110)), (qf103, .inl (cf103, 8, .inl f103)), (qf106, .inl (cf106, 8, .inl f106)), (qf108, .inl (cf108, 8, .inl f108)), (qf137, .inl (cf137, 6, .inl g137_240))] := hD
            replace hP : va_P (dC, dI) vwCl [(h0, .inr (13, z240)), (qf109, .inl (cf109, 96, .inl f109)), (qf100, .inl (cf100, 48000, .inl f100)), (qf127, .inl (cf127, 30, .inl g127_240)), (qf107, .inl (cf107, 96, .inl f107)), (qf102, .inl (cf102, 2048, .inl f102)), (qf111, .inl (cf111, 96, .inl f111)), (qf104, .inl (cf104, 8, .inl f104)), (qf118, .inl (cf118, 2100, .inl g118_240)), (qf119, .inl (cf119, 2100, .inl g119_240)), (qf105, .inl (cf105, 8, .inl f105)), (qf128, .inl (cf128, 31, .inl g128_240)), (qf110, .inl (cf110, 96, .inl f110)), (qf103, .inl (cf103, 8, .inl f103)), (qf106, .inl (cf106, 8, .inl f106)), (qf108, .inl (cf108, 8, .inl f108)), (qf137, .inl (cf137, 6, .inl g137_240))] H := hP
            replace hsp : jn_vm_flows_240 nf a1 a2 v98 v117 v120 v121 v122 v123 v124 v125 v129 v130 v131 v132 v133 v134 v135 v136 f109 f100 f127 f107 f102 f111 f104 f118 f119 f105 f128 f110 f103 f106 f108 f137 nS477 fS477 (lp_vm_flows_155 nf n_155 a1 a2 v98 v117 v120 v121 v122 v123 v124 v125 v129 v130 v131 v132 v133 v134 v135 v136 f109 f100 f127 f107 f102 f111 f104 f118 f119 f105 f128 f110 f103 f106 f108 f137 nS477 fS477) l1_240 l2_240 l6_240 g118_240 g119_240 g127_240 g128_240 g137_240 x117_240 x120_240 x121_240 x122_240 x123_240 x124_240 x125_240 x131_240 x136_240 = some (r0, o118, o119, o127, o128, o137, w117, w120, w121, w122, w123, w124, w125, w131, w136) := hsp
            show W _ _ _ _ _ _ _ _ _ _ H locs _ _ _ (F0 m 240 ls [])
            unfold jn_vm_flows_240 at hsp
            try dsimp only at hsp
            refine lv_aload_n hx hb dX13_flows_240 rfl (lv_at hl 0 rfl) ?_
            refine lv_iload hx hb dX13_flows_241 (lv_at hl 3 rfl) ?_
            obtain ⟨⟨u11_0, g911_1, g911_2, u11_3, u11_4⟩, hu_11, hsp⟩ := ox_bind hsp
            try dsimp only at hsp
            have hPc := hP.sub (ws' := [(h0, .inr (13, z240)), (qf110, .inl (cf110, 96, .inl f110)), (qf100, .inl (cf100, 48000, .inl f100)), (qf111, .inl (cf111, 96, .inl f111)), (qf127, .inl (cf127, 30, .inl g127_240)), (qf102, .inl (cf102, 2048, .inl f102)), (qf104, .inl (cf104, 8, .inl f104)), (qf118, .inl (cf118, 2100, .inl g118_240)), (qf119, .inl (cf119, 2100, .inl g119_240)), (qf105, .inl (cf105, 8, .inl f105))]) [0, 12, 2, 6, 3, 5, 7, 8, 9, 10] rfl
            have hDc := hD.sub (ws' := [(h0, .inr (13, z240)), (qf110, .inl (cf110, 96, .inl f110)), (qf100, .inl (cf100, 48000, .inl f100)), (qf111, .inl (cf111, 96, .inl f111)), (qf127, .inl (cf127, 30, .inl g127_240)), (qf102, .inl (cf102, 2048, .inl f102)), (qf104, .inl (cf104, 8, .inl f104)), (qf118, .inl (cf118, 2100, .inl g118_240)), (qf119, .inl (cf119, 2100, .inl g119_240)), (qf105, .inl (cf105, 8, .inl f105))]) [0, 12, 2, 6, 3, 5, 7, 8, 9, 10] (by decide) rfl
            have hKc := hK.sub (tys' := [(cf110, .int), (cf100, .int), (cf111, .int), (cf127, .int), (cf102, .int), (cf104, .int), (cf118, .int), (cf119, .int), (cf105, .int)]) [11, 1, 5, 2, 4, 6, 7, 8, 9] rfl
            have hFc := va_free (wc := [(h0, .inr (13, z240)), (qf110, .inl (cf110, 96, .inl f110)), (qf100, .inl (cf100, 48000, .inl f100)), (qf111, .inl (cf111, 96, .inl f111)), (qf127, .inl (cf127, 30, .inl g127_240)), (qf102, .inl (cf102, 2048, .inl f102)), (qf104, .inl (cf104, 8, .inl f104)), (qf118, .inl (cf118, 2100, .inl g118_240)), (qf119, .inl (cf119, 2100, .inl g119_240)), (qf105, .inl (cf105, 8, .inl f105))]) hD hS hA [0, 12, 2, 6, 3, 5, 7, 8, 9, 10] rfl
            refine va_calli (va_runV (As := [.int l6_240]) (rest := []) ⟨hx, hb, hml, hown, hts⟩ (vm_handled l dC dI H.size h0 z240 l6_240 v98 qf100 qf102 qf104 qf105 qf110 qf111 x117_240 qf118 qf119 x120_240 qf127 v132 v133 cf110 f110 cf100 f100 cf111 f111 cf127 g127_240 cf102 f102 cf104 f104 cf118 g118_240 cf119 g119_240 cf105 f105 nS477 fS477 hS477 qS477 tS477 nf u11_0 g911_1 g911_2 u11_3 u11_4 hlh_240 hfh_240_98 hfh_240_100 hfh_240_102 hfh_240_104 hfh_240_105 hfh_240_110 hfh_240_111 hfh_240_117 hfh_240_118 hfh_240_119 hfh_240_120 hfh_240_127 hfh_240_132 hfh_240_133 hu_11) (cwV 1 hts gv_h9_124 rfl rfl rfl (by decide +kernel) ⟨Nat.le_of_ble_eq_true rfl, Nat.le_of_ble_eq_true rfl⟩) ⟨fun a U g mk q => by obtain ⟨q0, q1, qP, qK, qD, qhZWS477, qhZRS477⟩ := q; exact ⟨q0, q1, qP, va_K.moved (u := U) (U := U.calling g mk a) (Vm.Alike.refl U.vm) qK, qD, pz_W.moved (u := U) (U := U.calling g mk a) (Vm.Alike.refl U.vm) qhZWS477, vk_R.same rfl qhZRS477⟩, va_recv hKc hPc (ci := 13) (q0 := 0) rfl rfl, fun U hU hW => ⟨rfl, by rw [hU], by rw [hU]; exact hPc, va_K.moved hW.alike hKc, hDc.weaken (fun _ _ _ _ => trivial), by rw [hU]; exact ((pz_W.moved hW.alike hZWS477).kept hS.2.1).narrow hFc, vk_R.warm hW hZRS477⟩⟩ rfl rfl hl.1 rfl (lv_room (Nat.le_of_ble_eq_true rfl)) dX13_flows_243 ⟨Nat.le_of_ble_eq_true rfl, Nat.le_of_ble_eq_true rfl⟩) hS (fun q _ h => hFc q h) hFc ?_
            clear hS
            intro r_31 u t H1 locs ht hvm hw hB hz1 hk1 hS
            obtain ⟨z_11, rfl⟩ : ∃ z, z = u := ⟨_, rfl⟩
            obtain ⟨hP1, hK1, hD1⟩ := hB
            rw [ht] at hP1
            have hK1 := va_K.moved hvm.symm hK1
            try dsimp only at hw
            have hPD := va_join (wr := [(qf109, .inl (cf109, 96, .inl f109)), (qf107, .inl (cf107, 96, .inl f107)), (qf128, .inl (cf128, 31, .inl g128_240)), (qf103, .inl (cf103, 8, .inl f103)), (qf106, .inl (cf106, 8, .inl f106)), (qf108, .inl (cf108, 8, .inl f108)), (qf137, .inl (cf137, 6, .inl g137_240))]) (w1 := [(h0, .inr (13, z_11)), (qf110, .inl (cf110, 96, .inl f110)), (qf100, .inl (cf100, 48000, .inl f100)), (qf111, .inl (cf111, 96, .inl f111)), (qf127, .inl (cf127, 30, .inl g127_240)), (qf102, .inl (cf102, 2048, .inl f102)), (qf104, .inl (cf104, 8, .inl f104)), (qf118, .inl (cf118, 2100, .inl g911_1)), (qf119, .inl (cf119, 2100, .inl g911_2)), (qf105, .inl (cf105, 8, .inl f105))]) hP hD [0, 12, 2, 6, 3, 5, 7, 8, 9, 10] [1, 4, 11, 13, 14, 15, 16] rfl rfl (by decide) (by decide) hk1 hFc hP1 hD1
            clear hP hD
            obtain ⟨hP, hD⟩ := hPD
            replace hK := (hK.sub (tys' := [(cf109, .int), (cf107, .int), (cf128, .int), (cf103, .int), (cf106, .int), (cf108, .int), (cf137, .int)]) [0, 3, 10, 12, 13, 14, 15] rfl).app hK1
            clear hPc hDc hKc hFc hP1 hK1 hD1 hz1 hk1 ht hvm
            generalize H1 = H at hP hS ⊢
            replace hP : va_P (dC, dI) vwCl [(qf109, .inl (cf109, 96, .inl f109)), (qf107, .inl (cf107, 96, .inl f107)), (qf128, .inl (cf128, 31, .inl g128_240)), (qf103, .inl (cf103, 8, .inl f103)), (qf106, .inl (cf106, 8, .inl f106)), (qf108, .inl (cf108, 8, .inl f108)), (qf137, .inl (cf137, 6, .inl g137_240)), (h0, .inr (13, z_11)), (qf110, .inl (cf110, 96, .inl f110)), (qf100, .inl (cf100, 48000, .inl f100)), (qf111, .inl (cf111, 96, .inl f111)), (qf127, .inl (cf127, 30, .inl g127_240)), (qf102, .inl (cf102, 2048, .inl f102)), (qf104, .inl (cf104, 8, .inl f104)), (qf118, .inl (cf118, 2100, .inl g911_1)), (qf119, .inl (cf119, 2100, .inl g911_2)), (qf105, .inl (cf105, 8, .inl f105))] H := hP
            replace hD : va_D A [(qf109, .inl (cf109, 96, .inl f109)), (qf107, .inl (cf107, 96, .inl f107)), (qf128, .inl (cf128, 31, .inl g128_240)), (qf103, .inl (cf103, 8, .inl f103)), (qf106, .inl (cf106, 8, .inl f106)), (qf108, .inl (cf108, 8, .inl f108)), (qf137, .inl (cf137, 6, .inl g137_240)), (h0, .inr (13, z_11)), (qf110, .inl (cf110, 96, .inl f110)), (qf100, .inl (cf100, 48000, .inl f100)), (qf111, .inl (cf111, 96, .inl f111)), (qf127, .inl (cf127, 30, .inl g127_240)), (qf102, .inl (cf102, 2048, .inl f102)), (qf104, .inl (cf104, 8, .inl f104)), (qf118, .inl (cf118, 2100, .inl g911_1)), (qf119, .inl (cf119, 2100, .inl g911_2)), (qf105, .inl (cf105, 8, .inl f105))] := hD
            replace hK : va_K (dC, dI) vwCl [(cf109, .int), (cf107, .int), (cf128, .int), (cf103, .int), (cf106, .int), (cf108, .int), (cf137, .int), (cf110, .int), (cf100, .int), (cf111, .int), (cf127, .int), (cf102, .int), (cf104, .int), (cf118, .int), (cf119, .int), (cf105, .int)] s := hK
            obtain ⟨hwa_11, hln_11, hre_11, hch_11_117, hch_11_120⟩ := hw
            have hfk_11_98 : z_11[98]? = some (.int v98) := (hre_11 98 (by decide) (by decide)).trans (hfh_240_98)
            have hfk_11_100 : z_11[100]? = some (.ref qf100) := (hre_11 100 (by decide) (by decide)).trans (hfh_240_100)
            have hfk_11_102 : z_11[102]? = some (.ref qf102) := (hre_11 102 (by decide) (by decide)).trans (hfh_240_102)
            have hfk_11_103 : z_11[103]? = some (.ref qf103) := (hre_11 103 (by decide) (by decide)).trans (hfh_240_103)
            have hfk_11_104 : z_11[104]? = some (.ref qf104) := (hre_11 104 (by decide) (by decide)).trans (hfh_240_104)
            have hfk_11_105 : z_11[105]? = some (.ref qf105) := (hre_11 105 (by decide) (by decide)).trans (hfh_240_105)
            have hfk_11_106 : z_11[106]? = some (.ref qf106) := (hre_11 106 (by decide) (by decide)).trans (hfh_240_106)
            have hfk_11_107 : z_11[107]? = some (.ref qf107) := (hre_11 107 (by decide) (by decide)).trans (hfh_240_107)
            have hfk_11_108 : z_11[108]? = some (.ref qf108) := (hre_11 108 (by decide) (by decide)).trans (hfh_240_108)
            have hfk_11_109 : z_11[109]? = some (.ref qf109) := (hre_11 109 (by decide) (by decide)).trans (hfh_240_109)
            have hfk_11_110 : z_11[110]? = some (.ref qf110) := (hre_11 110 (by decide) (by decide)).trans (hfh_240_110)
            have hfk_11_111 : z_11[111]? = some (.ref qf111) := (hre_11 111 (by decide) (by decide)).trans (hfh_240_111)
            have hfk_11_118 : z_11[118]? = some (.ref qf118) := (hre_11 118 (by decide) (by decide)).trans (hfh_240_118)
            have hfk_11_119 : z_11[119]? = some (.ref qf119) := (hre_11 119 (by decide) (by decide)).trans (hfh_240_119)
            have hfk_11_121 : z_11[121]? = some (.int x121_240) := (hre_11 121 (by decide) (by decide)).trans (hfh_240_121)
            have hfk_11_122 : z_11[122]? = some (.int x122_240) := (hre_11 122 (by decide) (by decide)).trans (hfh_240_122)
            have hfk_11_123 : z_11[123]? = some (.int x123_240) := (hre_11 123 (by decide) (by decide)).trans (hfh_240_123)
            have hfk_11_124 : z_11[124]? = some (.int x124_240) := (hre_11 124 (by decide) (by decide)).trans (hfh_240_124)
            have hfk_11_125 : z_11[125]? = some (.int x125_240) := (hre_11 125 (by decide) (by decide)).trans (hfh_240_125)
            have hfk_11_127 : z_11[127]? = some (.ref qf127) := (hre_11 127 (by decide) (by decide)).trans (hfh_240_127)
            have hfk_11_128 : z_11[128]? = some (.ref qf128) := (hre_11 128 (by decide) (by decide)).trans (hfh_240_128)
            have hfk_11_129 : z_11[129]? = some (.int v129) := (hre_11 129 (by decide) (by decide)).trans (hfh_240_129)
            have hfk_11_130 : z_11[130]? = some (.int v130) := (hre_11 130 (by decide) (by decide)).trans (hfh_240_130)
            have hfk_11_131 : z_11[131]? = some (.int x131_240) := (hre_11 131 (by decide) (by decide)).trans (hfh_240_131)
            have hfk_11_132 : z_11[132]? = some (.int v132) := (hre_11 132 (by decide) (by decide)).trans (hfh_240_132)
            have hfk_11_133 : z_11[133]? = some (.int v133) := (hre_11 133 (by decide) (by decide)).trans (hfh_240_133)
            have hfk_11_134 : z_11[134]? = some (.int v134) := (hre_11 134 (by decide) (by decide)).trans (hfh_240_134)
            have hfk_11_135 : z_11[135]? = some (.int v135) := (hre_11 135 (by decide) (by decide)).trans (hfh_240_135)
            have hfk_11_136 : z_11[136]? = some (.int x136_240) := (hre_11 136 (by decide) (by decide)).trans (hfh_240_136)
            have hfk_11_137 : z_11[137]? = some (.ref qf137) := (hre_11 137 (by decide) (by decide)).trans (hfh_240_137)
            have hrq_11 : ∀ j : Nat, j ≠ 117 → j ≠ 120 → j ≠ 121 → j ≠ 122 → j ≠ 123 → j ≠ 124 → j ≠ 125 → j ≠ 131 → j ≠ 136 → z_11[j]? = zs[j]? := fun j g117 g120 g121 g122 g123 g124 g125 g131 g136 => (hre_11 j g117 g120).trans (hrh_240 j g117 g120 g121 g122 g123 g124 g125 g131 g136)
            obtain ⟨rfl, hz_11⟩ := hwa_11
            rcases hz_11 with rfl | rfl
            · rw [if_pos rfl] at hsp
              refine lv_if_ne (tgt := 260) hx hb dX13_flows_246 (by decide) (fun c_32 => (show False by revert c_32; decide).elim) (fun c_32 => ?_)
              refine lv_aload_n hx hb dX13_flows_249 rfl (lv_at hl 0 rfl) ?_
              refine lv_bipush (v := 12) hx hb dX13_flows_250 (by decide) ?_
              refine lv_iload_n hx hb dX13_flows_252 rfl (lv_at hl 1 rfl) ?_
              refine lv_iload_n hx hb dX13_flows_253 rfl (lv_at hl 2 rfl) ?_
              refine lv_iload hx hb dX13_flows_254 (lv_at hl 3 rfl) ?_
              obtain ⟨⟨u12_0, u12_1, u12_2, u12_3, u12_4⟩, hu_12, hsp⟩ := ox_bind hsp
              try dsimp only at hsp
              have hPc := hP.sub (ws' := [(h0, .inr (13, z_11))]) [7] rfl
              have hDc := hD.sub (ws' := [(h0, .inr (13, z_11))]) [7] (by decide) rfl
              have hKc := hK.sub (tys' := []) [] rfl
              have hFc := va_free (wc := [(h0, .inr (13, z_11))]) hD hS hA [7] rfl
              refine va_calli (va_runV (As := [.int 12, .int l1_240, .int l2_240, .int l6_240]) (rest := []) ⟨hx, hb, hml, hown, hts⟩ (tm_bad l dC dI H.size h0 z_11 12 l1_240 l2_240 l6_240 x122_240 x123_240 x124_240 x125_240 nf u12_0 u12_1 u12_2 u12_3 u12_4 hln_11 hfk_11_122 hfk_11_123 hfk_11_124 hfk_11_125 hu_12) (cwV 4 hts gv_h9_63 rfl rfl rfl (by decide +kernel) ⟨Nat.le_of_ble_eq_true rfl, Nat.le_of_ble_eq_true rfl⟩) ⟨fun a U g mk q => by obtain ⟨q0, q1, qP, qK, qD⟩ := q; exact ⟨q0, q1, qP, va_K.moved (u := U) (U := U.calling g mk a) (Vm.Alike.refl U.vm) qK, qD⟩, va_recv hKc hPc (ci := 13) (q0 := 0) rfl rfl, fun U hU hW => ⟨rfl, by rw [hU], by rw [hU]; exact hPc, va_K.moved hW.alike hKc, hDc.weaken (fun _ _ _ _ => trivial)⟩⟩ rfl rfl hl.1 rfl (lv_room (Nat.le_of_ble_eq_true rfl)) dX13_flows_256 ⟨Nat.le_of_ble_eq_true rfl, Nat.le_of_ble_eq_true rfl⟩) hS (fun q _ h => hFc q h) hFc ?_
              clear hS
              intro r_33 u t H1 locs ht hvm hw hB hz1 hk1 hS
              obtain ⟨z_12, rfl⟩ : ∃ z, z = u := ⟨_, rfl⟩
              obtain ⟨hP1, hK1, hD1⟩ := hB
              rw [ht] at hP1
              have hK1 := va_K.moved hvm.symm hK1
              try dsimp only at hw
              have hPD := va_join (wr := [(qf109, .inl (cf109, 96, .inl f109)), (qf107, .inl (cf107, 96, .inl f107)), (qf128, .inl (cf128, 31, .inl g128_240)), (qf103, .inl (cf103, 8, .inl f103)), (qf106, .inl (cf106, 8, .inl f106)), (qf108, .inl (cf108, 8, .inl f108)), (qf137, .inl (cf137, 6, .inl g137_240)), (qf110, .inl (cf110, 96, .inl f110)), (qf100, .inl (cf100, 48000, .inl f100)), (qf111, .inl (cf111, 96, .inl f111)), (qf127, .inl (cf127, 30, .inl g127_240)), (qf102, .inl (cf102, 2048, .inl f102)), (qf104, .inl (cf104, 8, .inl f104)), (qf118, .inl (cf118, 2100, .inl g911_1)), (qf119, .inl (cf119, 2100, .inl g911_2)), (qf105, .inl (cf105, 8, .inl f105))]) (w1 := [(h0, .inr (13, z_12))]) hP hD [7] [0, 1, 2, 3, 4, 5, 6, 8, 9, 10, 11, 12, 13, 14, 15, 16] rfl rfl (by decide) (by decide) hk1 hFc hP1 hD1
              clear hP hD
              obtain ⟨hP, hD⟩ := hPD
              replace hK := (hK.sub (tys' := [(cf109, .int), (cf107, .int), (cf128, .int), (cf103, .int), (cf106, .int), (cf108, .int), (cf137, .int), (cf110, .int), (cf100, .int), (cf111, .int), (cf127, .int), (cf102, .int), (cf104, .int), (cf118, .int), (cf119, .int), (cf105, .int)]) [0, 1, 2, 3, 4, 5, 6, 7, 8, 9, 10, 11, 12, 13, 14, 15] rfl).app hK1
              clear hPc hDc hKc hFc hP1 hK1 hD1 hz1 hk1 ht hvm
              generalize H1 = H at hP hS ⊢
              replace hP : va_P (dC, dI) vwCl [(qf109, .inl (cf109, 96, .inl f109)), (qf107, .inl (cf107, 96, .inl f107)), (qf128, .inl (cf128, 31, .inl g128_240)), (qf103, .inl (cf103, 8, .inl f103)), (qf106, .inl (cf106, 8, .inl f106)), (qf108, .inl (cf108, 8, .inl f108)), (qf137, .inl (cf137, 6, .inl g137_240)), (qf110, .inl (cf110, 96, .inl f110)), (qf100, .inl (cf100, 48000, .inl f100)), (qf111, .inl (cf111, 96, .inl f111)), (qf127, .inl (cf127, 30, .inl g127_240)), (qf102, .inl (cf102, 2048, .inl f102)), (qf104, .inl (cf104, 8, .inl f104)), (qf118, .inl (cf118, 2100, .inl g911_1)), (qf119, .inl (cf119, 2100, .inl g911_2)), (qf105, .inl (cf105, 8, .inl f105)), (h0, .inr (13, z_12))] H := hP
              replace hD : va_D A [(qf109, .inl (cf109, 96, .inl f109)), (qf107, .inl (cf107, 96, .inl f107)), (qf128, .inl (cf128, 31, .inl g128_240)), (qf103, .inl (cf103, 8, .inl f103)), (qf106, .inl (cf106, 8, .inl f106)), (qf108, .inl (cf108, 8, .inl f108)), (qf137, .inl (cf137, 6, .inl g137_240)), (qf110, .inl (cf110, 96, .inl f110)), (qf100, .inl (cf100, 48000, .inl f100)), (qf111, .inl (cf111, 96, .inl f111)), (qf127, .inl (cf127, 30, .inl g127_240)), (qf102, .inl (cf102, 2048, .inl f102)), (qf104, .inl (cf104, 8, .inl f104)), (qf118, .inl (cf118, 2100, .inl g911_1)), (qf119, .inl (cf119, 2100, .inl g911_2)), (qf105, .inl (cf105, 8, .inl f105)), (h0, .inr (13, z_12))] := hD
              replace hK : va_K (dC, dI) vwCl [(cf109, .int), (cf107, .int), (cf128, .int), (cf103, .int), (cf106, .int), (cf108, .int), (cf137, .int), (cf110, .int), (cf100, .int), (cf111, .int), (cf127, .int), (cf102, .int), (cf104, .int), (cf118, .int), (cf119, .int), (cf105, .int)] s := hK
              obtain ⟨hwa_12, hln_12, hre_12, hch_12_122, hch_12_123, hch_12_124, hch_12_125⟩ := hw
              have hfk_12_98 : z_12[98]? = some (.int v98) := (hre_12 98 (by decide) (by decide) (by decide) (by decide)).trans (hfk_11_98)
              have hfk_12_100 : z_12[100]? = some (.ref qf100) := (hre_12 100 (by decide) (by decide) (by decide) (by decide)).trans (hfk_11_100)
              have hfk_12_102 : z_12[102]? = some (.ref qf102) := (hre_12 102 (by decide) (by decide) (by decide) (by decide)).trans (hfk_11_102)
              have hfk_12_103 : z_12[103]? = some (.ref qf103) := (hre_12 103 (by decide) (by decide) (by decide) (by decide)).trans (hfk_11_103)
              have hfk_12_104 : z_12[104]? = some (.ref qf104) := (hre_12 104 (by decide) (by decide) (by decide) (by decide)).trans (hfk_11_104)
              have hfk_12_105 : z_12[105]? = some (.ref qf105) := (hre_12 105 (by decide) (by decide) (by decide) (by decide)).trans (hfk_11_105)
              have hfk_12_106 : z_12[106]? = some (.ref qf106) := (hre_12 106 (by decide) (by decide) (by decide) (by decide)).trans (hfk_11_106)
              have hfk_12_107 : z_12[107]? = some (.ref qf107) := (hre_12 107 (by decide) (by decide) (by decide) (by decide)).trans (hfk_11_107)
              have hfk_12_108 : z_12[108]? = some (.ref qf108) := (hre_12 108 (by decide) (by decide) (by decide) (by decide)).trans (hfk_11_108)
              have hfk_12_109 : z_12[109]? = some (.ref qf109) := (hre_12 109 (by decide) (by decide) (by decide) (by decide)).trans (hfk_11_109)
              have hfk_12_110 : z_12[110]? = some (.ref qf110) := (hre_12 110 (by decide) (by decide) (by decide) (by decide)).trans (hfk_11_110)
              have hfk_12_111 : z_12[111]? = some (.ref qf111) := (hre_12 111 (by decide) (by decide) (by decide) (by decide)).trans (hfk_11_111)
              have hfk_12_117 : z_12[117]? = some (.int u11_3) := (hre_12 117 (by decide) (by decide) (by decide) (by decide)).trans (hch_11_117)
              have hfk_12_118 : z_12[118]? = some (.ref qf118) := (hre_12 118 (by decide) (by decide) (by decide) (by decide)).trans (hfk_11_118)
              have hfk_12_119 : z_12[119]? = some (.ref qf119) := (hre_12 119 (by decide) (by decide) (by decide) (by decide)).trans (hfk_11_119)
              have hfk_12_120 : z_12[120]? = some (.int u11_4) := (hre_12 120 (by decide) (by decide) (by decide) (by decide)).trans (hch_11_120)
              have hfk_12_121 : z_12[121]? = some (.int x121_240) := (hre_12 121 (by decide) (by decide) (by decide) (by decide)).trans (hfk_11_121)
              have hfk_12_127 : z_12[127]? = some (.ref qf127) := (hre_12 127 (by decide) (by decide) (by decide) (by decide)).trans (hfk_11_127)
              have hfk_12_128 : z_12[128]? = some (.ref qf128) := (hre_12 128 (by decide) (by decide) (by decide) (by decide)).trans (hfk_11_128)
              have hfk_12_129 : z_12[129]? = some (.int v129) := (hre_12 129 (by decide) (by decide) (by decide) (by decide)).trans (hfk_11_129)
              have hfk_12_130 : z_12[130]? = some (.int v130) := (hre_12 130 (by decide) (by decide) (by decide) (by decide)).trans (hfk_11_130)
              have hfk_12_131 : z_12[131]? = some (.int x131_240) := (hre_12 131 (by decide) (by decide) (by decide) (by decide)).trans (hfk_11_131)
              have hfk_12_132 : z_12[132]? = some (.int v132) := (hre_12 132 (by decide) (by decide) (by decide) (by decide)).trans (hfk_11_132)
              have hfk_12_133 : z_12[133]? = some (.int v133) := (hre_12 133 (by decide) (by decide) (by decide) (by decide)).trans (hfk_11_133)
              have hfk_12_134 : z_12[134]? = some (.int v134) := (hre_12 134 (by decide) (by decide) (by decide) (by decide)).trans (hfk_11_134)
              have hfk_12_135 : z_12[135]? = some (.int v135) := (hre_12 135 (by decide) (by decide) (by decide) (by decide)).trans (hfk_11_135)
              have hfk_12_136 : z_12[136]? = some (.int x136_240) := (hre_12 136 (by decide) (by decide) (by decide) (by decide)).trans (hfk_11_136)
              have hfk_12_137 : z_12[137]? = some (.ref qf137) := (hre_12 137 (by decide) (by decide) (by decide) (by decide)).trans (hfk_11_137)
              have hrq_12 : ∀ j : Nat, j ≠ 117 → j ≠ 120 → j ≠ 121 → j ≠ 122 → j ≠ 123 → j ≠ 124 → j ≠ 125 → j ≠ 131 → j ≠ 136 → z_12[j]? = zs[j]? := fun j g117 g120 g121 g122 g123 g124 g125 g131 g136 => (hre_12 j g122 g123 g124 g125).trans (hrq_11 j g117 g120 g121 g122 g123 g124 g125 g131 g136)
              obtain ⟨rfl, hz_12⟩ := hwa_12
              rcases hz_12 with rfl | rfl
              · rw [if_pos rfl] at hsp
                have hr0 := Option.some.inj hsp
                clear hsp
                obtain ⟨hq0, hr1⟩ := Prod.mk.inj hr0
                clear hr0
                obtain ⟨hq1, hr2⟩ := Prod.mk.inj hr1
                clear hr1
                obtain ⟨hq2, hr3⟩ := Prod.mk.inj hr2
                clear hr2
                obtain ⟨hq3, hr4⟩ := Prod.mk.inj hr3
                clear hr3
                obtain ⟨hq4, hr5⟩ := Prod.mk.inj hr4
                clear hr4
                obtain ⟨hq5, hr6⟩ := Prod.mk.inj hr5
                clear hr5
                obtain ⟨hq6, hr7⟩ := Prod.mk.inj hr6
                clear hr6
                obtain ⟨hq7, hr8⟩ := Prod.mk.inj hr7
                clear hr7
                obtain ⟨hq8, hr9⟩ := Prod.mk.inj hr8
                clear hr8
                obtain ⟨hq9, hr10⟩ := Prod.mk.inj hr9
                clear hr9
                obtain ⟨hq10, hr11⟩ := Prod.mk.inj hr10
                clear hr10
                obtain ⟨hq11, hr12⟩ := Prod.mk.inj hr11
                clear hr11
                obtain ⟨hq12, hr13⟩ := Prod.mk.inj hr12
                clear hr12
                obtain ⟨hq13, hr14⟩ := Prod.mk.inj hr13
                clear hr13
                subst hq0
                subst hq1
                subst hq2
                subst hq3
                subst hq4
                subst hq5
                subst hq6
                subst hq7
                subst hq8
                subst hq9
                subst hq10
                subst hq11
                subst hq12
                subst hq13
                subst hr14
                have hP9 := hP.sub (ws' := [(h0, .inr (13, z_12)), (qf109, .inl (cf109, 96, .inl f109)), (qf100, .inl (cf100, 48000, .inl f100)), (qf127, .inl (cf127, 30, .inl g127_240)), (qf107, .inl (cf107, 96, .inl f107)), (qf102, .inl (cf102, 2048, .inl f102)), (qf111, .inl (cf111, 96, .inl f111)), (qf104, .inl (cf104, 8, .inl f104)), (qf118, .inl (cf118, 2100, .inl g911_1)), (qf119, .inl (cf119, 2100, .inl g911_2)), (qf105, .inl (cf105, 8, .inl f105)), (qf128, .inl (cf128, 31, .inl g128_240)), (qf110, .inl (cf110, 96, .inl f110)), (qf103, .inl (cf103, 8, .inl f103)), (qf106, .inl (cf106, 8, .inl f106)), (qf108, .inl (cf108, 8, .inl f108)), (qf137, .inl (cf137, 6, .inl g137_240))]) [16, 0, 8, 10, 1, 11, 9, 12, 13, 14, 15, 2, 7, 3, 4, 5, 6] rfl
                have hD9 := hD.sub (ws' := [(h0, .inr (13, z_12)), (qf109, .inl (cf109, 96, .inl f109)), (qf100, .inl (cf100, 48000, .inl f100)), (qf127, .inl (cf127, 30, .inl g127_240)), (qf107, .inl (cf107, 96, .inl f107)), (qf102, .inl (cf102, 2048, .inl f102)), (qf111, .inl (cf111, 96, .inl f111)), (qf104, .inl (cf104, 8, .inl f104)), (qf118, .inl (cf118, 2100, .inl g911_1)), (qf119, .inl (cf119, 2100, .inl g911_2)), (qf105, .inl (cf105, 8, .inl f105)), (qf128, .inl (cf128, 31, .inl g128_240)), (qf110, .inl (cf110, 96, .inl f110)), (qf103, .inl (cf103, 8, .inl f103)), (qf106, .inl (cf106, 8, .inl f106)), (qf108, .inl (cf108, 8, .inl f108)), (qf137, .inl (cf137, 6, .inl g137_240))]) [16, 0, 8, 10, 1, 11, 9, 12, 13, 14, 15, 2, 7, 3, 4, 5, 6] (by decide) rfl
                have hK9 := hK.sub (tys' := [(cf109, .int), (cf100, .int), (cf127, .int), (cf107, .int), (cf102, .int), (cf111, .int), (cf104, .int), (cf118, .int), (cf119, .int), (cf105, .int), (cf128, .int), (cf110, .int), (cf103, .int), (cf106, .int), (cf108, .int), (cf137, .int)]) [0, 8, 10, 1, 11, 9, 12, 13, 14, 15, 2, 7, 3, 4, 5, 6] rfl
                exact W.zret hx hb hr (by decide) (fun t ht hW => ⟨⟨(0), (z_12), rfl, ⟨⟨rfl, Or.inl rfl⟩, hln_12, hrq_12, hfk_12_117, hfk_12_120, hfk_12_121, hch_12_122, hch_12_123, hch_12_124, hch_12_125, hfk_12_131, hfk_12_136⟩, by rw [ht]; exact hP9, va_K.moved hW.alike hK9, hD9⟩, hS.F ht⟩) hS.2.2 dX13_flows_259
              · rw [if_neg (by decide)] at hsp
                have hr0 := Option.some.inj hsp
                clear hsp
                obtain ⟨hq0, hr1⟩ := Prod.mk.inj hr0
                clear hr0
                obtain ⟨hq1, hr2⟩ := Prod.mk.inj hr1
                clear hr1
                obtain ⟨hq2, hr3⟩ := Prod.mk.inj hr2
                clear hr2
                obtain ⟨hq3, hr4⟩ := Prod.mk.inj hr3
                clear hr3
                obtain ⟨hq4, hr5⟩ := Prod.mk.inj hr4
                clear hr4
                obtain ⟨hq5, hr6⟩ := Prod.mk.inj hr5
                clear hr5
                obtain ⟨hq6, hr7⟩ := Prod.mk.inj hr6
                clear hr6
                obtain ⟨hq7, hr8⟩ := Prod.mk.inj hr7
                clear hr7
                obtain ⟨hq8, hr9⟩ := Prod.mk.inj hr8
                clear hr8
                obtain ⟨hq9, hr10⟩ := Prod.mk.inj hr9
                clear hr9
                obtain ⟨hq10, hr11⟩ := Prod.mk.inj hr10
                clear hr10
                obtain ⟨hq11, hr12⟩ := Prod.mk.inj hr11
                clear hr11
                obtain ⟨hq12, hr13⟩ := Prod.mk.inj hr12
                clear hr12
                obtain ⟨hq13, hr14⟩ := Prod.mk.inj hr13
                clear hr13
                subst hq0
                subst hq1
                subst hq2
                subst hq3
                subst hq4
                subst hq5
                subst hq6
                subst hq7
                subst hq8
                subst hq9
                subst hq10
                subst hq11
                subst hq12
                subst hq13
                subst hr14
                have hP9 := hP.sub (ws' := [(h0, .inr (13, z_12)), (qf109, .inl (cf109, 96, .inl f109)), (qf100, .inl (cf100, 48000, .inl f100)), (qf127, .inl (cf127, 30, .inl g127_240)), (qf107, .inl (cf107, 96, .inl f107)), (qf102, .inl (cf102, 2048, .inl f102)), (qf111, .inl (cf111, 96, .inl f111)), (qf104, .inl (cf104, 8, .inl f104)), (qf118, .inl (cf118, 2100, .inl g911_1)), (qf119, .inl (cf119, 2100, .inl g911_2)), (qf105, .inl (cf105, 8, .inl f105)), (qf128, .inl (cf128, 31, .inl g128_240)), (qf110, .inl (cf110, 96, .inl f110)), (qf103, .inl (cf103, 8, .inl f103)), (qf106, .inl (cf106, 8, .inl f106)), (qf108, .inl (cf108, 8, .inl f108)), (qf137, .inl (cf137, 6, .inl g137_240))]) [16, 0, 8, 10, 1, 11, 9, 12, 13, 14, 15, 2, 7, 3, 4, 5, 6] rfl
                have hD9 := hD.sub (ws' := [(h0, .inr (13, z_12)), (qf109, .inl (cf109, 96, .inl f109)), (qf100, .inl (cf100, 48000, .inl f100)), (qf127, .inl (cf127, 30, .inl g127_240)), (qf107, .inl (cf107, 96, .inl f107)), (qf102, .inl (cf102, 2048, .inl f102)), (qf111, .inl (cf111, 96, .inl f111)), (qf104, .inl (cf104, 8, .inl f104)), (qf118, .inl (cf118, 2100, .inl g911_1)), (qf119, .inl (cf119, 2100, .inl g911_2)), (qf105, .inl (cf105, 8, .inl f105)), (qf128, .inl (cf128, 31, .inl g128_240)), (qf110, .inl (cf110, 96, .inl f110)), (qf103, .inl (cf103, 8, .inl f103)), (qf106, .inl (cf106, 8, .inl f106)), (qf108, .inl (cf108, 8, .inl f108)), (qf137, .inl (cf137, 6, .inl g137_240))]) [16, 0, 8, 10, 1, 11, 9, 12, 13, 14, 15, 2, 7, 3, 4, 5, 6] (by decide) rfl
                have hK9 := hK.sub (tys' := [(cf109, .int), (cf100, .int), (cf127, .int), (cf107, .int), (cf102, .int), (cf111, .int), (cf104, .int), (cf118, .int), (cf119, .int), (cf105, .int), (cf128, .int), (cf110, .int), (cf103, .int), (cf106, .int), (cf108, .int), (cf137, .int)]) [0, 8, 10, 1, 11, 9, 12, 13, 14, 15, 2, 7, 3, 4, 5, 6] rfl
                exact W.zret hx hb hr (by decide) (fun t ht hW => ⟨⟨(1), (z_12), rfl, ⟨⟨rfl, Or.inr rfl⟩, hln_12, hrq_12, hfk_12_117, hfk_12_120, hfk_12_121, hch_12_122, hch_12_123, hch_12_124, hch_12_125, hfk_12_131, hfk_12_136⟩, by rw [ht]; exact hP9, va_K.moved hW.alike hK9, hD9⟩, hS.F ht⟩) hS.2.2 dX13_flows_259
            · rw [if_neg (by decide)] at hsp
              refine lv_if_ne (tgt := 260) hx hb dX13_flows_246 (by decide) (fun c_34 => ?_) (fun c_34 => (show False by revert c_34; decide).elim)
              refine lv_aload_n hx hb dX13_flows_260 rfl (lv_at hl 0 rfl) ?_
              refine lv_iload hx hb dX13_flows_261 (lv_at hl 3 rfl) ?_
              obtain ⟨⟨u13_0, g913_1, g913_2, u13_3, u13_4, u13_5⟩, hu_13, hsp⟩ := ox_bind hsp
              try dsimp only at hsp
              have hPc := hP.sub (ws' := [(h0, .inr (13, z_11)), (qf100, .inl (cf100, 48000, .inl f100)), (qf103, .inl (cf103, 8, .inl f103)), (qf102, .inl (cf102, 2048, .inl f102)), (qf104, .inl (cf104, 8, .inl f104)), (qf118, .inl (cf118, 2100, .inl g911_1)), (qf119, .inl (cf119, 2100, .inl g911_2)), (qf105, .inl (cf105, 8, .inl f105)), (qf106, .inl (cf106, 8, .inl f106)), (qf108, .inl (cf108, 8, .inl f108)), (qf107, .inl (cf107, 96, .inl f107)), (qf109, .inl (cf109, 96, .inl f109))]) [7, 9, 3, 12, 13, 14, 15, 16, 4, 5, 1, 0] rfl
              have hDc := hD.sub (ws' := [(h0, .inr (13, z_11)), (qf100, .inl (cf100, 48000, .inl f100)), (qf103, .inl (cf103, 8, .inl f103)), (qf102, .inl (cf102, 2048, .inl f102)), (qf104, .inl (cf104, 8, .inl f104)), (qf118, .inl (cf118, 2100, .inl g911_1)), (qf119, .inl (cf119, 2100, .inl g911_2)), (qf105, .inl (cf105, 8, .inl f105)), (qf106, .inl (cf106, 8, .inl f106)), (qf108, .inl (cf108, 8, .inl f108)), (qf107, .inl (cf107, 96, .inl f107)), (qf109, .inl (cf109, 96, .inl f109))]) [7, 9, 3, 12, 13, 14, 15, 16, 4, 5, 1, 0] (by decide) rfl
              have hKc := hK.sub (tys' := [(cf100, .int), (cf103, .int), (cf102, .int), (cf104, .int), (cf118, .int), (cf119, .int), (cf105, .int), (cf106, .int), (cf108, .int), (cf107, .int), (cf109, .int)]) [8, 3, 11, 12, 13, 14, 15, 4, 5, 1, 0] rfl
              have hFc := va_free (wc := [(h0, .inr (13, z_11)), (qf100, .inl (cf100, 48000, .inl f100)), (qf103, .inl (cf103, 8, .inl f103)), (qf102, .inl (cf102, 2048, .inl f102)), (qf104, .inl (cf104, 8, .inl f104)), (qf118, .inl (cf118, 2100, .inl g911_1)), (qf119, .inl (cf119, 2100, .inl g911_2)), (qf105, .inl (cf105, 8, .inl f105)), (qf106, .inl (cf106, 8, .inl f106)), (qf108, .inl (cf108, 8, .inl f108)), (qf107, .inl (cf107, 96, .inl f107)), (qf109, .inl (cf109, 96, .inl f109))]) hD hS hA [7, 9, 3, 12, 13, 14, 15, 16, 4, 5, 1, 0] rfl
              refine va_calli (va_runV (As := [.int l6_240]) (rest := []) ⟨hx, hb, hml, hown, hts⟩ (vm_right l dC dI H.size h0 z_11 l6_240 v98 qf100 qf102 qf103 qf104 qf105 qf106 qf107 qf108 qf109 u11_3 qf118 qf119 u11_4 x121_240 v132 v134 cf100 f100 cf103 f103 cf102 f102 cf104 f104 cf118 g911_1 cf119 g911_2 cf105 f105 cf106 f106 cf108 f108 cf107 f107 cf109 f109 nS477 fS477 hS477 qS477 tS477 nf u13_0 g913_1 g913_2 u13_3 u13_4 u13_5 hln_11 hfk_11_98 hfk_11_100 hfk_11_102 hfk_11_103 hfk_11_104 hfk_11_105 hfk_11_106 hfk_11_107 hfk_11_108 hfk_11_109 hch_11_117 hfk_11_118 hfk_11_119 hch_11_120 hfk_11_121 hfk_11_132 hfk_11_134 hu_13) (cwV 1 hts gv_h9_125 rfl rfl rfl (by decide +kernel) ⟨Nat.le_of_ble_eq_true rfl, Nat.le_of_ble_eq_true rfl⟩) ⟨fun a U g mk q => by obtain ⟨q0, q1, qP, qK, qD, qhZWS477, qhZRS477⟩ := q; exact ⟨q0, q1, qP, va_K.moved (u := U) (U := U.calling g mk a) (Vm.Alike.refl U.vm) qK, qD, pz_W.moved (u := U) (U := U.calling g mk a) (Vm.Alike.refl U.vm) qhZWS477, vk_R.same rfl qhZRS477⟩, va_recv hKc hPc (ci := 13) (q0 := 0) rfl rfl, fun U hU hW => ⟨rfl, by rw [hU], by rw [hU]; exact hPc, va_K.moved hW.alike hKc, hDc.weaken (fun _ _ _ _ => trivial), by rw [hU]; exact ((pz_W.moved hW.alike hZWS477).kept hS.2.1).narrow hFc, vk_R.warm hW hZRS477⟩⟩ rfl rfl hl.1 rfl (lv_room (Nat.le_of_ble_eq_true rfl)) dX13_flows_263 ⟨Nat.le_of_ble_eq_true rfl, Nat.le_of_ble_eq_true rfl⟩) hS (fun q _ h => hFc q h) hFc ?_
              clear hS
              intro r_35 u t H1 locs ht hvm hw hB hz1 hk1 hS
              obtain ⟨z_13, rfl⟩ : ∃ z, z = u := ⟨_, rfl⟩
              obtain ⟨hP1, hK1, hD1⟩ := hB
              rw [ht] at hP1
              have hK1 := va_K.moved hvm.symm hK1
              try dsimp only at hw
              have hPD := va_join (wr := [(qf128, .inl (cf128, 31, .inl g128_240)), (qf137, .inl (cf137, 6, .inl g137_240)), (qf110, .inl (cf110, 96, .inl f110)), (qf111, .inl (cf111, 96, .inl f111)), (qf127, .inl (cf127, 30, .inl g127_240))]) (w1 := [(h0, .inr (13, z_13)), (qf100, .inl (cf100, 48000, .inl f100)), (qf103, .inl (cf103, 8, .inl f103)), (qf102, .inl (cf102, 2048, .inl f102)), (qf104, .inl (cf104, 8, .inl f104)), (qf118, .inl (cf118, 2100, .inl g913_1)), (qf119, .inl (cf119, 2100, .inl g913_2)), (qf105, .inl (cf105, 8, .inl f105)), (qf106, .inl (cf106, 8, .inl f106)), (qf108, .inl (cf108, 8, .inl f108)), (qf107, .inl (cf107, 96, .inl f107)), (qf109, .inl (cf109, 96, .inl f109))]) hP hD [7, 9, 3, 12, 13, 14, 15, 16, 4, 5, 1, 0] [2, 6, 8, 10, 11] rfl rfl (by decide) (by decide) hk1 hFc hP1 hD1
              clear hP hD
              obtain ⟨hP, hD⟩ := hPD
              replace hK := (hK.sub (tys' := [(cf128, .int), (cf137, .int), (cf110, .int), (cf111, .int), (cf127, .int)]) [2, 6, 7, 9, 10] rfl).app hK1
              clear hPc hDc hKc hFc hP1 hK1 hD1 hz1 hk1 ht hvm
              generalize H1 = H at hP hS ⊢
              replace hP : va_P (dC, dI) vwCl [(qf128, .inl (cf128, 31, .inl g128_240)), (qf137, .inl (cf137, 6, .inl g137_240)), (qf110, .inl (cf110, 96, .inl f110)), (qf111, .inl (cf111, 96, .inl f111)), (qf127, .inl (cf127, 30, .inl g127_240)), (h0, .inr (13, z_13)), (qf100, .inl (cf100, 48000, .inl f100)), (qf103, .inl (cf103, 8, .inl f103)), (qf102, .inl (cf102, 2048, .inl f102)), (qf104, .inl (cf104, 8, .inl f104)), (qf118, .inl (cf118, 2100, .inl g913_1)), (qf119, .inl (cf119, 2100, .inl g913_2)), (qf105, .inl (cf105, 8, .inl f105)), (qf106, .inl (cf106, 8, .inl f106)), (qf108, .inl (cf108, 8, .inl f108)), (qf107, .inl (cf107, 96, .inl f107)), (qf109, .inl (cf109, 96, .inl f109))] H := hP
              replace hD : va_D A [(qf128, .inl (cf128, 31, .inl g128_240)), (qf137, .inl (cf137, 6, .inl g137_240)), (qf110, .inl (cf110, 96, .inl f110)), (qf111, .inl (cf111, 96, .inl f111)), (qf127, .inl (cf127, 30, .inl g127_240)), (h0, .inr (13, z_13)), (qf100, .inl (cf100, 48000, .inl f100)), (qf103, .inl (cf103, 8, .inl f103)), (qf102, .inl (cf102, 2048, .inl f102)), (qf104, .inl (cf104, 8, .inl f104)), (qf118, .inl (cf118, 2100, .inl g913_1)), (qf119, .inl (cf119, 2100, .inl g913_2)), (qf105, .inl (cf105, 8, .inl f105)), (qf106, .inl (cf106, 8, .inl f106)), (qf108, .inl (cf108, 8, .inl f108)), (qf107, .inl (cf107, 96, .inl f107)), (qf109, .inl (cf109, 96, .inl f109))] := hD
              replace hK : va_K (dC, dI) vwCl [(cf128, .int), (cf137, .int), (cf110, .int), (cf111, .int), (cf127, .int), (cf100, .int), (cf103, .int), (cf102, .int), (cf104, .int), (cf118, .int), (cf119, .int), (cf105, .int), (cf106, .int), (cf108, .int), (cf107, .int), (cf109, .int)] s := hK
              obtain ⟨hwa_13, hln_13, hre_13, hch_13_117, hch_13_120, hch_13_121⟩ := hw
              have hfk_13_98 : z_13[98]? = some (.int v98) := (hre_13 98 (by decide) (by decide) (by decide)).trans (hfk_11_98)
              have hfk_13_100 : z_13[100]? = some (.ref qf100) := (hre_13 100 (by decide) (by decide) (by decide)).trans (hfk_11_100)
              have hfk_13_102 : z_13[102]? = some (.ref qf102) := (hre_13 102 (by decide) (by decide) (by decide)).trans (hfk_11_102)
              have hfk_13_103 : z_13[103]? = some (.ref qf103) := (hre_13 103 (by decide) (by decide) (by decide)).trans (hfk_11_103)
              have hfk_13_104 : z_13[104]? = some (.ref qf104) := (hre_13 104 (by decide) (by decide) (by decide)).trans (hfk_11_104)
              have hfk_13_105 : z_13[105]? = some (.ref qf105) := (hre_13 105 (by decide) (by decide) (by decide)).trans (hfk_11_105)
              have hfk_13_106 : z_13[106]? = some (.ref qf106) := (hre_13 106 (by decide) (by decide) (by decide)).trans (hfk_11_106)
              have hfk_13_107 : z_13[107]? = some (.ref qf107) := (hre_13 107 (by decide) (by decide) (by decide)).trans (hfk_11_107)
              have hfk_13_108 : z_13[108]? = some (.ref qf108) := (hre_13 108 (by decide) (by decide) (by decide)).trans (hfk_11_108)
              have hfk_13_109 : z_13[109]? = some (.ref qf109) := (hre_13 109 (by decide) (by decide) (by decide)).trans (hfk_11_109)
              have hfk_13_110 : z_13[110]? = some (.ref qf110) := (hre_13 110 (by decide) (by decide) (by decide)).trans (hfk_11_110)
              have hfk_13_111 : z_13[111]? = some (.ref qf111) := (hre_13 111 (by decide) (by decide) (by decide)).trans (hfk_11_111)
              have hfk_13_118 : z_13[118]? = some (.ref qf118) := (hre_13 118 (by decide) (by decide) (by decide)).trans (hfk_11_118)
              have hfk_13_119 : z_13[119]? = some (.ref qf119) := (hre_13 119 (by decide) (by decide) (by decide)).trans (hfk_11_119)
              have hfk_13_122 : z_13[122]? = some (.int x122_240) := (hre_13 122 (by decide) (by decide) (by decide)).trans (hfk_11_122)
              have hfk_13_123 : z_13[123]? = some (.int x123_240) := (hre_13 123 (by decide) (by decide) (by decide)).trans (hfk_11_123)
              have hfk_13_124 : z_13[124]? = some (.int x124_240) := (hre_13 124 (by decide) (by decide) (by decide)).trans (hfk_11_124)
              have hfk_13_125 : z_13[125]? = some (.int x125_240) := (hre_13 125 (by decide) (by decide) (by decide)).trans (hfk_11_125)
              have hfk_13_127 : z_13[127]? = some (.ref qf127) := (hre_13 127 (by decide) (by decide) (by decide)).trans (hfk_11_127)
              have hfk_13_128 : z_13[128]? = some (.ref qf128) := (hre_13 128 (by decide) (by decide) (by decide)).trans (hfk_11_128)
              have hfk_13_129 : z_13[129]? = some (.int v129) := (hre_13 129 (by decide) (by decide) (by decide)).trans (hfk_11_129)
              have hfk_13_130 : z_13[130]? = some (.int v130) := (hre_13 130 (by decide) (by decide) (by decide)).trans (hfk_11_130)
              have hfk_13_131 : z_13[131]? = some (.int x131_240) := (hre_13 131 (by decide) (by decide) (by decide)).trans (hfk_11_131)
              have hfk_13_132 : z_13[132]? = some (.int v132) := (hre_13 132 (by decide) (by decide) (by decide)).trans (hfk_11_132)
              have hfk_13_133 : z_13[133]? = some (.int v133) := (hre_13 133 (by decide) (by decide) (by decide)).trans (hfk_11_133)
              have hfk_13_134 : z_13[134]? = some (.int v134) := (hre_13 134 (by decide) (by decide) (by decide)).trans (hfk_11_134)
              have hfk_13_135 : z_13[135]? = some (.int v135) := (hre_13 135 (by decide) (by decide) (by decide)).trans (hfk_11_135)
              have hfk_13_136 : z_13[136]? = some (.int x136_240) := (hre_13 136 (by decide) (by decide) (by decide)).trans (hfk_11_136)
              have hfk_13_137 : z_13[137]? = some (.ref qf137) := (hre_13 137 (by decide) (by decide) (by decide)).trans (hfk_11_137)
              have hrq_13 : ∀ j : Nat, j ≠ 117 → j ≠ 120 → j ≠ 121 → j ≠ 122 → j ≠ 123 → j ≠ 124 → j ≠ 125 → j ≠ 131 → j ≠ 136 → z_13[j]? = zs[j]? := fun j g117 g120 g121 g122 g123 g124 g125 g131 g136 => (hre_13 j g117 g120 g121).trans (hrq_11 j g117 g120 g121 g122 g123 g124 g125 g131 g136)
              obtain ⟨rfl, hz_13⟩ := hwa_13
              rcases hz_13 with rfl | rfl
              · rw [if_pos rfl] at hsp
                refine lv_if_ne (tgt := 280) hx hb dX13_flows_266 (by decide) (fun c_36 => (show False by revert c_36; decide).elim) (fun c_36 => ?_)
                refine lv_aload_n hx hb dX13_flows_269 rfl (lv_at hl 0 rfl) ?_
                refine lv_bipush (v := 11) hx hb dX13_flows_270 (by decide) ?_
                refine lv_iload_n hx hb dX13_flows_272 rfl (lv_at hl 1 rfl) ?_
                refine lv_iload_n hx hb dX13_flows_273 rfl (lv_at hl 2 rfl) ?_
                refine lv_iload hx hb dX13_flows_274 (lv_at hl 3 rfl) ?_
                obtain ⟨⟨u14_0, u14_1, u14_2, u14_3, u14_4⟩, hu_14, hsp⟩ := ox_bind hsp
                try dsimp only at hsp
                have hPc := hP.sub (ws' := [(h0, .inr (13, z_13))]) [5] rfl
                have hDc := hD.sub (ws' := [(h0, .inr (13, z_13))]) [5] (by decide) rfl
                have hKc := hK.sub (tys' := []) [] rfl
                have hFc := va_free (wc := [(h0, .inr (13, z_13))]) hD hS hA [5] rfl
                refine va_calli (va_runV (As := [.int 11, .int l1_240, .int l2_240, .int l6_240]) (rest := []) ⟨hx, hb, hml, hown, hts⟩ (tm_bad l dC dI H.size h0 z_13 11 l1_240 l2_240 l6_240 x122_240 x123_240 x124_240 x125_240 nf u14_0 u14_1 u14_2 u14_3 u14_4 hln_13 hfk_13_122 hfk_13_123 hfk_13_124 hfk_13_125 hu_14) (cwV 4 hts gv_h9_63 rfl rfl rfl (by decide +kernel) ⟨Nat.le_of_ble_eq_true rfl, Nat.le_of_ble_eq_true rfl⟩) ⟨fun a U g mk q => by obtain ⟨q0, q1, qP, qK, qD⟩ := q; exact ⟨q0, q1, qP, va_K.moved (u := U) (U := U.calling g mk a) (Vm.Alike.refl U.vm) qK, qD⟩, va_recv hKc hPc (ci := 13) (q0 := 0) rfl rfl, fun U hU hW => ⟨rfl, by rw [hU], by rw [hU]; exact hPc, va_K.moved hW.alike hKc, hDc.weaken (fun _ _ _ _ => trivial)⟩⟩ rfl rfl hl.1 rfl (lv_room (Nat.le_of_ble_eq_true rfl)) dX13_flows_276 ⟨Nat.le_of_ble_eq_true rfl, Nat.le_of_ble_eq_true rfl⟩) hS (fun q _ h => hFc q h) hFc ?_
                clear hS
                intro r_37 u t H1 locs ht hvm hw hB hz1 hk1 hS
                obtain ⟨z_14, rfl⟩ : ∃ z, z = u := ⟨_, rfl⟩
                obtain ⟨hP1, hK1, hD1⟩ := hB
                rw [ht] at hP1
                have hK1 := va_K.moved hvm.symm hK1
                try dsimp only at hw
                have hPD := va_join (wr := [(qf128, .inl (cf128, 31, .inl g128_240)), (qf137, .inl (cf137, 6, .inl g137_240)), (qf110, .inl (cf110, 96, .inl f110)), (qf111, .inl (cf111, 96, .inl f111)), (qf127, .inl (cf127, 30, .inl g127_240)), (qf100, .inl (cf100, 48000, .inl f100)), (qf103, .inl (cf103, 8, .inl f103)), (qf102, .inl (cf102, 2048, .inl f102)), (qf104, .inl (cf104, 8, .inl f104)), (qf118, .inl (cf118, 2100, .inl g913_1)), (qf119, .inl (cf119, 2100, .inl g913_2)), (qf105, .inl (cf105, 8, .inl f105)), (qf106, .inl (cf106, 8, .inl f106)), (qf108, .inl (cf108, 8, .inl f108)), (qf107, .inl (cf107, 96, .inl f107)), (qf109, .inl (cf109, 96, .inl f109))]) (w1 := [(h0, .inr (13, z_14))]) hP hD [5] [0, 1, 2, 3, 4, 6, 7, 8, 9, 10, 11, 12, 13, 14, 15, 16] rfl rfl (by decide) (by decide) hk1 hFc hP1 hD1
                clear hP hD
                obtain ⟨hP, hD⟩ := hPD
                replace hK := (hK.sub (tys' := [(cf128, .int), (cf137, .int), (cf110, .int), (cf111, .int), (cf127, .int), (cf100, .int), (cf103, .int), (cf102, .int), (cf104, .int), (cf118, .int), (cf119, .int), (cf105, .int), (cf106, .int), (cf108, .int), (cf107, .int), (cf109, .int)]) [0, 1, 2, 3, 4, 5, 6, 7, 8, 9, 10, 11, 12, 13, 14, 15] rfl).app hK1
                clear hPc hDc hKc hFc hP1 hK1 hD1 hz1 hk1 ht hvm
                generalize H1 = H at hP hS ⊢
                replace hP : va_P (dC, dI) vwCl [(qf128, .inl (cf128, 31, .inl g128_240)), (qf137, .inl (cf137, 6, .inl g137_240)), (qf110, .inl (cf110, 96, .inl f110)), (qf111, .inl (cf111, 96, .inl f111)), (qf127, .inl (cf127, 30, .inl g127_240)), (qf100, .inl (cf100, 48000, .inl f100)), (qf103, .inl (cf103, 8, .inl f103)), (qf102, .inl (cf102, 2048, .inl f102)), (qf104, .inl (cf104, 8, .inl f104)), (qf118, .inl (cf118, 2100, .inl g913_1)), (qf119, .inl (cf119, 2100, .inl g913_2)), (qf105, .inl (cf105, 8, .inl f105)), (qf106, .inl (cf106, 8, .inl f106)), (qf108, .inl (cf108, 8, .inl f108)), (qf107, .inl (cf107, 96, .inl f107)), (qf109, .inl (cf109, 96, .inl f109)), (h0, .inr (13, z_14))] H := hP
                replace hD : va_D A [(qf128, .inl (cf128, 31, .inl g128_240)), (qf137, .inl (cf137, 6, .inl g137_240)), (qf110, .inl (cf110, 96, .inl f110)), (qf111, .inl (cf111, 96, .inl f111)), (qf127, .inl (cf127, 30, .inl g127_240)), (qf100, .inl (cf100, 48000, .inl f100)), (qf103, .inl (cf103, 8, .inl f103)), (qf102, .inl (cf102, 2048, .inl f102)), (qf104, .inl (cf104, 8, .inl f104)), (qf118, .inl (cf118, 2100, .inl g913_1)), (qf119, .inl (cf119, 2100, .inl g913_2)), (qf105, .inl (cf105, 8, .inl f105)), (qf106, .inl (cf106, 8, .inl f106)), (qf108, .inl (cf108, 8, .inl f108)), (qf107, .inl (cf107, 96, .inl f107)), (qf109, .inl (cf109, 96, .inl f109)), (h0, .inr (13, z_14))] := hD
                replace hK : va_K (dC, dI) vwCl [(cf128, .int), (cf137, .int), (cf110, .int), (cf111, .int), (cf127, .int), (cf100, .int), (cf103, .int), (cf102, .int), (cf104, .int), (cf118, .int), (cf119, .int), (cf105, .int), (cf106, .int), (cf108, .int), (cf107, .int), (cf109, .int)] s := hK
                obtain ⟨hwa_14, hln_14, hre_14, hch_14_122, hch_14_123, hch_14_124, hch_14_125⟩ := hw
                have hfk_14_98 : z_14[98]? = some (.int v98) := (hre_14 98 (by decide) (by decide) (by decide) (by decide)).trans (hfk_13_98)
                have hfk_14_100 : z_14[100]? = some (.ref qf100) := (hre_14 100 (by decide) (by decide) (by decide) (by decide)).trans (hfk_13_100)
                have hfk_14_102 : z_14[102]? = some (.ref qf102) := (hre_14 102 (by decide) (by decide) (by decide) (by decide)).trans (hfk_13_102)
                have hfk_14_103 : z_14[103]? = some (.ref qf103) := (hre_14 103 (by decide) (by decide) (by decide) (by decide)).trans (hfk_13_103)
                have hfk_14_104 : z_14[104]? = some (.ref qf104) := (hre_14 104 (by decide) (by decide) (by decide) (by decide)).trans (hfk_13_104)
                have hfk_14_105 : z_14[105]? = some (.ref qf105) := (hre_14 105 (by decide) (by decide) (by decide) (by decide)).trans (hfk_13_105)
                have hfk_14_106 : z_14[106]? = some (.ref qf106) := (hre_14 106 (by decide) (by decide) (by decide) (by decide)).trans (hfk_13_106)
                have hfk_14_107 : z_14[107]? = some (.ref qf107) := (hre_14 107 (by decide) (by decide) (by decide) (by decide)).trans (hfk_13_107)
                have hfk_14_108 : z_14[108]? = some (.ref qf108) := (hre_14 108 (by decide) (by decide) (by decide) (by decide)).trans (hfk_13_108)
                have hfk_14_109 : z_14[109]? = some (.ref qf109) := (hre_14 109 (by decide) (by decide) (by decide) (by decide)).trans (hfk_13_109)
                have hfk_14_110 : z_14[110]? = some (.ref qf110) := (hre_14 110 (by decide) (by decide) (by decide) (by decide)).trans (hfk_13_110)
                have hfk_14_111 : z_14[111]? = some (.ref qf111) := (hre_14 111 (by decide) (by decide) (by decide) (by decide)).trans (hfk_13_111)
                have hfk_14_117 : z_14[117]? = some (.int u13_3) := (hre_14 117 (by decide) (by decide) (by decide) (by decide)).trans (hch_13_117)
                have hfk_14_118 : z_14[118]? = some (.ref qf118) := (hre_14 118 (by decide) (by decide) (by decide) (by decide)).trans (hfk_13_118)
                have hfk_14_119 : z_14[119]? = some (.ref qf119) := (hre_14 119 (by decide) (by decide) (by decide) (by decide)).trans (hfk_13_119)
                have hfk_14_120 : z_14[120]? = some (.int u13_4) := (hre_14 120 (by decide) (by decide) (by decide) (by decide)).trans (hch_13_120)
                have hfk_14_121 : z_14[121]? = some (.int u13_5) := (hre_14 121 (by decide) (by decide) (by decide) (by decide)).trans (hch_13_121)
                have hfk_14_127 : z_14[127]? = some (.ref qf127) := (hre_14 127 (by decide) (by decide) (by decide) (by decide)).trans (hfk_13_127)
                have hfk_14_128 : z_14[128]? = some (.ref qf128) := (hre_14 128 (by decide) (by decide) (by decide) (by decide)).trans (hfk_13_128)
                have hfk_14_129 : z_14[129]? = some (.int v129) := (hre_14 129 (by decide) (by decide) (by decide) (by decide)).trans (hfk_13_129)
                have hfk_14_130 : z_14[130]? = some (.int v130) := (hre_14 130 (by decide) (by decide) (by decide) (by decide)).trans (hfk_13_130)
                have hfk_14_131 : z_14[131]? = some (.int x131_240) := (hre_14 131 (by decide) (by decide) (by decide) (by decide)).trans (hfk_13_131)
                have hfk_14_132 : z_14[132]? = some (.int v132) := (hre_14 132 (by decide) (by decide) (by decide) (by decide)).trans (hfk_13_132)
                have hfk_14_133 : z_14[133]? = some (.int v133) := (hre_14 133 (by decide) (by decide) (by decide) (by decide)).trans (hfk_13_133)
                have hfk_14_134 : z_14[134]? = some (.int v134) := (hre_14 134 (by decide) (by decide) (by decide) (by decide)).trans (hfk_13_134)
                have hfk_14_135 : z_14[135]? = some (.int v135) := (hre_14 135 (by decide) (by decide) (by decide) (by decide)).trans (hfk_13_135)
                have hfk_14_136 : z_14[136]? = some (.int x136_240) := (hre_14 136 (by decide) (by decide) (by decide) (by decide)).trans (hfk_13_136)
                have hfk_14_137 : z_14[137]? = some (.ref qf137) := (hre_14 137 (by decide) (by decide) (by decide) (by decide)).trans (hfk_13_137)
                have hrq_14 : ∀ j : Nat, j ≠ 117 → j ≠ 120 → j ≠ 121 → j ≠ 122 → j ≠ 123 → j ≠ 124 → j ≠ 125 → j ≠ 131 → j ≠ 136 → z_14[j]? = zs[j]? := fun j g117 g120 g121 g122 g123 g124 g125 g131 g136 => (hre_14 j g122 g123 g124 g125).trans (hrq_13 j g117 g120 g121 g122 g123 g124 g125 g131 g136)
                obtain ⟨rfl, hz_14⟩ := hwa_14
                rcases hz_14 with rfl | rfl
                · rw [if_pos rfl] at hsp
                  have hr0 := Option.some.inj hsp
                  clear hsp
                  obtain ⟨hq0, hr1⟩ := Prod.mk.inj hr0
                  clear hr0
                  obtain ⟨hq1, hr2⟩ := Prod.mk.inj hr1
                  clear hr1
                  obtain ⟨hq2, hr3⟩ := Prod.mk.inj hr2
                  clear hr2
                  obtain ⟨hq3, hr4⟩ := Prod.mk.inj hr3
                  clear hr3
                  obtain ⟨hq4, hr5⟩ := Prod.mk.inj hr4
                  clear hr4
                  obtain ⟨hq5, hr6⟩ := Prod.mk.inj hr5
                  clear hr5
                  obtain ⟨hq6, hr7⟩ := Prod.mk.inj hr6
                  clear hr6
                  obtain ⟨hq7, hr8⟩ := Prod.mk.inj hr7
                  clear hr7
                  obtain ⟨hq8, hr9⟩ := Prod.mk.inj hr8
                  clear hr8
                  obtain ⟨hq9, hr10⟩ := Prod.mk.inj hr9
                  clear hr9
                  obtain ⟨hq10, hr11⟩ := Prod.mk.inj hr10
                  clear hr10
                  obtain ⟨hq11, hr12⟩ := Prod.mk.inj hr11
                  clear hr11
                  obtain ⟨hq12, hr13⟩ := Prod.mk.inj hr12
                  clear hr12
                  obtain ⟨hq13, hr14⟩ := Prod.mk.inj hr13
                  clear hr13
                  subst hq0
                  subst hq1
                  subst hq2
                  subst hq3
                  subst hq4
                  subst hq5
                  subst hq6
                  subst hq7
                  subst hq8
                  subst hq9
                  subst hq10
                  subst hq11
                  subst hq12
                  subst hq13
                  subst hr14
                  have hP9 := hP.sub (ws' := [(h0, .inr (13, z_14)), (qf109, .inl (cf109, 96, .inl f109)), (qf100, .inl (cf100, 48000, .inl f100)), (qf127, .inl (cf127, 30, .inl g127_240)), (qf107, .inl (cf107, 96, .inl f107)), (qf102, .inl (cf102, 2048, .inl f102)), (qf111, .inl (cf111, 96, .inl f111)), (qf104, .inl (cf104, 8, .inl f104)), (qf118, .inl (cf118, 2100, .inl g913_1)), (qf119, .inl (cf119, 2100, .inl g913_2)), (qf105, .inl (cf105, 8, .inl f105)), (qf128, .inl (cf128, 31, .inl g128_240)), (qf110, .inl (cf110, 96, .inl f110)), (qf103, .inl (cf103, 8, .inl f103)), (qf106, .inl (cf106, 8, .inl f106)), (qf108, .inl (cf108, 8, .inl f108)), (qf137, .inl (cf137, 6, .inl g137_240))]) [16, 15, 5, 4, 14, 7, 3, 8, 9, 10, 11, 0, 2, 6, 12, 13, 1] rfl
                  have hD9 := hD.sub (ws' := [(h0, .inr (13, z_14)), (qf109, .inl (cf109, 96, .inl f109)), (qf100, .inl (cf100, 48000, .inl f100)), (qf127, .inl (cf127, 30, .inl g127_240)), (qf107, .inl (cf107, 96, .inl f107)), (qf102, .inl (cf102, 2048, .inl f102)), (qf111, .inl (cf111, 96, .inl f111)), (qf104, .inl (cf104, 8, .inl f104)), (qf118, .inl (cf118, 2100, .inl g913_1)), (qf119, .inl (cf119, 2100, .inl g913_2)), (qf105, .inl (cf105, 8, .inl f105)), (qf128, .inl (cf128, 31, .inl g128_240)), (qf110, .inl (cf110, 96, .inl f110)), (qf103, .inl (cf103, 8, .inl f103)), (qf106, .inl (cf106, 8, .inl f106)), (qf108, .inl (cf108, 8, .inl f108)), (qf137, .inl (cf137, 6, .inl g137_240))]) [16, 15, 5, 4, 14, 7, 3, 8, 9, 10, 11, 0, 2, 6, 12, 13, 1] (by decide) rfl
                  have hK9 := hK.sub (tys' := [(cf109, .int), (cf100, .int), (cf127, .int), (cf107, .int), (cf102, .int), (cf111, .int), (cf104, .int), (cf118, .int), (cf119, .int), (cf105, .int), (cf128, .int), (cf110, .int), (cf103, .int), (cf106, .int), (cf108, .int), (cf137, .int)]) [15, 5, 4, 14, 7, 3, 8, 9, 10, 11, 0, 2, 6, 12, 13, 1] rfl
                  exact W.zret hx hb hr (by decide) (fun t ht hW => ⟨⟨(0), (z_14), rfl, ⟨⟨rfl, Or.inl rfl⟩, hln_14, hrq_14, hfk_14_117, hfk_14_120, hfk_14_121, hch_14_122, hch_14_123, hch_14_124, hch_14_125, hfk_14_131, hfk_14_136⟩, by rw [ht]; exact hP9, va_K.moved hW.alike hK9, hD9⟩, hS.F ht⟩) hS.2.2 dX13_flows_279
                · rw [if_neg (by decide)] at hsp
                  have hr0 := Option.some.inj hsp
                  clear hsp
                  obtain ⟨hq0, hr1⟩ := Prod.mk.inj hr0
                  clear hr0
                  obtain ⟨hq1, hr2⟩ := Prod.mk.inj hr1
                  clear hr1
                  obtain ⟨hq2, hr3⟩ := Prod.mk.inj hr2
                  clear hr2
                  obtain ⟨hq3, hr4⟩ := Prod.mk.inj hr3
                  clear hr3
                  obtain ⟨hq4, hr5⟩ := Prod.mk.inj hr4
                  clear hr4
                  obtain ⟨hq5, hr6⟩ := Prod.mk.inj hr5
                  clear hr5
                  obtain ⟨hq6, hr7⟩ := Prod.mk.inj hr6
                  clear hr6
                  obtain ⟨hq7, hr8⟩ := Prod.mk.inj hr7
                  clear hr7
                  obtain ⟨hq8, hr9⟩ := Prod.mk.inj hr8
                  clear hr8
                  obtain ⟨hq9, hr10⟩ := Prod.mk.inj hr9
                  clear hr9
                  obtain ⟨hq10, hr11⟩ := Prod.mk.inj hr10
                  clear hr10
                  obtain ⟨hq11, hr12⟩ := Prod.mk.inj hr11
                  clear hr11
                  obtain ⟨hq12, hr13⟩ := Prod.mk.inj hr12
                  clear hr12
                  obtain ⟨hq13, hr14⟩ := Prod.mk.inj hr13
                  clear hr13
                  subst hq0
                  subst hq1
                  subst hq2
                  subst hq3
                  subst hq4
                  subst hq5
                  subst hq6
                  subst hq7
                  subst hq8
                  subst hq9
                  subst hq10
                  subst hq11
                  subst hq12
                  subst hq13
                  subst hr14
                  have hP9 := hP.sub (ws' := [(h0, .inr (13, z_14)), (qf109, .inl (cf109, 96, .inl f109)), (qf100, .inl (cf100, 48000, .inl f100)), (qf127, .inl (cf127, 30, .inl g127_240)), (qf107, .inl (cf107, 96, .inl f107)), (qf102, .inl (cf102, 2048, .inl f102)), (qf111, .inl (cf111, 96, .inl f111)), (qf104, .inl (cf104, 8, .inl f104)), (qf118, .inl (cf118, 2100, .inl g913_1)), (qf119, .inl (cf119, 2100, .inl g913_2)), (qf105, .inl (cf105, 8, .inl f105)), (qf128, .inl (cf128, 31, .inl g128_240)), (qf110, .inl (cf110, 96, .inl f110)), (qf103, .inl (cf103, 8, .inl f103)), (qf106, .inl (cf106, 8, .inl f106)), (qf108, .inl (cf108, 8, .inl f108)), (qf137, .inl (cf137, 6, .inl g137_240))]) [16, 15, 5, 4, 14, 7, 3, 8, 9, 10, 11, 0, 2, 6, 12, 13, 1] rfl
                  have hD9 := hD.sub (ws' := [(h0, .inr (13, z_14)), (qf109, .inl (cf109, 96, .inl f109)), (qf100, .inl (cf100, 48000, .inl f100)), (qf127, .inl (cf127, 30, .inl g127_240)), (qf107, .inl (cf107, 96, .inl f107)), (qf102, .inl (cf102, 2048, .inl f102)), (qf111, .inl (cf111, 96, .inl f111)), (qf104, .inl (cf104, 8, .inl f104)), (qf118, .inl (cf118, 2100, .inl g913_1)), (qf119, .inl (cf119, 2100, .inl g913_2)), (qf105, .inl (cf105, 8, .inl f105)), (qf128, .inl (cf128, 31, .inl g128_240)), (qf110, .inl (cf110, 96, .inl f110)), (qf103, .inl (cf103, 8, .inl f103)), (qf106, .inl (cf106, 8, .inl f106)), (qf108, .inl (cf108, 8, .inl f108)), (qf137, .inl (cf137, 6, .inl g137_240))]) [16, 15, 5, 4, 14, 7, 3, 8, 9, 10, 11, 0, 2, 6, 12, 13, 1] (by decide) rfl
                  have hK9 := hK.sub (tys' := [(cf109, .int), (cf100, .int), (cf127, .int), (cf107, .int), (cf102, .int), (cf111, .int), (cf104, .int), (cf118, .int), (cf119, .int), (cf105, .int), (cf128, .int), (cf110, .int), (cf103, .int), (cf106, .int), (cf108, .int), (cf137, .int)]) [15, 5, 4, 14, 7, 3, 8, 9, 10, 11, 0, 2, 6, 12, 13, 1] rfl
                  exact W.zret hx hb hr (by decide) (fun t ht hW => ⟨⟨(1), (z_14), rfl, ⟨⟨rfl, Or.inr rfl⟩, hln_14, hrq_14, hfk_14_117, hfk_14_120, hfk_14_121, hch_14_122, hch_14_123, hch_14_124, hch_14_125, hfk_14_131, hfk_14_136⟩, by rw [ht]; exact hP9, va_K.moved hW.alike hK9, hD9⟩, hS.F ht⟩) hS.2.2 dX13_flows_279
              · rw [if_neg (by decide)] at hsp
                refine lv_if_ne (tgt := 280) hx hb dX13_flows_266 (by decide) (fun c_38 => ?_) (fun c_38 => (show False by revert c_38; decide).elim)
                refine lv_aload_n hx hb dX13_flows_280 rfl (lv_at hl 0 rfl) ?_
                refine lv_iload hx hb dX13_flows_281 (lv_at hl 3 rfl) ?_
                obtain ⟨⟨u15_0, g915_1, g915_2, g915_3, g915_4, g915_5, u15_6, u15_7, u15_8⟩, hu_15, hsp⟩ := ox_bind hsp
                try dsimp only at hsp
                have hPc := hP.sub (ws' := [(h0, .inr (13, z_13)), (qf100, .inl (cf100, 48000, .inl f100)), (qf128, .inl (cf128, 31, .inl g128_240)), (qf127, .inl (cf127, 30, .inl g127_240)), (qf104, .inl (cf104, 8, .inl f104)), (qf102, .inl (cf102, 2048, .inl f102)), (qf118, .inl (cf118, 2100, .inl g913_1)), (qf119, .inl (cf119, 2100, .inl g913_2)), (qf105, .inl (cf105, 8, .inl f105)), (qf137, .inl (cf137, 6, .inl g137_240))]) [5, 6, 0, 4, 9, 8, 10, 11, 12, 1] rfl
                have hDc := hD.sub (ws' := [(h0, .inr (13, z_13)), (qf100, .inl (cf100, 48000, .inl f100)), (qf128, .inl (cf128, 31, .inl g128_240)), (qf127, .inl (cf127, 30, .inl g127_240)), (qf104, .inl (cf104, 8, .inl f104)), (qf102, .inl (cf102, 2048, .inl f102)), (qf118, .inl (cf118, 2100, .inl g913_1)), (qf119, .inl (cf119, 2100, .inl g913_2)), (qf105, .inl (cf105, 8, .inl f105)), (qf137, .inl (cf137, 6, .inl g137_240))]) [5, 6, 0, 4, 9, 8, 10, 11, 12, 1] (by decide) rfl
                have hKc := hK.sub (tys' := [(cf100, .int), (cf128, .int), (cf127, .int), (cf104, .int), (cf102, .int), (cf118, .int), (cf119, .int), (cf105, .int), (cf137, .int)]) [5, 0, 4, 8, 7, 9, 10, 11, 1] rfl
                have hFc := va_free (wc := [(h0, .inr (13, z_13)), (qf100, .inl (cf100, 48000, .inl f100)), (qf128, .inl (cf128, 31, .inl g128_240)), (qf127, .inl (cf127, 30, .inl g127_240)), (qf104, .inl (cf104, 8, .inl f104)), (qf102, .inl (cf102, 2048, .inl f102)), (qf118, .inl (cf118, 2100, .inl g913_1)), (qf119, .inl (cf119, 2100, .inl g913_2)), (qf105, .inl (cf105, 8, .inl f105)), (qf137, .inl (cf137, 6, .inl g137_240))]) hD hS hA [5, 6, 0, 4, 9, 8, 10, 11, 12, 1] rfl
                refine va_calli (va_runV (As := [.int l6_240]) (rest := []) ⟨hx, hb, hml, hown, hts⟩ (vm_wanted l dC dI H.size h0 z_13 l6_240 v98 qf100 qf102 qf104 qf105 u13_3 qf118 qf119 u13_4 qf127 qf128 v129 v130 x131_240 v132 v134 x136_240 qf137 cf100 f100 cf128 g128_240 cf127 g127_240 cf104 f104 cf102 f102 cf118 g913_1 cf119 g913_2 cf105 f105 cf137 g137_240 nS477 fS477 hS477 qS477 tS477 nf u15_0 g915_1 g915_2 g915_3 g915_4 g915_5 u15_6 u15_7 u15_8 hln_13 hfk_13_98 hfk_13_100 hfk_13_102 hfk_13_104 hfk_13_105 hch_13_117 hfk_13_118 hfk_13_119 hch_13_120 hfk_13_127 hfk_13_128 hfk_13_129 hfk_13_130 hfk_13_131 hfk_13_132 hfk_13_134 hfk_13_136 hfk_13_137 hu_15) (cwV 1 hts gv_h9_130 rfl rfl rfl (by decide +kernel) ⟨Nat.le_of_ble_eq_true rfl, Nat.le_of_ble_eq_true rfl⟩) ⟨fun a U g mk q => by obtain ⟨q0, q1, qP, qK, qD, qhZWS477, qhZRS477⟩ := q; exact ⟨q0, q1, qP, va_K.moved (u := U) (U := U.calling g mk a) (Vm.Alike.refl U.vm) qK, qD, pz_W.moved (u := U) (U := U.calling g mk a) (Vm.Alike.refl U.vm) qhZWS477, vk_R.same rfl qhZRS477⟩, va_recv hKc hPc (ci := 13) (q0 := 0) rfl rfl, fun U hU hW => ⟨rfl, by rw [hU], by rw [hU]; exact hPc, va_K.moved hW.alike hKc, hDc.weaken (fun _ _ _ _ => trivial), by rw [hU]; exact ((pz_W.moved hW.alike hZWS477).kept hS.2.1).narrow hFc, vk_R.warm hW hZRS477⟩⟩ rfl rfl hl.1 rfl (lv_room (Nat.le_of_ble_eq_true rfl)) dX13_flows_283 ⟨Nat.le_of_ble_eq_true rfl, Nat.le_of_ble_eq_true rfl⟩) hS (fun q _ h => hFc q h) hFc ?_
                clear hS
                intro r_39 u t H1 locs ht hvm hw hB hz1 hk1 hS
                obtain ⟨z_15, rfl⟩ : ∃ z, z = u := ⟨_, rfl⟩
                obtain ⟨hP1, hK1, hD1⟩ := hB
                rw [ht] at hP1
                have hK1 := va_K.moved hvm.symm hK1
                try dsimp only at hw
                have hPD := va_join (wr := [(qf110, .inl (cf110, 96, .inl f110)), (qf111, .inl (cf111, 96, .inl f111)), (qf103, .inl (cf103, 8, .inl f103)), (qf106, .inl (cf106, 8, .inl f106)), (qf108, .inl (cf108, 8, .inl f108)), (qf107, .inl (cf107, 96, .inl f107)), (qf109, .inl (cf109, 96, .inl f109))]) (w1 := [(h0, .inr (13, z_15)), (qf100, .inl (cf100, 48000, .inl f100)), (qf128, .inl (cf128, 31, .inl g915_4)), (qf127, .inl (cf127, 30, .inl g915_3)), (qf104, .inl (cf104, 8, .inl f104)), (qf102, .inl (cf102, 2048, .inl f102)), (qf118, .inl (cf118, 2100, .inl g915_1)), (qf119, .inl (cf119, 2100, .inl g915_2)), (qf105, .inl (cf105, 8, .inl f105)), (qf137, .inl (cf137, 6, .inl g915_5))]) hP hD [5, 6, 0, 4, 9, 8, 10, 11, 12, 1] [2, 3, 7, 13, 14, 15, 16] rfl rfl (by decide) (by decide) hk1 hFc hP1 hD1
                clear hP hD
                obtain ⟨hP, hD⟩ := hPD
                replace hK := (hK.sub (tys' := [(cf110, .int), (cf111, .int), (cf103, .int), (cf106, .int), (cf108, .int), (cf107, .int), (cf109, .int)]) [2, 3, 6, 12, 13, 14, 15] rfl).app hK1
                clear hPc hDc hKc hFc hP1 hK1 hD1 hz1 hk1 ht hvm
                generalize H1 = H at hP hS ⊢
                replace hP : va_P (dC, dI) vwCl [(qf110, .inl (cf110, 96, .inl f110)), (qf111, .inl (cf111, 96, .inl f111)), (qf103, .inl (cf103, 8, .inl f103)), (qf106, .inl (cf106, 8, .inl f106)), (qf108, .inl (cf108, 8, .inl f108)), (qf107, .inl (cf107, 96, .inl f107)), (qf109, .inl (cf109, 96, .inl f109)), (h0, .inr (13, z_15)), (qf100, .inl (cf100, 48000, .inl f100)), (qf128, .inl (cf128, 31, .inl g915_4)), (qf127, .inl (cf127, 30, .inl g915_3)), (qf104, .inl (cf104, 8, .inl f104)), (qf102, .inl (cf102, 2048, .inl f102)), (qf118, .inl (cf118, 2100, .inl g915_1)), (qf119, .inl (cf119, 2100, .inl g915_2)), (qf105, .inl (cf105, 8, .inl f105)), (qf137, .inl (cf137, 6, .inl g915_5))] H := hP
                replace hD : va_D A [(qf110, .inl (cf110, 96, .inl f110)), (qf111, .inl (cf111, 96, .inl f111)), (qf103, .inl (cf103, 8, .inl f103)), (qf106, .inl (cf106, 8, .inl f106)), (qf108, .inl (cf108, 8, .inl f108)), (qf107, .inl (cf107, 96, .inl f107)), (qf109, .inl (cf109, 96, .inl f109)), (h0, .inr (13, z_15)), (qf100, .inl (cf100, 48000, .inl f100)), (qf128, .inl (cf128, 31, .inl g915_4)), (qf127, .inl (cf127, 30, .inl g915_3)), (qf104, .inl (cf104, 8, .inl f104)), (qf102, .inl (cf102, 2048, .inl f102)), (qf118, .inl (cf118, 2100, .inl g915_1)), (qf119, .inl (cf119, 2100, .inl g915_2)), (qf105, .inl (cf105, 8, .inl f105)), (qf137, .inl (cf137, 6, .inl g915_5))] := hD
                replace hK : va_K (dC, dI) vwCl [(cf110, .int), (cf111, .int), (cf103, .int), (cf106, .int), (cf108, .int), (cf107, .int), (cf109, .int), (cf100, .int), (cf128, .int), (cf127, .int), (cf104, .int), (cf102, .int), (cf118, .int), (cf119, .int), (cf105, .int), (cf137, .int)] s := hK
                obtain ⟨hwa_15, hln_15, hre_15, hch_15_117, hch_15_120, hch_15_131⟩ := hw
                have hfk_15_98 : z_15[98]? = some (.int v98) := (hre_15 98 (by decide) (by decide) (by decide)).trans (hfk_13_98)
                have hfk_15_100 : z_15[100]? = some (.ref qf100) := (hre_15 100 (by decide) (by decide) (by decide)).trans (hfk_13_100)
                have hfk_15_102 : z_15[102]? = some (.ref qf102) := (hre_15 102 (by decide) (by decide) (by decide)).trans (hfk_13_102)
                have hfk_15_103 : z_15[103]? = some (.ref qf103) := (hre_15 103 (by decide) (by decide) (by decide)).trans (hfk_13_103)
                have hfk_15_104 : z_15[104]? = some (.ref qf104) := (hre_15 104 (by decide) (by decide) (by decide)).trans (hfk_13_104)
                have hfk_15_105 : z_15[105]? = some (.ref qf105) := (hre_15 105 (by decide) (by decide) (by decide)).trans (hfk_13_105)
                have hfk_15_106 : z_15[106]? = some (.ref qf106) := (hre_15 106 (by decide) (by decide) (by decide)).trans (hfk_13_106)
                have hfk_15_107 : z_15[107]? = some (.ref qf107) := (hre_15 107 (by decide) (by decide) (by decide)).trans (hfk_13_107)
                have hfk_15_108 : z_15[108]? = some (.ref qf108) := (hre_15 108 (by decide) (by decide) (by decide)).trans (hfk_13_108)
                have hfk_15_109 : z_15[109]? = some (.ref qf109) := (hre_15 109 (by decide) (by decide) (by decide)).trans (hfk_13_109)
                have hfk_15_110 : z_15[110]? = some (.ref qf110) := (hre_15 110 (by decide) (by decide) (by decide)).trans (hfk_13_110)
                have hfk_15_111 : z_15[111]? = some (.ref qf111) := (hre_15 111 (by decide) (by decide) (by decide)).trans (hfk_13_111)
                have hfk_15_118 : z_15[118]? = some (.ref qf118) := (hre_15 118 (by decide) (by decide) (by decide)).trans (hfk_13_118)
                have hfk_15_119 : z_15[119]? = some (.ref qf119) := (hre_15 119 (by decide) (by decide) (by decide)).trans (hfk_13_119)
                have hfk_15_121 : z_15[121]? = some (.int u13_5) := (hre_15 121 (by decide) (by decide) (by decide)).trans (hch_13_121)
                have hfk_15_122 : z_15[122]? = some (.int x122_240) := (hre_15 122 (by decide) (by decide) (by decide)).trans (hfk_13_122)
                have hfk_15_123 : z_15[123]? = some (.int x123_240) := (hre_15 123 (by decide) (by decide) (by decide)).trans (hfk_13_123)
                have hfk_15_124 : z_15[124]? = some (.int x124_240) := (hre_15 124 (by decide) (by decide) (by decide)).trans (hfk_13_124)
                have hfk_15_125 : z_15[125]? = some (.int x125_240) := (hre_15 125 (by decide) (by decide) (by decide)).trans (hfk_13_125)
                have hfk_15_127 : z_15[127]? = some (.ref qf127) := (hre_15 127 (by decide) (by decide) (by decide)).trans (hfk_13_127)
                have hfk_15_128 : z_15[128]? = some (.ref qf128) := (hre_15 128 (by decide) (by decide) (by decide)).trans (hfk_13_128)
                have hfk_15_129 : z_15[129]? = some (.int v129) := (hre_15 129 (by decide) (by decide) (by decide)).trans (hfk_13_129)
                have hfk_15_130 : z_15[130]? = some (.int v130) := (hre_15 130 (by decide) (by decide) (by decide)).trans (hfk_13_130)
                have hfk_15_132 : z_15[132]? = some (.int v132) := (hre_15 132 (by decide) (by decide) (by decide)).trans (hfk_13_132)
                have hfk_15_133 : z_15[133]? = some (.int v133) := (hre_15 133 (by decide) (by decide) (by decide)).trans (hfk_13_133)
                have hfk_15_134 : z_15[134]? = some (.int v134) := (hre_15 134 (by decide) (by decide) (by decide)).trans (hfk_13_134)
                have hfk_15_135 : z_15[135]? = some (.int v135) := (hre_15 135 (by decide) (by decide) (by decide)).trans (hfk_13_135)
                have hfk_15_136 : z_15[136]? = some (.int x136_240) := (hre_15 136 (by decide) (by decide) (by decide)).trans (hfk_13_136)
                have hfk_15_137 : z_15[137]? = some (.ref qf137) := (hre_15 137 (by decide) (by decide) (by decide)).trans (hfk_13_137)
                have hrq_15 : ∀ j : Nat, j ≠ 117 → j ≠ 120 → j ≠ 121 → j ≠ 122 → j ≠ 123 → j ≠ 124 → j ≠ 125 → j ≠ 131 → j ≠ 136 → z_15[j]? = zs[j]? := fun j g117 g120 g121 g122 g123 g124 g125 g131 g136 => (hre_15 j g117 g120 g131).trans (hrq_13 j g117 g120 g121 g122 g123 g124 g125 g131 g136)
                obtain ⟨rfl, hz_15⟩ := hwa_15
                rcases hz_15 with rfl | rfl
                · rw [if_pos rfl] at hsp
                  refine lv_if_ne (tgt := 300) hx hb dX13_flows_286 (by decide) (fun c_40 => (show False by revert c_40; decide).elim) (fun c_40 => ?_)
                  refine lv_aload_n hx hb dX13_flows_289 rfl (lv_at hl 0 rfl) ?_
                  refine lv_bipush (v := 12) hx hb dX13_flows_290 (by decide) ?_
                  refine lv_iload_n hx hb dX13_flows_292 rfl (lv_at hl 1 rfl) ?_
                  refine lv_iload_n hx hb dX13_flows_293 rfl (lv_at hl 2 rfl) ?_
                  refine lv_iload hx hb dX13_flows_294 (lv_at hl 3 rfl) ?_
                  obtain ⟨⟨u16_0, u16_1, u16_2, u16_3, u16_4⟩, hu_16, hsp⟩ := ox_bind hsp
                  try dsimp only at hsp
                  have hPc := hP.sub (ws' := [(h0, .inr (13, z_15))]) [7] rfl
                  have hDc := hD.sub (ws' := [(h0, .inr (13, z_15))]) [7] (by decide) rfl
                  have hKc := hK.sub (tys' := []) [] rfl
                  have hFc := va_free (wc := [(h0, .inr (13, z_15))]) hD hS hA [7] rfl
                  refine va_calli (va_runV (As := [.int 12, .int l1_240, .int l2_240, .int l6_240]) (rest := []) ⟨hx, hb, hml, hown, hts⟩ (tm_bad l dC dI H.size h0 z_15 12 l1_240 l2_240 l6_240 x122_240 x123_240 x124_240 x125_240 nf u16_0 u16_1 u16_2 u16_3 u16_4 hln_15 hfk_15_122 hfk_15_123 hfk_15_124 hfk_15_125 hu_16) (cwV 4 hts gv_h9_63 rfl rfl rfl (by decide +kernel) ⟨Nat.le_of_ble_eq_true rfl, Nat.le_of_ble_eq_true rfl⟩) ⟨fun a U g mk q => by obtain ⟨q0, q1, qP, qK, qD⟩ := q; exact ⟨q0, q1, qP, va_K.moved (u := U) (U := U.calling g mk a) (Vm.Alike.refl U.vm) qK, qD⟩, va_recv hKc hPc (ci := 13) (q0 := 0) rfl rfl, fun U hU hW => ⟨rfl, by rw [hU], by rw [hU]; exact hPc, va_K.moved hW.alike hKc, hDc.weaken (fun _ _ _ _ => trivial)⟩⟩ rfl rfl hl.1 rfl (lv_room (Nat.le_of_ble_eq_true rfl)) dX13_flows_296 ⟨Nat.le_of_ble_eq_true rfl, Nat.le_of_ble_eq_true rfl⟩) hS (fun q _ h => hFc q h) hFc ?_
                  clear hS
                  intro r_41 u t H1 locs ht hvm hw hB hz1 hk1 hS
                  obtain ⟨z_16, rfl⟩ : ∃ z, z = u := ⟨_, rfl⟩
                  obtain ⟨hP1, hK1, hD1⟩ := hB
                  rw [ht] at hP1
                  have hK1 := va_K.moved hvm.symm hK1
                  try dsimp only at hw
                  have hPD := va_join (wr := [(qf110, .inl (cf110, 96, .inl f110)), (qf111, .inl (cf111, 96, .inl f111)), (qf103, .inl (cf103, 8, .inl f103)), (qf106, .inl (cf106, 8, .inl f106)), (qf108, .inl (cf108, 8, .inl f108)), (qf107, .inl (cf107, 96, .inl f107)), (qf109, .inl (cf109, 96, .inl f109)), (qf100, .inl (cf100, 48000, .inl f100)), (qf128, .inl (cf128, 31, .inl g915_4)), (qf127, .inl (cf127, 30, .inl g915_3)), (qf104, .inl (cf104, 8, .inl f104)), (qf102, .inl (cf102, 2048, .inl f102)), (qf118, .inl (cf118, 2100, .inl g915_1)), (qf119, .inl (cf119, 2100, .inl g915_2)), (qf105, .inl (cf105, 8, .inl f105)), (qf137, .inl (cf137, 6, .inl g915_5))]) (w1 := [(h0, .inr (13, z_16))]) hP hD [7] [0, 1, 2, 3, 4, 5, 6, 8, 9, 10, 11, 12, 13, 14, 15, 16] rfl rfl (by decide) (by decide) hk1 hFc hP1 hD1
                  clear hP hD
                  obtain ⟨hP, hD⟩ := hPD
                  replace hK := (hK.sub (tys' := [(cf110, .int), (cf111, .int), (cf103, .int), (cf106, .int), (cf108, .int), (cf107, .int), (cf109, .int), (cf100, .int), (cf128, .int), (cf127, .int), (cf104, .int), (cf102, .int), (cf118, .int), (cf119, .int), (cf105, .int), (cf137, .int)]) [0, 1, 2, 3, 4, 5, 6, 7, 8, 9, 10, 11, 12, 13, 14, 15] rfl).app hK1
                  clear hPc hDc hKc hFc hP1 hK1 hD1 hz1 hk1 ht hvm
                  generalize H1 = H at hP hS ⊢
                  replace hP : va_P (dC, dI) vwCl [(qf110, .inl (cf110, 96, .inl f110)), (qf111, .inl (cf111, 96, .inl f111)), (qf103, .inl (cf103, 8, .inl f103)), (qf106, .inl (cf106, 8, .inl f106)), (qf108, .inl (cf108, 8, .inl f108)), (qf107, .inl (cf107, 96, .inl f107)), (qf109, .inl (cf109, 96, .inl f109)), (qf100, .inl (cf100, 48000, .inl f100)), (qf128, .inl (cf128, 31, .inl g915_4)), (qf127, .inl (cf127, 30, .inl g915_3)), (qf104, .inl (cf104, 8, .inl f104)), (qf102, .inl (cf102, 2048, .inl f102)), (qf118, .inl (cf118, 2100, .inl g915_1)), (qf119, .inl (cf119, 2100, .inl g915_2)), (qf105, .inl (cf105, 8, .inl f105)), (qf137, .inl (cf137, 6, .inl g915_5)), (h0, .inr (13, z_16))] H := hP
                  replace hD : va_D A [(qf110, .inl (cf110, 96, .inl f110)), (qf111, .inl (cf111, 96, .inl f111)), (qf103, .inl (cf103, 8, .inl f103)), (qf106, .inl (cf106, 8, .inl f106)), (qf108, .inl (cf108, 8, .inl f108)), (qf107, .inl (cf107, 96, .inl f107)), (qf109, .inl (cf109, 96, .inl f109)), (qf100, .inl (cf100, 48000, .inl f100)), (qf128, .inl (cf128, 31, .inl g915_4)), (qf127, .inl (cf127, 30, .inl g915_3)), (qf104, .inl (cf104, 8, .inl f104)), (qf102, .inl (cf102, 2048, .inl f102)), (qf118, .inl (cf118, 2100, .inl g915_1)), (qf119, .inl (cf119, 2100, .inl g915_2)), (qf105, .inl (cf105, 8, .inl f105)), (qf137, .inl (cf137, 6, .inl g915_5)), (h0, .inr (13, z_16))] := hD
                  replace hK : va_K (dC, dI) vwCl [(cf110, .int), (cf111, .int), (cf103, .int), (cf106, .int), (cf108, .int), (cf107, .int), (cf109, .int), (cf100, .int), (cf128, .int), (cf127, .int), (cf104, .int), (cf102, .int), (cf118, .int), (cf119, .int), (cf105, .int), (cf137, .int)] s := hK
                  obtain ⟨hwa_16, hln_16, hre_16, hch_16_122, hch_16_123, hch_16_124, hch_16_125⟩ := hw
                  have hfk_16_98 : z_16[98]? = some (.int v98) := (hre_16 98 (by decide) (by decide) (by decide) (by decide)).trans (hfk_15_98)
                  have hfk_16_100 : z_16[100]? = some (.ref qf100) := (hre_16 100 (by decide) (by decide) (by decide) (by decide)).trans (hfk_15_100)
                  have hfk_16_102 : z_16[102]? = some (.ref qf102) := (hre_16 102 (by decide) (by decide) (by decide) (by decide)).trans (hfk_15_102)
                  have hfk_16_103 : z_16[103]? = some (.ref qf103) := (hre_16 103 (by decide) (by decide) (by decide) (by decide)).trans (hfk_15_103)
                  have hfk_16_104 : z_16[104]? = some (.ref qf104) := (hre_16 104 (by decide) (by decide) (by decide) (by decide)).trans (hfk_15_104)
                  have hfk_16_105 : z_16[105]? = some (.ref qf105) := (hre_16 105 (by decide) (by decide) (by decide) (by decide)).trans (hfk_15_105)
                  have hfk_16_106 : z_16[106]? = some (.ref qf106) := (hre_16 106 (by decide) (by decide) (by decide) (by decide)).trans (hfk_15_106)
                  have hfk_16_107 : z_16[107]? = some (.ref qf107) := (hre_16 107 (by decide) (by decide) (by decide) (by decide)).trans (hfk_15_107)
                  have hfk_16_108 : z_16[108]? = some (.ref qf108) := (hre_16 108 (by decide) (by decide) (by decide) (by decide)).trans (hfk_15_108)
                  have hfk_16_109 : z_16[109]? = some (.ref qf109) := (hre_16 109 (by decide) (by decide) (by decide) (by decide)).trans (hfk_15_109)
                  have hfk_16_110 : z_16[110]? = some (.ref qf110) := (hre_16 110 (by decide) (by decide) (by decide) (by decide)).trans (hfk_15_110)
                  have hfk_16_111 : z_16[111]? = some (.ref qf111) := (hre_16 111 (by decide) (by decide) (by decide) (by decide)).trans (hfk_15_111)
                  have hfk_16_117 : z_16[117]? = some (.int u15_6) := (hre_16 117 (by decide) (by decide) (by decide) (by decide)).trans (hch_15_117)
                  have hfk_16_118 : z_16[118]? = some (.ref qf118) := (hre_16 118 (by decide) (by decide) (by decide) (by decide)).trans (hfk_15_118)
                  have hfk_16_119 : z_16[119]? = some (.ref qf119) := (hre_16 119 (by decide) (by decide) (by decide) (by decide)).trans (hfk_15_119)
                  have hfk_16_120 : z_16[120]? = some (.int u15_7) := (hre_16 120 (by decide) (by decide) (by decide) (by decide)).trans (hch_15_120)
                  have hfk_16_121 : z_16[121]? = some (.int u13_5) := (hre_16 121 (by decide) (by decide) (by decide) (by decide)).trans (hfk_15_121)
                  have hfk_16_127 : z_16[127]? = some (.ref qf127) := (hre_16 127 (by decide) (by decide) (by decide) (by decide)).trans (hfk_15_127)
                  have hfk_16_128 : z_16[128]? = some (.ref qf128) := (hre_16 128 (by decide) (by decide) (by decide) (by decide)).trans (hfk_15_128)
                  have hfk_16_129 : z_16[129]? = some (.int v129) := (hre_16 129 (by decide) (by decide) (by decide) (by decide)).trans (hfk_15_129)
                  have hfk_16_130 : z_16[130]? = some (.int v130) := (hre_16 130 (by decide) (by decide) (by decide) (by decide)).trans (hfk_15_130)
                  have hfk_16_131 : z_16[131]? = some (.int u15_8) := (hre_16 131 (by decide) (by decide) (by decide) (by decide)).trans (hch_15_131)
                  have hfk_16_132 : z_16[132]? = some (.int v132) := (hre_16 132 (by decide) (by decide) (by decide) (by decide)).trans (hfk_15_132)
                  have hfk_16_133 : z_16[133]? = some (.int v133) := (hre_16 133 (by decide) (by decide) (by decide) (by decide)).trans (hfk_15_133)
                  have hfk_16_134 : z_16[134]? = some (.int v134) := (hre_16 134 (by decide) (by decide) (by decide) (by decide)).trans (hfk_15_134)
                  have hfk_16_135 : z_16[135]? = some (.int v135) := (hre_16 135 (by decide) (by decide) (by decide) (by decide)).trans (hfk_15_135)
                  have hfk_16_136 : z_16[136]? = some (.int x136_240) := (hre_16 136 (by decide) (by decide) (by decide) (by decide)).trans (hfk_15_136)
                  have hfk_16_137 : z_16[137]? = some (.ref qf137) := (hre_16 137 (by decide) (by decide) (by decide) (by decide)).trans (hfk_15_137)
                  have hrq_16 : ∀ j : Nat, j ≠ 117 → j ≠ 120 → j ≠ 121 → j ≠ 122 → j ≠ 123 → j ≠ 124 → j ≠ 125 → j ≠ 131 → j ≠ 136 → z_16[j]? = zs[j]? := fun j g117 g120 g121 g122 g123 g124 g125 g131 g136 => (hre_16 j g122 g123 g124 g125).trans (hrq_15 j g117 g120 g121 g122 g123 g124 g125 g131 g136)
                  obtain ⟨rfl, hz_16⟩ := hwa_16
                  rcases hz_16 with rfl | rfl
                  · rw [if_pos rfl] at hsp
                    have hr0 := Option.some.inj hsp
                    clear hsp
                    obtain ⟨hq0, hr1⟩ := Prod.mk.inj hr0
                    clear hr0
                    obtain ⟨hq1, hr2⟩ := Prod.mk.inj hr1
                    clear hr1
                    obtain ⟨hq2, hr3⟩ := Prod.mk.inj hr2
                    clear hr2
                    obtain ⟨hq3, hr4⟩ := Prod.mk.inj hr3
                    clear hr3
                    obtain ⟨hq4, hr5⟩ := Prod.mk.inj hr4
                    clear hr4
                    obtain ⟨hq5, hr6⟩ := Prod.mk.inj hr5
                    clear hr5
                    obtain ⟨hq6, hr7⟩ := Prod.mk.inj hr6
                    clear hr6
                    obtain ⟨hq7, hr8⟩ := Prod.mk.inj hr7
                    clear hr7
                    obtain ⟨hq8, hr9⟩ := Prod.mk.inj hr8
                    clear hr8
                    obtain ⟨hq9, hr10⟩ := Prod.mk.inj hr9
                    clear hr9
                    obtain ⟨hq10, hr11⟩ := Prod.mk.inj hr10
                    clear hr10
                    obtain ⟨hq11, hr12⟩ := Prod.mk.inj hr11
                    clear hr11
                    obtain ⟨hq12, hr13⟩ := Prod.mk.inj hr12
                    clear hr12
                    obtain ⟨hq13, hr14⟩ := Prod.mk.inj hr13
                    clear hr13
                    subst hq0
                    subst hq1
                    subst hq2
                    subst hq3
                    subst hq4
                    subst hq5
                    subst hq6
                    subst hq7
                    subst hq8
                    subst hq9
                    subst hq10
                    subst hq11
                    subst hq12
                    subst hq13
                    subst hr14
                    have hP9 := hP.sub (ws' := [(h0, .inr (13, z_16)), (qf109, .inl (cf109, 96, .inl f109)), (qf100, .inl (cf100, 48000, .inl f100)), (qf127, .inl (cf127, 30, .inl g915_3)), (qf107, .inl (cf107, 96, .inl f107)), (qf102, .inl (cf102, 2048, .inl f102)), (qf111, .inl (cf111, 96, .inl f111)), (qf104, .inl (cf104, 8, .inl f104)), (qf118, .inl (cf118, 2100, .inl g915_1)), (qf119, .inl (cf119, 2100, .inl g915_2)), (qf105, .inl (cf105, 8, .inl f105)), (qf128, .inl (cf128, 31, .inl g915_4)), (qf110, .inl (cf110, 96, .inl f110)), (qf103, .inl (cf103, 8, .inl f103)), (qf106, .inl (cf106, 8, .inl f106)), (qf108, .inl (cf108, 8, .inl f108)), (qf137, .inl (cf137, 6, .inl g915_5))]) [16, 6, 7, 9, 5, 11, 1, 10, 12, 13, 14, 8, 0, 2, 3, 4, 15] rfl
                    have hD9 := hD.sub (ws' := [(h0, .inr (13, z_16)), (qf109, .inl (cf109, 96, .inl f109)), (qf100, .inl (cf100, 48000, .inl f100)), (qf127, .inl (cf127, 30, .inl g915_3)), (qf107, .inl (cf107, 96, .inl f107)), (qf102, .inl (cf102, 2048, .inl f102)), (qf111, .inl (cf111, 96, .inl f111)), (qf104, .inl (cf104, 8, .inl f104)), (qf118, .inl (cf118, 2100, .inl g915_1)), (qf119, .inl (cf119, 2100, .inl g915_2)), (qf105, .inl (cf105, 8, .inl f105)), (qf128, .inl (cf128, 31, .inl g915_4)), (qf110, .inl (cf110, 96, .inl f110)), (qf103, .inl (cf103, 8, .inl f103)), (qf106, .inl (cf106, 8, .inl f106)), (qf108, .inl (cf108, 8, .inl f108)), (qf137, .inl (cf137, 6, .inl g915_5))]) [16, 6, 7, 9, 5, 11, 1, 10, 12, 13, 14, 8, 0, 2, 3, 4, 15] (by decide) rfl
                    have hK9 := hK.sub (tys' := [(cf109, .int), (cf100, .int), (cf127, .int), (cf107, .int), (cf102, .int), (cf111, .int), (cf104, .int), (cf118, .int), (cf119, .int), (cf105, .int), (cf128, .int), (cf110, .int), (cf103, .int), (cf106, .int), (cf108, .int), (cf137, .int)]) [6, 7, 9, 5, 11, 1, 10, 12, 13, 14, 8, 0, 2, 3, 4, 15] rfl
                    exact W.zret hx hb hr (by decide) (fun t ht hW => ⟨⟨(0), (z_16), rfl, ⟨⟨rfl, Or.inl rfl⟩, hln_16, hrq_16, hfk_16_117, hfk_16_120, hfk_16_121, hch_16_122, hch_16_123, hch_16_124, hch_16_125, hfk_16_131, hfk_16_136⟩, by rw [ht]; exact hP9, va_K.moved hW.alike hK9, hD9⟩, hS.F ht⟩) hS.2.2 dX13_flows_299
                  · rw [if_neg (by decide)] at hsp
                    have hr0 := Option.some.inj hsp
                    clear hsp
                    obtain ⟨hq0, hr1⟩ := Prod.mk.inj hr0
                    clear hr0
                    obtain ⟨hq1, hr2⟩ := Prod.mk.inj hr1
                    clear hr1
                    obtain ⟨hq2, hr3⟩ := Prod.mk.inj hr2
                    clear hr2
                    obtain ⟨hq3, hr4⟩ := Prod.mk.inj hr3
                    clear hr3
                    obtain ⟨hq4, hr5⟩ := Prod.mk.inj hr4
                    clear hr4
                    obtain ⟨hq5, hr6⟩ := Prod.mk.inj hr5
                    clear hr5
                    obtain ⟨hq6, hr7⟩ := Prod.mk.inj hr6
                    clear hr6
                    obtain ⟨hq7, hr8⟩ := Prod.mk.inj hr7
                    clear hr7
                    obtain ⟨hq8, hr9⟩ := Prod.mk.inj hr8
                    clear hr8
                    obtain ⟨hq9, hr10⟩ := Prod.mk.inj hr9
                    clear hr9
                    obtain ⟨hq10, hr11⟩ := Prod.mk.inj hr10
                    clear hr10
                    obtain ⟨hq11, hr12⟩ := Prod.mk.inj hr11
                    clear hr11
                    obtain ⟨hq12, hr13⟩ := Prod.mk.inj hr12
                    clear hr12
                    obtain ⟨hq13, hr14⟩ := Prod.mk.inj hr13
                    clear hr13
                    subst hq0
                    subst hq1
                    subst hq2
                    subst hq3
                    subst hq4
                    subst hq5
                    subst hq6
                    subst hq7
                    subst hq8
                    subst hq9
                    subst hq10
                    subst hq11
                    subst hq12
                    subst hq13
                    subst hr14
                    have hP9 := hP.sub (ws' := [(h0, .inr (13, z_16)), (qf109, .inl (cf109, 96, .inl f109)), (qf100, .inl (cf100, 48000, .inl f100)), (qf127, .inl (cf127, 30, .inl g915_3)), (qf107, .inl (cf107, 96, .inl f107)), (qf102, .inl (cf102, 2048, .inl f102)), (qf111, .inl (cf111, 96, .inl f111)), (qf104, .inl (cf104, 8, .inl f104)), (qf118, .inl (cf118, 2100, .inl g915_1)), (qf119, .inl (cf119, 2100, .inl g915_2)), (qf105, .inl (cf105, 8, .inl f105)), (qf128, .inl (cf128, 31, .inl g915_4)), (qf110, .inl (cf110, 96, .inl f110)), (qf103, .inl (cf103, 8, .inl f103)), (qf106, .inl (cf106, 8, .inl f106)), (qf108, .inl (cf108, 8, .inl f108)), (qf137, .inl (cf137, 6, .inl g915_5))]) [16, 6, 7, 9, 5, 11, 1, 10, 12, 13, 14, 8, 0, 2, 3, 4, 15] rfl
                    have hD9 := hD.sub (ws' := [(h0, .inr (13, z_16)), (qf109, .inl (cf109, 96, .inl f109)), (qf100, .inl (cf100, 48000, .inl f100)), (qf127, .inl (cf127, 30, .inl g915_3)), (qf107, .inl (cf107, 96, .inl f107)), (qf102, .inl (cf102, 2048, .inl f102)), (qf111, .inl (cf111, 96, .inl f111)), (qf104, .inl (cf104, 8, .inl f104)), (qf118, .inl (cf118, 2100, .inl g915_1)), (qf119, .inl (cf119, 2100, .inl g915_2)), (qf105, .inl (cf105, 8, .inl f105)), (qf128, .inl (cf128, 31, .inl g915_4)), (qf110, .inl (cf110, 96, .inl f110)), (qf103, .inl (cf103, 8, .inl f103)), (qf106, .inl (cf106, 8, .inl f106)), (qf108, .inl (cf108, 8, .inl f108)), (qf137, .inl (cf137, 6, .inl g915_5))]) [16, 6, 7, 9, 5, 11, 1, 10, 12, 13, 14, 8, 0, 2, 3, 4, 15] (by decide) rfl
                    have hK9 := hK.sub (tys' := [(cf109, .int), (cf100, .int), (cf127, .int), (cf107, .int), (cf102, .int), (cf111, .int), (cf104, .int), (cf118, .int), (cf119, .int), (cf105, .int), (cf128, .int), (cf110, .int), (cf103, .int), (cf106, .int), (cf108, .int), (cf137, .int)]) [6, 7, 9, 5, 11, 1, 10, 12, 13, 14, 8, 0, 2, 3, 4, 15] rfl
                    exact W.zret hx hb hr (by decide) (fun t ht hW => ⟨⟨(1), (z_16), rfl, ⟨⟨rfl, Or.inr rfl⟩, hln_16, hrq_16, hfk_16_117, hfk_16_120, hfk_16_121, hch_16_122, hch_16_123, hch_16_124, hch_16_125, hfk_16_131, hfk_16_136⟩, by rw [ht]; exact hP9, va_K.moved hW.alike hK9, hD9⟩, hS.F ht⟩) hS.2.2 dX13_flows_299
                · rw [if_neg (by decide)] at hsp
                  refine lv_if_ne (tgt := 300) hx hb dX13_flows_286 (by decide) (fun c_42 => ?_) (fun c_42 => (show False by revert c_42; decide).elim)
                  refine lv_aload_n hx hb dX13_flows_300 rfl (lv_at hl 0 rfl) ?_
                  refine lv_iload hx hb dX13_flows_301 (lv_at hl 3 rfl) ?_
                  obtain ⟨u17_0, hu_17, hsp⟩ := ox_bind hsp
                  try dsimp only at hsp
                  have hPc := hP.sub (ws' := [(h0, .inr (13, z_15)), (qf100, .inl (cf100, 48000, .inl f100))]) [7, 8] rfl
                  have hDc := hD.sub (ws' := [(h0, .inr (13, z_15)), (qf100, .inl (cf100, 48000, .inl f100))]) [7, 8] (by decide) rfl
                  have hKc := hK.sub (tys' := [(cf100, .int)]) [7] rfl
                  have hFc := va_free (wc := [(h0, .inr (13, z_15)), (qf100, .inl (cf100, 48000, .inl f100))]) hD hS hA [7, 8] rfl
                  refine va_calli (va_runV (As := [.int l6_240]) (rest := []) ⟨hx, hb, hml, hown, hts⟩ (tm_code l dC dI H.size h0 z_15 l6_240 qf100 v132 v134 cf100 f100 nf u17_0 hln_15 hfk_15_100 hfk_15_132 hfk_15_134 hu_17) (cwV 1 hts gv_h9_65 rfl rfl rfl (by decide +kernel) ⟨Nat.le_of_ble_eq_true rfl, Nat.le_of_ble_eq_true rfl⟩) ⟨fun a U g mk q => by obtain ⟨q0, q1, qP, qK, qD⟩ := q; exact ⟨q0, q1, qP, va_K.moved (u := U) (U := U.calling g mk a) (Vm.Alike.refl U.vm) qK, qD⟩, va_recv hKc hPc (ci := 13) (q0 := 0) rfl rfl, fun U hU hW => ⟨rfl, by rw [hU], by rw [hU]; exact hPc, va_K.moved hW.alike hKc, hDc.weaken (fun _ _ _ _ => trivial)⟩⟩ rfl rfl hl.1 rfl (lv_room (Nat.le_of_ble_eq_true rfl)) dX13_flows_303 ⟨Nat.le_of_ble_eq_true rfl, Nat.le_of_ble_eq_true rfl⟩) hS (fun q _ h => hFc q h) hFc ?_
                  clear hS
                  intro r_43 u t H1 locs ht hvm hw hB hz1 hk1 hS
                  obtain ⟨z_17, rfl⟩ : ∃ z, z = u := ⟨_, rfl⟩
                  obtain ⟨hP1, hK1, hD1⟩ := hB
                  rw [ht] at hP1
                  have hK1 := va_K.moved hvm.symm hK1
                  try dsimp only at hw
                  have hPD := va_join (wr := [(qf110, .inl (cf110, 96, .inl f110)), (qf111, .inl (cf111, 96, .inl f111)), (qf103, .inl (cf103, 8, .inl f103)), (qf106, .inl (cf106, 8, .inl f106)), (qf108, .inl (cf108, 8, .inl f108)), (qf107, .inl (cf107, 96, .inl f107)), (qf109, .inl (cf109, 96, .inl f109)), (qf128, .inl (cf128, 31, .inl g915_4)), (qf127, .inl (cf127, 30, .inl g915_3)), (qf104, .inl (cf104, 8, .inl f104)), (qf102, .inl (cf102, 2048, .inl f102)), (qf118, .inl (cf118, 2100, .inl g915_1)), (qf119, .inl (cf119, 2100, .inl g915_2)), (qf105, .inl (cf105, 8, .inl f105)), (qf137, .inl (cf137, 6, .inl g915_5))]) (w1 := [(h0, .inr (13, z_17)), (qf100, .inl (cf100, 48000, .inl f100))]) hP hD [7, 8] [0, 1, 2, 3, 4, 5, 6, 9, 10, 11, 12, 13, 14, 15, 16] rfl rfl (by decide) (by decide) hk1 hFc hP1 hD1
                  clear hP hD
                  obtain ⟨hP, hD⟩ := hPD
                  replace hK := (hK.sub (tys' := [(cf110, .int), (cf111, .int), (cf103, .int), (cf106, .int), (cf108, .int), (cf107, .int), (cf109, .int), (cf128, .int), (cf127, .int), (cf104, .int), (cf102, .int), (cf118, .int), (cf119, .int), (cf105, .int), (cf137, .int)]) [0, 1, 2, 3, 4, 5, 6, 8, 9, 10, 11, 12, 13, 14, 15] rfl).app hK1
                  clear hPc hDc hKc hFc hP1 hK1 hD1 hz1 hk1 ht hvm
                  generalize H1 = H at hP hS ⊢
                  replace hP : va_P (dC, dI) vwCl [(qf110, .inl (cf110, 96, .inl f110)), (qf111, .inl (cf111, 96, .inl f111)), (qf103, .inl (cf103, 8, .inl f103)), (qf106, .inl (cf106, 8, .inl f106)), (qf108, .inl (cf108, 8, .inl f108)), (qf107, .inl (cf107, 96, .inl f107)), (qf109, .inl (cf109, 96, .inl f109)), (qf128, .inl (cf128, 31, .inl g915_4)), (qf127, .inl (cf127, 30, .inl g915_3)), (qf104, .inl (cf104, 8, .inl f104)), (qf102, .inl (cf102, 2048, .inl f102)), (qf118, .inl (cf118, 2100, .inl g915_1)), (qf119, .inl (cf119, 2100, .inl g915_2)), (qf105, .inl (cf105, 8, .inl f105)), (qf137, .inl (cf137, 6, .inl g915_5)), (h0, .inr (13, z_17)), (qf100, .inl (cf100, 48000, .inl f100))] H := hP
                  replace hD : va_D A [(qf110, .inl (cf110, 96, .inl f110)), (qf111, .inl (cf111, 96, .inl f111)), (qf103, .inl (cf103, 8, .inl f103)), (qf106, .inl (cf106, 8, .inl f106)), (qf108, .inl (cf108, 8, .inl f108)), (qf107, .inl (cf107, 96, .inl f107)), (qf109, .inl (cf109, 96, .inl f109)), (qf128, .inl (cf128, 31, .inl g915_4)), (qf127, .inl (cf127, 30, .inl g915_3)), (qf104, .inl (cf104, 8, .inl f104)), (qf102, .inl (cf102, 2048, .inl f102)), (qf118, .inl (cf118, 2100, .inl g915_1)), (qf119, .inl (cf119, 2100, .inl g915_2)), (qf105, .inl (cf105, 8, .inl f105)), (qf137, .inl (cf137, 6, .inl g915_5)), (h0, .inr (13, z_17)), (qf100, .inl (cf100, 48000, .inl f100))] := hD
                  replace hK : va_K (dC, dI) vwCl [(cf110, .int), (cf111, .int), (cf103, .int), (cf106, .int), (cf108, .int), (cf107, .int), (cf109, .int), (cf128, .int), (cf127, .int), (cf104, .int), (cf102, .int), (cf118, .int), (cf119, .int), (cf105, .int), (cf137, .int), (cf100, .int)] s := hK
                  obtain ⟨hwa_17, hln_17, hre_17⟩ := hw
                  have hfk_17_98 : z_17[98]? = some (.int v98) := (hre_17 98 ).trans (hfk_15_98)
                  have hfk_17_100 : z_17[100]? = some (.ref qf100) := (hre_17 100 ).trans (hfk_15_100)
                  have hfk_17_102 : z_17[102]? = some (.ref qf102) := (hre_17 102 ).trans (hfk_15_102)
                  have hfk_17_103 : z_17[103]? = some (.ref qf103) := (hre_17 103 ).trans (hfk_15_103)
                  have hfk_17_104 : z_17[104]? = some (.ref qf104) := (hre_17 104 ).trans (hfk_15_104)
                  have hfk_17_105 : z_17[105]? = some (.ref qf105) := (hre_17 105 ).trans (hfk_15_105)
                  have hfk_17_106 : z_17[106]? = some (.ref qf106) := (hre_17 106 ).trans (hfk_15_106)
                  have hfk_17_107 : z_17[107]? = some (.ref qf107) := (hre_17 107 ).trans (hfk_15_107)
                  have hfk_17_108 : z_17[108]? = some (.ref qf108) := (hre_17 108 ).trans (hfk_15_108)
                  have hfk_17_109 : z_17[109]? = some (.ref qf109) := (hre_17 109 ).trans (hfk_15_109)
                  have hfk_17_110 : z_17[110]? = some (.ref qf110) := (hre_17 110 ).trans (hfk_15_110)
                  have hfk_17_111 : z_17[111]? = some (.ref qf111) := (hre_17 111 ).trans (hfk_15_111)
                  have hfk_17_117 : z_17[117]? = some (.int u15_6) := (hre_17 117 ).trans (hch_15_117)
                  have hfk_17_118 : z_17[118]? = some (.ref qf118) := (hre_17 118 ).trans (hfk_15_118)
                  have hfk_17_119 : z_17[119]? = some (.ref qf119) := (hre_17 119 ).trans (hfk_15_119)
                  have hfk_17_120 : z_17[120]? = some (.int u15_7) := (hre_17 120 ).trans (hch_15_120)
                  have hfk_17_121 : z_17[121]? = some (.int u13_5) := (hre_17 121 ).trans (hfk_15_121)
                  have hfk_17_122 : z_17[122]? = some (.int x122_240) := (hre_17 122 ).trans (hfk_15_122)
                  have hfk_17_123 : z_17[123]? = some (.int x123_240) := (hre_17 123 ).trans (hfk_15_123)
                  have hfk_17_124 : z_17[124]? = some (.int x124_240) := (hre_17 124 ).trans (hfk_15_124)
                  have hfk_17_125 : z_17[125]? = some (.int x125_240) := (hre_17 125 ).trans (hfk_15_125)
                  have hfk_17_127 : z_17[127]? = some (.ref qf127) := (hre_17 127 ).trans (hfk_15_127)
                  have hfk_17_128 : z_17[128]? = some (.ref qf128) := (hre_17 128 ).trans (hfk_15_128)
                  have hfk_17_129 : z_17[129]? = some (.int v129) := (hre_17 129 ).trans (hfk_15_129)
                  have hfk_17_130 : z_17[130]? = some (.int v130) := (hre_17 130 ).trans (hfk_15_130)
                  have hfk_17_131 : z_17[131]? = some (.int u15_8) := (hre_17 131 ).trans (hch_15_131)
                  have hfk_17_132 : z_17[132]? = some (.int v132) := (hre_17 132 ).trans (hfk_15_132)
                  have hfk_17_133 : z_17[133]? = some (.int v133) := (hre_17 133 ).trans (hfk_15_133)
                  have hfk_17_134 : z_17[134]? = some (.int v134) := (hre_17 134 ).trans (hfk_15_134)
                  have hfk_17_135 : z_17[135]? = some (.int v135) := (hre_17 135 ).trans (hfk_15_135)
                  have hfk_17_136 : z_17[136]? = some (.int x136_240) := (hre_17 136 ).trans (hfk_15_136)
                  have hfk_17_137 : z_17[137]? = some (.ref qf137) := (hre_17 137 ).trans (hfk_15_137)
                  have hrq_17 : ∀ j : Nat, j ≠ 117 → j ≠ 120 → j ≠ 121 → j ≠ 122 → j ≠ 123 → j ≠ 124 → j ≠ 125 → j ≠ 131 → j ≠ 136 → z_17[j]? = zs[j]? := fun j g117 g120 g121 g122 g123 g124 g125 g131 g136 => (hre_17 j ).trans (hrq_15 j g117 g120 g121 g122 g123 g124 g125 g131 g136)
                  obtain rfl := hwa_17
                  refine lv_istore (lv' := [(8, .int u17_0), (0, .ref h0), (1, .int l1_240), (2, .int l2_240), (6, .int l6_240)]) hx hb dX13_flows_306 hl (by decide) rfl (fun ls hl => ?_)
                  refine lv_iload hx hb dX13_flows_308 (lv_at hl 0 rfl) ?_
                  obtain ⟨u18_0, hu_18, hsp⟩ := ox_bind hsp
                  try dsimp only at hsp
                  have hPc := hP.sub (ws' := []) [] rfl
                  have hDc := hD.sub (ws' := []) [] (by decide) rfl
                  have hKc := hK.sub (tys' := []) [] rfl
                  have hFc := va_free (wc := []) hD hS hA [] rfl
                  refine va_calli (va_runS (As := [.int u17_0]) (rest := []) ⟨hx, hb, hml, hown, hts⟩ (tm_isJump l dC dI H.size u17_0 nf u18_0 hu_18) (va_cwS 1 hts gv_h9_131 rfl rfl rfl (by decide +kernel) ⟨Nat.le_of_ble_eq_true rfl, Nat.le_of_ble_eq_true rfl⟩) ⟨fun a U g mk q => by obtain ⟨q0, q1, qP, qK, qD⟩ := q; exact ⟨q0, q1, qP, va_K.moved (u := U) (U := U.calling g mk a) (Vm.Alike.refl U.vm) qK, qD⟩, fun U hU hW => ⟨rfl, by rw [hU], by rw [hU]; exact hPc, va_K.moved hW.alike hKc, hDc.weaken (fun _ _ _ _ => trivial)⟩⟩ rfl rfl hl.1 rfl (lv_room (Nat.le_of_ble_eq_true rfl)) dX13_flows_310 ⟨Nat.le_of_ble_eq_true rfl, Nat.le_of_ble_eq_true rfl⟩) hS (fun q _ h => hFc q h) hFc ?_
                  clear hS
                  intro r_44 u t H1 locs ht hvm hw hB hz1 hk1 hS
                  obtain ⟨⟩ := u
                  obtain ⟨hP1, hK1, hD1⟩ := hB
                  rw [ht] at hP1
                  have hK1 := va_K.moved hvm.symm hK1
                  try dsimp only at hw
                  have hPD := va_join (wr := [(qf110, .inl (cf110, 96, .inl f110)), (qf111, .inl (cf111, 96, .inl f111)), (qf103, .inl (cf103, 8, .inl f103)), (qf106, .inl (cf106, 8, .inl f106)), (qf108, .inl (cf108, 8, .inl f108)), (qf107, .inl (cf107, 96, .inl f107)), (qf109, .inl (cf109, 96, .inl f109)), (qf128, .inl (cf128, 31, .inl g915_4)), (qf127, .inl (cf127, 30, .inl g915_3)), (qf104, .inl (cf104, 8, .inl f104)), (qf102, .inl (cf102, 2048, .inl f102)), (qf118, .inl (cf118, 2100, .inl g915_1)), (qf119, .inl (cf119, 2100, .inl g915_2)), (qf105, .inl (cf105, 8, .inl f105)), (qf137, .inl (cf137, 6, .inl g915_5)), (h0, .inr (13, z_17)), (qf100, .inl (cf100, 48000, .inl f100))]) (w1 := []) hP hD [] [0, 1, 2, 3, 4, 5, 6, 7, 8, 9, 10, 11, 12, 13, 14, 15, 16] rfl rfl (by decide) (by decide) hk1 hFc hP1 hD1
                  clear hP hD
                  obtain ⟨hP, hD⟩ := hPD
                  replace hK := (hK.sub (tys' := [(cf110, .int), (cf111, .int), (cf103, .int), (cf106, .int), (cf108, .int), (cf107, .int), (cf109, .int), (cf128, .int), (cf127, .int), (cf104, .int), (cf102, .int), (cf118, .int), (cf119, .int), (cf105, .int), (cf137, .int), (cf100, .int)]) [0, 1, 2, 3, 4, 5, 6, 7, 8, 9, 10, 11, 12, 13, 14, 15] rfl).app hK1
                  clear hPc hDc hKc hFc hP1 hK1 hD1 hz1 hk1 ht hvm
                  generalize H1 = H at hP hS ⊢
                  replace hP : va_P (dC, dI) vwCl [(qf110, .inl (cf110, 96, .inl f110)), (qf111, .inl (cf111, 96, .inl f111)), (qf103, .inl (cf103, 8, .inl f103)), (qf106, .inl (cf106, 8, .inl f106)), (qf108, .inl (cf108, 8, .inl f108)), (qf107, .inl (cf107, 96, .inl f107)), (qf109, .inl (cf109, 96, .inl f109)), (qf128, .inl (cf128, 31, .inl g915_4)), (qf127, .inl (cf127, 30, .inl g915_3)), (qf104, .inl (cf104, 8, .inl f104)), (qf102, .inl (cf102, 2048, .inl f102)), (qf118, .inl (cf118, 2100, .inl g915_1)), (qf119, .inl (cf119, 2100, .inl g915_2)), (qf105, .inl (cf105, 8, .inl f105)), (qf137, .inl (cf137, 6, .inl g915_5)), (h0, .inr (13, z_17)), (qf100, .inl (cf100, 48000, .inl f100))] H := hP
                  replace hD : va_D A [(qf110, .inl (cf110, 96, .inl f110)), (qf111, .inl (cf111, 96, .inl f111)), (qf103, .inl (cf103, 8, .inl f103)), (qf106, .inl (cf106, 8, .inl f106)), (qf108, .inl (cf108, 8, .inl f108)), (qf107, .inl (cf107, 96, .inl f107)), (qf109, .inl (cf109, 96, .inl f109)), (qf128, .inl (cf128, 31, .inl g915_4)), (qf127, .inl (cf127, 30, .inl g915_3)), (qf104, .inl (cf104, 8, .inl f104)), (qf102, .inl (cf102, 2048, .inl f102)), (qf118, .inl (cf118, 2100, .inl g915_1)), (qf119, .inl (cf119, 2100, .inl g915_2)), (qf105, .inl (cf105, 8, .inl f105)), (qf137, .inl (cf137, 6, .inl g915_5)), (h0, .inr (13, z_17)), (qf100, .inl (cf100, 48000, .inl f100))] := hD
                  replace hK : va_K (dC, dI) vwCl [(cf110, .int), (cf111, .int), (cf103, .int), (cf106, .int), (cf108, .int), (cf107, .int), (cf109, .int), (cf128, .int), (cf127, .int), (cf104, .int), (cf102, .int), (cf118, .int), (cf119, .int), (cf105, .int), (cf137, .int), (cf100, .int)] s := hK
                  obtain ⟨rfl, hz_18⟩ := hw
                  rcases hz_18 with rfl | rfl
                  · rw [if_pos rfl] at hsp
                    refine lv_if_eq (tgt := 363) hx hb dX13_flows_313 (by decide) (fun c_45 => ?_) (fun c_45 => (show False by revert c_45; decide).elim)
                    exact hj_363 (H, locs, ls, z_17, l1_240, l2_240, l6_240, u17_0, g915_1, g915_2, g915_3, g915_4, g915_5, u15_6, u15_7, u13_5, x122_240, x123_240, x124_240, x125_240, u15_8, x136_240) ⟨lv_sub hl [1, 2, 3, 4, 0] rfl, hS, hD.sub (ws' := [(h0, .inr (13, z_17)), (qf109, .inl (cf109, 96, .inl f109)), (qf100, .inl (cf100, 48000, .inl f100)), (qf127, .inl (cf127, 30, .inl g915_3)), (qf107, .inl (cf107, 96, .inl f107)), (qf102, .inl (cf102, 2048, .inl f102)), (qf111, .inl (cf111, 96, .inl f111)), (qf104, .inl (cf104, 8, .inl f104)), (qf118, .inl (cf118, 2100, .inl g915_1)), (qf119, .inl (cf119, 2100, .inl g915_2)), (qf105, .inl (cf105, 8, .inl f105)), (qf128, .inl (cf128, 31, .inl g915_4)), (qf110, .inl (cf110, 96, .inl f110)), (qf103, .inl (cf103, 8, .inl f103)), (qf106, .inl (cf106, 8, .inl f106)), (qf108, .inl (cf108, 8, .inl f108)), (qf137, .inl (cf137, 6, .inl g915_5))]) [15, 6, 16, 8, 5, 10, 1, 9, 11, 12, 13, 7, 0, 2, 3, 4, 14] (by decide) rfl, hP.sub (ws' := [(h0, .inr (13, z_17)), (qf109, .inl (cf109, 96, .inl f109)), (qf100, .inl (cf100, 48000, .inl f100)), (qf127, .inl (cf127, 30, .inl g915_3)), (qf107, .inl (cf107, 96, .inl f107)), (qf102, .inl (cf102, 2048, .inl f102)), (qf111, .inl (cf111, 96, .inl f111)), (qf104, .inl (cf104, 8, .inl f104)), (qf118, .inl (cf118, 2100, .inl g915_1)), (qf119, .inl (cf119, 2100, .inl g915_2)), (qf105, .inl (cf105, 8, .inl f105)), (qf128, .inl (cf128, 31, .inl g915_4)), (qf110, .inl (cf110, 96, .inl f110)), (qf103, .inl (cf103, 8, .inl f103)), (qf106, .inl (cf106, 8, .inl f106)), (qf108, .inl (cf108, 8, .inl f108)), (qf137, .inl (cf137, 6, .inl g915_5))]) [15, 6, 16, 8, 5, 10, 1, 9, 11, 12, 13, 7, 0, 2, 3, 4, 14] rfl, hfk_17_98, hfk_17_100, hfk_17_102, hfk_17_103, hfk_17_104, hfk_17_105, hfk_17_106, hfk_17_107, hfk_17_108, hfk_17_109, hfk_17_110, hfk_17_111, hfk_17_117, hfk_17_118, hfk_17_119, hfk_17_120, hfk_17_121, hfk_17_122, hfk_17_123, hfk_17_124, hfk_17_125, hfk_17_127, hfk_17_128, hfk_17_129, hfk_17_130, hfk_17_131, hfk_17_132, hfk_17_133, hfk_17_134, hfk_17_135, hfk_17_136, hfk_17_137, hln_17, hrq_17, hsp⟩
                  · rw [if_neg (by decide)] at hsp
                    refine lv_if_eq (tgt := 363) hx hb dX13_flows_313 (by decide) (fun c_46 => (show False by revert c_46; decide).elim) (fun c_46 => ?_)
                    refine lv_aload_n hx hb dX13_flows_316 rfl (lv_at hl 1 rfl) ?_
                    refine lv_aload_n hx hb dX13_flows_317 rfl (lv_at hl 1 rfl) ?_
                    refine lv_iload hx hb dX13_flows_318 (lv_at hl 4 rfl) ?_
                    obtain ⟨u19_0, hu_19, hsp⟩ := ox_bind hsp
                    try dsimp only at hsp
                    have hPc := hP.sub (ws' := [(h0, .inr (13, z_17)), (qf100, .inl (cf100, 48000, .inl f100))]) [15, 16] rfl
                    have hDc := hD.sub (ws' := [(h0, .inr (13, z_17)), (qf100, .inl (cf100, 48000, .inl f100))]) [15, 16] (by decide) rfl
                    have hKc := hK.sub (tys' := [(cf100, .int)]) [15] rfl
                    have hFc := va_free (wc := [(h0, .inr (13, z_17)), (qf100, .inl (cf100, 48000, .inl f100))]) hD hS hA [15, 16] rfl
                    refine va_calli (va_runV (As := [.int l6_240]) (rest := [.ref h0]) ⟨hx, hb, hml, hown, hts⟩ (tm_aimOf l dC dI H.size h0 z_17 l6_240 qf100 v132 v134 cf100 f100 nf u19_0 hln_17 hfk_17_100 hfk_17_132 hfk_17_134 hu_19) (cwV 1 hts gv_h9_132 rfl rfl rfl (by decide +kernel) ⟨Nat.le_of_ble_eq_true rfl, Nat.le_of_ble_eq_true rfl⟩) ⟨fun a U g mk q => by obtain ⟨q0, q1, qP, qK, qD⟩ := q; exact ⟨q0, q1, qP, va_K.moved (u := U) (U := U.calling g mk a) (Vm.Alike.refl U.vm) qK, qD⟩, va_recv hKc hPc (ci := 13) (q0 := 0) rfl rfl, fun U hU hW => ⟨rfl, by rw [hU], by rw [hU]; exact hPc, va_K.moved hW.alike hKc, hDc.weaken (fun _ _ _ _ => trivial)⟩⟩ rfl rfl hl.1 rfl (lv_room (Nat.le_of_ble_eq_true rfl)) dX13_flows_320 ⟨Nat.le_of_ble_eq_true rfl, Nat.le_of_ble_eq_true rfl⟩) hS (fun q _ h => hFc q h) hFc ?_
                    clear hS
                    intro r_47 u t H1 locs ht hvm hw hB hz1 hk1 hS
                    obtain ⟨z_19, rfl⟩ : ∃ z, z = u := ⟨_, rfl⟩
                    obtain ⟨hP1, hK1, hD1⟩ := hB
                    rw [ht] at hP1
                    have hK1 := va_K.moved hvm.symm hK1
                    try dsimp only at hw
                    have hPD := va_join (wr := [(qf110, .inl (cf110, 96, .inl f110)), (qf111, .inl (cf111, 96, .inl f111)), (qf103, .inl (cf103, 8, .inl f103)), (qf106, .inl (cf106, 8, .inl f106)), (qf108, .inl (cf108, 8, .inl f108)), (qf107, .inl (cf107, 96, .inl f107)), (qf109, .inl (cf109, 96, .inl f109)), (qf128, .inl (cf128, 31, .inl g915_4)), (qf127, .inl (cf127, 30, .inl g915_3)), (qf104, .inl (cf104, 8, .inl f104)), (qf102, .inl (cf102, 2048, .inl f102)), (qf118, .inl (cf118, 2100, .inl g915_1)), (qf119, .inl (cf119, 2100, .inl g915_2)), (qf105, .inl (cf105, 8, .inl f105)), (qf137, .inl (cf137, 6, .inl g915_5))]) (w1 := [(h0, .inr (13, z_19)), (qf100, .inl (cf100, 48000, .inl f100))]) hP hD [15, 16] [0, 1, 2, 3, 4, 5, 6, 7, 8, 9, 10, 11, 12, 13, 14] rfl rfl (by decide) (by decide) hk1 hFc hP1 hD1
                    clear hP hD
                    obtain ⟨hP, hD⟩ := hPD
                    replace hK := (hK.sub (tys' := [(cf110, .int), (cf111, .int), (cf103, .int), (cf106, .int), (cf108, .int), (cf107, .int), (cf109, .int), (cf128, .int), (cf127, .int), (cf104, .int), (cf102, .int), (cf118, .int), (cf119, .int), (cf105, .int), (cf137, .int)]) [0, 1, 2, 3, 4, 5, 6, 7, 8, 9, 10, 11, 12, 13, 14] rfl).app hK1
                    clear hPc hDc hKc hFc hP1 hK1 hD1 hz1 hk1 ht hvm
                    generalize H1 = H at hP hS ⊢
                    replace hP : va_P (dC, dI) vwCl [(qf110, .inl (cf110, 96, .inl f110)), (qf111, .inl (cf111, 96, .inl f111)), (qf103, .inl (cf103, 8, .inl f103)), (qf106, .inl (cf106, 8, .inl f106)), (qf108, .inl (cf108, 8, .inl f108)), (qf107, .inl (cf107, 96, .inl f107)), (qf109, .inl (cf109, 96, .inl f109)), (qf128, .inl (cf128, 31, .inl g915_4)), (qf127, .inl (cf127, 30, .inl g915_3)), (qf104, .inl (cf104, 8, .inl f104)), (qf102, .inl (cf102, 2048, .inl f102)), (qf118, .inl (cf118, 2100, .inl g915_1)), (qf119, .inl (cf119, 2100, .inl g915_2)), (qf105, .inl (cf105, 8, .inl f105)), (qf137, .inl (cf137, 6, .inl g915_5)), (h0, .inr (13, z_19)), (qf100, .inl (cf100, 48000, .inl f100))] H := hP
                    replace hD : va_D A [(qf110, .inl (cf110, 96, .inl f110)), (qf111, .inl (cf111, 96, .inl f111)), (qf103, .inl (cf103, 8, .inl f103)), (qf106, .inl (cf106, 8, .inl f106)), (qf108, .inl (cf108, 8, .inl f108)), (qf107, .inl (cf107, 96, .inl f107)), (qf109, .inl (cf109, 96, .inl f109)), (qf128, .inl (cf128, 31, .inl g915_4)), (qf127, .inl (cf127, 30, .inl g915_3)), (qf104, .inl (cf104, 8, .inl f104)), (qf102, .inl (cf102, 2048, .inl f102)), (qf118, .inl (cf118, 2100, .inl g915_1)), (qf119, .inl (cf119, 2100, .inl g915_2)), (qf105, .inl (cf105, 8, .inl f105)), (qf137, .inl (cf137, 6, .inl g915_5)), (h0, .inr (13, z_19)), (qf100, .inl (cf100, 48000, .inl f100))] := hD
                    replace hK : va_K (dC, dI) vwCl [(cf110, .int), (cf111, .int), (cf103, .int), (cf106, .int), (cf108, .int), (cf107, .int), (cf109, .int), (cf128, .int), (cf127, .int), (cf104, .int), (cf102, .int), (cf118, .int), (cf119, .int), (cf105, .int), (cf137, .int), (cf100, .int)] s := hK
                    obtain ⟨hwa_19, hln_19, hre_19⟩ := hw
                    have hfk_19_98 : z_19[98]? = some (.int v98) := (hre_19 98 ).trans (hfk_17_98)
                    have hfk_19_100 : z_19[100]? = some (.ref qf100) := (hre_19 100 ).trans (hfk_17_100)
                    have hfk_19_102 : z_19[102]? = some (.ref qf102) := (hre_19 102 ).trans (hfk_17_102)
                    have hfk_19_103 : z_19[103]? = some (.ref qf103) := (hre_19 103 ).trans (hfk_17_103)
                    have hfk_19_104 : z_19[104]? = some (.ref qf104) := (hre_19 104 ).trans (hfk_17_104)
                    have hfk_19_105 : z_19[105]? = some (.ref qf105) := (hre_19 105 ).trans (hfk_17_105)
                    have hfk_19_106 : z_19[106]? = some (.ref qf106) := (hre_19 106 ).trans (hfk_17_106)
                    have hfk_19_107 : z_19[107]? = some (.ref qf107) := (hre_19 107 ).trans (hfk_17_107)
                    have hfk_19_108 : z_19[108]? = some (.ref qf108) := (hre_19 108 ).trans (hfk_17_108)
                    have hfk_19_109 : z_19[109]? = some (.ref qf109) := (hre_19 109 ).trans (hfk_17_109)
                    have hfk_19_110 : z_19[110]? = some (.ref qf110) := (hre_19 110 ).trans (hfk_17_110)
                    have hfk_19_111 : z_19[111]? = some (.ref qf111) := (hre_19 111 ).trans (hfk_17_111)
                    have hfk_19_117 : z_19[117]? = some (.int u15_6) := (hre_19 117 ).trans (hfk_17_117)
                    have hfk_19_118 : z_19[118]? = some (.ref qf118) := (hre_19 118 ).trans (hfk_17_118)
                    have hfk_19_119 : z_19[119]? = some (.ref qf119) := (hre_19 119 ).trans (hfk_17_119)
                    have hfk_19_120 : z_19[120]? = some (.int u15_7) := (hre_19 120 ).trans (hfk_17_120)
                    have hfk_19_121 : z_19[121]? = some (.int u13_5) := (hre_19 121 ).trans (hfk_17_121)
                    have hfk_19_122 : z_19[122]? = some (.int x122_240) := (hre_19 122 ).trans (hfk_17_122)
                    have hfk_19_123 : z_19[123]? = some (.int x123_240) := (hre_19 123 ).trans (hfk_17_123)
                    have hfk_19_124 : z_19[124]? = some (.int x124_240) := (hre_19 124 ).trans (hfk_17_124)
                    have hfk_19_125 : z_19[125]? = some (.int x125_240) := (hre_19 125 ).trans (hfk_17_125)
                    have hfk_19_127 : z_19[127]? = some (.ref qf127) := (hre_19 127 ).trans (hfk_17_127)
                    have hfk_19_128 : z_19[128]? = some (.ref qf128) := (hre_19 128 ).trans (hfk_17_128)
                    have hfk_19_129 : z_19[129]? = some (.int v129) := (hre_19 129 ).trans (hfk_17_129)
                    have hfk_19_130 : z_19[130]? = some (.int v130) := (hre_19 130 ).trans (hfk_17_130)
                    have hfk_19_131 : z_19[131]? = some (.int u15_8) := (hre_19 131 ).trans (hfk_17_131)
                    have hfk_19_132 : z_19[132]? = some (.int v132) := (hre_19 132 ).trans (hfk_17_132)
                    have hfk_19_133 : z_19[133]? = some (.int v133) := (hre_19 133 ).trans (hfk_17_133)
                    have hfk_19_134 : z_19[134]? = some (.int v134) := (hre_19 134 ).trans (hfk_17_134)
                    have hfk_19_135 : z_19[135]? = some (.int v135) := (hre_19 135 ).trans (hfk_17_135)
                    have hfk_19_136 : z_19[136]? = some (.int x136_240) := (hre_19 136 ).trans (hfk_17_136)
                    have hfk_19_137 : z_19[137]? = some (.ref qf137) := (hre_19 137 ).trans (hfk_17_137)
                    have hrq_19 : ∀ j : Nat, j ≠ 117 → j ≠ 120 → j ≠ 121 → j ≠ 122 → j ≠ 123 → j ≠ 124 → j ≠ 125 → j ≠ 131 → j ≠ 136 → z_19[j]? = zs[j]? := fun j g117 g120 g121 g122 g123 g124 g125 g131 g136 => (hre_19 j ).trans (hrq_17 j g117 g120 g121 g122 g123 g124 g125 g131 g136)
                    obtain rfl := hwa_19
                    obtain ⟨u20_0, hu_20, hsp⟩ := ox_bind hsp
                    try dsimp only at hsp
                    have hPc := hP.sub (ws' := [(h0, .inr (13, z_19)), (qf111, .inl (cf111, 96, .inl f111)), (qf100, .inl (cf100, 48000, .inl f100))]) [15, 1, 16] rfl
                    have hDc := hD.sub (ws' := [(h0, .inr (13, z_19)), (qf111, .inl (cf111, 96, .inl f111)), (qf100, .inl (cf100, 48000, .inl f100))]) [15, 1, 16] (by decide) rfl
                    have hKc := hK.sub (tys' := [(cf111, .int), (cf100, .int)]) [1, 15] rfl
                    have hFc := va_free (wc := [(h0, .inr (13, z_19)), (qf111, .inl (cf111, 96, .inl f111)), (qf100, .inl (cf100, 48000, .inl f100))]) hD hS hA [15, 1, 16] rfl
                    refine va_calli (va_runV (As := [.int u19_0]) (rest := []) ⟨hx, hb, hml, hown, hts⟩ (tn_frameFor l dC dI H.size h0 z_19 u19_0 qf100 qf111 v132 v133 cf111 f111 cf100 f100 nf u20_0 hln_19 hfk_19_100 hfk_19_111 hfk_19_132 hfk_19_133 hu_20) (cwV 1 hts gv_h9_64 rfl rfl rfl (by decide +kernel) ⟨Nat.le_of_ble_eq_true rfl, Nat.le_of_ble_eq_true rfl⟩) ⟨fun a U g mk q => by obtain ⟨q0, q1, qP, qK, qD⟩ := q; exact ⟨q0, q1, qP, va_K.moved (u := U) (U := U.calling g mk a) (Vm.Alike.refl U.vm) qK, qD⟩, va_recv hKc hPc (ci := 13) (q0 := 0) rfl rfl, fun U hU hW => ⟨rfl, by rw [hU], by rw [hU]; exact hPc, va_K.moved hW.alike hKc, hDc.weaken (fun _ _ _ _ => trivial)⟩⟩ rfl rfl hl.1 rfl (lv_room (Nat.le_of_ble_eq_true rfl)) dX13_flows_323 ⟨Nat.le_of_ble_eq_true rfl, Nat.le_of_ble_eq_true rfl⟩) hS (fun q _ h => hFc q h) hFc ?_
                    clear hS
                    intro r_48 u t H1 locs ht hvm hw hB hz1 hk1 hS
                    obtain ⟨z_20, rfl⟩ : ∃ z, z = u := ⟨_, rfl⟩
                    obtain ⟨hP1, hK1, hD1⟩ := hB
                    rw [ht] at hP1
                    have hK1 := va_K.moved hvm.symm hK1
                    try dsimp only at hw
                    have hPD := va_join (wr := [(qf110, .inl (cf110, 96, .inl f110)), (qf103, .inl (cf103, 8, .inl f103)), (qf106, .inl (cf106, 8, .inl f106)), (qf108, .inl (cf108, 8, .inl f108)), (qf107, .inl (cf107, 96, .inl f107)), (qf109, .inl (cf109, 96, .inl f109)), (qf128, .inl (cf128, 31, .inl g915_4)), (qf127, .inl (cf127, 30, .inl g915_3)), (qf104, .inl (cf104, 8, .inl f104)), (qf102, .inl (cf102, 2048, .inl f102)), (qf118, .inl (cf118, 2100, .inl g915_1)), (qf119, .inl (cf119, 2100, .inl g915_2)), (qf105, .inl (cf105, 8, .inl f105)), (qf137, .inl (cf137, 6, .inl g915_5))]) (w1 := [(h0, .inr (13, z_20)), (qf111, .inl (cf111, 96, .inl f111)), (qf100, .inl (cf100, 48000, .inl f100))]) hP hD [15, 1, 16] [0, 2, 3, 4, 5, 6, 7, 8, 9, 10, 11, 12, 13, 14] rfl rfl (by decide) (by decide) hk1 hFc hP1 hD1
                    clear hP hD
                    obtain ⟨hP, hD⟩ := hPD
                    replace hK := (hK.sub (tys' := [(cf110, .int), (cf103, .int), (cf106, .int), (cf108, .int), (cf107, .int), (cf109, .int), (cf128, .int), (cf127, .int), (cf104, .int), (cf102, .int), (cf118, .int), (cf119, .int), (cf105, .int), (cf137, .int)]) [0, 2, 3, 4, 5, 6, 7, 8, 9, 10, 11, 12, 13, 14] rfl).app hK1
                    clear hPc hDc hKc hFc hP1 hK1 hD1 hz1 hk1 ht hvm
                    generalize H1 = H at hP hS ⊢
                    replace hP : va_P (dC, dI) vwCl [(qf110, .inl (cf110, 96, .inl f110)), (qf103, .inl (cf103, 8, .inl f103)), (qf106, .inl (cf106, 8, .inl f106)), (qf108, .inl (cf108, 8, .inl f108)), (qf107, .inl (cf107, 96, .inl f107)), (qf109, .inl (cf109, 96, .inl f109)), (qf128, .inl (cf128, 31, .inl g915_4)), (qf127, .inl (cf127, 30, .inl g915_3)), (qf104, .inl (cf104, 8, .inl f104)), (qf102, .inl (cf102, 2048, .inl f102)), (qf118, .inl (cf118, 2100, .inl g915_1)), (qf119, .inl (cf119, 2100, .inl g915_2)), (qf105, .inl (cf105, 8, .inl f105)), (qf137, .inl (cf137, 6, .inl g915_5)), (h0, .inr (13, z_20)), (qf111, .inl (cf111, 96, .inl f111)), (qf100, .inl (cf100, 48000, .inl f100))] H := hP
                    replace hD : va_D A [(qf110, .inl (cf110, 96, .inl f110)), (qf103, .inl (cf103, 8, .inl f103)), (qf106, .inl (cf106, 8, .inl f106)), (qf108, .inl (cf108, 8, .inl f108)), (qf107, .inl (cf107, 96, .inl f107)), (qf109, .inl (cf109, 96, .inl f109)), (qf128, .inl (cf128, 31, .inl g915_4)), (qf127, .inl (cf127, 30, .inl g915_3)), (qf104, .inl (cf104, 8, .inl f104)), (qf102, .inl (cf102, 2048, .inl f102)), (qf118, .inl (cf118, 2100, .inl g915_1)), (qf119, .inl (cf119, 2100, .inl g915_2)), (qf105, .inl (cf105, 8, .inl f105)), (qf137, .inl (cf137, 6, .inl g915_5)), (h0, .inr (13, z_20)), (qf111, .inl (cf111, 96, .inl f111)), (qf100, .inl (cf100, 48000, .inl f100))] := hD
                    replace hK : va_K (dC, dI) vwCl [(cf110, .int), (cf103, .int), (cf106, .int), (cf108, .int), (cf107, .int), (cf109, .int), (cf128, .int), (cf127, .int), (cf104, .int), (cf102, .int), (cf118, .int), (cf119, .int), (cf105, .int), (cf137, .int), (cf111, .int), (cf100, .int)] s := hK
                    obtain ⟨hwa_20, hln_20, hre_20⟩ := hw
                    have hfk_20_98 : z_20[98]? = some (.int v98) := (hre_20 98 ).trans (hfk_19_98)
                    have hfk_20_100 : z_20[100]? = some (.ref qf100) := (hre_20 100 ).trans (hfk_19_100)
                    have hfk_20_102 : z_20[102]? = some (.ref qf102) := (hre_20 102 ).trans (hfk_19_102)
                    have hfk_20_103 : z_20[103]? = some (.ref qf103) := (hre_20 103 ).trans (hfk_19_103)
                    have hfk_20_104 : z_20[104]? = some (.ref qf104) := (hre_20 104 ).trans (hfk_19_104)
                    have hfk_20_105 : z_20[105]? = some (.ref qf105) := (hre_20 105 ).trans (hfk_19_105)
                    have hfk_20_106 : z_20[106]? = some (.ref qf106) := (hre_20 106 ).trans (hfk_19_106)
                    have hfk_20_107 : z_20[107]? = some (.ref qf107) := (hre_20 107 ).trans (hfk_19_107)
                    have hfk_20_108 : z_20[108]? = some (.ref qf108) := (hre_20 108 ).trans (hfk_19_108)
                    have hfk_20_109 : z_20[109]? = some (.ref qf109) := (hre_20 109 ).trans (hfk_19_109)
                    have hfk_20_110 : z_20[110]? = some (.ref qf110) := (hre_20 110 ).trans (hfk_19_110)
                    have hfk_20_111 : z_20[111]? = some (.ref qf111) := (hre_20 111 ).trans (hfk_19_111)
                    have hfk_20_117 : z_20[117]? = some (.int u15_6) := (hre_20 117 ).trans (hfk_19_117)
                    have hfk_20_118 : z_20[118]? = some (.ref qf118) := (hre_20 118 ).trans (hfk_19_118)
                    have hfk_20_119 : z_20[119]? = some (.ref qf119) := (hre_20 119 ).trans (hfk_19_119)
                    have hfk_20_120 : z_20[120]? = some (.int u15_7) := (hre_20 120 ).trans (hfk_19_120)
                    have hfk_20_121 : z_20[121]? = some (.int u13_5) := (hre_20 121 ).trans (hfk_19_121)
                    have hfk_20_122 : z_20[122]? = some (.int x122_240) := (hre_20 122 ).trans (hfk_19_122)
                    have hfk_20_123 : z_20[123]? = some (.int x123_240) := (hre_20 123 ).trans (hfk_19_123)
                    have hfk_20_124 : z_20[124]? = some (.int x124_240) := (hre_20 124 ).trans (hfk_19_124)
                    have hfk_20_125 : z_20[125]? = some (.int x125_240) := (hre_20 125 ).trans (hfk_19_125)
                    have hfk_20_127 : z_20[127]? = some (.ref qf127) := (hre_20 127 ).trans (hfk_19_127)
                    have hfk_20_128 : z_20[128]? = some (.ref qf128) := (hre_20 128 ).trans (hfk_19_128)
                    have hfk_20_129 : z_20[129]? = some (.int v129) := (hre_20 129 ).trans (hfk_19_129)
                    have hfk_20_130 : z_20[130]? = some (.int v130) := (hre_20 130 ).trans (hfk_19_130)
                    have hfk_20_131 : z_20[131]? = some (.int u15_8) := (hre_20 131 ).trans (hfk_19_131)
                    have hfk_20_132 : z_20[132]? = some (.int v132) := (hre_20 132 ).trans (hfk_19_132)
                    have hfk_20_133 : z_20[133]? = some (.int v133) := (hre_20 133 ).trans (hfk_19_133)
                    have hfk_20_134 : z_20[134]? = some (.int v134) := (hre_20 134 ).trans (hfk_19_134)
                    have hfk_20_135 : z_20[135]? = some (.int v135) := (hre_20 135 ).trans (hfk_19_135)
                    have hfk_20_136 : z_20[136]? = some (.int x136_240) := (hre_20 136 ).trans (hfk_19_136)
                    have hfk_20_137 : z_20[137]? = some (.ref qf137) := (hre_20 137 ).trans (hfk_19_137)
                    have hrq_20 : ∀ j : Nat, j ≠ 117 → j ≠ 120 → j ≠ 121 → j ≠ 122 → j ≠ 123 → j ≠ 124 → j ≠ 125 → j ≠ 131 → j ≠ 136 → z_20[j]? = zs[j]? := fun j g117 g120 g121 g122 g123 g124 g125 g131 g136 => (hre_20 j ).trans (hrq_19 j g117 g120 g121 g122 g123 g124 g125 g131 g136)
                    obtain rfl := hwa_20
                    refine lv_istore (lv' := [(9, .int u20_0), (8, .int u17_0), (0, .ref h0), (1, .int l1_240), (2, .int l2_240), (6, .int l6_240)]) hx hb dX13_flows_326 hl (by decide) rfl (fun ls hl => ?_)
                    refine lv_iload hx hb dX13_flows_328 (lv_at hl 0 rfl) ?_
                    refine lv_iconst (v := (-1)) hx hb dX13_flows_330 (by decide) ?_
                    refine lv_icmp_eq (tgt := 352) hx hb dX13_flows_331 (by decide) (fun c_49 => ?_) (fun c_49 => ?_)
                    · rw [if_pos c_49] at hsp
                      refine lv_aload_n hx hb dX13_flows_352 rfl (lv_at hl 2 rfl) ?_
                      refine lv_bipush (v := 12) hx hb dX13_flows_353 (by decide) ?_
                      refine lv_iload_n hx hb dX13_flows_355 rfl (lv_at hl 3 rfl) ?_
                      refine lv_iload_n hx hb dX13_flows_356 rfl (lv_at hl 4 rfl) ?_
                      refine lv_iload hx hb dX13_flows_357 (lv_at hl 5 rfl) ?_
                      obtain ⟨⟨u21_0, u21_1, u21_2, u21_3, u21_4⟩, hu_21, hsp⟩ := ox_bind hsp
                      try dsimp only at hsp
                      have hPc := hP.sub (ws' := [(h0, .inr (13, z_20))]) [14] rfl
                      have hDc := hD.sub (ws' := [(h0, .inr (13, z_20))]) [14] (by decide) rfl
                      have hKc := hK.sub (tys' := []) [] rfl
                      have hFc := va_free (wc := [(h0, .inr (13, z_20))]) hD hS hA [14] rfl
                      refine va_calli (va_runV (As := [.int 12, .int l1_240, .int l2_240, .int l6_240]) (rest := []) ⟨hx, hb, hml, hown, hts⟩ (tm_bad l dC dI H.size h0 z_20 12 l1_240 l2_240 l6_240 x122_240 x123_240 x124_240 x125_240 nf u21_0 u21_1 u21_2 u21_3 u21_4 hln_20 hfk_20_122 hfk_20_123 hfk_20_124 hfk_20_125 hu_21) (cwV 4 hts gv_h9_63 rfl rfl rfl (by decide +kernel) ⟨Nat.le_of_ble_eq_true rfl, Nat.le_of_ble_eq_true rfl⟩) ⟨fun a U g mk q => by obtain ⟨q0, q1, qP, qK, qD⟩ := q; exact ⟨q0, q1, qP, va_K.moved (u := U) (U := U.calling g mk a) (Vm.Alike.refl U.vm) qK, qD⟩, va_recv hKc hPc (ci := 13) (q0 := 0) rfl rfl, fun U hU hW => ⟨rfl, by rw [hU], by rw [hU]; exact hPc, va_K.moved hW.alike hKc, hDc.weaken (fun _ _ _ _ => trivial)⟩⟩ rfl rfl hl.1 rfl (lv_room (Nat.le_of_ble_eq_true rfl)) dX13_flows_359 ⟨Nat.le_of_ble_eq_true rfl, Nat.le_of_ble_eq_true rfl⟩) hS (fun q _ h => hFc q h) hFc ?_
                      clear hS
                      intro r_50 u t H1 locs ht hvm hw hB hz1 hk1 hS
                      obtain ⟨z_21, rfl⟩ : ∃ z, z = u := ⟨_, rfl⟩
                      obtain ⟨hP1, hK1, hD1⟩ := hB
                      rw [ht] at hP1
                      have hK1 := va_K.moved hvm.symm hK1
                      try dsimp only at hw
                      have hPD := va_join (wr := [(qf110, .inl (cf110, 96, .inl f110)), (qf103, .inl (cf103, 8, .inl f103)), (qf106, .inl (cf106, 8, .inl f106)), (qf108, .inl (cf108, 8, .inl f108)), (qf107, .inl (cf107, 96, .inl f107)), (qf109, .inl (cf109, 96, .inl f109)), (qf128, .inl (cf128, 31, .inl g915_4)), (qf127, .inl (cf127, 30, .inl g915_3)), (qf104, .inl (cf104, 8, .inl f104)), (qf102, .inl (cf102, 2048, .inl f102)), (qf118, .inl (cf118, 2100, .inl g915_1)), (qf119, .inl (cf119, 2100, .inl g915_2)), (qf105, .inl (cf105, 8, .inl f105)), (qf137, .inl (cf137, 6, .inl g915_5)), (qf111, .inl (cf111, 96, .inl f111)), (qf100, .inl (cf100, 48000, .inl f100))]) (w1 := [(h0, .inr (13, z_21))]) hP hD [14] [0, 1, 2, 3, 4, 5, 6, 7, 8, 9, 10, 11, 12, 13, 15, 16] rfl rfl (by decide) (by decide) hk1 hFc hP1 hD1
                      clear hP hD
                      obtain ⟨hP, hD⟩ := hPD
                      replace hK := (hK.sub (tys' := [(cf110, .int), (cf103, .int), (cf106, .int), (cf108, .int), (cf107, .int), (cf109, .int), (cf128, .int), (cf127, .int), (cf104, .int), (cf102, .int), (cf118, .int), (cf119, .int), (cf105, .int), (cf137, .int), (cf111, .int), (cf100, .int)]) [0, 1, 2, 3, 4, 5, 6, 7, 8, 9, 10, 11, 12, 13, 14, 15] rfl).app hK1
                      clear hPc hDc hKc hFc hP1 hK1 hD1 hz1 hk1 ht hvm
                      generalize H1 = H at hP hS ⊢
                      replace hP : va_P (dC, dI) vwCl [(qf110, .inl (cf110, 96, .inl f110)), (qf103, .inl (cf103, 8, .inl f103)), (qf106, .inl (cf106, 8, .inl f106)), (qf108, .inl (cf108, 8, .inl f108)), (qf107, .inl (cf107, 96, .inl f107)), (qf109, .inl (cf109, 96, .inl f109)), (qf128, .inl (cf128, 31, .inl g915_4)), (qf127, .inl (cf127, 30, .inl g915_3)), (qf104, .inl (cf104, 8, .inl f104)), (qf102, .inl (cf102, 2048, .inl f102)), (qf118, .inl (cf118, 2100, .inl g915_1)), (qf119, .inl (cf119, 2100, .inl g915_2)), (qf105, .inl (cf105, 8, .inl f105)), (qf137, .inl (cf137, 6, .inl g915_5)), (qf111, .inl (cf111, 96, .inl f111)), (qf100, .inl (cf100, 48000, .inl f100)), (h0, .inr (13, z_21))] H := hP
                      replace hD : va_D A [(qf110, .inl (cf110, 96, .inl f110)), (qf103, .inl (cf103, 8, .inl f103)), (qf106, .inl (cf106, 8, .inl f106)), (qf108, .inl (cf108, 8, .inl f108)), (qf107, .inl (cf107, 96, .inl f107)), (qf109, .inl (cf109, 96, .inl f109)), (qf128, .inl (cf128, 31, .inl g915_4)), (qf127, .inl (cf127, 30, .inl g915_3)), (qf104, .inl (cf104, 8, .inl f104)), (qf102, .inl (cf102, 2048, .inl f102)), (qf118, .inl (cf118, 2100, .inl g915_1)), (qf119, .inl (cf119, 2100, .inl g915_2)), (qf105, .inl (cf105, 8, .inl f105)), (qf137, .inl (cf137, 6, .inl g915_5)), (qf111, .inl (cf111, 96, .inl f111)), (qf100, .inl (cf100, 48000, .inl f100)), (h0, .inr (13, z_21))] := hD
                      replace hK : va_K (dC, dI) vwCl [(cf110, .int), (cf103, .int), (cf106, .int), (cf108, .int), (cf107, .int), (cf109, .int), (cf128, .int), (cf127, .int), (cf104, .int), (cf102, .int), (cf118, .int), (cf119, .int), (cf105, .int), (cf137, .int), (cf111, .int), (cf100, .int)] s := hK
                      obtain ⟨hwa_21, hln_21, hre_21, hch_21_122, hch_21_123, hch_21_124, hch_21_125⟩ := hw
                      have hfk_21_98 : z_21[98]? = some (.int v98) := (hre_21 98 (by decide) (by decide) (by decide) (by decide)).trans (hfk_20_98)
                      have hfk_21_100 : z_21[100]? = some (.ref qf100) := (hre_21 100 (by decide) (by decide) (by decide) (by decide)).trans (hfk_20_100)
                      have hfk_21_102 : z_21[102]? = some (.ref qf102) := (hre_21 102 (by decide) (by decide) (by decide) (by decide)).trans (hfk_20_102)
                      have hfk_21_103 : z_21[103]? = some (.ref qf103) := (hre_21 103 (by decide) (by decide) (by decide) (by decide)).trans (hfk_20_103)
                      have hfk_21_104 : z_21[104]? = some (.ref qf104) := (hre_21 104 (by decide) (by decide) (by decide) (by decide)).trans (hfk_20_104)
                      have hfk_21_105 : z_21[105]? = some (.ref qf105) := (hre_21 105 (by decide) (by decide) (by decide) (by decide)).trans (hfk_20_105)
                      have hfk_21_106 : z_21[106]? = some (.ref qf106) := (hre_21 106 (by decide) (by decide) (by decide) (by decide)).trans (hfk_20_106)
                      have hfk_21_107 : z_21[107]? = some (.ref qf107) := (hre_21 107 (by decide) (by decide) (by decide) (by decide)).trans (hfk_20_107)
                      have hfk_21_108 : z_21[108]? = some (.ref qf108) := (hre_21 108 (by decide) (by decide) (by decide) (by decide)).trans (hfk_20_108)
                      have hfk_21_109 : z_21[109]? = some (.ref qf109) := (hre_21 109 (by decide) (by decide) (by decide) (by decide)).trans (hfk_20_109)
                      have hfk_21_110 : z_21[110]? = some (.ref qf110) := (hre_21 110 (by decide) (by decide) (by decide) (by decide)).trans (hfk_20_110)
                      have hfk_21_111 : z_21[111]? = some (.ref qf111) := (hre_21 111 (by decide) (by decide) (by decide) (by decide)).trans (hfk_20_111)
                      have hfk_21_117 : z_21[117]? = some (.int u15_6) := (hre_21 117 (by decide) (by decide) (by decide) (by decide)).trans (hfk_20_117)
                      have hfk_21_118 : z_21[118]? = some (.ref qf118) := (hre_21 118 (by decide) (by decide) (by decide) (by decide)).trans (hfk_20_118)
                      have hfk_21_119 : z_21[119]? = some (.ref qf119) := (hre_21 119 (by decide) (by decide) (by decide) (by decide)).trans (hfk_20_119)
                      have hfk_21_120 : z_21[120]? = some (.int u15_7) := (hre_21 120 (by decide) (by decide) (by decide) (by decide)).trans (hfk_20_120)
                      have hfk_21_121 : z_21[121]? = some (.int u13_5) := (hre_21 121 (by decide) (by decide) (by decide) (by decide)).trans (hfk_20_121)
                      have hfk_21_127 : z_21[127]? = some (.ref qf127) := (hre_21 127 (by decide) (by decide) (by decide) (by decide)).trans (hfk_20_127)
                      have hfk_21_128 : z_21[128]? = some (.ref qf128) := (hre_21 128 (by decide) (by decide) (by decide) (by decide)).trans (hfk_20_128)
                      have hfk_21_129 : z_21[129]? = some (.int v129) := (hre_21 129 (by decide) (by decide) (by decide) (by decide)).trans (hfk_20_129)
                      have hfk_21_130 : z_21[130]? = some (.int v130) := (hre_21 130 (by decide) (by decide) (by decide) (by decide)).trans (hfk_20_130)
                      have hfk_21_131 : z_21[131]? = some (.int u15_8) := (hre_21 131 (by decide) (by decide) (by decide) (by decide)).trans (hfk_20_131)
                      have hfk_21_132 : z_21[132]? = some (.int v132) := (hre_21 132 (by decide) (by decide) (by decide) (by decide)).trans (hfk_20_132)
                      have hfk_21_133 : z_21[133]? = some (.int v133) := (hre_21 133 (by decide) (by decide) (by decide) (by decide)).trans (hfk_20_133)
                      have hfk_21_134 : z_21[134]? = some (.int v134) := (hre_21 134 (by decide) (by decide) (by decide) (by decide)).trans (hfk_20_134)
                      have hfk_21_135 : z_21[135]? = some (.int v135) := (hre_21 135 (by decide) (by decide) (by decide) (by decide)).trans (hfk_20_135)
                      have hfk_21_136 : z_21[136]? = some (.int x136_240) := (hre_21 136 (by decide) (by decide) (by decide) (by decide)).trans (hfk_20_136)
                      have hfk_21_137 : z_21[137]? = some (.ref qf137) := (hre_21 137 (by decide) (by decide) (by decide) (by decide)).trans (hfk_20_137)
                      have hrq_21 : ∀ j : Nat, j ≠ 117 → j ≠ 120 → j ≠ 121 → j ≠ 122 → j ≠ 123 → j ≠ 124 → j ≠ 125 → j ≠ 131 → j ≠ 136 → z_21[j]? = zs[j]? := fun j g117 g120 g121 g122 g123 g124 g125 g131 g136 => (hre_21 j g122 g123 g124 g125).trans (hrq_20 j g117 g120 g121 g122 g123 g124 g125 g131 g136)
                      obtain ⟨rfl, hz_21⟩ := hwa_21
                      rcases hz_21 with rfl | rfl
                      · rw [if_pos rfl] at hsp
                        have hr0 := Option.some.inj hsp
                        clear hsp
                        obtain ⟨hq0, hr1⟩ := Prod.mk.inj hr0
                        clear hr0
                        obtain ⟨hq1, hr2⟩ := Prod.mk.inj hr1
                        clear hr1
                        obtain ⟨hq2, hr3⟩ := Prod.mk.inj hr2
                        clear hr2
                        obtain ⟨hq3, hr4⟩ := Prod.mk.inj hr3
                        clear hr3
                        obtain ⟨hq4, hr5⟩ := Prod.mk.inj hr4
                        clear hr4
                        obtain ⟨hq5, hr6⟩ := Prod.mk.inj hr5
                        clear hr5
                        obtain ⟨hq6, hr7⟩ := Prod.mk.inj hr6
                        clear hr6
                        obtain ⟨hq7, hr8⟩ := Prod.mk.inj hr7
                        clear hr7
                        obtain ⟨hq8, hr9⟩ := Prod.mk.inj hr8
                        clear hr8
                        obtain ⟨hq9, hr10⟩ := Prod.mk.inj hr9
                        clear hr9
                        obtain ⟨hq10, hr11⟩ := Prod.mk.inj hr10
                        clear hr10
                        obtain ⟨hq11, hr12⟩ := Prod.mk.inj hr11
                        clear hr11
                        obtain ⟨hq12, hr13⟩ := Prod.mk.inj hr12
                        clear hr12
                        obtain ⟨hq13, hr14⟩ := Prod.mk.inj hr13
                        clear hr13
                        subst hq0
                        subst hq1
                        subst hq2
                        subst hq3
                        subst hq4
                        subst hq5
                        subst hq6
                        subst hq7
                        subst hq8
                        subst hq9
                        subst hq10
                        subst hq11
                        subst hq12
                        subst hq13
                        subst hr14
                        have hP9 := hP.sub (ws' := [(h0, .inr (13, z_21)), (qf109, .inl (cf109, 96, .inl f109)), (qf100, .inl (cf100, 48000, .inl f100)), (qf127, .inl (cf127, 30, .inl g915_3)), (qf107, .inl (cf107, 96, .inl f107)), (qf102, .inl (cf102, 2048, .inl f102)), (qf111, .inl (cf111, 96, .inl f111)), (qf104, .inl (cf104, 8, .inl f104)), (qf118, .inl (cf118, 2100, .inl g915_1)), (qf119, .inl (cf119, 2100, .inl g915_2)), (qf105, .inl (cf105, 8, .inl f105)), (qf128, .inl (cf128, 31, .inl g915_4)), (qf110, .inl (cf110, 96, .inl f110)), (qf103, .inl (cf103, 8, .inl f103)), (qf106, .inl (cf106, 8, .inl f106)), (qf108, .inl (cf108, 8, .inl f108)), (qf137, .inl (cf137, 6, .inl g915_5))]) [16, 5, 15, 7, 4, 9, 14, 8, 10, 11, 12, 6, 0, 1, 2, 3, 13] rfl
                        have hD9 := hD.sub (ws' := [(h0, .inr (13, z_21)), (qf109, .inl (cf109, 96, .inl f109)), (qf100, .inl (cf100, 48000, .inl f100)), (qf127, .inl (cf127, 30, .inl g915_3)), (qf107, .inl (cf107, 96, .inl f107)), (qf102, .inl (cf102, 2048, .inl f102)), (qf111, .inl (cf111, 96, .inl f111)), (qf104, .inl (cf104, 8, .inl f104)), (qf118, .inl (cf118, 2100, .inl g915_1)), (qf119, .inl (cf119, 2100, .inl g915_2)), (qf105, .inl (cf105, 8, .inl f105)), (qf128, .inl (cf128, 31, .inl g915_4)), (qf110, .inl (cf110, 96, .inl f110)), (qf103, .inl (cf103, 8, .inl f103)), (qf106, .inl (cf106, 8, .inl f106)), (qf108, .inl (cf108, 8, .inl f108)), (qf137, .inl (cf137, 6, .inl g915_5))]) [16, 5, 15, 7, 4, 9, 14, 8, 10, 11, 12, 6, 0, 1, 2, 3, 13] (by decide) rfl
                        have hK9 := hK.sub (tys' := [(cf109, .int), (cf100, .int), (cf127, .int), (cf107, .int), (cf102, .int), (cf111, .int), (cf104, .int), (cf118, .int), (cf119, .int), (cf105, .int), (cf128, .int), (cf110, .int), (cf103, .int), (cf106, .int), (cf108, .int), (cf137, .int)]) [5, 15, 7, 4, 9, 14, 8, 10, 11, 12, 6, 0, 1, 2, 3, 13] rfl
                        exact W.zret hx hb hr (by decide) (fun t ht hW => ⟨⟨(0), (z_21), rfl, ⟨⟨rfl, Or.inl rfl⟩, hln_21, hrq_21, hfk_21_117, hfk_21_120, hfk_21_121, hch_21_122, hch_21_123, hch_21_124, hch_21_125, hfk_21_131, hfk_21_136⟩, by rw [ht]; exact hP9, va_K.moved hW.alike hK9, hD9⟩, hS.F ht⟩) hS.2.2 dX13_flows_362
                      · rw [if_neg (by decide)] at hsp
                        have hr0 := Option.some.inj hsp
                        clear hsp
                        obtain ⟨hq0, hr1⟩ := Prod.mk.inj hr0
                        clear hr0
                        obtain ⟨hq1, hr2⟩ := Prod.mk.inj hr1
                        clear hr1
                        obtain ⟨hq2, hr3⟩ := Prod.mk.inj hr2
                        clear hr2
                        obtain ⟨hq3, hr4⟩ := Prod.mk.inj hr3
                        clear hr3
                        obtain ⟨hq4, hr5⟩ := Prod.mk.inj hr4
                        clear hr4
                        obtain ⟨hq5, hr6⟩ := Prod.mk.inj hr5
                        clear hr5
                        obtain ⟨hq6, hr7⟩ := Prod.mk.inj hr6
                        clear hr6
                        obtain ⟨hq7, hr8⟩ := Prod.mk.inj hr7
                        clear hr7
                        obtain ⟨hq8, hr9⟩ := Prod.mk.inj hr8
                        clear hr8
                        obtain ⟨hq9, hr10⟩ := Prod.mk.inj hr9
                        clear hr9
                        obtain ⟨hq10, hr11⟩ := Prod.mk.inj hr10
                        clear hr10
                        obtain ⟨hq11, hr12⟩ := Prod.mk.inj hr11
                        clear hr11
                        obtain ⟨hq12, hr13⟩ := Prod.mk.inj hr12
                        clear hr12
                        obtain ⟨hq13, hr14⟩ := Prod.mk.inj hr13
                        clear hr13
                        subst hq0
                        subst hq1
                        subst hq2
                        subst hq3
                        subst hq4
                        subst hq5
                        subst hq6
                        subst hq7
                        subst hq8
                        subst hq9
                        subst hq10
                        subst hq11
                        subst hq12
                        subst hq13
                        subst hr14
                        have hP9 := hP.sub (ws' := [(h0, .inr (13, z_21)), (qf109, .inl (cf109, 96, .inl f109)), (qf100, .inl (cf100, 48000, .inl f100)), (qf127, .inl (cf127, 30, .inl g915_3)), (qf107, .inl (cf107, 96, .inl f107)), (qf102, .inl (cf102, 2048, .inl f102)), (qf111, .inl (cf111, 96, .inl f111)), (qf104, .inl (cf104, 8, .inl f104)), (qf118, .inl (cf118, 2100, .inl g915_1)), (qf119, .inl (cf119, 2100, .inl g915_2)), (qf105, .inl (cf105, 8, .inl f105)), (qf128, .inl (cf128, 31, .inl g915_4)), (qf110, .inl (cf110, 96, .inl f110)), (qf103, .inl (cf103, 8, .inl f103)), (qf106, .inl (cf106, 8, .inl f106)), (qf108, .inl (cf108, 8, .inl f108)), (qf137, .inl (cf137, 6, .inl g915_5))]) [16, 5, 15, 7, 4, 9, 14, 8, 10, 11, 12, 6, 0, 1, 2, 3, 13] rfl
                        have hD9 := hD.sub (ws' := [(h0, .inr (13, z_21)), (qf109, .inl (cf109, 96, .inl f109)), (qf100, .inl (cf100, 48000, .inl f100)), (qf127, .inl (cf127, 30, .inl g915_3)), (qf107, .inl (cf107, 96, .inl f107)), (qf102, .inl (cf102, 2048, .inl f102)), (qf111, .inl (cf111, 96, .inl f111)), (qf104, .inl (cf104, 8, .inl f104)), (qf118, .inl (cf118, 2100, .inl g915_1)), (qf119, .inl (cf119, 2100, .inl g915_2)), (qf105, .inl (cf105, 8, .inl f105)), (qf128, .inl (cf128, 31, .inl g915_4)), (qf110, .inl (cf110, 96, .inl f110)), (qf103, .inl (cf103, 8, .inl f103)), (qf106, .inl (cf106, 8, .inl f106)), (qf108, .inl (cf108, 8, .inl f108)), (qf137, .inl (cf137, 6, .inl g915_5))]) [16, 5, 15, 7, 4, 9, 14, 8, 10, 11, 12, 6, 0, 1, 2, 3, 13] (by decide) rfl
                        have hK9 := hK.sub (tys' := [(cf109, .int), (cf100, .int), (cf127, .int), (cf107, .int), (cf102, .int), (cf111, .int), (cf104, .int), (cf118, .int), (cf119, .int), (cf105, .int), (cf128, .int), (cf110, .int), (cf103, .int), (cf106, .int), (cf108, .int), (cf137, .int)]) [5, 15, 7, 4, 9, 14, 8, 10, 11, 12, 6, 0, 1, 2, 3, 13] rfl
                        exact W.zret hx hb hr (by decide) (fun t ht hW => ⟨⟨(1), (z_21), rfl, ⟨⟨rfl, Or.inr rfl⟩, hln_21, hrq_21, hfk_21_117, hfk_21_120, hfk_21_121, hch_21_122, hch_21_123, hch_21_124, hch_21_125, hfk_21_131, hfk_21_136⟩, by rw [ht]; exact hP9, va_K.moved hW.alike hK9, hD9⟩, hS.F ht⟩) hS.2.2 dX13_flows_362
                    · rw [if_neg c_49] at hsp
                      refine lv_aload_n hx hb dX13_flows_334 rfl (lv_at hl 2 rfl) ?_
                      refine lv_iload hx hb dX13_flows_335 (lv_at hl 0 rfl) ?_
                      obtain ⟨⟨u22_0, g922_1, g922_2, u22_3, u22_4⟩, hu_22, hsp⟩ := ox_bind hsp
                      try dsimp only at hsp
                      have hPc := hP.sub (ws' := [(h0, .inr (13, z_20)), (qf100, .inl (cf100, 48000, .inl f100)), (qf127, .inl (cf127, 30, .inl g915_3)), (qf102, .inl (cf102, 2048, .inl f102)), (qf104, .inl (cf104, 8, .inl f104)), (qf118, .inl (cf118, 2100, .inl g915_1)), (qf119, .inl (cf119, 2100, .inl g915_2)), (qf105, .inl (cf105, 8, .inl f105))]) [14, 16, 7, 9, 8, 10, 11, 12] rfl
                      have hDc := hD.sub (ws' := [(h0, .inr (13, z_20)), (qf100, .inl (cf100, 48000, .inl f100)), (qf127, .inl (cf127, 30, .inl g915_3)), (qf102, .inl (cf102, 2048, .inl f102)), (qf104, .inl (cf104, 8, .inl f104)), (qf118, .inl (cf118, 2100, .inl g915_1)), (qf119, .inl (cf119, 2100, .inl g915_2)), (qf105, .inl (cf105, 8, .inl f105))]) [14, 16, 7, 9, 8, 10, 11, 12] (by decide) rfl
                      have hKc := hK.sub (tys' := [(cf100, .int), (cf127, .int), (cf102, .int), (cf104, .int), (cf118, .int), (cf119, .int), (cf105, .int)]) [15, 7, 9, 8, 10, 11, 12] rfl
                      have hFc := va_free (wc := [(h0, .inr (13, z_20)), (qf100, .inl (cf100, 48000, .inl f100)), (qf127, .inl (cf127, 30, .inl g915_3)), (qf102, .inl (cf102, 2048, .inl f102)), (qf104, .inl (cf104, 8, .inl f104)), (qf118, .inl (cf118, 2100, .inl g915_1)), (qf119, .inl (cf119, 2100, .inl g915_2)), (qf105, .inl (cf105, 8, .inl f105))]) hD hS hA [14, 16, 7, 9, 8, 10, 11, 12] rfl
                      refine va_calli (va_runV (As := [.int u20_0]) (rest := []) ⟨hx, hb, hml, hown, hts⟩ (vm_localsFit l dC dI H.size h0 z_20 u20_0 v98 qf100 qf102 qf104 qf105 u15_6 qf118 qf119 u15_7 qf127 v132 cf100 f100 cf127 g915_3 cf102 f102 cf104 f104 cf118 g915_1 cf119 g915_2 cf105 f105 nS477 fS477 hS477 qS477 tS477 nf u22_0 g922_1 g922_2 u22_3 u22_4 hln_20 hfk_20_98 hfk_20_100 hfk_20_102 hfk_20_104 hfk_20_105 hfk_20_117 hfk_20_118 hfk_20_119 hfk_20_120 hfk_20_127 hfk_20_132 hu_22) (cwV 1 hts gv_h9_115 rfl rfl rfl (by decide +kernel) ⟨Nat.le_of_ble_eq_true rfl, Nat.le_of_ble_eq_true rfl⟩) ⟨fun a U g mk q => by obtain ⟨q0, q1, qP, qK, qD, qhZWS477, qhZRS477⟩ := q; exact ⟨q0, q1, qP, va_K.moved (u := U) (U := U.calling g mk a) (Vm.Alike.refl U.vm) qK, qD, pz_W.moved (u := U) (U := U.calling g mk a) (Vm.Alike.refl U.vm) qhZWS477, vk_R.same rfl qhZRS477⟩, va_recv hKc hPc (ci := 13) (q0 := 0) rfl rfl, fun U hU hW => ⟨rfl, by rw [hU], by rw [hU]; exact hPc, va_K.moved hW.alike hKc, hDc.weaken (fun _ _ _ _ => trivial), by rw [hU]; exact ((pz_W.moved hW.alike hZWS477).kept hS.2.1).narrow hFc, vk_R.warm hW hZRS477⟩⟩ rfl rfl hl.1 rfl (lv_room (Nat.le_of_ble_eq_true rfl)) dX13_flows_337 ⟨Nat.le_of_ble_eq_true rfl, Nat.le_of_ble_eq_true rfl⟩) hS (fun q _ h => hFc q h) hFc ?_
                      clear hS
                      intro r_51 u t H1 locs ht hvm hw hB hz1 hk1 hS
                      obtain ⟨z_22, rfl⟩ : ∃ z, z = u := ⟨_, rfl⟩
                      obtain ⟨hP1, hK1, hD1⟩ := hB
                      rw [ht] at hP1
                      have hK1 := va_K.moved hvm.symm hK1
                      try dsimp only at hw
                      have hPD := va_join (wr := [(qf110, .inl (cf110, 96, .inl f110)), (qf103, .inl (cf103, 8, .inl f103)), (qf106, .inl (cf106, 8, .inl f106)), (qf108, .inl (cf108, 8, .inl f108)), (qf107, .inl (cf107, 96, .inl f107)), (qf109, .inl (cf109, 96, .inl f109)), (qf128, .inl (cf128, 31, .inl g915_4)), (qf137, .inl (cf137, 6, .inl g915_5)), (qf111, .inl (cf111, 96, .inl f111))]) (w1 := [(h0, .inr (13, z_22)), (qf100, .inl (cf100, 48000, .inl f100)), (qf127, .inl (cf127, 30, .inl g915_3)), (qf102, .inl (cf102, 2048, .inl f102)), (qf104, .inl (cf104, 8, .inl f104)), (qf118, .inl (cf118, 2100, .inl g922_1)), (qf119, .inl (cf119, 2100, .inl g922_2)), (qf105, .inl (cf105, 8, .inl f105))]) hP hD [14, 16, 7, 9, 8, 10, 11, 12] [0, 1, 2, 3, 4, 5, 6, 13, 15] rfl rfl (by decide) (by decide) hk1 hFc hP1 hD1
                      clear hP hD
                      obtain ⟨hP, hD⟩ := hPD
                      replace hK := (hK.sub (tys' := [(cf110, .int), (cf103, .int), (cf106, .int), (cf108, .int), (cf107, .int), (cf109, .int), (cf128, .int), (cf137, .int), (cf111, .int)]) [0, 1, 2, 3, 4, 5, 6, 13, 14] rfl).app hK1
                      clear hPc hDc hKc hFc hP1 hK1 hD1 hz1 hk1 ht hvm
                      generalize H1 = H at hP hS ⊢
                      replace hP : va_P (dC, dI) vwCl [(qf110, .inl (cf110, 96, .inl f110)), (qf103, .inl (cf103, 8, .inl f103)), (qf106, .inl (cf106, 8, .inl f106)), (qf108, .inl (cf108, 8, .inl f108)), (qf107, .inl (cf107, 96, .inl f107)), (qf109, .inl (cf109, 96, .inl f109)), (qf128, .inl (cf128, 31, .inl g915_4)), (qf137, .inl (cf137, 6, .inl g915_5)), (qf111, .inl (cf111, 96, .inl f111)), (h0, .inr (13, z_22)), (qf100, .inl (cf100, 48000, .inl f100)), (qf127, .inl (cf127, 30, .inl g915_3)), (qf102, .inl (cf102, 2048, .inl f102)), (qf104, .inl (cf104, 8, .inl f104)), (qf118, .inl (cf118, 2100, .inl g922_1)), (qf119, .inl (cf119, 2100, .inl g922_2)), (qf105, .inl (cf105, 8, .inl f105))] H := hP
                      replace hD : va_D A [(qf110, .inl (cf110, 96, .inl f110)), (qf103, .inl (cf103, 8, .inl f103)), (qf106, .inl (cf106, 8, .inl f106)), (qf108, .inl (cf108, 8, .inl f108)), (qf107, .inl (cf107, 96, .inl f107)), (qf109, .inl (cf109, 96, .inl f109)), (qf128, .inl (cf128, 31, .inl g915_4)), (qf137, .inl (cf137, 6, .inl g915_5)), (qf111, .inl (cf111, 96, .inl f111)), (h0, .inr (13, z_22)), (qf100, .inl (cf100, 48000, .inl f100)), (qf127, .inl (cf127, 30, .inl g915_3)), (qf102, .inl (cf102, 2048, .inl f102)), (qf104, .inl (cf104, 8, .inl f104)), (qf118, .inl (cf118, 2100, .inl g922_1)), (qf119, .inl (cf119, 2100, .inl g922_2)), (qf105, .inl (cf105, 8, .inl f105))] := hD
                      replace hK : va_K (dC, dI) vwCl [(cf110, .int), (cf103, .int), (cf106, .int), (cf108, .int), (cf107, .int), (cf109, .int), (cf128, .int), (cf137, .int), (cf111, .int), (cf100, .int), (cf127, .int), (cf102, .int), (cf104, .int), (cf118, .int), (cf119, .int), (cf105, .int)] s := hK
                      obtain ⟨hwa_22, hln_22, hre_22, hch_22_117, hch_22_120⟩ := hw
                      have hfk_22_98 : z_22[98]? = some (.int v98) := (hre_22 98 (by decide) (by decide)).trans (hfk_20_98)
                      have hfk_22_100 : z_22[100]? = some (.ref qf100) := (hre_22 100 (by decide) (by decide)).trans (hfk_20_100)
                      have hfk_22_102 : z_22[102]? = some (.ref qf102) := (hre_22 102 (by decide) (by decide)).trans (hfk_20_102)
                      have hfk_22_103 : z_22[103]? = some (.ref qf103) := (hre_22 103 (by decide) (by decide)).trans (hfk_20_103)
                      have hfk_22_104 : z_22[104]? = some (.ref qf104) := (hre_22 104 (by decide) (by decide)).trans (hfk_20_104)
                      have hfk_22_105 : z_22[105]? = some (.ref qf105) := (hre_22 105 (by decide) (by decide)).trans (hfk_20_105)
                      have hfk_22_106 : z_22[106]? = some (.ref qf106) := (hre_22 106 (by decide) (by decide)).trans (hfk_20_106)
                      have hfk_22_107 : z_22[107]? = some (.ref qf107) := (hre_22 107 (by decide) (by decide)).trans (hfk_20_107)
                      have hfk_22_108 : z_22[108]? = some (.ref qf108) := (hre_22 108 (by decide) (by decide)).trans (hfk_20_108)
                      have hfk_22_109 : z_22[109]? = some (.ref qf109) := (hre_22 109 (by decide) (by decide)).trans (hfk_20_109)
                      have hfk_22_110 : z_22[110]? = some (.ref qf110) := (hre_22 110 (by decide) (by decide)).trans (hfk_20_110)
                      have hfk_22_111 : z_22[111]? = some (.ref qf111) := (hre_22 111 (by decide) (by decide)).trans (hfk_20_111)
                      have hfk_22_118 : z_22[118]? = some (.ref qf118) := (hre_22 118 (by decide) (by decide)).trans (hfk_20_118)
                      have hfk_22_119 : z_22[119]? = some (.ref qf119) := (hre_22 119 (by decide) (by decide)).trans (hfk_20_119)
                      have hfk_22_121 : z_22[121]? = some (.int u13_5) := (hre_22 121 (by decide) (by decide)).trans (hfk_20_121)
                      have hfk_22_122 : z_22[122]? = some (.int x122_240) := (hre_22 122 (by decide) (by decide)).trans (hfk_20_122)
                      have hfk_22_123 : z_22[123]? = some (.int x123_240) := (hre_22 123 (by decide) (by decide)).trans (hfk_20_123)
                      have hfk_22_124 : z_22[124]? = some (.int x124_240) := (hre_22 124 (by decide) (by decide)).trans (hfk_20_124)
                      have hfk_22_125 : z_22[125]? = some (.int x125_240) := (hre_22 125 (by decide) (by decide)).trans (hfk_20_125)
                      have hfk_22_127 : z_22[127]? = some (.ref qf127) := (hre_22 127 (by decide) (by decide)).trans (hfk_20_127)
                      have hfk_22_128 : z_22[128]? = some (.ref qf128) := (hre_22 128 (by decide) (by decide)).trans (hfk_20_128)
                      have hfk_22_129 : z_22[129]? = some (.int v129) := (hre_22 129 (by decide) (by decide)).trans (hfk_20_129)
                      have hfk_22_130 : z_22[130]? = some (.int v130) := (hre_22 130 (by decide) (by decide)).trans (hfk_20_130)
                      have hfk_22_131 : z_22[131]? = some (.int u15_8) := (hre_22 131 (by decide) (by decide)).trans (hfk_20_131)
                      have hfk_22_132 : z_22[132]? = some (.int v132) := (hre_22 132 (by decide) (by decide)).trans (hfk_20_132)
                      have hfk_22_133 : z_22[133]? = some (.int v133) := (hre_22 133 (by decide) (by decide)).trans (hfk_20_133)
                      have hfk_22_134 : z_22[134]? = some (.int v134) := (hre_22 134 (by decide) (by decide)).trans (hfk_20_134)
                      have hfk_22_135 : z_22[135]? = some (.int v135) := (hre_22 135 (by decide) (by decide)).trans (hfk_20_135)
                      have hfk_22_136 : z_22[136]? = some (.int x136_240) := (hre_22 136 (by decide) (by decide)).trans (hfk_20_136)
                      have hfk_22_137 : z_22[137]? = some (.ref qf137) := (hre_22 137 (by decide) (by decide)).trans (hfk_20_137)
                      have hrq_22 : ∀ j : Nat, j ≠ 117 → j ≠ 120 → j ≠ 121 → j ≠ 122 → j ≠ 123 → j ≠ 124 → j ≠ 125 → j ≠ 131 → j ≠ 136 → z_22[j]? = zs[j]? := fun j g117 g120 g121 g122 g123 g124 g125 g131 g136 => (hre_22 j g117 g120).trans (hrq_20 j g117 g120 g121 g122 g123 g124 g125 g131 g136)
                      obtain ⟨rfl, hz_22⟩ := hwa_22
                      rcases hz_22 with rfl | rfl
                      · rw [if_pos rfl] at hsp
                        refine lv_if_eq (tgt := 352) hx hb dX13_flows_340 (by decide) (fun c_52 => ?_) (fun c_52 => (show False by revert c_52; decide).elim)
                        refine lv_aload_n hx hb dX13_flows_352 rfl (lv_at hl 2 rfl) ?_
                        refine lv_bipush (v := 12) hx hb dX13_flows_353 (by decide) ?_
                        refine lv_iload_n hx hb dX13_flows_355 rfl (lv_at hl 3 rfl) ?_
                        refine lv_iload_n hx hb dX13_flows_356 rfl (lv_at hl 4 rfl) ?_
                        refine lv_iload hx hb dX13_flows_357 (lv_at hl 5 rfl) ?_
                        obtain ⟨⟨u23_0, u23_1, u23_2, u23_3, u23_4⟩, hu_23, hsp⟩ := ox_bind hsp
                        try dsimp only at hsp
                        have hPc := hP.sub (ws' := [(h0, .inr (13, z_22))]) [9] rfl
                        have hDc := hD.sub (ws' := [(h0, .inr (13, z_22))]) [9] (by decide) rfl
                        have hKc := hK.sub (tys' := []) [] rfl
                        have hFc := va_free (wc := [(h0, .inr (13, z_22))]) hD hS hA [9] rfl
                        refine va_calli (va_runV (As := [.int 12, .int l1_240, .int l2_240, .int l6_240]) (rest := []) ⟨hx, hb, hml, hown, hts⟩ (tm_bad l dC dI H.size h0 z_22 12 l1_240 l2_240 l6_240 x122_240 x123_240 x124_240 x125_240 nf u23_0 u23_1 u23_2 u23_3 u23_4 hln_22 hfk_22_122 hfk_22_123 hfk_22_124 hfk_22_125 hu_23) (cwV 4 hts gv_h9_63 rfl rfl rfl (by decide +kernel) ⟨Nat.le_of_ble_eq_true rfl, Nat.le_of_ble_eq_true rfl⟩) ⟨fun a U g mk q => by obtain ⟨q0, q1, qP, qK, qD⟩ := q; exact ⟨q0, q1, qP, va_K.moved (u := U) (U := U.calling g mk a) (Vm.Alike.refl U.vm) qK, qD⟩, va_recv hKc hPc (ci := 13) (q0 := 0) rfl rfl, fun U hU hW => ⟨rfl, by rw [hU], by rw [hU]; exact hPc, va_K.moved hW.alike hKc, hDc.weaken (fun _ _ _ _ => trivial)⟩⟩ rfl rfl hl.1 rfl (lv_room (Nat.le_of_ble_eq_true rfl)) dX13_flows_359 ⟨Nat.le_of_ble_eq_true rfl, Nat.le_of_ble_eq_true rfl⟩) hS (fun q _ h => hFc q h) hFc ?_
                        clear hS
                        intro r_53 u t H1 locs ht hvm hw hB hz1 hk1 hS
                        obtain ⟨z_23, rfl⟩ : ∃ z, z = u := ⟨_, rfl⟩
                        obtain ⟨hP1, hK1, hD1⟩ := hB
                        rw [ht] at hP1
                        have hK1 := va_K.moved hvm.symm hK1
                        try dsimp only at hw
                        have hPD := va_join (wr := [(qf110, .inl (cf110, 96, .inl f110)), (qf103, .inl (cf103, 8, .inl f103)), (qf106, .inl (cf106, 8, .inl f106)), (qf108, .inl (cf108, 8, .inl f108)), (qf107, .inl (cf107, 96, .inl f107)), (qf109, .inl (cf109, 96, .inl f109)), (qf128, .inl (cf128, 31, .inl g915_4)), (qf137, .inl (cf137, 6, .inl g915_5)), (qf111, .inl (cf111, 96, .inl f111)), (qf100, .inl (cf100, 48000, .inl f100)), (qf127, .inl (cf127, 30, .inl g915_3)), (qf102, .inl (cf102, 2048, .inl f102)), (qf104, .inl (cf104, 8, .inl f104)), (qf118, .inl (cf118, 2100, .inl g922_1)), (qf119, .inl (cf119, 2100, .inl g922_2)), (qf105, .inl (cf105, 8, .inl f105))]) (w1 := [(h0, .inr (13, z_23))]) hP hD [9] [0, 1, 2, 3, 4, 5, 6, 7, 8, 10, 11, 12, 13, 14, 15, 16] rfl rfl (by decide) (by decide) hk1 hFc hP1 hD1
                        clear hP hD
                        obtain ⟨hP, hD⟩ := hPD
                        replace hK := (hK.sub (tys' := [(cf110, .int), (cf103, .int), (cf106, .int), (cf108, .int), (cf107, .int), (cf109, .int), (cf128, .int), (cf137, .int), (cf111, .int), (cf100, .int), (cf127, .int), (cf102, .int), (cf104, .int), (cf118, .int), (cf119, .int), (cf105, .int)]) [0, 1, 2, 3, 4, 5, 6, 7, 8, 9, 10, 11, 12, 13, 14, 15] rfl).app hK1
                        clear hPc hDc hKc hFc hP1 hK1 hD1 hz1 hk1 ht hvm
                        generalize H1 = H at hP hS ⊢
                        replace hP : va_P (dC, dI) vwCl [(qf110, .inl (cf110, 96, .inl f110)), (qf103, .inl (cf103, 8, .inl f103)), (qf106, .inl (cf106, 8, .inl f106)), (qf108, .inl (cf108, 8, .inl f108)), (qf107, .inl (cf107, 96, .inl f107)), (qf109, .inl (cf109, 96, .inl f109)), (qf128, .inl (cf128, 31, .inl g915_4)), (qf137, .inl (cf137, 6, .inl g915_5)), (qf111, .inl (cf111, 96, .inl f111)), (qf100, .inl (cf100, 48000, .inl f100)), (qf127, .inl (cf127, 30, .inl g915_3)), (qf102, .inl (cf102, 2048, .inl f102)), (qf104, .inl (cf104, 8, .inl f104)), (qf118, .inl (cf118, 2100, .inl g922_1)), (qf119, .inl (cf119, 2100, .inl g922_2)), (qf105, .inl (cf105, 8, .inl f105)), (h0, .inr (13, z_23))] H := hP
                        replace hD : va_D A [(qf110, .inl (cf110, 96, .inl f110)), (qf103, .inl (cf103, 8, .inl f103)), (qf106, .inl (cf106, 8, .inl f106)), (qf108, .inl (cf108, 8, .inl f108)), (qf107, .inl (cf107, 96, .inl f107)), (qf109, .inl (cf109, 96, .inl f109)), (qf128, .inl (cf128, 31, .inl g915_4)), (qf137, .inl (cf137, 6, .inl g915_5)), (qf111, .inl (cf111, 96, .inl f111)), (qf100, .inl (cf100, 48000, .inl f100)), (qf127, .inl (cf127, 30, .inl g915_3)), (qf102, .inl (cf102, 2048, .inl f102)), (qf104, .inl (cf104, 8, .inl f104)), (qf118, .inl (cf118, 2100, .inl g922_1)), (qf119, .inl (cf119, 2100, .inl g922_2)), (qf105, .inl (cf105, 8, .inl f105)), (h0, .inr (13, z_23))] := hD
                        replace hK : va_K (dC, dI) vwCl [(cf110, .int), (cf103, .int), (cf106, .int), (cf108, .int), (cf107, .int), (cf109, .int), (cf128, .int), (cf137, .int), (cf111, .int), (cf100, .int), (cf127, .int), (cf102, .int), (cf104, .int), (cf118, .int), (cf119, .int), (cf105, .int)] s := hK
                        obtain ⟨hwa_23, hln_23, hre_23, hch_23_122, hch_23_123, hch_23_124, hch_23_125⟩ := hw
                        have hfk_23_98 : z_23[98]? = some (.int v98) := (hre_23 98 (by decide) (by decide) (by decide) (by decide)).trans (hfk_22_98)
                        have hfk_23_100 : z_23[100]? = some (.ref qf100) := (hre_23 100 (by decide) (by decide) (by decide) (by decide)).trans (hfk_22_100)
                        have hfk_23_102 : z_23[102]? = some (.ref qf102) := (hre_23 102 (by decide) (by decide) (by decide) (by decide)).trans (hfk_22_102)
                        have hfk_23_103 : z_23[103]? = some (.ref qf103) := (hre_23 103 (by decide) (by decide) (by decide) (by decide)).trans (hfk_22_103)
                        have hfk_23_104 : z_23[104]? = some (.ref qf104) := (hre_23 104 (by decide) (by decide) (by decide) (by decide)).trans (hfk_22_104)
                        have hfk_23_105 : z_23[105]? = some (.ref qf105) := (hre_23 105 (by decide) (by decide) (by decide) (by decide)).trans (hfk_22_105)
                        have hfk_23_106 : z_23[106]? = some (.ref qf106) := (hre_23 106 (by decide) (by decide) (by decide) (by decide)).trans (hfk_22_106)
                        have hfk_23_107 : z_23[107]? = some (.ref qf107) := (hre_23 107 (by decide) (by decide) (by decide) (by decide)).trans (hfk_22_107)
                        have hfk_23_108 : z_23[108]? = some (.ref qf108) := (hre_23 108 (by decide) (by decide) (by decide) (by decide)).trans (hfk_22_108)
                        have hfk_23_109 : z_23[109]? = some (.ref qf109) := (hre_23 109 (by decide) (by decide) (by decide) (by decide)).trans (hfk_22_109)
                        have hfk_23_110 : z_23[110]? = some (.ref qf110) := (hre_23 110 (by decide) (by decide) (by decide) (by decide)).trans (hfk_22_110)
                        have hfk_23_111 : z_23[111]? = some (.ref qf111) := (hre_23 111 (by decide) (by decide) (by decide) (by decide)).trans (hfk_22_111)
                        have hfk_23_117 : z_23[117]? = some (.int u22_3) := (hre_23 117 (by decide) (by decide) (by decide) (by decide)).trans (hch_22_117)
                        have hfk_23_118 : z_23[118]? = some (.ref qf118) := (hre_23 118 (by decide) (by decide) (by decide) (by decide)).trans (hfk_22_118)
                        have hfk_23_119 : z_23[119]? = some (.ref qf119) := (hre_23 119 (by decide) (by decide) (by decide) (by decide)).trans (hfk_22_119)
                        have hfk_23_120 : z_23[120]? = some (.int u22_4) := (hre_23 120 (by decide) (by decide) (by decide) (by decide)).trans (hch_22_120)
                        have hfk_23_121 : z_23[121]? = some (.int u13_5) := (hre_23 121 (by decide) (by decide) (by decide) (by decide)).trans (hfk_22_121)
                        have hfk_23_127 : z_23[127]? = some (.ref qf127) := (hre_23 127 (by decide) (by decide) (by decide) (by decide)).trans (hfk_22_127)
                        have hfk_23_128 : z_23[128]? = some (.ref qf128) := (hre_23 128 (by decide) (by decide) (by decide) (by decide)).trans (hfk_22_128)
                        have hfk_23_129 : z_23[129]? = some (.int v129) := (hre_23 129 (by decide) (by decide) (by decide) (by decide)).trans (hfk_22_129)
                        have hfk_23_130 : z_23[130]? = some (.int v130) := (hre_23 130 (by decide) (by decide) (by decide) (by decide)).trans (hfk_22_130)
                        have hfk_23_131 : z_23[131]? = some (.int u15_8) := (hre_23 131 (by decide) (by decide) (by decide) (by decide)).trans (hfk_22_131)
                        have hfk_23_132 : z_23[132]? = some (.int v132) := (hre_23 132 (by decide) (by decide) (by decide) (by decide)).trans (hfk_22_132)
                        have hfk_23_133 : z_23[133]? = some (.int v133) := (hre_23 133 (by decide) (by decide) (by decide) (by decide)).trans (hfk_22_133)
                        have hfk_23_134 : z_23[134]? = some (.int v134) := (hre_23 134 (by decide) (by decide) (by decide) (by decide)).trans (hfk_22_134)
                        have hfk_23_135 : z_23[135]? = some (.int v135) := (hre_23 135 (by decide) (by decide) (by decide) (by decide)).trans (hfk_22_135)
                        have hfk_23_136 : z_23[136]? = some (.int x136_240) := (hre_23 136 (by decide) (by decide) (by decide) (by decide)).trans (hfk_22_136)
                        have hfk_23_137 : z_23[137]? = some (.ref qf137) := (hre_23 137 (by decide) (by decide) (by decide) (by decide)).trans (hfk_22_137)
                        have hrq_23 : ∀ j : Nat, j ≠ 117 → j ≠ 120 → j ≠ 121 → j ≠ 122 → j ≠ 123 → j ≠ 124 → j ≠ 125 → j ≠ 131 → j ≠ 136 → z_23[j]? = zs[j]? := fun j g117 g120 g121 g122 g123 g124 g125 g131 g136 => (hre_23 j g122 g123 g124 g125).trans (hrq_22 j g117 g120 g121 g122 g123 g124 g125 g131 g136)
                        obtain ⟨rfl, hz_23⟩ := hwa_23
                        rcases hz_23 with rfl | rfl
                        · rw [if_pos rfl] at hsp
                          have hr0 := Option.some.inj hsp
                          clear hsp
                          obtain ⟨hq0, hr1⟩ := Prod.mk.inj hr0
                          clear hr0
                          obtain ⟨hq1, hr2⟩ := Prod.mk.inj hr1
                          clear hr1
                          obtain ⟨hq2, hr3⟩ := Prod.mk.inj hr2
                          clear hr2
                          obtain ⟨hq3, hr4⟩ := Prod.mk.inj hr3
                          clear hr3
                          obtain ⟨hq4, hr5⟩ := Prod.mk.inj hr4
                          clear hr4
                          obtain ⟨hq5, hr6⟩ := Prod.mk.inj hr5
                          clear hr5
                          obtain ⟨hq6, hr7⟩ := Prod.mk.inj hr6
                          clear hr6
                          obtain ⟨hq7, hr8⟩ := Prod.mk.inj hr7
                          clear hr7
                          obtain ⟨hq8, hr9⟩ := Prod.mk.inj hr8
                          clear hr8
                          obtain ⟨hq9, hr10⟩ := Prod.mk.inj hr9
                          clear hr9
                          obtain ⟨hq10, hr11⟩ := Prod.mk.inj hr10
                          clear hr10
                          obtain ⟨hq11, hr12⟩ := Prod.mk.inj hr11
                          clear hr11
                          obtain ⟨hq12, hr13⟩ := Prod.mk.inj hr12
                          clear hr12
                          obtain ⟨hq13, hr14⟩ := Prod.mk.inj hr13
                          clear hr13
                          subst hq0
                          subst hq1
                          subst hq2
                          subst hq3
                          subst hq4
                          subst hq5
                          subst hq6
                          subst hq7
                          subst hq8
                          subst hq9
                          subst hq10
                          subst hq11
                          subst hq12
                          subst hq13
                          subst hr14
                          have hP9 := hP.sub (ws' := [(h0, .inr (13, z_23)), (qf109, .inl (cf109, 96, .inl f109)), (qf100, .inl (cf100, 48000, .inl f100)), (qf127, .inl (cf127, 30, .inl g915_3)), (qf107, .inl (cf107, 96, .inl f107)), (qf102, .inl (cf102, 2048, .inl f102)), (qf111, .inl (cf111, 96, .inl f111)), (qf104, .inl (cf104, 8, .inl f104)), (qf118, .inl (cf118, 2100, .inl g922_1)), (qf119, .inl (cf119, 2100, .inl g922_2)), (qf105, .inl (cf105, 8, .inl f105)), (qf128, .inl (cf128, 31, .inl g915_4)), (qf110, .inl (cf110, 96, .inl f110)), (qf103, .inl (cf103, 8, .inl f103)), (qf106, .inl (cf106, 8, .inl f106)), (qf108, .inl (cf108, 8, .inl f108)), (qf137, .inl (cf137, 6, .inl g915_5))]) [16, 5, 9, 10, 4, 11, 8, 12, 13, 14, 15, 6, 0, 1, 2, 3, 7] rfl
                          have hD9 := hD.sub (ws' := [(h0, .inr (13, z_23)), (qf109, .inl (cf109, 96, .inl f109)), (qf100, .inl (cf100, 48000, .inl f100)), (qf127, .inl (cf127, 30, .inl g915_3)), (qf107, .inl (cf107, 96, .inl f107)), (qf102, .inl (cf102, 2048, .inl f102)), (qf111, .inl (cf111, 96, .inl f111)), (qf104, .inl (cf104, 8, .inl f104)), (qf118, .inl (cf118, 2100, .inl g922_1)), (qf119, .inl (cf119, 2100, .inl g922_2)), (qf105, .inl (cf105, 8, .inl f105)), (qf128, .inl (cf128, 31, .inl g915_4)), (qf110, .inl (cf110, 96, .inl f110)), (qf103, .inl (cf103, 8, .inl f103)), (qf106, .inl (cf106, 8, .inl f106)), (qf108, .inl (cf108, 8, .inl f108)), (qf137, .inl (cf137, 6, .inl g915_5))]) [16, 5, 9, 10, 4, 11, 8, 12, 13, 14, 15, 6, 0, 1, 2, 3, 7] (by decide) rfl
                          have hK9 := hK.sub (tys' := [(cf109, .int), (cf100, .int), (cf127, .int), (cf107, .int), (cf102, .int), (cf111, .int), (cf104, .int), (cf118, .int), (cf119, .int), (cf105, .int), (cf128, .int), (cf110, .int), (cf103, .int), (cf106, .int), (cf108, .int), (cf137, .int)]) [5, 9, 10, 4, 11, 8, 12, 13, 14, 15, 6, 0, 1, 2, 3, 7] rfl
                          exact W.zret hx hb hr (by decide) (fun t ht hW => ⟨⟨(0), (z_23), rfl, ⟨⟨rfl, Or.inl rfl⟩, hln_23, hrq_23, hfk_23_117, hfk_23_120, hfk_23_121, hch_23_122, hch_23_123, hch_23_124, hch_23_125, hfk_23_131, hfk_23_136⟩, by rw [ht]; exact hP9, va_K.moved hW.alike hK9, hD9⟩, hS.F ht⟩) hS.2.2 dX13_flows_362
                        · rw [if_neg (by decide)] at hsp
                          have hr0 := Option.some.inj hsp
                          clear hsp
                          obtain ⟨hq0, hr1⟩ := Prod.mk.inj hr0
                          clear hr0
                          obtain ⟨hq1, hr2⟩ := Prod.mk.inj hr1
                          clear hr1
                          obtain ⟨hq2, hr3⟩ := Prod.mk.inj hr2
                          clear hr2
                          obtain ⟨hq3, hr4⟩ := Prod.mk.inj hr3
                          clear hr3
                          obtain ⟨hq4, hr5⟩ := Prod.mk.inj hr4
                          clear hr4
                          obtain ⟨hq5, hr6⟩ := Prod.mk.inj hr5
                          clear hr5
                          obtain ⟨hq6, hr7⟩ := Prod.mk.inj hr6
                          clear hr6
                          obtain ⟨hq7, hr8⟩ := Prod.mk.inj hr7
                          clear hr7
                          obtain ⟨hq8, hr9⟩ := Prod.mk.inj hr8
                          clear hr8
                          obtain ⟨hq9, hr10⟩ := Prod.mk.inj hr9
                          clear hr9
                          obtain ⟨hq10, hr11⟩ := Prod.mk.inj hr10
                          clear hr10
                          obtain ⟨hq11, hr12⟩ := Prod.mk.inj hr11
                          clear hr11
                          obtain ⟨hq12, hr13⟩ := Prod.mk.inj hr12
                          clear hr12
                          obtain ⟨hq13, hr14⟩ := Prod.mk.inj hr13
                          clear hr13
                          subst hq0
                          subst hq1
                          subst hq2
                          subst hq3
                          subst hq4
                          subst hq5
                          subst hq6
                          subst hq7
                          subst hq8
                          subst hq9
                          subst hq10
                          subst hq11
                          subst hq12
                          subst hq13
                          subst hr14
                          have hP9 := hP.sub (ws' := [(h0, .inr (13, z_23)), (qf109, .inl (cf109, 96, .inl f109)), (qf100, .inl (cf100, 48000, .inl f100)), (qf127, .inl (cf127, 30, .inl g915_3)), (qf107, .inl (cf107, 96, .inl f107)), (qf102, .inl (cf102, 2048, .inl f102)), (qf111, .inl (cf111, 96, .inl f111)), (qf104, .inl (cf104, 8, .inl f104)), (qf118, .inl (cf118, 2100, .inl g922_1)), (qf119, .inl (cf119, 2100, .inl g922_2)), (qf105, .inl (cf105, 8, .inl f105)), (qf128, .inl (cf128, 31, .inl g915_4)), (qf110, .inl (cf110, 96, .inl f110)), (qf103, .inl (cf103, 8, .inl f103)), (qf106, .inl (cf106, 8, .inl f106)), (qf108, .inl (cf108, 8, .inl f108)), (qf137, .inl (cf137, 6, .inl g915_5))]) [16, 5, 9, 10, 4, 11, 8, 12, 13, 14, 15, 6, 0, 1, 2, 3, 7] rfl
                          have hD9 := hD.sub (ws' := [(h0, .inr (13, z_23)), (qf109, .inl (cf109, 96, .inl f109)), (qf100, .inl (cf100, 48000, .inl f100)), (qf127, .inl (cf127, 30, .inl g915_3)), (qf107, .inl (cf107, 96, .inl f107)), (qf102, .inl (cf102, 2048, .inl f102)), (qf111, .inl (cf111, 96, .inl f111)), (qf104, .inl (cf104, 8, .inl f104)), (qf118, .inl (cf118, 2100, .inl g922_1)), (qf119, .inl (cf119, 2100, .inl g922_2)), (qf105, .inl (cf105, 8, .inl f105)), (qf128, .inl (cf128, 31, .inl g915_4)), (qf110, .inl (cf110, 96, .inl f110)), (qf103, .inl (cf103, 8, .inl f103)), (qf106, .inl (cf106, 8, .inl f106)), (qf108, .inl (cf108, 8, .inl f108)), (qf137, .inl (cf137, 6, .inl g915_5))]) [16, 5, 9, 10, 4, 11, 8, 12, 13, 14, 15, 6, 0, 1, 2, 3, 7] (by decide) rfl
                          have hK9 := hK.sub (tys' := [(cf109, .int), (cf100, .int), (cf127, .int), (cf107, .int), (cf102, .int), (cf111, .int), (cf104, .int), (cf118, .int), (cf119, .int), (cf105, .int), (cf128, .int), (cf110, .int), (cf103, .int), (cf106, .int), (cf108, .int), (cf137, .int)]) [5, 9, 10, 4, 11, 8, 12, 13, 14, 15, 6, 0, 1, 2, 3, 7] rfl
                          exact W.zret hx hb hr (by decide) (fun t ht hW => ⟨⟨(1), (z_23), rfl, ⟨⟨rfl, Or.inr rfl⟩, hln_23, hrq_23, hfk_23_117, hfk_23_120, hfk_23_121, hch_23_122, hch_23_123, hch_23_124, hch_23_125, hfk_23_131, hfk_23_136⟩, by rw [ht]; exact hP9, va_K.moved hW.alike hK9, hD9⟩, hS.F ht⟩) hS.2.2 dX13_flows_362
                      · rw [if_neg (by decide)] at hsp
                        refine lv_if_eq (tgt := 352) hx hb dX13_flows_340 (by decide) (fun c_54 => (show False by revert c_54; decide).elim) (fun c_54 => ?_)
                        refine lv_aload_n hx hb dX13_flows_343 rfl (lv_at hl 2 rfl) ?_
                        refine lv_iload hx hb dX13_flows_344 (lv_at hl 0 rfl) ?_
                        obtain ⟨⟨u24_0, g924_1, g924_2, u24_3, u24_4⟩, hu_24, hsp⟩ := ox_bind hsp
                        try dsimp only at hsp
                        have hPc := hP.sub (ws' := [(h0, .inr (13, z_22)), (qf100, .inl (cf100, 48000, .inl f100)), (qf128, .inl (cf128, 31, .inl g915_4)), (qf102, .inl (cf102, 2048, .inl f102)), (qf104, .inl (cf104, 8, .inl f104)), (qf118, .inl (cf118, 2100, .inl g922_1)), (qf119, .inl (cf119, 2100, .inl g922_2)), (qf105, .inl (cf105, 8, .inl f105))]) [9, 10, 6, 12, 13, 14, 15, 16] rfl
                        have hDc := hD.sub (ws' := [(h0, .inr (13, z_22)), (qf100, .inl (cf100, 48000, .inl f100)), (qf128, .inl (cf128, 31, .inl g915_4)), (qf102, .inl (cf102, 2048, .inl f102)), (qf104, .inl (cf104, 8, .inl f104)), (qf118, .inl (cf118, 2100, .inl g922_1)), (qf119, .inl (cf119, 2100, .inl g922_2)), (qf105, .inl (cf105, 8, .inl f105))]) [9, 10, 6, 12, 13, 14, 15, 16] (by decide) rfl
                        have hKc := hK.sub (tys' := [(cf100, .int), (cf128, .int), (cf102, .int), (cf104, .int), (cf118, .int), (cf119, .int), (cf105, .int)]) [9, 6, 11, 12, 13, 14, 15] rfl
                        have hFc := va_free (wc := [(h0, .inr (13, z_22)), (qf100, .inl (cf100, 48000, .inl f100)), (qf128, .inl (cf128, 31, .inl g915_4)), (qf102, .inl (cf102, 2048, .inl f102)), (qf104, .inl (cf104, 8, .inl f104)), (qf118, .inl (cf118, 2100, .inl g922_1)), (qf119, .inl (cf119, 2100, .inl g922_2)), (qf105, .inl (cf105, 8, .inl f105))]) hD hS hA [9, 10, 6, 12, 13, 14, 15, 16] rfl
                        refine va_calli (va_runV (As := [.int u20_0]) (rest := []) ⟨hx, hb, hml, hown, hts⟩ (vm_stackFits l dC dI H.size h0 z_22 u20_0 v98 qf100 qf102 qf104 qf105 u22_3 qf118 qf119 u22_4 qf128 u15_8 v132 cf100 f100 cf128 g915_4 cf102 f102 cf104 f104 cf118 g922_1 cf119 g922_2 cf105 f105 nS477 fS477 hS477 qS477 tS477 nf u24_0 g924_1 g924_2 u24_3 u24_4 hln_22 hfk_22_98 hfk_22_100 hfk_22_102 hfk_22_104 hfk_22_105 hch_22_117 hfk_22_118 hfk_22_119 hch_22_120 hfk_22_128 hfk_22_131 hfk_22_132 hu_24) (cwV 1 hts gv_h9_116 rfl rfl rfl (by decide +kernel) ⟨Nat.le_of_ble_eq_true rfl, Nat.le_of_ble_eq_true rfl⟩) ⟨fun a U g mk q => by obtain ⟨q0, q1, qP, qK, qD, qhZWS477, qhZRS477⟩ := q; exact ⟨q0, q1, qP, va_K.moved (u := U) (U := U.calling g mk a) (Vm.Alike.refl U.vm) qK, qD, pz_W.moved (u := U) (U := U.calling g mk a) (Vm.Alike.refl U.vm) qhZWS477, vk_R.same rfl qhZRS477⟩, va_recv hKc hPc (ci := 13) (q0 := 0) rfl rfl, fun U hU hW => ⟨rfl, by rw [hU], by rw [hU]; exact hPc, va_K.moved hW.alike hKc, hDc.weaken (fun _ _ _ _ => trivial), by rw [hU]; exact ((pz_W.moved hW.alike hZWS477).kept hS.2.1).narrow hFc, vk_R.warm hW hZRS477⟩⟩ rfl rfl hl.1 rfl (lv_room (Nat.le_of_ble_eq_true rfl)) dX13_flows_346 ⟨Nat.le_of_ble_eq_true rfl, Nat.le_of_ble_eq_true rfl⟩) hS (fun q _ h => hFc q h) hFc ?_
                        clear hS
                        intro r_55 u t H1 locs ht hvm hw hB hz1 hk1 hS
                        obtain ⟨z_24, rfl⟩ : ∃ z, z = u := ⟨_, rfl⟩
                        obtain ⟨hP1, hK1, hD1⟩ := hB
                        rw [ht] at hP1
                        have hK1 := va_K.moved hvm.symm hK1
                        try dsimp only at hw
                        have hPD := va_join (wr := [(qf110, .inl (cf110, 96, .inl f110)), (qf103, .inl (cf103, 8, .inl f103)), (qf106, .inl (cf106, 8, .inl f106)), (qf108, .inl (cf108, 8, .inl f108)), (qf107, .inl (cf107, 96, .inl f107)), (qf109, .inl (cf109, 96, .inl f109)), (qf137, .inl (cf137, 6, .inl g915_5)), (qf111, .inl (cf111, 96, .inl f111)), (qf127, .inl (cf127, 30, .inl g915_3))]) (w1 := [(h0, .inr (13, z_24)), (qf100, .inl (cf100, 48000, .inl f100)), (qf128, .inl (cf128, 31, .inl g915_4)), (qf102, .inl (cf102, 2048, .inl f102)), (qf104, .inl (cf104, 8, .inl f104)), (qf118, .inl (cf118, 2100, .inl g924_1)), (qf119, .inl (cf119, 2100, .inl g924_2)), (qf105, .inl (cf105, 8, .inl f105))]) hP hD [9, 10, 6, 12, 13, 14, 15, 16] [0, 1, 2, 3, 4, 5, 7, 8, 11] rfl rfl (by decide) (by decide) hk1 hFc hP1 hD1
                        clear hP hD
                        obtain ⟨hP, hD⟩ := hPD
                        replace hK := (hK.sub (tys' := [(cf110, .int), (cf103, .int), (cf106, .int), (cf108, .int), (cf107, .int), (cf109, .int), (cf137, .int), (cf111, .int), (cf127, .int)]) [0, 1, 2, 3, 4, 5, 7, 8, 10] rfl).app hK1
                        clear hPc hDc hKc hFc hP1 hK1 hD1 hz1 hk1 ht hvm
                        generalize H1 = H at hP hS ⊢
                        replace hP : va_P (dC, dI) vwCl [(qf110, .inl (cf110, 96, .inl f110)), (qf103, .inl (cf103, 8, .inl f103)), (qf106, .inl (cf106, 8, .inl f106)), (qf108, .inl (cf108, 8, .inl f108)), (qf107, .inl (cf107, 96, .inl f107)), (qf109, .inl (cf109, 96, .inl f109)), (qf137, .inl (cf137, 6, .inl g915_5)), (qf111, .inl (cf111, 96, .inl f111)), (qf127, .inl (cf127, 30, .inl g915_3)), (h0, .inr (13, z_24)), (qf100, .inl (cf100, 48000, .inl f100)), (qf128, .inl (cf128, 31, .inl g915_4)), (qf102, .inl (cf102, 2048, .inl f102)), (qf104, .inl (cf104, 8, .inl f104)), (qf118, .inl (cf118, 2100, .inl g924_1)), (qf119, .inl (cf119, 2100, .inl g924_2)), (qf105, .inl (cf105, 8, .inl f105))] H := hP
                        replace hD : va_D A [(qf110, .inl (cf110, 96, .inl f110)), (qf103, .inl (cf103, 8, .inl f103)), (qf106, .inl (cf106, 8, .inl f106)), (qf108, .inl (cf108, 8, .inl f108)), (qf107, .inl (cf107, 96, .inl f107)), (qf109, .inl (cf109, 96, .inl f109)), (qf137, .inl (cf137, 6, .inl g915_5)), (qf111, .inl (cf111, 96, .inl f111)), (qf127, .inl (cf127, 30, .inl g915_3)), (h0, .inr (13, z_24)), (qf100, .inl (cf100, 48000, .inl f100)), (qf128, .inl (cf128, 31, .inl g915_4)), (qf102, .inl (cf102, 2048, .inl f102)), (qf104, .inl (cf104, 8, .inl f104)), (qf118, .inl (cf118, 2100, .inl g924_1)), (qf119, .inl (cf119, 2100, .inl g924_2)), (qf105, .inl (cf105, 8, .inl f105))] := hD
                        replace hK : va_K (dC, dI) vwCl [(cf110, .int), (cf103, .int), (cf106, .int), (cf108, .int), (cf107, .int), (cf109, .int), (cf137, .int), (cf111, .int), (cf127, .int), (cf100, .int), (cf128, .int), (cf102, .int), (cf104, .int), (cf118, .int), (cf119, .int), (cf105, .int)] s := hK
                        obtain ⟨hwa_24, hln_24, hre_24, hch_24_117, hch_24_120⟩ := hw
                        have hfk_24_98 : z_24[98]? = some (.int v98) := (hre_24 98 (by decide) (by decide)).trans (hfk_22_98)
                        have hfk_24_100 : z_24[100]? = some (.ref qf100) := (hre_24 100 (by decide) (by decide)).trans (hfk_22_100)
                        have hfk_24_102 : z_24[102]? = some (.ref qf102) := (hre_24 102 (by decide) (by decide)).trans (hfk_22_102)
                        have hfk_24_103 : z_24[103]? = some (.ref qf103) := (hre_24 103 (by decide) (by decide)).trans (hfk_22_103)
                        have hfk_24_104 : z_24[104]? = some (.ref qf104) := (hre_24 104 (by decide) (by decide)).trans (hfk_22_104)
                        have hfk_24_105 : z_24[105]? = some (.ref qf105) := (hre_24 105 (by decide) (by decide)).trans (hfk_22_105)
                        have hfk_24_106 : z_24[106]? = some (.ref qf106) := (hre_24 106 (by decide) (by decide)).trans (hfk_22_106)
                        have hfk_24_107 : z_24[107]? = some (.ref qf107) := (hre_24 107 (by decide) (by decide)).trans (hfk_22_107)
                        have hfk_24_108 : z_24[108]? = some (.ref qf108) := (hre_24 108 (by decide) (by decide)).trans (hfk_22_108)
                        have hfk_24_109 : z_24[109]? = some (.ref qf109) := (hre_24 109 (by decide) (by decide)).trans (hfk_22_109)
                        have hfk_24_110 : z_24[110]? = some (.ref qf110) := (hre_24 110 (by decide) (by decide)).trans (hfk_22_110)
                        have hfk_24_111 : z_24[111]? = some (.ref qf111) := (hre_24 111 (by decide) (by decide)).trans (hfk_22_111)
                        have hfk_24_118 : z_24[118]? = some (.ref qf118) := (hre_24 118 (by decide) (by decide)).trans (hfk_22_118)
                        have hfk_24_119 : z_24[119]? = some (.ref qf119) := (hre_24 119 (by decide) (by decide)).trans (hfk_22_119)
                        have hfk_24_121 : z_24[121]? = some (.int u13_5) := (hre_24 121 (by decide) (by decide)).trans (hfk_22_121)
                        have hfk_24_122 : z_24[122]? = some (.int x122_240) := (hre_24 122 (by decide) (by decide)).trans (hfk_22_122)
                        have hfk_24_123 : z_24[123]? = some (.int x123_240) := (hre_24 123 (by decide) (by decide)).trans (hfk_22_123)
                        have hfk_24_124 : z_24[124]? = some (.int x124_240) := (hre_24 124 (by decide) (by decide)).trans (hfk_22_124)
                        have hfk_24_125 : z_24[125]? = some (.int x125_240) := (hre_24 125 (by decide) (by decide)).trans (hfk_22_125)
                        have hfk_24_127 : z_24[127]? = some (.ref qf127) := (hre_24 127 (by decide) (by decide)).trans (hfk_22_127)
                        have hfk_24_128 : z_24[128]? = some (.ref qf128) := (hre_24 128 (by decide) (by decide)).trans (hfk_22_128)
                        have hfk_24_129 : z_24[129]? = some (.int v129) := (hre_24 129 (by decide) (by decide)).trans (hfk_22_129)
                        have hfk_24_130 : z_24[130]? = some (.int v130) := (hre_24 130 (by decide) (by decide)).trans (hfk_22_130)
                        have hfk_24_131 : z_24[131]? = some (.int u15_8) := (hre_24 131 (by decide) (by decide)).trans (hfk_22_131)
                        have hfk_24_132 : z_24[132]? = some (.int v132) := (hre_24 132 (by decide) (by decide)).trans (hfk_22_132)
                        have hfk_24_133 : z_24[133]? = some (.int v133) := (hre_24 133 (by decide) (by decide)).trans (hfk_22_133)
                        have hfk_24_134 : z_24[134]? = some (.int v134) := (hre_24 134 (by decide) (by decide)).trans (hfk_22_134)
                        have hfk_24_135 : z_24[135]? = some (.int v135) := (hre_24 135 (by decide) (by decide)).trans (hfk_22_135)
                        have hfk_24_136 : z_24[136]? = some (.int x136_240) := (hre_24 136 (by decide) (by decide)).trans (hfk_22_136)
                        have hfk_24_137 : z_24[137]? = some (.ref qf137) := (hre_24 137 (by decide) (by decide)).trans (hfk_22_137)
                        have hrq_24 : ∀ j : Nat, j ≠ 117 → j ≠ 120 → j ≠ 121 → j ≠ 122 → j ≠ 123 → j ≠ 124 → j ≠ 125 → j ≠ 131 → j ≠ 136 → z_24[j]? = zs[j]? := fun j g117 g120 g121 g122 g123 g124 g125 g131 g136 => (hre_24 j g117 g120).trans (hrq_22 j g117 g120 g121 g122 g123 g124 g125 g131 g136)
                        obtain ⟨rfl, hz_24⟩ := hwa_24
                        rcases hz_24 with rfl | rfl
                        · rw [if_pos rfl] at hsp
                          refine lv_if_ne (tgt := 363) hx hb dX13_flows_349 (by decide) (fun c_56 => (show False by revert c_56; decide).elim) (fun c_56 => ?_)
                          refine lv_aload_n hx hb dX13_flows_352 rfl (lv_at hl 2 rfl) ?_
                          refine lv_bipush (v := 12) hx hb dX13_flows_353 (by decide) ?_
                          refine lv_iload_n hx hb dX13_flows_355 rfl (lv_at hl 3 rfl) ?_
                          refine lv_iload_n hx hb dX13_flows_356 rfl (lv_at hl 4 rfl) ?_
                          refine lv_iload hx hb dX13_flows_357 (lv_at hl 5 rfl) ?_
                          obtain ⟨⟨u25_0, u25_1, u25_2, u25_3, u25_4⟩, hu_25, hsp⟩ := ox_bind hsp
                          try dsimp only at hsp
                          have hPc := hP.sub (ws' := [(h0, .inr (13, z_24))]) [9] rfl
                          have hDc := hD.sub (ws' := [(h0, .inr (13, z_24))]) [9] (by decide) rfl
                          have hKc := hK.sub (tys' := []) [] rfl
                          have hFc := va_free (wc := [(h0, .inr (13, z_24))]) hD hS hA [9] rfl
                          refine va_calli (va_runV (As := [.int 12, .int l1_240, .int l2_240, .int l6_240]) (rest := []) ⟨hx, hb, hml, hown, hts⟩ (tm_bad l dC dI H.size h0 z_24 12 l1_240 l2_240 l6_240 x122_240 x123_240 x124_240 x125_240 nf u25_0 u25_1 u25_2 u25_3 u25_4 hln_24 hfk_24_122 hfk_24_123 hfk_24_124 hfk_24_125 hu_25) (cwV 4 hts gv_h9_63 rfl rfl rfl (by decide +kernel) ⟨Nat.le_of_ble_eq_true rfl, Nat.le_of_ble_eq_true rfl⟩) ⟨fun a U g mk q => by obtain ⟨q0, q1, qP, qK, qD⟩ := q; exact ⟨q0, q1, qP, va_K.moved (u := U) (U := U.calling g mk a) (Vm.Alike.refl U.vm) qK, qD⟩, va_recv hKc hPc (ci := 13) (q0 := 0) rfl rfl, fun U hU hW => ⟨rfl, by rw [hU], by rw [hU]; exact hPc, va_K.moved hW.alike hKc, hDc.weaken (fun _ _ _ _ => trivial)⟩⟩ rfl rfl hl.1 rfl (lv_room (Nat.le_of_ble_eq_true rfl)) dX13_flows_359 ⟨Nat.le_of_ble_eq_true rfl, Nat.le_of_ble_eq_true rfl⟩) hS (fun q _ h => hFc q h) hFc ?_
                          clear hS
                          intro r_57 u t H1 locs ht hvm hw hB hz1 hk1 hS
                          obtain ⟨z_25, rfl⟩ : ∃ z, z = u := ⟨_, rfl⟩
                          obtain ⟨hP1, hK1, hD1⟩ := hB
                          rw [ht] at hP1
                          have hK1 := va_K.moved hvm.symm hK1
                          try dsimp only at hw
                          have hPD := va_join (wr := [(qf110, .inl (cf110, 96, .inl f110)), (qf103, .inl (cf103, 8, .inl f103)), (qf106, .inl (cf106, 8, .inl f106)), (qf108, .inl (cf108, 8, .inl f108)), (qf107, .inl (cf107, 96, .inl f107)), (qf109, .inl (cf109, 96, .inl f109)), (qf137, .inl (cf137, 6, .inl g915_5)), (qf111, .inl (cf111, 96, .inl f111)), (qf127, .inl (cf127, 30, .inl g915_3)), (qf100, .inl (cf100, 48000, .inl f100)), (qf128, .inl (cf128, 31, .inl g915_4)), (qf102, .inl (cf102, 2048, .inl f102)), (qf104, .inl (cf104, 8, .inl f104)), (qf118, .inl (cf118, 2100, .inl g924_1)), (qf119, .inl (cf119, 2100, .inl g924_2)), (qf105, .inl (cf105, 8, .inl f105))]) (w1 := [(h0, .inr (13, z_25))]) hP hD [9] [0, 1, 2, 3, 4, 5, 6, 7, 8, 10, 11, 12, 13, 14, 15, 16] rfl rfl (by decide) (by decide) hk1 hFc hP1 hD1
                          clear hP hD
                          obtain ⟨hP, hD⟩ := hPD
                          replace hK := (hK.sub (tys' := [(cf110, .int), (cf103, .int), (cf106, .int), (cf108, .int), (cf107, .int), (cf109, .int), (cf137, .int), (cf111, .int), (cf127, .int), (cf100, .int), (cf128, .int), (cf102, .int), (cf104, .int), (cf118, .int), (cf119, .int), (cf105, .int)]) [0, 1, 2, 3, 4, 5, 6, 7, 8, 9, 10, 11, 12, 13, 14, 15] rfl).app hK1
                          clear hPc hDc hKc hFc hP1 hK1 hD1 hz1 hk1 ht hvm
                          generalize H1 = H at hP hS ⊢
                          replace hP : va_P (dC, dI) vwCl [(qf110, .inl (cf110, 96, .inl f110)), (qf103, .inl (cf103, 8, .inl f103)), (qf106, .inl (cf106, 8, .inl f106)), (qf108, .inl (cf108, 8, .inl f108)), (qf107, .inl (cf107, 96, .inl f107)), (qf109, .inl (cf109, 96, .inl f109)), (qf137, .inl (cf137, 6, .inl g915_5)), (qf111, .inl (cf111, 96, .inl f111)), (qf127, .inl (cf127, 30, .inl g915_3)), (qf100, .inl (cf100, 48000, .inl f100)), (qf128, .inl (cf128, 31, .inl g915_4)), (qf102, .inl (cf102, 2048, .inl f102)), (qf104, .inl (cf104, 8, .inl f104)), (qf118, .inl (cf118, 2100, .inl g924_1)), (qf119, .inl (cf119, 2100, .inl g924_2)), (qf105, .inl (cf105, 8, .inl f105)), (h0, .inr (13, z_25))] H := hP
                          replace hD : va_D A [(qf110, .inl (cf110, 96, .inl f110)), (qf103, .inl (cf103, 8, .inl f103)), (qf106, .inl (cf106, 8, .inl f106)), (qf108, .inl (cf108, 8, .inl f108)), (qf107, .inl (cf107, 96, .inl f107)), (qf109, .inl (cf109, 96, .inl f109)), (qf137, .inl (cf137, 6, .inl g915_5)), (qf111, .inl (cf111, 96, .inl f111)), (qf127, .inl (cf127, 30, .inl g915_3)), (qf100, .inl (cf100, 48000, .inl f100)), (qf128, .inl (cf128, 31, .inl g915_4)), (qf102, .inl (cf102, 2048, .inl f102)), (qf104, .inl (cf104, 8, .inl f104)), (qf118, .inl (cf118, 2100, .inl g924_1)), (qf119, .inl (cf119, 2100, .inl g924_2)), (qf105, .inl (cf105, 8, .inl f105)), (h0, .inr (13, z_25))] := hD
                          replace hK : va_K (dC, dI) vwCl [(cf110, .int), (cf103, .int), (cf106, .int), (cf108, .int), (cf107, .int), (cf109, .int), (cf137, .int), (cf111, .int), (cf127, .int), (cf100, .int), (cf128, .int), (cf102, .int), (cf104, .int), (cf118, .int), (cf119, .int), (cf105, .int)] s := hK
                          obtain ⟨hwa_25, hln_25, hre_25, hch_25_122, hch_25_123, hch_25_124, hch_25_125⟩ := hw
                          have hfk_25_98 : z_25[98]? = some (.int v98) := (hre_25 98 (by decide) (by decide) (by decide) (by decide)).trans (hfk_24_98)
                          have hfk_25_100 : z_25[100]? = some (.ref qf100) := (hre_25 100 (by decide) (by decide) (by decide) (by decide)).trans (hfk_24_100)
                          have hfk_25_102 : z_25[102]? = some (.ref qf102) := (hre_25 102 (by decide) (by decide) (by decide) (by decide)).trans (hfk_24_102)
                          have hfk_25_103 : z_25[103]? = some (.ref qf103) := (hre_25 103 (by decide) (by decide) (by decide) (by decide)).trans (hfk_24_103)
                          have hfk_25_104 : z_25[104]? = some (.ref qf104) := (hre_25 104 (by decide) (by decide) (by decide) (by decide)).trans (hfk_24_104)
                          have hfk_25_105 : z_25[105]? = some (.ref qf105) := (hre_25 105 (by decide) (by decide) (by decide) (by decide)).trans (hfk_24_105)
                          have hfk_25_106 : z_25[106]? = some (.ref qf106) := (hre_25 106 (by decide) (by decide) (by decide) (by decide)).trans (hfk_24_106)
                          have hfk_25_107 : z_25[107]? = some (.ref qf107) := (hre_25 107 (by decide) (by decide) (by decide) (by decide)).trans (hfk_24_107)
                          have hfk_25_108 : z_25[108]? = some (.ref qf108) := (hre_25 108 (by decide) (by decide) (by decide) (by decide)).trans (hfk_24_108)
                          have hfk_25_109 : z_25[109]? = some (.ref qf109) := (hre_25 109 (by decide) (by decide) (by decide) (by decide)).trans (hfk_24_109)
                          have hfk_25_110 : z_25[110]? = some (.ref qf110) := (hre_25 110 (by decide) (by decide) (by decide) (by decide)).trans (hfk_24_110)
                          have hfk_25_111 : z_25[111]? = some (.ref qf111) := (hre_25 111 (by decide) (by decide) (by decide) (by decide)).trans (hfk_24_111)
                          have hfk_25_117 : z_25[117]? = some (.int u24_3) := (hre_25 117 (by decide) (by decide) (by decide) (by decide)).trans (hch_24_117)
                          have hfk_25_118 : z_25[118]? = some (.ref qf118) := (hre_25 118 (by decide) (by decide) (by decide) (by decide)).trans (hfk_24_118)
                          have hfk_25_119 : z_25[119]? = some (.ref qf119) := (hre_25 119 (by decide) (by decide) (by decide) (by decide)).trans (hfk_24_119)
                          have hfk_25_120 : z_25[120]? = some (.int u24_4) := (hre_25 120 (by decide) (by decide) (by decide) (by decide)).trans (hch_24_120)
                          have hfk_25_121 : z_25[121]? = some (.int u13_5) := (hre_25 121 (by decide) (by decide) (by decide) (by decide)).trans (hfk_24_121)
                          have hfk_25_127 : z_25[127]? = some (.ref qf127) := (hre_25 127 (by decide) (by decide) (by decide) (by decide)).trans (hfk_24_127)
                          have hfk_25_128 : z_25[128]? = some (.ref qf128) := (hre_25 128 (by decide) (by decide) (by decide) (by decide)).trans (hfk_24_128)
                          have hfk_25_129 : z_25[129]? = some (.int v129) := (hre_25 129 (by decide) (by decide) (by decide) (by decide)).trans (hfk_24_129)
                          have hfk_25_130 : z_25[130]? = some (.int v130) := (hre_25 130 (by decide) (by decide) (by decide) (by decide)).trans (hfk_24_130)
                          have hfk_25_131 : z_25[131]? = some (.int u15_8) := (hre_25 131 (by decide) (by decide) (by decide) (by decide)).trans (hfk_24_131)
                          have hfk_25_132 : z_25[132]? = some (.int v132) := (hre_25 132 (by decide) (by decide) (by decide) (by decide)).trans (hfk_24_132)
                          have hfk_25_133 : z_25[133]? = some (.int v133) := (hre_25 133 (by decide) (by decide) (by decide) (by decide)).trans (hfk_24_133)
                          have hfk_25_134 : z_25[134]? = some (.int v134) := (hre_25 134 (by decide) (by decide) (by decide) (by decide)).trans (hfk_24_134)
                          have hfk_25_135 : z_25[135]? = some (.int v135) := (hre_25 135 (by decide) (by decide) (by decide) (by decide)).trans (hfk_24_135)
                          have hfk_25_136 : z_25[136]? = some (.int x136_240) := (hre_25 136 (by decide) (by decide) (by decide) (by decide)).trans (hfk_24_136)
                          have hfk_25_137 : z_25[137]? = some (.ref qf137) := (hre_25 137 (by decide) (by decide) (by decide) (by decide)).trans (hfk_24_137)
                          have hrq_25 : ∀ j : Nat, j ≠ 117 → j ≠ 120 → j ≠ 121 → j ≠ 122 → j ≠ 123 → j ≠ 124 → j ≠ 125 → j ≠ 131 → j ≠ 136 → z_25[j]? = zs[j]? := fun j g117 g120 g121 g122 g123 g124 g125 g131 g136 => (hre_25 j g122 g123 g124 g125).trans (hrq_24 j g117 g120 g121 g122 g123 g124 g125 g131 g136)
                          obtain ⟨rfl, hz_25⟩ := hwa_25
                          rcases hz_25 with rfl | rfl
                          · rw [if_pos rfl] at hsp
                            have hr0 := Option.some.inj hsp
                            clear hsp
                            obtain ⟨hq0, hr1⟩ := Prod.mk.inj hr0
                            clear hr0
                            obtain ⟨hq1, hr2⟩ := Prod.mk.inj hr1
                            clear hr1
                            obtain ⟨hq2, hr3⟩ := Prod.mk.inj hr2
                            clear hr2
                            obtain ⟨hq3, hr4⟩ := Prod.mk.inj hr3
                            clear hr3
                            obtain ⟨hq4, hr5⟩ := Prod.mk.inj hr4
                            clear hr4
                            obtain ⟨hq5, hr6⟩ := Prod.mk.inj hr5
                            clear hr5
                            obtain ⟨hq6, hr7⟩ := Prod.mk.inj hr6
                            clear hr6
                            obtain ⟨hq7, hr8⟩ := Prod.mk.inj hr7
                            clear hr7
                            obtain ⟨hq8, hr9⟩ := Prod.mk.inj hr8
                            clear hr8
                            obtain ⟨hq9, hr10⟩ := Prod.mk.inj hr9
                            clear hr9
                            obtain ⟨hq10, hr11⟩ := Prod.mk.inj hr10
                            clear hr10
                            obtain ⟨hq11, hr12⟩ := Prod.mk.inj hr11
                            clear hr11
                            obtain ⟨hq12, hr13⟩ := Prod.mk.inj hr12
                            clear hr12
                            obtain ⟨hq13, hr14⟩ := Prod.mk.inj hr13
                            clear hr13
                            subst hq0
                            subst hq1
                            subst hq2
                            subst hq3
                            subst hq4
                            subst hq5
                            subst hq6
                            subst hq7
                            subst hq8
                            subst hq9
                            subst hq10
                            subst hq11
                            subst hq12
                            subst hq13
                            subst hr14
                            have hP9 := hP.sub (ws' := [(h0, .inr (13, z_25)), (qf109, .inl (cf109, 96, .inl f109)), (qf100, .inl (cf100, 48000, .inl f100)), (qf127, .inl (cf127, 30, .inl g915_3)), (qf107, .inl (cf107, 96, .inl f107)), (qf102, .inl (cf102, 2048, .inl f102)), (qf111, .inl (cf111, 96, .inl f111)), (qf104, .inl (cf104, 8, .inl f104)), (qf118, .inl (cf118, 2100, .inl g924_1)), (qf119, .inl (cf119, 2100, .inl g924_2)), (qf105, .inl (cf105, 8, .inl f105)), (qf128, .inl (cf128, 31, .inl g915_4)), (qf110, .inl (cf110, 96, .inl f110)), (qf103, .inl (cf103, 8, .inl f103)), (qf106, .inl (cf106, 8, .inl f106)), (qf108, .inl (cf108, 8, .inl f108)), (qf137, .inl (cf137, 6, .inl g915_5))]) [16, 5, 9, 8, 4, 11, 7, 12, 13, 14, 15, 10, 0, 1, 2, 3, 6] rfl
                            have hD9 := hD.sub (ws' := [(h0, .inr (13, z_25)), (qf109, .inl (cf109, 96, .inl f109)), (qf100, .inl (cf100, 48000, .inl f100)), (qf127, .inl (cf127, 30, .inl g915_3)), (qf107, .inl (cf107, 96, .inl f107)), (qf102, .inl (cf102, 2048, .inl f102)), (qf111, .inl (cf111, 96, .inl f111)), (qf104, .inl (cf104, 8, .inl f104)), (qf118, .inl (cf118, 2100, .inl g924_1)), (qf119, .inl (cf119, 2100, .inl g924_2)), (qf105, .inl (cf105, 8, .inl f105)), (qf128, .inl (cf128, 31, .inl g915_4)), (qf110, .inl (cf110, 96, .inl f110)), (qf103, .inl (cf103, 8, .inl f103)), (qf106, .inl (cf106, 8, .inl f106)), (qf108, .inl (cf108, 8, .inl f108)), (qf137, .inl (cf137, 6, .inl g915_5))]) [16, 5, 9, 8, 4, 11, 7, 12, 13, 14, 15, 10, 0, 1, 2, 3, 6] (by decide) rfl
                            have hK9 := hK.sub (tys' := [(cf109, .int), (cf100, .int), (cf127, .int), (cf107, .int), (cf102, .int), (cf111, .int), (cf104, .int), (cf118, .int), (cf119, .int), (cf105, .int), (cf128, .int), (cf110, .int), (cf103, .int), (cf106, .int), (cf108, .int), (cf137, .int)]) [5, 9, 8, 4, 11, 7, 12, 13, 14, 15, 10, 0, 1, 2, 3, 6] rfl
                            exact W.zret hx hb hr (by decide) (fun t ht hW => ⟨⟨(0), (z_25), rfl, ⟨⟨rfl, Or.inl rfl⟩, hln_25, hrq_25, hfk_25_117, hfk_25_120, hfk_25_121, hch_25_122, hch_25_123, hch_25_124, hch_25_125, hfk_25_131, hfk_25_136⟩, by rw [ht]; exact hP9, va_K.moved hW.alike hK9, hD9⟩, hS.F ht⟩) hS.2.2 dX13_flows_362
                          · rw [if_neg (by decide)] at hsp
                            have hr0 := Option.some.inj hsp
                            clear hsp
                            obtain ⟨hq0, hr1⟩ := Prod.mk.inj hr0
                            clear hr0
                            obtain ⟨hq1, hr2⟩ := Prod.mk.inj hr1
                            clear hr1
                            obtain ⟨hq2, hr3⟩ := Prod.mk.inj hr2
                            clear hr2
                            obtain ⟨hq3, hr4⟩ := Prod.mk.inj hr3
                            clear hr3
                            obtain ⟨hq4, hr5⟩ := Prod.mk.inj hr4
                            clear hr4
                            obtain ⟨hq5, hr6⟩ := Prod.mk.inj hr5
                            clear hr5
                            obtain ⟨hq6, hr7⟩ := Prod.mk.inj hr6
                            clear hr6
                            obtain ⟨hq7, hr8⟩ := Prod.mk.inj hr7
                            clear hr7
                            obtain ⟨hq8, hr9⟩ := Prod.mk.inj hr8
                            clear hr8
                            obtain ⟨hq9, hr10⟩ := Prod.mk.inj hr9
                            clear hr9
                            obtain ⟨hq10, hr11⟩ := Prod.mk.inj hr10
                            clear hr10
                            obtain ⟨hq11, hr12⟩ := Prod.mk.inj hr11
                            clear hr11
                            obtain ⟨hq12, hr13⟩ := Prod.mk.inj hr12
                            clear hr12
                            obtain ⟨hq13, hr14⟩ := Prod.mk.inj hr13
                            clear hr13
                            subst hq0
                            subst hq1
                            subst hq2
                            subst hq3
                            subst hq4
                            subst hq5
                            subst hq6
                            subst hq7
                            subst hq8
                            subst hq9
                            subst hq10
                            subst hq11
                            subst hq12
                            subst hq13
                            subst hr14
                            have hP9 := hP.sub (ws' := [(h0, .inr (13, z_25)), (qf109, .inl (cf109, 96, .inl f109)), (qf100, .inl (cf100, 48000, .inl f100)), (qf127, .inl (cf127, 30, .inl g915_3)), (qf107, .inl (cf107, 96, .inl f107)), (qf102, .inl (cf102, 2048, .inl f102)), (qf111, .inl (cf111, 96, .inl f111)), (qf104, .inl (cf104, 8, .inl f104)), (qf118, .inl (cf118, 2100, .inl g924_1)), (qf119, .inl (cf119, 2100, .inl g924_2)), (qf105, .inl (cf105, 8, .inl f105)), (qf128, .inl (cf128, 31, .inl g915_4)), (qf110, .inl (cf110, 96, .inl f110)), (qf103, .inl (cf103, 8, .inl f103)), (qf106, .inl (cf106, 8, .inl f106)), (qf108, .inl (cf108, 8, .inl f108)), (qf137, .inl (cf137, 6, .inl g915_5))]) [16, 5, 9, 8, 4, 11, 7, 12, 13, 14, 15, 10, 0, 1, 2, 3, 6] rfl
                            have hD9 := hD.sub (ws' := [(h0, .inr (13, z_25)), (qf109, .inl (cf109, 96, .inl f109)), (qf100, .inl (cf100, 48000, .inl f100)), (qf127, .inl (cf127, 30, .inl g915_3)), (qf107, .inl (cf107, 96, .inl f107)), (qf102, .inl (cf102, 2048, .inl f102)), (qf111, .inl (cf111, 96, .inl f111)), (qf104, .inl (cf104, 8, .inl f104)), (qf118, .inl (cf118, 2100, .inl g924_1)), (qf119, .inl (cf119, 2100, .inl g924_2)), (qf105, .inl (cf105, 8, .inl f105)), (qf128, .inl (cf128, 31, .inl g915_4)), (qf110, .inl (cf110, 96, .inl f110)), (qf103, .inl (cf103, 8, .inl f103)), (qf106, .inl (cf106, 8, .inl f106)), (qf108, .inl (cf108, 8, .inl f108)), (qf137, .inl (cf137, 6, .inl g915_5))]) [16, 5, 9, 8, 4, 11, 7, 12, 13, 14, 15, 10, 0, 1, 2, 3, 6] (by decide) rfl
                            have hK9 := hK.sub (tys' := [(cf109, .int), (cf100, .int), (cf127, .int), (cf107, .int), (cf102, .int), (cf111, .int), (cf104, .int), (cf118, .int), (cf119, .int), (cf105, .int), (cf128, .int), (cf110, .int), (cf103, .int), (cf106, .int), (cf108, .int), (cf137, .int)]) [5, 9, 8, 4, 11, 7, 12, 13, 14, 15, 10, 0, 1, 2, 3, 6] rfl
                            exact W.zret hx hb hr (by decide) (fun t ht hW => ⟨⟨(1), (z_25), rfl, ⟨⟨rfl, Or.inr rfl⟩, hln_25, hrq_25, hfk_25_117, hfk_25_120, hfk_25_121, hch_25_122, hch_25_123, hch_25_124, hch_25_125, hfk_25_131, hfk_25_136⟩, by rw [ht]; exact hP9, va_K.moved hW.alike hK9, hD9⟩, hS.F ht⟩) hS.2.2 dX13_flows_362
                        · rw [if_neg (by decide)] at hsp
                          refine lv_if_ne (tgt := 363) hx hb dX13_flows_349 (by decide) (fun c_58 => ?_) (fun c_58 => (show False by revert c_58; decide).elim)
                          exact hj_363 (H, locs, ls, z_24, l1_240, l2_240, l6_240, u17_0, g924_1, g924_2, g915_3, g915_4, g915_5, u24_3, u24_4, u13_5, x122_240, x123_240, x124_240, x125_240, u15_8, x136_240) ⟨lv_sub hl [2, 3, 4, 5, 1] rfl, hS, hD.sub (ws' := [(h0, .inr (13, z_24)), (qf109, .inl (cf109, 96, .inl f109)), (qf100, .inl (cf100, 48000, .inl f100)), (qf127, .inl (cf127, 30, .inl g915_3)), (qf107, .inl (cf107, 96, .inl f107)), (qf102, .inl (cf102, 2048, .inl f102)), (qf111, .inl (cf111, 96, .inl f111)), (qf104, .inl (cf104, 8, .inl f104)), (qf118, .inl (cf118, 2100, .inl g924_1)), (qf119, .inl (cf119, 2100, .inl g924_2)), (qf105, .inl (cf105, 8, .inl f105)), (qf128, .inl (cf128, 31, .inl g915_4)), (qf110, .inl (cf110, 96, .inl f110)), (qf103, .inl (cf103, 8, .inl f103)), (qf106, .inl (cf106, 8, .inl f106)), (qf108, .inl (cf108, 8, .inl f108)), (qf137, .inl (cf137, 6, .inl g915_5))]) [9, 5, 10, 8, 4, 12, 7, 13, 14, 15, 16, 11, 0, 1, 2, 3, 6] (by decide) rfl, hP.sub (ws' := [(h0, .inr (13, z_24)), (qf109, .inl (cf109, 96, .inl f109)), (qf100, .inl (cf100, 48000, .inl f100)), (qf127, .inl (cf127, 30, .inl g915_3)), (qf107, .inl (cf107, 96, .inl f107)), (qf102, .inl (cf102, 2048, .inl f102)), (qf111, .inl (cf111, 96, .inl f111)), (qf104, .inl (cf104, 8, .inl f104)), (qf118, .inl (cf118, 2100, .inl g924_1)), (qf119, .inl (cf119, 2100, .inl g924_2)), (qf105, .inl (cf105, 8, .inl f105)), (qf128, .inl (cf128, 31, .inl g915_4)), (qf110, .inl (cf110, 96, .inl f110)), (qf103, .inl (cf103, 8, .inl f103)), (qf106, .inl (cf106, 8, .inl f106)), (qf108, .inl (cf108, 8, .inl f108)), (qf137, .inl (cf137, 6, .inl g915_5))]) [9, 5, 10, 8, 4, 12, 7, 13, 14, 15, 16, 11, 0, 1, 2, 3, 6] rfl, hfk_24_98, hfk_24_100, hfk_24_102, hfk_24_103, hfk_24_104, hfk_24_105, hfk_24_106, hfk_24_107, hfk_24_108, hfk_24_109, hfk_24_110, hfk_24_111, hch_24_117, hfk_24_118, hfk_24_119, hch_24_120, hfk_24_121, hfk_24_122, hfk_24_123, hfk_24_124, hfk_24_125, hfk_24_127, hfk_24_128, hfk_24_129, hfk_24_130, hfk_24_131, hfk_24_132, hfk_24_133, hfk_24_134, hfk_24_135, hfk_24_136, hfk_24_137, hln_24, hrq_24, hsp⟩
          intro hj_240
          refine jn_use (α := Heap × List Loc × Array Slot × List Value × Int32 × Int32 × Int32 × Int32 × (Nat → Int32) × (Nat → Int32) × (Nat → Int32) × (Nat → Int32) × (Nat → Int32) × Int32 × Int32 × Int32 × Int32 × Int32 × Int32 × Int32 × Int32 × Int32) (fun x9 => x9.1) (fun x9 => x9.2.1) (fun x9 => F0 m 234 x9.2.2.1 []) (fun x9 => match x9 with | (H, locs, ls, z234, l1_234, l2_234, l6_234, l7_234, g118_234, g119_234, g127_234, g128_234, g137_234, x117_234, x120_234, x121_234, x122_234, x123_234, x124_234, x125_234, x131_234, x136_234) => lv_has ls 10 [(0, .ref h0), (1, .int l1_234), (2, .int l2_234), (6, .int l6_234), (7, .int l7_234)] ∧ va_S A s.heap H locs ∧ va_D A [(h0, .inr (13, z234)), (qf109, .inl (cf109, 96, .inl f109)), (qf100, .inl (cf100, 48000, .inl f100)), (qf127, .inl (cf127, 30, .inl g127_234)), (qf107, .inl (cf107, 96, .inl f107)), (qf102, .inl (cf102, 2048, .inl f102)), (qf111, .inl (cf111, 96, .inl f111)), (qf104, .inl (cf104, 8, .inl f104)), (qf118, .inl (cf118, 2100, .inl g118_234)), (qf119, .inl (cf119, 2100, .inl g119_234)), (qf105, .inl (cf105, 8, .inl f105)), (qf128, .inl (cf128, 31, .inl g128_234)), (qf110, .inl (cf110, 96, .inl f110)), (qf103, .inl (cf103, 8, .inl f103)), (qf106, .inl (cf106, 8, .inl f106)), (qf108, .inl (cf108, 8, .inl f108)), (qf137, .inl (cf137, 6, .inl g137_234))] ∧ va_P (dC, dI) vwCl [(h0, .inr (13, z234)), (qf109, .inl (cf109, 96, .inl f109)), (qf100, .inl (cf100, 48000, .inl f100)), (qf127, .inl (cf127, 30, .inl g127_234)), (qf107, .inl (cf107, 96, .inl f107)), (qf102, .inl (cf102, 2048, .inl f102)), (qf111, .inl (cf111, 96, .inl f111)), (qf104, .inl (cf104, 8, .inl f104)), (qf118, .inl (cf118, 2100, .inl g118_234)), (qf119, .inl (cf119, 2100, .inl g119_234)), (qf105, .inl (cf105, 8, .inl f105)), (qf128, .inl (cf128, 31, .inl g128_234)), (qf110, .inl (cf110, 96, .inl f110)), (qf103, .inl (cf103, 8, .inl f103)), (qf106, .inl (cf106, 8, .inl f106)), (qf108, .inl (cf108, 8, .inl f108)), (qf137, .inl (cf137, 6, .inl g137_234))] H ∧ z234[98]? = some (.int v98) ∧ z234[100]? = some (.ref qf100) ∧ z234[102]? = some (.ref qf102) ∧ z234[103]? = some (.ref qf103) ∧ z234[104]? = some (.ref qf104) ∧ z234[105]? = some (.ref qf105) ∧ z234[106]? = some (.ref qf106) ∧ z234[107]? = some (.ref qf107) ∧ z234[108]? = some (.ref qf108) ∧ z234[109]? = some (.ref qf109) ∧ z234[110]? = some (.ref qf110) ∧ z234[111]? = some (.ref qf111) ∧ z234[117]? = some (.int x117_234) ∧ z234[118]? = some (.ref qf118) ∧ z234[119]? = some (.ref qf119) ∧ z234[120]? = some (.int x120_234) ∧ z234[121]? = some (.int x121_234) ∧ z234[122]? = some (.int x122_234) ∧ z234[123]? = some (.int x123_234) ∧ z234[124]? = some (.int x124_234) ∧ z234[125]? = some (.int x125_234) ∧ z234[127]? = some (.ref qf127) ∧ z234[128]? = some (.ref qf128) ∧ z234[129]? = some (.int v129) ∧ z234[130]? = some (.int v130) ∧ z234[131]? = some (.int x131_234) ∧ z234[132]? = some (.int v132) ∧ z234[133]? = some (.int v133) ∧ z234[134]? = some (.int v134) ∧ z234[135]? = some (.int v135) ∧ z234[136]? = some (.int x136_234) ∧ z234[137]? = some (.ref qf137) ∧ z234.length = 155 ∧ (∀ j : Nat, j ≠ 117 → j ≠ 120 → j ≠ 121 → j ≠ 122 → j ≠ 123 → j ≠ 124 → j ≠ 125 → j ≠ 131 → j ≠ 136 → z234[j]? = zs[j]?) ∧ jn_vm_flows_234 nf a1 a2 v98 v117 v120 v121 v122 v123 v124 v125 v129 v130 v131 v132 v133 v134 v135 v136 f109 f100 f127 f107 f102 f111 f104 f118 f119 f105 f128 f110 f103 f106 f108 f137 nS477 fS477 (lp_vm_flows_155 nf n_155 a1 a2 v98 v117 v120 v121 v122 v123 v124 v125 v129 v130 v131 v132 v133 v134 v135 v136 f109 f100 f127 f107 f102 f111 f104 f118 f119 f105 f128 f110 f103 f106 f108 f137 nS477 fS477) l1_234 l2_234 l6_234 l7_234 g118_234 g119_234 g127_234 g128_234 g137_234 x117_234 x120_234 x121_234 x122_234 x123_234 x124_234 x125_234 x131_234 x136_234 = some (r0, o118, o119, o127, o128, o137, w117, w120, w121, w122, w123, w124, w125, w131, w136)) ?_ ?_
          · intro x9 hJ9
            obtain ⟨H, locs, ls, z234, l1_234, l2_234, l6_234, l7_234, g118_234, g119_234, g127_234, g128_234, g137_234, x117_234, x120_234, x121_234, x122_234, x123_234, x124_234, x125_234, x131_234, x136_234⟩ := x9
            obtain ⟨hl, hS, hD, hP, hfh_234_98, hfh_234_100, hfh_234_102, hfh_234_103, hfh_234_104, hfh_234_105, hfh_234_106, hfh_234_107, hfh_234_108, hfh_234_109, hfh_234_110, hfh_234_111, hfh_234_117, hfh_234_118, hfh_234_119, hfh_234_120, hfh_234_121, hfh_234_122, hfh_234_123, hfh_234_124, hfh_234_125, hfh_234_127, hfh_234_128, hfh_234_129, hfh_234_130, hfh_234_131, hfh_234_132, hfh_234_133, hfh_234_134, hfh_234_135, hfh_234_136, hfh_234_137, hlh_234, hrh_234, hsp⟩ := hJ9
            replace hl : lv_has ls 10 [(0, .ref h0), (1, .int l1_234), (2, .int l2_234), (6, .int l6_234), (7, .int l7_234)] := hl
            replace hS : va_S A s.heap H locs := hS
            replace hD : va_D A [(h0, .inr (13, z234)), (qf109, .inl (cf109, 96, .inl f109)), (qf100, .inl (cf100, 48000, .inl f100)), (qf127, .inl (cf127, 30, .inl g127_234)), (qf107, .inl (cf107, 96, .inl f107)), (qf102, .inl (cf102, 2048, .inl f102)), (qf111, .inl (cf111, 96, .inl f111)), (qf104, .inl (cf104, 8, .inl f104)), (qf118, .inl (cf118, 2100, .inl g118_234)), (qf119, .inl (cf119, 2100, .inl g119_234)), (qf105, .inl (cf105, 8, .inl f105)), (qf128, .inl (cf128, 31, .inl g128_234)), (qf110, .inl (cf110, 96, .inl f110)), (qf103, .inl (cf103, 8, .inl f103)), (qf106, .inl (cf106, 8, .inl f106)), (qf108, .inl (cf108, 8, .inl f108)), (qf137, .inl (cf137, 6, .inl g137_234))] := hD
            replace hP : va_P (dC, dI) vwCl [(h0, .inr (13, z234)), (qf109, .inl (cf109, 96, .inl f109)), (qf100, .inl (cf100, 48000, .inl f100)), (qf127, .inl (cf127, 30, .inl g127_234)), (qf107, .inl (cf107, 96, .inl f107)), (qf102, .inl (cf102, 2048, .inl f102)), (qf111, .inl (cf111, 96, .inl f111)), (qf104, .inl (cf104, 8, .inl f104)), (qf118, .inl (cf118, 2100, .inl g118_234)), (qf119, .inl (cf119, 2100, .inl g119_234)), (qf105, .inl (cf105, 8, .inl f105)), (qf128, .inl (cf128, 31, .inl g128_234)), (qf110, .inl (cf110, 96, .inl f110)), (qf103, .inl (cf103, 8, .inl f103)), (qf106, .inl (cf106, 8, .inl f106)), (qf108, .inl (cf108, 8, .inl f108)), (qf137, .inl (cf137, 6, .inl g137_234))] H := hP
            replace hsp : jn_vm_flows_234 nf a1 a2 v98 v117 v120 v121 v122 v123 v124 v125 v129 v130 v131 v132 v133 v134 v135 v136 f109 f100 f127 f107 f102 f111 f104 f118 f119 f105 f128 f110 f103 f106 f108 f137 nS477 fS477 (lp_vm_flows_155 nf n_155 a1 a2 v98 v117 v120 v121 v122 v123 v124 v125 v129 v130 v131 v132 v133 v134 v135 v136 f109 f100 f127 f107 f102 f111 f104 f118 f119 f105 f128 f110 f103 f106 f108 f137 nS477 fS477) l1_234 l2_234 l6_234 l7_234 g118_234 g119_234 g127_234 g128_234 g137_234 x117_234 x120_234 x121_234 x122_234 x123_234 x124_234 x125_234 x131_234 x136_234 = some (r0, o118, o119, o127, o128, o137, w117, w120, w121, w122, w123, w124, w125, w131, w136) := hsp
            show W _ _ _ _ _ _ _ _ _ _ H locs _ _ _ (F0 m 234 ls [])
            unfold jn_vm_flows_234 at hsp
            try dsimp only at hsp
            refine lv_aload_n hx hb dX13_flows_234 rfl (lv_at hl 0 rfl) ?_
            refine lv_iload hx hb dX13_flows_235 (lv_at hl 4 rfl) ?_
            obtain ⟨⟨g910_0, g910_1, g910_2, g910_3, u10_4, u10_5, u10_6⟩, hu_10, hsp⟩ := ox_bind hsp
            try dsimp only at hsp
            have hPc := hP.sub (ws' := [(h0, .inr (13, z234)), (qf100, .inl (cf100, 48000, .inl f100)), (qf102, .inl (cf102, 2048, .inl f102)), (qf104, .inl (cf104, 8, .inl f104)), (qf118, .inl (cf118, 2100, .inl g118_234)), (qf119, .inl (cf119, 2100, .inl g119_234)), (qf128, .inl (cf128, 31, .inl g128_234)), (qf127, .inl (cf127, 30, .inl g127_234))]) [0, 2, 5, 7, 8, 9, 11, 3] rfl
            have hDc := hD.sub (ws' := [(h0, .inr (13, z234)), (qf100, .inl (cf100, 48000, .inl f100)), (qf102, .inl (cf102, 2048, .inl f102)), (qf104, .inl (cf104, 8, .inl f104)), (qf118, .inl (cf118, 2100, .inl g118_234)), (qf119, .inl (cf119, 2100, .inl g119_234)), (qf128, .inl (cf128, 31, .inl g128_234)), (qf127, .inl (cf127, 30, .inl g127_234))]) [0, 2, 5, 7, 8, 9, 11, 3] (by decide) rfl
            have hKc := hK.sub (tys' := [(cf100, .int), (cf102, .int), (cf104, .int), (cf118, .int), (cf119, .int), (cf128, .int), (cf127, .int)]) [1, 4, 6, 7, 8, 10, 2] rfl
            have hFc := va_free (wc := [(h0, .inr (13, z234)), (qf100, .inl (cf100, 48000, .inl f100)), (qf102, .inl (cf102, 2048, .inl f102)), (qf104, .inl (cf104, 8, .inl f104)), (qf118, .inl (cf118, 2100, .inl g118_234)), (qf119, .inl (cf119, 2100, .inl g119_234)), (qf128, .inl (cf128, 31, .inl g128_234)), (qf127, .inl (cf127, 30, .inl g127_234))]) hD hS hA [0, 2, 5, 7, 8, 9, 11, 3] rfl
            refine va_callv (va_runV (As := [.int l7_234]) (rest := []) ⟨hx, hb, hml, hown, hts⟩ (vm_becomes l dC dI H.size h0 z234 l7_234 v98 qf100 qf102 qf104 x117_234 qf118 qf119 x120_234 qf127 qf128 v129 x131_234 v132 cf100 f100 cf102 f102 cf104 f104 cf118 g118_234 cf119 g119_234 cf128 g128_234 cf127 g127_234 nS477 fS477 hS477 qS477 tS477 nf g910_0 g910_1 g910_2 g910_3 u10_4 u10_5 u10_6 hlh_234 hfh_234_98 hfh_234_100 hfh_234_102 hfh_234_104 hfh_234_117 hfh_234_118 hfh_234_119 hfh_234_120 hfh_234_127 hfh_234_128 hfh_234_129 hfh_234_131 hfh_234_132 hu_10) (cwV 1 hts gv_h9_117 rfl rfl rfl (by decide +kernel) ⟨Nat.le_of_ble_eq_true rfl, Nat.le_of_ble_eq_true rfl⟩) ⟨fun a U g mk q => by obtain ⟨q0, q1, qP, qK, qD, qhZWS477, qhZRS477⟩ := q; exact ⟨q0, q1, qP, va_K.moved (u := U) (U := U.calling g mk a) (Vm.Alike.refl U.vm) qK, qD, pz_W.moved (u := U) (U := U.calling g mk a) (Vm.Alike.refl U.vm) qhZWS477, vk_R.same rfl qhZRS477⟩, va_recv hKc hPc (ci := 13) (q0 := 0) rfl rfl, fun U hU hW => ⟨rfl, by rw [hU], by rw [hU]; exact hPc, va_K.moved hW.alike hKc, hDc.weaken (fun _ _ _ _ => trivial), by rw [hU]; exact ((pz_W.moved hW.alike hZWS477).kept hS.2.1).narrow hFc, vk_R.warm hW hZRS477⟩⟩ rfl rfl hl.1 rfl (lv_room (Nat.le_of_ble_eq_true rfl)) dX13_flows_237 ⟨Nat.le_of_ble_eq_true rfl, Nat.le_of_ble_eq_true rfl⟩) hS (fun q _ h => hFc q h) hFc ?_
            clear hS
            intro u t H1 locs ht hvm hw hB hz1 hk1 hS
            obtain ⟨z_10, rfl⟩ : ∃ z, z = u := ⟨_, rfl⟩
            obtain ⟨hP1, hK1, hD1⟩ := hB
            rw [ht] at hP1
            have hK1 := va_K.moved hvm.symm hK1
            try dsimp only at hw
            have hPD := va_join (wr := [(qf109, .inl (cf109, 96, .inl f109)), (qf107, .inl (cf107, 96, .inl f107)), (qf111, .inl (cf111, 96, .inl f111)), (qf105, .inl (cf105, 8, .inl f105)), (qf110, .inl (cf110, 96, .inl f110)), (qf103, .inl (cf103, 8, .inl f103)), (qf106, .inl (cf106, 8, .inl f106)), (qf108, .inl (cf108, 8, .inl f108)), (qf137, .inl (cf137, 6, .inl g137_234))]) (w1 := [(h0, .inr (13, z_10)), (qf100, .inl (cf100, 48000, .inl f100)), (qf102, .inl (cf102, 2048, .inl f102)), (qf104, .inl (cf104, 8, .inl f104)), (qf118, .inl (cf118, 2100, .inl g910_0)), (qf119, .inl (cf119, 2100, .inl g910_1)), (qf128, .inl (cf128, 31, .inl g910_3)), (qf127, .inl (cf127, 30, .inl g910_2))]) hP hD [0, 2, 5, 7, 8, 9, 11, 3] [1, 4, 6, 10, 12, 13, 14, 15, 16] rfl rfl (by decide) (by decide) hk1 hFc hP1 hD1
            clear hP hD
            obtain ⟨hP, hD⟩ := hPD
            replace hK := (hK.sub (tys' := [(cf109, .int), (cf107, .int), (cf111, .int), (cf105, .int), (cf110, .int), (cf103, .int), (cf106, .int), (cf108, .int), (cf137, .int)]) [0, 3, 5, 9, 11, 12, 13, 14, 15] rfl).app hK1
            clear hPc hDc hKc hFc hP1 hK1 hD1 hz1 hk1 ht hvm
            generalize H1 = H at hP hS ⊢
            replace hP : va_P (dC, dI) vwCl [(qf109, .inl (cf109, 96, .inl f109)), (qf107, .inl (cf107, 96, .inl f107)), (qf111, .inl (cf111, 96, .inl f111)), (qf105, .inl (cf105, 8, .inl f105)), (qf110, .inl (cf110, 96, .inl f110)), (qf103, .inl (cf103, 8, .inl f103)), (qf106, .inl (cf106, 8, .inl f106)), (qf108, .inl (cf108, 8, .inl f108)), (qf137, .inl (cf137, 6, .inl g137_234)), (h0, .inr (13, z_10)), (qf100, .inl (cf100, 48000, .inl f100)), (qf102, .inl (cf102, 2048, .inl f102)), (qf104, .inl (cf104, 8, .inl f104)), (qf118, .inl (cf118, 2100, .inl g910_0)), (qf119, .inl (cf119, 2100, .inl g910_1)), (qf128, .inl (cf128, 31, .inl g910_3)), (qf127, .inl (cf127, 30, .inl g910_2))] H := hP
            replace hD : va_D A [(qf109, .inl (cf109, 96, .inl f109)), (qf107, .inl (cf107, 96, .inl f107)), (qf111, .inl (cf111, 96, .inl f111)), (qf105, .inl (cf105, 8, .inl f105)), (qf110, .inl (cf110, 96, .inl f110)), (qf103, .inl (cf103, 8, .inl f103)), (qf106, .inl (cf106, 8, .inl f106)), (qf108, .inl (cf108, 8, .inl f108)), (qf137, .inl (cf137, 6, .inl g137_234)), (h0, .inr (13, z_10)), (qf100, .inl (cf100, 48000, .inl f100)), (qf102, .inl (cf102, 2048, .inl f102)), (qf104, .inl (cf104, 8, .inl f104)), (qf118, .inl (cf118, 2100, .inl g910_0)), (qf119, .inl (cf119, 2100, .inl g910_1)), (qf128, .inl (cf128, 31, .inl g910_3)), (qf127, .inl (cf127, 30, .inl g910_2))] := hD
            replace hK : va_K (dC, dI) vwCl [(cf109, .int), (cf107, .int), (cf111, .int), (cf105, .int), (cf110, .int), (cf103, .int), (cf106, .int), (cf108, .int), (cf137, .int), (cf100, .int), (cf102, .int), (cf104, .int), (cf118, .int), (cf119, .int), (cf128, .int), (cf127, .int)] s := hK
            obtain ⟨hwa_10, hln_10, hre_10, hch_10_117, hch_10_120, hch_10_131⟩ := hw
            have hfk_10_98 : z_10[98]? = some (.int v98) := (hre_10 98 (by decide) (by decide) (by decide)).trans (hfh_234_98)
            have hfk_10_100 : z_10[100]? = some (.ref qf100) := (hre_10 100 (by decide) (by decide) (by decide)).trans (hfh_234_100)
            have hfk_10_102 : z_10[102]? = some (.ref qf102) := (hre_10 102 (by decide) (by decide) (by decide)).trans (hfh_234_102)
            have hfk_10_103 : z_10[103]? = some (.ref qf103) := (hre_10 103 (by decide) (by decide) (by decide)).trans (hfh_234_103)
            have hfk_10_104 : z_10[104]? = some (.ref qf104) := (hre_10 104 (by decide) (by decide) (by decide)).trans (hfh_234_104)
            have hfk_10_105 : z_10[105]? = some (.ref qf105) := (hre_10 105 (by decide) (by decide) (by decide)).trans (hfh_234_105)
            have hfk_10_106 : z_10[106]? = some (.ref qf106) := (hre_10 106 (by decide) (by decide) (by decide)).trans (hfh_234_106)
            have hfk_10_107 : z_10[107]? = some (.ref qf107) := (hre_10 107 (by decide) (by decide) (by decide)).trans (hfh_234_107)
            have hfk_10_108 : z_10[108]? = some (.ref qf108) := (hre_10 108 (by decide) (by decide) (by decide)).trans (hfh_234_108)
            have hfk_10_109 : z_10[109]? = some (.ref qf109) := (hre_10 109 (by decide) (by decide) (by decide)).trans (hfh_234_109)
            have hfk_10_110 : z_10[110]? = some (.ref qf110) := (hre_10 110 (by decide) (by decide) (by decide)).trans (hfh_234_110)
            have hfk_10_111 : z_10[111]? = some (.ref qf111) := (hre_10 111 (by decide) (by decide) (by decide)).trans (hfh_234_111)
            have hfk_10_118 : z_10[118]? = some (.ref qf118) := (hre_10 118 (by decide) (by decide) (by decide)).trans (hfh_234_118)
            have hfk_10_119 : z_10[119]? = some (.ref qf119) := (hre_10 119 (by decide) (by decide) (by decide)).trans (hfh_234_119)
            have hfk_10_121 : z_10[121]? = some (.int x121_234) := (hre_10 121 (by decide) (by decide) (by decide)).trans (hfh_234_121)
            have hfk_10_122 : z_10[122]? = some (.int x122_234) := (hre_10 122 (by decide) (by decide) (by decide)).trans (hfh_234_122)
            have hfk_10_123 : z_10[123]? = some (.int x123_234) := (hre_10 123 (by decide) (by decide) (by decide)).trans (hfh_234_123)
            have hfk_10_124 : z_10[124]? = some (.int x124_234) := (hre_10 124 (by decide) (by decide) (by decide)).trans (hfh_234_124)
            have hfk_10_125 : z_10[125]? = some (.int x125_234) := (hre_10 125 (by decide) (by decide) (by decide)).trans (hfh_234_125)
            have hfk_10_127 : z_10[127]? = some (.ref qf127) := (hre_10 127 (by decide) (by decide) (by decide)).trans (hfh_234_127)
            have hfk_10_128 : z_10[128]? = some (.ref qf128) := (hre_10 128 (by decide) (by decide) (by decide)).trans (hfh_234_128)
            have hfk_10_129 : z_10[129]? = some (.int v129) := (hre_10 129 (by decide) (by decide) (by decide)).trans (hfh_234_129)
            have hfk_10_130 : z_10[130]? = some (.int v130) := (hre_10 130 (by decide) (by decide) (by decide)).trans (hfh_234_130)
            have hfk_10_132 : z_10[132]? = some (.int v132) := (hre_10 132 (by decide) (by decide) (by decide)).trans (hfh_234_132)
            have hfk_10_133 : z_10[133]? = some (.int v133) := (hre_10 133 (by decide) (by decide) (by decide)).trans (hfh_234_133)
            have hfk_10_134 : z_10[134]? = some (.int v134) := (hre_10 134 (by decide) (by decide) (by decide)).trans (hfh_234_134)
            have hfk_10_135 : z_10[135]? = some (.int v135) := (hre_10 135 (by decide) (by decide) (by decide)).trans (hfh_234_135)
            have hfk_10_136 : z_10[136]? = some (.int x136_234) := (hre_10 136 (by decide) (by decide) (by decide)).trans (hfh_234_136)
            have hfk_10_137 : z_10[137]? = some (.ref qf137) := (hre_10 137 (by decide) (by decide) (by decide)).trans (hfh_234_137)
            have hrq_10 : ∀ j : Nat, j ≠ 117 → j ≠ 120 → j ≠ 121 → j ≠ 122 → j ≠ 123 → j ≠ 124 → j ≠ 125 → j ≠ 131 → j ≠ 136 → z_10[j]? = zs[j]? := fun j g117 g120 g121 g122 g123 g124 g125 g131 g136 => (hre_10 j g117 g120 g131).trans (hrh_234 j g117 g120 g121 g122 g123 g124 g125 g131 g136)
            exact hj_240 (H, locs, ls, z_10, l1_234, l2_234, l6_234, g910_0, g910_1, g910_2, g910_3, g137_234, u10_4, u10_5, x121_234, x122_234, x123_234, x124_234, x125_234, u10_6, x136_234) ⟨lv_sub hl [0, 1, 2, 3] rfl, hS, hD.sub (ws' := [(h0, .inr (13, z_10)), (qf109, .inl (cf109, 96, .inl f109)), (qf100, .inl (cf100, 48000, .inl f100)), (qf127, .inl (cf127, 30, .inl g910_2)), (qf107, .inl (cf107, 96, .inl f107)), (qf102, .inl (cf102, 2048, .inl f102)), (qf111, .inl (cf111, 96, .inl f111)), (qf104, .inl (cf104, 8, .inl f104)), (qf118, .inl (cf118, 2100, .inl g910_0)), (qf119, .inl (cf119, 2100, .inl g910_1)), (qf105, .inl (cf105, 8, .inl f105)), (qf128, .inl (cf128, 31, .inl g910_3)), (qf110, .inl (cf110, 96, .inl f110)), (qf103, .inl (cf103, 8, .inl f103)), (qf106, .inl (cf106, 8, .inl f106)), (qf108, .inl (cf108, 8, .inl f108)), (qf137, .inl (cf137, 6, .inl g137_234))]) [9, 0, 10, 16, 1, 11, 2, 12, 13, 14, 3, 15, 4, 5, 6, 7, 8] (by decide) rfl, hP.sub (ws' := [(h0, .inr (13, z_10)), (qf109, .inl (cf109, 96, .inl f109)), (qf100, .inl (cf100, 48000, .inl f100)), (qf127, .inl (cf127, 30, .inl g910_2)), (qf107, .inl (cf107, 96, .inl f107)), (qf102, .inl (cf102, 2048, .inl f102)), (qf111, .inl (cf111, 96, .inl f111)), (qf104, .inl (cf104, 8, .inl f104)), (qf118, .inl (cf118, 2100, .inl g910_0)), (qf119, .inl (cf119, 2100, .inl g910_1)), (qf105, .inl (cf105, 8, .inl f105)), (qf128, .inl (cf128, 31, .inl g910_3)), (qf110, .inl (cf110, 96, .inl f110)), (qf103, .inl (cf103, 8, .inl f103)), (qf106, .inl (cf106, 8, .inl f106)), (qf108, .inl (cf108, 8, .inl f108)), (qf137, .inl (cf137, 6, .inl g137_234))]) [9, 0, 10, 16, 1, 11, 2, 12, 13, 14, 3, 15, 4, 5, 6, 7, 8] rfl, hfk_10_98, hfk_10_100, hfk_10_102, hfk_10_103, hfk_10_104, hfk_10_105, hfk_10_106, hfk_10_107, hfk_10_108, hfk_10_109, hfk_10_110, hfk_10_111, hch_10_117, hfk_10_118, hfk_10_119, hch_10_120, hfk_10_121, hfk_10_122, hfk_10_123, hfk_10_124, hfk_10_125, hfk_10_127, hfk_10_128, hfk_10_129, hfk_10_130, hch_10_131, hfk_10_132, hfk_10_133, hfk_10_134, hfk_10_135, hfk_10_136, hfk_10_137, hln_10, hrq_10, hsp⟩
          intro hj_234
          refine jn_use (α := Heap × List Loc × Array Slot × List Value × Int32 × Int32 × Int32 × Int32 × Int32 × (Nat → Int32) × (Nat → Int32) × (Nat → Int32) × (Nat → Int32) × (Nat → Int32) × Int32 × Int32 × Int32 × Int32 × Int32 × Int32 × Int32 × Int32 × Int32) (fun x9 => x9.1) (fun x9 => x9.2.1) (fun x9 => F0 m 194 x9.2.2.1 []) (fun x9 => match x9 with | (H, locs, ls, z194, l1_194, l2_194, l5_194, l6_194, l7_194, g118_194, g119_194, g127_194, g128_194, g137_194, x117_194, x120_194, x121_194, x122_194, x123_194, x124_194, x125_194, x131_194, x136_194) => lv_has ls 10 [(0, .ref h0), (1, .int l1_194), (2, .int l2_194), (5, .int l5_194), (6, .int l6_194), (7, .int l7_194)] ∧ va_S A s.heap H locs ∧ va_D A [(h0, .inr (13, z194)), (qf109, .inl (cf109, 96, .inl f109)), (qf100, .inl (cf100, 48000, .inl f100)), (qf127, .inl (cf127, 30, .inl g127_194)), (qf107, .inl (cf107, 96, .inl f107)), (qf102, .inl (cf102, 2048, .inl f102)), (qf111, .inl (cf111, 96, .inl f111)), (qf104, .inl (cf104, 8, .inl f104)), (qf118, .inl (cf118, 2100, .inl g118_194)), (qf119, .inl (cf119, 2100, .inl g119_194)), (qf105, .inl (cf105, 8, .inl f105)), (qf128, .inl (cf128, 31, .inl g128_194)), (qf110, .inl (cf110, 96, .inl f110)), (qf103, .inl (cf103, 8, .inl f103)), (qf106, .inl (cf106, 8, .inl f106)), (qf108, .inl (cf108, 8, .inl f108)), (qf137, .inl (cf137, 6, .inl g137_194))] ∧ va_P (dC, dI) vwCl [(h0, .inr (13, z194)), (qf109, .inl (cf109, 96, .inl f109)), (qf100, .inl (cf100, 48000, .inl f100)), (qf127, .inl (cf127, 30, .inl g127_194)), (qf107, .inl (cf107, 96, .inl f107)), (qf102, .inl (cf102, 2048, .inl f102)), (qf111, .inl (cf111, 96, .inl f111)), (qf104, .inl (cf104, 8, .inl f104)), (qf118, .inl (cf118, 2100, .inl g118_194)), (qf119, .inl (cf119, 2100, .inl g119_194)), (qf105, .inl (cf105, 8, .inl f105)), (qf128, .inl (cf128, 31, .inl g128_194)), (qf110, .inl (cf110, 96, .inl f110)), (qf103, .inl (cf103, 8, .inl f103)), (qf106, .inl (cf106, 8, .inl f106)), (qf108, .inl (cf108, 8, .inl f108)), (qf137, .inl (cf137, 6, .inl g137_194))] H ∧ z194[98]? = some (.int v98) ∧ z194[100]? = some (.ref qf100) ∧ z194[102]? = some (.ref qf102) ∧ z194[103]? = some (.ref qf103) ∧ z194[104]? = some (.ref qf104) ∧ z194[105]? = some (.ref qf105) ∧ z194[106]? = some (.ref qf106) ∧ z194[107]? = some (.ref qf107) ∧ z194[108]? = some (.ref qf108) ∧ z194[109]? = some (.ref qf109) ∧ z194[110]? = some (.ref qf110) ∧ z194[111]? = some (.ref qf111) ∧ z194[117]? = some (.int x117_194) ∧ z194[118]? = some (.ref qf118) ∧ z194[119]? = some (.ref qf119) ∧ z194[120]? = some (.int x120_194) ∧ z194[121]? = some (.int x121_194) ∧ z194[122]? = some (.int x122_194) ∧ z194[123]? = some (.int x123_194) ∧ z194[124]? = some (.int x124_194) ∧ z194[125]? = some (.int x125_194) ∧ z194[127]? = some (.ref qf127) ∧ z194[128]? = some (.ref qf128) ∧ z194[129]? = some (.int v129) ∧ z194[130]? = some (.int v130) ∧ z194[131]? = some (.int x131_194) ∧ z194[132]? = some (.int v132) ∧ z194[133]? = some (.int v133) ∧ z194[134]? = some (.int v134) ∧ z194[135]? = some (.int v135) ∧ z194[136]? = some (.int x136_194) ∧ z194[137]? = some (.ref qf137) ∧ z194.length = 155 ∧ (∀ j : Nat, j ≠ 117 → j ≠ 120 → j ≠ 121 → j ≠ 122 → j ≠ 123 → j ≠ 124 → j ≠ 125 → j ≠ 131 → j ≠ 136 → z194[j]? = zs[j]?) ∧ jn_vm_flows_194 nf a1 a2 v98 v117 v120 v121 v122 v123 v124 v125 v129 v130 v131 v132 v133 v134 v135 v136 f109 f100 f127 f107 f102 f111 f104 f118 f119 f105 f128 f110 f103 f106 f108 f137 nS477 fS477 (lp_vm_flows_155 nf n_155 a1 a2 v98 v117 v120 v121 v122 v123 v124 v125 v129 v130 v131 v132 v133 v134 v135 v136 f109 f100 f127 f107 f102 f111 f104 f118 f119 f105 f128 f110 f103 f106 f108 f137 nS477 fS477) l1_194 l2_194 l5_194 l6_194 l7_194 g118_194 g119_194 g127_194 g128_194 g137_194 x117_194 x120_194 x121_194 x122_194 x123_194 x124_194 x125_194 x131_194 x136_194 = some (r0, o118, o119, o127, o128, o137, w117, w120, w121, w122, w123, w124, w125, w131, w136)) ?_ ?_
          · intro x9 hJ9
            obtain ⟨H, locs, ls, z194, l1_194, l2_194, l5_194, l6_194, l7_194, g118_194, g119_194, g127_194, g128_194, g137_194, x117_194, x120_194, x121_194, x122_194, x123_194, x124_194, x125_194, x131_194, x136_194⟩ := x9
            obtain ⟨hl, hS, hD, hP, hfh_194_98, hfh_194_100, hfh_194_102, hfh_194_103, hfh_194_104, hfh_194_105, hfh_194_106, hfh_194_107, hfh_194_108, hfh_194_109, hfh_194_110, hfh_194_111, hfh_194_117, hfh_194_118, hfh_194_119, hfh_194_120, hfh_194_121, hfh_194_122, hfh_194_123, hfh_194_124, hfh_194_125, hfh_194_127, hfh_194_128, hfh_194_129, hfh_194_130, hfh_194_131, hfh_194_132, hfh_194_133, hfh_194_134, hfh_194_135, hfh_194_136, hfh_194_137, hlh_194, hrh_194, hsp⟩ := hJ9
            replace hl : lv_has ls 10 [(0, .ref h0), (1, .int l1_194), (2, .int l2_194), (5, .int l5_194), (6, .int l6_194), (7, .int l7_194)] := hl
            replace hS : va_S A s.heap H locs := hS
            replace hD : va_D A [(h0, .inr (13, z194)), (qf109, .inl (cf109, 96, .inl f109)), (qf100, .inl (cf100, 48000, .inl f100)), (qf127, .inl (cf127, 30, .inl g127_194)), (qf107, .inl (cf107, 96, .inl f107)), (qf102, .inl (cf102, 2048, .inl f102)), (qf111, .inl (cf111, 96, .inl f111)), (qf104, .inl (cf104, 8, .inl f104)), (qf118, .inl (cf118, 2100, .inl g118_194)), (qf119, .inl (cf119, 2100, .inl g119_194)), (qf105, .inl (cf105, 8, .inl f105)), (qf128, .inl (cf128, 31, .inl g128_194)), (qf110, .inl (cf110, 96, .inl f110)), (qf103, .inl (cf103, 8, .inl f103)), (qf106, .inl (cf106, 8, .inl f106)), (qf108, .inl (cf108, 8, .inl f108)), (qf137, .inl (cf137, 6, .inl g137_194))] := hD
            replace hP : va_P (dC, dI) vwCl [(h0, .inr (13, z194)), (qf109, .inl (cf109, 96, .inl f109)), (qf100, .inl (cf100, 48000, .inl f100)), (qf127, .inl (cf127, 30, .inl g127_194)), (qf107, .inl (cf107, 96, .inl f107)), (qf102, .inl (cf102, 2048, .inl f102)), (qf111, .inl (cf111, 96, .inl f111)), (qf104, .inl (cf104, 8, .inl f104)), (qf118, .inl (cf118, 2100, .inl g118_194)), (qf119, .inl (cf119, 2100, .inl g119_194)), (qf105, .inl (cf105, 8, .inl f105)), (qf128, .inl (cf128, 31, .inl g128_194)), (qf110, .inl (cf110, 96, .inl f110)), (qf103, .inl (cf103, 8, .inl f103)), (qf106, .inl (cf106, 8, .inl f106)), (qf108, .inl (cf108, 8, .inl f108)), (qf137, .inl (cf137, 6, .inl g137_194))] H := hP
            replace hsp : jn_vm_flows_194 nf a1 a2 v98 v117 v120 v121 v122 v123 v124 v125 v129 v130 v131 v132 v133 v134 v135 v136 f109 f100 f127 f107 f102 f111 f104 f118 f119 f105 f128 f110 f103 f106 f108 f137 nS477 fS477 (lp_vm_flows_155 nf n_155 a1 a2 v98 v117 v120 v121 v122 v123 v124 v125 v129 v130 v131 v132 v133 v134 v135 v136 f109 f100 f127 f107 f102 f111 f104 f118 f119 f105 f128 f110 f103 f106 f108 f137 nS477 fS477) l1_194 l2_194 l5_194 l6_194 l7_194 g118_194 g119_194 g127_194 g128_194 g137_194 x117_194 x120_194 x121_194 x122_194 x123_194 x124_194 x125_194 x131_194 x136_194 = some (r0, o118, o119, o127, o128, o137, w117, w120, w121, w122, w123, w124, w125, w131, w136) := hsp
            show W _ _ _ _ _ _ _ _ _ _ H locs _ _ _ (F0 m 194 ls [])
            unfold jn_vm_flows_194 at hsp
            try dsimp only at hsp
            refine lv_iload hx hb dX13_flows_194 (lv_at hl 5 rfl) ?_
            refine lv_iconst (v := (-1)) hx hb dX13_flows_196 (by decide) ?_
            refine lv_icmp_eq (tgt := 240) hx hb dX13_flows_197 (by decide) (fun c_21 => ?_) (fun c_21 => ?_)
            · rw [if_pos c_21] at hsp
              exact hj_240 (H, locs, ls, z194, l1_194, l2_194, l6_194, g118_194, g119_194, g127_194, g128_194, g137_194, x117_194, x120_194, x121_194, x122_194, x123_194, x124_194, x125_194, x131_194, x136_194) ⟨lv_sub hl [0, 1, 2, 4] rfl, hS, hD.sub (ws' := [(h0, .inr (13, z194)), (qf109, .inl (cf109, 96, .inl f109)), (qf100, .inl (cf100, 48000, .inl f100)), (qf127, .inl (cf127, 30, .inl g127_194)), (qf107, .inl (cf107, 96, .inl f107)), (qf102, .inl (cf102, 2048, .inl f102)), (qf111, .inl (cf111, 96, .inl f111)), (qf104, .inl (cf104, 8, .inl f104)), (qf118, .inl (cf118, 2100, .inl g118_194)), (qf119, .inl (cf119, 2100, .inl g119_194)), (qf105, .inl (cf105, 8, .inl f105)), (qf128, .inl (cf128, 31, .inl g128_194)), (qf110, .inl (cf110, 96, .inl f110)), (qf103, .inl (cf103, 8, .inl f103)), (qf106, .inl (cf106, 8, .inl f106)), (qf108, .inl (cf108, 8, .inl f108)), (qf137, .inl (cf137, 6, .inl g137_194))]) [0, 1, 2, 3, 4, 5, 6, 7, 8, 9, 10, 11, 12, 13, 14, 15, 16] (by decide) rfl, hP.sub (ws' := [(h0, .inr (13, z194)), (qf109, .inl (cf109, 96, .inl f109)), (qf100, .inl (cf100, 48000, .inl f100)), (qf127, .inl (cf127, 30, .inl g127_194)), (qf107, .inl (cf107, 96, .inl f107)), (qf102, .inl (cf102, 2048, .inl f102)), (qf111, .inl (cf111, 96, .inl f111)), (qf104, .inl (cf104, 8, .inl f104)), (qf118, .inl (cf118, 2100, .inl g118_194)), (qf119, .inl (cf119, 2100, .inl g119_194)), (qf105, .inl (cf105, 8, .inl f105)), (qf128, .inl (cf128, 31, .inl g128_194)), (qf110, .inl (cf110, 96, .inl f110)), (qf103, .inl (cf103, 8, .inl f103)), (qf106, .inl (cf106, 8, .inl f106)), (qf108, .inl (cf108, 8, .inl f108)), (qf137, .inl (cf137, 6, .inl g137_194))]) [0, 1, 2, 3, 4, 5, 6, 7, 8, 9, 10, 11, 12, 13, 14, 15, 16] rfl, hfh_194_98, hfh_194_100, hfh_194_102, hfh_194_103, hfh_194_104, hfh_194_105, hfh_194_106, hfh_194_107, hfh_194_108, hfh_194_109, hfh_194_110, hfh_194_111, hfh_194_117, hfh_194_118, hfh_194_119, hfh_194_120, hfh_194_121, hfh_194_122, hfh_194_123, hfh_194_124, hfh_194_125, hfh_194_127, hfh_194_128, hfh_194_129, hfh_194_130, hfh_194_131, hfh_194_132, hfh_194_133, hfh_194_134, hfh_194_135, hfh_194_136, hfh_194_137, hlh_194, hrh_194, hsp⟩
            · rw [if_neg c_21] at hsp
              refine lv_iload hx hb dX13_flows_200 (lv_at hl 3 rfl) ?_
              refine lv_if_eq (tgt := 234) hx hb dX13_flows_202 (by decide) (fun c_22 => ?_) (fun c_22 => ?_)
              · rw [if_pos c_22] at hsp
                exact hj_234 (H, locs, ls, z194, l1_194, l2_194, l6_194, l7_194, g118_194, g119_194, g127_194, g128_194, g137_194, x117_194, x120_194, x121_194, x122_194, x123_194, x124_194, x125_194, x131_194, x136_194) ⟨lv_sub hl [0, 1, 2, 4, 5] rfl, hS, hD.sub (ws' := [(h0, .inr (13, z194)), (qf109, .inl (cf109, 96, .inl f109)), (qf100, .inl (cf100, 48000, .inl f100)), (qf127, .inl (cf127, 30, .inl g127_194)), (qf107, .inl (cf107, 96, .inl f107)), (qf102, .inl (cf102, 2048, .inl f102)), (qf111, .inl (cf111, 96, .inl f111)), (qf104, .inl (cf104, 8, .inl f104)), (qf118, .inl (cf118, 2100, .inl g118_194)), (qf119, .inl (cf119, 2100, .inl g119_194)), (qf105, .inl (cf105, 8, .inl f105)), (qf128, .inl (cf128, 31, .inl g128_194)), (qf110, .inl (cf110, 96, .inl f110)), (qf103, .inl (cf103, 8, .inl f103)), (qf106, .inl (cf106, 8, .inl f106)), (qf108, .inl (cf108, 8, .inl f108)), (qf137, .inl (cf137, 6, .inl g137_194))]) [0, 1, 2, 3, 4, 5, 6, 7, 8, 9, 10, 11, 12, 13, 14, 15, 16] (by decide) rfl, hP.sub (ws' := [(h0, .inr (13, z194)), (qf109, .inl (cf109, 96, .inl f109)), (qf100, .inl (cf100, 48000, .inl f100)), (qf127, .inl (cf127, 30, .inl g127_194)), (qf107, .inl (cf107, 96, .inl f107)), (qf102, .inl (cf102, 2048, .inl f102)), (qf111, .inl (cf111, 96, .inl f111)), (qf104, .inl (cf104, 8, .inl f104)), (qf118, .inl (cf118, 2100, .inl g118_194)), (qf119, .inl (cf119, 2100, .inl g119_194)), (qf105, .inl (cf105, 8, .inl f105)), (qf128, .inl (cf128, 31, .inl g128_194)), (qf110, .inl (cf110, 96, .inl f110)), (qf103, .inl (cf103, 8, .inl f103)), (qf106, .inl (cf106, 8, .inl f106)), (qf108, .inl (cf108, 8, .inl f108)), (qf137, .inl (cf137, 6, .inl g137_194))]) [0, 1, 2, 3, 4, 5, 6, 7, 8, 9, 10, 11, 12, 13, 14, 15, 16] rfl, hfh_194_98, hfh_194_100, hfh_194_102, hfh_194_103, hfh_194_104, hfh_194_105, hfh_194_106, hfh_194_107, hfh_194_108, hfh_194_109, hfh_194_110, hfh_194_111, hfh_194_117, hfh_194_118, hfh_194_119, hfh_194_120, hfh_194_121, hfh_194_122, hfh_194_123, hfh_194_124, hfh_194_125, hfh_194_127, hfh_194_128, hfh_194_129, hfh_194_130, hfh_194_131, hfh_194_132, hfh_194_133, hfh_194_134, hfh_194_135, hfh_194_136, hfh_194_137, hlh_194, hrh_194, hsp⟩
              · rw [if_neg c_22] at hsp
                refine lv_aload_n hx hb dX13_flows_205 rfl (lv_at hl 0 rfl) ?_
                refine lv_iload hx hb dX13_flows_206 (lv_at hl 5 rfl) ?_
                obtain ⟨⟨u6_0, g906_1, g906_2, u6_3, u6_4⟩, hu_6, hsp⟩ := ox_bind hsp
                try dsimp only at hsp
                have hPc := hP.sub (ws' := [(h0, .inr (13, z194)), (qf100, .inl (cf100, 48000, .inl f100)), (qf127, .inl (cf127, 30, .inl g127_194)), (qf102, .inl (cf102, 2048, .inl f102)), (qf104, .inl (cf104, 8, .inl f104)), (qf118, .inl (cf118, 2100, .inl g118_194)), (qf119, .inl (cf119, 2100, .inl g119_194)), (qf105, .inl (cf105, 8, .inl f105))]) [0, 2, 3, 5, 7, 8, 9, 10] rfl
                have hDc := hD.sub (ws' := [(h0, .inr (13, z194)), (qf100, .inl (cf100, 48000, .inl f100)), (qf127, .inl (cf127, 30, .inl g127_194)), (qf102, .inl (cf102, 2048, .inl f102)), (qf104, .inl (cf104, 8, .inl f104)), (qf118, .inl (cf118, 2100, .inl g118_194)), (qf119, .inl (cf119, 2100, .inl g119_194)), (qf105, .inl (cf105, 8, .inl f105))]) [0, 2, 3, 5, 7, 8, 9, 10] (by decide) rfl
                have hKc := hK.sub (tys' := [(cf100, .int), (cf127, .int), (cf102, .int), (cf104, .int), (cf118, .int), (cf119, .int), (cf105, .int)]) [1, 2, 4, 6, 7, 8, 9] rfl
                have hFc := va_free (wc := [(h0, .inr (13, z194)), (qf100, .inl (cf100, 48000, .inl f100)), (qf127, .inl (cf127, 30, .inl g127_194)), (qf102, .inl (cf102, 2048, .inl f102)), (qf104, .inl (cf104, 8, .inl f104)), (qf118, .inl (cf118, 2100, .inl g118_194)), (qf119, .inl (cf119, 2100, .inl g119_194)), (qf105, .inl (cf105, 8, .inl f105))]) hD hS hA [0, 2, 3, 5, 7, 8, 9, 10] rfl
                refine va_calli (va_runV (As := [.int l7_194]) (rest := []) ⟨hx, hb, hml, hown, hts⟩ (vm_localsFit l dC dI H.size h0 z194 l7_194 v98 qf100 qf102 qf104 qf105 x117_194 qf118 qf119 x120_194 qf127 v132 cf100 f100 cf127 g127_194 cf102 f102 cf104 f104 cf118 g118_194 cf119 g119_194 cf105 f105 nS477 fS477 hS477 qS477 tS477 nf u6_0 g906_1 g906_2 u6_3 u6_4 hlh_194 hfh_194_98 hfh_194_100 hfh_194_102 hfh_194_104 hfh_194_105 hfh_194_117 hfh_194_118 hfh_194_119 hfh_194_120 hfh_194_127 hfh_194_132 hu_6) (cwV 1 hts gv_h9_115 rfl rfl rfl (by decide +kernel) ⟨Nat.le_of_ble_eq_true rfl, Nat.le_of_ble_eq_true rfl⟩) ⟨fun a U g mk q => by obtain ⟨q0, q1, qP, qK, qD, qhZWS477, qhZRS477⟩ := q; exact ⟨q0, q1, qP, va_K.moved (u := U) (U := U.calling g mk a) (Vm.Alike.refl U.vm) qK, qD, pz_W.moved (u := U) (U := U.calling g mk a) (Vm.Alike.refl U.vm) qhZWS477, vk_R.same rfl qhZRS477⟩, va_recv hKc hPc (ci := 13) (q0 := 0) rfl rfl, fun U hU hW => ⟨rfl, by rw [hU], by rw [hU]; exact hPc, va_K.moved hW.alike hKc, hDc.weaken (fun _ _ _ _ => trivial), by rw [hU]; exact ((pz_W.moved hW.alike hZWS477).kept hS.2.1).narrow hFc, vk_R.warm hW hZRS477⟩⟩ rfl rfl hl.1 rfl (lv_room (Nat.le_of_ble_eq_true rfl)) dX13_flows_208 ⟨Nat.le_of_ble_eq_true rfl, Nat.le_of_ble_eq_true rfl⟩) hS (fun q _ h => hFc q h) hFc ?_
                clear hS
                intro r_23 u t H1 locs ht hvm hw hB hz1 hk1 hS
                obtain ⟨z_6, rfl⟩ : ∃ z, z = u := ⟨_, rfl⟩
                obtain ⟨hP1, hK1, hD1⟩ := hB
                rw [ht] at hP1
                have hK1 := va_K.moved hvm.symm hK1
                try dsimp only at hw
                have hPD := va_join (wr := [(qf109, .inl (cf109, 96, .inl f109)), (qf107, .inl (cf107, 96, .inl f107)), (qf111, .inl (cf111, 96, .inl f111)), (qf128, .inl (cf128, 31, .inl g128_194)), (qf110, .inl (cf110, 96, .inl f110)), (qf103, .inl (cf103, 8, .inl f103)), (qf106, .inl (cf106, 8, .inl f106)), (qf108, .inl (cf108, 8, .inl f108)), (qf137, .inl (cf137, 6, .inl g137_194))]) (w1 := [(h0, .inr (13, z_6)), (qf100, .inl (cf100, 48000, .inl f100)), (qf127, .inl (cf127, 30, .inl g127_194)), (qf102, .inl (cf102, 2048, .inl f102)), (qf104, .inl (cf104, 8, .inl f104)), (qf118, .inl (cf118, 2100, .inl g906_1)), (qf119, .inl (cf119, 2100, .inl g906_2)), (qf105, .inl (cf105, 8, .inl f105))]) hP hD [0, 2, 3, 5, 7, 8, 9, 10] [1, 4, 6, 11, 12, 13, 14, 15, 16] rfl rfl (by decide) (by decide) hk1 hFc hP1 hD1
                clear hP hD
                obtain ⟨hP, hD⟩ := hPD
                replace hK := (hK.sub (tys' := [(cf109, .int), (cf107, .int), (cf111, .int), (cf128, .int), (cf110, .int), (cf103, .int), (cf106, .int), (cf108, .int), (cf137, .int)]) [0, 3, 5, 10, 11, 12, 13, 14, 15] rfl).app hK1
                clear hPc hDc hKc hFc hP1 hK1 hD1 hz1 hk1 ht hvm
                generalize H1 = H at hP hS ⊢
                replace hP : va_P (dC, dI) vwCl [(qf109, .inl (cf109, 96, .inl f109)), (qf107, .inl (cf107, 96, .inl f107)), (qf111, .inl (cf111, 96, .inl f111)), (qf128, .inl (cf128, 31, .inl g128_194)), (qf110, .inl (cf110, 96, .inl f110)), (qf103, .inl (cf103, 8, .inl f103)), (qf106, .inl (cf106, 8, .inl f106)), (qf108, .inl (cf108, 8, .inl f108)), (qf137, .inl (cf137, 6, .inl g137_194)), (h0, .inr (13, z_6)), (qf100, .inl (cf100, 48000, .inl f100)), (qf127, .inl (cf127, 30, .inl g127_194)), (qf102, .inl (cf102, 2048, .inl f102)), (qf104, .inl (cf104, 8, .inl f104)), (qf118, .inl (cf118, 2100, .inl g906_1)), (qf119, .inl (cf119, 2100, .inl g906_2)), (qf105, .inl (cf105, 8, .inl f105))] H := hP
                replace hD : va_D A [(qf109, .inl (cf109, 96, .inl f109)), (qf107, .inl (cf107, 96, .inl f107)), (qf111, .inl (cf111, 96, .inl f111)), (qf128, .inl (cf128, 31, .inl g128_194)), (qf110, .inl (cf110, 96, .inl f110)), (qf103, .inl (cf103, 8, .inl f103)), (qf106, .inl (cf106, 8, .inl f106)), (qf108, .inl (cf108, 8, .inl f108)), (qf137, .inl (cf137, 6, .inl g137_194)), (h0, .inr (13, z_6)), (qf100, .inl (cf100, 48000, .inl f100)), (qf127, .inl (cf127, 30, .inl g127_194)), (qf102, .inl (cf102, 2048, .inl f102)), (qf104, .inl (cf104, 8, .inl f104)), (qf118, .inl (cf118, 2100, .inl g906_1)), (qf119, .inl (cf119, 2100, .inl g906_2)), (qf105, .inl (cf105, 8, .inl f105))] := hD
                replace hK : va_K (dC, dI) vwCl [(cf109, .int), (cf107, .int), (cf111, .int), (cf128, .int), (cf110, .int), (cf103, .int), (cf106, .int), (cf108, .int), (cf137, .int), (cf100, .int), (cf127, .int), (cf102, .int), (cf104, .int), (cf118, .int), (cf119, .int), (cf105, .int)] s := hK
                obtain ⟨hwa_6, hln_6, hre_6, hch_6_117, hch_6_120⟩ := hw
                have hfk_6_98 : z_6[98]? = some (.int v98) := (hre_6 98 (by decide) (by decide)).trans (hfh_194_98)
                have hfk_6_100 : z_6[100]? = some (.ref qf100) := (hre_6 100 (by decide) (by decide)).trans (hfh_194_100)
                have hfk_6_102 : z_6[102]? = some (.ref qf102) := (hre_6 102 (by decide) (by decide)).trans (hfh_194_102)
                have hfk_6_103 : z_6[103]? = some (.ref qf103) := (hre_6 103 (by decide) (by decide)).trans (hfh_194_103)
                have hfk_6_104 : z_6[104]? = some (.ref qf104) := (hre_6 104 (by decide) (by decide)).trans (hfh_194_104)
                have hfk_6_105 : z_6[105]? = some (.ref qf105) := (hre_6 105 (by decide) (by decide)).trans (hfh_194_105)
                have hfk_6_106 : z_6[106]? = some (.ref qf106) := (hre_6 106 (by decide) (by decide)).trans (hfh_194_106)
                have hfk_6_107 : z_6[107]? = some (.ref qf107) := (hre_6 107 (by decide) (by decide)).trans (hfh_194_107)
                have hfk_6_108 : z_6[108]? = some (.ref qf108) := (hre_6 108 (by decide) (by decide)).trans (hfh_194_108)
                have hfk_6_109 : z_6[109]? = some (.ref qf109) := (hre_6 109 (by decide) (by decide)).trans (hfh_194_109)
                have hfk_6_110 : z_6[110]? = some (.ref qf110) := (hre_6 110 (by decide) (by decide)).trans (hfh_194_110)
                have hfk_6_111 : z_6[111]? = some (.ref qf111) := (hre_6 111 (by decide) (by decide)).trans (hfh_194_111)
                have hfk_6_118 : z_6[118]? = some (.ref qf118) := (hre_6 118 (by decide) (by decide)).trans (hfh_194_118)
                have hfk_6_119 : z_6[119]? = some (.ref qf119) := (hre_6 119 (by decide) (by decide)).trans (hfh_194_119)
                have hfk_6_121 : z_6[121]? = some (.int x121_194) := (hre_6 121 (by decide) (by decide)).trans (hfh_194_121)
                have hfk_6_122 : z_6[122]? = some (.int x122_194) := (hre_6 122 (by decide) (by decide)).trans (hfh_194_122)
                have hfk_6_123 : z_6[123]? = some (.int x123_194) := (hre_6 123 (by decide) (by decide)).trans (hfh_194_123)
                have hfk_6_124 : z_6[124]? = some (.int x124_194) := (hre_6 124 (by decide) (by decide)).trans (hfh_194_124)
                have hfk_6_125 : z_6[125]? = some (.int x125_194) := (hre_6 125 (by decide) (by decide)).trans (hfh_194_125)
                have hfk_6_127 : z_6[127]? = some (.ref qf127) := (hre_6 127 (by decide) (by decide)).trans (hfh_194_127)
                have hfk_6_128 : z_6[128]? = some (.ref qf128) := (hre_6 128 (by decide) (by decide)).trans (hfh_194_128)
                have hfk_6_129 : z_6[129]? = some (.int v129) := (hre_6 129 (by decide) (by decide)).trans (hfh_194_129)
                have hfk_6_130 : z_6[130]? = some (.int v130) := (hre_6 130 (by decide) (by decide)).trans (hfh_194_130)
                have hfk_6_131 : z_6[131]? = some (.int x131_194) := (hre_6 131 (by decide) (by decide)).trans (hfh_194_131)
                have hfk_6_132 : z_6[132]? = some (.int v132) := (hre_6 132 (by decide) (by decide)).trans (hfh_194_132)
                have hfk_6_133 : z_6[133]? = some (.int v133) := (hre_6 133 (by decide) (by decide)).trans (hfh_194_133)
                have hfk_6_134 : z_6[134]? = some (.int v134) := (hre_6 134 (by decide) (by decide)).trans (hfh_194_134)
                have hfk_6_135 : z_6[135]? = some (.int v135) := (hre_6 135 (by decide) (by decide)).trans (hfh_194_135)
                have hfk_6_136 : z_6[136]? = some (.int x136_194) := (hre_6 136 (by decide) (by decide)).trans (hfh_194_136)
                have hfk_6_137 : z_6[137]? = some (.ref qf137) := (hre_6 137 (by decide) (by decide)).trans (hfh_194_137)
                have hrq_6 : ∀ j : Nat, j ≠ 117 → j ≠ 120 → j ≠ 121 → j ≠ 122 → j ≠ 123 → j ≠ 124 → j ≠ 125 → j ≠ 131 → j ≠ 136 → z_6[j]? = zs[j]? := fun j g117 g120 g121 g122 g123 g124 g125 g131 g136 => (hre_6 j g117 g120).trans (hrh_194 j g117 g120 g121 g122 g123 g124 g125 g131 g136)
                obtain ⟨rfl, hz_6⟩ := hwa_6
                rcases hz_6 with rfl | rfl
                · rw [if_pos rfl] at hsp
                  refine lv_if_eq (tgt := 223) hx hb dX13_flows_211 (by decide) (fun c_24 => ?_) (fun c_24 => (show False by revert c_24; decide).elim)
                  refine lv_aload_n hx hb dX13_flows_223 rfl (lv_at hl 0 rfl) ?_
                  refine lv_bipush (v := 12) hx hb dX13_flows_224 (by decide) ?_
                  refine lv_iload_n hx hb dX13_flows_226 rfl (lv_at hl 1 rfl) ?_
                  refine lv_iload_n hx hb dX13_flows_227 rfl (lv_at hl 2 rfl) ?_
                  refine lv_iload hx hb dX13_flows_228 (lv_at hl 4 rfl) ?_
                  obtain ⟨⟨u7_0, u7_1, u7_2, u7_3, u7_4⟩, hu_7, hsp⟩ := ox_bind hsp
                  try dsimp only at hsp
                  have hPc := hP.sub (ws' := [(h0, .inr (13, z_6))]) [9] rfl
                  have hDc := hD.sub (ws' := [(h0, .inr (13, z_6))]) [9] (by decide) rfl
                  have hKc := hK.sub (tys' := []) [] rfl
                  have hFc := va_free (wc := [(h0, .inr (13, z_6))]) hD hS hA [9] rfl
                  refine va_calli (va_runV (As := [.int 12, .int l1_194, .int l2_194, .int l6_194]) (rest := []) ⟨hx, hb, hml, hown, hts⟩ (tm_bad l dC dI H.size h0 z_6 12 l1_194 l2_194 l6_194 x122_194 x123_194 x124_194 x125_194 nf u7_0 u7_1 u7_2 u7_3 u7_4 hln_6 hfk_6_122 hfk_6_123 hfk_6_124 hfk_6_125 hu_7) (cwV 4 hts gv_h9_63 rfl rfl rfl (by decide +kernel) ⟨Nat.le_of_ble_eq_true rfl, Nat.le_of_ble_eq_true rfl⟩) ⟨fun a U g mk q => by obtain ⟨q0, q1, qP, qK, qD⟩ := q; exact ⟨q0, q1, qP, va_K.moved (u := U) (U := U.calling g mk a) (Vm.Alike.refl U.vm) qK, qD⟩, va_recv hKc hPc (ci := 13) (q0 := 0) rfl rfl, fun U hU hW => ⟨rfl, by rw [hU], by rw [hU]; exact hPc, va_K.moved hW.alike hKc, hDc.weaken (fun _ _ _ _ => trivial)⟩⟩ rfl rfl hl.1 rfl (lv_room (Nat.le_of_ble_eq_true rfl)) dX13_flows_230 ⟨Nat.le_of_ble_eq_true rfl, Nat.le_of_ble_eq_true rfl⟩) hS (fun q _ h => hFc q h) hFc ?_
                  clear hS
                  intro r_25 u t H1 locs ht hvm hw hB hz1 hk1 hS
                  obtain ⟨z_7, rfl⟩ : ∃ z, z = u := ⟨_, rfl⟩
                  obtain ⟨hP1, hK1, hD1⟩ := hB
                  rw [ht] at hP1
                  have hK1 := va_K.moved hvm.symm hK1
                  try dsimp only at hw
                  have hPD := va_join (wr := [(qf109, .inl (cf109, 96, .inl f109)), (qf107, .inl (cf107, 96, .inl f107)), (qf111, .inl (cf111, 96, .inl f111)), (qf128, .inl (cf128, 31, .inl g128_194)), (qf110, .inl (cf110, 96, .inl f110)), (qf103, .inl (cf103, 8, .inl f103)), (qf106, .inl (cf106, 8, .inl f106)), (qf108, .inl (cf108, 8, .inl f108)), (qf137, .inl (cf137, 6, .inl g137_194)), (qf100, .inl (cf100, 48000, .inl f100)), (qf127, .inl (cf127, 30, .inl g127_194)), (qf102, .inl (cf102, 2048, .inl f102)), (qf104, .inl (cf104, 8, .inl f104)), (qf118, .inl (cf118, 2100, .inl g906_1)), (qf119, .inl (cf119, 2100, .inl g906_2)), (qf105, .inl (cf105, 8, .inl f105))]) (w1 := [(h0, .inr (13, z_7))]) hP hD [9] [0, 1, 2, 3, 4, 5, 6, 7, 8, 10, 11, 12, 13, 14, 15, 16] rfl rfl (by decide) (by decide) hk1 hFc hP1 hD1
                  clear hP hD
                  obtain ⟨hP, hD⟩ := hPD
                  replace hK := (hK.sub (tys' := [(cf109, .int), (cf107, .int), (cf111, .int), (cf128, .int), (cf110, .int), (cf103, .int), (cf106, .int), (cf108, .int), (cf137, .int), (cf100, .int), (cf127, .int), (cf102, .int), (cf104, .int), (cf118, .int), (cf119, .int), (cf105, .int)]) [0, 1, 2, 3, 4, 5, 6, 7, 8, 9, 10, 11, 12, 13, 14, 15] rfl).app hK1
                  clear hPc hDc hKc hFc hP1 hK1 hD1 hz1 hk1 ht hvm
                  generalize H1 = H at hP hS ⊢
                  replace hP : va_P (dC, dI) vwCl [(qf109, .inl (cf109, 96, .inl f109)), (qf107, .inl (cf107, 96, .inl f107)), (qf111, .inl (cf111, 96, .inl f111)), (qf128, .inl (cf128, 31, .inl g128_194)), (qf110, .inl (cf110, 96, .inl f110)), (qf103, .inl (cf103, 8, .inl f103)), (qf106, .inl (cf106, 8, .inl f106)), (qf108, .inl (cf108, 8, .inl f108)), (qf137, .inl (cf137, 6, .inl g137_194)), (qf100, .inl (cf100, 48000, .inl f100)), (qf127, .inl (cf127, 30, .inl g127_194)), (qf102, .inl (cf102, 2048, .inl f102)), (qf104, .inl (cf104, 8, .inl f104)), (qf118, .inl (cf118, 2100, .inl g906_1)), (qf119, .inl (cf119, 2100, .inl g906_2)), (qf105, .inl (cf105, 8, .inl f105)), (h0, .inr (13, z_7))] H := hP
                  replace hD : va_D A [(qf109, .inl (cf109, 96, .inl f109)), (qf107, .inl (cf107, 96, .inl f107)), (qf111, .inl (cf111, 96, .inl f111)), (qf128, .inl (cf128, 31, .inl g128_194)), (qf110, .inl (cf110, 96, .inl f110)), (qf103, .inl (cf103, 8, .inl f103)), (qf106, .inl (cf106, 8, .inl f106)), (qf108, .inl (cf108, 8, .inl f108)), (qf137, .inl (cf137, 6, .inl g137_194)), (qf100, .inl (cf100, 48000, .inl f100)), (qf127, .inl (cf127, 30, .inl g127_194)), (qf102, .inl (cf102, 2048, .inl f102)), (qf104, .inl (cf104, 8, .inl f104)), (qf118, .inl (cf118, 2100, .inl g906_1)), (qf119, .inl (cf119, 2100, .inl g906_2)), (qf105, .inl (cf105, 8, .inl f105)), (h0, .inr (13, z_7))] := hD
                  replace hK : va_K (dC, dI) vwCl [(cf109, .int), (cf107, .int), (cf111, .int), (cf128, .int), (cf110, .int), (cf103, .int), (cf106, .int), (cf108, .int), (cf137, .int), (cf100, .int), (cf127, .int), (cf102, .int), (cf104, .int), (cf118, .int), (cf119, .int), (cf105, .int)] s := hK
                  obtain ⟨hwa_7, hln_7, hre_7, hch_7_122, hch_7_123, hch_7_124, hch_7_125⟩ := hw
                  have hfk_7_98 : z_7[98]? = some (.int v98) := (hre_7 98 (by decide) (by decide) (by decide) (by decide)).trans (hfk_6_98)
                  have hfk_7_100 : z_7[100]? = some (.ref qf100) := (hre_7 100 (by decide) (by decide) (by decide) (by decide)).trans (hfk_6_100)
                  have hfk_7_102 : z_7[102]? = some (.ref qf102) := (hre_7 102 (by decide) (by decide) (by decide) (by decide)).trans (hfk_6_102)
                  have hfk_7_103 : z_7[103]? = some (.ref qf103) := (hre_7 103 (by decide) (by decide) (by decide) (by decide)).trans (hfk_6_103)
                  have hfk_7_104 : z_7[104]? = some (.ref qf104) := (hre_7 104 (by decide) (by decide) (by decide) (by decide)).trans (hfk_6_104)
                  have hfk_7_105 : z_7[105]? = some (.ref qf105) := (hre_7 105 (by decide) (by decide) (by decide) (by decide)).trans (hfk_6_105)
                  have hfk_7_106 : z_7[106]? = some (.ref qf106) := (hre_7 106 (by decide) (by decide) (by decide) (by decide)).trans (hfk_6_106)
                  have hfk_7_107 : z_7[107]? = some (.ref qf107) := (hre_7 107 (by decide) (by decide) (by decide) (by decide)).trans (hfk_6_107)
                  have hfk_7_108 : z_7[108]? = some (.ref qf108) := (hre_7 108 (by decide) (by decide) (by decide) (by decide)).trans (hfk_6_108)
                  have hfk_7_109 : z_7[109]? = some (.ref qf109) := (hre_7 109 (by decide) (by decide) (by decide) (by decide)).trans (hfk_6_109)
                  have hfk_7_110 : z_7[110]? = some (.ref qf110) := (hre_7 110 (by decide) (by decide) (by decide) (by decide)).trans (hfk_6_110)
                  have hfk_7_111 : z_7[111]? = some (.ref qf111) := (hre_7 111 (by decide) (by decide) (by decide) (by decide)).trans (hfk_6_111)
                  have hfk_7_117 : z_7[117]? = some (.int u6_3) := (hre_7 117 (by decide) (by decide) (by decide) (by decide)).trans (hch_6_117)
                  have hfk_7_118 : z_7[118]? = some (.ref qf118) := (hre_7 118 (by decide) (by decide) (by decide) (by decide)).trans (hfk_6_118)
                  have hfk_7_119 : z_7[119]? = some (.ref qf119) := (hre_7 119 (by decide) (by decide) (by decide) (by decide)).trans (hfk_6_119)
                  have hfk_7_120 : z_7[120]? = some (.int u6_4) := (hre_7 120 (by decide) (by decide) (by decide) (by decide)).trans (hch_6_120)
                  have hfk_7_121 : z_7[121]? = some (.int x121_194) := (hre_7 121 (by decide) (by decide) (by decide) (by decide)).trans (hfk_6_121)
                  have hfk_7_127 : z_7[127]? = some (.ref qf127) := (hre_7 127 (by decide) (by decide) (by decide) (by decide)).trans (hfk_6_127)
                  have hfk_7_128 : z_7[128]? = some (.ref qf128) := (hre_7 128 (by decide) (by decide) (by decide) (by decide)).trans (hfk_6_128)
                  have hfk_7_129 : z_7[129]? = some (.int v129) := (hre_7 129 (by decide) (by decide) (by decide) (by decide)).trans (hfk_6_129)
                  have hfk_7_130 : z_7[130]? = some (.int v130) := (hre_7 130 (by decide) (by decide) (by decide) (by decide)).trans (hfk_6_130)
                  have hfk_7_131 : z_7[131]? = some (.int x131_194) := (hre_7 131 (by decide) (by decide) (by decide) (by decide)).trans (hfk_6_131)
                  have hfk_7_132 : z_7[132]? = some (.int v132) := (hre_7 132 (by decide) (by decide) (by decide) (by decide)).trans (hfk_6_132)
                  have hfk_7_133 : z_7[133]? = some (.int v133) := (hre_7 133 (by decide) (by decide) (by decide) (by decide)).trans (hfk_6_133)
                  have hfk_7_134 : z_7[134]? = some (.int v134) := (hre_7 134 (by decide) (by decide) (by decide) (by decide)).trans (hfk_6_134)
                  have hfk_7_135 : z_7[135]? = some (.int v135) := (hre_7 135 (by decide) (by decide) (by decide) (by decide)).trans (hfk_6_135)
                  have hfk_7_136 : z_7[136]? = some (.int x136_194) := (hre_7 136 (by decide) (by decide) (by decide) (by decide)).trans (hfk_6_136)
                  have hfk_7_137 : z_7[137]? = some (.ref qf137) := (hre_7 137 (by decide) (by decide) (by decide) (by decide)).trans (hfk_6_137)
                  have hrq_7 : ∀ j : Nat, j ≠ 117 → j ≠ 120 → j ≠ 121 → j ≠ 122 → j ≠ 123 → j ≠ 124 → j ≠ 125 → j ≠ 131 → j ≠ 136 → z_7[j]? = zs[j]? := fun j g117 g120 g121 g122 g123 g124 g125 g131 g136 => (hre_7 j g122 g123 g124 g125).trans (hrq_6 j g117 g120 g121 g122 g123 g124 g125 g131 g136)
                  obtain ⟨rfl, hz_7⟩ := hwa_7
                  rcases hz_7 with rfl | rfl
                  · rw [if_pos rfl] at hsp
                    have hr0 := Option.some.inj hsp
                    clear hsp
                    obtain ⟨hq0, hr1⟩ := Prod.mk.inj hr0
                    clear hr0
                    obtain ⟨hq1, hr2⟩ := Prod.mk.inj hr1
                    clear hr1
                    obtain ⟨hq2, hr3⟩ := Prod.mk.inj hr2
                    clear hr2
                    obtain ⟨hq3, hr4⟩ := Prod.mk.inj hr3
                    clear hr3
                    obtain ⟨hq4, hr5⟩ := Prod.mk.inj hr4
                    clear hr4
                    obtain ⟨hq5, hr6⟩ := Prod.mk.inj hr5
                    clear hr5
                    obtain ⟨hq6, hr7⟩ := Prod.mk.inj hr6
                    clear hr6
                    obtain ⟨hq7, hr8⟩ := Prod.mk.inj hr7
                    clear hr7
                    obtain ⟨hq8, hr9⟩ := Prod.mk.inj hr8
                    clear hr8
                    obtain ⟨hq9, hr10⟩ := Prod.mk.inj hr9
                    clear hr9
                    obtain ⟨hq10, hr11⟩ := Prod.mk.inj hr10
                    clear hr10
                    obtain ⟨hq11, hr12⟩ := Prod.mk.inj hr11
                    clear hr11
                    obtain ⟨hq12, hr13⟩ := Prod.mk.inj hr12
                    clear hr12
                    obtain ⟨hq13, hr14⟩ := Prod.mk.inj hr13
                    clear hr13
                    subst hq0
                    subst hq1
                    subst hq2
                    subst hq3
                    subst hq4
                    subst hq5
                    subst hq6
                    subst hq7
                    subst hq8
                    subst hq9
                    subst hq10
                    subst hq11
                    subst hq12
                    subst hq13
                    subst hr14
                    have hP9 := hP.sub (ws' := [(h0, .inr (13, z_7)), (qf109, .inl (cf109, 96, .inl f109)), (qf100, .inl (cf100, 48000, .inl f100)), (qf127, .inl (cf127, 30, .inl g127_194)), (qf107, .inl (cf107, 96, .inl f107)), (qf102, .inl (cf102, 2048, .inl f102)), (qf111, .inl (cf111, 96, .inl f111)), (qf104, .inl (cf104, 8, .inl f104)), (qf118, .inl (cf118, 2100, .inl g906_1)), (qf119, .inl (cf119, 2100, .inl g906_2)), (qf105, .inl (cf105, 8, .inl f105)), (qf128, .inl (cf128, 31, .inl g128_194)), (qf110, .inl (cf110, 96, .inl f110)), (qf103, .inl (cf103, 8, .inl f103)), (qf106, .inl (cf106, 8, .inl f106)), (qf108, .inl (cf108, 8, .inl f108)), (qf137, .inl (cf137, 6, .inl g137_194))]) [16, 0, 9, 10, 1, 11, 2, 12, 13, 14, 15, 3, 4, 5, 6, 7, 8] rfl
                    have hD9 := hD.sub (ws' := [(h0, .inr (13, z_7)), (qf109, .inl (cf109, 96, .inl f109)), (qf100, .inl (cf100, 48000, .inl f100)), (qf127, .inl (cf127, 30, .inl g127_194)), (qf107, .inl (cf107, 96, .inl f107)), (qf102, .inl (cf102, 2048, .inl f102)), (qf111, .inl (cf111, 96, .inl f111)), (qf104, .inl (cf104, 8, .inl f104)), (qf118, .inl (cf118, 2100, .inl g906_1)), (qf119, .inl (cf119, 2100, .inl g906_2)), (qf105, .inl (cf105, 8, .inl f105)), (qf128, .inl (cf128, 31, .inl g128_194)), (qf110, .inl (cf110, 96, .inl f110)), (qf103, .inl (cf103, 8, .inl f103)), (qf106, .inl (cf106, 8, .inl f106)), (qf108, .inl (cf108, 8, .inl f108)), (qf137, .inl (cf137, 6, .inl g137_194))]) [16, 0, 9, 10, 1, 11, 2, 12, 13, 14, 15, 3, 4, 5, 6, 7, 8] (by decide) rfl
                    have hK9 := hK.sub (tys' := [(cf109, .int), (cf100, .int), (cf127, .int), (cf107, .int), (cf102, .int), (cf111, .int), (cf104, .int), (cf118, .int), (cf119, .int), (cf105, .int), (cf128, .int), (cf110, .int), (cf103, .int), (cf106, .int), (cf108, .int), (cf137, .int)]) [0, 9, 10, 1, 11, 2, 12, 13, 14, 15, 3, 4, 5, 6, 7, 8] rfl
                    exact W.zret hx hb hr (by decide) (fun t ht hW => ⟨⟨(0), (z_7), rfl, ⟨⟨rfl, Or.inl rfl⟩, hln_7, hrq_7, hfk_7_117, hfk_7_120, hfk_7_121, hch_7_122, hch_7_123, hch_7_124, hch_7_125, hfk_7_131, hfk_7_136⟩, by rw [ht]; exact hP9, va_K.moved hW.alike hK9, hD9⟩, hS.F ht⟩) hS.2.2 dX13_flows_233
                  · rw [if_neg (by decide)] at hsp
                    have hr0 := Option.some.inj hsp
                    clear hsp
                    obtain ⟨hq0, hr1⟩ := Prod.mk.inj hr0
                    clear hr0
                    obtain ⟨hq1, hr2⟩ := Prod.mk.inj hr1
                    clear hr1
                    obtain ⟨hq2, hr3⟩ := Prod.mk.inj hr2
                    clear hr2
                    obtain ⟨hq3, hr4⟩ := Prod.mk.inj hr3
                    clear hr3
                    obtain ⟨hq4, hr5⟩ := Prod.mk.inj hr4
                    clear hr4
                    obtain ⟨hq5, hr6⟩ := Prod.mk.inj hr5
                    clear hr5
                    obtain ⟨hq6, hr7⟩ := Prod.mk.inj hr6
                    clear hr6
                    obtain ⟨hq7, hr8⟩ := Prod.mk.inj hr7
                    clear hr7
                    obtain ⟨hq8, hr9⟩ := Prod.mk.inj hr8
                    clear hr8
                    obtain ⟨hq9, hr10⟩ := Prod.mk.inj hr9
                    clear hr9
                    obtain ⟨hq10, hr11⟩ := Prod.mk.inj hr10
                    clear hr10
                    obtain ⟨hq11, hr12⟩ := Prod.mk.inj hr11
                    clear hr11
                    obtain ⟨hq12, hr13⟩ := Prod.mk.inj hr12
                    clear hr12
                    obtain ⟨hq13, hr14⟩ := Prod.mk.inj hr13
                    clear hr13
                    subst hq0
                    subst hq1
                    subst hq2
                    subst hq3
                    subst hq4
                    subst hq5
                    subst hq6
                    subst hq7
                    subst hq8
                    subst hq9
                    subst hq10
                    subst hq11
                    subst hq12
                    subst hq13
                    subst hr14
                    have hP9 := hP.sub (ws' := [(h0, .inr (13, z_7)), (qf109, .inl (cf109, 96, .inl f109)), (qf100, .inl (cf100, 48000, .inl f100)), (qf127, .inl (cf127, 30, .inl g127_194)), (qf107, .inl (cf107, 96, .inl f107)), (qf102, .inl (cf102, 2048, .inl f102)), (qf111, .inl (cf111, 96, .inl f111)), (qf104, .inl (cf104, 8, .inl f104)), (qf118, .inl (cf118, 2100, .inl g906_1)), (qf119, .inl (cf119, 2100, .inl g906_2)), (qf105, .inl (cf105, 8, .inl f105)), (qf128, .inl (cf128, 31, .inl g128_194)), (qf110, .inl (cf110, 96, .inl f110)), (qf103, .inl (cf103, 8, .inl f103)), (qf106, .inl (cf106, 8, .inl f106)), (qf108, .inl (cf108, 8, .inl f108)), (qf137, .inl (cf137, 6, .inl g137_194))]) [16, 0, 9, 10, 1, 11, 2, 12, 13, 14, 15, 3, 4, 5, 6, 7, 8] rfl
                    have hD9 := hD.sub (ws' := [(h0, .inr (13, z_7)), (qf109, .inl (cf109, 96, .inl f109)), (qf100, .inl (cf100, 48000, .inl f100)), (qf127, .inl (cf127, 30, .inl g127_194)), (qf107, .inl (cf107, 96, .inl f107)), (qf102, .inl (cf102, 2048, .inl f102)), (qf111, .inl (cf111, 96, .inl f111)), (qf104, .inl (cf104, 8, .inl f104)), (qf118, .inl (cf118, 2100, .inl g906_1)), (qf119, .inl (cf119, 2100, .inl g906_2)), (qf105, .inl (cf105, 8, .inl f105)), (qf128, .inl (cf128, 31, .inl g128_194)), (qf110, .inl (cf110, 96, .inl f110)), (qf103, .inl (cf103, 8, .inl f103)), (qf106, .inl (cf106, 8, .inl f106)), (qf108, .inl (cf108, 8, .inl f108)), (qf137, .inl (cf137, 6, .inl g137_194))]) [16, 0, 9, 10, 1, 11, 2, 12, 13, 14, 15, 3, 4, 5, 6, 7, 8] (by decide) rfl
                    have hK9 := hK.sub (tys' := [(cf109, .int), (cf100, .int), (cf127, .int), (cf107, .int), (cf102, .int), (cf111, .int), (cf104, .int), (cf118, .int), (cf119, .int), (cf105, .int), (cf128, .int), (cf110, .int), (cf103, .int), (cf106, .int), (cf108, .int), (cf137, .int)]) [0, 9, 10, 1, 11, 2, 12, 13, 14, 15, 3, 4, 5, 6, 7, 8] rfl
                    exact W.zret hx hb hr (by decide) (fun t ht hW => ⟨⟨(1), (z_7), rfl, ⟨⟨rfl, Or.inr rfl⟩, hln_7, hrq_7, hfk_7_117, hfk_7_120, hfk_7_121, hch_7_122, hch_7_123, hch_7_124, hch_7_125, hfk_7_131, hfk_7_136⟩, by rw [ht]; exact hP9, va_K.moved hW.alike hK9, hD9⟩, hS.F ht⟩) hS.2.2 dX13_flows_233
                · rw [if_neg (by decide)] at hsp
                  refine lv_if_eq (tgt := 223) hx hb dX13_flows_211 (by decide) (fun c_26 => (show False by revert c_26; decide).elim) (fun c_26 => ?_)
                  refine lv_aload_n hx hb dX13_flows_214 rfl (lv_at hl 0 rfl) ?_
                  refine lv_iload hx hb dX13_flows_215 (lv_at hl 5 rfl) ?_
                  obtain ⟨⟨u8_0, g908_1, g908_2, u8_3, u8_4⟩, hu_8, hsp⟩ := ox_bind hsp
                  try dsimp only at hsp
                  have hPc := hP.sub (ws' := [(h0, .inr (13, z_6)), (qf100, .inl (cf100, 48000, .inl f100)), (qf128, .inl (cf128, 31, .inl g128_194)), (qf102, .inl (cf102, 2048, .inl f102)), (qf104, .inl (cf104, 8, .inl f104)), (qf118, .inl (cf118, 2100, .inl g906_1)), (qf119, .inl (cf119, 2100, .inl g906_2)), (qf105, .inl (cf105, 8, .inl f105))]) [9, 10, 3, 12, 13, 14, 15, 16] rfl
                  have hDc := hD.sub (ws' := [(h0, .inr (13, z_6)), (qf100, .inl (cf100, 48000, .inl f100)), (qf128, .inl (cf128, 31, .inl g128_194)), (qf102, .inl (cf102, 2048, .inl f102)), (qf104, .inl (cf104, 8, .inl f104)), (qf118, .inl (cf118, 2100, .inl g906_1)), (qf119, .inl (cf119, 2100, .inl g906_2)), (qf105, .inl (cf105, 8, .inl f105))]) [9, 10, 3, 12, 13, 14, 15, 16] (by decide) rfl
                  have hKc := hK.sub (tys' := [(cf100, .int), (cf128, .int), (cf102, .int), (cf104, .int), (cf118, .int), (cf119, .int), (cf105, .int)]) [9, 3, 11, 12, 13, 14, 15] rfl
                  have hFc := va_free (wc := [(h0, .inr (13, z_6)), (qf100, .inl (cf100, 48000, .inl f100)), (qf128, .inl (cf128, 31, .inl g128_194)), (qf102, .inl (cf102, 2048, .inl f102)), (qf104, .inl (cf104, 8, .inl f104)), (qf118, .inl (cf118, 2100, .inl g906_1)), (qf119, .inl (cf119, 2100, .inl g906_2)), (qf105, .inl (cf105, 8, .inl f105))]) hD hS hA [9, 10, 3, 12, 13, 14, 15, 16] rfl
                  refine va_calli (va_runV (As := [.int l7_194]) (rest := []) ⟨hx, hb, hml, hown, hts⟩ (vm_stackFits l dC dI H.size h0 z_6 l7_194 v98 qf100 qf102 qf104 qf105 u6_3 qf118 qf119 u6_4 qf128 x131_194 v132 cf100 f100 cf128 g128_194 cf102 f102 cf104 f104 cf118 g906_1 cf119 g906_2 cf105 f105 nS477 fS477 hS477 qS477 tS477 nf u8_0 g908_1 g908_2 u8_3 u8_4 hln_6 hfk_6_98 hfk_6_100 hfk_6_102 hfk_6_104 hfk_6_105 hch_6_117 hfk_6_118 hfk_6_119 hch_6_120 hfk_6_128 hfk_6_131 hfk_6_132 hu_8) (cwV 1 hts gv_h9_116 rfl rfl rfl (by decide +kernel) ⟨Nat.le_of_ble_eq_true rfl, Nat.le_of_ble_eq_true rfl⟩) ⟨fun a U g mk q => by obtain ⟨q0, q1, qP, qK, qD, qhZWS477, qhZRS477⟩ := q; exact ⟨q0, q1, qP, va_K.moved (u := U) (U := U.calling g mk a) (Vm.Alike.refl U.vm) qK, qD, pz_W.moved (u := U) (U := U.calling g mk a) (Vm.Alike.refl U.vm) qhZWS477, vk_R.same rfl qhZRS477⟩, va_recv hKc hPc (ci := 13) (q0 := 0) rfl rfl, fun U hU hW => ⟨rfl, by rw [hU], by rw [hU]; exact hPc, va_K.moved hW.alike hKc, hDc.weaken (fun _ _ _ _ => trivial), by rw [hU]; exact ((pz_W.moved hW.alike hZWS477).kept hS.2.1).narrow hFc, vk_R.warm hW hZRS477⟩⟩ rfl rfl hl.1 rfl (lv_room (Nat.le_of_ble_eq_true rfl)) dX13_flows_217 ⟨Nat.le_of_ble_eq_true rfl, Nat.le_of_ble_eq_true rfl⟩) hS (fun q _ h => hFc q h) hFc ?_
                  clear hS
                  intro r_27 u t H1 locs ht hvm hw hB hz1 hk1 hS
                  obtain ⟨z_8, rfl⟩ : ∃ z, z = u := ⟨_, rfl⟩
                  obtain ⟨hP1, hK1, hD1⟩ := hB
                  rw [ht] at hP1
                  have hK1 := va_K.moved hvm.symm hK1
                  try dsimp only at hw
                  have hPD := va_join (wr := [(qf109, .inl (cf109, 96, .inl f109)), (qf107, .inl (cf107, 96, .inl f107)), (qf111, .inl (cf111, 96, .inl f111)), (qf110, .inl (cf110, 96, .inl f110)), (qf103, .inl (cf103, 8, .inl f103)), (qf106, .inl (cf106, 8, .inl f106)), (qf108, .inl (cf108, 8, .inl f108)), (qf137, .inl (cf137, 6, .inl g137_194)), (qf127, .inl (cf127, 30, .inl g127_194))]) (w1 := [(h0, .inr (13, z_8)), (qf100, .inl (cf100, 48000, .inl f100)), (qf128, .inl (cf128, 31, .inl g128_194)), (qf102, .inl (cf102, 2048, .inl f102)), (qf104, .inl (cf104, 8, .inl f104)), (qf118, .inl (cf118, 2100, .inl g908_1)), (qf119, .inl (cf119, 2100, .inl g908_2)), (qf105, .inl (cf105, 8, .inl f105))]) hP hD [9, 10, 3, 12, 13, 14, 15, 16] [0, 1, 2, 4, 5, 6, 7, 8, 11] rfl rfl (by decide) (by decide) hk1 hFc hP1 hD1
                  clear hP hD
                  obtain ⟨hP, hD⟩ := hPD
                  replace hK := (hK.sub (tys' := [(cf109, .int), (cf107, .int), (cf111, .int), (cf110, .int), (cf103, .int), (cf106, .int), (cf108, .int), (cf137, .int), (cf127, .int)]) [0, 1, 2, 4, 5, 6, 7, 8, 10] rfl).app hK1
                  clear hPc hDc hKc hFc hP1 hK1 hD1 hz1 hk1 ht hvm
                  generalize H1 = H at hP hS ⊢
                  replace hP : va_P (dC, dI) vwCl [(qf109, .inl (cf109, 96, .inl f109)), (qf107, .inl (cf107, 96, .inl f107)), (qf111, .inl (cf111, 96, .inl f111)), (qf110, .inl (cf110, 96, .inl f110)), (qf103, .inl (cf103, 8, .inl f103)), (qf106, .inl (cf106, 8, .inl f106)), (qf108, .inl (cf108, 8, .inl f108)), (qf137, .inl (cf137, 6, .inl g137_194)), (qf127, .inl (cf127, 30, .inl g127_194)), (h0, .inr (13, z_8)), (qf100, .inl (cf100, 48000, .inl f100)), (qf128, .inl (cf128, 31, .inl g128_194)), (qf102, .inl (cf102, 2048, .inl f102)), (qf104, .inl (cf104, 8, .inl f104)), (qf118, .inl (cf118, 2100, .inl g908_1)), (qf119, .inl (cf119, 2100, .inl g908_2)), (qf105, .inl (cf105, 8, .inl f105))] H := hP
                  replace hD : va_D A [(qf109, .inl (cf109, 96, .inl f109)), (qf107, .inl (cf107, 96, .inl f107)), (qf111, .inl (cf111, 96, .inl f111)), (qf110, .inl (cf110, 96, .inl f110)), (qf103, .inl (cf103, 8, .inl f103)), (qf106, .inl (cf106, 8, .inl f106)), (qf108, .inl (cf108, 8, .inl f108)), (qf137, .inl (cf137, 6, .inl g137_194)), (qf127, .inl (cf127, 30, .inl g127_194)), (h0, .inr (13, z_8)), (qf100, .inl (cf100, 48000, .inl f100)), (qf128, .inl (cf128, 31, .inl g128_194)), (qf102, .inl (cf102, 2048, .inl f102)), (qf104, .inl (cf104, 8, .inl f104)), (qf118, .inl (cf118, 2100, .inl g908_1)), (qf119, .inl (cf119, 2100, .inl g908_2)), (qf105, .inl (cf105, 8, .inl f105))] := hD
                  replace hK : va_K (dC, dI) vwCl [(cf109, .int), (cf107, .int), (cf111, .int), (cf110, .int), (cf103, .int), (cf106, .int), (cf108, .int), (cf137, .int), (cf127, .int), (cf100, .int), (cf128, .int), (cf102, .int), (cf104, .int), (cf118, .int), (cf119, .int), (cf105, .int)] s := hK
                  obtain ⟨hwa_8, hln_8, hre_8, hch_8_117, hch_8_120⟩ := hw
                  have hfk_8_98 : z_8[98]? = some (.int v98) := (hre_8 98 (by decide) (by decide)).trans (hfk_6_98)
                  have hfk_8_100 : z_8[100]? = some (.ref qf100) := (hre_8 100 (by decide) (by decide)).trans (hfk_6_100)
                  have hfk_8_102 : z_8[102]? = some (.ref qf102) := (hre_8 102 (by decide) (by decide)).trans (hfk_6_102)
                  have hfk_8_103 : z_8[103]? = some (.ref qf103) := (hre_8 103 (by decide) (by decide)).trans (hfk_6_103)
                  have hfk_8_104 : z_8[104]? = some (.ref qf104) := (hre_8 104 (by decide) (by decide)).trans (hfk_6_104)
                  have hfk_8_105 : z_8[105]? = some (.ref qf105) := (hre_8 105 (by decide) (by decide)).trans (hfk_6_105)
                  have hfk_8_106 : z_8[106]? = some (.ref qf106) := (hre_8 106 (by decide) (by decide)).trans (hfk_6_106)
                  have hfk_8_107 : z_8[107]? = some (.ref qf107) := (hre_8 107 (by decide) (by decide)).trans (hfk_6_107)
                  have hfk_8_108 : z_8[108]? = some (.ref qf108) := (hre_8 108 (by decide) (by decide)).trans (hfk_6_108)
                  have hfk_8_109 : z_8[109]? = some (.ref qf109) := (hre_8 109 (by decide) (by decide)).trans (hfk_6_109)
                  have hfk_8_110 : z_8[110]? = some (.ref qf110) := (hre_8 110 (by decide) (by decide)).trans (hfk_6_110)
                  have hfk_8_111 : z_8[111]? = some (.ref qf111) := (hre_8 111 (by decide) (by decide)).trans (hfk_6_111)
                  have hfk_8_118 : z_8[118]? = some (.ref qf118) := (hre_8 118 (by decide) (by decide)).trans (hfk_6_118)
                  have hfk_8_119 : z_8[119]? = some (.ref qf119) := (hre_8 119 (by decide) (by decide)).trans (hfk_6_119)
                  have hfk_8_121 : z_8[121]? = some (.int x121_194) := (hre_8 121 (by decide) (by decide)).trans (hfk_6_121)
                  have hfk_8_122 : z_8[122]? = some (.int x122_194) := (hre_8 122 (by decide) (by decide)).trans (hfk_6_122)
                  have hfk_8_123 : z_8[123]? = some (.int x123_194) := (hre_8 123 (by decide) (by decide)).trans (hfk_6_123)
                  have hfk_8_124 : z_8[124]? = some (.int x124_194) := (hre_8 124 (by decide) (by decide)).trans (hfk_6_124)
                  have hfk_8_125 : z_8[125]? = some (.int x125_194) := (hre_8 125 (by decide) (by decide)).trans (hfk_6_125)
                  have hfk_8_127 : z_8[127]? = some (.ref qf127) := (hre_8 127 (by decide) (by decide)).trans (hfk_6_127)
                  have hfk_8_128 : z_8[128]? = some (.ref qf128) := (hre_8 128 (by decide) (by decide)).trans (hfk_6_128)
                  have hfk_8_129 : z_8[129]? = some (.int v129) := (hre_8 129 (by decide) (by decide)).trans (hfk_6_129)
                  have hfk_8_130 : z_8[130]? = some (.int v130) := (hre_8 130 (by decide) (by decide)).trans (hfk_6_130)
                  have hfk_8_131 : z_8[131]? = some (.int x131_194) := (hre_8 131 (by decide) (by decide)).trans (hfk_6_131)
                  have hfk_8_132 : z_8[132]? = some (.int v132) := (hre_8 132 (by decide) (by decide)).trans (hfk_6_132)
                  have hfk_8_133 : z_8[133]? = some (.int v133) := (hre_8 133 (by decide) (by decide)).trans (hfk_6_133)
                  have hfk_8_134 : z_8[134]? = some (.int v134) := (hre_8 134 (by decide) (by decide)).trans (hfk_6_134)
                  have hfk_8_135 : z_8[135]? = some (.int v135) := (hre_8 135 (by decide) (by decide)).trans (hfk_6_135)
                  have hfk_8_136 : z_8[136]? = some (.int x136_194) := (hre_8 136 (by decide) (by decide)).trans (hfk_6_136)
                  have hfk_8_137 : z_8[137]? = some (.ref qf137) := (hre_8 137 (by decide) (by decide)).trans (hfk_6_137)
                  have hrq_8 : ∀ j : Nat, j ≠ 117 → j ≠ 120 → j ≠ 121 → j ≠ 122 → j ≠ 123 → j ≠ 124 → j ≠ 125 → j ≠ 131 → j ≠ 136 → z_8[j]? = zs[j]? := fun j g117 g120 g121 g122 g123 g124 g125 g131 g136 => (hre_8 j g117 g120).trans (hrq_6 j g117 g120 g121 g122 g123 g124 g125 g131 g136)
                  obtain ⟨rfl, hz_8⟩ := hwa_8
                  rcases hz_8 with rfl | rfl
                  · rw [if_pos rfl] at hsp
                    refine lv_if_ne (tgt := 234) hx hb dX13_flows_220 (by decide) (fun c_28 => (show False by revert c_28; decide).elim) (fun c_28 => ?_)
                    refine lv_aload_n hx hb dX13_flows_223 rfl (lv_at hl 0 rfl) ?_
                    refine lv_bipush (v := 12) hx hb dX13_flows_224 (by decide) ?_
                    refine lv_iload_n hx hb dX13_flows_226 rfl (lv_at hl 1 rfl) ?_
                    refine lv_iload_n hx hb dX13_flows_227 rfl (lv_at hl 2 rfl) ?_
                    refine lv_iload hx hb dX13_flows_228 (lv_at hl 4 rfl) ?_
                    obtain ⟨⟨u9_0, u9_1, u9_2, u9_3, u9_4⟩, hu_9, hsp⟩ := ox_bind hsp
                    try dsimp only at hsp
                    have hPc := hP.sub (ws' := [(h0, .inr (13, z_8))]) [9] rfl
                    have hDc := hD.sub (ws' := [(h0, .inr (13, z_8))]) [9] (by decide) rfl
                    have hKc := hK.sub (tys' := []) [] rfl
                    have hFc := va_free (wc := [(h0, .inr (13, z_8))]) hD hS hA [9] rfl
                    refine va_calli (va_runV (As := [.int 12, .int l1_194, .int l2_194, .int l6_194]) (rest := []) ⟨hx, hb, hml, hown, hts⟩ (tm_bad l dC dI H.size h0 z_8 12 l1_194 l2_194 l6_194 x122_194 x123_194 x124_194 x125_194 nf u9_0 u9_1 u9_2 u9_3 u9_4 hln_8 hfk_8_122 hfk_8_123 hfk_8_124 hfk_8_125 hu_9) (cwV 4 hts gv_h9_63 rfl rfl rfl (by decide +kernel) ⟨Nat.le_of_ble_eq_true rfl, Nat.le_of_ble_eq_true rfl⟩) ⟨fun a U g mk q => by obtain ⟨q0, q1, qP, qK, qD⟩ := q; exact ⟨q0, q1, qP, va_K.moved (u := U) (U := U.calling g mk a) (Vm.Alike.refl U.vm) qK, qD⟩, va_recv hKc hPc (ci := 13) (q0 := 0) rfl rfl, fun U hU hW => ⟨rfl, by rw [hU], by rw [hU]; exact hPc, va_K.moved hW.alike hKc, hDc.weaken (fun _ _ _ _ => trivial)⟩⟩ rfl rfl hl.1 rfl (lv_room (Nat.le_of_ble_eq_true rfl)) dX13_flows_230 ⟨Nat.le_of_ble_eq_true rfl, Nat.le_of_ble_eq_true rfl⟩) hS (fun q _ h => hFc q h) hFc ?_
                    clear hS
                    intro r_29 u t H1 locs ht hvm hw hB hz1 hk1 hS
                    obtain ⟨z_9, rfl⟩ : ∃ z, z = u := ⟨_, rfl⟩
                    obtain ⟨hP1, hK1, hD1⟩ := hB
                    rw [ht] at hP1
                    have hK1 := va_K.moved hvm.symm hK1
                    try dsimp only at hw
                    have hPD := va_join (wr := [(qf109, .inl (cf109, 96, .inl f109)), (qf107, .inl (cf107, 96, .inl f107)), (qf111, .inl (cf111, 96, .inl f111)), (qf110, .inl (cf110, 96, .inl f110)), (qf103, .inl (cf103, 8, .inl f103)), (qf106, .inl (cf106, 8, .inl f106)), (qf108, .inl (cf108, 8, .inl f108)), (qf137, .inl (cf137, 6, .inl g137_194)), (qf127, .inl (cf127, 30, .inl g127_194)), (qf100, .inl (cf100, 48000, .inl f100)), (qf128, .inl (cf128, 31, .inl g128_194)), (qf102, .inl (cf102, 2048, .inl f102)), (qf104, .inl (cf104, 8, .inl f104)), (qf118, .inl (cf118, 2100, .inl g908_1)), (qf119, .inl (cf119, 2100, .inl g908_2)), (qf105, .inl (cf105, 8, .inl f105))]) (w1 := [(h0, .inr (13, z_9))]) hP hD [9] [0, 1, 2, 3, 4, 5, 6, 7, 8, 10, 11, 12, 13, 14, 15, 16] rfl rfl (by decide) (by decide) hk1 hFc hP1 hD1
                    clear hP hD
                    obtain ⟨hP, hD⟩ := hPD
                    replace hK := (hK.sub (tys' := [(cf109, .int), (cf107, .int), (cf111, .int), (cf110, .int), (cf103, .int), (cf106, .int), (cf108, .int), (cf137, .int), (cf127, .int), (cf100, .int), (cf128, .int), (cf102, .int), (cf104, .int), (cf118, .int), (cf119, .int), (cf105, .int)]) [0, 1, 2, 3, 4, 5, 6, 7, 8, 9, 10, 11, 12, 13, 14, 15] rfl).app hK1
                    clear hPc hDc hKc hFc hP1 hK1 hD1 hz1 hk1 ht hvm
                    generalize H1 = H at hP hS ⊢
                    replace hP : va_P (dC, dI) vwCl [(qf109, .inl (cf109, 96, .inl f109)), (qf107, .inl (cf107, 96, .inl f107)), (qf111, .inl (cf111, 96, .inl f111)), (qf110, .inl (cf110, 96, .inl f110)), (qf103, .inl (cf103, 8, .inl f103)), (qf106, .inl (cf106, 8, .inl f106)), (qf108, .inl (cf108, 8, .inl f108)), (qf137, .inl (cf137, 6, .inl g137_194)), (qf127, .inl (cf127, 30, .inl g127_194)), (qf100, .inl (cf100, 48000, .inl f100)), (qf128, .inl (cf128, 31, .inl g128_194)), (qf102, .inl (cf102, 2048, .inl f102)), (qf104, .inl (cf104, 8, .inl f104)), (qf118, .inl (cf118, 2100, .inl g908_1)), (qf119, .inl (cf119, 2100, .inl g908_2)), (qf105, .inl (cf105, 8, .inl f105)), (h0, .inr (13, z_9))] H := hP
                    replace hD : va_D A [(qf109, .inl (cf109, 96, .inl f109)), (qf107, .inl (cf107, 96, .inl f107)), (qf111, .inl (cf111, 96, .inl f111)), (qf110, .inl (cf110, 96, .inl f110)), (qf103, .inl (cf103, 8, .inl f103)), (qf106, .inl (cf106, 8, .inl f106)), (qf108, .inl (cf108, 8, .inl f108)), (qf137, .inl (cf137, 6, .inl g137_194)), (qf127, .inl (cf127, 30, .inl g127_194)), (qf100, .inl (cf100, 48000, .inl f100)), (qf128, .inl (cf128, 31, .inl g128_194)), (qf102, .inl (cf102, 2048, .inl f102)), (qf104, .inl (cf104, 8, .inl f104)), (qf118, .inl (cf118, 2100, .inl g908_1)), (qf119, .inl (cf119, 2100, .inl g908_2)), (qf105, .inl (cf105, 8, .inl f105)), (h0, .inr (13, z_9))] := hD
                    replace hK : va_K (dC, dI) vwCl [(cf109, .int), (cf107, .int), (cf111, .int), (cf110, .int), (cf103, .int), (cf106, .int), (cf108, .int), (cf137, .int), (cf127, .int), (cf100, .int), (cf128, .int), (cf102, .int), (cf104, .int), (cf118, .int), (cf119, .int), (cf105, .int)] s := hK
                    obtain ⟨hwa_9, hln_9, hre_9, hch_9_122, hch_9_123, hch_9_124, hch_9_125⟩ := hw
                    have hfk_9_98 : z_9[98]? = some (.int v98) := (hre_9 98 (by decide) (by decide) (by decide) (by decide)).trans (hfk_8_98)
                    have hfk_9_100 : z_9[100]? = some (.ref qf100) := (hre_9 100 (by decide) (by decide) (by decide) (by decide)).trans (hfk_8_100)
                    have hfk_9_102 : z_9[102]? = some (.ref qf102) := (hre_9 102 (by decide) (by decide) (by decide) (by decide)).trans (hfk_8_102)
                    have hfk_9_103 : z_9[103]? = some (.ref qf103) := (hre_9 103 (by decide) (by decide) (by decide) (by decide)).trans (hfk_8_103)
                    have hfk_9_104 : z_9[104]? = some (.ref qf104) := (hre_9 104 (by decide) (by decide) (by decide) (by decide)).trans (hfk_8_104)
                    have hfk_9_105 : z_9[105]? = some (.ref qf105) := (hre_9 105 (by decide) (by decide) (by decide) (by decide)).trans (hfk_8_105)
                    have hfk_9_106 : z_9[106]? = some (.ref qf106) := (hre_9 106 (by decide) (by decide) (by decide) (by decide)).trans (hfk_8_106)
                    have hfk_9_107 : z_9[107]? = some (.ref qf107) := (hre_9 107 (by decide) (by decide) (by decide) (by decide)).trans (hfk_8_107)
                    have hfk_9_108 : z_9[108]? = some (.ref qf108) := (hre_9 108 (by decide) (by decide) (by decide) (by decide)).trans (hfk_8_108)
                    have hfk_9_109 : z_9[109]? = some (.ref qf109) := (hre_9 109 (by decide) (by decide) (by decide) (by decide)).trans (hfk_8_109)
                    have hfk_9_110 : z_9[110]? = some (.ref qf110) := (hre_9 110 (by decide) (by decide) (by decide) (by decide)).trans (hfk_8_110)
                    have hfk_9_111 : z_9[111]? = some (.ref qf111) := (hre_9 111 (by decide) (by decide) (by decide) (by decide)).trans (hfk_8_111)
                    have hfk_9_117 : z_9[117]? = some (.int u8_3) := (hre_9 117 (by decide) (by decide) (by decide) (by decide)).trans (hch_8_117)
                    have hfk_9_118 : z_9[118]? = some (.ref qf118) := (hre_9 118 (by decide) (by decide) (by decide) (by decide)).trans (hfk_8_118)
                    have hfk_9_119 : z_9[119]? = some (.ref qf119) := (hre_9 119 (by decide) (by decide) (by decide) (by decide)).trans (hfk_8_119)
                    have hfk_9_120 : z_9[120]? = some (.int u8_4) := (hre_9 120 (by decide) (by decide) (by decide) (by decide)).trans (hch_8_120)
                    have hfk_9_121 : z_9[121]? = some (.int x121_194) := (hre_9 121 (by decide) (by decide) (by decide) (by decide)).trans (hfk_8_121)
                    have hfk_9_127 : z_9[127]? = some (.ref qf127) := (hre_9 127 (by decide) (by decide) (by decide) (by decide)).trans (hfk_8_127)
                    have hfk_9_128 : z_9[128]? = some (.ref qf128) := (hre_9 128 (by decide) (by decide) (by decide) (by decide)).trans (hfk_8_128)
                    have hfk_9_129 : z_9[129]? = some (.int v129) := (hre_9 129 (by decide) (by decide) (by decide) (by decide)).trans (hfk_8_129)
                    have hfk_9_130 : z_9[130]? = some (.int v130) := (hre_9 130 (by decide) (by decide) (by decide) (by decide)).trans (hfk_8_130)
                    have hfk_9_131 : z_9[131]? = some (.int x131_194) := (hre_9 131 (by decide) (by decide) (by decide) (by decide)).trans (hfk_8_131)
                    have hfk_9_132 : z_9[132]? = some (.int v132) := (hre_9 132 (by decide) (by decide) (by decide) (by decide)).trans (hfk_8_132)
                    have hfk_9_133 : z_9[133]? = some (.int v133) := (hre_9 133 (by decide) (by decide) (by decide) (by decide)).trans (hfk_8_133)
                    have hfk_9_134 : z_9[134]? = some (.int v134) := (hre_9 134 (by decide) (by decide) (by decide) (by decide)).trans (hfk_8_134)
                    have hfk_9_135 : z_9[135]? = some (.int v135) := (hre_9 135 (by decide) (by decide) (by decide) (by decide)).trans (hfk_8_135)
                    have hfk_9_136 : z_9[136]? = some (.int x136_194) := (hre_9 136 (by decide) (by decide) (by decide) (by decide)).trans (hfk_8_136)
                    have hfk_9_137 : z_9[137]? = some (.ref qf137) := (hre_9 137 (by decide) (by decide) (by decide) (by decide)).trans (hfk_8_137)
                    have hrq_9 : ∀ j : Nat, j ≠ 117 → j ≠ 120 → j ≠ 121 → j ≠ 122 → j ≠ 123 → j ≠ 124 → j ≠ 125 → j ≠ 131 → j ≠ 136 → z_9[j]? = zs[j]? := fun j g117 g120 g121 g122 g123 g124 g125 g131 g136 => (hre_9 j g122 g123 g124 g125).trans (hrq_8 j g117 g120 g121 g122 g123 g124 g125 g131 g136)
                    obtain ⟨rfl, hz_9⟩ := hwa_9
                    rcases hz_9 with rfl | rfl
                    · rw [if_pos rfl] at hsp
                      have hr0 := Option.some.inj hsp
                      clear hsp
                      obtain ⟨hq0, hr1⟩ := Prod.mk.inj hr0
                      clear hr0
                      obtain ⟨hq1, hr2⟩ := Prod.mk.inj hr1
                      clear hr1
                      obtain ⟨hq2, hr3⟩ := Prod.mk.inj hr2
                      clear hr2
                      obtain ⟨hq3, hr4⟩ := Prod.mk.inj hr3
                      clear hr3
                      obtain ⟨hq4, hr5⟩ := Prod.mk.inj hr4
                      clear hr4
                      obtain ⟨hq5, hr6⟩ := Prod.mk.inj hr5
                      clear hr5
                      obtain ⟨hq6, hr7⟩ := Prod.mk.inj hr6
                      clear hr6
                      obtain ⟨hq7, hr8⟩ := Prod.mk.inj hr7
                      clear hr7
                      obtain ⟨hq8, hr9⟩ := Prod.mk.inj hr8
                      clear hr8
                      obtain ⟨hq9, hr10⟩ := Prod.mk.inj hr9
                      clear hr9
                      obtain ⟨hq10, hr11⟩ := Prod.mk.inj hr10
                      clear hr10
                      obtain ⟨hq11, hr12⟩ := Prod.mk.inj hr11
                      clear hr11
                      obtain ⟨hq12, hr13⟩ := Prod.mk.inj hr12
                      clear hr12
                      obtain ⟨hq13, hr14⟩ := Prod.mk.inj hr13
                      clear hr13
                      subst hq0
                      subst hq1
                      subst hq2
                      subst hq3
                      subst hq4
                      subst hq5
                      subst hq6
                      subst hq7
                      subst hq8
                      subst hq9
                      subst hq10
                      subst hq11
                      subst hq12
                      subst hq13
                      subst hr14
                      have hP9 := hP.sub (ws' := [(h0, .inr (13, z_9)), (qf109, .inl (cf109, 96, .inl f109)), (qf100, .inl (cf100, 48000, .inl f100)), (qf127, .inl (cf127, 30, .inl g127_194)), (qf107, .inl (cf107, 96, .inl f107)), (qf102, .inl (cf102, 2048, .inl f102)), (qf111, .inl (cf111, 96, .inl f111)), (qf104, .inl (cf104, 8, .inl f104)), (qf118, .inl (cf118, 2100, .inl g908_1)), (qf119, .inl (cf119, 2100, .inl g908_2)), (qf105, .inl (cf105, 8, .inl f105)), (qf128, .inl (cf128, 31, .inl g128_194)), (qf110, .inl (cf110, 96, .inl f110)), (qf103, .inl (cf103, 8, .inl f103)), (qf106, .inl (cf106, 8, .inl f106)), (qf108, .inl (cf108, 8, .inl f108)), (qf137, .inl (cf137, 6, .inl g137_194))]) [16, 0, 9, 8, 1, 11, 2, 12, 13, 14, 15, 10, 3, 4, 5, 6, 7] rfl
                      have hD9 := hD.sub (ws' := [(h0, .inr (13, z_9)), (qf109, .inl (cf109, 96, .inl f109)), (qf100, .inl (cf100, 48000, .inl f100)), (qf127, .inl (cf127, 30, .inl g127_194)), (qf107, .inl (cf107, 96, .inl f107)), (qf102, .inl (cf102, 2048, .inl f102)), (qf111, .inl (cf111, 96, .inl f111)), (qf104, .inl (cf104, 8, .inl f104)), (qf118, .inl (cf118, 2100, .inl g908_1)), (qf119, .inl (cf119, 2100, .inl g908_2)), (qf105, .inl (cf105, 8, .inl f105)), (qf128, .inl (cf128, 31, .inl g128_194)), (qf110, .inl (cf110, 96, .inl f110)), (qf103, .inl (cf103, 8, .inl f103)), (qf106, .inl (cf106, 8, .inl f106)), (qf108, .inl (cf108, 8, .inl f108)), (qf137, .inl (cf137, 6, .inl g137_194))]) [16, 0, 9, 8, 1, 11, 2, 12, 13, 14, 15, 10, 3, 4, 5, 6, 7] (by decide) rfl
                      have hK9 := hK.sub (tys' := [(cf109, .int), (cf100, .int), (cf127, .int), (cf107, .int), (cf102, .int), (cf111, .int), (cf104, .int), (cf118, .int), (cf119, .int), (cf105, .int), (cf128, .int), (cf110, .int), (cf103, .int), (cf106, .int), (cf108, .int), (cf137, .int)]) [0, 9, 8, 1, 11, 2, 12, 13, 14, 15, 10, 3, 4, 5, 6, 7] rfl
                      exact W.zret hx hb hr (by decide) (fun t ht hW => ⟨⟨(0), (z_9), rfl, ⟨⟨rfl, Or.inl rfl⟩, hln_9, hrq_9, hfk_9_117, hfk_9_120, hfk_9_121, hch_9_122, hch_9_123, hch_9_124, hch_9_125, hfk_9_131, hfk_9_136⟩, by rw [ht]; exact hP9, va_K.moved hW.alike hK9, hD9⟩, hS.F ht⟩) hS.2.2 dX13_flows_233
                    · rw [if_neg (by decide)] at hsp
                      have hr0 := Option.some.inj hsp
                      clear hsp
                      obtain ⟨hq0, hr1⟩ := Prod.mk.inj hr0
                      clear hr0
                      obtain ⟨hq1, hr2⟩ := Prod.mk.inj hr1
                      clear hr1
                      obtain ⟨hq2, hr3⟩ := Prod.mk.inj hr2
                      clear hr2
                      obtain ⟨hq3, hr4⟩ := Prod.mk.inj hr3
                      clear hr3
                      obtain ⟨hq4, hr5⟩ := Prod.mk.inj hr4
                      clear hr4
                      obtain ⟨hq5, hr6⟩ := Prod.mk.inj hr5
                      clear hr5
                      obtain ⟨hq6, hr7⟩ := Prod.mk.inj hr6
                      clear hr6
                      obtain ⟨hq7, hr8⟩ := Prod.mk.inj hr7
                      clear hr7
                      obtain ⟨hq8, hr9⟩ := Prod.mk.inj hr8
                      clear hr8
                      obtain ⟨hq9, hr10⟩ := Prod.mk.inj hr9
                      clear hr9
                      obtain ⟨hq10, hr11⟩ := Prod.mk.inj hr10
                      clear hr10
                      obtain ⟨hq11, hr12⟩ := Prod.mk.inj hr11
                      clear hr11
                      obtain ⟨hq12, hr13⟩ := Prod.mk.inj hr12
                      clear hr12
                      obtain ⟨hq13, hr14⟩ := Prod.mk.inj hr13
                      clear hr13
                      subst hq0
                      subst hq1
                      subst hq2
                      subst hq3
                      subst hq4
                      subst hq5
                      subst hq6
                      subst hq7
                      subst hq8
                      subst hq9
                      subst hq10
                      subst hq11
                      subst hq12
                      subst hq13
                      subst hr14
                      have hP9 := hP.sub (ws' := [(h0, .inr (13, z_9)), (qf109, .inl (cf109, 96, .inl f109)), (qf100, .inl (cf100, 48000, .inl f100)), (qf127, .inl (cf127, 30, .inl g127_194)), (qf107, .inl (cf107, 96, .inl f107)), (qf102, .inl (cf102, 2048, .inl f102)), (qf111, .inl (cf111, 96, .inl f111)), (qf104, .inl (cf104, 8, .inl f104)), (qf118, .inl (cf118, 2100, .inl g908_1)), (qf119, .inl (cf119, 2100, .inl g908_2)), (qf105, .inl (cf105, 8, .inl f105)), (qf128, .inl (cf128, 31, .inl g128_194)), (qf110, .inl (cf110, 96, .inl f110)), (qf103, .inl (cf103, 8, .inl f103)), (qf106, .inl (cf106, 8, .inl f106)), (qf108, .inl (cf108, 8, .inl f108)), (qf137, .inl (cf137, 6, .inl g137_194))]) [16, 0, 9, 8, 1, 11, 2, 12, 13, 14, 15, 10, 3, 4, 5, 6, 7] rfl
                      have hD9 := hD.sub (ws' := [(h0, .inr (13, z_9)), (qf109, .inl (cf109, 96, .inl f109)), (qf100, .inl (cf100, 48000, .inl f100)), (qf127, .inl (cf127, 30, .inl g127_194)), (qf107, .inl (cf107, 96, .inl f107)), (qf102, .inl (cf102, 2048, .inl f102)), (qf111, .inl (cf111, 96, .inl f111)), (qf104, .inl (cf104, 8, .inl f104)), (qf118, .inl (cf118, 2100, .inl g908_1)), (qf119, .inl (cf119, 2100, .inl g908_2)), (qf105, .inl (cf105, 8, .inl f105)), (qf128, .inl (cf128, 31, .inl g128_194)), (qf110, .inl (cf110, 96, .inl f110)), (qf103, .inl (cf103, 8, .inl f103)), (qf106, .inl (cf106, 8, .inl f106)), (qf108, .inl (cf108, 8, .inl f108)), (qf137, .inl (cf137, 6, .inl g137_194))]) [16, 0, 9, 8, 1, 11, 2, 12, 13, 14, 15, 10, 3, 4, 5, 6, 7] (by decide) rfl
                      have hK9 := hK.sub (tys' := [(cf109, .int), (cf100, .int), (cf127, .int), (cf107, .int), (cf102, .int), (cf111, .int), (cf104, .int), (cf118, .int), (cf119, .int), (cf105, .int), (cf128, .int), (cf110, .int), (cf103, .int), (cf106, .int), (cf108, .int), (cf137, .int)]) [0, 9, 8, 1, 11, 2, 12, 13, 14, 15, 10, 3, 4, 5, 6, 7] rfl
                      exact W.zret hx hb hr (by decide) (fun t ht hW => ⟨⟨(1), (z_9), rfl, ⟨⟨rfl, Or.inr rfl⟩, hln_9, hrq_9, hfk_9_117, hfk_9_120, hfk_9_121, hch_9_122, hch_9_123, hch_9_124, hch_9_125, hfk_9_131, hfk_9_136⟩, by rw [ht]; exact hP9, va_K.moved hW.alike hK9, hD9⟩, hS.F ht⟩) hS.2.2 dX13_flows_233
                  · rw [if_neg (by decide)] at hsp
                    refine lv_if_ne (tgt := 234) hx hb dX13_flows_220 (by decide) (fun c_30 => ?_) (fun c_30 => (show False by revert c_30; decide).elim)
                    exact hj_234 (H, locs, ls, z_8, l1_194, l2_194, l6_194, l7_194, g908_1, g908_2, g127_194, g128_194, g137_194, u8_3, u8_4, x121_194, x122_194, x123_194, x124_194, x125_194, x131_194, x136_194) ⟨lv_sub hl [0, 1, 2, 4, 5] rfl, hS, hD.sub (ws' := [(h0, .inr (13, z_8)), (qf109, .inl (cf109, 96, .inl f109)), (qf100, .inl (cf100, 48000, .inl f100)), (qf127, .inl (cf127, 30, .inl g127_194)), (qf107, .inl (cf107, 96, .inl f107)), (qf102, .inl (cf102, 2048, .inl f102)), (qf111, .inl (cf111, 96, .inl f111)), (qf104, .inl (cf104, 8, .inl f104)), (qf118, .inl (cf118, 2100, .inl g908_1)), (qf119, .inl (cf119, 2100, .inl g908_2)), (qf105, .inl (cf105, 8, .inl f105)), (qf128, .inl (cf128, 31, .inl g128_194)), (qf110, .inl (cf110, 96, .inl f110)), (qf103, .inl (cf103, 8, .inl f103)), (qf106, .inl (cf106, 8, .inl f106)), (qf108, .inl (cf108, 8, .inl f108)), (qf137, .inl (cf137, 6, .inl g137_194))]) [9, 0, 10, 8, 1, 12, 2, 13, 14, 15, 16, 11, 3, 4, 5, 6, 7] (by decide) rfl, hP.sub (ws' := [(h0, .inr (13, z_8)), (qf109, .inl (cf109, 96, .inl f109)), (qf100, .inl (cf100, 48000, .inl f100)), (qf127, .inl (cf127, 30, .inl g127_194)), (qf107, .inl (cf107, 96, .inl f107)), (qf102, .inl (cf102, 2048, .inl f102)), (qf111, .inl (cf111, 96, .inl f111)), (qf104, .inl (cf104, 8, .inl f104)), (qf118, .inl (cf118, 2100, .inl g908_1)), (qf119, .inl (cf119, 2100, .inl g908_2)), (qf105, .inl (cf105, 8, .inl f105)), (qf128, .inl (cf128, 31, .inl g128_194)), (qf110, .inl (cf110, 96, .inl f110)), (qf103, .inl (cf103, 8, .inl f103)), (qf106, .inl (cf106, 8, .inl f106)), (qf108, .inl (cf108, 8, .inl f108)), (qf137, .inl (cf137, 6, .inl g137_194))]) [9, 0, 10, 8, 1, 12, 2, 13, 14, 15, 16, 11, 3, 4, 5, 6, 7] rfl, hfk_8_98, hfk_8_100, hfk_8_102, hfk_8_103, hfk_8_104, hfk_8_105, hfk_8_106, hfk_8_107, hfk_8_108, hfk_8_109, hfk_8_110, hfk_8_111, hch_8_117, hfk_8_118, hfk_8_119, hch_8_120, hfk_8_121, hfk_8_122, hfk_8_123, hfk_8_124, hfk_8_125, hfk_8_127, hfk_8_128, hfk_8_129, hfk_8_130, hfk_8_131, hfk_8_132, hfk_8_133, hfk_8_134, hfk_8_135, hfk_8_136, hfk_8_137, hln_8, hrq_8, hsp⟩
          intro hj_194
          refine lv_iload hx hb dX13_flows_155 (lv_at hl 0 rfl) ?_
          refine lv_aload_n hx hb dX13_flows_157 rfl (lv_at hl 2 rfl) ?_
          refine va_get (D := (dC, dI)) (ci := 13) (v := .int v135) (C := RX13) (T := TX13) (N := 155) hx hb hts uV_h9_X13 hown hK hP 0 rfl rfl 135 (by decide) (hts (.fieldLink RX13 970 "ClassMillModel" "codeSize" "I") mw_h9_562) (fun _ h9 => h9) hfh_155_135 dX13_flows_158 ?_
          refine lv_icmp_ge (tgt := 427) hx hb dX13_flows_161 (by decide) (fun c_14 => ?_) (fun c_14 => ?_)
          · rw [if_pos c_14] at hsp
            refine lv_iload hx hb dX13_flows_427 (lv_at hl 1 rfl) ?_
            refine lv_if_eq (tgt := 447) hx hb dX13_flows_429 (by decide) (fun c_15 => ?_) (fun c_15 => ?_)
            · rw [if_pos c_15] at hsp
              refine lv_iconst (v := 1) hx hb dX13_flows_447 (by decide) ?_
              have hr0 := Option.some.inj hsp
              clear hsp
              obtain ⟨hq0, hr1⟩ := Prod.mk.inj hr0
              clear hr0
              obtain ⟨hq1, hr2⟩ := Prod.mk.inj hr1
              clear hr1
              obtain ⟨hq2, hr3⟩ := Prod.mk.inj hr2
              clear hr2
              obtain ⟨hq3, hr4⟩ := Prod.mk.inj hr3
              clear hr3
              obtain ⟨hq4, hr5⟩ := Prod.mk.inj hr4
              clear hr4
              obtain ⟨hq5, hr6⟩ := Prod.mk.inj hr5
              clear hr5
              obtain ⟨hq6, hr7⟩ := Prod.mk.inj hr6
              clear hr6
              obtain ⟨hq7, hr8⟩ := Prod.mk.inj hr7
              clear hr7
              obtain ⟨hq8, hr9⟩ := Prod.mk.inj hr8
              clear hr8
              obtain ⟨hq9, hr10⟩ := Prod.mk.inj hr9
              clear hr9
              obtain ⟨hq10, hr11⟩ := Prod.mk.inj hr10
              clear hr10
              obtain ⟨hq11, hr12⟩ := Prod.mk.inj hr11
              clear hr11
              obtain ⟨hq12, hr13⟩ := Prod.mk.inj hr12
              clear hr12
              obtain ⟨hq13, hr14⟩ := Prod.mk.inj hr13
              clear hr13
              subst hq0
              subst hq1
              subst hq2
              subst hq3
              subst hq4
              subst hq5
              subst hq6
              subst hq7
              subst hq8
              subst hq9
              subst hq10
              subst hq11
              subst hq12
              subst hq13
              subst hr14
              have hP9 := hP.sub (ws' := [(h0, .inr (13, z155)), (qf109, .inl (cf109, 96, .inl f109)), (qf100, .inl (cf100, 48000, .inl f100)), (qf127, .inl (cf127, 30, .inl g127_155)), (qf107, .inl (cf107, 96, .inl f107)), (qf102, .inl (cf102, 2048, .inl f102)), (qf111, .inl (cf111, 96, .inl f111)), (qf104, .inl (cf104, 8, .inl f104)), (qf118, .inl (cf118, 2100, .inl g118_155)), (qf119, .inl (cf119, 2100, .inl g119_155)), (qf105, .inl (cf105, 8, .inl f105)), (qf128, .inl (cf128, 31, .inl g128_155)), (qf110, .inl (cf110, 96, .inl f110)), (qf103, .inl (cf103, 8, .inl f103)), (qf106, .inl (cf106, 8, .inl f106)), (qf108, .inl (cf108, 8, .inl f108)), (qf137, .inl (cf137, 6, .inl g137_155))]) [0, 1, 2, 3, 4, 5, 6, 7, 8, 9, 10, 11, 12, 13, 14, 15, 16] rfl
              have hD9 := hD.sub (ws' := [(h0, .inr (13, z155)), (qf109, .inl (cf109, 96, .inl f109)), (qf100, .inl (cf100, 48000, .inl f100)), (qf127, .inl (cf127, 30, .inl g127_155)), (qf107, .inl (cf107, 96, .inl f107)), (qf102, .inl (cf102, 2048, .inl f102)), (qf111, .inl (cf111, 96, .inl f111)), (qf104, .inl (cf104, 8, .inl f104)), (qf118, .inl (cf118, 2100, .inl g118_155)), (qf119, .inl (cf119, 2100, .inl g119_155)), (qf105, .inl (cf105, 8, .inl f105)), (qf128, .inl (cf128, 31, .inl g128_155)), (qf110, .inl (cf110, 96, .inl f110)), (qf103, .inl (cf103, 8, .inl f103)), (qf106, .inl (cf106, 8, .inl f106)), (qf108, .inl (cf108, 8, .inl f108)), (qf137, .inl (cf137, 6, .inl g137_155))]) [0, 1, 2, 3, 4, 5, 6, 7, 8, 9, 10, 11, 12, 13, 14, 15, 16] (by decide) rfl
              have hK9 := hK.sub (tys' := [(cf109, .int), (cf100, .int), (cf127, .int), (cf107, .int), (cf102, .int), (cf111, .int), (cf104, .int), (cf118, .int), (cf119, .int), (cf105, .int), (cf128, .int), (cf110, .int), (cf103, .int), (cf106, .int), (cf108, .int), (cf137, .int)]) [0, 1, 2, 3, 4, 5, 6, 7, 8, 9, 10, 11, 12, 13, 14, 15] rfl
              exact W.zret hx hb hr (by decide) (fun t ht hW => ⟨⟨(1), (z155), rfl, ⟨⟨rfl, Or.inr rfl⟩, hlh_155, hrh_155, hfh_155_117, hfh_155_120, hfh_155_121, hfh_155_122, hfh_155_123, hfh_155_124, hfh_155_125, hfh_155_131, hfh_155_136⟩, by rw [ht]; exact hP9, va_K.moved hW.alike hK9, hD9⟩, hS.F ht⟩) hS.2.2 dX13_flows_448
            · rw [if_neg c_15] at hsp
              refine lv_aload_n hx hb dX13_flows_432 rfl (lv_at hl 2 rfl) ?_
              refine lv_bipush (v := 10) hx hb dX13_flows_433 (by decide) ?_
              refine lv_iload_n hx hb dX13_flows_435 rfl (lv_at hl 3 rfl) ?_
              refine lv_iload_n hx hb dX13_flows_436 rfl (lv_at hl 4 rfl) ?_
              refine lv_aload_n hx hb dX13_flows_437 rfl (lv_at hl 2 rfl) ?_
              refine va_get (D := (dC, dI)) (ci := 13) (v := .int v135) (C := RX13) (T := TX13) (N := 155) hx hb hts uV_h9_X13 hown hK hP 0 rfl rfl 135 (by decide) (hts (.fieldLink RX13 970 "ClassMillModel" "codeSize" "I") mw_h9_562) (fun _ h9 => h9) hfh_155_135 dX13_flows_438 ?_
              obtain ⟨⟨u3_0, u3_1, u3_2, u3_3, u3_4⟩, hu_3, hsp⟩ := ox_bind hsp
              try dsimp only at hsp
              have hPc := hP.sub (ws' := [(h0, .inr (13, z155))]) [0] rfl
              have hDc := hD.sub (ws' := [(h0, .inr (13, z155))]) [0] (by decide) rfl
              have hKc := hK.sub (tys' := []) [] rfl
              have hFc := va_free (wc := [(h0, .inr (13, z155))]) hD hS hA [0] rfl
              refine va_calli (va_runV (As := [.int 10, .int l1_155, .int l2_155, .int v135]) (rest := []) ⟨hx, hb, hml, hown, hts⟩ (tm_bad l dC dI H.size h0 z155 10 l1_155 l2_155 v135 x122_155 x123_155 x124_155 x125_155 nf u3_0 u3_1 u3_2 u3_3 u3_4 hlh_155 hfh_155_122 hfh_155_123 hfh_155_124 hfh_155_125 hu_3) (cwV 4 hts gv_h9_63 rfl rfl rfl (by decide +kernel) ⟨Nat.le_of_ble_eq_true rfl, Nat.le_of_ble_eq_true rfl⟩) ⟨fun a U g mk q => by obtain ⟨q0, q1, qP, qK, qD⟩ := q; exact ⟨q0, q1, qP, va_K.moved (u := U) (U := U.calling g mk a) (Vm.Alike.refl U.vm) qK, qD⟩, va_recv hKc hPc (ci := 13) (q0 := 0) rfl rfl, fun U hU hW => ⟨rfl, by rw [hU], by rw [hU]; exact hPc, va_K.moved hW.alike hKc, hDc.weaken (fun _ _ _ _ => trivial)⟩⟩ rfl rfl hl.1 rfl (lv_room (Nat.le_of_ble_eq_true rfl)) dX13_flows_441 ⟨Nat.le_of_ble_eq_true rfl, Nat.le_of_ble_eq_true rfl⟩) hS (fun q _ h => hFc q h) hFc ?_
              clear hS
              intro r_16 u t H1 locs ht hvm hw hB hz1 hk1 hS
              obtain ⟨z_3, rfl⟩ : ∃ z, z = u := ⟨_, rfl⟩
              obtain ⟨hP1, hK1, hD1⟩ := hB
              rw [ht] at hP1
              have hK1 := va_K.moved hvm.symm hK1
              try dsimp only at hw
              have hPD := va_join (wr := [(qf109, .inl (cf109, 96, .inl f109)), (qf100, .inl (cf100, 48000, .inl f100)), (qf127, .inl (cf127, 30, .inl g127_155)), (qf107, .inl (cf107, 96, .inl f107)), (qf102, .inl (cf102, 2048, .inl f102)), (qf111, .inl (cf111, 96, .inl f111)), (qf104, .inl (cf104, 8, .inl f104)), (qf118, .inl (cf118, 2100, .inl g118_155)), (qf119, .inl (cf119, 2100, .inl g119_155)), (qf105, .inl (cf105, 8, .inl f105)), (qf128, .inl (cf128, 31, .inl g128_155)), (qf110, .inl (cf110, 96, .inl f110)), (qf103, .inl (cf103, 8, .inl f103)), (qf106, .inl (cf106, 8, .inl f106)), (qf108, .inl (cf108, 8, .inl f108)), (qf137, .inl (cf137, 6, .inl g137_155))]) (w1 := [(h0, .inr (13, z_3))]) hP hD [0] [1, 2, 3, 4, 5, 6, 7, 8, 9, 10, 11, 12, 13, 14, 15, 16] rfl rfl (by decide) (by decide) hk1 hFc hP1 hD1
              clear hP hD
              obtain ⟨hP, hD⟩ := hPD
              replace hK := (hK.sub (tys' := [(cf109, .int), (cf100, .int), (cf127, .int), (cf107, .int), (cf102, .int), (cf111, .int), (cf104, .int), (cf118, .int), (cf119, .int), (cf105, .int), (cf128, .int), (cf110, .int), (cf103, .int), (cf106, .int), (cf108, .int), (cf137, .int)]) [0, 1, 2, 3, 4, 5, 6, 7, 8, 9, 10, 11, 12, 13, 14, 15] rfl).app hK1
              clear hPc hDc hKc hFc hP1 hK1 hD1 hz1 hk1 ht hvm
              generalize H1 = H at hP hS ⊢
              replace hP : va_P (dC, dI) vwCl [(qf109, .inl (cf109, 96, .inl f109)), (qf100, .inl (cf100, 48000, .inl f100)), (qf127, .inl (cf127, 30, .inl g127_155)), (qf107, .inl (cf107, 96, .inl f107)), (qf102, .inl (cf102, 2048, .inl f102)), (qf111, .inl (cf111, 96, .inl f111)), (qf104, .inl (cf104, 8, .inl f104)), (qf118, .inl (cf118, 2100, .inl g118_155)), (qf119, .inl (cf119, 2100, .inl g119_155)), (qf105, .inl (cf105, 8, .inl f105)), (qf128, .inl (cf128, 31, .inl g128_155)), (qf110, .inl (cf110, 96, .inl f110)), (qf103, .inl (cf103, 8, .inl f103)), (qf106, .inl (cf106, 8, .inl f106)), (qf108, .inl (cf108, 8, .inl f108)), (qf137, .inl (cf137, 6, .inl g137_155)), (h0, .inr (13, z_3))] H := hP
              replace hD : va_D A [(qf109, .inl (cf109, 96, .inl f109)), (qf100, .inl (cf100, 48000, .inl f100)), (qf127, .inl (cf127, 30, .inl g127_155)), (qf107, .inl (cf107, 96, .inl f107)), (qf102, .inl (cf102, 2048, .inl f102)), (qf111, .inl (cf111, 96, .inl f111)), (qf104, .inl (cf104, 8, .inl f104)), (qf118, .inl (cf118, 2100, .inl g118_155)), (qf119, .inl (cf119, 2100, .inl g119_155)), (qf105, .inl (cf105, 8, .inl f105)), (qf128, .inl (cf128, 31, .inl g128_155)), (qf110, .inl (cf110, 96, .inl f110)), (qf103, .inl (cf103, 8, .inl f103)), (qf106, .inl (cf106, 8, .inl f106)), (qf108, .inl (cf108, 8, .inl f108)), (qf137, .inl (cf137, 6, .inl g137_155)), (h0, .inr (13, z_3))] := hD
              replace hK : va_K (dC, dI) vwCl [(cf109, .int), (cf100, .int), (cf127, .int), (cf107, .int), (cf102, .int), (cf111, .int), (cf104, .int), (cf118, .int), (cf119, .int), (cf105, .int), (cf128, .int), (cf110, .int), (cf103, .int), (cf106, .int), (cf108, .int), (cf137, .int)] s := hK
              obtain ⟨hwa_3, hln_3, hre_3, hch_3_122, hch_3_123, hch_3_124, hch_3_125⟩ := hw
              have hfk_3_98 : z_3[98]? = some (.int v98) := (hre_3 98 (by decide) (by decide) (by decide) (by decide)).trans (hfh_155_98)
              have hfk_3_100 : z_3[100]? = some (.ref qf100) := (hre_3 100 (by decide) (by decide) (by decide) (by decide)).trans (hfh_155_100)
              have hfk_3_102 : z_3[102]? = some (.ref qf102) := (hre_3 102 (by decide) (by decide) (by decide) (by decide)).trans (hfh_155_102)
              have hfk_3_103 : z_3[103]? = some (.ref qf103) := (hre_3 103 (by decide) (by decide) (by decide) (by decide)).trans (hfh_155_103)
              have hfk_3_104 : z_3[104]? = some (.ref qf104) := (hre_3 104 (by decide) (by decide) (by decide) (by decide)).trans (hfh_155_104)
              have hfk_3_105 : z_3[105]? = some (.ref qf105) := (hre_3 105 (by decide) (by decide) (by decide) (by decide)).trans (hfh_155_105)
              have hfk_3_106 : z_3[106]? = some (.ref qf106) := (hre_3 106 (by decide) (by decide) (by decide) (by decide)).trans (hfh_155_106)
              have hfk_3_107 : z_3[107]? = some (.ref qf107) := (hre_3 107 (by decide) (by decide) (by decide) (by decide)).trans (hfh_155_107)
              have hfk_3_108 : z_3[108]? = some (.ref qf108) := (hre_3 108 (by decide) (by decide) (by decide) (by decide)).trans (hfh_155_108)
              have hfk_3_109 : z_3[109]? = some (.ref qf109) := (hre_3 109 (by decide) (by decide) (by decide) (by decide)).trans (hfh_155_109)
              have hfk_3_110 : z_3[110]? = some (.ref qf110) := (hre_3 110 (by decide) (by decide) (by decide) (by decide)).trans (hfh_155_110)
              have hfk_3_111 : z_3[111]? = some (.ref qf111) := (hre_3 111 (by decide) (by decide) (by decide) (by decide)).trans (hfh_155_111)
              have hfk_3_117 : z_3[117]? = some (.int x117_155) := (hre_3 117 (by decide) (by decide) (by decide) (by decide)).trans (hfh_155_117)
              have hfk_3_118 : z_3[118]? = some (.ref qf118) := (hre_3 118 (by decide) (by decide) (by decide) (by decide)).trans (hfh_155_118)
              have hfk_3_119 : z_3[119]? = some (.ref qf119) := (hre_3 119 (by decide) (by decide) (by decide) (by decide)).trans (hfh_155_119)
              have hfk_3_120 : z_3[120]? = some (.int x120_155) := (hre_3 120 (by decide) (by decide) (by decide) (by decide)).trans (hfh_155_120)
              have hfk_3_121 : z_3[121]? = some (.int x121_155) := (hre_3 121 (by decide) (by decide) (by decide) (by decide)).trans (hfh_155_121)
              have hfk_3_127 : z_3[127]? = some (.ref qf127) := (hre_3 127 (by decide) (by decide) (by decide) (by decide)).trans (hfh_155_127)
              have hfk_3_128 : z_3[128]? = some (.ref qf128) := (hre_3 128 (by decide) (by decide) (by decide) (by decide)).trans (hfh_155_128)
              have hfk_3_129 : z_3[129]? = some (.int v129) := (hre_3 129 (by decide) (by decide) (by decide) (by decide)).trans (hfh_155_129)
              have hfk_3_130 : z_3[130]? = some (.int v130) := (hre_3 130 (by decide) (by decide) (by decide) (by decide)).trans (hfh_155_130)
              have hfk_3_131 : z_3[131]? = some (.int x131_155) := (hre_3 131 (by decide) (by decide) (by decide) (by decide)).trans (hfh_155_131)
              have hfk_3_132 : z_3[132]? = some (.int v132) := (hre_3 132 (by decide) (by decide) (by decide) (by decide)).trans (hfh_155_132)
              have hfk_3_133 : z_3[133]? = some (.int v133) := (hre_3 133 (by decide) (by decide) (by decide) (by decide)).trans (hfh_155_133)
              have hfk_3_134 : z_3[134]? = some (.int v134) := (hre_3 134 (by decide) (by decide) (by decide) (by decide)).trans (hfh_155_134)
              have hfk_3_135 : z_3[135]? = some (.int v135) := (hre_3 135 (by decide) (by decide) (by decide) (by decide)).trans (hfh_155_135)
              have hfk_3_136 : z_3[136]? = some (.int x136_155) := (hre_3 136 (by decide) (by decide) (by decide) (by decide)).trans (hfh_155_136)
              have hfk_3_137 : z_3[137]? = some (.ref qf137) := (hre_3 137 (by decide) (by decide) (by decide) (by decide)).trans (hfh_155_137)
              have hrq_3 : ∀ j : Nat, j ≠ 117 → j ≠ 120 → j ≠ 121 → j ≠ 122 → j ≠ 123 → j ≠ 124 → j ≠ 125 → j ≠ 131 → j ≠ 136 → z_3[j]? = zs[j]? := fun j g117 g120 g121 g122 g123 g124 g125 g131 g136 => (hre_3 j g122 g123 g124 g125).trans (hrh_155 j g117 g120 g121 g122 g123 g124 g125 g131 g136)
              obtain ⟨rfl, hz_3⟩ := hwa_3
              rcases hz_3 with rfl | rfl
              · rw [if_pos rfl] at hsp
                refine lv_goto (tgt := 448) hx hb dX13_flows_444 (by decide) ?_
                have hr0 := Option.some.inj hsp
                clear hsp
                obtain ⟨hq0, hr1⟩ := Prod.mk.inj hr0
                clear hr0
                obtain ⟨hq1, hr2⟩ := Prod.mk.inj hr1
                clear hr1
                obtain ⟨hq2, hr3⟩ := Prod.mk.inj hr2
                clear hr2
                obtain ⟨hq3, hr4⟩ := Prod.mk.inj hr3
                clear hr3
                obtain ⟨hq4, hr5⟩ := Prod.mk.inj hr4
                clear hr4
                obtain ⟨hq5, hr6⟩ := Prod.mk.inj hr5
                clear hr5
                obtain ⟨hq6, hr7⟩ := Prod.mk.inj hr6
                clear hr6
                obtain ⟨hq7, hr8⟩ := Prod.mk.inj hr7
                clear hr7
                obtain ⟨hq8, hr9⟩ := Prod.mk.inj hr8
                clear hr8
                obtain ⟨hq9, hr10⟩ := Prod.mk.inj hr9
                clear hr9
                obtain ⟨hq10, hr11⟩ := Prod.mk.inj hr10
                clear hr10
                obtain ⟨hq11, hr12⟩ := Prod.mk.inj hr11
                clear hr11
                obtain ⟨hq12, hr13⟩ := Prod.mk.inj hr12
                clear hr12
                obtain ⟨hq13, hr14⟩ := Prod.mk.inj hr13
                clear hr13
                subst hq0
                subst hq1
                subst hq2
                subst hq3
                subst hq4
                subst hq5
                subst hq6
                subst hq7
                subst hq8
                subst hq9
                subst hq10
                subst hq11
                subst hq12
                subst hq13
                subst hr14
                have hP9 := hP.sub (ws' := [(h0, .inr (13, z_3)), (qf109, .inl (cf109, 96, .inl f109)), (qf100, .inl (cf100, 48000, .inl f100)), (qf127, .inl (cf127, 30, .inl g127_155)), (qf107, .inl (cf107, 96, .inl f107)), (qf102, .inl (cf102, 2048, .inl f102)), (qf111, .inl (cf111, 96, .inl f111)), (qf104, .inl (cf104, 8, .inl f104)), (qf118, .inl (cf118, 2100, .inl g118_155)), (qf119, .inl (cf119, 2100, .inl g119_155)), (qf105, .inl (cf105, 8, .inl f105)), (qf128, .inl (cf128, 31, .inl g128_155)), (qf110, .inl (cf110, 96, .inl f110)), (qf103, .inl (cf103, 8, .inl f103)), (qf106, .inl (cf106, 8, .inl f106)), (qf108, .inl (cf108, 8, .inl f108)), (qf137, .inl (cf137, 6, .inl g137_155))]) [16, 0, 1, 2, 3, 4, 5, 6, 7, 8, 9, 10, 11, 12, 13, 14, 15] rfl
                have hD9 := hD.sub (ws' := [(h0, .inr (13, z_3)), (qf109, .inl (cf109, 96, .inl f109)), (qf100, .inl (cf100, 48000, .inl f100)), (qf127, .inl (cf127, 30, .inl g127_155)), (qf107, .inl (cf107, 96, .inl f107)), (qf102, .inl (cf102, 2048, .inl f102)), (qf111, .inl (cf111, 96, .inl f111)), (qf104, .inl (cf104, 8, .inl f104)), (qf118, .inl (cf118, 2100, .inl g118_155)), (qf119, .inl (cf119, 2100, .inl g119_155)), (qf105, .inl (cf105, 8, .inl f105)), (qf128, .inl (cf128, 31, .inl g128_155)), (qf110, .inl (cf110, 96, .inl f110)), (qf103, .inl (cf103, 8, .inl f103)), (qf106, .inl (cf106, 8, .inl f106)), (qf108, .inl (cf108, 8, .inl f108)), (qf137, .inl (cf137, 6, .inl g137_155))]) [16, 0, 1, 2, 3, 4, 5, 6, 7, 8, 9, 10, 11, 12, 13, 14, 15] (by decide) rfl
                have hK9 := hK.sub (tys' := [(cf109, .int), (cf100, .int), (cf127, .int), (cf107, .int), (cf102, .int), (cf111, .int), (cf104, .int), (cf118, .int), (cf119, .int), (cf105, .int), (cf128, .int), (cf110, .int), (cf103, .int), (cf106, .int), (cf108, .int), (cf137, .int)]) [0, 1, 2, 3, 4, 5, 6, 7, 8, 9, 10, 11, 12, 13, 14, 15] rfl
                exact W.zret hx hb hr (by decide) (fun t ht hW => ⟨⟨(0), (z_3), rfl, ⟨⟨rfl, Or.inl rfl⟩, hln_3, hrq_3, hfk_3_117, hfk_3_120, hfk_3_121, hch_3_122, hch_3_123, hch_3_124, hch_3_125, hfk_3_131, hfk_3_136⟩, by rw [ht]; exact hP9, va_K.moved hW.alike hK9, hD9⟩, hS.F ht⟩) hS.2.2 dX13_flows_448
              · rw [if_neg (by decide)] at hsp
                refine lv_goto (tgt := 448) hx hb dX13_flows_444 (by decide) ?_
                have hr0 := Option.some.inj hsp
                clear hsp
                obtain ⟨hq0, hr1⟩ := Prod.mk.inj hr0
                clear hr0
                obtain ⟨hq1, hr2⟩ := Prod.mk.inj hr1
                clear hr1
                obtain ⟨hq2, hr3⟩ := Prod.mk.inj hr2
                clear hr2
                obtain ⟨hq3, hr4⟩ := Prod.mk.inj hr3
                clear hr3
                obtain ⟨hq4, hr5⟩ := Prod.mk.inj hr4
                clear hr4
                obtain ⟨hq5, hr6⟩ := Prod.mk.inj hr5
                clear hr5
                obtain ⟨hq6, hr7⟩ := Prod.mk.inj hr6
                clear hr6
                obtain ⟨hq7, hr8⟩ := Prod.mk.inj hr7
                clear hr7
                obtain ⟨hq8, hr9⟩ := Prod.mk.inj hr8
                clear hr8
                obtain ⟨hq9, hr10⟩ := Prod.mk.inj hr9
                clear hr9
                obtain ⟨hq10, hr11⟩ := Prod.mk.inj hr10
                clear hr10
                obtain ⟨hq11, hr12⟩ := Prod.mk.inj hr11
                clear hr11
                obtain ⟨hq12, hr13⟩ := Prod.mk.inj hr12
                clear hr12
                obtain ⟨hq13, hr14⟩ := Prod.mk.inj hr13
                clear hr13
                subst hq0
                subst hq1
                subst hq2
                subst hq3
                subst hq4
                subst hq5
                subst hq6
                subst hq7
                subst hq8
                subst hq9
                subst hq10
                subst hq11
                subst hq12
                subst hq13
                subst hr14
                have hP9 := hP.sub (ws' := [(h0, .inr (13, z_3)), (qf109, .inl (cf109, 96, .inl f109)), (qf100, .inl (cf100, 48000, .inl f100)), (qf127, .inl (cf127, 30, .inl g127_155)), (qf107, .inl (cf107, 96, .inl f107)), (qf102, .inl (cf102, 2048, .inl f102)), (qf111, .inl (cf111, 96, .inl f111)), (qf104, .inl (cf104, 8, .inl f104)), (qf118, .inl (cf118, 2100, .inl g118_155)), (qf119, .inl (cf119, 2100, .inl g119_155)), (qf105, .inl (cf105, 8, .inl f105)), (qf128, .inl (cf128, 31, .inl g128_155)), (qf110, .inl (cf110, 96, .inl f110)), (qf103, .inl (cf103, 8, .inl f103)), (qf106, .inl (cf106, 8, .inl f106)), (qf108, .inl (cf108, 8, .inl f108)), (qf137, .inl (cf137, 6, .inl g137_155))]) [16, 0, 1, 2, 3, 4, 5, 6, 7, 8, 9, 10, 11, 12, 13, 14, 15] rfl
                have hD9 := hD.sub (ws' := [(h0, .inr (13, z_3)), (qf109, .inl (cf109, 96, .inl f109)), (qf100, .inl (cf100, 48000, .inl f100)), (qf127, .inl (cf127, 30, .inl g127_155)), (qf107, .inl (cf107, 96, .inl f107)), (qf102, .inl (cf102, 2048, .inl f102)), (qf111, .inl (cf111, 96, .inl f111)), (qf104, .inl (cf104, 8, .inl f104)), (qf118, .inl (cf118, 2100, .inl g118_155)), (qf119, .inl (cf119, 2100, .inl g119_155)), (qf105, .inl (cf105, 8, .inl f105)), (qf128, .inl (cf128, 31, .inl g128_155)), (qf110, .inl (cf110, 96, .inl f110)), (qf103, .inl (cf103, 8, .inl f103)), (qf106, .inl (cf106, 8, .inl f106)), (qf108, .inl (cf108, 8, .inl f108)), (qf137, .inl (cf137, 6, .inl g137_155))]) [16, 0, 1, 2, 3, 4, 5, 6, 7, 8, 9, 10, 11, 12, 13, 14, 15] (by decide) rfl
                have hK9 := hK.sub (tys' := [(cf109, .int), (cf100, .int), (cf127, .int), (cf107, .int), (cf102, .int), (cf111, .int), (cf104, .int), (cf118, .int), (cf119, .int), (cf105, .int), (cf128, .int), (cf110, .int), (cf103, .int), (cf106, .int), (cf108, .int), (cf137, .int)]) [0, 1, 2, 3, 4, 5, 6, 7, 8, 9, 10, 11, 12, 13, 14, 15] rfl
                exact W.zret hx hb hr (by decide) (fun t ht hW => ⟨⟨(1), (z_3), rfl, ⟨⟨rfl, Or.inr rfl⟩, hln_3, hrq_3, hfk_3_117, hfk_3_120, hfk_3_121, hch_3_122, hch_3_123, hch_3_124, hch_3_125, hfk_3_131, hfk_3_136⟩, by rw [ht]; exact hP9, va_K.moved hW.alike hK9, hD9⟩, hS.F ht⟩) hS.2.2 dX13_flows_448
          · rw [if_neg c_14] at hsp
            refine lv_aload_n hx hb dX13_flows_164 rfl (lv_at hl 2 rfl) ?_
            refine lv_iload hx hb dX13_flows_165 (lv_at hl 0 rfl) ?_
            obtain ⟨u4_0, hu_4, hsp⟩ := ox_bind hsp
            try dsimp only at hsp
            have hPc := hP.sub (ws' := [(h0, .inr (13, z155)), (qf111, .inl (cf111, 96, .inl f111)), (qf100, .inl (cf100, 48000, .inl f100))]) [0, 6, 2] rfl
            have hDc := hD.sub (ws' := [(h0, .inr (13, z155)), (qf111, .inl (cf111, 96, .inl f111)), (qf100, .inl (cf100, 48000, .inl f100))]) [0, 6, 2] (by decide) rfl
            have hKc := hK.sub (tys' := [(cf111, .int), (cf100, .int)]) [5, 1] rfl
            have hFc := va_free (wc := [(h0, .inr (13, z155)), (qf111, .inl (cf111, 96, .inl f111)), (qf100, .inl (cf100, 48000, .inl f100))]) hD hS hA [0, 6, 2] rfl
            refine va_calli (va_runV (As := [.int l6_155]) (rest := []) ⟨hx, hb, hml, hown, hts⟩ (tn_frameFor l dC dI H.size h0 z155 l6_155 qf100 qf111 v132 v133 cf111 f111 cf100 f100 nf u4_0 hlh_155 hfh_155_100 hfh_155_111 hfh_155_132 hfh_155_133 hu_4) (cwV 1 hts gv_h9_64 rfl rfl rfl (by decide +kernel) ⟨Nat.le_of_ble_eq_true rfl, Nat.le_of_ble_eq_true rfl⟩) ⟨fun a U g mk q => by obtain ⟨q0, q1, qP, qK, qD⟩ := q; exact ⟨q0, q1, qP, va_K.moved (u := U) (U := U.calling g mk a) (Vm.Alike.refl U.vm) qK, qD⟩, va_recv hKc hPc (ci := 13) (q0 := 0) rfl rfl, fun U hU hW => ⟨rfl, by rw [hU], by rw [hU]; exact hPc, va_K.moved hW.alike hKc, hDc.weaken (fun _ _ _ _ => trivial)⟩⟩ rfl rfl hl.1 rfl (lv_room (Nat.le_of_ble_eq_true rfl)) dX13_flows_167 ⟨Nat.le_of_ble_eq_true rfl, Nat.le_of_ble_eq_true rfl⟩) hS (fun q _ h => hFc q h) hFc ?_
            clear hS
            intro r_17 u t H1 locs ht hvm hw hB hz1 hk1 hS
            obtain ⟨z_4, rfl⟩ : ∃ z, z = u := ⟨_, rfl⟩
            obtain ⟨hP1, hK1, hD1⟩ := hB
            rw [ht] at hP1
            have hK1 := va_K.moved hvm.symm hK1
            try dsimp only at hw
            have hPD := va_join (wr := [(qf109, .inl (cf109, 96, .inl f109)), (qf127, .inl (cf127, 30, .inl g127_155)), (qf107, .inl (cf107, 96, .inl f107)), (qf102, .inl (cf102, 2048, .inl f102)), (qf104, .inl (cf104, 8, .inl f104)), (qf118, .inl (cf118, 2100, .inl g118_155)), (qf119, .inl (cf119, 2100, .inl g119_155)), (qf105, .inl (cf105, 8, .inl f105)), (qf128, .inl (cf128, 31, .inl g128_155)), (qf110, .inl (cf110, 96, .inl f110)), (qf103, .inl (cf103, 8, .inl f103)), (qf106, .inl (cf106, 8, .inl f106)), (qf108, .inl (cf108, 8, .inl f108)), (qf137, .inl (cf137, 6, .inl g137_155))]) (w1 := [(h0, .inr (13, z_4)), (qf111, .inl (cf111, 96, .inl f111)), (qf100, .inl (cf100, 48000, .inl f100))]) hP hD [0, 6, 2] [1, 3, 4, 5, 7, 8, 9, 10, 11, 12, 13, 14, 15, 16] rfl rfl (by decide) (by decide) hk1 hFc hP1 hD1
            clear hP hD
            obtain ⟨hP, hD⟩ := hPD
            replace hK := (hK.sub (tys' := [(cf109, .int), (cf127, .int), (cf107, .int), (cf102, .int), (cf104, .int), (cf118, .int), (cf119, .int), (cf105, .int), (cf128, .int), (cf110, .int), (cf103, .int), (cf106, .int), (cf108, .int), (cf137, .int)]) [0, 2, 3, 4, 6, 7, 8, 9, 10, 11, 12, 13, 14, 15] rfl).app hK1
            clear hPc hDc hKc hFc hP1 hK1 hD1 hz1 hk1 ht hvm
            generalize H1 = H at hP hS ⊢
            replace hP : va_P (dC, dI) vwCl [(qf109, .inl (cf109, 96, .inl f109)), (qf127, .inl (cf127, 30, .inl g127_155)), (qf107, .inl (cf107, 96, .inl f107)), (qf102, .inl (cf102, 2048, .inl f102)), (qf104, .inl (cf104, 8, .inl f104)), (qf118, .inl (cf118, 2100, .inl g118_155)), (qf119, .inl (cf119, 2100, .inl g119_155)), (qf105, .inl (cf105, 8, .inl f105)), (qf128, .inl (cf128, 31, .inl g128_155)), (qf110, .inl (cf110, 96, .inl f110)), (qf103, .inl (cf103, 8, .inl f103)), (qf106, .inl (cf106, 8, .inl f106)), (qf108, .inl (cf108, 8, .inl f108)), (qf137, .inl (cf137, 6, .inl g137_155)), (h0, .inr (13, z_4)), (qf111, .inl (cf111, 96, .inl f111)), (qf100, .inl (cf100, 48000, .inl f100))] H := hP
            replace hD : va_D A [(qf109, .inl (cf109, 96, .inl f109)), (qf127, .inl (cf127, 30, .inl g127_155)), (qf107, .inl (cf107, 96, .inl f107)), (qf102, .inl (cf102, 2048, .inl f102)), (qf104, .inl (cf104, 8, .inl f104)), (qf118, .inl (cf118, 2100, .inl g118_155)), (qf119, .inl (cf119, 2100, .inl g119_155)), (qf105, .inl (cf105, 8, .inl f105)), (qf128, .inl (cf128, 31, .inl g128_155)), (qf110, .inl (cf110, 96, .inl f110)), (qf103, .inl (cf103, 8, .inl f103)), (qf106, .inl (cf106, 8, .inl f106)), (qf108, .inl (cf108, 8, .inl f108)), (qf137, .inl (cf137, 6, .inl g137_155)), (h0, .inr (13, z_4)), (qf111, .inl (cf111, 96, .inl f111)), (qf100, .inl (cf100, 48000, .inl f100))] := hD
            replace hK : va_K (dC, dI) vwCl [(cf109, .int), (cf127, .int), (cf107, .int), (cf102, .int), (cf104, .int), (cf118, .int), (cf119, .int), (cf105, .int), (cf128, .int), (cf110, .int), (cf103, .int), (cf106, .int), (cf108, .int), (cf137, .int), (cf111, .int), (cf100, .int)] s := hK
            obtain ⟨hwa_4, hln_4, hre_4⟩ := hw
            have hfk_4_98 : z_4[98]? = some (.int v98) := (hre_4 98 ).trans (hfh_155_98)
            have hfk_4_100 : z_4[100]? = some (.ref qf100) := (hre_4 100 ).trans (hfh_155_100)
            have hfk_4_102 : z_4[102]? = some (.ref qf102) := (hre_4 102 ).trans (hfh_155_102)
            have hfk_4_103 : z_4[103]? = some (.ref qf103) := (hre_4 103 ).trans (hfh_155_103)
            have hfk_4_104 : z_4[104]? = some (.ref qf104) := (hre_4 104 ).trans (hfh_155_104)
            have hfk_4_105 : z_4[105]? = some (.ref qf105) := (hre_4 105 ).trans (hfh_155_105)
            have hfk_4_106 : z_4[106]? = some (.ref qf106) := (hre_4 106 ).trans (hfh_155_106)
            have hfk_4_107 : z_4[107]? = some (.ref qf107) := (hre_4 107 ).trans (hfh_155_107)
            have hfk_4_108 : z_4[108]? = some (.ref qf108) := (hre_4 108 ).trans (hfh_155_108)
            have hfk_4_109 : z_4[109]? = some (.ref qf109) := (hre_4 109 ).trans (hfh_155_109)
            have hfk_4_110 : z_4[110]? = some (.ref qf110) := (hre_4 110 ).trans (hfh_155_110)
            have hfk_4_111 : z_4[111]? = some (.ref qf111) := (hre_4 111 ).trans (hfh_155_111)
            have hfk_4_117 : z_4[117]? = some (.int x117_155) := (hre_4 117 ).trans (hfh_155_117)
            have hfk_4_118 : z_4[118]? = some (.ref qf118) := (hre_4 118 ).trans (hfh_155_118)
            have hfk_4_119 : z_4[119]? = some (.ref qf119) := (hre_4 119 ).trans (hfh_155_119)
            have hfk_4_120 : z_4[120]? = some (.int x120_155) := (hre_4 120 ).trans (hfh_155_120)
            have hfk_4_121 : z_4[121]? = some (.int x121_155) := (hre_4 121 ).trans (hfh_155_121)
            have hfk_4_122 : z_4[122]? = some (.int x122_155) := (hre_4 122 ).trans (hfh_155_122)
            have hfk_4_123 : z_4[123]? = some (.int x123_155) := (hre_4 123 ).trans (hfh_155_123)
            have hfk_4_124 : z_4[124]? = some (.int x124_155) := (hre_4 124 ).trans (hfh_155_124)
            have hfk_4_125 : z_4[125]? = some (.int x125_155) := (hre_4 125 ).trans (hfh_155_125)
            have hfk_4_127 : z_4[127]? = some (.ref qf127) := (hre_4 127 ).trans (hfh_155_127)
            have hfk_4_128 : z_4[128]? = some (.ref qf128) := (hre_4 128 ).trans (hfh_155_128)
            have hfk_4_129 : z_4[129]? = some (.int v129) := (hre_4 129 ).trans (hfh_155_129)
            have hfk_4_130 : z_4[130]? = some (.int v130) := (hre_4 130 ).trans (hfh_155_130)
            have hfk_4_131 : z_4[131]? = some (.int x131_155) := (hre_4 131 ).trans (hfh_155_131)
            have hfk_4_132 : z_4[132]? = some (.int v132) := (hre_4 132 ).trans (hfh_155_132)
            have hfk_4_133 : z_4[133]? = some (.int v133) := (hre_4 133 ).trans (hfh_155_133)
            have hfk_4_134 : z_4[134]? = some (.int v134) := (hre_4 134 ).trans (hfh_155_134)
            have hfk_4_135 : z_4[135]? = some (.int v135) := (hre_4 135 ).trans (hfh_155_135)
            have hfk_4_136 : z_4[136]? = some (.int x136_155) := (hre_4 136 ).trans (hfh_155_136)
            have hfk_4_137 : z_4[137]? = some (.ref qf137) := (hre_4 137 ).trans (hfh_155_137)
            have hrq_4 : ∀ j : Nat, j ≠ 117 → j ≠ 120 → j ≠ 121 → j ≠ 122 → j ≠ 123 → j ≠ 124 → j ≠ 125 → j ≠ 131 → j ≠ 136 → z_4[j]? = zs[j]? := fun j g117 g120 g121 g122 g123 g124 g125 g131 g136 => (hre_4 j ).trans (hrh_155 j g117 g120 g121 g122 g123 g124 g125 g131 g136)
            obtain rfl := hwa_4
            refine lv_istore (lv' := [(7, .int u4_0), (6, .int l6_155), (5, .int l5_155), (0, .ref h0), (1, .int l1_155), (2, .int l2_155)]) hx hb dX13_flows_170 hl (by decide) rfl (fun ls hl => ?_)
            refine lv_iload hx hb dX13_flows_172 (lv_at hl 2 rfl) ?_
            refine lv_if_ne (tgt := 194) hx hb dX13_flows_174 (by decide) (fun c_18 => ?_) (fun c_18 => ?_)
            · rw [if_neg c_18] at hsp
              exact hj_194 (H, locs, ls, z_4, l1_155, l2_155, l5_155, l6_155, u4_0, g118_155, g119_155, g127_155, g128_155, g137_155, x117_155, x120_155, x121_155, x122_155, x123_155, x124_155, x125_155, x131_155, x136_155) ⟨lv_sub hl [3, 4, 5, 2, 1, 0] rfl, hS, hD.sub (ws' := [(h0, .inr (13, z_4)), (qf109, .inl (cf109, 96, .inl f109)), (qf100, .inl (cf100, 48000, .inl f100)), (qf127, .inl (cf127, 30, .inl g127_155)), (qf107, .inl (cf107, 96, .inl f107)), (qf102, .inl (cf102, 2048, .inl f102)), (qf111, .inl (cf111, 96, .inl f111)), (qf104, .inl (cf104, 8, .inl f104)), (qf118, .inl (cf118, 2100, .inl g118_155)), (qf119, .inl (cf119, 2100, .inl g119_155)), (qf105, .inl (cf105, 8, .inl f105)), (qf128, .inl (cf128, 31, .inl g128_155)), (qf110, .inl (cf110, 96, .inl f110)), (qf103, .inl (cf103, 8, .inl f103)), (qf106, .inl (cf106, 8, .inl f106)), (qf108, .inl (cf108, 8, .inl f108)), (qf137, .inl (cf137, 6, .inl g137_155))]) [14, 0, 16, 1, 2, 3, 15, 4, 5, 6, 7, 8, 9, 10, 11, 12, 13] (by decide) rfl, hP.sub (ws' := [(h0, .inr (13, z_4)), (qf109, .inl (cf109, 96, .inl f109)), (qf100, .inl (cf100, 48000, .inl f100)), (qf127, .inl (cf127, 30, .inl g127_155)), (qf107, .inl (cf107, 96, .inl f107)), (qf102, .inl (cf102, 2048, .inl f102)), (qf111, .inl (cf111, 96, .inl f111)), (qf104, .inl (cf104, 8, .inl f104)), (qf118, .inl (cf118, 2100, .inl g118_155)), (qf119, .inl (cf119, 2100, .inl g119_155)), (qf105, .inl (cf105, 8, .inl f105)), (qf128, .inl (cf128, 31, .inl g128_155)), (qf110, .inl (cf110, 96, .inl f110)), (qf103, .inl (cf103, 8, .inl f103)), (qf106, .inl (cf106, 8, .inl f106)), (qf108, .inl (cf108, 8, .inl f108)), (qf137, .inl (cf137, 6, .inl g137_155))]) [14, 0, 16, 1, 2, 3, 15, 4, 5, 6, 7, 8, 9, 10, 11, 12, 13] rfl, hfk_4_98, hfk_4_100, hfk_4_102, hfk_4_103, hfk_4_104, hfk_4_105, hfk_4_106, hfk_4_107, hfk_4_108, hfk_4_109, hfk_4_110, hfk_4_111, hfk_4_117, hfk_4_118, hfk_4_119, hfk_4_120, hfk_4_121, hfk_4_122, hfk_4_123, hfk_4_124, hfk_4_125, hfk_4_127, hfk_4_128, hfk_4_129, hfk_4_130, hfk_4_131, hfk_4_132, hfk_4_133, hfk_4_134, hfk_4_135, hfk_4_136, hfk_4_137, hln_4, hrq_4, hsp⟩
            · rw [if_pos c_18] at hsp
              refine lv_iload hx hb dX13_flows_177 (lv_at hl 0 rfl) ?_
              refine lv_iconst (v := (-1)) hx hb dX13_flows_179 (by decide) ?_
              refine lv_icmp_ne (tgt := 194) hx hb dX13_flows_180 (by decide) (fun c_19 => ?_) (fun c_19 => ?_)
              · rw [if_neg c_19] at hsp
                exact hj_194 (H, locs, ls, z_4, l1_155, l2_155, l5_155, l6_155, u4_0, g118_155, g119_155, g127_155, g128_155, g137_155, x117_155, x120_155, x121_155, x122_155, x123_155, x124_155, x125_155, x131_155, x136_155) ⟨lv_sub hl [3, 4, 5, 2, 1, 0] rfl, hS, hD.sub (ws' := [(h0, .inr (13, z_4)), (qf109, .inl (cf109, 96, .inl f109)), (qf100, .inl (cf100, 48000, .inl f100)), (qf127, .inl (cf127, 30, .inl g127_155)), (qf107, .inl (cf107, 96, .inl f107)), (qf102, .inl (cf102, 2048, .inl f102)), (qf111, .inl (cf111, 96, .inl f111)), (qf104, .inl (cf104, 8, .inl f104)), (qf118, .inl (cf118, 2100, .inl g118_155)), (qf119, .inl (cf119, 2100, .inl g119_155)), (qf105, .inl (cf105, 8, .inl f105)), (qf128, .inl (cf128, 31, .inl g128_155)), (qf110, .inl (cf110, 96, .inl f110)), (qf103, .inl (cf103, 8, .inl f103)), (qf106, .inl (cf106, 8, .inl f106)), (qf108, .inl (cf108, 8, .inl f108)), (qf137, .inl (cf137, 6, .inl g137_155))]) [14, 0, 16, 1, 2, 3, 15, 4, 5, 6, 7, 8, 9, 10, 11, 12, 13] (by decide) rfl, hP.sub (ws' := [(h0, .inr (13, z_4)), (qf109, .inl (cf109, 96, .inl f109)), (qf100, .inl (cf100, 48000, .inl f100)), (qf127, .inl (cf127, 30, .inl g127_155)), (qf107, .inl (cf107, 96, .inl f107)), (qf102, .inl (cf102, 2048, .inl f102)), (qf111, .inl (cf111, 96, .inl f111)), (qf104, .inl (cf104, 8, .inl f104)), (qf118, .inl (cf118, 2100, .inl g118_155)), (qf119, .inl (cf119, 2100, .inl g119_155)), (qf105, .inl (cf105, 8, .inl f105)), (qf128, .inl (cf128, 31, .inl g128_155)), (qf110, .inl (cf110, 96, .inl f110)), (qf103, .inl (cf103, 8, .inl f103)), (qf106, .inl (cf106, 8, .inl f106)), (qf108, .inl (cf108, 8, .inl f108)), (qf137, .inl (cf137, 6, .inl g137_155))]) [14, 0, 16, 1, 2, 3, 15, 4, 5, 6, 7, 8, 9, 10, 11, 12, 13] rfl, hfk_4_98, hfk_4_100, hfk_4_102, hfk_4_103, hfk_4_104, hfk_4_105, hfk_4_106, hfk_4_107, hfk_4_108, hfk_4_109, hfk_4_110, hfk_4_111, hfk_4_117, hfk_4_118, hfk_4_119, hfk_4_120, hfk_4_121, hfk_4_122, hfk_4_123, hfk_4_124, hfk_4_125, hfk_4_127, hfk_4_128, hfk_4_129, hfk_4_130, hfk_4_131, hfk_4_132, hfk_4_133, hfk_4_134, hfk_4_135, hfk_4_136, hfk_4_137, hln_4, hrq_4, hsp⟩
              · rw [if_pos c_19] at hsp
                refine lv_aload_n hx hb dX13_flows_183 rfl (lv_at hl 3 rfl) ?_
                refine lv_bipush (v := 10) hx hb dX13_flows_184 (by decide) ?_
                refine lv_iload_n hx hb dX13_flows_186 rfl (lv_at hl 4 rfl) ?_
                refine lv_iload_n hx hb dX13_flows_187 rfl (lv_at hl 5 rfl) ?_
                refine lv_iload hx hb dX13_flows_188 (lv_at hl 1 rfl) ?_
                obtain ⟨⟨u5_0, u5_1, u5_2, u5_3, u5_4⟩, hu_5, hsp⟩ := ox_bind hsp
                try dsimp only at hsp
                have hPc := hP.sub (ws' := [(h0, .inr (13, z_4))]) [14] rfl
                have hDc := hD.sub (ws' := [(h0, .inr (13, z_4))]) [14] (by decide) rfl
                have hKc := hK.sub (tys' := []) [] rfl
                have hFc := va_free (wc := [(h0, .inr (13, z_4))]) hD hS hA [14] rfl
                refine va_calli (va_runV (As := [.int 10, .int l1_155, .int l2_155, .int l6_155]) (rest := []) ⟨hx, hb, hml, hown, hts⟩ (tm_bad l dC dI H.size h0 z_4 10 l1_155 l2_155 l6_155 x122_155 x123_155 x124_155 x125_155 nf u5_0 u5_1 u5_2 u5_3 u5_4 hln_4 hfk_4_122 hfk_4_123 hfk_4_124 hfk_4_125 hu_5) (cwV 4 hts gv_h9_63 rfl rfl rfl (by decide +kernel) ⟨Nat.le_of_ble_eq_true rfl, Nat.le_of_ble_eq_true rfl⟩) ⟨fun a U g mk q => by obtain ⟨q0, q1, qP, qK, qD⟩ := q; exact ⟨q0, q1, qP, va_K.moved (u := U) (U := U.calling g mk a) (Vm.Alike.refl U.vm) qK, qD⟩, va_recv hKc hPc (ci := 13) (q0 := 0) rfl rfl, fun U hU hW => ⟨rfl, by rw [hU], by rw [hU]; exact hPc, va_K.moved hW.alike hKc, hDc.weaken (fun _ _ _ _ => trivial)⟩⟩ rfl rfl hl.1 rfl (lv_room (Nat.le_of_ble_eq_true rfl)) dX13_flows_190 ⟨Nat.le_of_ble_eq_true rfl, Nat.le_of_ble_eq_true rfl⟩) hS (fun q _ h => hFc q h) hFc ?_
                clear hS
                intro r_20 u t H1 locs ht hvm hw hB hz1 hk1 hS
                obtain ⟨z_5, rfl⟩ : ∃ z, z = u := ⟨_, rfl⟩
                obtain ⟨hP1, hK1, hD1⟩ := hB
                rw [ht] at hP1
                have hK1 := va_K.moved hvm.symm hK1
                try dsimp only at hw
                have hPD := va_join (wr := [(qf109, .inl (cf109, 96, .inl f109)), (qf127, .inl (cf127, 30, .inl g127_155)), (qf107, .inl (cf107, 96, .inl f107)), (qf102, .inl (cf102, 2048, .inl f102)), (qf104, .inl (cf104, 8, .inl f104)), (qf118, .inl (cf118, 2100, .inl g118_155)), (qf119, .inl (cf119, 2100, .inl g119_155)), (qf105, .inl (cf105, 8, .inl f105)), (qf128, .inl (cf128, 31, .inl g128_155)), (qf110, .inl (cf110, 96, .inl f110)), (qf103, .inl (cf103, 8, .inl f103)), (qf106, .inl (cf106, 8, .inl f106)), (qf108, .inl (cf108, 8, .inl f108)), (qf137, .inl (cf137, 6, .inl g137_155)), (qf111, .inl (cf111, 96, .inl f111)), (qf100, .inl (cf100, 48000, .inl f100))]) (w1 := [(h0, .inr (13, z_5))]) hP hD [14] [0, 1, 2, 3, 4, 5, 6, 7, 8, 9, 10, 11, 12, 13, 15, 16] rfl rfl (by decide) (by decide) hk1 hFc hP1 hD1
                clear hP hD
                obtain ⟨hP, hD⟩ := hPD
                replace hK := (hK.sub (tys' := [(cf109, .int), (cf127, .int), (cf107, .int), (cf102, .int), (cf104, .int), (cf118, .int), (cf119, .int), (cf105, .int), (cf128, .int), (cf110, .int), (cf103, .int), (cf106, .int), (cf108, .int), (cf137, .int), (cf111, .int), (cf100, .int)]) [0, 1, 2, 3, 4, 5, 6, 7, 8, 9, 10, 11, 12, 13, 14, 15] rfl).app hK1
                clear hPc hDc hKc hFc hP1 hK1 hD1 hz1 hk1 ht hvm
                generalize H1 = H at hP hS ⊢
                replace hP : va_P (dC, dI) vwCl [(qf109, .inl (cf109, 96, .inl f109)), (qf127, .inl (cf127, 30, .inl g127_155)), (qf107, .inl (cf107, 96, .inl f107)), (qf102, .inl (cf102, 2048, .inl f102)), (qf104, .inl (cf104, 8, .inl f104)), (qf118, .inl (cf118, 2100, .inl g118_155)), (qf119, .inl (cf119, 2100, .inl g119_155)), (qf105, .inl (cf105, 8, .inl f105)), (qf128, .inl (cf128, 31, .inl g128_155)), (qf110, .inl (cf110, 96, .inl f110)), (qf103, .inl (cf103, 8, .inl f103)), (qf106, .inl (cf106, 8, .inl f106)), (qf108, .inl (cf108, 8, .inl f108)), (qf137, .inl (cf137, 6, .inl g137_155)), (qf111, .inl (cf111, 96, .inl f111)), (qf100, .inl (cf100, 48000, .inl f100)), (h0, .inr (13, z_5))] H := hP
                replace hD : va_D A [(qf109, .inl (cf109, 96, .inl f109)), (qf127, .inl (cf127, 30, .inl g127_155)), (qf107, .inl (cf107, 96, .inl f107)), (qf102, .inl (cf102, 2048, .inl f102)), (qf104, .inl (cf104, 8, .inl f104)), (qf118, .inl (cf118, 2100, .inl g118_155)), (qf119, .inl (cf119, 2100, .inl g119_155)), (qf105, .inl (cf105, 8, .inl f105)), (qf128, .inl (cf128, 31, .inl g128_155)), (qf110, .inl (cf110, 96, .inl f110)), (qf103, .inl (cf103, 8, .inl f103)), (qf106, .inl (cf106, 8, .inl f106)), (qf108, .inl (cf108, 8, .inl f108)), (qf137, .inl (cf137, 6, .inl g137_155)), (qf111, .inl (cf111, 96, .inl f111)), (qf100, .inl (cf100, 48000, .inl f100)), (h0, .inr (13, z_5))] := hD
                replace hK : va_K (dC, dI) vwCl [(cf109, .int), (cf127, .int), (cf107, .int), (cf102, .int), (cf104, .int), (cf118, .int), (cf119, .int), (cf105, .int), (cf128, .int), (cf110, .int), (cf103, .int), (cf106, .int), (cf108, .int), (cf137, .int), (cf111, .int), (cf100, .int)] s := hK
                obtain ⟨hwa_5, hln_5, hre_5, hch_5_122, hch_5_123, hch_5_124, hch_5_125⟩ := hw
                have hfk_5_98 : z_5[98]? = some (.int v98) := (hre_5 98 (by decide) (by decide) (by decide) (by decide)).trans (hfk_4_98)
                have hfk_5_100 : z_5[100]? = some (.ref qf100) := (hre_5 100 (by decide) (by decide) (by decide) (by decide)).trans (hfk_4_100)
                have hfk_5_102 : z_5[102]? = some (.ref qf102) := (hre_5 102 (by decide) (by decide) (by decide) (by decide)).trans (hfk_4_102)
                have hfk_5_103 : z_5[103]? = some (.ref qf103) := (hre_5 103 (by decide) (by decide) (by decide) (by decide)).trans (hfk_4_103)
                have hfk_5_104 : z_5[104]? = some (.ref qf104) := (hre_5 104 (by decide) (by decide) (by decide) (by decide)).trans (hfk_4_104)
                have hfk_5_105 : z_5[105]? = some (.ref qf105) := (hre_5 105 (by decide) (by decide) (by decide) (by decide)).trans (hfk_4_105)
                have hfk_5_106 : z_5[106]? = some (.ref qf106) := (hre_5 106 (by decide) (by decide) (by decide) (by decide)).trans (hfk_4_106)
                have hfk_5_107 : z_5[107]? = some (.ref qf107) := (hre_5 107 (by decide) (by decide) (by decide) (by decide)).trans (hfk_4_107)
                have hfk_5_108 : z_5[108]? = some (.ref qf108) := (hre_5 108 (by decide) (by decide) (by decide) (by decide)).trans (hfk_4_108)
                have hfk_5_109 : z_5[109]? = some (.ref qf109) := (hre_5 109 (by decide) (by decide) (by decide) (by decide)).trans (hfk_4_109)
                have hfk_5_110 : z_5[110]? = some (.ref qf110) := (hre_5 110 (by decide) (by decide) (by decide) (by decide)).trans (hfk_4_110)
                have hfk_5_111 : z_5[111]? = some (.ref qf111) := (hre_5 111 (by decide) (by decide) (by decide) (by decide)).trans (hfk_4_111)
                have hfk_5_117 : z_5[117]? = some (.int x117_155) := (hre_5 117 (by decide) (by decide) (by decide) (by decide)).trans (hfk_4_117)
                have hfk_5_118 : z_5[118]? = some (.ref qf118) := (hre_5 118 (by decide) (by decide) (by decide) (by decide)).trans (hfk_4_118)
                have hfk_5_119 : z_5[119]? = some (.ref qf119) := (hre_5 119 (by decide) (by decide) (by decide) (by decide)).trans (hfk_4_119)
                have hfk_5_120 : z_5[120]? = some (.int x120_155) := (hre_5 120 (by decide) (by decide) (by decide) (by decide)).trans (hfk_4_120)
                have hfk_5_121 : z_5[121]? = some (.int x121_155) := (hre_5 121 (by decide) (by decide) (by decide) (by decide)).trans (hfk_4_121)
                have hfk_5_127 : z_5[127]? = some (.ref qf127) := (hre_5 127 (by decide) (by decide) (by decide) (by decide)).trans (hfk_4_127)
                have hfk_5_128 : z_5[128]? = some (.ref qf128) := (hre_5 128 (by decide) (by decide) (by decide) (by decide)).trans (hfk_4_128)
                have hfk_5_129 : z_5[129]? = some (.int v129) := (hre_5 129 (by decide) (by decide) (by decide) (by decide)).trans (hfk_4_129)
                have hfk_5_130 : z_5[130]? = some (.int v130) := (hre_5 130 (by decide) (by decide) (by decide) (by decide)).trans (hfk_4_130)
                have hfk_5_131 : z_5[131]? = some (.int x131_155) := (hre_5 131 (by decide) (by decide) (by decide) (by decide)).trans (hfk_4_131)
                have hfk_5_132 : z_5[132]? = some (.int v132) := (hre_5 132 (by decide) (by decide) (by decide) (by decide)).trans (hfk_4_132)
                have hfk_5_133 : z_5[133]? = some (.int v133) := (hre_5 133 (by decide) (by decide) (by decide) (by decide)).trans (hfk_4_133)
                have hfk_5_134 : z_5[134]? = some (.int v134) := (hre_5 134 (by decide) (by decide) (by decide) (by decide)).trans (hfk_4_134)
                have hfk_5_135 : z_5[135]? = some (.int v135) := (hre_5 135 (by decide) (by decide) (by decide) (by decide)).trans (hfk_4_135)
                have hfk_5_136 : z_5[136]? = some (.int x136_155) := (hre_5 136 (by decide) (by decide) (by decide) (by decide)).trans (hfk_4_136)
                have hfk_5_137 : z_5[137]? = some (.ref qf137) := (hre_5 137 (by decide) (by decide) (by decide) (by decide)).trans (hfk_4_137)
                have hrq_5 : ∀ j : Nat, j ≠ 117 → j ≠ 120 → j ≠ 121 → j ≠ 122 → j ≠ 123 → j ≠ 124 → j ≠ 125 → j ≠ 131 → j ≠ 136 → z_5[j]? = zs[j]? := fun j g117 g120 g121 g122 g123 g124 g125 g131 g136 => (hre_5 j g122 g123 g124 g125).trans (hrq_4 j g117 g120 g121 g122 g123 g124 g125 g131 g136)
                obtain ⟨rfl, hz_5⟩ := hwa_5
                rcases hz_5 with rfl | rfl
                · rw [if_pos rfl] at hsp
                  have hr0 := Option.some.inj hsp
                  clear hsp
                  obtain ⟨hq0, hr1⟩ := Prod.mk.inj hr0
                  clear hr0
                  obtain ⟨hq1, hr2⟩ := Prod.mk.inj hr1
                  clear hr1
                  obtain ⟨hq2, hr3⟩ := Prod.mk.inj hr2
                  clear hr2
                  obtain ⟨hq3, hr4⟩ := Prod.mk.inj hr3
                  clear hr3
                  obtain ⟨hq4, hr5⟩ := Prod.mk.inj hr4
                  clear hr4
                  obtain ⟨hq5, hr6⟩ := Prod.mk.inj hr5
                  clear hr5
                  obtain ⟨hq6, hr7⟩ := Prod.mk.inj hr6
                  clear hr6
                  obtain ⟨hq7, hr8⟩ := Prod.mk.inj hr7
                  clear hr7
                  obtain ⟨hq8, hr9⟩ := Prod.mk.inj hr8
                  clear hr8
                  obtain ⟨hq9, hr10⟩ := Prod.mk.inj hr9
                  clear hr9
                  obtain ⟨hq10, hr11⟩ := Prod.mk.inj hr10
                  clear hr10
                  obtain ⟨hq11, hr12⟩ := Prod.mk.inj hr11
                  clear hr11
                  obtain ⟨hq12, hr13⟩ := Prod.mk.inj hr12
                  clear hr12
                  obtain ⟨hq13, hr14⟩ := Prod.mk.inj hr13
                  clear hr13
                  subst hq0
                  subst hq1
                  subst hq2
                  subst hq3
                  subst hq4
                  subst hq5
                  subst hq6
                  subst hq7
                  subst hq8
                  subst hq9
                  subst hq10
                  subst hq11
                  subst hq12
                  subst hq13
                  subst hr14
                  have hP9 := hP.sub (ws' := [(h0, .inr (13, z_5)), (qf109, .inl (cf109, 96, .inl f109)), (qf100, .inl (cf100, 48000, .inl f100)), (qf127, .inl (cf127, 30, .inl g127_155)), (qf107, .inl (cf107, 96, .inl f107)), (qf102, .inl (cf102, 2048, .inl f102)), (qf111, .inl (cf111, 96, .inl f111)), (qf104, .inl (cf104, 8, .inl f104)), (qf118, .inl (cf118, 2100, .inl g118_155)), (qf119, .inl (cf119, 2100, .inl g119_155)), (qf105, .inl (cf105, 8, .inl f105)), (qf128, .inl (cf128, 31, .inl g128_155)), (qf110, .inl (cf110, 96, .inl f110)), (qf103, .inl (cf103, 8, .inl f103)), (qf106, .inl (cf106, 8, .inl f106)), (qf108, .inl (cf108, 8, .inl f108)), (qf137, .inl (cf137, 6, .inl g137_155))]) [16, 0, 15, 1, 2, 3, 14, 4, 5, 6, 7, 8, 9, 10, 11, 12, 13] rfl
                  have hD9 := hD.sub (ws' := [(h0, .inr (13, z_5)), (qf109, .inl (cf109, 96, .inl f109)), (qf100, .inl (cf100, 48000, .inl f100)), (qf127, .inl (cf127, 30, .inl g127_155)), (qf107, .inl (cf107, 96, .inl f107)), (qf102, .inl (cf102, 2048, .inl f102)), (qf111, .inl (cf111, 96, .inl f111)), (qf104, .inl (cf104, 8, .inl f104)), (qf118, .inl (cf118, 2100, .inl g118_155)), (qf119, .inl (cf119, 2100, .inl g119_155)), (qf105, .inl (cf105, 8, .inl f105)), (qf128, .inl (cf128, 31, .inl g128_155)), (qf110, .inl (cf110, 96, .inl f110)), (qf103, .inl (cf103, 8, .inl f103)), (qf106, .inl (cf106, 8, .inl f106)), (qf108, .inl (cf108, 8, .inl f108)), (qf137, .inl (cf137, 6, .inl g137_155))]) [16, 0, 15, 1, 2, 3, 14, 4, 5, 6, 7, 8, 9, 10, 11, 12, 13] (by decide) rfl
                  have hK9 := hK.sub (tys' := [(cf109, .int), (cf100, .int), (cf127, .int), (cf107, .int), (cf102, .int), (cf111, .int), (cf104, .int), (cf118, .int), (cf119, .int), (cf105, .int), (cf128, .int), (cf110, .int), (cf103, .int), (cf106, .int), (cf108, .int), (cf137, .int)]) [0, 15, 1, 2, 3, 14, 4, 5, 6, 7, 8, 9, 10, 11, 12, 13] rfl
                  exact W.zret hx hb hr (by decide) (fun t ht hW => ⟨⟨(0), (z_5), rfl, ⟨⟨rfl, Or.inl rfl⟩, hln_5, hrq_5, hfk_5_117, hfk_5_120, hfk_5_121, hch_5_122, hch_5_123, hch_5_124, hch_5_125, hfk_5_131, hfk_5_136⟩, by rw [ht]; exact hP9, va_K.moved hW.alike hK9, hD9⟩, hS.F ht⟩) hS.2.2 dX13_flows_193
                · rw [if_neg (by decide)] at hsp
                  have hr0 := Option.some.inj hsp
                  clear hsp
                  obtain ⟨hq0, hr1⟩ := Prod.mk.inj hr0
                  clear hr0
                  obtain ⟨hq1, hr2⟩ := Prod.mk.inj hr1
                  clear hr1
                  obtain ⟨hq2, hr3⟩ := Prod.mk.inj hr2
                  clear hr2
                  obtain ⟨hq3, hr4⟩ := Prod.mk.inj hr3
                  clear hr3
                  obtain ⟨hq4, hr5⟩ := Prod.mk.inj hr4
                  clear hr4
                  obtain ⟨hq5, hr6⟩ := Prod.mk.inj hr5
                  clear hr5
                  obtain ⟨hq6, hr7⟩ := Prod.mk.inj hr6
                  clear hr6
                  obtain ⟨hq7, hr8⟩ := Prod.mk.inj hr7
                  clear hr7
                  obtain ⟨hq8, hr9⟩ := Prod.mk.inj hr8
                  clear hr8
                  obtain ⟨hq9, hr10⟩ := Prod.mk.inj hr9
                  clear hr9
                  obtain ⟨hq10, hr11⟩ := Prod.mk.inj hr10
                  clear hr10
                  obtain ⟨hq11, hr12⟩ := Prod.mk.inj hr11
                  clear hr11
                  obtain ⟨hq12, hr13⟩ := Prod.mk.inj hr12
                  clear hr12
                  obtain ⟨hq13, hr14⟩ := Prod.mk.inj hr13
                  clear hr13
                  subst hq0
                  subst hq1
                  subst hq2
                  subst hq3
                  subst hq4
                  subst hq5
                  subst hq6
                  subst hq7
                  subst hq8
                  subst hq9
                  subst hq10
                  subst hq11
                  subst hq12
                  subst hq13
                  subst hr14
                  have hP9 := hP.sub (ws' := [(h0, .inr (13, z_5)), (qf109, .inl (cf109, 96, .inl f109)), (qf100, .inl (cf100, 48000, .inl f100)), (qf127, .inl (cf127, 30, .inl g127_155)), (qf107, .inl (cf107, 96, .inl f107)), (qf102, .inl (cf102, 2048, .inl f102)), (qf111, .inl (cf111, 96, .inl f111)), (qf104, .inl (cf104, 8, .inl f104)), (qf118, .inl (cf118, 2100, .inl g118_155)), (qf119, .inl (cf119, 2100, .inl g119_155)), (qf105, .inl (cf105, 8, .inl f105)), (qf128, .inl (cf128, 31, .inl g128_155)), (qf110, .inl (cf110, 96, .inl f110)), (qf103, .inl (cf103, 8, .inl f103)), (qf106, .inl (cf106, 8, .inl f106)), (qf108, .inl (cf108, 8, .inl f108)), (qf137, .inl (cf137, 6, .inl g137_155))]) [16, 0, 15, 1, 2, 3, 14, 4, 5, 6, 7, 8, 9, 10, 11, 12, 13] rfl
                  have hD9 := hD.sub (ws' := [(h0, .inr (13, z_5)), (qf109, .inl (cf109, 96, .inl f109)), (qf100, .inl (cf100, 48000, .inl f100)), (qf127, .inl (cf127, 30, .inl g127_155)), (qf107, .inl (cf107, 96, .inl f107)), (qf102, .inl (cf102, 2048, .inl f102)), (qf111, .inl (cf111, 96, .inl f111)), (qf104, .inl (cf104, 8, .inl f104)), (qf118, .inl (cf118, 2100, .inl g118_155)), (qf119, .inl (cf119, 2100, .inl g119_155)), (qf105, .inl (cf105, 8, .inl f105)), (qf128, .inl (cf128, 31, .inl g128_155)), (qf110, .inl (cf110, 96, .inl f110)), (qf103, .inl (cf103, 8, .inl f103)), (qf106, .inl (cf106, 8, .inl f106)), (qf108, .inl (cf108, 8, .inl f108)), (qf137, .inl (cf137, 6, .inl g137_155))]) [16, 0, 15, 1, 2, 3, 14, 4, 5, 6, 7, 8, 9, 10, 11, 12, 13] (by decide) rfl
                  have hK9 := hK.sub (tys' := [(cf109, .int), (cf100, .int), (cf127, .int), (cf107, .int), (cf102, .int), (cf111, .int), (cf104, .int), (cf118, .int), (cf119, .int), (cf105, .int), (cf128, .int), (cf110, .int), (cf103, .int), (cf106, .int), (cf108, .int), (cf137, .int)]) [0, 15, 1, 2, 3, 14, 4, 5, 6, 7, 8, 9, 10, 11, 12, 13] rfl
                  exact W.zret hx hb hr (by decide) (fun t ht hW => ⟨⟨(1), (z_5), rfl, ⟨⟨rfl, Or.inr rfl⟩, hln_5, hrq_5, hfk_5_117, hfk_5_120, hfk_5_121, hch_5_122, hch_5_123, hch_5_124, hch_5_125, hfk_5_131, hfk_5_136⟩, by rw [ht]; exact hP9, va_K.moved hW.alike hK9, hD9⟩, hS.F ht⟩) hS.2.2 dX13_flows_193
      · rw [if_neg c_11] at hsp
        refine lv_aload_n hx hb dX13_flows_117 rfl (lv_at hl 1 rfl) ?_
        refine va_get (D := (dC, dI)) (ci := 13) (v := .ref qf127) (C := RX13) (T := TX13) (N := 155) hx hb hts uV_h9_X13 hown hK hP 0 rfl rfl 127 (by decide) (hts (.fieldLink RX13 270 "ClassMillModel" "locals" "[I") mw_h9_558) (fun _ h9 => h9) hfh_105_127 dX13_flows_118 ?_
        refine lv_iload_n hx hb dX13_flows_121 rfl (lv_at hl 4 rfl) ?_
        refine lv_aload_n hx hb dX13_flows_122 rfl (lv_at hl 1 rfl) ?_
        refine lv_iload hx hb dX13_flows_123 (lv_at hl 0 rfl) ?_
        obtain ⟨⟨u28_0, g928_1, g928_2, u28_3, u28_4⟩, hu_28, hsp⟩ := ox_bind hsp
        try dsimp only at hsp
        have hPc := hP.sub (ws' := [(h0, .inr (13, z105)), (qf100, .inl (cf100, 48000, .inl f100)), (qf104, .inl (cf104, 8, .inl f104)), (qf102, .inl (cf102, 2048, .inl f102)), (qf118, .inl (cf118, 2100, .inl g118_105)), (qf119, .inl (cf119, 2100, .inl g119_105))]) [0, 2, 7, 5, 8, 9] rfl
        have hDc := hD.sub (ws' := [(h0, .inr (13, z105)), (qf100, .inl (cf100, 48000, .inl f100)), (qf104, .inl (cf104, 8, .inl f104)), (qf102, .inl (cf102, 2048, .inl f102)), (qf118, .inl (cf118, 2100, .inl g118_105)), (qf119, .inl (cf119, 2100, .inl g119_105))]) [0, 2, 7, 5, 8, 9] (by decide) rfl
        have hKc := hK.sub (tys' := [(cf100, .int), (cf104, .int), (cf102, .int), (cf118, .int), (cf119, .int)]) [1, 6, 4, 7, 8] rfl
        have hFc := va_free (wc := [(h0, .inr (13, z105)), (qf100, .inl (cf100, 48000, .inl f100)), (qf104, .inl (cf104, 8, .inl f104)), (qf102, .inl (cf102, 2048, .inl f102)), (qf118, .inl (cf118, 2100, .inl g118_105)), (qf119, .inl (cf119, 2100, .inl g119_105))]) hD hS hA [0, 2, 7, 5, 8, 9] rfl
        refine va_calli (va_runV (As := [.int l4_105]) (rest := [.int l3_105, .ref qf127]) ⟨hx, hb, hml, hown, hts⟩ (vm_typeAt l dC dI H.size h0 z105 l4_105 v98 qf100 qf102 qf104 x117_105 qf118 qf119 x120_105 cf100 f100 cf104 f104 cf102 f102 cf118 g118_105 cf119 g119_105 nS477 fS477 hS477 qS477 tS477 nf u28_0 g928_1 g928_2 u28_3 u28_4 hlh_105 hfh_105_98 hfh_105_100 hfh_105_102 hfh_105_104 hfh_105_117 hfh_105_118 hfh_105_119 hfh_105_120 hu_28) (cwV 1 hts gv_h9_104 rfl rfl rfl (by decide +kernel) ⟨Nat.le_of_ble_eq_true rfl, Nat.le_of_ble_eq_true rfl⟩) ⟨fun a U g mk q => by obtain ⟨q0, q1, qP, qK, qD, qhZWS477, qhZRS477⟩ := q; exact ⟨q0, q1, qP, va_K.moved (u := U) (U := U.calling g mk a) (Vm.Alike.refl U.vm) qK, qD, pz_W.moved (u := U) (U := U.calling g mk a) (Vm.Alike.refl U.vm) qhZWS477, vk_R.same rfl qhZRS477⟩, va_recv hKc hPc (ci := 13) (q0 := 0) rfl rfl, fun U hU hW => ⟨rfl, by rw [hU], by rw [hU]; exact hPc, va_K.moved hW.alike hKc, hDc.weaken (fun _ _ _ _ => trivial), by rw [hU]; exact ((pz_W.moved hW.alike hZWS477).kept hS.2.1).narrow hFc, vk_R.warm hW hZRS477⟩⟩ rfl rfl hl.1 rfl (lv_room (Nat.le_of_ble_eq_true rfl)) dX13_flows_125 ⟨Nat.le_of_ble_eq_true rfl, Nat.le_of_ble_eq_true rfl⟩) hS (fun q _ h => hFc q h) hFc ?_
        clear hS
        intro r_66 u t H1 locs ht hvm hw hB hz1 hk1 hS
        obtain ⟨z_28, rfl⟩ : ∃ z, z = u := ⟨_, rfl⟩
        obtain ⟨hP1, hK1, hD1⟩ := hB
        rw [ht] at hP1
        have hK1 := va_K.moved hvm.symm hK1
        try dsimp only at hw
        have hPD := va_join (wr := [(qf109, .inl (cf109, 96, .inl f109)), (qf127, .inl (cf127, 30, .inl g127_105)), (qf107, .inl (cf107, 96, .inl f107)), (qf111, .inl (cf111, 96, .inl f111)), (qf105, .inl (cf105, 8, .inl f105)), (qf128, .inl (cf128, 31, .inl g128_105)), (qf110, .inl (cf110, 96, .inl f110)), (qf103, .inl (cf103, 8, .inl f103)), (qf106, .inl (cf106, 8, .inl f106)), (qf108, .inl (cf108, 8, .inl f108)), (qf137, .inl (cf137, 6, .inl g137_105))]) (w1 := [(h0, .inr (13, z_28)), (qf100, .inl (cf100, 48000, .inl f100)), (qf104, .inl (cf104, 8, .inl f104)), (qf102, .inl (cf102, 2048, .inl f102)), (qf118, .inl (cf118, 2100, .inl g928_1)), (qf119, .inl (cf119, 2100, .inl g928_2))]) hP hD [0, 2, 7, 5, 8, 9] [1, 3, 4, 6, 10, 11, 12, 13, 14, 15, 16] rfl rfl (by decide) (by decide) hk1 hFc hP1 hD1
        clear hP hD
        obtain ⟨hP, hD⟩ := hPD
        replace hK := (hK.sub (tys' := [(cf109, .int), (cf127, .int), (cf107, .int), (cf111, .int), (cf105, .int), (cf128, .int), (cf110, .int), (cf103, .int), (cf106, .int), (cf108, .int), (cf137, .int)]) [0, 2, 3, 5, 9, 10, 11, 12, 13, 14, 15] rfl).app hK1
        clear hPc hDc hKc hFc hP1 hK1 hD1 hz1 hk1 ht hvm
        generalize H1 = H at hP hS ⊢
        replace hP : va_P (dC, dI) vwCl [(qf109, .inl (cf109, 96, .inl f109)), (qf127, .inl (cf127, 30, .inl g127_105)), (qf107, .inl (cf107, 96, .inl f107)), (qf111, .inl (cf111, 96, .inl f111)), (qf105, .inl (cf105, 8, .inl f105)), (qf128, .inl (cf128, 31, .inl g128_105)), (qf110, .inl (cf110, 96, .inl f110)), (qf103, .inl (cf103, 8, .inl f103)), (qf106, .inl (cf106, 8, .inl f106)), (qf108, .inl (cf108, 8, .inl f108)), (qf137, .inl (cf137, 6, .inl g137_105)), (h0, .inr (13, z_28)), (qf100, .inl (cf100, 48000, .inl f100)), (qf104, .inl (cf104, 8, .inl f104)), (qf102, .inl (cf102, 2048, .inl f102)), (qf118, .inl (cf118, 2100, .inl g928_1)), (qf119, .inl (cf119, 2100, .inl g928_2))] H := hP
        replace hD : va_D A [(qf109, .inl (cf109, 96, .inl f109)), (qf127, .inl (cf127, 30, .inl g127_105)), (qf107, .inl (cf107, 96, .inl f107)), (qf111, .inl (cf111, 96, .inl f111)), (qf105, .inl (cf105, 8, .inl f105)), (qf128, .inl (cf128, 31, .inl g128_105)), (qf110, .inl (cf110, 96, .inl f110)), (qf103, .inl (cf103, 8, .inl f103)), (qf106, .inl (cf106, 8, .inl f106)), (qf108, .inl (cf108, 8, .inl f108)), (qf137, .inl (cf137, 6, .inl g137_105)), (h0, .inr (13, z_28)), (qf100, .inl (cf100, 48000, .inl f100)), (qf104, .inl (cf104, 8, .inl f104)), (qf102, .inl (cf102, 2048, .inl f102)), (qf118, .inl (cf118, 2100, .inl g928_1)), (qf119, .inl (cf119, 2100, .inl g928_2))] := hD
        replace hK : va_K (dC, dI) vwCl [(cf109, .int), (cf127, .int), (cf107, .int), (cf111, .int), (cf105, .int), (cf128, .int), (cf110, .int), (cf103, .int), (cf106, .int), (cf108, .int), (cf137, .int), (cf100, .int), (cf104, .int), (cf102, .int), (cf118, .int), (cf119, .int)] s := hK
        obtain ⟨hwa_28, hln_28, hre_28, hch_28_117, hch_28_120⟩ := hw
        have hfk_28_98 : z_28[98]? = some (.int v98) := (hre_28 98 (by decide) (by decide)).trans (hfh_105_98)
        have hfk_28_100 : z_28[100]? = some (.ref qf100) := (hre_28 100 (by decide) (by decide)).trans (hfh_105_100)
        have hfk_28_102 : z_28[102]? = some (.ref qf102) := (hre_28 102 (by decide) (by decide)).trans (hfh_105_102)
        have hfk_28_103 : z_28[103]? = some (.ref qf103) := (hre_28 103 (by decide) (by decide)).trans (hfh_105_103)
        have hfk_28_104 : z_28[104]? = some (.ref qf104) := (hre_28 104 (by decide) (by decide)).trans (hfh_105_104)
        have hfk_28_105 : z_28[105]? = some (.ref qf105) := (hre_28 105 (by decide) (by decide)).trans (hfh_105_105)
        have hfk_28_106 : z_28[106]? = some (.ref qf106) := (hre_28 106 (by decide) (by decide)).trans (hfh_105_106)
        have hfk_28_107 : z_28[107]? = some (.ref qf107) := (hre_28 107 (by decide) (by decide)).trans (hfh_105_107)
        have hfk_28_108 : z_28[108]? = some (.ref qf108) := (hre_28 108 (by decide) (by decide)).trans (hfh_105_108)
        have hfk_28_109 : z_28[109]? = some (.ref qf109) := (hre_28 109 (by decide) (by decide)).trans (hfh_105_109)
        have hfk_28_110 : z_28[110]? = some (.ref qf110) := (hre_28 110 (by decide) (by decide)).trans (hfh_105_110)
        have hfk_28_111 : z_28[111]? = some (.ref qf111) := (hre_28 111 (by decide) (by decide)).trans (hfh_105_111)
        have hfk_28_118 : z_28[118]? = some (.ref qf118) := (hre_28 118 (by decide) (by decide)).trans (hfh_105_118)
        have hfk_28_119 : z_28[119]? = some (.ref qf119) := (hre_28 119 (by decide) (by decide)).trans (hfh_105_119)
        have hfk_28_121 : z_28[121]? = some (.int x121_105) := (hre_28 121 (by decide) (by decide)).trans (hfh_105_121)
        have hfk_28_122 : z_28[122]? = some (.int x122_105) := (hre_28 122 (by decide) (by decide)).trans (hfh_105_122)
        have hfk_28_123 : z_28[123]? = some (.int x123_105) := (hre_28 123 (by decide) (by decide)).trans (hfh_105_123)
        have hfk_28_124 : z_28[124]? = some (.int x124_105) := (hre_28 124 (by decide) (by decide)).trans (hfh_105_124)
        have hfk_28_125 : z_28[125]? = some (.int x125_105) := (hre_28 125 (by decide) (by decide)).trans (hfh_105_125)
        have hfk_28_127 : z_28[127]? = some (.ref qf127) := (hre_28 127 (by decide) (by decide)).trans (hfh_105_127)
        have hfk_28_128 : z_28[128]? = some (.ref qf128) := (hre_28 128 (by decide) (by decide)).trans (hfh_105_128)
        have hfk_28_129 : z_28[129]? = some (.int v129) := (hre_28 129 (by decide) (by decide)).trans (hfh_105_129)
        have hfk_28_130 : z_28[130]? = some (.int v130) := (hre_28 130 (by decide) (by decide)).trans (hfh_105_130)
        have hfk_28_131 : z_28[131]? = some (.int x131_105) := (hre_28 131 (by decide) (by decide)).trans (hfh_105_131)
        have hfk_28_132 : z_28[132]? = some (.int v132) := (hre_28 132 (by decide) (by decide)).trans (hfh_105_132)
        have hfk_28_133 : z_28[133]? = some (.int v133) := (hre_28 133 (by decide) (by decide)).trans (hfh_105_133)
        have hfk_28_134 : z_28[134]? = some (.int v134) := (hre_28 134 (by decide) (by decide)).trans (hfh_105_134)
        have hfk_28_135 : z_28[135]? = some (.int v135) := (hre_28 135 (by decide) (by decide)).trans (hfh_105_135)
        have hfk_28_136 : z_28[136]? = some (.int x136_105) := (hre_28 136 (by decide) (by decide)).trans (hfh_105_136)
        have hfk_28_137 : z_28[137]? = some (.ref qf137) := (hre_28 137 (by decide) (by decide)).trans (hfh_105_137)
        have hrq_28 : ∀ j : Nat, j ≠ 117 → j ≠ 120 → j ≠ 121 → j ≠ 122 → j ≠ 123 → j ≠ 124 → j ≠ 125 → j ≠ 131 → j ≠ 136 → z_28[j]? = zs[j]? := fun j g117 g120 g121 g122 g123 g124 g125 g131 g136 => (hre_28 j g117 g120).trans (hrh_105 j g117 g120 g121 g122 g123 g124 g125 g131 g136)
        obtain rfl := hwa_28
        obtain ⟨hi_67, hsp⟩ := ox_in hsp
        refine va_iast hx hb hK hP hD hS 1 1 rfl rfl (i := l3_105) (x := u28_0) hi_67 dX13_flows_128 ?_
        clear hP hD hS
        intro H locs hP hD hS
        replace hP : va_P (dC, dI) vwCl [(qf109, .inl (cf109, 96, .inl f109)), (qf127, .inl (cf127, 30, .inl (upd g127_105 (l3_105 : Int32).toNatClampNeg u28_0))), (qf107, .inl (cf107, 96, .inl f107)), (qf111, .inl (cf111, 96, .inl f111)), (qf105, .inl (cf105, 8, .inl f105)), (qf128, .inl (cf128, 31, .inl g128_105)), (qf110, .inl (cf110, 96, .inl f110)), (qf103, .inl (cf103, 8, .inl f103)), (qf106, .inl (cf106, 8, .inl f106)), (qf108, .inl (cf108, 8, .inl f108)), (qf137, .inl (cf137, 6, .inl g137_105)), (h0, .inr (13, z_28)), (qf100, .inl (cf100, 48000, .inl f100)), (qf104, .inl (cf104, 8, .inl f104)), (qf102, .inl (cf102, 2048, .inl f102)), (qf118, .inl (cf118, 2100, .inl g928_1)), (qf119, .inl (cf119, 2100, .inl g928_2))] H := hP
        replace hD : va_D A [(qf109, .inl (cf109, 96, .inl f109)), (qf127, .inl (cf127, 30, .inl (upd g127_105 (l3_105 : Int32).toNatClampNeg u28_0))), (qf107, .inl (cf107, 96, .inl f107)), (qf111, .inl (cf111, 96, .inl f111)), (qf105, .inl (cf105, 8, .inl f105)), (qf128, .inl (cf128, 31, .inl g128_105)), (qf110, .inl (cf110, 96, .inl f110)), (qf103, .inl (cf103, 8, .inl f103)), (qf106, .inl (cf106, 8, .inl f106)), (qf108, .inl (cf108, 8, .inl f108)), (qf137, .inl (cf137, 6, .inl g137_105)), (h0, .inr (13, z_28)), (qf100, .inl (cf100, 48000, .inl f100)), (qf104, .inl (cf104, 8, .inl f104)), (qf102, .inl (cf102, 2048, .inl f102)), (qf118, .inl (cf118, 2100, .inl g928_1)), (qf119, .inl (cf119, 2100, .inl g928_2))] := hD
        refine lv_iinc (v := (l3_105 + 1)) (lv' := [(3, .int (l3_105 + 1)), (4, .int l4_105), (0, .ref h0), (1, .int l1_105), (2, .int l2_105)]) hx hb dX13_flows_129 hl (k := 4) rfl rfl (by decide) rfl (fun ls hl => ?_)
        refine lv_aload_n hx hb dX13_flows_132 rfl (lv_at hl 2 rfl) ?_
        refine va_get (D := (dC, dI)) (ci := 13) (v := .int u28_4) (C := RX13) (T := TX13) (N := 155) hx hb hts uV_h9_X13 hown hK hP 11 rfl rfl 120 (by decide) (hts (.fieldLink RX13 879 "ClassMillModel" "kindEnd" "I") mw_h9_512) (fun _ h9 => h9) hch_28_120 dX13_flows_133 ?_
        refine lv_istore (lv' := [(4, .int u28_4), (3, .int (l3_105 + 1)), (0, .ref h0), (1, .int l1_105), (2, .int l2_105)]) hx hb dX13_flows_136 hl (by decide) rfl (fun ls hl => ?_)
        refine lv_goto (tgt := 105) hx hb dX13_flows_138 (by decide) ?_
        exact ih_105 H locs ls z_28 l1_105 l2_105 (l3_105 + 1) u28_4 g928_1 g928_2 (upd g127_105 (l3_105 : Int32).toNatClampNeg u28_0) g128_105 g137_105 u28_3 u28_4 x121_105 x122_105 x123_105 x124_105 x125_105 x131_105 x136_105 (hfk_28_98) (hfk_28_100) (hfk_28_102) (hfk_28_103) (hfk_28_104) (hfk_28_105) (hfk_28_106) (hfk_28_107) (hfk_28_108) (hfk_28_109) (hfk_28_110) (hfk_28_111) (hch_28_117) (hfk_28_118) (hfk_28_119) (hch_28_120) (hfk_28_121) (hfk_28_122) (hfk_28_123) (hfk_28_124) (hfk_28_125) (hfk_28_127) (hfk_28_128) (hfk_28_129) (hfk_28_130) (hfk_28_131) (hfk_28_132) (hfk_28_133) (hfk_28_134) (hfk_28_135) (hfk_28_136) (hfk_28_137) hln_28 hrq_28 (lv_sub hl [0, 2, 3, 4, 1] rfl) hS (hD.sub (ws' := [(h0, .inr (13, z_28)), (qf109, .inl (cf109, 96, .inl f109)), (qf100, .inl (cf100, 48000, .inl f100)), (qf127, .inl (cf127, 30, .inl (upd g127_105 (l3_105 : Int32).toNatClampNeg u28_0))), (qf107, .inl (cf107, 96, .inl f107)), (qf102, .inl (cf102, 2048, .inl f102)), (qf111, .inl (cf111, 96, .inl f111)), (qf104, .inl (cf104, 8, .inl f104)), (qf118, .inl (cf118, 2100, .inl g928_1)), (qf119, .inl (cf119, 2100, .inl g928_2)), (qf105, .inl (cf105, 8, .inl f105)), (qf128, .inl (cf128, 31, .inl g128_105)), (qf110, .inl (cf110, 96, .inl f110)), (qf103, .inl (cf103, 8, .inl f103)), (qf106, .inl (cf106, 8, .inl f106)), (qf108, .inl (cf108, 8, .inl f108)), (qf137, .inl (cf137, 6, .inl g137_105))]) [11, 0, 12, 1, 2, 14, 3, 13, 15, 16, 4, 5, 6, 7, 8, 9, 10] (by decide) rfl) (hP.sub (ws' := [(h0, .inr (13, z_28)), (qf109, .inl (cf109, 96, .inl f109)), (qf100, .inl (cf100, 48000, .inl f100)), (qf127, .inl (cf127, 30, .inl (upd g127_105 (l3_105 : Int32).toNatClampNeg u28_0))), (qf107, .inl (cf107, 96, .inl f107)), (qf102, .inl (cf102, 2048, .inl f102)), (qf111, .inl (cf111, 96, .inl f111)), (qf104, .inl (cf104, 8, .inl f104)), (qf118, .inl (cf118, 2100, .inl g928_1)), (qf119, .inl (cf119, 2100, .inl g928_2)), (qf105, .inl (cf105, 8, .inl f105)), (qf128, .inl (cf128, 31, .inl g128_105)), (qf110, .inl (cf110, 96, .inl f110)), (qf103, .inl (cf103, 8, .inl f103)), (qf106, .inl (cf106, 8, .inl f106)), (qf108, .inl (cf108, 8, .inl f108)), (qf137, .inl (cf137, 6, .inl g137_105))]) [11, 0, 12, 1, 2, 14, 3, 13, 15, 16, 4, 5, 6, 7, 8, 9, 10] rfl) hsp
  intro hj_68
  refine lv_iconst (v := 0) hx hb dX13_flows_0 (by decide) ?_
  refine lv_istore_n (lv' := [(3, .int 0), (0, .ref h0), (1, .int a1), (2, .int a2)]) hx hb dX13_flows_1 rfl hl (by decide) rfl (fun ls hl => ?_)
  replace hl : lv_has ls 10 [(3, .int 0), (0, .ref h0), (1, .int a1), (2, .int a2)] := lv_sub hl [0, 1, 2, 3] rfl
  replace hP := hP.sub (ws' := [(h0, .inr (13, zs)), (qf109, .inl (cf109, 96, .inl f109)), (qf100, .inl (cf100, 48000, .inl f100)), (qf127, .inl (cf127, 30, .inl f127)), (qf107, .inl (cf107, 96, .inl f107)), (qf102, .inl (cf102, 2048, .inl f102)), (qf111, .inl (cf111, 96, .inl f111)), (qf104, .inl (cf104, 8, .inl f104)), (qf118, .inl (cf118, 2100, .inl f118)), (qf119, .inl (cf119, 2100, .inl f119)), (qf105, .inl (cf105, 8, .inl f105)), (qf128, .inl (cf128, 31, .inl f128)), (qf110, .inl (cf110, 96, .inl f110)), (qf103, .inl (cf103, 8, .inl f103)), (qf106, .inl (cf106, 8, .inl f106)), (qf108, .inl (cf108, 8, .inl f108)), (qf137, .inl (cf137, 6, .inl f137))]) [0, 1, 2, 3, 4, 5, 6, 7, 8, 9, 10, 11, 12, 13, 14, 15, 16] rfl
  replace hD := hD.sub (ws' := [(h0, .inr (13, zs)), (qf109, .inl (cf109, 96, .inl f109)), (qf100, .inl (cf100, 48000, .inl f100)), (qf127, .inl (cf127, 30, .inl f127)), (qf107, .inl (cf107, 96, .inl f107)), (qf102, .inl (cf102, 2048, .inl f102)), (qf111, .inl (cf111, 96, .inl f111)), (qf104, .inl (cf104, 8, .inl f104)), (qf118, .inl (cf118, 2100, .inl f118)), (qf119, .inl (cf119, 2100, .inl f119)), (qf105, .inl (cf105, 8, .inl f105)), (qf128, .inl (cf128, 31, .inl f128)), (qf110, .inl (cf110, 96, .inl f110)), (qf103, .inl (cf103, 8, .inl f103)), (qf106, .inl (cf106, 8, .inl f106)), (qf108, .inl (cf108, 8, .inl f108)), (qf137, .inl (cf137, 6, .inl f137))]) [0, 1, 2, 3, 4, 5, 6, 7, 8, 9, 10, 11, 12, 13, 14, 15, 16] (by decide) rfl
  replace hK := hK.sub (tys' := [(cf109, .int), (cf100, .int), (cf127, .int), (cf107, .int), (cf102, .int), (cf111, .int), (cf104, .int), (cf118, .int), (cf119, .int), (cf105, .int), (cf128, .int), (cf110, .int), (cf103, .int), (cf106, .int), (cf108, .int), (cf137, .int)]) [0, 1, 2, 3, 4, 5, 6, 7, 8, 9, 10, 11, 12, 13, 14, 15] rfl
  obtain ⟨n_2, hn_2⟩ : ∃ z : Nat, z = nf := ⟨_, rfl⟩
  obtain ⟨l1_2, el1_2⟩ : ∃ z : Int32, z = a1 := ⟨_, rfl⟩
  obtain ⟨l2_2, el2_2⟩ : ∃ z : Int32, z = a2 := ⟨_, rfl⟩
  obtain ⟨l3_2, el3_2⟩ : ∃ z : Int32, z = 0 := ⟨_, rfl⟩
  obtain ⟨g118_2, eg118_2⟩ : ∃ z : Nat → Int32, z = f118 := ⟨_, rfl⟩
  obtain ⟨g119_2, eg119_2⟩ : ∃ z : Nat → Int32, z = f119 := ⟨_, rfl⟩
  obtain ⟨g127_2, eg127_2⟩ : ∃ z : Nat → Int32, z = f127 := ⟨_, rfl⟩
  obtain ⟨g128_2, eg128_2⟩ : ∃ z : Nat → Int32, z = f128 := ⟨_, rfl⟩
  obtain ⟨g137_2, eg137_2⟩ : ∃ z : Nat → Int32, z = f137 := ⟨_, rfl⟩
  obtain ⟨x117_2, ex117_2⟩ : ∃ z : Int32, z = v117 := ⟨_, rfl⟩
  obtain ⟨x120_2, ex120_2⟩ : ∃ z : Int32, z = v120 := ⟨_, rfl⟩
  obtain ⟨x121_2, ex121_2⟩ : ∃ z : Int32, z = v121 := ⟨_, rfl⟩
  obtain ⟨x122_2, ex122_2⟩ : ∃ z : Int32, z = v122 := ⟨_, rfl⟩
  obtain ⟨x123_2, ex123_2⟩ : ∃ z : Int32, z = v123 := ⟨_, rfl⟩
  obtain ⟨x124_2, ex124_2⟩ : ∃ z : Int32, z = v124 := ⟨_, rfl⟩
  obtain ⟨x125_2, ex125_2⟩ : ∃ z : Int32, z = v125 := ⟨_, rfl⟩
  obtain ⟨x131_2, ex131_2⟩ : ∃ z : Int32, z = v131 := ⟨_, rfl⟩
  obtain ⟨x136_2, ex136_2⟩ : ∃ z : Int32, z = v136 := ⟨_, rfl⟩
  replace hsp : lp_vm_flows_2 nf n_2 a1 a2 v98 v117 v120 v121 v122 v123 v124 v125 v129 v130 v131 v132 v133 v134 v135 v136 f109 f100 f127 f107 f102 f111 f104 f118 f119 f105 f128 f110 f103 f106 f108 f137 nS477 fS477 l1_2 l2_2 l3_2 g118_2 g119_2 g127_2 g128_2 g137_2 x117_2 x120_2 x121_2 x122_2 x123_2 x124_2 x125_2 x131_2 x136_2 = some (r0, o118, o119, o127, o128, o137, w117, w120, w121, w122, w123, w124, w125, w131, w136) := by rw [hn_2, el1_2, el2_2, el3_2, eg118_2, eg119_2, eg127_2, eg128_2, eg137_2, ex117_2, ex120_2, ex121_2, ex122_2, ex123_2, ex124_2, ex125_2, ex131_2, ex136_2]; exact hsp
  replace hl : lv_has ls 10 [(3, .int l3_2), (0, .ref h0), (1, .int l1_2), (2, .int l2_2)] := by rw [el1_2, el2_2, el3_2]; exact hl
  obtain ⟨z2, ez2⟩ : ∃ z : List Value, z = zs := ⟨_, rfl⟩
  have hfh_2_98 : z2[98]? = some (.int v98) := by rw [ez2]; exact hf98
  have hfh_2_100 : z2[100]? = some (.ref qf100) := by rw [ez2]; exact hf100
  have hfh_2_102 : z2[102]? = some (.ref qf102) := by rw [ez2]; exact hf102
  have hfh_2_103 : z2[103]? = some (.ref qf103) := by rw [ez2]; exact hf103
  have hfh_2_104 : z2[104]? = some (.ref qf104) := by rw [ez2]; exact hf104
  have hfh_2_105 : z2[105]? = some (.ref qf105) := by rw [ez2]; exact hf105
  have hfh_2_106 : z2[106]? = some (.ref qf106) := by rw [ez2]; exact hf106
  have hfh_2_107 : z2[107]? = some (.ref qf107) := by rw [ez2]; exact hf107
  have hfh_2_108 : z2[108]? = some (.ref qf108) := by rw [ez2]; exact hf108
  have hfh_2_109 : z2[109]? = some (.ref qf109) := by rw [ez2]; exact hf109
  have hfh_2_110 : z2[110]? = some (.ref qf110) := by rw [ez2]; exact hf110
  have hfh_2_111 : z2[111]? = some (.ref qf111) := by rw [ez2]; exact hf111
  have hfh_2_117 : z2[117]? = some (.int x117_2) := by rw [ez2, ex117_2]; exact hf117
  have hfh_2_118 : z2[118]? = some (.ref qf118) := by rw [ez2]; exact hf118
  have hfh_2_119 : z2[119]? = some (.ref qf119) := by rw [ez2]; exact hf119
  have hfh_2_120 : z2[120]? = some (.int x120_2) := by rw [ez2, ex120_2]; exact hf120
  have hfh_2_121 : z2[121]? = some (.int x121_2) := by rw [ez2, ex121_2]; exact hf121
  have hfh_2_122 : z2[122]? = some (.int x122_2) := by rw [ez2, ex122_2]; exact hf122
  have hfh_2_123 : z2[123]? = some (.int x123_2) := by rw [ez2, ex123_2]; exact hf123
  have hfh_2_124 : z2[124]? = some (.int x124_2) := by rw [ez2, ex124_2]; exact hf124
  have hfh_2_125 : z2[125]? = some (.int x125_2) := by rw [ez2, ex125_2]; exact hf125
  have hfh_2_127 : z2[127]? = some (.ref qf127) := by rw [ez2]; exact hf127
  have hfh_2_128 : z2[128]? = some (.ref qf128) := by rw [ez2]; exact hf128
  have hfh_2_129 : z2[129]? = some (.int v129) := by rw [ez2]; exact hf129
  have hfh_2_130 : z2[130]? = some (.int v130) := by rw [ez2]; exact hf130
  have hfh_2_131 : z2[131]? = some (.int x131_2) := by rw [ez2, ex131_2]; exact hf131
  have hfh_2_132 : z2[132]? = some (.int v132) := by rw [ez2]; exact hf132
  have hfh_2_133 : z2[133]? = some (.int v133) := by rw [ez2]; exact hf133
  have hfh_2_134 : z2[134]? = some (.int v134) := by rw [ez2]; exact hf134
  have hfh_2_135 : z2[135]? = some (.int v135) := by rw [ez2]; exact hf135
  have hfh_2_136 : z2[136]? = some (.int x136_2) := by rw [ez2, ex136_2]; exact hf136
  have hfh_2_137 : z2[137]? = some (.ref qf137) := by rw [ez2]; exact hf137
  have hlh_2 : z2.length = 155 := by rw [ez2]; exact hlen
  have hrh_2 : ∀ j : Nat, j ≠ 117 → j ≠ 120 → j ≠ 121 → j ≠ 122 → j ≠ 123 → j ≠ 124 → j ≠ 125 → j ≠ 131 → j ≠ 136 → z2[j]? = zs[j]? := by rw [ez2]; exact hrs0
  replace hP : va_P (dC, dI) vwCl [(h0, .inr (13, z2)), (qf109, .inl (cf109, 96, .inl f109)), (qf100, .inl (cf100, 48000, .inl f100)), (qf127, .inl (cf127, 30, .inl g127_2)), (qf107, .inl (cf107, 96, .inl f107)), (qf102, .inl (cf102, 2048, .inl f102)), (qf111, .inl (cf111, 96, .inl f111)), (qf104, .inl (cf104, 8, .inl f104)), (qf118, .inl (cf118, 2100, .inl g118_2)), (qf119, .inl (cf119, 2100, .inl g119_2)), (qf105, .inl (cf105, 8, .inl f105)), (qf128, .inl (cf128, 31, .inl g128_2)), (qf110, .inl (cf110, 96, .inl f110)), (qf103, .inl (cf103, 8, .inl f103)), (qf106, .inl (cf106, 8, .inl f106)), (qf108, .inl (cf108, 8, .inl f108)), (qf137, .inl (cf137, 6, .inl g137_2))] H := by rw [ez2, eg118_2, eg119_2, eg127_2, eg128_2, eg137_2]; exact hP
  replace hD : va_D A [(h0, .inr (13, z2)), (qf109, .inl (cf109, 96, .inl f109)), (qf100, .inl (cf100, 48000, .inl f100)), (qf127, .inl (cf127, 30, .inl g127_2)), (qf107, .inl (cf107, 96, .inl f107)), (qf102, .inl (cf102, 2048, .inl f102)), (qf111, .inl (cf111, 96, .inl f111)), (qf104, .inl (cf104, 8, .inl f104)), (qf118, .inl (cf118, 2100, .inl g118_2)), (qf119, .inl (cf119, 2100, .inl g119_2)), (qf105, .inl (cf105, 8, .inl f105)), (qf128, .inl (cf128, 31, .inl g128_2)), (qf110, .inl (cf110, 96, .inl f110)), (qf103, .inl (cf103, 8, .inl f103)), (qf106, .inl (cf106, 8, .inl f106)), (qf108, .inl (cf108, 8, .inl f108)), (qf137, .inl (cf137, 6, .inl g137_2))] := by rw [ez2, eg118_2, eg119_2, eg127_2, eg128_2, eg137_2]; exact hD
  clear hn_2 ez2 el1_2 el2_2 el3_2 eg118_2 eg119_2 eg127_2 eg128_2 eg137_2 ex117_2 ex120_2 ex121_2 ex122_2 ex123_2 ex124_2 ex125_2 ex131_2 ex136_2
  try clear hlo
  try clear hH
  revert hsp
  revert hP
  revert hD
  revert hS
  revert hl
  revert hrh_2
  revert hlh_2
  revert hfh_2_137
  revert hfh_2_136
  revert hfh_2_135
  revert hfh_2_134
  revert hfh_2_133
  revert hfh_2_132
  revert hfh_2_131
  revert hfh_2_130
  revert hfh_2_129
  revert hfh_2_128
  revert hfh_2_127
  revert hfh_2_125
  revert hfh_2_124
  revert hfh_2_123
  revert hfh_2_122
  revert hfh_2_121
  revert hfh_2_120
  revert hfh_2_119
  revert hfh_2_118
  revert hfh_2_117
  revert hfh_2_111
  revert hfh_2_110
  revert hfh_2_109
  revert hfh_2_108
  revert hfh_2_107
  revert hfh_2_106
  revert hfh_2_105
  revert hfh_2_104
  revert hfh_2_103
  revert hfh_2_102
  revert hfh_2_100
  revert hfh_2_98
  revert x136_2
  revert x131_2
  revert x125_2
  revert x124_2
  revert x123_2
  revert x122_2
  revert x121_2
  revert x120_2
  revert x117_2
  revert g137_2
  revert g128_2
  revert g127_2
  revert g119_2
  revert g118_2
  revert l3_2
  revert l2_2
  revert l1_2
  revert z2
  revert ls
  revert locs
  revert H
  induction n_2 with
  | zero => intro H locs ls z2 l1_2 l2_2 l3_2 g118_2 g119_2 g127_2 g128_2 g137_2 x117_2 x120_2 x121_2 x122_2 x123_2 x124_2 x125_2 x131_2 x136_2 hfh_2_98 hfh_2_100 hfh_2_102 hfh_2_103 hfh_2_104 hfh_2_105 hfh_2_106 hfh_2_107 hfh_2_108 hfh_2_109 hfh_2_110 hfh_2_111 hfh_2_117 hfh_2_118 hfh_2_119 hfh_2_120 hfh_2_121 hfh_2_122 hfh_2_123 hfh_2_124 hfh_2_125 hfh_2_127 hfh_2_128 hfh_2_129 hfh_2_130 hfh_2_131 hfh_2_132 hfh_2_133 hfh_2_134 hfh_2_135 hfh_2_136 hfh_2_137 hlh_2 hrh_2 hl hS hD hP hsp; unfold lp_vm_flows_2 at hsp; cases hsp
  | succ n_2 ih_2 =>
    intro H locs ls z2 l1_2 l2_2 l3_2 g118_2 g119_2 g127_2 g128_2 g137_2 x117_2 x120_2 x121_2 x122_2 x123_2 x124_2 x125_2 x131_2 x136_2 hfh_2_98 hfh_2_100 hfh_2_102 hfh_2_103 hfh_2_104 hfh_2_105 hfh_2_106 hfh_2_107 hfh_2_108 hfh_2_109 hfh_2_110 hfh_2_111 hfh_2_117 hfh_2_118 hfh_2_119 hfh_2_120 hfh_2_121 hfh_2_122 hfh_2_123 hfh_2_124 hfh_2_125 hfh_2_127 hfh_2_128 hfh_2_129 hfh_2_130 hfh_2_131 hfh_2_132 hfh_2_133 hfh_2_134 hfh_2_135 hfh_2_136 hfh_2_137 hlh_2 hrh_2 hl hS hD hP hsp
    unfold lp_vm_flows_2 at hsp
    try dsimp only at hsp
    refine lv_iload_n hx hb dX13_flows_2 rfl (lv_at hl 0 rfl) ?_
    refine lv_aload_n hx hb dX13_flows_3 rfl (lv_at hl 1 rfl) ?_
    refine va_get (D := (dC, dI)) (ci := 13) (v := .int v129) (C := RX13) (T := TX13) (N := 155) hx hb hts uV_h9_X13 hown hK hP 0 rfl rfl 129 (by decide) (hts (.fieldLink RX13 964 "ClassMillModel" "localMany" "I") mw_h9_561) (fun _ h9 => h9) hfh_2_129 dX13_flows_4 ?_
    refine lv_icmp_ge (tgt := 23) hx hb dX13_flows_7 (by decide) (fun c_1 => ?_) (fun c_1 => ?_)
    · rw [if_pos c_1] at hsp
      refine lv_aload_n hx hb dX13_flows_23 rfl (lv_at hl 1 rfl) ?_
      refine lv_iconst (v := 0) hx hb dX13_flows_24 (by decide) ?_
      refine va_put (D := (dC, dI)) (ci := 13) (v := .int 0) (ty := .int) (C := RX13) (T := TX13) (N := 155) hx hb hts uV_h9_X13 tyX13 tyX13_ok nmX13 hown hK hP hD hS 0 rfl rfl 131 (by decide) (hts (.fieldLink RX13 961 "ClassMillModel" "stackMany" "I") mw_h9_559) (fun _ h9 => h9) rfl (by decide +kernel) rfl rfl (by rw [hlh_2]; decide) dX13_flows_25 ?_
      clear hP hD hS
      intro H locs hP hD hS
      obtain ⟨fs_2, efs_2⟩ : ∃ zf : List Value, zf = z2.set 131 (.int 0) := ⟨_, rfl⟩
      rw [← efs_2] at hP hD
      have hlfs_2 : fs_2.length = 155 := by rw [efs_2, List.length_set]; exact hlh_2
      have hfs_2_98 : fs_2[98]? = some (.int v98) := by rw [efs_2, List.getElem?_set_ne (by decide)]; exact hfh_2_98
      have hfs_2_100 : fs_2[100]? = some (.ref qf100) := by rw [efs_2, List.getElem?_set_ne (by decide)]; exact hfh_2_100
      have hfs_2_102 : fs_2[102]? = some (.ref qf102) := by rw [efs_2, List.getElem?_set_ne (by decide)]; exact hfh_2_102
      have hfs_2_103 : fs_2[103]? = some (.ref qf103) := by rw [efs_2, List.getElem?_set_ne (by decide)]; exact hfh_2_103
      have hfs_2_104 : fs_2[104]? = some (.ref qf104) := by rw [efs_2, List.getElem?_set_ne (by decide)]; exact hfh_2_104
      have hfs_2_105 : fs_2[105]? = some (.ref qf105) := by rw [efs_2, List.getElem?_set_ne (by decide)]; exact hfh_2_105
      have hfs_2_106 : fs_2[106]? = some (.ref qf106) := by rw [efs_2, List.getElem?_set_ne (by decide)]; exact hfh_2_106
      have hfs_2_107 : fs_2[107]? = some (.ref qf107) := by rw [efs_2, List.getElem?_set_ne (by decide)]; exact hfh_2_107
      have hfs_2_108 : fs_2[108]? = some (.ref qf108) := by rw [efs_2, List.getElem?_set_ne (by decide)]; exact hfh_2_108
      have hfs_2_109 : fs_2[109]? = some (.ref qf109) := by rw [efs_2, List.getElem?_set_ne (by decide)]; exact hfh_2_109
      have hfs_2_110 : fs_2[110]? = some (.ref qf110) := by rw [efs_2, List.getElem?_set_ne (by decide)]; exact hfh_2_110
      have hfs_2_111 : fs_2[111]? = some (.ref qf111) := by rw [efs_2, List.getElem?_set_ne (by decide)]; exact hfh_2_111
      have hfs_2_117 : fs_2[117]? = some (.int x117_2) := by rw [efs_2, List.getElem?_set_ne (by decide)]; exact hfh_2_117
      have hfs_2_118 : fs_2[118]? = some (.ref qf118) := by rw [efs_2, List.getElem?_set_ne (by decide)]; exact hfh_2_118
      have hfs_2_119 : fs_2[119]? = some (.ref qf119) := by rw [efs_2, List.getElem?_set_ne (by decide)]; exact hfh_2_119
      have hfs_2_120 : fs_2[120]? = some (.int x120_2) := by rw [efs_2, List.getElem?_set_ne (by decide)]; exact hfh_2_120
      have hfs_2_121 : fs_2[121]? = some (.int x121_2) := by rw [efs_2, List.getElem?_set_ne (by decide)]; exact hfh_2_121
      have hfs_2_122 : fs_2[122]? = some (.int x122_2) := by rw [efs_2, List.getElem?_set_ne (by decide)]; exact hfh_2_122
      have hfs_2_123 : fs_2[123]? = some (.int x123_2) := by rw [efs_2, List.getElem?_set_ne (by decide)]; exact hfh_2_123
      have hfs_2_124 : fs_2[124]? = some (.int x124_2) := by rw [efs_2, List.getElem?_set_ne (by decide)]; exact hfh_2_124
      have hfs_2_125 : fs_2[125]? = some (.int x125_2) := by rw [efs_2, List.getElem?_set_ne (by decide)]; exact hfh_2_125
      have hfs_2_127 : fs_2[127]? = some (.ref qf127) := by rw [efs_2, List.getElem?_set_ne (by decide)]; exact hfh_2_127
      have hfs_2_128 : fs_2[128]? = some (.ref qf128) := by rw [efs_2, List.getElem?_set_ne (by decide)]; exact hfh_2_128
      have hfs_2_129 : fs_2[129]? = some (.int v129) := by rw [efs_2, List.getElem?_set_ne (by decide)]; exact hfh_2_129
      have hfs_2_130 : fs_2[130]? = some (.int v130) := by rw [efs_2, List.getElem?_set_ne (by decide)]; exact hfh_2_130
      have hfs_2_132 : fs_2[132]? = some (.int v132) := by rw [efs_2, List.getElem?_set_ne (by decide)]; exact hfh_2_132
      have hfs_2_133 : fs_2[133]? = some (.int v133) := by rw [efs_2, List.getElem?_set_ne (by decide)]; exact hfh_2_133
      have hfs_2_134 : fs_2[134]? = some (.int v134) := by rw [efs_2, List.getElem?_set_ne (by decide)]; exact hfh_2_134
      have hfs_2_135 : fs_2[135]? = some (.int v135) := by rw [efs_2, List.getElem?_set_ne (by decide)]; exact hfh_2_135
      have hfs_2_136 : fs_2[136]? = some (.int x136_2) := by rw [efs_2, List.getElem?_set_ne (by decide)]; exact hfh_2_136
      have hfs_2_137 : fs_2[137]? = some (.ref qf137) := by rw [efs_2, List.getElem?_set_ne (by decide)]; exact hfh_2_137
      have hfs_2_131 : fs_2[131]? = some (.int 0) := by rw [efs_2, List.getElem?_set_self (by rw [hlh_2]; decide)]
      replace hP : va_P (dC, dI) vwCl [(h0, .inr (13, fs_2)), (qf109, .inl (cf109, 96, .inl f109)), (qf100, .inl (cf100, 48000, .inl f100)), (qf127, .inl (cf127, 30, .inl g127_2)), (qf107, .inl (cf107, 96, .inl f107)), (qf102, .inl (cf102, 2048, .inl f102)), (qf111, .inl (cf111, 96, .inl f111)), (qf104, .inl (cf104, 8, .inl f104)), (qf118, .inl (cf118, 2100, .inl g118_2)), (qf119, .inl (cf119, 2100, .inl g119_2)), (qf105, .inl (cf105, 8, .inl f105)), (qf128, .inl (cf128, 31, .inl g128_2)), (qf110, .inl (cf110, 96, .inl f110)), (qf103, .inl (cf103, 8, .inl f103)), (qf106, .inl (cf106, 8, .inl f106)), (qf108, .inl (cf108, 8, .inl f108)), (qf137, .inl (cf137, 6, .inl g137_2))] H := hP
      replace hD : va_D A [(h0, .inr (13, fs_2)), (qf109, .inl (cf109, 96, .inl f109)), (qf100, .inl (cf100, 48000, .inl f100)), (qf127, .inl (cf127, 30, .inl g127_2)), (qf107, .inl (cf107, 96, .inl f107)), (qf102, .inl (cf102, 2048, .inl f102)), (qf111, .inl (cf111, 96, .inl f111)), (qf104, .inl (cf104, 8, .inl f104)), (qf118, .inl (cf118, 2100, .inl g118_2)), (qf119, .inl (cf119, 2100, .inl g119_2)), (qf105, .inl (cf105, 8, .inl f105)), (qf128, .inl (cf128, 31, .inl g128_2)), (qf110, .inl (cf110, 96, .inl f110)), (qf103, .inl (cf103, 8, .inl f103)), (qf106, .inl (cf106, 8, .inl f106)), (qf108, .inl (cf108, 8, .inl f108)), (qf137, .inl (cf137, 6, .inl g137_2))] := hD
      have hrs_3 : ∀ j : Nat, j ≠ 117 → j ≠ 120 → j ≠ 121 → j ≠ 122 → j ≠ 123 → j ≠ 124 → j ≠ 125 → j ≠ 131 → j ≠ 136 → fs_2[j]? = zs[j]? := fun j g117 g120 g121 g122 g123 g124 g125 g131 g136 => ((congrArg (fun z : List Value => z[j]?) efs_2).trans (List.getElem?_set_ne (Ne.symm g131))).trans (hrh_2 j g117 g120 g121 g122 g123 g124 g125 g131 g136)
      refine lv_iconst (v := 0) hx hb dX13_flows_28 (by decide) ?_
      refine lv_istore_n (lv' := [(3, .int 0), (0, .ref h0), (1, .int l1_2), (2, .int l2_2)]) hx hb dX13_flows_29 rfl hl (by decide) rfl (fun ls hl => ?_)
      refine lv_aload_n hx hb dX13_flows_30 rfl (lv_at hl 1 rfl) ?_
      refine lv_aload_n hx hb dX13_flows_31 rfl (lv_at hl 1 rfl) ?_
      refine va_get (D := (dC, dI)) (ci := 13) (v := .int v132) (C := RX13) (T := TX13) (N := 155) hx hb hts uV_h9_X13 hown hK hP 0 rfl rfl 132 (by decide) (hts (.fieldLink RX13 932 "ClassMillModel" "inClass" "I") mw_h9_549) (fun _ h9 => h9) hfs_2_132 dX13_flows_32 ?_
      refine lv_aload_n hx hb dX13_flows_35 rfl (lv_at hl 1 rfl) ?_
      refine va_get (D := (dC, dI)) (ci := 13) (v := .ref qf109) (C := RX13) (T := TX13) (N := 155) hx hb hts uV_h9_X13 hown hK hP 0 rfl rfl 109 (by decide) (hts (.fieldLink RX13 236 "ClassMillModel" "methodAt" "[I") mw_h9_282) (fun _ h9 => h9) hfs_2_109 dX13_flows_36 ?_
      refine lv_bipush (v := 12) hx hb dX13_flows_39 (by decide) ?_
      refine lv_aload_n hx hb dX13_flows_41 rfl (lv_at hl 1 rfl) ?_
      refine va_get (D := (dC, dI)) (ci := 13) (v := .int v132) (C := RX13) (T := TX13) (N := 155) hx hb hts uV_h9_X13 hown hK hP 0 rfl rfl 132 (by decide) (hts (.fieldLink RX13 932 "ClassMillModel" "inClass" "I") mw_h9_549) (fun _ h9 => h9) hfs_2_132 dX13_flows_42 ?_
      refine lv_imul hx hb dX13_flows_45 ?_
      refine lv_iload_n hx hb dX13_flows_46 rfl (lv_at hl 3 rfl) ?_
      refine lv_iadd hx hb dX13_flows_47 ?_
      obtain ⟨hi_4, hsp⟩ := ox_in hsp
      refine va_iald hx hb hK hP 1 0 rfl rfl (i := ((12 * v132) + l2_2)) hi_4 dX13_flows_48 ?_
      obtain ⟨u1_0, hu_1, hsp⟩ := ox_bind hsp
      try dsimp only at hsp
      have hPc := hP.sub (ws' := [(h0, .inr (13, fs_2)), (qf100, .inl (cf100, 48000, .inl f100))]) [0, 2] rfl
      have hDc := hD.sub (ws' := [(h0, .inr (13, fs_2)), (qf100, .inl (cf100, 48000, .inl f100))]) [0, 2] (by decide) rfl
      have hKc := hK.sub (tys' := [(cf100, .int)]) [1] rfl
      have hFc := va_free (wc := [(h0, .inr (13, fs_2)), (qf100, .inl (cf100, 48000, .inl f100))]) hD hS hA [0, 2] rfl
      refine va_calli (va_runV (As := [.int v132, .int (f109 (((12 * v132) + l2_2) : Int32).toNatClampNeg)]) (rest := []) ⟨hx, hb, hml, hown, hts⟩ (tm_byteAt l dC dI H.size h0 fs_2 v132 ((f109 (((12 * v132) + l2_2) : Int32).toNatClampNeg)) qf100 cf100 f100 nf u1_0 hlfs_2 hfs_2_100 hu_1) (cwV 2 hts gv_h9_58 rfl rfl rfl (by decide +kernel) ⟨Nat.le_of_ble_eq_true rfl, Nat.le_of_ble_eq_true rfl⟩) ⟨fun a U g mk q => by obtain ⟨q0, q1, qP, qK, qD⟩ := q; exact ⟨q0, q1, qP, va_K.moved (u := U) (U := U.calling g mk a) (Vm.Alike.refl U.vm) qK, qD⟩, va_recv hKc hPc (ci := 13) (q0 := 0) rfl rfl, fun U hU hW => ⟨rfl, by rw [hU], by rw [hU]; exact hPc, va_K.moved hW.alike hKc, hDc.weaken (fun _ _ _ _ => trivial)⟩⟩ rfl rfl hl.1 rfl (lv_room (Nat.le_of_ble_eq_true rfl)) dX13_flows_49 ⟨Nat.le_of_ble_eq_true rfl, Nat.le_of_ble_eq_true rfl⟩) hS (fun q _ h => hFc q h) hFc ?_
      clear hS
      intro r_5 u t H1 locs ht hvm hw hB hz1 hk1 hS
      obtain ⟨z_1, rfl⟩ : ∃ z, z = u := ⟨_, rfl⟩
      obtain ⟨hP1, hK1, hD1⟩ := hB
      rw [ht] at hP1
      have hK1 := va_K.moved hvm.symm hK1
      try dsimp only at hw
      have hPD := va_join (wr := [(qf109, .inl (cf109, 96, .inl f109)), (qf127, .inl (cf127, 30, .inl g127_2)), (qf107, .inl (cf107, 96, .inl f107)), (qf102, .inl (cf102, 2048, .inl f102)), (qf111, .inl (cf111, 96, .inl f111)), (qf104, .inl (cf104, 8, .inl f104)), (qf118, .inl (cf118, 2100, .inl g118_2)), (qf119, .inl (cf119, 2100, .inl g119_2)), (qf105, .inl (cf105, 8, .inl f105)), (qf128, .inl (cf128, 31, .inl g128_2)), (qf110, .inl (cf110, 96, .inl f110)), (qf103, .inl (cf103, 8, .inl f103)), (qf106, .inl (cf106, 8, .inl f106)), (qf108, .inl (cf108, 8, .inl f108)), (qf137, .inl (cf137, 6, .inl g137_2))]) (w1 := [(h0, .inr (13, z_1)), (qf100, .inl (cf100, 48000, .inl f100))]) hP hD [0, 2] [1, 3, 4, 5, 6, 7, 8, 9, 10, 11, 12, 13, 14, 15, 16] rfl rfl (by decide) (by decide) hk1 hFc hP1 hD1
      clear hP hD
      obtain ⟨hP, hD⟩ := hPD
      replace hK := (hK.sub (tys' := [(cf109, .int), (cf127, .int), (cf107, .int), (cf102, .int), (cf111, .int), (cf104, .int), (cf118, .int), (cf119, .int), (cf105, .int), (cf128, .int), (cf110, .int), (cf103, .int), (cf106, .int), (cf108, .int), (cf137, .int)]) [0, 2, 3, 4, 5, 6, 7, 8, 9, 10, 11, 12, 13, 14, 15] rfl).app hK1
      clear hPc hDc hKc hFc hP1 hK1 hD1 hz1 hk1 ht hvm
      generalize H1 = H at hP hS ⊢
      replace hP : va_P (dC, dI) vwCl [(qf109, .inl (cf109, 96, .inl f109)), (qf127, .inl (cf127, 30, .inl g127_2)), (qf107, .inl (cf107, 96, .inl f107)), (qf102, .inl (cf102, 2048, .inl f102)), (qf111, .inl (cf111, 96, .inl f111)), (qf104, .inl (cf104, 8, .inl f104)), (qf118, .inl (cf118, 2100, .inl g118_2)), (qf119, .inl (cf119, 2100, .inl g119_2)), (qf105, .inl (cf105, 8, .inl f105)), (qf128, .inl (cf128, 31, .inl g128_2)), (qf110, .inl (cf110, 96, .inl f110)), (qf103, .inl (cf103, 8, .inl f103)), (qf106, .inl (cf106, 8, .inl f106)), (qf108, .inl (cf108, 8, .inl f108)), (qf137, .inl (cf137, 6, .inl g137_2)), (h0, .inr (13, z_1)), (qf100, .inl (cf100, 48000, .inl f100))] H := hP
      replace hD : va_D A [(qf109, .inl (cf109, 96, .inl f109)), (qf127, .inl (cf127, 30, .inl g127_2)), (qf107, .inl (cf107, 96, .inl f107)), (qf102, .inl (cf102, 2048, .inl f102)), (qf111, .inl (cf111, 96, .inl f111)), (qf104, .inl (cf104, 8, .inl f104)), (qf118, .inl (cf118, 2100, .inl g118_2)), (qf119, .inl (cf119, 2100, .inl g119_2)), (qf105, .inl (cf105, 8, .inl f105)), (qf128, .inl (cf128, 31, .inl g128_2)), (qf110, .inl (cf110, 96, .inl f110)), (qf103, .inl (cf103, 8, .inl f103)), (qf106, .inl (cf106, 8, .inl f106)), (qf108, .inl (cf108, 8, .inl f108)), (qf137, .inl (cf137, 6, .inl g137_2)), (h0, .inr (13, z_1)), (qf100, .inl (cf100, 48000, .inl f100))] := hD
      replace hK : va_K (dC, dI) vwCl [(cf109, .int), (cf127, .int), (cf107, .int), (cf102, .int), (cf111, .int), (cf104, .int), (cf118, .int), (cf119, .int), (cf105, .int), (cf128, .int), (cf110, .int), (cf103, .int), (cf106, .int), (cf108, .int), (cf137, .int), (cf100, .int)] s := hK
      obtain ⟨hwa_1, hln_1, hre_1⟩ := hw
      have hfk_1_98 : z_1[98]? = some (.int v98) := (hre_1 98 ).trans (hfs_2_98)
      have hfk_1_100 : z_1[100]? = some (.ref qf100) := (hre_1 100 ).trans (hfs_2_100)
      have hfk_1_102 : z_1[102]? = some (.ref qf102) := (hre_1 102 ).trans (hfs_2_102)
      have hfk_1_103 : z_1[103]? = some (.ref qf103) := (hre_1 103 ).trans (hfs_2_103)
      have hfk_1_104 : z_1[104]? = some (.ref qf104) := (hre_1 104 ).trans (hfs_2_104)
      have hfk_1_105 : z_1[105]? = some (.ref qf105) := (hre_1 105 ).trans (hfs_2_105)
      have hfk_1_106 : z_1[106]? = some (.ref qf106) := (hre_1 106 ).trans (hfs_2_106)
      have hfk_1_107 : z_1[107]? = some (.ref qf107) := (hre_1 107 ).trans (hfs_2_107)
      have hfk_1_108 : z_1[108]? = some (.ref qf108) := (hre_1 108 ).trans (hfs_2_108)
      have hfk_1_109 : z_1[109]? = some (.ref qf109) := (hre_1 109 ).trans (hfs_2_109)
      have hfk_1_110 : z_1[110]? = some (.ref qf110) := (hre_1 110 ).trans (hfs_2_110)
      have hfk_1_111 : z_1[111]? = some (.ref qf111) := (hre_1 111 ).trans (hfs_2_111)
      have hfk_1_117 : z_1[117]? = some (.int x117_2) := (hre_1 117 ).trans (hfs_2_117)
      have hfk_1_118 : z_1[118]? = some (.ref qf118) := (hre_1 118 ).trans (hfs_2_118)
      have hfk_1_119 : z_1[119]? = some (.ref qf119) := (hre_1 119 ).trans (hfs_2_119)
      have hfk_1_120 : z_1[120]? = some (.int x120_2) := (hre_1 120 ).trans (hfs_2_120)
      have hfk_1_121 : z_1[121]? = some (.int x121_2) := (hre_1 121 ).trans (hfs_2_121)
      have hfk_1_122 : z_1[122]? = some (.int x122_2) := (hre_1 122 ).trans (hfs_2_122)
      have hfk_1_123 : z_1[123]? = some (.int x123_2) := (hre_1 123 ).trans (hfs_2_123)
      have hfk_1_124 : z_1[124]? = some (.int x124_2) := (hre_1 124 ).trans (hfs_2_124)
      have hfk_1_125 : z_1[125]? = some (.int x125_2) := (hre_1 125 ).trans (hfs_2_125)
      have hfk_1_127 : z_1[127]? = some (.ref qf127) := (hre_1 127 ).trans (hfs_2_127)
      have hfk_1_128 : z_1[128]? = some (.ref qf128) := (hre_1 128 ).trans (hfs_2_128)
      have hfk_1_129 : z_1[129]? = some (.int v129) := (hre_1 129 ).trans (hfs_2_129)
      have hfk_1_130 : z_1[130]? = some (.int v130) := (hre_1 130 ).trans (hfs_2_130)
      have hfk_1_131 : z_1[131]? = some (.int 0) := (hre_1 131 ).trans (hfs_2_131)
      have hfk_1_132 : z_1[132]? = some (.int v132) := (hre_1 132 ).trans (hfs_2_132)
      have hfk_1_133 : z_1[133]? = some (.int v133) := (hre_1 133 ).trans (hfs_2_133)
      have hfk_1_134 : z_1[134]? = some (.int v134) := (hre_1 134 ).trans (hfs_2_134)
      have hfk_1_135 : z_1[135]? = some (.int v135) := (hre_1 135 ).trans (hfs_2_135)
      have hfk_1_136 : z_1[136]? = some (.int x136_2) := (hre_1 136 ).trans (hfs_2_136)
      have hfk_1_137 : z_1[137]? = some (.ref qf137) := (hre_1 137 ).trans (hfs_2_137)
      have hrq_1 : ∀ j : Nat, j ≠ 117 → j ≠ 120 → j ≠ 121 → j ≠ 122 → j ≠ 123 → j ≠ 124 → j ≠ 125 → j ≠ 131 → j ≠ 136 → z_1[j]? = zs[j]? := fun j g117 g120 g121 g122 g123 g124 g125 g131 g136 => (hre_1 j ).trans (hrs_3 j g117 g120 g121 g122 g123 g124 g125 g131 g136)
      obtain rfl := hwa_1
      refine lv_if_ne (tgt := 68) hx hb dX13_flows_52 (by decide) (fun c_6 => ?_) (fun c_6 => ?_)
      · rw [if_neg c_6] at hsp
        exact hj_68 (H, locs, ls, z_1, l1_2, l2_2, 0, g118_2, g119_2, g127_2, g128_2, g137_2, x117_2, x120_2, x121_2, x122_2, x123_2, x124_2, x125_2, 0, x136_2) ⟨lv_sub hl [1, 2, 3, 0] rfl, hS, hD.sub (ws' := [(h0, .inr (13, z_1)), (qf109, .inl (cf109, 96, .inl f109)), (qf100, .inl (cf100, 48000, .inl f100)), (qf127, .inl (cf127, 30, .inl g127_2)), (qf107, .inl (cf107, 96, .inl f107)), (qf102, .inl (cf102, 2048, .inl f102)), (qf111, .inl (cf111, 96, .inl f111)), (qf104, .inl (cf104, 8, .inl f104)), (qf118, .inl (cf118, 2100, .inl g118_2)), (qf119, .inl (cf119, 2100, .inl g119_2)), (qf105, .inl (cf105, 8, .inl f105)), (qf128, .inl (cf128, 31, .inl g128_2)), (qf110, .inl (cf110, 96, .inl f110)), (qf103, .inl (cf103, 8, .inl f103)), (qf106, .inl (cf106, 8, .inl f106)), (qf108, .inl (cf108, 8, .inl f108)), (qf137, .inl (cf137, 6, .inl g137_2))]) [15, 0, 16, 1, 2, 3, 4, 5, 6, 7, 8, 9, 10, 11, 12, 13, 14] (by decide) rfl, hP.sub (ws' := [(h0, .inr (13, z_1)), (qf109, .inl (cf109, 96, .inl f109)), (qf100, .inl (cf100, 48000, .inl f100)), (qf127, .inl (cf127, 30, .inl g127_2)), (qf107, .inl (cf107, 96, .inl f107)), (qf102, .inl (cf102, 2048, .inl f102)), (qf111, .inl (cf111, 96, .inl f111)), (qf104, .inl (cf104, 8, .inl f104)), (qf118, .inl (cf118, 2100, .inl g118_2)), (qf119, .inl (cf119, 2100, .inl g119_2)), (qf105, .inl (cf105, 8, .inl f105)), (qf128, .inl (cf128, 31, .inl g128_2)), (qf110, .inl (cf110, 96, .inl f110)), (qf103, .inl (cf103, 8, .inl f103)), (qf106, .inl (cf106, 8, .inl f106)), (qf108, .inl (cf108, 8, .inl f108)), (qf137, .inl (cf137, 6, .inl g137_2))]) [15, 0, 16, 1, 2, 3, 4, 5, 6, 7, 8, 9, 10, 11, 12, 13, 14] rfl, hfk_1_98, hfk_1_100, hfk_1_102, hfk_1_103, hfk_1_104, hfk_1_105, hfk_1_106, hfk_1_107, hfk_1_108, hfk_1_109, hfk_1_110, hfk_1_111, hfk_1_117, hfk_1_118, hfk_1_119, hfk_1_120, hfk_1_121, hfk_1_122, hfk_1_123, hfk_1_124, hfk_1_125, hfk_1_127, hfk_1_128, hfk_1_129, hfk_1_130, hfk_1_131, hfk_1_132, hfk_1_133, hfk_1_134, hfk_1_135, hfk_1_136, hfk_1_137, hln_1, hrq_1, hsp⟩
      · rw [if_pos c_6] at hsp
        refine lv_aload_n hx hb dX13_flows_55 rfl (lv_at hl 1 rfl) ?_
        refine va_get (D := (dC, dI)) (ci := 13) (v := .ref qf127) (C := RX13) (T := TX13) (N := 155) hx hb hts uV_h9_X13 hown hK hP 15 rfl rfl 127 (by decide) (hts (.fieldLink RX13 270 "ClassMillModel" "locals" "[I") mw_h9_558) (fun _ h9 => h9) hfk_1_127 dX13_flows_56 ?_
        refine lv_iconst (v := 0) hx hb dX13_flows_59 (by decide) ?_
        refine lv_iconst (v := 4) hx hb dX13_flows_60 (by decide) ?_
        refine lv_iconst (v := 2) hx hb dX13_flows_61 (by decide) ?_
        refine lv_iload_n hx hb dX13_flows_62 rfl (lv_at hl 2 rfl) ?_
        refine lv_imul hx hb dX13_flows_63 ?_
        refine lv_iadd hx hb dX13_flows_64 ?_
        refine va_iast hx hb hK hP hD hS 1 1 rfl rfl (i := 0) (x := (4 + (2 * l1_2))) (by unfold vp_in; decide) dX13_flows_65 ?_
        clear hP hD hS
        intro H locs hP hD hS
        replace hP : va_P (dC, dI) vwCl [(qf109, .inl (cf109, 96, .inl f109)), (qf127, .inl (cf127, 30, .inl (upd g127_2 (0 : Int32).toNatClampNeg (4 + (2 * l1_2))))), (qf107, .inl (cf107, 96, .inl f107)), (qf102, .inl (cf102, 2048, .inl f102)), (qf111, .inl (cf111, 96, .inl f111)), (qf104, .inl (cf104, 8, .inl f104)), (qf118, .inl (cf118, 2100, .inl g118_2)), (qf119, .inl (cf119, 2100, .inl g119_2)), (qf105, .inl (cf105, 8, .inl f105)), (qf128, .inl (cf128, 31, .inl g128_2)), (qf110, .inl (cf110, 96, .inl f110)), (qf103, .inl (cf103, 8, .inl f103)), (qf106, .inl (cf106, 8, .inl f106)), (qf108, .inl (cf108, 8, .inl f108)), (qf137, .inl (cf137, 6, .inl g137_2)), (h0, .inr (13, z_1)), (qf100, .inl (cf100, 48000, .inl f100))] H := hP
        replace hD : va_D A [(qf109, .inl (cf109, 96, .inl f109)), (qf127, .inl (cf127, 30, .inl (upd g127_2 (0 : Int32).toNatClampNeg (4 + (2 * l1_2))))), (qf107, .inl (cf107, 96, .inl f107)), (qf102, .inl (cf102, 2048, .inl f102)), (qf111, .inl (cf111, 96, .inl f111)), (qf104, .inl (cf104, 8, .inl f104)), (qf118, .inl (cf118, 2100, .inl g118_2)), (qf119, .inl (cf119, 2100, .inl g119_2)), (qf105, .inl (cf105, 8, .inl f105)), (qf128, .inl (cf128, 31, .inl g128_2)), (qf110, .inl (cf110, 96, .inl f110)), (qf103, .inl (cf103, 8, .inl f103)), (qf106, .inl (cf106, 8, .inl f106)), (qf108, .inl (cf108, 8, .inl f108)), (qf137, .inl (cf137, 6, .inl g137_2)), (h0, .inr (13, z_1)), (qf100, .inl (cf100, 48000, .inl f100))] := hD
        refine lv_iconst (v := 1) hx hb dX13_flows_66 (by decide) ?_
        refine lv_istore_n (lv' := [(3, .int 1), (0, .ref h0), (1, .int l1_2), (2, .int l2_2)]) hx hb dX13_flows_67 rfl hl (by decide) rfl (fun ls hl => ?_)
        exact hj_68 (H, locs, ls, z_1, l1_2, l2_2, 1, g118_2, g119_2, (upd g127_2 (0 : Int32).toNatClampNeg (4 + (2 * l1_2))), g128_2, g137_2, x117_2, x120_2, x121_2, x122_2, x123_2, x124_2, x125_2, 0, x136_2) ⟨lv_sub hl [1, 2, 3, 0] rfl, hS, hD.sub (ws' := [(h0, .inr (13, z_1)), (qf109, .inl (cf109, 96, .inl f109)), (qf100, .inl (cf100, 48000, .inl f100)), (qf127, .inl (cf127, 30, .inl (upd g127_2 (0 : Int32).toNatClampNeg (4 + (2 * l1_2))))), (qf107, .inl (cf107, 96, .inl f107)), (qf102, .inl (cf102, 2048, .inl f102)), (qf111, .inl (cf111, 96, .inl f111)), (qf104, .inl (cf104, 8, .inl f104)), (qf118, .inl (cf118, 2100, .inl g118_2)), (qf119, .inl (cf119, 2100, .inl g119_2)), (qf105, .inl (cf105, 8, .inl f105)), (qf128, .inl (cf128, 31, .inl g128_2)), (qf110, .inl (cf110, 96, .inl f110)), (qf103, .inl (cf103, 8, .inl f103)), (qf106, .inl (cf106, 8, .inl f106)), (qf108, .inl (cf108, 8, .inl f108)), (qf137, .inl (cf137, 6, .inl g137_2))]) [15, 0, 16, 1, 2, 3, 4, 5, 6, 7, 8, 9, 10, 11, 12, 13, 14] (by decide) rfl, hP.sub (ws' := [(h0, .inr (13, z_1)), (qf109, .inl (cf109, 96, .inl f109)), (qf100, .inl (cf100, 48000, .inl f100)), (qf127, .inl (cf127, 30, .inl (upd g127_2 (0 : Int32).toNatClampNeg (4 + (2 * l1_2))))), (qf107, .inl (cf107, 96, .inl f107)), (qf102, .inl (cf102, 2048, .inl f102)), (qf111, .inl (cf111, 96, .inl f111)), (qf104, .inl (cf104, 8, .inl f104)), (qf118, .inl (cf118, 2100, .inl g118_2)), (qf119, .inl (cf119, 2100, .inl g119_2)), (qf105, .inl (cf105, 8, .inl f105)), (qf128, .inl (cf128, 31, .inl g128_2)), (qf110, .inl (cf110, 96, .inl f110)), (qf103, .inl (cf103, 8, .inl f103)), (qf106, .inl (cf106, 8, .inl f106)), (qf108, .inl (cf108, 8, .inl f108)), (qf137, .inl (cf137, 6, .inl g137_2))]) [15, 0, 16, 1, 2, 3, 4, 5, 6, 7, 8, 9, 10, 11, 12, 13, 14] rfl, hfk_1_98, hfk_1_100, hfk_1_102, hfk_1_103, hfk_1_104, hfk_1_105, hfk_1_106, hfk_1_107, hfk_1_108, hfk_1_109, hfk_1_110, hfk_1_111, hfk_1_117, hfk_1_118, hfk_1_119, hfk_1_120, hfk_1_121, hfk_1_122, hfk_1_123, hfk_1_124, hfk_1_125, hfk_1_127, hfk_1_128, hfk_1_129, hfk_1_130, hfk_1_131, hfk_1_132, hfk_1_133, hfk_1_134, hfk_1_135, hfk_1_136, hfk_1_137, hln_1, hrq_1, hsp⟩
    · rw [if_neg c_1] at hsp
      refine lv_aload_n hx hb dX13_flows_10 rfl (lv_at hl 1 rfl) ?_
      refine va_get (D := (dC, dI)) (ci := 13) (v := .ref qf127) (C := RX13) (T := TX13) (N := 155) hx hb hts uV_h9_X13 hown hK hP 0 rfl rfl 127 (by decide) (hts (.fieldLink RX13 270 "ClassMillModel" "locals" "[I") mw_h9_558) (fun _ h9 => h9) hfh_2_127 dX13_flows_11 ?_
      refine lv_iload_n hx hb dX13_flows_14 rfl (lv_at hl 0 rfl) ?_
      refine lv_iconst (v := 0) hx hb dX13_flows_15 (by decide) ?_
      obtain ⟨hi_7, hsp⟩ := ox_in hsp
      refine va_iast hx hb hK hP hD hS 3 2 rfl rfl (i := l3_2) (x := 0) hi_7 dX13_flows_16 ?_
      clear hP hD hS
      intro H locs hP hD hS
      replace hP : va_P (dC, dI) vwCl [(h0, .inr (13, z2)), (qf109, .inl (cf109, 96, .inl f109)), (qf100, .inl (cf100, 48000, .inl f100)), (qf127, .inl (cf127, 30, .inl (upd g127_2 (l3_2 : Int32).toNatClampNeg 0))), (qf107, .inl (cf107, 96, .inl f107)), (qf102, .inl (cf102, 2048, .inl f102)), (qf111, .inl (cf111, 96, .inl f111)), (qf104, .inl (cf104, 8, .inl f104)), (qf118, .inl (cf118, 2100, .inl g118_2)), (qf119, .inl (cf119, 2100, .inl g119_2)), (qf105, .inl (cf105, 8, .inl f105)), (qf128, .inl (cf128, 31, .inl g128_2)), (qf110, .inl (cf110, 96, .inl f110)), (qf103, .inl (cf103, 8, .inl f103)), (qf106, .inl (cf106, 8, .inl f106)), (qf108, .inl (cf108, 8, .inl f108)), (qf137, .inl (cf137, 6, .inl g137_2))] H := hP
      replace hD : va_D A [(h0, .inr (13, z2)), (qf109, .inl (cf109, 96, .inl f109)), (qf100, .inl (cf100, 48000, .inl f100)), (qf127, .inl (cf127, 30, .inl (upd g127_2 (l3_2 : Int32).toNatClampNeg 0))), (qf107, .inl (cf107, 96, .inl f107)), (qf102, .inl (cf102, 2048, .inl f102)), (qf111, .inl (cf111, 96, .inl f111)), (qf104, .inl (cf104, 8, .inl f104)), (qf118, .inl (cf118, 2100, .inl g118_2)), (qf119, .inl (cf119, 2100, .inl g119_2)), (qf105, .inl (cf105, 8, .inl f105)), (qf128, .inl (cf128, 31, .inl g128_2)), (qf110, .inl (cf110, 96, .inl f110)), (qf103, .inl (cf103, 8, .inl f103)), (qf106, .inl (cf106, 8, .inl f106)), (qf108, .inl (cf108, 8, .inl f108)), (qf137, .inl (cf137, 6, .inl g137_2))] := hD
      refine lv_iinc (v := (l3_2 + 1)) (lv' := [(3, .int (l3_2 + 1)), (0, .ref h0), (1, .int l1_2), (2, .int l2_2)]) hx hb dX13_flows_17 hl (k := 0) rfl rfl (by decide) rfl (fun ls hl => ?_)
      refine lv_goto (tgt := 2) hx hb dX13_flows_20 (by decide) ?_
      exact ih_2 H locs ls z2 l1_2 l2_2 (l3_2 + 1) g118_2 g119_2 (upd g127_2 (l3_2 : Int32).toNatClampNeg 0) g128_2 g137_2 x117_2 x120_2 x121_2 x122_2 x123_2 x124_2 x125_2 x131_2 x136_2 (hfh_2_98) (hfh_2_100) (hfh_2_102) (hfh_2_103) (hfh_2_104) (hfh_2_105) (hfh_2_106) (hfh_2_107) (hfh_2_108) (hfh_2_109) (hfh_2_110) (hfh_2_111) (hfh_2_117) (hfh_2_118) (hfh_2_119) (hfh_2_120) (hfh_2_121) (hfh_2_122) (hfh_2_123) (hfh_2_124) (hfh_2_125) (hfh_2_127) (hfh_2_128) (hfh_2_129) (hfh_2_130) (hfh_2_131) (hfh_2_132) (hfh_2_133) (hfh_2_134) (hfh_2_135) (hfh_2_136) (hfh_2_137) hlh_2 hrh_2 (lv_sub hl [0, 1, 2, 3] rfl) hS (hD.sub (ws' := [(h0, .inr (13, z2)), (qf109, .inl (cf109, 96, .inl f109)), (qf100, .inl (cf100, 48000, .inl f100)), (qf127, .inl (cf127, 30, .inl (upd g127_2 (l3_2 : Int32).toNatClampNeg 0))), (qf107, .inl (cf107, 96, .inl f107)), (qf102, .inl (cf102, 2048, .inl f102)), (qf111, .inl (cf111, 96, .inl f111)), (qf104, .inl (cf104, 8, .inl f104)), (qf118, .inl (cf118, 2100, .inl g118_2)), (qf119, .inl (cf119, 2100, .inl g119_2)), (qf105, .inl (cf105, 8, .inl f105)), (qf128, .inl (cf128, 31, .inl g128_2)), (qf110, .inl (cf110, 96, .inl f110)), (qf103, .inl (cf103, 8, .inl f103)), (qf106, .inl (cf106, 8, .inl f106)), (qf108, .inl (cf108, 8, .inl f108)), (qf137, .inl (cf137, 6, .inl g137_2))]) [0, 1, 2, 3, 4, 5, 6, 7, 8, 9, 10, 11, 12, 13, 14, 15, 16] (by decide) rfl) (hP.sub (ws' := [(h0, .inr (13, z2)), (qf109, .inl (cf109, 96, .inl f109)), (qf100, .inl (cf100, 48000, .inl f100)), (qf127, .inl (cf127, 30, .inl (upd g127_2 (l3_2 : Int32).toNatClampNeg 0))), (qf107, .inl (cf107, 96, .inl f107)), (qf102, .inl (cf102, 2048, .inl f102)), (qf111, .inl (cf111, 96, .inl f111)), (qf104, .inl (cf104, 8, .inl f104)), (qf118, .inl (cf118, 2100, .inl g118_2)), (qf119, .inl (cf119, 2100, .inl g119_2)), (qf105, .inl (cf105, 8, .inl f105)), (qf128, .inl (cf128, 31, .inl g128_2)), (qf110, .inl (cf110, 96, .inl f110)), (qf103, .inl (cf103, 8, .inl f103)), (qf106, .inl (cf106, 8, .inl f106)), (qf108, .inl (cf108, 8, .inl f108)), (qf137, .inl (cf137, 6, .inl g137_2))]) [0, 1, 2, 3, 4, 5, 6, 7, 8, 9, 10, 11, 12, 13, 14, 15, 16] rfl) hsp
def jn_vm_step_1014 (nf : Nat) (v98 : Int32) (v121 : Int32) (v138 : Int32) (v139 : Int32) (v141 : Int32) (v142 : Int32) (v143 : Int32) (v149 : Int32) (f152 : Nat → Int32) (f150 : Nat → Int32) (f151 : Nat → Int32) (f109 : Nat → Int32) (f100 : Nat → Int32) (f153 : Nat → Int32) (f154 : Nat → Int32) (f102 : Nat → Int32) (f148 : Nat → Int32) (f144 : Nat → Int32) (f110 : Nat → Int32) (f104 : Nat → Int32) (f105 : Nat → Int32) (f145 : Nat → Int32) (f146 : Nat → Int32) (f147 : Nat → Int32) (f106 : Nat → Int32) (f108 : Nat → Int32) (f107 : Nat → Int32) (nS477 : Nat) (fS477 : Nat → Int32)  (l2_1014 : Int32) (g144_1014 : Nat → Int32) (g145_1014 : Nat → Int32) (g146_1014 : Nat → Int32) (g147_1014 : Nat → Int32) (g148_1014 : Nat → Int32) (g150_1014 : Nat → Int32) (g151_1014 : Nat → Int32) (g152_1014 : Nat → Int32) (g153_1014 : Nat → Int32) (g154_1014 : Nat → Int32) (x121_1014 : Int32) (x138_1014 : Int32) (x139_1014 : Int32) (x141_1014 : Int32) (x142_1014 : Int32) (x143_1014 : Int32) (x149_1014 : Int32) : Option ((Nat → Int32) × (Nat → Int32) × (Nat → Int32) × (Nat → Int32) × (Nat → Int32) × (Nat → Int32) × (Nat → Int32) × (Nat → Int32) × (Nat → Int32) × (Nat → Int32) × Int32 × Int32 × Int32 × Int32 × Int32 × Int32 × Int32) := ((sp_tn_back nf l2_1014 x138_1014 x139_1014 x149_1014 g153_1014 g154_1014 g144_1014 g152_1014).bind (fun p1 => (some (g144_1014, g145_1014, g146_1014, g147_1014, g148_1014, g150_1014, g151_1014, p1.1, p1.2.1, p1.2.2.1, x121_1014, p1.2.2.2.1, p1.2.2.2.2.1, x141_1014, x142_1014, x143_1014, p1.2.2.2.2.2))))
def jn_vm_step_1020 (nf : Nat) (v98 : Int32) (v121 : Int32) (v138 : Int32) (v139 : Int32) (v141 : Int32) (v142 : Int32) (v143 : Int32) (v149 : Int32) (f152 : Nat → Int32) (f150 : Nat → Int32) (f151 : Nat → Int32) (f109 : Nat → Int32) (f100 : Nat → Int32) (f153 : Nat → Int32) (f154 : Nat → Int32) (f102 : Nat → Int32) (f148 : Nat → Int32) (f144 : Nat → Int32) (f110 : Nat → Int32) (f104 : Nat → Int32) (f105 : Nat → Int32) (f145 : Nat → Int32) (f146 : Nat → Int32) (f147 : Nat → Int32) (f106 : Nat → Int32) (f108 : Nat → Int32) (f107 : Nat → Int32) (nS477 : Nat) (fS477 : Nat → Int32)  (l2_1020 : Int32) (l3_1020 : Int32) (l4_1020 : Int32) (g144_1020 : Nat → Int32) (g145_1020 : Nat → Int32) (g146_1020 : Nat → Int32) (g147_1020 : Nat → Int32) (g148_1020 : Nat → Int32) (g150_1020 : Nat → Int32) (g151_1020 : Nat → Int32) (g152_1020 : Nat → Int32) (g153_1020 : Nat → Int32) (g154_1020 : Nat → Int32) (x121_1020 : Int32) (x138_1020 : Int32) (x139_1020 : Int32) (x141_1020 : Int32) (x142_1020 : Int32) (x143_1020 : Int32) (x149_1020 : Int32) : Option ((Nat → Int32) × (Nat → Int32) × (Nat → Int32) × (Nat → Int32) × (Nat → Int32) × (Nat → Int32) × (Nat → Int32) × (Nat → Int32) × (Nat → Int32) × (Nat → Int32) × Int32 × Int32 × Int32 × Int32 × Int32 × Int32 × Int32) := ((sp_vm_fieldOf nf l2_1020 l4_1020 l3_1020 v98 x121_1020 x138_1020 x139_1020 x141_1020 x142_1020 x149_1020 g153_1020 g154_1020 g150_1020 f102 f100 f104 f105 f106 f108 f107 f109 g145_1020 g147_1020 g152_1020 g146_1020 g144_1020 g151_1020 f110 nS477 fS477).bind (fun p1 => (some (p1.1, p1.2.1, p1.2.2.1, p1.2.2.2.1, g148_1020, g150_1020, g151_1020, p1.2.2.2.2.1, p1.2.2.2.2.2.1, p1.2.2.2.2.2.2.1, p1.2.2.2.2.2.2.2.1, p1.2.2.2.2.2.2.2.2.1, p1.2.2.2.2.2.2.2.2.2.1, p1.2.2.2.2.2.2.2.2.2.2.1, p1.2.2.2.2.2.2.2.2.2.2.2.1, x143_1020, p1.2.2.2.2.2.2.2.2.2.2.2.2))))
def jn_vm_step_1029 (nf : Nat) (v98 : Int32) (v121 : Int32) (v138 : Int32) (v139 : Int32) (v141 : Int32) (v142 : Int32) (v143 : Int32) (v149 : Int32) (f152 : Nat → Int32) (f150 : Nat → Int32) (f151 : Nat → Int32) (f109 : Nat → Int32) (f100 : Nat → Int32) (f153 : Nat → Int32) (f154 : Nat → Int32) (f102 : Nat → Int32) (f148 : Nat → Int32) (f144 : Nat → Int32) (f110 : Nat → Int32) (f104 : Nat → Int32) (f105 : Nat → Int32) (f145 : Nat → Int32) (f146 : Nat → Int32) (f147 : Nat → Int32) (f106 : Nat → Int32) (f108 : Nat → Int32) (f107 : Nat → Int32) (nS477 : Nat) (fS477 : Nat → Int32)  (l2_1029 : Int32) (l4_1029 : Int32) (g144_1029 : Nat → Int32) (g145_1029 : Nat → Int32) (g146_1029 : Nat → Int32) (g147_1029 : Nat → Int32) (g148_1029 : Nat → Int32) (g150_1029 : Nat → Int32) (g151_1029 : Nat → Int32) (g152_1029 : Nat → Int32) (g153_1029 : Nat → Int32) (g154_1029 : Nat → Int32) (x121_1029 : Int32) (x138_1029 : Int32) (x139_1029 : Int32) (x141_1029 : Int32) (x142_1029 : Int32) (x143_1029 : Int32) (x149_1029 : Int32) : Option ((Nat → Int32) × (Nat → Int32) × (Nat → Int32) × (Nat → Int32) × (Nat → Int32) × (Nat → Int32) × (Nat → Int32) × (Nat → Int32) × (Nat → Int32) × (Nat → Int32) × Int32 × Int32 × Int32 × Int32 × Int32 × Int32 × Int32) := ((sp_vm_call nf l2_1029 l4_1029 v98 x121_1029 x138_1029 x139_1029 x141_1029 x142_1029 x149_1029 g150_1029 f102 f100 g153_1029 f104 g154_1029 g144_1029 g145_1029 g146_1029 g147_1029 g151_1029 f110 g152_1029 f105 f106 f108 f107 f109 nS477 fS477).bind (fun p1 => (some (p1.1, p1.2.1, p1.2.2.1, p1.2.2.2.1, g148_1029, p1.2.2.2.2.1, p1.2.2.2.2.2.1, p1.2.2.2.2.2.2.1, p1.2.2.2.2.2.2.2.1, p1.2.2.2.2.2.2.2.2.1, p1.2.2.2.2.2.2.2.2.2.1, p1.2.2.2.2.2.2.2.2.2.2.1, p1.2.2.2.2.2.2.2.2.2.2.2.1, p1.2.2.2.2.2.2.2.2.2.2.2.2.1, p1.2.2.2.2.2.2.2.2.2.2.2.2.2.1, x143_1029, p1.2.2.2.2.2.2.2.2.2.2.2.2.2.2))))
def jn_vm_step_1064 (nf : Nat) (v98 : Int32) (v121 : Int32) (v138 : Int32) (v139 : Int32) (v141 : Int32) (v142 : Int32) (v143 : Int32) (v149 : Int32) (f152 : Nat → Int32) (f150 : Nat → Int32) (f151 : Nat → Int32) (f109 : Nat → Int32) (f100 : Nat → Int32) (f153 : Nat → Int32) (f154 : Nat → Int32) (f102 : Nat → Int32) (f148 : Nat → Int32) (f144 : Nat → Int32) (f110 : Nat → Int32) (f104 : Nat → Int32) (f105 : Nat → Int32) (f145 : Nat → Int32) (f146 : Nat → Int32) (f147 : Nat → Int32) (f106 : Nat → Int32) (f108 : Nat → Int32) (f107 : Nat → Int32) (nS477 : Nat) (fS477 : Nat → Int32)  (l3_1064 : Int32) (g144_1064 : Nat → Int32) (g145_1064 : Nat → Int32) (g146_1064 : Nat → Int32) (g147_1064 : Nat → Int32) (g148_1064 : Nat → Int32) (g150_1064 : Nat → Int32) (g151_1064 : Nat → Int32) (g152_1064 : Nat → Int32) (g153_1064 : Nat → Int32) (g154_1064 : Nat → Int32) (x121_1064 : Int32) (x138_1064 : Int32) (x139_1064 : Int32) (x141_1064 : Int32) (x142_1064 : Int32) (x143_1064 : Int32) (x149_1064 : Int32) : Option ((Nat → Int32) × (Nat → Int32) × (Nat → Int32) × (Nat → Int32) × (Nat → Int32) × (Nat → Int32) × (Nat → Int32) × (Nat → Int32) × (Nat → Int32) × (Nat → Int32) × Int32 × Int32 × Int32 × Int32 × Int32 × Int32 × Int32) := ((sp_tm_on nf l3_1064 x149_1064 g152_1064).bind (fun p1 => (some (g144_1064, g145_1064, g146_1064, g147_1064, g148_1064, g150_1064, g151_1064, p1, g153_1064, g154_1064, x121_1064, x138_1064, x139_1064, x141_1064, x142_1064, (x143_1064 + 1), x149_1064))))
def jn_vm_step_1077 (nf : Nat) (v98 : Int32) (v121 : Int32) (v138 : Int32) (v139 : Int32) (v141 : Int32) (v142 : Int32) (v143 : Int32) (v149 : Int32) (f152 : Nat → Int32) (f150 : Nat → Int32) (f151 : Nat → Int32) (f109 : Nat → Int32) (f100 : Nat → Int32) (f153 : Nat → Int32) (f154 : Nat → Int32) (f102 : Nat → Int32) (f148 : Nat → Int32) (f144 : Nat → Int32) (f110 : Nat → Int32) (f104 : Nat → Int32) (f105 : Nat → Int32) (f145 : Nat → Int32) (f146 : Nat → Int32) (f147 : Nat → Int32) (f106 : Nat → Int32) (f108 : Nat → Int32) (f107 : Nat → Int32) (nS477 : Nat) (fS477 : Nat → Int32)  (l2_1077 : Int32) (l4_1077 : Int32) (g144_1077 : Nat → Int32) (g145_1077 : Nat → Int32) (g146_1077 : Nat → Int32) (g147_1077 : Nat → Int32) (g148_1077 : Nat → Int32) (g150_1077 : Nat → Int32) (g151_1077 : Nat → Int32) (g152_1077 : Nat → Int32) (g153_1077 : Nat → Int32) (g154_1077 : Nat → Int32) (x121_1077 : Int32) (x138_1077 : Int32) (x139_1077 : Int32) (x141_1077 : Int32) (x142_1077 : Int32) (x143_1077 : Int32) (x149_1077 : Int32) : Option ((Nat → Int32) × (Nat → Int32) × (Nat → Int32) × (Nat → Int32) × (Nat → Int32) × (Nat → Int32) × (Nat → Int32) × (Nat → Int32) × (Nat → Int32) × (Nat → Int32) × Int32 × Int32 × Int32 × Int32 × Int32 × Int32 × Int32) := ((sp_vm_fresh_ nf l2_1077 l4_1077 v98 x138_1077 x139_1077 x141_1077 x142_1077 x149_1077 g153_1077 g154_1077 g150_1077 f102 f100 f104 g144_1077 g145_1077 g146_1077 g147_1077 g151_1077 f110 g152_1077 f105 f106 nS477 fS477).bind (fun p1 => (some (p1.1, p1.2.1, p1.2.2.1, p1.2.2.2.1, g148_1077, g150_1077, g151_1077, p1.2.2.2.2.1, p1.2.2.2.2.2.1, p1.2.2.2.2.2.2.1, x121_1077, p1.2.2.2.2.2.2.2.1, p1.2.2.2.2.2.2.2.2.1, p1.2.2.2.2.2.2.2.2.2.1, p1.2.2.2.2.2.2.2.2.2.2.1, x143_1077, p1.2.2.2.2.2.2.2.2.2.2.2))))
def jn_vm_step_1111 (nf : Nat) (v98 : Int32) (v121 : Int32) (v138 : Int32) (v139 : Int32) (v141 : Int32) (v142 : Int32) (v143 : Int32) (v149 : Int32) (f152 : Nat → Int32) (f150 : Nat → Int32) (f151 : Nat → Int32) (f109 : Nat → Int32) (f100 : Nat → Int32) (f153 : Nat → Int32) (f154 : Nat → Int32) (f102 : Nat → Int32) (f148 : Nat → Int32) (f144 : Nat → Int32) (f110 : Nat → Int32) (f104 : Nat → Int32) (f105 : Nat → Int32) (f145 : Nat → Int32) (f146 : Nat → Int32) (f147 : Nat → Int32) (f106 : Nat → Int32) (f108 : Nat → Int32) (f107 : Nat → Int32) (nS477 : Nat) (fS477 : Nat → Int32)  (l2_1111 : Int32) (l3_1111 : Int32) (l4_1111 : Int32) (g144_1111 : Nat → Int32) (g145_1111 : Nat → Int32) (g146_1111 : Nat → Int32) (g147_1111 : Nat → Int32) (g148_1111 : Nat → Int32) (g150_1111 : Nat → Int32) (g151_1111 : Nat → Int32) (g152_1111 : Nat → Int32) (g153_1111 : Nat → Int32) (g154_1111 : Nat → Int32) (x121_1111 : Int32) (x138_1111 : Int32) (x139_1111 : Int32) (x141_1111 : Int32) (x142_1111 : Int32) (x143_1111 : Int32) (x149_1111 : Int32) : Option ((Nat → Int32) × (Nat → Int32) × (Nat → Int32) × (Nat → Int32) × (Nat → Int32) × (Nat → Int32) × (Nat → Int32) × (Nat → Int32) × (Nat → Int32) × (Nat → Int32) × Int32 × Int32 × Int32 × Int32 × Int32 × Int32 × Int32) := ((sp_vm_is nf l2_1111 l4_1111 v98 x138_1111 x139_1111 x141_1111 x142_1111 x149_1111 g153_1111 g154_1111 g150_1111 f102 f100 f104 g144_1111 f105 g145_1111 g146_1111 g147_1111 g151_1111 f110 g152_1111 nS477 fS477).bind (fun p1 => (if p1.1 = 0 then (some (p1.2.1, p1.2.2.1, p1.2.2.2.1, p1.2.2.2.2.1, g148_1111, g150_1111, g151_1111, p1.2.2.2.2.2.1, p1.2.2.2.2.2.2.1, p1.2.2.2.2.2.2.2.1, x121_1111, p1.2.2.2.2.2.2.2.2.1, p1.2.2.2.2.2.2.2.2.2.1, p1.2.2.2.2.2.2.2.2.2.2.1, p1.2.2.2.2.2.2.2.2.2.2.2.1, x143_1111, p1.2.2.2.2.2.2.2.2.2.2.2.2)) else ((sp_tm_on nf l3_1111 p1.2.2.2.2.2.2.2.2.2.2.2.2 p1.2.2.2.2.2.1).bind (fun p2 => (some (p1.2.1, p1.2.2.1, p1.2.2.2.1, p1.2.2.2.2.1, g148_1111, g150_1111, g151_1111, p2, p1.2.2.2.2.2.2.1, p1.2.2.2.2.2.2.2.1, x121_1111, p1.2.2.2.2.2.2.2.2.1, p1.2.2.2.2.2.2.2.2.2.1, p1.2.2.2.2.2.2.2.2.2.2.1, p1.2.2.2.2.2.2.2.2.2.2.2.1, x143_1111, p1.2.2.2.2.2.2.2.2.2.2.2.2)))))))
def jn_vm_step_1122 (nf : Nat) (v98 : Int32) (v121 : Int32) (v138 : Int32) (v139 : Int32) (v141 : Int32) (v142 : Int32) (v143 : Int32) (v149 : Int32) (f152 : Nat → Int32) (f150 : Nat → Int32) (f151 : Nat → Int32) (f109 : Nat → Int32) (f100 : Nat → Int32) (f153 : Nat → Int32) (f154 : Nat → Int32) (f102 : Nat → Int32) (f148 : Nat → Int32) (f144 : Nat → Int32) (f110 : Nat → Int32) (f104 : Nat → Int32) (f105 : Nat → Int32) (f145 : Nat → Int32) (f146 : Nat → Int32) (f147 : Nat → Int32) (f106 : Nat → Int32) (f108 : Nat → Int32) (f107 : Nat → Int32) (nS477 : Nat) (fS477 : Nat → Int32)  (l1_1122 : Int32) (l2_1122 : Int32) (l3_1122 : Int32) (g144_1122 : Nat → Int32) (g145_1122 : Nat → Int32) (g146_1122 : Nat → Int32) (g147_1122 : Nat → Int32) (g148_1122 : Nat → Int32) (g150_1122 : Nat → Int32) (g151_1122 : Nat → Int32) (g152_1122 : Nat → Int32) (g153_1122 : Nat → Int32) (g154_1122 : Nat → Int32) (x121_1122 : Int32) (x138_1122 : Int32) (x139_1122 : Int32) (x141_1122 : Int32) (x142_1122 : Int32) (x143_1122 : Int32) (x149_1122 : Int32) : Option ((Nat → Int32) × (Nat → Int32) × (Nat → Int32) × (Nat → Int32) × (Nat → Int32) × (Nat → Int32) × (Nat → Int32) × (Nat → Int32) × (Nat → Int32) × (Nat → Int32) × Int32 × Int32 × Int32 × Int32 × Int32 × Int32 × Int32) := ((sp_vm_jumps nf l2_1122 x149_1122 g153_1122 g154_1122).bind (fun p1 => (if p1.1 = 0 then ((sp_tm_on nf l3_1122 x149_1122 g152_1122).bind (fun p2 => (some (g144_1122, g145_1122, g146_1122, g147_1122, g148_1122, g150_1122, g151_1122, p2, p1.2, g154_1122, x121_1122, x138_1122, x139_1122, x141_1122, x142_1122, x143_1122, x149_1122)))) else ((sp_tm_opAt nf (l1_1122 + 1) x149_1122 g150_1122 g151_1122 f109 f100).bind (fun p3 => ((sp_tm_opAt nf (l1_1122 + 2) x149_1122 g150_1122 g151_1122 f109 f100).bind (fun p4 => ((sp_tm_on nf ((((p3 <<< (8 &&& 31)) ||| p4) : Int32).toInt16.toInt32) x149_1122 g152_1122).bind (fun p5 => (some (g144_1122, g145_1122, g146_1122, g147_1122, g148_1122, g150_1122, g151_1122, p5, p1.2, g154_1122, x121_1122, x138_1122, x139_1122, x141_1122, x142_1122, x143_1122, x149_1122)))))))))))
def jn_vm_step_835 (nf : Nat) (v98 : Int32) (v121 : Int32) (v138 : Int32) (v139 : Int32) (v141 : Int32) (v142 : Int32) (v143 : Int32) (v149 : Int32) (f152 : Nat → Int32) (f150 : Nat → Int32) (f151 : Nat → Int32) (f109 : Nat → Int32) (f100 : Nat → Int32) (f153 : Nat → Int32) (f154 : Nat → Int32) (f102 : Nat → Int32) (f148 : Nat → Int32) (f144 : Nat → Int32) (f110 : Nat → Int32) (f104 : Nat → Int32) (f105 : Nat → Int32) (f145 : Nat → Int32) (f146 : Nat → Int32) (f147 : Nat → Int32) (f106 : Nat → Int32) (f108 : Nat → Int32) (f107 : Nat → Int32) (nS477 : Nat) (fS477 : Nat → Int32)  (l3_835 : Int32) (g144_835 : Nat → Int32) (g145_835 : Nat → Int32) (g146_835 : Nat → Int32) (g147_835 : Nat → Int32) (g148_835 : Nat → Int32) (g150_835 : Nat → Int32) (g151_835 : Nat → Int32) (g152_835 : Nat → Int32) (g153_835 : Nat → Int32) (g154_835 : Nat → Int32) (x121_835 : Int32) (x138_835 : Int32) (x139_835 : Int32) (x141_835 : Int32) (x142_835 : Int32) (x143_835 : Int32) (x149_835 : Int32) : Option ((Nat → Int32) × (Nat → Int32) × (Nat → Int32) × (Nat → Int32) × (Nat → Int32) × (Nat → Int32) × (Nat → Int32) × (Nat → Int32) × (Nat → Int32) × (Nat → Int32) × Int32 × Int32 × Int32 × Int32 × Int32 × Int32 × Int32) := ((sp_tm_give nf 0 x149_835 g153_835 g154_835).bind (fun p1 => ((sp_tm_on nf l3_835 x149_835 g152_835).bind (fun p2 => (some (g144_835, g145_835, g146_835, g147_835, g148_835, g150_835, g151_835, p2, p1.1, p1.2, x121_835, x138_835, x139_835, x141_835, x142_835, x143_835, x149_835))))))
def jn_vm_step_843 (nf : Nat) (v98 : Int32) (v121 : Int32) (v138 : Int32) (v139 : Int32) (v141 : Int32) (v142 : Int32) (v143 : Int32) (v149 : Int32) (f152 : Nat → Int32) (f150 : Nat → Int32) (f151 : Nat → Int32) (f109 : Nat → Int32) (f100 : Nat → Int32) (f153 : Nat → Int32) (f154 : Nat → Int32) (f102 : Nat → Int32) (f148 : Nat → Int32) (f144 : Nat → Int32) (f110 : Nat → Int32) (f104 : Nat → Int32) (f105 : Nat → Int32) (f145 : Nat → Int32) (f146 : Nat → Int32) (f147 : Nat → Int32) (f106 : Nat → Int32) (f108 : Nat → Int32) (f107 : Nat → Int32) (nS477 : Nat) (fS477 : Nat → Int32)  (l2_843 : Int32) (l3_843 : Int32) (g144_843 : Nat → Int32) (g145_843 : Nat → Int32) (g146_843 : Nat → Int32) (g147_843 : Nat → Int32) (g148_843 : Nat → Int32) (g150_843 : Nat → Int32) (g151_843 : Nat → Int32) (g152_843 : Nat → Int32) (g153_843 : Nat → Int32) (g154_843 : Nat → Int32) (x121_843 : Int32) (x138_843 : Int32) (x139_843 : Int32) (x141_843 : Int32) (x142_843 : Int32) (x143_843 : Int32) (x149_843 : Int32) : Option ((Nat → Int32) × (Nat → Int32) × (Nat → Int32) × (Nat → Int32) × (Nat → Int32) × (Nat → Int32) × (Nat → Int32) × (Nat → Int32) × (Nat → Int32) × (Nat → Int32) × Int32 × Int32 × Int32 × Int32 × Int32 × Int32 × Int32) := ((sp_tm_give nf (l2_843 - 3) x149_843 g153_843 g154_843).bind (fun p1 => ((sp_tm_on nf l3_843 x149_843 g152_843).bind (fun p2 => (some (g144_843, g145_843, g146_843, g147_843, g148_843, g150_843, g151_843, p2, p1.1, p1.2, x121_843, x138_843, x139_843, x141_843, x142_843, x143_843, x149_843))))))
def jn_vm_step_876 (nf : Nat) (v98 : Int32) (v121 : Int32) (v138 : Int32) (v139 : Int32) (v141 : Int32) (v142 : Int32) (v143 : Int32) (v149 : Int32) (f152 : Nat → Int32) (f150 : Nat → Int32) (f151 : Nat → Int32) (f109 : Nat → Int32) (f100 : Nat → Int32) (f153 : Nat → Int32) (f154 : Nat → Int32) (f102 : Nat → Int32) (f148 : Nat → Int32) (f144 : Nat → Int32) (f110 : Nat → Int32) (f104 : Nat → Int32) (f105 : Nat → Int32) (f145 : Nat → Int32) (f146 : Nat → Int32) (f147 : Nat → Int32) (f106 : Nat → Int32) (f108 : Nat → Int32) (f107 : Nat → Int32) (nS477 : Nat) (fS477 : Nat → Int32)  (l3_876 : Int32) (l4_876 : Int32) (g144_876 : Nat → Int32) (g145_876 : Nat → Int32) (g146_876 : Nat → Int32) (g147_876 : Nat → Int32) (g148_876 : Nat → Int32) (g150_876 : Nat → Int32) (g151_876 : Nat → Int32) (g152_876 : Nat → Int32) (g153_876 : Nat → Int32) (g154_876 : Nat → Int32) (x121_876 : Int32) (x138_876 : Int32) (x139_876 : Int32) (x141_876 : Int32) (x142_876 : Int32) (x143_876 : Int32) (x149_876 : Int32) : Option ((Nat → Int32) × (Nat → Int32) × (Nat → Int32) × (Nat → Int32) × (Nat → Int32) × (Nat → Int32) × (Nat → Int32) × (Nat → Int32) × (Nat → Int32) × (Nat → Int32) × Int32 × Int32 × Int32 × Int32 × Int32 × Int32 × Int32) := ((sp_tm_cell nf l4_876 x149_876 g154_876).bind (fun p1 => ((sp_tm_give nf p1 x149_876 g153_876 g154_876).bind (fun p2 => ((sp_tm_on nf l3_876 x149_876 g152_876).bind (fun p3 => (some (g144_876, g145_876, g146_876, g147_876, g148_876, g150_876, g151_876, p3, p2.1, p2.2, x121_876, x138_876, x139_876, x141_876, x142_876, x143_876, x149_876))))))))
def jn_vm_step_889 (nf : Nat) (v98 : Int32) (v121 : Int32) (v138 : Int32) (v139 : Int32) (v141 : Int32) (v142 : Int32) (v143 : Int32) (v149 : Int32) (f152 : Nat → Int32) (f150 : Nat → Int32) (f151 : Nat → Int32) (f109 : Nat → Int32) (f100 : Nat → Int32) (f153 : Nat → Int32) (f154 : Nat → Int32) (f102 : Nat → Int32) (f148 : Nat → Int32) (f144 : Nat → Int32) (f110 : Nat → Int32) (f104 : Nat → Int32) (f105 : Nat → Int32) (f145 : Nat → Int32) (f146 : Nat → Int32) (f147 : Nat → Int32) (f106 : Nat → Int32) (f108 : Nat → Int32) (f107 : Nat → Int32) (nS477 : Nat) (fS477 : Nat → Int32)  (l3_889 : Int32) (l4_889 : Int32) (g144_889 : Nat → Int32) (g145_889 : Nat → Int32) (g146_889 : Nat → Int32) (g147_889 : Nat → Int32) (g148_889 : Nat → Int32) (g150_889 : Nat → Int32) (g151_889 : Nat → Int32) (g152_889 : Nat → Int32) (g153_889 : Nat → Int32) (g154_889 : Nat → Int32) (x121_889 : Int32) (x138_889 : Int32) (x139_889 : Int32) (x141_889 : Int32) (x142_889 : Int32) (x143_889 : Int32) (x149_889 : Int32) : Option ((Nat → Int32) × (Nat → Int32) × (Nat → Int32) × (Nat → Int32) × (Nat → Int32) × (Nat → Int32) × (Nat → Int32) × (Nat → Int32) × (Nat → Int32) × (Nat → Int32) × Int32 × Int32 × Int32 × Int32 × Int32 × Int32 × Int32) := ((sp_tm_drop nf x149_889 g153_889 g154_889).bind (fun p1 => (if ((60 * (x149_889 - 1)) + l4_889) < 0 then none else if 3600 ≤ (((60 * (x149_889 - 1)) + l4_889) : Int32).toNatClampNeg then none else ((sp_tm_on nf l3_889 x149_889 g152_889).bind (fun p2 => (some (g144_889, g145_889, g146_889, g147_889, g148_889, g150_889, g151_889, p2, p1.2, (upd g154_889 (((60 * (x149_889 - 1)) + l4_889) : Int32).toNatClampNeg p1.1), x121_889, x138_889, x139_889, x141_889, x142_889, x143_889, x149_889)))))))
def jn_vm_step_958 (nf : Nat) (v98 : Int32) (v121 : Int32) (v138 : Int32) (v139 : Int32) (v141 : Int32) (v142 : Int32) (v143 : Int32) (v149 : Int32) (f152 : Nat → Int32) (f150 : Nat → Int32) (f151 : Nat → Int32) (f109 : Nat → Int32) (f100 : Nat → Int32) (f153 : Nat → Int32) (f154 : Nat → Int32) (f102 : Nat → Int32) (f148 : Nat → Int32) (f144 : Nat → Int32) (f110 : Nat → Int32) (f104 : Nat → Int32) (f105 : Nat → Int32) (f145 : Nat → Int32) (f146 : Nat → Int32) (f147 : Nat → Int32) (f106 : Nat → Int32) (f108 : Nat → Int32) (f107 : Nat → Int32) (nS477 : Nat) (fS477 : Nat → Int32)  (l2_958 : Int32) (g144_958 : Nat → Int32) (g145_958 : Nat → Int32) (g146_958 : Nat → Int32) (g147_958 : Nat → Int32) (g148_958 : Nat → Int32) (g150_958 : Nat → Int32) (g151_958 : Nat → Int32) (g152_958 : Nat → Int32) (g153_958 : Nat → Int32) (g154_958 : Nat → Int32) (x121_958 : Int32) (x138_958 : Int32) (x139_958 : Int32) (x141_958 : Int32) (x142_958 : Int32) (x143_958 : Int32) (x149_958 : Int32) : Option ((Nat → Int32) × (Nat → Int32) × (Nat → Int32) × (Nat → Int32) × (Nat → Int32) × (Nat → Int32) × (Nat → Int32) × (Nat → Int32) × (Nat → Int32) × (Nat → Int32) × Int32 × Int32 × Int32 × Int32 × Int32 × Int32 × Int32) := ((sp_vm_element nf l2_958 v98 x138_958 x139_958 x141_958 x142_958 x149_958 g153_958 g154_958 g144_958 g145_958 g146_958 g147_958 g150_958 g151_958 f110 f100 g152_958 f102 f104 f105 nS477 fS477).bind (fun p1 => (some (p1.1, p1.2.1, p1.2.2.1, p1.2.2.2.1, g148_958, g150_958, g151_958, p1.2.2.2.2.1, p1.2.2.2.2.2.1, p1.2.2.2.2.2.2.1, x121_958, p1.2.2.2.2.2.2.2.1, p1.2.2.2.2.2.2.2.2.1, p1.2.2.2.2.2.2.2.2.2.1, p1.2.2.2.2.2.2.2.2.2.2.1, x143_958, p1.2.2.2.2.2.2.2.2.2.2.2))))
def jn_vm_step_999 (nf : Nat) (v98 : Int32) (v121 : Int32) (v138 : Int32) (v139 : Int32) (v141 : Int32) (v142 : Int32) (v143 : Int32) (v149 : Int32) (f152 : Nat → Int32) (f150 : Nat → Int32) (f151 : Nat → Int32) (f109 : Nat → Int32) (f100 : Nat → Int32) (f153 : Nat → Int32) (f154 : Nat → Int32) (f102 : Nat → Int32) (f148 : Nat → Int32) (f144 : Nat → Int32) (f110 : Nat → Int32) (f104 : Nat → Int32) (f105 : Nat → Int32) (f145 : Nat → Int32) (f146 : Nat → Int32) (f147 : Nat → Int32) (f106 : Nat → Int32) (f108 : Nat → Int32) (f107 : Nat → Int32) (nS477 : Nat) (fS477 : Nat → Int32)  (l2_999 : Int32) (l3_999 : Int32) (l5_999 : Int32) (l6_999 : Int32) (g144_999 : Nat → Int32) (g145_999 : Nat → Int32) (g146_999 : Nat → Int32) (g147_999 : Nat → Int32) (g148_999 : Nat → Int32) (g150_999 : Nat → Int32) (g151_999 : Nat → Int32) (g152_999 : Nat → Int32) (g153_999 : Nat → Int32) (g154_999 : Nat → Int32) (x121_999 : Int32) (x138_999 : Int32) (x139_999 : Int32) (x141_999 : Int32) (x142_999 : Int32) (x143_999 : Int32) (x149_999 : Int32) : Option ((Nat → Int32) × (Nat → Int32) × (Nat → Int32) × (Nat → Int32) × (Nat → Int32) × (Nat → Int32) × (Nat → Int32) × (Nat → Int32) × (Nat → Int32) × (Nat → Int32) × Int32 × Int32 × Int32 × Int32 × Int32 × Int32 × Int32) := ((sp_vm_reckon nf l2_999 l5_999 l6_999).bind (fun p1 => ((sp_tm_give nf p1 x149_999 g153_999 g154_999).bind (fun p2 => ((sp_tm_on nf l3_999 x149_999 g152_999).bind (fun p3 => (some (g144_999, g145_999, g146_999, g147_999, g148_999, g150_999, g151_999, p3, p2.1, p2.2, x121_999, x138_999, x139_999, x141_999, x142_999, x143_999, x149_999))))))))
def jn_vm_step_964 (nf : Nat) (v98 : Int32) (v121 : Int32) (v138 : Int32) (v139 : Int32) (v141 : Int32) (v142 : Int32) (v143 : Int32) (v149 : Int32) (f152 : Nat → Int32) (f150 : Nat → Int32) (f151 : Nat → Int32) (f109 : Nat → Int32) (f100 : Nat → Int32) (f153 : Nat → Int32) (f154 : Nat → Int32) (f102 : Nat → Int32) (f148 : Nat → Int32) (f144 : Nat → Int32) (f110 : Nat → Int32) (f104 : Nat → Int32) (f105 : Nat → Int32) (f145 : Nat → Int32) (f146 : Nat → Int32) (f147 : Nat → Int32) (f106 : Nat → Int32) (f108 : Nat → Int32) (f107 : Nat → Int32) (nS477 : Nat) (fS477 : Nat → Int32)  (l2_964 : Int32) (l3_964 : Int32) (g144_964 : Nat → Int32) (g145_964 : Nat → Int32) (g146_964 : Nat → Int32) (g147_964 : Nat → Int32) (g148_964 : Nat → Int32) (g150_964 : Nat → Int32) (g151_964 : Nat → Int32) (g152_964 : Nat → Int32) (g153_964 : Nat → Int32) (g154_964 : Nat → Int32) (x121_964 : Int32) (x138_964 : Int32) (x139_964 : Int32) (x141_964 : Int32) (x142_964 : Int32) (x143_964 : Int32) (x149_964 : Int32) : Option ((Nat → Int32) × (Nat → Int32) × (Nat → Int32) × (Nat → Int32) × (Nat → Int32) × (Nat → Int32) × (Nat → Int32) × (Nat → Int32) × (Nat → Int32) × (Nat → Int32) × Int32 × Int32 × Int32 × Int32 × Int32 × Int32 × Int32) := ((sp_tm_drop nf x149_964 g153_964 g154_964).bind (fun p1 => ((sp_tm_drop nf x149_964 p1.2 g154_964).bind (fun p2 => (if p1.1 = 0 then (if l2_964 = 108 then ((sp_vm_fails nf 4 v98 x138_964 x139_964 x141_964 x142_964 x149_964 g144_964 g145_964 g146_964 g147_964 g150_964 g151_964 f110 f100 g152_964 f102 f104 f105 p2.2 g154_964 nS477 fS477).bind (fun p3 => (some (p3.1, p3.2.1, p3.2.2.1, p3.2.2.2.1, g148_964, g150_964, g151_964, p3.2.2.2.2.1, p3.2.2.2.2.2.1, p3.2.2.2.2.2.2.1, x121_964, p3.2.2.2.2.2.2.2.1, p3.2.2.2.2.2.2.2.2.1, p3.2.2.2.2.2.2.2.2.2.1, p3.2.2.2.2.2.2.2.2.2.2.1, x143_964, p3.2.2.2.2.2.2.2.2.2.2.2)))) else (if l2_964 = 112 then ((sp_vm_fails nf 4 v98 x138_964 x139_964 x141_964 x142_964 x149_964 g144_964 g145_964 g146_964 g147_964 g150_964 g151_964 f110 f100 g152_964 f102 f104 f105 p2.2 g154_964 nS477 fS477).bind (fun p4 => (some (p4.1, p4.2.1, p4.2.2.1, p4.2.2.2.1, g148_964, g150_964, g151_964, p4.2.2.2.2.1, p4.2.2.2.2.2.1, p4.2.2.2.2.2.2.1, x121_964, p4.2.2.2.2.2.2.2.1, p4.2.2.2.2.2.2.2.2.1, p4.2.2.2.2.2.2.2.2.2.1, p4.2.2.2.2.2.2.2.2.2.2.1, x143_964, p4.2.2.2.2.2.2.2.2.2.2.2)))) else (jn_vm_step_999 nf v98 v121 v138 v139 v141 v142 v143 v149 f152 f150 f151 f109 f100 f153 f154 f102 f148 f144 f110 f104 f105 f145 f146 f147 f106 f108 f107 nS477 fS477  l2_964 l3_964 p2.1 p1.1 g144_964 g145_964 g146_964 g147_964 g148_964 g150_964 g151_964 g152_964 p2.2 g154_964 x121_964 x138_964 x139_964 x141_964 x142_964 x143_964 x149_964))) else (jn_vm_step_999 nf v98 v121 v138 v139 v141 v142 v143 v149 f152 f150 f151 f109 f100 f153 f154 f102 f148 f144 f110 f104 f105 f145 f146 f147 f106 f108 f107 nS477 fS477  l2_964 l3_964 p2.1 p1.1 g144_964 g145_964 g146_964 g147_964 g148_964 g150_964 g151_964 g152_964 p2.2 g154_964 x121_964 x138_964 x139_964 x141_964 x142_964 x143_964 x149_964))))))
set_option maxRecDepth 100000 in
def jn_vm_step_39 (nf : Nat) (v98 : Int32) (v121 : Int32) (v138 : Int32) (v139 : Int32) (v141 : Int32) (v142 : Int32) (v143 : Int32) (v149 : Int32) (f152 : Nat → Int32) (f150 : Nat → Int32) (f151 : Nat → Int32) (f109 : Nat → Int32) (f100 : Nat → Int32) (f153 : Nat → Int32) (f154 : Nat → Int32) (f102 : Nat → Int32) (f148 : Nat → Int32) (f144 : Nat → Int32) (f110 : Nat → Int32) (f104 : Nat → Int32) (f105 : Nat → Int32) (f145 : Nat → Int32) (f146 : Nat → Int32) (f147 : Nat → Int32) (f106 : Nat → Int32) (f108 : Nat → Int32) (f107 : Nat → Int32) (nS477 : Nat) (fS477 : Nat → Int32)  (l1_39 : Int32) (l2_39 : Int32) (l3_39 : Int32) (s0_39 : Int32) (g144_39 : Nat → Int32) (g145_39 : Nat → Int32) (g146_39 : Nat → Int32) (g147_39 : Nat → Int32) (g148_39 : Nat → Int32) (g150_39 : Nat → Int32) (g151_39 : Nat → Int32) (g152_39 : Nat → Int32) (g153_39 : Nat → Int32) (g154_39 : Nat → Int32) (x121_39 : Int32) (x138_39 : Int32) (x139_39 : Int32) (x141_39 : Int32) (x142_39 : Int32) (x143_39 : Int32) (x149_39 : Int32) : Option ((Nat → Int32) × (Nat → Int32) × (Nat → Int32) × (Nat → Int32) × (Nat → Int32) × (Nat → Int32) × (Nat → Int32) × (Nat → Int32) × (Nat → Int32) × (Nat → Int32) × Int32 × Int32 × Int32 × Int32 × Int32 × Int32 × Int32) := (if l2_39 = 0 then ((sp_tm_on nf l3_39 x149_39 g152_39).bind (fun p1 => (some (g144_39, g145_39, g146_39, g147_39, g148_39, g150_39, g151_39, p1, g153_39, g154_39, x121_39, x138_39, x139_39, x141_39, x142_39, x143_39, x149_39)))) else (if l2_39 = 1 then (jn_vm_step_835 nf v98 v121 v138 v139 v141 v142 v143 v149 f152 f150 f151 f109 f100 f153 f154 f102 f148 f144 f110 f104 f105 f145 f146 f147 f106 f108 f107 nS477 fS477  l3_39 g144_39 g145_39 g146_39 g147_39 g148_39 g150_39 g151_39 g152_39 g153_39 g154_39 x121_39 x138_39 x139_39 x141_39 x142_39 x143_39 x149_39) else (if l2_39 = 2 then (jn_vm_step_843 nf v98 v121 v138 v139 v141 v142 v143 v149 f152 f150 f151 f109 f100 f153 f154 f102 f148 f144 f110 f104 f105 f145 f146 f147 f106 f108 f107 nS477 fS477  l2_39 l3_39 g144_39 g145_39 g146_39 g147_39 g148_39 g150_39 g151_39 g152_39 g153_39 g154_39 x121_39 x138_39 x139_39 x141_39 x142_39 x143_39 x149_39) else (if l2_39 = 3 then (jn_vm_step_835 nf v98 v121 v138 v139 v141 v142 v143 v149 f152 f150 f151 f109 f100 f153 f154 f102 f148 f144 f110 f104 f105 f145 f146 f147 f106 f108 f107 nS477 fS477  l3_39 g144_39 g145_39 g146_39 g147_39 g148_39 g150_39 g151_39 g152_39 g153_39 g154_39 x121_39 x138_39 x139_39 x141_39 x142_39 x143_39 x149_39) else (if l2_39 = 4 then (jn_vm_step_843 nf v98 v121 v138 v139 v141 v142 v143 v149 f152 f150 f151 f109 f100 f153 f154 f102 f148 f144 f110 f104 f105 f145 f146 f147 f106 f108 f107 nS477 fS477  l2_39 l3_39 g144_39 g145_39 g146_39 g147_39 g148_39 g150_39 g151_39 g152_39 g153_39 g154_39 x121_39 x138_39 x139_39 x141_39 x142_39 x143_39 x149_39) else (if l2_39 = 5 then (jn_vm_step_843 nf v98 v121 v138 v139 v141 v142 v143 v149 f152 f150 f151 f109 f100 f153 f154 f102 f148 f144 f110 f104 f105 f145 f146 f147 f106 f108 f107 nS477 fS477  l2_39 l3_39 g144_39 g145_39 g146_39 g147_39 g148_39 g150_39 g151_39 g152_39 g153_39 g154_39 x121_39 x138_39 x139_39 x141_39 x142_39 x143_39 x149_39) else (if l2_39 = 6 then (jn_vm_step_843 nf v98 v121 v138 v139 v141 v142 v143 v149 f152 f150 f151 f109 f100 f153 f154 f102 f148 f144 f110 f104 f105 f145 f146 f147 f106 f108 f107 nS477 fS477  l2_39 l3_39 g144_39 g145_39 g146_39 g147_39 g148_39 g150_39 g151_39 g152_39 g153_39 g154_39 x121_39 x138_39 x139_39 x141_39 x142_39 x143_39 x149_39) else (if l2_39 = 7 then (jn_vm_step_843 nf v98 v121 v138 v139 v141 v142 v143 v149 f152 f150 f151 f109 f100 f153 f154 f102 f148 f144 f110 f104 f105 f145 f146 f147 f106 f108 f107 nS477 fS477  l2_39 l3_39 g144_39 g145_39 g146_39 g147_39 g148_39 g150_39 g151_39 g152_39 g153_39 g154_39 x121_39 x138_39 x139_39 x141_39 x142_39 x143_39 x149_39) else (if l2_39 = 8 then (jn_vm_step_843 nf v98 v121 v138 v139 v141 v142 v143 v149 f152 f150 f151 f109 f100 f153 f154 f102 f148 f144 f110 f104 f105 f145 f146 f147 f106 f108 f107 nS477 fS477  l2_39 l3_39 g144_39 g145_39 g146_39 g147_39 g148_39 g150_39 g151_39 g152_39 g153_39 g154_39 x121_39 x138_39 x139_39 x141_39 x142_39 x143_39 x149_39) else (if l2_39 = 9 then (jn_vm_step_1122 nf v98 v121 v138 v139 v141 v142 v143 v149 f152 f150 f151 f109 f100 f153 f154 f102 f148 f144 f110 f104 f105 f145 f146 f147 f106 f108 f107 nS477 fS477  l1_39 l2_39 l3_39 g144_39 g145_39 g146_39 g147_39 g148_39 g150_39 g151_39 g152_39 g153_39 g154_39 x121_39 x138_39 x139_39 x141_39 x142_39 x143_39 x149_39) else (if l2_39 = 10 then (jn_vm_step_1122 nf v98 v121 v138 v139 v141 v142 v143 v149 f152 f150 f151 f109 f100 f153 f154 f102 f148 f144 f110 f104 f105 f145 f146 f147 f106 f108 f107 nS477 fS477  l1_39 l2_39 l3_39 g144_39 g145_39 g146_39 g147_39 g148_39 g150_39 g151_39 g152_39 g153_39 g154_39 x121_39 x138_39 x139_39 x141_39 x142_39 x143_39 x149_39) else (if l2_39 = 11 then (jn_vm_step_1122 nf v98 v121 v138 v139 v141 v142 v143 v149 f152 f150 f151 f109 f100 f153 f154 f102 f148 f144 f110 f104 f105 f145 f146 f147 f106 f108 f107 nS477 fS477  l1_39 l2_39 l3_39 g144_39 g145_39 g146_39 g147_39 g148_39 g150_39 g151_39 g152_39 g153_39 g154_39 x121_39 x138_39 x139_39 x141_39 x142_39 x143_39 x149_39) else (if l2_39 = 12 then (jn_vm_step_1122 nf v98 v121 v138 v139 v141 v142 v143 v149 f152 f150 f151 f109 f100 f153 f154 f102 f148 f144 f110 f104 f105 f145 f146 f147 f106 f108 f107 nS477 fS477  l1_39 l2_39 l3_39 g144_39 g145_39 g146_39 g147_39 g148_39 g150_39 g151_39 g152_39 g153_39 g154_39 x121_39 x138_39 x139_39 x141_39 x142_39 x143_39 x149_39) else (if l2_39 = 13 then (jn_vm_step_1122 nf v98 v121 v138 v139 v141 v142 v143 v149 f152 f150 f151 f109 f100 f153 f154 f102 f148 f144 f110 f104 f105 f145 f146 f147 f106 f108 f107 nS477 fS477  l1_39 l2_39 l3_39 g144_39 g145_39 g146_39 g147_39 g148_39 g150_39 g151_39 g152_39 g153_39 g154_39 x121_39 x138_39 x139_39 x141_39 x142_39 x143_39 x149_39) else (if l2_39 = 14 then (jn_vm_step_1122 nf v98 v121 v138 v139 v141 v142 v143 v149 f152 f150 f151 f109 f100 f153 f154 f102 f148 f144 f110 f104 f105 f145 f146 f147 f106 f108 f107 nS477 fS477  l1_39 l2_39 l3_39 g144_39 g145_39 g146_39 g147_39 g148_39 g150_39 g151_39 g152_39 g153_39 g154_39 x121_39 x138_39 x139_39 x141_39 x142_39 x143_39 x149_39) else (if l2_39 = 15 then (jn_vm_step_1122 nf v98 v121 v138 v139 v141 v142 v143 v149 f152 f150 f151 f109 f100 f153 f154 f102 f148 f144 f110 f104 f105 f145 f146 f147 f106 f108 f107 nS477 fS477  l1_39 l2_39 l3_39 g144_39 g145_39 g146_39 g147_39 g148_39 g150_39 g151_39 g152_39 g153_39 g154_39 x121_39 x138_39 x139_39 x141_39 x142_39 x143_39 x149_39) else (if l2_39 = 16 then ((sp_tm_give nf ((s0_39 : Int32).toInt8.toInt32) x149_39 g153_39 g154_39).bind (fun p2 => ((sp_tm_on nf l3_39 x149_39 g152_39).bind (fun p3 => (some (g144_39, g145_39, g146_39, g147_39, g148_39, g150_39, g151_39, p3, p2.1, p2.2, x121_39, x138_39, x139_39, x141_39, x142_39, x143_39, x149_39)))))) else (if l2_39 = 17 then (jn_vm_step_1122 nf v98 v121 v138 v139 v141 v142 v143 v149 f152 f150 f151 f109 f100 f153 f154 f102 f148 f144 f110 f104 f105 f145 f146 f147 f106 f108 f107 nS477 fS477  l1_39 l2_39 l3_39 g144_39 g145_39 g146_39 g147_39 g148_39 g150_39 g151_39 g152_39 g153_39 g154_39 x121_39 x138_39 x139_39 x141_39 x142_39 x143_39 x149_39) else (if l2_39 = 18 then ((sp_tn_intOf nf s0_39 x149_39 g150_39 f102 f100).bind (fun p4 => ((sp_tm_give nf p4 x149_39 g153_39 g154_39).bind (fun p5 => ((sp_tm_on nf l3_39 x149_39 g152_39).bind (fun p6 => (some (g144_39, g145_39, g146_39, g147_39, g148_39, g150_39, g151_39, p6, p5.1, p5.2, x121_39, x138_39, x139_39, x141_39, x142_39, x143_39, x149_39)))))))) else (if l2_39 = 19 then (jn_vm_step_1122 nf v98 v121 v138 v139 v141 v142 v143 v149 f152 f150 f151 f109 f100 f153 f154 f102 f148 f144 f110 f104 f105 f145 f146 f147 f106 f108 f107 nS477 fS477  l1_39 l2_39 l3_39 g144_39 g145_39 g146_39 g147_39 g148_39 g150_39 g151_39 g152_39 g153_39 g154_39 x121_39 x138_39 x139_39 x141_39 x142_39 x143_39 x149_39) else (if l2_39 = 20 then (jn_vm_step_1122 nf v98 v121 v138 v139 v141 v142 v143 v149 f152 f150 f151 f109 f100 f153 f154 f102 f148 f144 f110 f104 f105 f145 f146 f147 f106 f108 f107 nS477 fS477  l1_39 l2_39 l3_39 g144_39 g145_39 g146_39 g147_39 g148_39 g150_39 g151_39 g152_39 g153_39 g154_39 x121_39 x138_39 x139_39 x141_39 x142_39 x143_39 x149_39) else (if l2_39 = 21 then (jn_vm_step_876 nf v98 v121 v138 v139 v141 v142 v143 v149 f152 f150 f151 f109 f100 f153 f154 f102 f148 f144 f110 f104 f105 f145 f146 f147 f106 f108 f107 nS477 fS477  l3_39 s0_39 g144_39 g145_39 g146_39 g147_39 g148_39 g150_39 g151_39 g152_39 g153_39 g154_39 x121_39 x138_39 x139_39 x141_39 x142_39 x143_39 x149_39) else (if l2_39 = 22 then (jn_vm_step_1122 nf v98 v121 v138 v139 v141 v142 v143 v149 f152 f150 f151 f109 f100 f153 f154 f102 f148 f144 f110 f104 f105 f145 f146 f147 f106 f108 f107 nS477 fS477  l1_39 l2_39 l3_39 g144_39 g145_39 g146_39 g147_39 g148_39 g150_39 g151_39 g152_39 g153_39 g154_39 x121_39 x138_39 x139_39 x141_39 x142_39 x143_39 x149_39) else (if l2_39 = 23 then (jn_vm_step_1122 nf v98 v121 v138 v139 v141 v142 v143 v149 f152 f150 f151 f109 f100 f153 f154 f102 f148 f144 f110 f104 f105 f145 f146 f147 f106 f108 f107 nS477 fS477  l1_39 l2_39 l3_39 g144_39 g145_39 g146_39 g147_39 g148_39 g150_39 g151_39 g152_39 g153_39 g154_39 x121_39 x138_39 x139_39 x141_39 x142_39 x143_39 x149_39) else (if l2_39 = 24 then (jn_vm_step_1122 nf v98 v121 v138 v139 v141 v142 v143 v149 f152 f150 f151 f109 f100 f153 f154 f102 f148 f144 f110 f104 f105 f145 f146 f147 f106 f108 f107 nS477 fS477  l1_39 l2_39 l3_39 g144_39 g145_39 g146_39 g147_39 g148_39 g150_39 g151_39 g152_39 g153_39 g154_39 x121_39 x138_39 x139_39 x141_39 x142_39 x143_39 x149_39) else (if l2_39 = 25 then (jn_vm_step_876 nf v98 v121 v138 v139 v141 v142 v143 v149 f152 f150 f151 f109 f100 f153 f154 f102 f148 f144 f110 f104 f105 f145 f146 f147 f106 f108 f107 nS477 fS477  l3_39 s0_39 g144_39 g145_39 g146_39 g147_39 g148_39 g150_39 g151_39 g152_39 g153_39 g154_39 x121_39 x138_39 x139_39 x141_39 x142_39 x143_39 x149_39) else (if l2_39 = 26 then (jn_vm_step_1122 nf v98 v121 v138 v139 v141 v142 v143 v149 f152 f150 f151 f109 f100 f153 f154 f102 f148 f144 f110 f104 f105 f145 f146 f147 f106 f108 f107 nS477 fS477  l1_39 l2_39 l3_39 g144_39 g145_39 g146_39 g147_39 g148_39 g150_39 g151_39 g152_39 g153_39 g154_39 x121_39 x138_39 x139_39 x141_39 x142_39 x143_39 x149_39) else (if l2_39 = 27 then (jn_vm_step_1122 nf v98 v121 v138 v139 v141 v142 v143 v149 f152 f150 f151 f109 f100 f153 f154 f102 f148 f144 f110 f104 f105 f145 f146 f147 f106 f108 f107 nS477 fS477  l1_39 l2_39 l3_39 g144_39 g145_39 g146_39 g147_39 g148_39 g150_39 g151_39 g152_39 g153_39 g154_39 x121_39 x138_39 x139_39 x141_39 x142_39 x143_39 x149_39) else (if l2_39 = 28 then (jn_vm_step_1122 nf v98 v121 v138 v139 v141 v142 v143 v149 f152 f150 f151 f109 f100 f153 f154 f102 f148 f144 f110 f104 f105 f145 f146 f147 f106 f108 f107 nS477 fS477  l1_39 l2_39 l3_39 g144_39 g145_39 g146_39 g147_39 g148_39 g150_39 g151_39 g152_39 g153_39 g154_39 x121_39 x138_39 x139_39 x141_39 x142_39 x143_39 x149_39) else (if l2_39 = 29 then (jn_vm_step_1122 nf v98 v121 v138 v139 v141 v142 v143 v149 f152 f150 f151 f109 f100 f153 f154 f102 f148 f144 f110 f104 f105 f145 f146 f147 f106 f108 f107 nS477 fS477  l1_39 l2_39 l3_39 g144_39 g145_39 g146_39 g147_39 g148_39 g150_39 g151_39 g152_39 g153_39 g154_39 x121_39 x138_39 x139_39 x141_39 x142_39 x143_39 x149_39) else (if l2_39 = 30 then (jn_vm_step_1122 nf v98 v121 v138 v139 v141 v142 v143 v149 f152 f150 f151 f109 f100 f153 f154 f102 f148 f144 f110 f104 f105 f145 f146 f147 f106 f108 f107 nS477 fS477  l1_39 l2_39 l3_39 g144_39 g145_39 g146_39 g147_39 g148_39 g150_39 g151_39 g152_39 g153_39 g154_39 x121_39 x138_39 x139_39 x141_39 x142_39 x143_39 x149_39) else (if l2_39 = 31 then (jn_vm_step_1122 nf v98 v121 v138 v139 v141 v142 v143 v149 f152 f150 f151 f109 f100 f153 f154 f102 f148 f144 f110 f104 f105 f145 f146 f147 f106 f108 f107 nS477 fS477  l1_39 l2_39 l3_39 g144_39 g145_39 g146_39 g147_39 g148_39 g150_39 g151_39 g152_39 g153_39 g154_39 x121_39 x138_39 x139_39 x141_39 x142_39 x143_39 x149_39) else (if l2_39 = 32 then (jn_vm_step_1122 nf v98 v121 v138 v139 v141 v142 v143 v149 f152 f150 f151 f109 f100 f153 f154 f102 f148 f144 f110 f104 f105 f145 f146 f147 f106 f108 f107 nS477 fS477  l1_39 l2_39 l3_39 g144_39 g145_39 g146_39 g147_39 g148_39 g150_39 g151_39 g152_39 g153_39 g154_39 x121_39 x138_39 x139_39 x141_39 x142_39 x143_39 x149_39) else (if l2_39 = 33 then (jn_vm_step_1122 nf v98 v121 v138 v139 v141 v142 v143 v149 f152 f150 f151 f109 f100 f153 f154 f102 f148 f144 f110 f104 f105 f145 f146 f147 f106 f108 f107 nS477 fS477  l1_39 l2_39 l3_39 g144_39 g145_39 g146_39 g147_39 g148_39 g150_39 g151_39 g152_39 g153_39 g154_39 x121_39 x138_39 x139_39 x141_39 x142_39 x143_39 x149_39) else (if l2_39 = 34 then (jn_vm_step_1122 nf v98 v121 v138 v139 v141 v142 v143 v149 f152 f150 f151 f109 f100 f153 f154 f102 f148 f144 f110 f104 f105 f145 f146 f147 f106 f108 f107 nS477 fS477  l1_39 l2_39 l3_39 g144_39 g145_39 g146_39 g147_39 g148_39 g150_39 g151_39 g152_39 g153_39 g154_39 x121_39 x138_39 x139_39 x141_39 x142_39 x143_39 x149_39) else (if l2_39 = 35 then (jn_vm_step_1122 nf v98 v121 v138 v139 v141 v142 v143 v149 f152 f150 f151 f109 f100 f153 f154 f102 f148 f144 f110 f104 f105 f145 f146 f147 f106 f108 f107 nS477 fS477  l1_39 l2_39 l3_39 g144_39 g145_39 g146_39 g147_39 g148_39 g150_39 g151_39 g152_39 g153_39 g154_39 x121_39 x138_39 x139_39 x141_39 x142_39 x143_39 x149_39) else (if l2_39 = 36 then (jn_vm_step_1122 nf v98 v121 v138 v139 v141 v142 v143 v149 f152 f150 f151 f109 f100 f153 f154 f102 f148 f144 f110 f104 f105 f145 f146 f147 f106 f108 f107 nS477 fS477  l1_39 l2_39 l3_39 g144_39 g145_39 g146_39 g147_39 g148_39 g150_39 g151_39 g152_39 g153_39 g154_39 x121_39 x138_39 x139_39 x141_39 x142_39 x143_39 x149_39) else (if l2_39 = 37 then (jn_vm_step_1122 nf v98 v121 v138 v139 v141 v142 v143 v149 f152 f150 f151 f109 f100 f153 f154 f102 f148 f144 f110 f104 f105 f145 f146 f147 f106 f108 f107 nS477 fS477  l1_39 l2_39 l3_39 g144_39 g145_39 g146_39 g147_39 g148_39 g150_39 g151_39 g152_39 g153_39 g154_39 x121_39 x138_39 x139_39 x141_39 x142_39 x143_39 x149_39) else (if l2_39 = 38 then (jn_vm_step_1122 nf v98 v121 v138 v139 v141 v142 v143 v149 f152 f150 f151 f109 f100 f153 f154 f102 f148 f144 f110 f104 f105 f145 f146 f147 f106 f108 f107 nS477 fS477  l1_39 l2_39 l3_39 g144_39 g145_39 g146_39 g147_39 g148_39 g150_39 g151_39 g152_39 g153_39 g154_39 x121_39 x138_39 x139_39 x141_39 x142_39 x143_39 x149_39) else (if l2_39 = 39 then (jn_vm_step_1122 nf v98 v121 v138 v139 v141 v142 v143 v149 f152 f150 f151 f109 f100 f153 f154 f102 f148 f144 f110 f104 f105 f145 f146 f147 f106 f108 f107 nS477 fS477  l1_39 l2_39 l3_39 g144_39 g145_39 g146_39 g147_39 g148_39 g150_39 g151_39 g152_39 g153_39 g154_39 x121_39 x138_39 x139_39 x141_39 x142_39 x143_39 x149_39) else (if l2_39 = 40 then (jn_vm_step_1122 nf v98 v121 v138 v139 v141 v142 v143 v149 f152 f150 f151 f109 f100 f153 f154 f102 f148 f144 f110 f104 f105 f145 f146 f147 f106 f108 f107 nS477 fS477  l1_39 l2_39 l3_39 g144_39 g145_39 g146_39 g147_39 g148_39 g150_39 g151_39 g152_39 g153_39 g154_39 x121_39 x138_39 x139_39 x141_39 x142_39 x143_39 x149_39) else (if l2_39 = 41 then (jn_vm_step_1122 nf v98 v121 v138 v139 v141 v142 v143 v149 f152 f150 f151 f109 f100 f153 f154 f102 f148 f144 f110 f104 f105 f145 f146 f147 f106 f108 f107 nS477 fS477  l1_39 l2_39 l3_39 g144_39 g145_39 g146_39 g147_39 g148_39 g150_39 g151_39 g152_39 g153_39 g154_39 x121_39 x138_39 x139_39 x141_39 x142_39 x143_39 x149_39) else (if l2_39 = 42 then (jn_vm_step_1122 nf v98 v121 v138 v139 v141 v142 v143 v149 f152 f150 f151 f109 f100 f153 f154 f102 f148 f144 f110 f104 f105 f145 f146 f147 f106 f108 f107 nS477 fS477  l1_39 l2_39 l3_39 g144_39 g145_39 g146_39 g147_39 g148_39 g150_39 g151_39 g152_39 g153_39 g154_39 x121_39 x138_39 x139_39 x141_39 x142_39 x143_39 x149_39) else (if l2_39 = 43 then (jn_vm_step_1122 nf v98 v121 v138 v139 v141 v142 v143 v149 f152 f150 f151 f109 f100 f153 f154 f102 f148 f144 f110 f104 f105 f145 f146 f147 f106 f108 f107 nS477 fS477  l1_39 l2_39 l3_39 g144_39 g145_39 g146_39 g147_39 g148_39 g150_39 g151_39 g152_39 g153_39 g154_39 x121_39 x138_39 x139_39 x141_39 x142_39 x143_39 x149_39) else (if l2_39 = 44 then (jn_vm_step_1122 nf v98 v121 v138 v139 v141 v142 v143 v149 f152 f150 f151 f109 f100 f153 f154 f102 f148 f144 f110 f104 f105 f145 f146 f147 f106 f108 f107 nS477 fS477  l1_39 l2_39 l3_39 g144_39 g145_39 g146_39 g147_39 g148_39 g150_39 g151_39 g152_39 g153_39 g154_39 x121_39 x138_39 x139_39 x141_39 x142_39 x143_39 x149_39) else (if l2_39 = 45 then (jn_vm_step_1122 nf v98 v121 v138 v139 v141 v142 v143 v149 f152 f150 f151 f109 f100 f153 f154 f102 f148 f144 f110 f104 f105 f145 f146 f147 f106 f108 f107 nS477 fS477  l1_39 l2_39 l3_39 g144_39 g145_39 g146_39 g147_39 g148_39 g150_39 g151_39 g152_39 g153_39 g154_39 x121_39 x138_39 x139_39 x141_39 x142_39 x143_39 x149_39) else (if l2_39 = 46 then (jn_vm_step_958 nf v98 v121 v138 v139 v141 v142 v143 v149 f152 f150 f151 f109 f100 f153 f154 f102 f148 f144 f110 f104 f105 f145 f146 f147 f106 f108 f107 nS477 fS477  l2_39 g144_39 g145_39 g146_39 g147_39 g148_39 g150_39 g151_39 g152_39 g153_39 g154_39 x121_39 x138_39 x139_39 x141_39 x142_39 x143_39 x149_39) else (if l2_39 = 47 then (jn_vm_step_1122 nf v98 v121 v138 v139 v141 v142 v143 v149 f152 f150 f151 f109 f100 f153 f154 f102 f148 f144 f110 f104 f105 f145 f146 f147 f106 f108 f107 nS477 fS477  l1_39 l2_39 l3_39 g144_39 g145_39 g146_39 g147_39 g148_39 g150_39 g151_39 g152_39 g153_39 g154_39 x121_39 x138_39 x139_39 x141_39 x142_39 x143_39 x149_39) else (if l2_39 = 48 then (jn_vm_step_1122 nf v98 v121 v138 v139 v141 v142 v143 v149 f152 f150 f151 f109 f100 f153 f154 f102 f148 f144 f110 f104 f105 f145 f146 f147 f106 f108 f107 nS477 fS477  l1_39 l2_39 l3_39 g144_39 g145_39 g146_39 g147_39 g148_39 g150_39 g151_39 g152_39 g153_39 g154_39 x121_39 x138_39 x139_39 x141_39 x142_39 x143_39 x149_39) else (if l2_39 = 49 then (jn_vm_step_1122 nf v98 v121 v138 v139 v141 v142 v143 v149 f152 f150 f151 f109 f100 f153 f154 f102 f148 f144 f110 f104 f105 f145 f146 f147 f106 f108 f107 nS477 fS477  l1_39 l2_39 l3_39 g144_39 g145_39 g146_39 g147_39 g148_39 g150_39 g151_39 g152_39 g153_39 g154_39 x121_39 x138_39 x139_39 x141_39 x142_39 x143_39 x149_39) else (if l2_39 = 50 then (jn_vm_step_958 nf v98 v121 v138 v139 v141 v142 v143 v149 f152 f150 f151 f109 f100 f153 f154 f102 f148 f144 f110 f104 f105 f145 f146 f147 f106 f108 f107 nS477 fS477  l2_39 g144_39 g145_39 g146_39 g147_39 g148_39 g150_39 g151_39 g152_39 g153_39 g154_39 x121_39 x138_39 x139_39 x141_39 x142_39 x143_39 x149_39) else (if l2_39 = 51 then (jn_vm_step_1122 nf v98 v121 v138 v139 v141 v142 v143 v149 f152 f150 f151 f109 f100 f153 f154 f102 f148 f144 f110 f104 f105 f145 f146 f147 f106 f108 f107 nS477 fS477  l1_39 l2_39 l3_39 g144_39 g145_39 g146_39 g147_39 g148_39 g150_39 g151_39 g152_39 g153_39 g154_39 x121_39 x138_39 x139_39 x141_39 x142_39 x143_39 x149_39) else (if l2_39 = 52 then (jn_vm_step_1122 nf v98 v121 v138 v139 v141 v142 v143 v149 f152 f150 f151 f109 f100 f153 f154 f102 f148 f144 f110 f104 f105 f145 f146 f147 f106 f108 f107 nS477 fS477  l1_39 l2_39 l3_39 g144_39 g145_39 g146_39 g147_39 g148_39 g150_39 g151_39 g152_39 g153_39 g154_39 x121_39 x138_39 x139_39 x141_39 x142_39 x143_39 x149_39) else (if l2_39 = 53 then (jn_vm_step_1122 nf v98 v121 v138 v139 v141 v142 v143 v149 f152 f150 f151 f109 f100 f153 f154 f102 f148 f144 f110 f104 f105 f145 f146 f147 f106 f108 f107 nS477 fS477  l1_39 l2_39 l3_39 g144_39 g145_39 g146_39 g147_39 g148_39 g150_39 g151_39 g152_39 g153_39 g154_39 x121_39 x138_39 x139_39 x141_39 x142_39 x143_39 x149_39) else (if l2_39 = 54 then (jn_vm_step_889 nf v98 v121 v138 v139 v141 v142 v143 v149 f152 f150 f151 f109 f100 f153 f154 f102 f148 f144 f110 f104 f105 f145 f146 f147 f106 f108 f107 nS477 fS477  l3_39 s0_39 g144_39 g145_39 g146_39 g147_39 g148_39 g150_39 g151_39 g152_39 g153_39 g154_39 x121_39 x138_39 x139_39 x141_39 x142_39 x143_39 x149_39) else (if l2_39 = 55 then (jn_vm_step_1122 nf v98 v121 v138 v139 v141 v142 v143 v149 f152 f150 f151 f109 f100 f153 f154 f102 f148 f144 f110 f104 f105 f145 f146 f147 f106 f108 f107 nS477 fS477  l1_39 l2_39 l3_39 g144_39 g145_39 g146_39 g147_39 g148_39 g150_39 g151_39 g152_39 g153_39 g154_39 x121_39 x138_39 x139_39 x141_39 x142_39 x143_39 x149_39) else (if l2_39 = 56 then (jn_vm_step_1122 nf v98 v121 v138 v139 v141 v142 v143 v149 f152 f150 f151 f109 f100 f153 f154 f102 f148 f144 f110 f104 f105 f145 f146 f147 f106 f108 f107 nS477 fS477  l1_39 l2_39 l3_39 g144_39 g145_39 g146_39 g147_39 g148_39 g150_39 g151_39 g152_39 g153_39 g154_39 x121_39 x138_39 x139_39 x141_39 x142_39 x143_39 x149_39) else (if l2_39 = 57 then (jn_vm_step_1122 nf v98 v121 v138 v139 v141 v142 v143 v149 f152 f150 f151 f109 f100 f153 f154 f102 f148 f144 f110 f104 f105 f145 f146 f147 f106 f108 f107 nS477 fS477  l1_39 l2_39 l3_39 g144_39 g145_39 g146_39 g147_39 g148_39 g150_39 g151_39 g152_39 g153_39 g154_39 x121_39 x138_39 x139_39 x141_39 x142_39 x143_39 x149_39) else (if l2_39 = 58 then (jn_vm_step_889 nf v98 v121 v138 v139 v141 v142 v143 v149 f152 f150 f151 f109 f100 f153 f154 f102 f148 f144 f110 f104 f105 f145 f146 f147 f106 f108 f107 nS477 fS477  l3_39 s0_39 g144_39 g145_39 g146_39 g147_39 g148_39 g150_39 g151_39 g152_39 g153_39 g154_39 x121_39 x138_39 x139_39 x141_39 x142_39 x143_39 x149_39) else (if l2_39 = 59 then (jn_vm_step_1122 nf v98 v121 v138 v139 v141 v142 v143 v149 f152 f150 f151 f109 f100 f153 f154 f102 f148 f144 f110 f104 f105 f145 f146 f147 f106 f108 f107 nS477 fS477  l1_39 l2_39 l3_39 g144_39 g145_39 g146_39 g147_39 g148_39 g150_39 g151_39 g152_39 g153_39 g154_39 x121_39 x138_39 x139_39 x141_39 x142_39 x143_39 x149_39) else (if l2_39 = 60 then (jn_vm_step_1122 nf v98 v121 v138 v139 v141 v142 v143 v149 f152 f150 f151 f109 f100 f153 f154 f102 f148 f144 f110 f104 f105 f145 f146 f147 f106 f108 f107 nS477 fS477  l1_39 l2_39 l3_39 g144_39 g145_39 g146_39 g147_39 g148_39 g150_39 g151_39 g152_39 g153_39 g154_39 x121_39 x138_39 x139_39 x141_39 x142_39 x143_39 x149_39) else (if l2_39 = 61 then (jn_vm_step_1122 nf v98 v121 v138 v139 v141 v142 v143 v149 f152 f150 f151 f109 f100 f153 f154 f102 f148 f144 f110 f104 f105 f145 f146 f147 f106 f108 f107 nS477 fS477  l1_39 l2_39 l3_39 g144_39 g145_39 g146_39 g147_39 g148_39 g150_39 g151_39 g152_39 g153_39 g154_39 x121_39 x138_39 x139_39 x141_39 x142_39 x143_39 x149_39) else (if l2_39 = 62 then (jn_vm_step_1122 nf v98 v121 v138 v139 v141 v142 v143 v149 f152 f150 f151 f109 f100 f153 f154 f102 f148 f144 f110 f104 f105 f145 f146 f147 f106 f108 f107 nS477 fS477  l1_39 l2_39 l3_39 g144_39 g145_39 g146_39 g147_39 g148_39 g150_39 g151_39 g152_39 g153_39 g154_39 x121_39 x138_39 x139_39 x141_39 x142_39 x143_39 x149_39) else (if l2_39 = 63 then (jn_vm_step_1122 nf v98 v121 v138 v139 v141 v142 v143 v149 f152 f150 f151 f109 f100 f153 f154 f102 f148 f144 f110 f104 f105 f145 f146 f147 f106 f108 f107 nS477 fS477  l1_39 l2_39 l3_39 g144_39 g145_39 g146_39 g147_39 g148_39 g150_39 g151_39 g152_39 g153_39 g154_39 x121_39 x138_39 x139_39 x141_39 x142_39 x143_39 x149_39) else (if l2_39 = 64 then (jn_vm_step_1122 nf v98 v121 v138 v139 v141 v142 v143 v149 f152 f150 f151 f109 f100 f153 f154 f102 f148 f144 f110 f104 f105 f145 f146 f147 f106 f108 f107 nS477 fS477  l1_39 l2_39 l3_39 g144_39 g145_39 g146_39 g147_39 g148_39 g150_39 g151_39 g152_39 g153_39 g154_39 x121_39 x138_39 x139_39 x141_39 x142_39 x143_39 x149_39) else (if l2_39 = 65 then (jn_vm_step_1122 nf v98 v121 v138 v139 v141 v142 v143 v149 f152 f150 f151 f109 f100 f153 f154 f102 f148 f144 f110 f104 f105 f145 f146 f147 f106 f108 f107 nS477 fS477  l1_39 l2_39 l3_39 g144_39 g145_39 g146_39 g147_39 g148_39 g150_39 g151_39 g152_39 g153_39 g154_39 x121_39 x138_39 x139_39 x141_39 x142_39 x143_39 x149_39) else (if l2_39 = 66 then (jn_vm_step_1122 nf v98 v121 v138 v139 v141 v142 v143 v149 f152 f150 f151 f109 f100 f153 f154 f102 f148 f144 f110 f104 f105 f145 f146 f147 f106 f108 f107 nS477 fS477  l1_39 l2_39 l3_39 g144_39 g145_39 g146_39 g147_39 g148_39 g150_39 g151_39 g152_39 g153_39 g154_39 x121_39 x138_39 x139_39 x141_39 x142_39 x143_39 x149_39) else (if l2_39 = 67 then (jn_vm_step_1122 nf v98 v121 v138 v139 v141 v142 v143 v149 f152 f150 f151 f109 f100 f153 f154 f102 f148 f144 f110 f104 f105 f145 f146 f147 f106 f108 f107 nS477 fS477  l1_39 l2_39 l3_39 g144_39 g145_39 g146_39 g147_39 g148_39 g150_39 g151_39 g152_39 g153_39 g154_39 x121_39 x138_39 x139_39 x141_39 x142_39 x143_39 x149_39) else (if l2_39 = 68 then (jn_vm_step_1122 nf v98 v121 v138 v139 v141 v142 v143 v149 f152 f150 f151 f109 f100 f153 f154 f102 f148 f144 f110 f104 f105 f145 f146 f147 f106 f108 f107 nS477 fS477  l1_39 l2_39 l3_39 g144_39 g145_39 g146_39 g147_39 g148_39 g150_39 g151_39 g152_39 g153_39 g154_39 x121_39 x138_39 x139_39 x141_39 x142_39 x143_39 x149_39) else (if l2_39 = 69 then (jn_vm_step_1122 nf v98 v121 v138 v139 v141 v142 v143 v149 f152 f150 f151 f109 f100 f153 f154 f102 f148 f144 f110 f104 f105 f145 f146 f147 f106 f108 f107 nS477 fS477  l1_39 l2_39 l3_39 g144_39 g145_39 g146_39 g147_39 g148_39 g150_39 g151_39 g152_39 g153_39 g154_39 x121_39 x138_39 x139_39 x141_39 x142_39 x143_39 x149_39) else (if l2_39 = 70 then (jn_vm_step_1122 nf v98 v121 v138 v139 v141 v142 v143 v149 f152 f150 f151 f109 f100 f153 f154 f102 f148 f144 f110 f104 f105 f145 f146 f147 f106 f108 f107 nS477 fS477  l1_39 l2_39 l3_39 g144_39 g145_39 g146_39 g147_39 g148_39 g150_39 g151_39 g152_39 g153_39 g154_39 x121_39 x138_39 x139_39 x141_39 x142_39 x143_39 x149_39) else (if l2_39 = 71 then (jn_vm_step_1122 nf v98 v121 v138 v139 v141 v142 v143 v149 f152 f150 f151 f109 f100 f153 f154 f102 f148 f144 f110 f104 f105 f145 f146 f147 f106 f108 f107 nS477 fS477  l1_39 l2_39 l3_39 g144_39 g145_39 g146_39 g147_39 g148_39 g150_39 g151_39 g152_39 g153_39 g154_39 x121_39 x138_39 x139_39 x141_39 x142_39 x143_39 x149_39) else (if l2_39 = 72 then (jn_vm_step_1122 nf v98 v121 v138 v139 v141 v142 v143 v149 f152 f150 f151 f109 f100 f153 f154 f102 f148 f144 f110 f104 f105 f145 f146 f147 f106 f108 f107 nS477 fS477  l1_39 l2_39 l3_39 g144_39 g145_39 g146_39 g147_39 g148_39 g150_39 g151_39 g152_39 g153_39 g154_39 x121_39 x138_39 x139_39 x141_39 x142_39 x143_39 x149_39) else (if l2_39 = 73 then (jn_vm_step_1122 nf v98 v121 v138 v139 v141 v142 v143 v149 f152 f150 f151 f109 f100 f153 f154 f102 f148 f144 f110 f104 f105 f145 f146 f147 f106 f108 f107 nS477 fS477  l1_39 l2_39 l3_39 g144_39 g145_39 g146_39 g147_39 g148_39 g150_39 g151_39 g152_39 g153_39 g154_39 x121_39 x138_39 x139_39 x141_39 x142_39 x143_39 x149_39) else (if l2_39 = 74 then (jn_vm_step_1122 nf v98 v121 v138 v139 v141 v142 v143 v149 f152 f150 f151 f109 f100 f153 f154 f102 f148 f144 f110 f104 f105 f145 f146 f147 f106 f108 f107 nS477 fS477  l1_39 l2_39 l3_39 g144_39 g145_39 g146_39 g147_39 g148_39 g150_39 g151_39 g152_39 g153_39 g154_39 x121_39 x138_39 x139_39 x141_39 x142_39 x143_39 x149_39) else (if l2_39 = 75 then (jn_vm_step_1122 nf v98 v121 v138 v139 v141 v142 v143 v149 f152 f150 f151 f109 f100 f153 f154 f102 f148 f144 f110 f104 f105 f145 f146 f147 f106 f108 f107 nS477 fS477  l1_39 l2_39 l3_39 g144_39 g145_39 g146_39 g147_39 g148_39 g150_39 g151_39 g152_39 g153_39 g154_39 x121_39 x138_39 x139_39 x141_39 x142_39 x143_39 x149_39) else (if l2_39 = 76 then (jn_vm_step_1122 nf v98 v121 v138 v139 v141 v142 v143 v149 f152 f150 f151 f109 f100 f153 f154 f102 f148 f144 f110 f104 f105 f145 f146 f147 f106 f108 f107 nS477 fS477  l1_39 l2_39 l3_39 g144_39 g145_39 g146_39 g147_39 g148_39 g150_39 g151_39 g152_39 g153_39 g154_39 x121_39 x138_39 x139_39 x141_39 x142_39 x143_39 x149_39) else (if l2_39 = 77 then (jn_vm_step_1122 nf v98 v121 v138 v139 v141 v142 v143 v149 f152 f150 f151 f109 f100 f153 f154 f102 f148 f144 f110 f104 f105 f145 f146 f147 f106 f108 f107 nS477 fS477  l1_39 l2_39 l3_39 g144_39 g145_39 g146_39 g147_39 g148_39 g150_39 g151_39 g152_39 g153_39 g154_39 x121_39 x138_39 x139_39 x141_39 x142_39 x143_39 x149_39) else (if l2_39 = 78 then (jn_vm_step_1122 nf v98 v121 v138 v139 v141 v142 v143 v149 f152 f150 f151 f109 f100 f153 f154 f102 f148 f144 f110 f104 f105 f145 f146 f147 f106 f108 f107 nS477 fS477  l1_39 l2_39 l3_39 g144_39 g145_39 g146_39 g147_39 g148_39 g150_39 g151_39 g152_39 g153_39 g154_39 x121_39 x138_39 x139_39 x141_39 x142_39 x143_39 x149_39) else (if l2_39 = 79 then (jn_vm_step_958 nf v98 v121 v138 v139 v141 v142 v143 v149 f152 f150 f151 f109 f100 f153 f154 f102 f148 f144 f110 f104 f105 f145 f146 f147 f106 f108 f107 nS477 fS477  l2_39 g144_39 g145_39 g146_39 g147_39 g148_39 g150_39 g151_39 g152_39 g153_39 g154_39 x121_39 x138_39 x139_39 x141_39 x142_39 x143_39 x149_39) else (if l2_39 = 80 then (jn_vm_step_1122 nf v98 v121 v138 v139 v141 v142 v143 v149 f152 f150 f151 f109 f100 f153 f154 f102 f148 f144 f110 f104 f105 f145 f146 f147 f106 f108 f107 nS477 fS477  l1_39 l2_39 l3_39 g144_39 g145_39 g146_39 g147_39 g148_39 g150_39 g151_39 g152_39 g153_39 g154_39 x121_39 x138_39 x139_39 x141_39 x142_39 x143_39 x149_39) else (if l2_39 = 81 then (jn_vm_step_1122 nf v98 v121 v138 v139 v141 v142 v143 v149 f152 f150 f151 f109 f100 f153 f154 f102 f148 f144 f110 f104 f105 f145 f146 f147 f106 f108 f107 nS477 fS477  l1_39 l2_39 l3_39 g144_39 g145_39 g146_39 g147_39 g148_39 g150_39 g151_39 g152_39 g153_39 g154_39 x121_39 x138_39 x139_39 x141_39 x142_39 x143_39 x149_39) else (if l2_39 = 82 then (jn_vm_step_1122 nf v98 v121 v138 v139 v141 v142 v143 v149 f152 f150 f151 f109 f100 f153 f154 f102 f148 f144 f110 f104 f105 f145 f146 f147 f106 f108 f107 nS477 fS477  l1_39 l2_39 l3_39 g144_39 g145_39 g146_39 g147_39 g148_39 g150_39 g151_39 g152_39 g153_39 g154_39 x121_39 x138_39 x139_39 x141_39 x142_39 x143_39 x149_39) else (if l2_39 = 83 then (jn_vm_step_958 nf v98 v121 v138 v139 v141 v142 v143 v149 f152 f150 f151 f109 f100 f153 f154 f102 f148 f144 f110 f104 f105 f145 f146 f147 f106 f108 f107 nS477 fS477  l2_39 g144_39 g145_39 g146_39 g147_39 g148_39 g150_39 g151_39 g152_39 g153_39 g154_39 x121_39 x138_39 x139_39 x141_39 x142_39 x143_39 x149_39) else (if l2_39 = 84 then (jn_vm_step_1122 nf v98 v121 v138 v139 v141 v142 v143 v149 f152 f150 f151 f109 f100 f153 f154 f102 f148 f144 f110 f104 f105 f145 f146 f147 f106 f108 f107 nS477 fS477  l1_39 l2_39 l3_39 g144_39 g145_39 g146_39 g147_39 g148_39 g150_39 g151_39 g152_39 g153_39 g154_39 x121_39 x138_39 x139_39 x141_39 x142_39 x143_39 x149_39) else (if l2_39 = 85 then (jn_vm_step_1122 nf v98 v121 v138 v139 v141 v142 v143 v149 f152 f150 f151 f109 f100 f153 f154 f102 f148 f144 f110 f104 f105 f145 f146 f147 f106 f108 f107 nS477 fS477  l1_39 l2_39 l3_39 g144_39 g145_39 g146_39 g147_39 g148_39 g150_39 g151_39 g152_39 g153_39 g154_39 x121_39 x138_39 x139_39 x141_39 x142_39 x143_39 x149_39) else (if l2_39 = 86 then (jn_vm_step_1122 nf v98 v121 v138 v139 v141 v142 v143 v149 f152 f150 f151 f109 f100 f153 f154 f102 f148 f144 f110 f104 f105 f145 f146 f147 f106 f108 f107 nS477 fS477  l1_39 l2_39 l3_39 g144_39 g145_39 g146_39 g147_39 g148_39 g150_39 g151_39 g152_39 g153_39 g154_39 x121_39 x138_39 x139_39 x141_39 x142_39 x143_39 x149_39) else (if l2_39 = 87 then ((sp_tm_drop nf x149_39 g153_39 g154_39).bind (fun p7 => ((sp_tm_on nf l3_39 x149_39 g152_39).bind (fun p8 => (some (g144_39, g145_39, g146_39, g147_39, g148_39, g150_39, g151_39, p8, p7.2, g154_39, x121_39, x138_39, x139_39, x141_39, x142_39, x143_39, x149_39)))))) else (if l2_39 = 88 then (jn_vm_step_1122 nf v98 v121 v138 v139 v141 v142 v143 v149 f152 f150 f151 f109 f100 f153 f154 f102 f148 f144 f110 f104 f105 f145 f146 f147 f106 f108 f107 nS477 fS477  l1_39 l2_39 l3_39 g144_39 g145_39 g146_39 g147_39 g148_39 g150_39 g151_39 g152_39 g153_39 g154_39 x121_39 x138_39 x139_39 x141_39 x142_39 x143_39 x149_39) else (if l2_39 = 89 then ((sp_tm_drop nf x149_39 g153_39 g154_39).bind (fun p9 => ((sp_tm_give nf p9.1 x149_39 p9.2 g154_39).bind (fun p10 => ((sp_tm_give nf p9.1 x149_39 p10.1 p10.2).bind (fun p11 => ((sp_tm_on nf l3_39 x149_39 g152_39).bind (fun p12 => (some (g144_39, g145_39, g146_39, g147_39, g148_39, g150_39, g151_39, p12, p11.1, p11.2, x121_39, x138_39, x139_39, x141_39, x142_39, x143_39, x149_39)))))))))) else (if l2_39 = 90 then (jn_vm_step_1122 nf v98 v121 v138 v139 v141 v142 v143 v149 f152 f150 f151 f109 f100 f153 f154 f102 f148 f144 f110 f104 f105 f145 f146 f147 f106 f108 f107 nS477 fS477  l1_39 l2_39 l3_39 g144_39 g145_39 g146_39 g147_39 g148_39 g150_39 g151_39 g152_39 g153_39 g154_39 x121_39 x138_39 x139_39 x141_39 x142_39 x143_39 x149_39) else (if l2_39 = 91 then (jn_vm_step_1122 nf v98 v121 v138 v139 v141 v142 v143 v149 f152 f150 f151 f109 f100 f153 f154 f102 f148 f144 f110 f104 f105 f145 f146 f147 f106 f108 f107 nS477 fS477  l1_39 l2_39 l3_39 g144_39 g145_39 g146_39 g147_39 g148_39 g150_39 g151_39 g152_39 g153_39 g154_39 x121_39 x138_39 x139_39 x141_39 x142_39 x143_39 x149_39) else (if l2_39 = 92 then (jn_vm_step_1122 nf v98 v121 v138 v139 v141 v142 v143 v149 f152 f150 f151 f109 f100 f153 f154 f102 f148 f144 f110 f104 f105 f145 f146 f147 f106 f108 f107 nS477 fS477  l1_39 l2_39 l3_39 g144_39 g145_39 g146_39 g147_39 g148_39 g150_39 g151_39 g152_39 g153_39 g154_39 x121_39 x138_39 x139_39 x141_39 x142_39 x143_39 x149_39) else (if l2_39 = 93 then (jn_vm_step_1122 nf v98 v121 v138 v139 v141 v142 v143 v149 f152 f150 f151 f109 f100 f153 f154 f102 f148 f144 f110 f104 f105 f145 f146 f147 f106 f108 f107 nS477 fS477  l1_39 l2_39 l3_39 g144_39 g145_39 g146_39 g147_39 g148_39 g150_39 g151_39 g152_39 g153_39 g154_39 x121_39 x138_39 x139_39 x141_39 x142_39 x143_39 x149_39) else (if l2_39 = 94 then (jn_vm_step_1122 nf v98 v121 v138 v139 v141 v142 v143 v149 f152 f150 f151 f109 f100 f153 f154 f102 f148 f144 f110 f104 f105 f145 f146 f147 f106 f108 f107 nS477 fS477  l1_39 l2_39 l3_39 g144_39 g145_39 g146_39 g147_39 g148_39 g150_39 g151_39 g152_39 g153_39 g154_39 x121_39 x138_39 x139_39 x141_39 x142_39 x143_39 x149_39) else (if l2_39 = 95 then (jn_vm_step_1122 nf v98 v121 v138 v139 v141 v142 v143 v149 f152 f150 f151 f109 f100 f153 f154 f102 f148 f144 f110 f104 f105 f145 f146 f147 f106 f108 f107 nS477 fS477  l1_39 l2_39 l3_39 g144_39 g145_39 g146_39 g147_39 g148_39 g150_39 g151_39 g152_39 g153_39 g154_39 x121_39 x138_39 x139_39 x141_39 x142_39 x143_39 x149_39) else (if l2_39 = 96 then (jn_vm_step_964 nf v98 v121 v138 v139 v141 v142 v143 v149 f152 f150 f151 f109 f100 f153 f154 f102 f148 f144 f110 f104 f105 f145 f146 f147 f106 f108 f107 nS477 fS477  l2_39 l3_39 g144_39 g145_39 g146_39 g147_39 g148_39 g150_39 g151_39 g152_39 g153_39 g154_39 x121_39 x138_39 x139_39 x141_39 x142_39 x143_39 x149_39) else (if l2_39 = 97 then (jn_vm_step_1122 nf v98 v121 v138 v139 v141 v142 v143 v149 f152 f150 f151 f109 f100 f153 f154 f102 f148 f144 f110 f104 f105 f145 f146 f147 f106 f108 f107 nS477 fS477  l1_39 l2_39 l3_39 g144_39 g145_39 g146_39 g147_39 g148_39 g150_39 g151_39 g152_39 g153_39 g154_39 x121_39 x138_39 x139_39 x141_39 x142_39 x143_39 x149_39) else (if l2_39 = 98 then (jn_vm_step_1122 nf v98 v121 v138 v139 v141 v142 v143 v149 f152 f150 f151 f109 f100 f153 f154 f102 f148 f144 f110 f104 f105 f145 f146 f147 f106 f108 f107 nS477 fS477  l1_39 l2_39 l3_39 g144_39 g145_39 g146_39 g147_39 g148_39 g150_39 g151_39 g152_39 g153_39 g154_39 x121_39 x138_39 x139_39 x141_39 x142_39 x143_39 x149_39) else (if l2_39 = 99 then (jn_vm_step_1122 nf v98 v121 v138 v139 v141 v142 v143 v149 f152 f150 f151 f109 f100 f153 f154 f102 f148 f144 f110 f104 f105 f145 f146 f147 f106 f108 f107 nS477 fS477  l1_39 l2_39 l3_39 g144_39 g145_39 g146_39 g147_39 g148_39 g150_39 g151_39 g152_39 g153_39 g154_39 x121_39 x138_39 x139_39 x141_39 x142_39 x143_39 x149_39) else (if l2_39 = 100 then (jn_vm_step_964 nf v98 v121 v138 v139 v141 v142 v143 v149 f152 f150 f151 f109 f100 f153 f154 f102 f148 f144 f110 f104 f105 f145 f146 f147 f106 f108 f107 nS477 fS477  l2_39 l3_39 g144_39 g145_39 g146_39 g147_39 g148_39 g150_39 g151_39 g152_39 g153_39 g154_39 x121_39 x138_39 x139_39 x141_39 x142_39 x143_39 x149_39) else (if l2_39 = 101 then (jn_vm_step_1122 nf v98 v121 v138 v139 v141 v142 v143 v149 f152 f150 f151 f109 f100 f153 f154 f102 f148 f144 f110 f104 f105 f145 f146 f147 f106 f108 f107 nS477 fS477  l1_39 l2_39 l3_39 g144_39 g145_39 g146_39 g147_39 g148_39 g150_39 g151_39 g152_39 g153_39 g154_39 x121_39 x138_39 x139_39 x141_39 x142_39 x143_39 x149_39) else (if l2_39 = 102 then (jn_vm_step_1122 nf v98 v121 v138 v139 v141 v142 v143 v149 f152 f150 f151 f109 f100 f153 f154 f102 f148 f144 f110 f104 f105 f145 f146 f147 f106 f108 f107 nS477 fS477  l1_39 l2_39 l3_39 g144_39 g145_39 g146_39 g147_39 g148_39 g150_39 g151_39 g152_39 g153_39 g154_39 x121_39 x138_39 x139_39 x141_39 x142_39 x143_39 x149_39) else (if l2_39 = 103 then (jn_vm_step_1122 nf v98 v121 v138 v139 v141 v142 v143 v149 f152 f150 f151 f109 f100 f153 f154 f102 f148 f144 f110 f104 f105 f145 f146 f147 f106 f108 f107 nS477 fS477  l1_39 l2_39 l3_39 g144_39 g145_39 g146_39 g147_39 g148_39 g150_39 g151_39 g152_39 g153_39 g154_39 x121_39 x138_39 x139_39 x141_39 x142_39 x143_39 x149_39) else (if l2_39 = 104 then (jn_vm_step_964 nf v98 v121 v138 v139 v141 v142 v143 v149 f152 f150 f151 f109 f100 f153 f154 f102 f148 f144 f110 f104 f105 f145 f146 f147 f106 f108 f107 nS477 fS477  l2_39 l3_39 g144_39 g145_39 g146_39 g147_39 g148_39 g150_39 g151_39 g152_39 g153_39 g154_39 x121_39 x138_39 x139_39 x141_39 x142_39 x143_39 x149_39) else (if l2_39 = 105 then (jn_vm_step_1122 nf v98 v121 v138 v139 v141 v142 v143 v149 f152 f150 f151 f109 f100 f153 f154 f102 f148 f144 f110 f104 f105 f145 f146 f147 f106 f108 f107 nS477 fS477  l1_39 l2_39 l3_39 g144_39 g145_39 g146_39 g147_39 g148_39 g150_39 g151_39 g152_39 g153_39 g154_39 x121_39 x138_39 x139_39 x141_39 x142_39 x143_39 x149_39) else (if l2_39 = 106 then (jn_vm_step_1122 nf v98 v121 v138 v139 v141 v142 v143 v149 f152 f150 f151 f109 f100 f153 f154 f102 f148 f144 f110 f104 f105 f145 f146 f147 f106 f108 f107 nS477 fS477  l1_39 l2_39 l3_39 g144_39 g145_39 g146_39 g147_39 g148_39 g150_39 g151_39 g152_39 g153_39 g154_39 x121_39 x138_39 x139_39 x141_39 x142_39 x143_39 x149_39) else (if l2_39 = 107 then (jn_vm_step_1122 nf v98 v121 v138 v139 v141 v142 v143 v149 f152 f150 f151 f109 f100 f153 f154 f102 f148 f144 f110 f104 f105 f145 f146 f147 f106 f108 f107 nS477 fS477  l1_39 l2_39 l3_39 g144_39 g145_39 g146_39 g147_39 g148_39 g150_39 g151_39 g152_39 g153_39 g154_39 x121_39 x138_39 x139_39 x141_39 x142_39 x143_39 x149_39) else (if l2_39 = 108 then (jn_vm_step_964 nf v98 v121 v138 v139 v141 v142 v143 v149 f152 f150 f151 f109 f100 f153 f154 f102 f148 f144 f110 f104 f105 f145 f146 f147 f106 f108 f107 nS477 fS477  l2_39 l3_39 g144_39 g145_39 g146_39 g147_39 g148_39 g150_39 g151_39 g152_39 g153_39 g154_39 x121_39 x138_39 x139_39 x141_39 x142_39 x143_39 x149_39) else (if l2_39 = 109 then (jn_vm_step_1122 nf v98 v121 v138 v139 v141 v142 v143 v149 f152 f150 f151 f109 f100 f153 f154 f102 f148 f144 f110 f104 f105 f145 f146 f147 f106 f108 f107 nS477 fS477  l1_39 l2_39 l3_39 g144_39 g145_39 g146_39 g147_39 g148_39 g150_39 g151_39 g152_39 g153_39 g154_39 x121_39 x138_39 x139_39 x141_39 x142_39 x143_39 x149_39) else (if l2_39 = 110 then (jn_vm_step_1122 nf v98 v121 v138 v139 v141 v142 v143 v149 f152 f150 f151 f109 f100 f153 f154 f102 f148 f144 f110 f104 f105 f145 f146 f147 f106 f108 f107 nS477 fS477  l1_39 l2_39 l3_39 g144_39 g145_39 g146_39 g147_39 g148_39 g150_39 g151_39 g152_39 g153_39 g154_39 x121_39 x138_39 x139_39 x141_39 x142_39 x143_39 x149_39) else (if l2_39 = 111 then (jn_vm_step_1122 nf v98 v121 v138 v139 v141 v142 v143 v149 f152 f150 f151 f109 f100 f153 f154 f102 f148 f144 f110 f104 f105 f145 f146 f147 f106 f108 f107 nS477 fS477  l1_39 l2_39 l3_39 g144_39 g145_39 g146_39 g147_39 g148_39 g150_39 g151_39 g152_39 g153_39 g154_39 x121_39 x138_39 x139_39 x141_39 x142_39 x143_39 x149_39) else (if l2_39 = 112 then (jn_vm_step_964 nf v98 v121 v138 v139 v141 v142 v143 v149 f152 f150 f151 f109 f100 f153 f154 f102 f148 f144 f110 f104 f105 f145 f146 f147 f106 f108 f107 nS477 fS477  l2_39 l3_39 g144_39 g145_39 g146_39 g147_39 g148_39 g150_39 g151_39 g152_39 g153_39 g154_39 x121_39 x138_39 x139_39 x141_39 x142_39 x143_39 x149_39) else (if l2_39 = 113 then (jn_vm_step_1122 nf v98 v121 v138 v139 v141 v142 v143 v149 f152 f150 f151 f109 f100 f153 f154 f102 f148 f144 f110 f104 f105 f145 f146 f147 f106 f108 f107 nS477 fS477  l1_39 l2_39 l3_39 g144_39 g145_39 g146_39 g147_39 g148_39 g150_39 g151_39 g152_39 g153_39 g154_39 x121_39 x138_39 x139_39 x141_39 x142_39 x143_39 x149_39) else (if l2_39 = 114 then (jn_vm_step_1122 nf v98 v121 v138 v139 v141 v142 v143 v149 f152 f150 f151 f109 f100 f153 f154 f102 f148 f144 f110 f104 f105 f145 f146 f147 f106 f108 f107 nS477 fS477  l1_39 l2_39 l3_39 g144_39 g145_39 g146_39 g147_39 g148_39 g150_39 g151_39 g152_39 g153_39 g154_39 x121_39 x138_39 x139_39 x141_39 x142_39 x143_39 x149_39) else (if l2_39 = 115 then (jn_vm_step_1122 nf v98 v121 v138 v139 v141 v142 v143 v149 f152 f150 f151 f109 f100 f153 f154 f102 f148 f144 f110 f104 f105 f145 f146 f147 f106 f108 f107 nS477 fS477  l1_39 l2_39 l3_39 g144_39 g145_39 g146_39 g147_39 g148_39 g150_39 g151_39 g152_39 g153_39 g154_39 x121_39 x138_39 x139_39 x141_39 x142_39 x143_39 x149_39) else (if l2_39 = 116 then ((sp_tm_drop nf x149_39 g153_39 g154_39).bind (fun p13 => ((sp_tm_give nf (-p13.1) x149_39 p13.2 g154_39).bind (fun p14 => ((sp_tm_on nf l3_39 x149_39 g152_39).bind (fun p15 => (some (g144_39, g145_39, g146_39, g147_39, g148_39, g150_39, g151_39, p15, p14.1, p14.2, x121_39, x138_39, x139_39, x141_39, x142_39, x143_39, x149_39)))))))) else (if l2_39 = 117 then (jn_vm_step_1122 nf v98 v121 v138 v139 v141 v142 v143 v149 f152 f150 f151 f109 f100 f153 f154 f102 f148 f144 f110 f104 f105 f145 f146 f147 f106 f108 f107 nS477 fS477  l1_39 l2_39 l3_39 g144_39 g145_39 g146_39 g147_39 g148_39 g150_39 g151_39 g152_39 g153_39 g154_39 x121_39 x138_39 x139_39 x141_39 x142_39 x143_39 x149_39) else (if l2_39 = 118 then (jn_vm_step_1122 nf v98 v121 v138 v139 v141 v142 v143 v149 f152 f150 f151 f109 f100 f153 f154 f102 f148 f144 f110 f104 f105 f145 f146 f147 f106 f108 f107 nS477 fS477  l1_39 l2_39 l3_39 g144_39 g145_39 g146_39 g147_39 g148_39 g150_39 g151_39 g152_39 g153_39 g154_39 x121_39 x138_39 x139_39 x141_39 x142_39 x143_39 x149_39) else (if l2_39 = 119 then (jn_vm_step_1122 nf v98 v121 v138 v139 v141 v142 v143 v149 f152 f150 f151 f109 f100 f153 f154 f102 f148 f144 f110 f104 f105 f145 f146 f147 f106 f108 f107 nS477 fS477  l1_39 l2_39 l3_39 g144_39 g145_39 g146_39 g147_39 g148_39 g150_39 g151_39 g152_39 g153_39 g154_39 x121_39 x138_39 x139_39 x141_39 x142_39 x143_39 x149_39) else (if l2_39 = 120 then (jn_vm_step_964 nf v98 v121 v138 v139 v141 v142 v143 v149 f152 f150 f151 f109 f100 f153 f154 f102 f148 f144 f110 f104 f105 f145 f146 f147 f106 f108 f107 nS477 fS477  l2_39 l3_39 g144_39 g145_39 g146_39 g147_39 g148_39 g150_39 g151_39 g152_39 g153_39 g154_39 x121_39 x138_39 x139_39 x141_39 x142_39 x143_39 x149_39) else (if l2_39 = 121 then (jn_vm_step_1122 nf v98 v121 v138 v139 v141 v142 v143 v149 f152 f150 f151 f109 f100 f153 f154 f102 f148 f144 f110 f104 f105 f145 f146 f147 f106 f108 f107 nS477 fS477  l1_39 l2_39 l3_39 g144_39 g145_39 g146_39 g147_39 g148_39 g150_39 g151_39 g152_39 g153_39 g154_39 x121_39 x138_39 x139_39 x141_39 x142_39 x143_39 x149_39) else (if l2_39 = 122 then (jn_vm_step_964 nf v98 v121 v138 v139 v141 v142 v143 v149 f152 f150 f151 f109 f100 f153 f154 f102 f148 f144 f110 f104 f105 f145 f146 f147 f106 f108 f107 nS477 fS477  l2_39 l3_39 g144_39 g145_39 g146_39 g147_39 g148_39 g150_39 g151_39 g152_39 g153_39 g154_39 x121_39 x138_39 x139_39 x141_39 x142_39 x143_39 x149_39) else (if l2_39 = 123 then (jn_vm_step_1122 nf v98 v121 v138 v139 v141 v142 v143 v149 f152 f150 f151 f109 f100 f153 f154 f102 f148 f144 f110 f104 f105 f145 f146 f147 f106 f108 f107 nS477 fS477  l1_39 l2_39 l3_39 g144_39 g145_39 g146_39 g147_39 g148_39 g150_39 g151_39 g152_39 g153_39 g154_39 x121_39 x138_39 x139_39 x141_39 x142_39 x143_39 x149_39) else (if l2_39 = 124 then (jn_vm_step_964 nf v98 v121 v138 v139 v141 v142 v143 v149 f152 f150 f151 f109 f100 f153 f154 f102 f148 f144 f110 f104 f105 f145 f146 f147 f106 f108 f107 nS477 fS477  l2_39 l3_39 g144_39 g145_39 g146_39 g147_39 g148_39 g150_39 g151_39 g152_39 g153_39 g154_39 x121_39 x138_39 x139_39 x141_39 x142_39 x143_39 x149_39) else (if l2_39 = 125 then (jn_vm_step_1122 nf v98 v121 v138 v139 v141 v142 v143 v149 f152 f150 f151 f109 f100 f153 f154 f102 f148 f144 f110 f104 f105 f145 f146 f147 f106 f108 f107 nS477 fS477  l1_39 l2_39 l3_39 g144_39 g145_39 g146_39 g147_39 g148_39 g150_39 g151_39 g152_39 g153_39 g154_39 x121_39 x138_39 x139_39 x141_39 x142_39 x143_39 x149_39) else (if l2_39 = 126 then (jn_vm_step_964 nf v98 v121 v138 v139 v141 v142 v143 v149 f152 f150 f151 f109 f100 f153 f154 f102 f148 f144 f110 f104 f105 f145 f146 f147 f106 f108 f107 nS477 fS477  l2_39 l3_39 g144_39 g145_39 g146_39 g147_39 g148_39 g150_39 g151_39 g152_39 g153_39 g154_39 x121_39 x138_39 x139_39 x141_39 x142_39 x143_39 x149_39) else (if l2_39 = 127 then (jn_vm_step_1122 nf v98 v121 v138 v139 v141 v142 v143 v149 f152 f150 f151 f109 f100 f153 f154 f102 f148 f144 f110 f104 f105 f145 f146 f147 f106 f108 f107 nS477 fS477  l1_39 l2_39 l3_39 g144_39 g145_39 g146_39 g147_39 g148_39 g150_39 g151_39 g152_39 g153_39 g154_39 x121_39 x138_39 x139_39 x141_39 x142_39 x143_39 x149_39) else (if l2_39 = 128 then (jn_vm_step_964 nf v98 v121 v138 v139 v141 v142 v143 v149 f152 f150 f151 f109 f100 f153 f154 f102 f148 f144 f110 f104 f105 f145 f146 f147 f106 f108 f107 nS477 fS477  l2_39 l3_39 g144_39 g145_39 g146_39 g147_39 g148_39 g150_39 g151_39 g152_39 g153_39 g154_39 x121_39 x138_39 x139_39 x141_39 x142_39 x143_39 x149_39) else (if l2_39 = 129 then (jn_vm_step_1122 nf v98 v121 v138 v139 v141 v142 v143 v149 f152 f150 f151 f109 f100 f153 f154 f102 f148 f144 f110 f104 f105 f145 f146 f147 f106 f108 f107 nS477 fS477  l1_39 l2_39 l3_39 g144_39 g145_39 g146_39 g147_39 g148_39 g150_39 g151_39 g152_39 g153_39 g154_39 x121_39 x138_39 x139_39 x141_39 x142_39 x143_39 x149_39) else (if l2_39 = 130 then (jn_vm_step_964 nf v98 v121 v138 v139 v141 v142 v143 v149 f152 f150 f151 f109 f100 f153 f154 f102 f148 f144 f110 f104 f105 f145 f146 f147 f106 f108 f107 nS477 fS477  l2_39 l3_39 g144_39 g145_39 g146_39 g147_39 g148_39 g150_39 g151_39 g152_39 g153_39 g154_39 x121_39 x138_39 x139_39 x141_39 x142_39 x143_39 x149_39) else (if l2_39 = 131 then (jn_vm_step_1122 nf v98 v121 v138 v139 v141 v142 v143 v149 f152 f150 f151 f109 f100 f153 f154 f102 f148 f144 f110 f104 f105 f145 f146 f147 f106 f108 f107 nS477 fS477  l1_39 l2_39 l3_39 g144_39 g145_39 g146_39 g147_39 g148_39 g150_39 g151_39 g152_39 g153_39 g154_39 x121_39 x138_39 x139_39 x141_39 x142_39 x143_39 x149_39) else (if l2_39 = 132 then (jn_vm_step_1122 nf v98 v121 v138 v139 v141 v142 v143 v149 f152 f150 f151 f109 f100 f153 f154 f102 f148 f144 f110 f104 f105 f145 f146 f147 f106 f108 f107 nS477 fS477  l1_39 l2_39 l3_39 g144_39 g145_39 g146_39 g147_39 g148_39 g150_39 g151_39 g152_39 g153_39 g154_39 x121_39 x138_39 x139_39 x141_39 x142_39 x143_39 x149_39) else (if l2_39 = 133 then (jn_vm_step_1122 nf v98 v121 v138 v139 v141 v142 v143 v149 f152 f150 f151 f109 f100 f153 f154 f102 f148 f144 f110 f104 f105 f145 f146 f147 f106 f108 f107 nS477 fS477  l1_39 l2_39 l3_39 g144_39 g145_39 g146_39 g147_39 g148_39 g150_39 g151_39 g152_39 g153_39 g154_39 x121_39 x138_39 x139_39 x141_39 x142_39 x143_39 x149_39) else (if l2_39 = 134 then (jn_vm_step_1122 nf v98 v121 v138 v139 v141 v142 v143 v149 f152 f150 f151 f109 f100 f153 f154 f102 f148 f144 f110 f104 f105 f145 f146 f147 f106 f108 f107 nS477 fS477  l1_39 l2_39 l3_39 g144_39 g145_39 g146_39 g147_39 g148_39 g150_39 g151_39 g152_39 g153_39 g154_39 x121_39 x138_39 x139_39 x141_39 x142_39 x143_39 x149_39) else (if l2_39 = 135 then (jn_vm_step_1122 nf v98 v121 v138 v139 v141 v142 v143 v149 f152 f150 f151 f109 f100 f153 f154 f102 f148 f144 f110 f104 f105 f145 f146 f147 f106 f108 f107 nS477 fS477  l1_39 l2_39 l3_39 g144_39 g145_39 g146_39 g147_39 g148_39 g150_39 g151_39 g152_39 g153_39 g154_39 x121_39 x138_39 x139_39 x141_39 x142_39 x143_39 x149_39) else (if l2_39 = 136 then (jn_vm_step_1122 nf v98 v121 v138 v139 v141 v142 v143 v149 f152 f150 f151 f109 f100 f153 f154 f102 f148 f144 f110 f104 f105 f145 f146 f147 f106 f108 f107 nS477 fS477  l1_39 l2_39 l3_39 g144_39 g145_39 g146_39 g147_39 g148_39 g150_39 g151_39 g152_39 g153_39 g154_39 x121_39 x138_39 x139_39 x141_39 x142_39 x143_39 x149_39) else (if l2_39 = 137 then (jn_vm_step_1122 nf v98 v121 v138 v139 v141 v142 v143 v149 f152 f150 f151 f109 f100 f153 f154 f102 f148 f144 f110 f104 f105 f145 f146 f147 f106 f108 f107 nS477 fS477  l1_39 l2_39 l3_39 g144_39 g145_39 g146_39 g147_39 g148_39 g150_39 g151_39 g152_39 g153_39 g154_39 x121_39 x138_39 x139_39 x141_39 x142_39 x143_39 x149_39) else (if l2_39 = 138 then (jn_vm_step_1122 nf v98 v121 v138 v139 v141 v142 v143 v149 f152 f150 f151 f109 f100 f153 f154 f102 f148 f144 f110 f104 f105 f145 f146 f147 f106 f108 f107 nS477 fS477  l1_39 l2_39 l3_39 g144_39 g145_39 g146_39 g147_39 g148_39 g150_39 g151_39 g152_39 g153_39 g154_39 x121_39 x138_39 x139_39 x141_39 x142_39 x143_39 x149_39) else (if l2_39 = 139 then (jn_vm_step_1122 nf v98 v121 v138 v139 v141 v142 v143 v149 f152 f150 f151 f109 f100 f153 f154 f102 f148 f144 f110 f104 f105 f145 f146 f147 f106 f108 f107 nS477 fS477  l1_39 l2_39 l3_39 g144_39 g145_39 g146_39 g147_39 g148_39 g150_39 g151_39 g152_39 g153_39 g154_39 x121_39 x138_39 x139_39 x141_39 x142_39 x143_39 x149_39) else (if l2_39 = 140 then (jn_vm_step_1122 nf v98 v121 v138 v139 v141 v142 v143 v149 f152 f150 f151 f109 f100 f153 f154 f102 f148 f144 f110 f104 f105 f145 f146 f147 f106 f108 f107 nS477 fS477  l1_39 l2_39 l3_39 g144_39 g145_39 g146_39 g147_39 g148_39 g150_39 g151_39 g152_39 g153_39 g154_39 x121_39 x138_39 x139_39 x141_39 x142_39 x143_39 x149_39) else (if l2_39 = 141 then (jn_vm_step_1122 nf v98 v121 v138 v139 v141 v142 v143 v149 f152 f150 f151 f109 f100 f153 f154 f102 f148 f144 f110 f104 f105 f145 f146 f147 f106 f108 f107 nS477 fS477  l1_39 l2_39 l3_39 g144_39 g145_39 g146_39 g147_39 g148_39 g150_39 g151_39 g152_39 g153_39 g154_39 x121_39 x138_39 x139_39 x141_39 x142_39 x143_39 x149_39) else (if l2_39 = 142 then (jn_vm_step_1122 nf v98 v121 v138 v139 v141 v142 v143 v149 f152 f150 f151 f109 f100 f153 f154 f102 f148 f144 f110 f104 f105 f145 f146 f147 f106 f108 f107 nS477 fS477  l1_39 l2_39 l3_39 g144_39 g145_39 g146_39 g147_39 g148_39 g150_39 g151_39 g152_39 g153_39 g154_39 x121_39 x138_39 x139_39 x141_39 x142_39 x143_39 x149_39) else (if l2_39 = 143 then (jn_vm_step_1122 nf v98 v121 v138 v139 v141 v142 v143 v149 f152 f150 f151 f109 f100 f153 f154 f102 f148 f144 f110 f104 f105 f145 f146 f147 f106 f108 f107 nS477 fS477  l1_39 l2_39 l3_39 g144_39 g145_39 g146_39 g147_39 g148_39 g150_39 g151_39 g152_39 g153_39 g154_39 x121_39 x138_39 x139_39 x141_39 x142_39 x143_39 x149_39) else (if l2_39 = 144 then (jn_vm_step_1122 nf v98 v121 v138 v139 v141 v142 v143 v149 f152 f150 f151 f109 f100 f153 f154 f102 f148 f144 f110 f104 f105 f145 f146 f147 f106 f108 f107 nS477 fS477  l1_39 l2_39 l3_39 g144_39 g145_39 g146_39 g147_39 g148_39 g150_39 g151_39 g152_39 g153_39 g154_39 x121_39 x138_39 x139_39 x141_39 x142_39 x143_39 x149_39) else (if l2_39 = 145 then (jn_vm_step_1122 nf v98 v121 v138 v139 v141 v142 v143 v149 f152 f150 f151 f109 f100 f153 f154 f102 f148 f144 f110 f104 f105 f145 f146 f147 f106 f108 f107 nS477 fS477  l1_39 l2_39 l3_39 g144_39 g145_39 g146_39 g147_39 g148_39 g150_39 g151_39 g152_39 g153_39 g154_39 x121_39 x138_39 x139_39 x141_39 x142_39 x143_39 x149_39) else (if l2_39 = 146 then (jn_vm_step_1122 nf v98 v121 v138 v139 v141 v142 v143 v149 f152 f150 f151 f109 f100 f153 f154 f102 f148 f144 f110 f104 f105 f145 f146 f147 f106 f108 f107 nS477 fS477  l1_39 l2_39 l3_39 g144_39 g145_39 g146_39 g147_39 g148_39 g150_39 g151_39 g152_39 g153_39 g154_39 x121_39 x138_39 x139_39 x141_39 x142_39 x143_39 x149_39) else (if l2_39 = 147 then (jn_vm_step_1122 nf v98 v121 v138 v139 v141 v142 v143 v149 f152 f150 f151 f109 f100 f153 f154 f102 f148 f144 f110 f104 f105 f145 f146 f147 f106 f108 f107 nS477 fS477  l1_39 l2_39 l3_39 g144_39 g145_39 g146_39 g147_39 g148_39 g150_39 g151_39 g152_39 g153_39 g154_39 x121_39 x138_39 x139_39 x141_39 x142_39 x143_39 x149_39) else (if l2_39 = 148 then (jn_vm_step_1122 nf v98 v121 v138 v139 v141 v142 v143 v149 f152 f150 f151 f109 f100 f153 f154 f102 f148 f144 f110 f104 f105 f145 f146 f147 f106 f108 f107 nS477 fS477  l1_39 l2_39 l3_39 g144_39 g145_39 g146_39 g147_39 g148_39 g150_39 g151_39 g152_39 g153_39 g154_39 x121_39 x138_39 x139_39 x141_39 x142_39 x143_39 x149_39) else (if l2_39 = 149 then (jn_vm_step_1122 nf v98 v121 v138 v139 v141 v142 v143 v149 f152 f150 f151 f109 f100 f153 f154 f102 f148 f144 f110 f104 f105 f145 f146 f147 f106 f108 f107 nS477 fS477  l1_39 l2_39 l3_39 g144_39 g145_39 g146_39 g147_39 g148_39 g150_39 g151_39 g152_39 g153_39 g154_39 x121_39 x138_39 x139_39 x141_39 x142_39 x143_39 x149_39) else (if l2_39 = 150 then (jn_vm_step_1122 nf v98 v121 v138 v139 v141 v142 v143 v149 f152 f150 f151 f109 f100 f153 f154 f102 f148 f144 f110 f104 f105 f145 f146 f147 f106 f108 f107 nS477 fS477  l1_39 l2_39 l3_39 g144_39 g145_39 g146_39 g147_39 g148_39 g150_39 g151_39 g152_39 g153_39 g154_39 x121_39 x138_39 x139_39 x141_39 x142_39 x143_39 x149_39) else (if l2_39 = 151 then (jn_vm_step_1122 nf v98 v121 v138 v139 v141 v142 v143 v149 f152 f150 f151 f109 f100 f153 f154 f102 f148 f144 f110 f104 f105 f145 f146 f147 f106 f108 f107 nS477 fS477  l1_39 l2_39 l3_39 g144_39 g145_39 g146_39 g147_39 g148_39 g150_39 g151_39 g152_39 g153_39 g154_39 x121_39 x138_39 x139_39 x141_39 x142_39 x143_39 x149_39) else (if l2_39 = 152 then (jn_vm_step_1122 nf v98 v121 v138 v139 v141 v142 v143 v149 f152 f150 f151 f109 f100 f153 f154 f102 f148 f144 f110 f104 f105 f145 f146 f147 f106 f108 f107 nS477 fS477  l1_39 l2_39 l3_39 g144_39 g145_39 g146_39 g147_39 g148_39 g150_39 g151_39 g152_39 g153_39 g154_39 x121_39 x138_39 x139_39 x141_39 x142_39 x143_39 x149_39) else (if l2_39 = 153 then (jn_vm_step_1122 nf v98 v121 v138 v139 v141 v142 v143 v149 f152 f150 f151 f109 f100 f153 f154 f102 f148 f144 f110 f104 f105 f145 f146 f147 f106 f108 f107 nS477 fS477  l1_39 l2_39 l3_39 g144_39 g145_39 g146_39 g147_39 g148_39 g150_39 g151_39 g152_39 g153_39 g154_39 x121_39 x138_39 x139_39 x141_39 x142_39 x143_39 x149_39) else (if l2_39 = 154 then (jn_vm_step_1122 nf v98 v121 v138 v139 v141 v142 v143 v149 f152 f150 f151 f109 f100 f153 f154 f102 f148 f144 f110 f104 f105 f145 f146 f147 f106 f108 f107 nS477 fS477  l1_39 l2_39 l3_39 g144_39 g145_39 g146_39 g147_39 g148_39 g150_39 g151_39 g152_39 g153_39 g154_39 x121_39 x138_39 x139_39 x141_39 x142_39 x143_39 x149_39) else (if l2_39 = 155 then (jn_vm_step_1122 nf v98 v121 v138 v139 v141 v142 v143 v149 f152 f150 f151 f109 f100 f153 f154 f102 f148 f144 f110 f104 f105 f145 f146 f147 f106 f108 f107 nS477 fS477  l1_39 l2_39 l3_39 g144_39 g145_39 g146_39 g147_39 g148_39 g150_39 g151_39 g152_39 g153_39 g154_39 x121_39 x138_39 x139_39 x141_39 x142_39 x143_39 x149_39) else (if l2_39 = 156 then (jn_vm_step_1122 nf v98 v121 v138 v139 v141 v142 v143 v149 f152 f150 f151 f109 f100 f153 f154 f102 f148 f144 f110 f104 f105 f145 f146 f147 f106 f108 f107 nS477 fS477  l1_39 l2_39 l3_39 g144_39 g145_39 g146_39 g147_39 g148_39 g150_39 g151_39 g152_39 g153_39 g154_39 x121_39 x138_39 x139_39 x141_39 x142_39 x143_39 x149_39) else (if l2_39 = 157 then (jn_vm_step_1122 nf v98 v121 v138 v139 v141 v142 v143 v149 f152 f150 f151 f109 f100 f153 f154 f102 f148 f144 f110 f104 f105 f145 f146 f147 f106 f108 f107 nS477 fS477  l1_39 l2_39 l3_39 g144_39 g145_39 g146_39 g147_39 g148_39 g150_39 g151_39 g152_39 g153_39 g154_39 x121_39 x138_39 x139_39 x141_39 x142_39 x143_39 x149_39) else (if l2_39 = 158 then (jn_vm_step_1122 nf v98 v121 v138 v139 v141 v142 v143 v149 f152 f150 f151 f109 f100 f153 f154 f102 f148 f144 f110 f104 f105 f145 f146 f147 f106 f108 f107 nS477 fS477  l1_39 l2_39 l3_39 g144_39 g145_39 g146_39 g147_39 g148_39 g150_39 g151_39 g152_39 g153_39 g154_39 x121_39 x138_39 x139_39 x141_39 x142_39 x143_39 x149_39) else (if l2_39 = 159 then (jn_vm_step_1122 nf v98 v121 v138 v139 v141 v142 v143 v149 f152 f150 f151 f109 f100 f153 f154 f102 f148 f144 f110 f104 f105 f145 f146 f147 f106 f108 f107 nS477 fS477  l1_39 l2_39 l3_39 g144_39 g145_39 g146_39 g147_39 g148_39 g150_39 g151_39 g152_39 g153_39 g154_39 x121_39 x138_39 x139_39 x141_39 x142_39 x143_39 x149_39) else (if l2_39 = 160 then (jn_vm_step_1122 nf v98 v121 v138 v139 v141 v142 v143 v149 f152 f150 f151 f109 f100 f153 f154 f102 f148 f144 f110 f104 f105 f145 f146 f147 f106 f108 f107 nS477 fS477  l1_39 l2_39 l3_39 g144_39 g145_39 g146_39 g147_39 g148_39 g150_39 g151_39 g152_39 g153_39 g154_39 x121_39 x138_39 x139_39 x141_39 x142_39 x143_39 x149_39) else (if l2_39 = 161 then (jn_vm_step_1122 nf v98 v121 v138 v139 v141 v142 v143 v149 f152 f150 f151 f109 f100 f153 f154 f102 f148 f144 f110 f104 f105 f145 f146 f147 f106 f108 f107 nS477 fS477  l1_39 l2_39 l3_39 g144_39 g145_39 g146_39 g147_39 g148_39 g150_39 g151_39 g152_39 g153_39 g154_39 x121_39 x138_39 x139_39 x141_39 x142_39 x143_39 x149_39) else (if l2_39 = 162 then (jn_vm_step_1122 nf v98 v121 v138 v139 v141 v142 v143 v149 f152 f150 f151 f109 f100 f153 f154 f102 f148 f144 f110 f104 f105 f145 f146 f147 f106 f108 f107 nS477 fS477  l1_39 l2_39 l3_39 g144_39 g145_39 g146_39 g147_39 g148_39 g150_39 g151_39 g152_39 g153_39 g154_39 x121_39 x138_39 x139_39 x141_39 x142_39 x143_39 x149_39) else (if l2_39 = 163 then (jn_vm_step_1122 nf v98 v121 v138 v139 v141 v142 v143 v149 f152 f150 f151 f109 f100 f153 f154 f102 f148 f144 f110 f104 f105 f145 f146 f147 f106 f108 f107 nS477 fS477  l1_39 l2_39 l3_39 g144_39 g145_39 g146_39 g147_39 g148_39 g150_39 g151_39 g152_39 g153_39 g154_39 x121_39 x138_39 x139_39 x141_39 x142_39 x143_39 x149_39) else (if l2_39 = 164 then (jn_vm_step_1122 nf v98 v121 v138 v139 v141 v142 v143 v149 f152 f150 f151 f109 f100 f153 f154 f102 f148 f144 f110 f104 f105 f145 f146 f147 f106 f108 f107 nS477 fS477  l1_39 l2_39 l3_39 g144_39 g145_39 g146_39 g147_39 g148_39 g150_39 g151_39 g152_39 g153_39 g154_39 x121_39 x138_39 x139_39 x141_39 x142_39 x143_39 x149_39) else (if l2_39 = 165 then (jn_vm_step_1122 nf v98 v121 v138 v139 v141 v142 v143 v149 f152 f150 f151 f109 f100 f153 f154 f102 f148 f144 f110 f104 f105 f145 f146 f147 f106 f108 f107 nS477 fS477  l1_39 l2_39 l3_39 g144_39 g145_39 g146_39 g147_39 g148_39 g150_39 g151_39 g152_39 g153_39 g154_39 x121_39 x138_39 x139_39 x141_39 x142_39 x143_39 x149_39) else (if l2_39 = 166 then (jn_vm_step_1122 nf v98 v121 v138 v139 v141 v142 v143 v149 f152 f150 f151 f109 f100 f153 f154 f102 f148 f144 f110 f104 f105 f145 f146 f147 f106 f108 f107 nS477 fS477  l1_39 l2_39 l3_39 g144_39 g145_39 g146_39 g147_39 g148_39 g150_39 g151_39 g152_39 g153_39 g154_39 x121_39 x138_39 x139_39 x141_39 x142_39 x143_39 x149_39) else (if l2_39 = 167 then (jn_vm_step_1122 nf v98 v121 v138 v139 v141 v142 v143 v149 f152 f150 f151 f109 f100 f153 f154 f102 f148 f144 f110 f104 f105 f145 f146 f147 f106 f108 f107 nS477 fS477  l1_39 l2_39 l3_39 g144_39 g145_39 g146_39 g147_39 g148_39 g150_39 g151_39 g152_39 g153_39 g154_39 x121_39 x138_39 x139_39 x141_39 x142_39 x143_39 x149_39) else (if l2_39 = 168 then (jn_vm_step_1122 nf v98 v121 v138 v139 v141 v142 v143 v149 f152 f150 f151 f109 f100 f153 f154 f102 f148 f144 f110 f104 f105 f145 f146 f147 f106 f108 f107 nS477 fS477  l1_39 l2_39 l3_39 g144_39 g145_39 g146_39 g147_39 g148_39 g150_39 g151_39 g152_39 g153_39 g154_39 x121_39 x138_39 x139_39 x141_39 x142_39 x143_39 x149_39) else (if l2_39 = 169 then (jn_vm_step_1122 nf v98 v121 v138 v139 v141 v142 v143 v149 f152 f150 f151 f109 f100 f153 f154 f102 f148 f144 f110 f104 f105 f145 f146 f147 f106 f108 f107 nS477 fS477  l1_39 l2_39 l3_39 g144_39 g145_39 g146_39 g147_39 g148_39 g150_39 g151_39 g152_39 g153_39 g154_39 x121_39 x138_39 x139_39 x141_39 x142_39 x143_39 x149_39) else (if l2_39 = 170 then (jn_vm_step_1122 nf v98 v121 v138 v139 v141 v142 v143 v149 f152 f150 f151 f109 f100 f153 f154 f102 f148 f144 f110 f104 f105 f145 f146 f147 f106 f108 f107 nS477 fS477  l1_39 l2_39 l3_39 g144_39 g145_39 g146_39 g147_39 g148_39 g150_39 g151_39 g152_39 g153_39 g154_39 x121_39 x138_39 x139_39 x141_39 x142_39 x143_39 x149_39) else (if l2_39 = 171 then (jn_vm_step_1122 nf v98 v121 v138 v139 v141 v142 v143 v149 f152 f150 f151 f109 f100 f153 f154 f102 f148 f144 f110 f104 f105 f145 f146 f147 f106 f108 f107 nS477 fS477  l1_39 l2_39 l3_39 g144_39 g145_39 g146_39 g147_39 g148_39 g150_39 g151_39 g152_39 g153_39 g154_39 x121_39 x138_39 x139_39 x141_39 x142_39 x143_39 x149_39) else (if l2_39 = 172 then (jn_vm_step_1014 nf v98 v121 v138 v139 v141 v142 v143 v149 f152 f150 f151 f109 f100 f153 f154 f102 f148 f144 f110 f104 f105 f145 f146 f147 f106 f108 f107 nS477 fS477  l2_39 g144_39 g145_39 g146_39 g147_39 g148_39 g150_39 g151_39 g152_39 g153_39 g154_39 x121_39 x138_39 x139_39 x141_39 x142_39 x143_39 x149_39) else (if l2_39 = 173 then (jn_vm_step_1122 nf v98 v121 v138 v139 v141 v142 v143 v149 f152 f150 f151 f109 f100 f153 f154 f102 f148 f144 f110 f104 f105 f145 f146 f147 f106 f108 f107 nS477 fS477  l1_39 l2_39 l3_39 g144_39 g145_39 g146_39 g147_39 g148_39 g150_39 g151_39 g152_39 g153_39 g154_39 x121_39 x138_39 x139_39 x141_39 x142_39 x143_39 x149_39) else (if l2_39 = 174 then (jn_vm_step_1122 nf v98 v121 v138 v139 v141 v142 v143 v149 f152 f150 f151 f109 f100 f153 f154 f102 f148 f144 f110 f104 f105 f145 f146 f147 f106 f108 f107 nS477 fS477  l1_39 l2_39 l3_39 g144_39 g145_39 g146_39 g147_39 g148_39 g150_39 g151_39 g152_39 g153_39 g154_39 x121_39 x138_39 x139_39 x141_39 x142_39 x143_39 x149_39) else (if l2_39 = 175 then (jn_vm_step_1122 nf v98 v121 v138 v139 v141 v142 v143 v149 f152 f150 f151 f109 f100 f153 f154 f102 f148 f144 f110 f104 f105 f145 f146 f147 f106 f108 f107 nS477 fS477  l1_39 l2_39 l3_39 g144_39 g145_39 g146_39 g147_39 g148_39 g150_39 g151_39 g152_39 g153_39 g154_39 x121_39 x138_39 x139_39 x141_39 x142_39 x143_39 x149_39) else (if l2_39 = 176 then (jn_vm_step_1014 nf v98 v121 v138 v139 v141 v142 v143 v149 f152 f150 f151 f109 f100 f153 f154 f102 f148 f144 f110 f104 f105 f145 f146 f147 f106 f108 f107 nS477 fS477  l2_39 g144_39 g145_39 g146_39 g147_39 g148_39 g150_39 g151_39 g152_39 g153_39 g154_39 x121_39 x138_39 x139_39 x141_39 x142_39 x143_39 x149_39) else (if l2_39 = 177 then (jn_vm_step_1014 nf v98 v121 v138 v139 v141 v142 v143 v149 f152 f150 f151 f109 f100 f153 f154 f102 f148 f144 f110 f104 f105 f145 f146 f147 f106 f108 f107 nS477 fS477  l2_39 g144_39 g145_39 g146_39 g147_39 g148_39 g150_39 g151_39 g152_39 g153_39 g154_39 x121_39 x138_39 x139_39 x141_39 x142_39 x143_39 x149_39) else (if l2_39 = 178 then (jn_vm_step_1122 nf v98 v121 v138 v139 v141 v142 v143 v149 f152 f150 f151 f109 f100 f153 f154 f102 f148 f144 f110 f104 f105 f145 f146 f147 f106 f108 f107 nS477 fS477  l1_39 l2_39 l3_39 g144_39 g145_39 g146_39 g147_39 g148_39 g150_39 g151_39 g152_39 g153_39 g154_39 x121_39 x138_39 x139_39 x141_39 x142_39 x143_39 x149_39) else (if l2_39 = 179 then (jn_vm_step_1122 nf v98 v121 v138 v139 v141 v142 v143 v149 f152 f150 f151 f109 f100 f153 f154 f102 f148 f144 f110 f104 f105 f145 f146 f147 f106 f108 f107 nS477 fS477  l1_39 l2_39 l3_39 g144_39 g145_39 g146_39 g147_39 g148_39 g150_39 g151_39 g152_39 g153_39 g154_39 x121_39 x138_39 x139_39 x141_39 x142_39 x143_39 x149_39) else (if l2_39 = 180 then (jn_vm_step_1020 nf v98 v121 v138 v139 v141 v142 v143 v149 f152 f150 f151 f109 f100 f153 f154 f102 f148 f144 f110 f104 f105 f145 f146 f147 f106 f108 f107 nS477 fS477  l2_39 l3_39 s0_39 g144_39 g145_39 g146_39 g147_39 g148_39 g150_39 g151_39 g152_39 g153_39 g154_39 x121_39 x138_39 x139_39 x141_39 x142_39 x143_39 x149_39) else (if l2_39 = 181 then (jn_vm_step_1020 nf v98 v121 v138 v139 v141 v142 v143 v149 f152 f150 f151 f109 f100 f153 f154 f102 f148 f144 f110 f104 f105 f145 f146 f147 f106 f108 f107 nS477 fS477  l2_39 l3_39 s0_39 g144_39 g145_39 g146_39 g147_39 g148_39 g150_39 g151_39 g152_39 g153_39 g154_39 x121_39 x138_39 x139_39 x141_39 x142_39 x143_39 x149_39) else (if l2_39 = 182 then (jn_vm_step_1029 nf v98 v121 v138 v139 v141 v142 v143 v149 f152 f150 f151 f109 f100 f153 f154 f102 f148 f144 f110 f104 f105 f145 f146 f147 f106 f108 f107 nS477 fS477  l2_39 s0_39 g144_39 g145_39 g146_39 g147_39 g148_39 g150_39 g151_39 g152_39 g153_39 g154_39 x121_39 x138_39 x139_39 x141_39 x142_39 x143_39 x149_39) else (if l2_39 = 183 then (jn_vm_step_1122 nf v98 v121 v138 v139 v141 v142 v143 v149 f152 f150 f151 f109 f100 f153 f154 f102 f148 f144 f110 f104 f105 f145 f146 f147 f106 f108 f107 nS477 fS477  l1_39 l2_39 l3_39 g144_39 g145_39 g146_39 g147_39 g148_39 g150_39 g151_39 g152_39 g153_39 g154_39 x121_39 x138_39 x139_39 x141_39 x142_39 x143_39 x149_39) else (if l2_39 = 184 then (jn_vm_step_1029 nf v98 v121 v138 v139 v141 v142 v143 v149 f152 f150 f151 f109 f100 f153 f154 f102 f148 f144 f110 f104 f105 f145 f146 f147 f106 f108 f107 nS477 fS477  l2_39 s0_39 g144_39 g145_39 g146_39 g147_39 g148_39 g150_39 g151_39 g152_39 g153_39 g154_39 x121_39 x138_39 x139_39 x141_39 x142_39 x143_39 x149_39) else (if l2_39 = 185 then (jn_vm_step_1122 nf v98 v121 v138 v139 v141 v142 v143 v149 f152 f150 f151 f109 f100 f153 f154 f102 f148 f144 f110 f104 f105 f145 f146 f147 f106 f108 f107 nS477 fS477  l1_39 l2_39 l3_39 g144_39 g145_39 g146_39 g147_39 g148_39 g150_39 g151_39 g152_39 g153_39 g154_39 x121_39 x138_39 x139_39 x141_39 x142_39 x143_39 x149_39) else (if l2_39 = 186 then ((sp_tm_drop nf x149_39 g153_39 g154_39).bind (fun p16 => (if 1000 ≤ x143_39 then (jn_vm_step_1064 nf v98 v121 v138 v139 v141 v142 v143 v149 f152 f150 f151 f109 f100 f153 f154 f102 f148 f144 f110 f104 f105 f145 f146 f147 f106 f108 f107 nS477 fS477  l3_39 g144_39 g145_39 g146_39 g147_39 g148_39 g150_39 g151_39 g152_39 p16.2 g154_39 x121_39 x138_39 x139_39 x141_39 x142_39 x143_39 x149_39) else (if x143_39 < 0 then none else if 1000 ≤ (x143_39 : Int32).toNatClampNeg then none else (jn_vm_step_1064 nf v98 v121 v138 v139 v141 v142 v143 v149 f152 f150 f151 f109 f100 f153 f154 f102 f148 f144 f110 f104 f105 f145 f146 f147 f106 f108 f107 nS477 fS477  l3_39 g144_39 g145_39 g146_39 g147_39 (upd g148_39 (x143_39 : Int32).toNatClampNeg p16.1) g150_39 g151_39 g152_39 p16.2 g154_39 x121_39 x138_39 x139_39 x141_39 x142_39 x143_39 x149_39))))) else (if l2_39 = 187 then (jn_vm_step_1077 nf v98 v121 v138 v139 v141 v142 v143 v149 f152 f150 f151 f109 f100 f153 f154 f102 f148 f144 f110 f104 f105 f145 f146 f147 f106 f108 f107 nS477 fS477  l2_39 s0_39 g144_39 g145_39 g146_39 g147_39 g148_39 g150_39 g151_39 g152_39 g153_39 g154_39 x121_39 x138_39 x139_39 x141_39 x142_39 x143_39 x149_39) else (if l2_39 = 188 then (jn_vm_step_1077 nf v98 v121 v138 v139 v141 v142 v143 v149 f152 f150 f151 f109 f100 f153 f154 f102 f148 f144 f110 f104 f105 f145 f146 f147 f106 f108 f107 nS477 fS477  l2_39 s0_39 g144_39 g145_39 g146_39 g147_39 g148_39 g150_39 g151_39 g152_39 g153_39 g154_39 x121_39 x138_39 x139_39 x141_39 x142_39 x143_39 x149_39) else (if l2_39 = 189 then (jn_vm_step_1077 nf v98 v121 v138 v139 v141 v142 v143 v149 f152 f150 f151 f109 f100 f153 f154 f102 f148 f144 f110 f104 f105 f145 f146 f147 f106 f108 f107 nS477 fS477  l2_39 s0_39 g144_39 g145_39 g146_39 g147_39 g148_39 g150_39 g151_39 g152_39 g153_39 g154_39 x121_39 x138_39 x139_39 x141_39 x142_39 x143_39 x149_39) else (if l2_39 = 190 then (jn_vm_step_1020 nf v98 v121 v138 v139 v141 v142 v143 v149 f152 f150 f151 f109 f100 f153 f154 f102 f148 f144 f110 f104 f105 f145 f146 f147 f106 f108 f107 nS477 fS477  l2_39 l3_39 s0_39 g144_39 g145_39 g146_39 g147_39 g148_39 g150_39 g151_39 g152_39 g153_39 g154_39 x121_39 x138_39 x139_39 x141_39 x142_39 x143_39 x149_39) else (if l2_39 = 191 then ((sp_tm_drop nf x149_39 g153_39 g154_39).bind (fun p17 => (if p17.1 = 0 then ((sp_vm_fails nf 2 v98 x138_39 x139_39 x141_39 x142_39 x149_39 g144_39 g145_39 g146_39 g147_39 g150_39 g151_39 f110 f100 g152_39 f102 f104 f105 p17.2 g154_39 nS477 fS477).bind (fun p18 => (some (p18.1, p18.2.1, p18.2.2.1, p18.2.2.2.1, g148_39, g150_39, g151_39, p18.2.2.2.2.1, p18.2.2.2.2.2.1, p18.2.2.2.2.2.2.1, x121_39, p18.2.2.2.2.2.2.2.1, p18.2.2.2.2.2.2.2.2.1, p18.2.2.2.2.2.2.2.2.2.1, p18.2.2.2.2.2.2.2.2.2.2.1, x143_39, p18.2.2.2.2.2.2.2.2.2.2.2)))) else ((sp_vm_thrown nf p17.1 v98 x138_39 x139_39 x149_39 g144_39 g150_39 g151_39 f110 f100 g152_39 f102 f104 f105 p17.2 g154_39 nS477 fS477).bind (fun p19 => (some (g144_39, g145_39, g146_39, g147_39, g148_39, g150_39, g151_39, p19.1, p19.2.1, p19.2.2.1, x121_39, p19.2.2.2.1, p19.2.2.2.2.1, x141_39, x142_39, x143_39, p19.2.2.2.2.2))))))) else (if l2_39 = 192 then (jn_vm_step_1111 nf v98 v121 v138 v139 v141 v142 v143 v149 f152 f150 f151 f109 f100 f153 f154 f102 f148 f144 f110 f104 f105 f145 f146 f147 f106 f108 f107 nS477 fS477  l2_39 l3_39 s0_39 g144_39 g145_39 g146_39 g147_39 g148_39 g150_39 g151_39 g152_39 g153_39 g154_39 x121_39 x138_39 x139_39 x141_39 x142_39 x143_39 x149_39) else (if l2_39 = 193 then (jn_vm_step_1111 nf v98 v121 v138 v139 v141 v142 v143 v149 f152 f150 f151 f109 f100 f153 f154 f102 f148 f144 f110 f104 f105 f145 f146 f147 f106 f108 f107 nS477 fS477  l2_39 l3_39 s0_39 g144_39 g145_39 g146_39 g147_39 g148_39 g150_39 g151_39 g152_39 g153_39 g154_39 x121_39 x138_39 x139_39 x141_39 x142_39 x143_39 x149_39) else (jn_vm_step_1122 nf v98 v121 v138 v139 v141 v142 v143 v149 f152 f150 f151 f109 f100 f153 f154 f102 f148 f144 f110 f104 f105 f145 f146 f147 f106 f108 f107 nS477 fS477  l1_39 l2_39 l3_39 g144_39 g145_39 g146_39 g147_39 g148_39 g150_39 g151_39 g152_39 g153_39 g154_39 x121_39 x138_39 x139_39 x141_39 x142_39 x143_39 x149_39)))))))))))))))))))))))))))))))))))))))))))))))))))))))))))))))))))))))))))))))))))))))))))))))))))))))))))))))))))))))))))))))))))))))))))))))))))))))))))))))))))))))))))))))))))))))))))))))))))
def sp_vm_step (nf : Nat) (v98 : Int32) (v121 : Int32) (v138 : Int32) (v139 : Int32) (v141 : Int32) (v142 : Int32) (v143 : Int32) (v149 : Int32) (f152 : Nat → Int32) (f150 : Nat → Int32) (f151 : Nat → Int32) (f109 : Nat → Int32) (f100 : Nat → Int32) (f153 : Nat → Int32) (f154 : Nat → Int32) (f102 : Nat → Int32) (f148 : Nat → Int32) (f144 : Nat → Int32) (f110 : Nat → Int32) (f104 : Nat → Int32) (f105 : Nat → Int32) (f145 : Nat → Int32) (f146 : Nat → Int32) (f147 : Nat → Int32) (f106 : Nat → Int32) (f108 : Nat → Int32) (f107 : Nat → Int32) (nS477 : Nat) (fS477 : Nat → Int32) : Option ((Nat → Int32) × (Nat → Int32) × (Nat → Int32) × (Nat → Int32) × (Nat → Int32) × (Nat → Int32) × (Nat → Int32) × (Nat → Int32) × (Nat → Int32) × (Nat → Int32) × Int32 × Int32 × Int32 × Int32 × Int32 × Int32 × Int32) := (if (v149 - 1) < 0 then none else if 60 ≤ ((v149 - 1) : Int32).toNatClampNeg then none else ((sp_tm_opAt nf (f152 ((v149 - 1) : Int32).toNatClampNeg) v149 f150 f151 f109 f100).bind (fun p1 => ((sp_tm_widthOf nf p1).bind (fun p2 => (if p2 ≤ 1 then (jn_vm_step_39 nf v98 v121 v138 v139 v141 v142 v143 v149 f152 f150 f151 f109 f100 f153 f154 f102 f148 f144 f110 f104 f105 f145 f146 f147 f106 f108 f107 nS477 fS477  (f152 ((v149 - 1) : Int32).toNatClampNeg) p1 p2 0 f144 f145 f146 f147 f148 f150 f151 f152 f153 f154 v121 v138 v139 v141 v142 v143 v149) else ((sp_tm_opAt nf ((f152 ((v149 - 1) : Int32).toNatClampNeg) + 1) v149 f150 f151 f109 f100).bind (fun p3 => (jn_vm_step_39 nf v98 v121 v138 v139 v141 v142 v143 v149 f152 f150 f151 f109 f100 f153 f154 f102 f148 f144 f110 f104 f105 f145 f146 f147 f106 f108 f107 nS477 fS477  (f152 ((v149 - 1) : Int32).toNatClampNeg) p1 p2 p3 f144 f145 f146 f147 f148 f150 f151 f152 f153 f154 v121 v138 v139 v141 v142 v143 v149)))))))))

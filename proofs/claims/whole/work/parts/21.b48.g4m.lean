set_option maxHeartbeats 4000000 in
set_option maxRecDepth 100000 in
/-- ClassMillModel.flows -/
theorem vm_flows (l : Launch) (dC : Nat → ClassId) (dI : Nat → Nat → Nat) (sz : Nat) (h0 : Nat) (zs : (List Value)) (a1 : Int32) (a2 : Int32) (v98 : Int32) (qf100 : Nat) (qf102 : Nat) (qf103 : Nat) (qf104 : Nat) (qf105 : Nat) (qf106 : Nat) (qf107 : Nat) (qf108 : Nat) (qf109 : Nat) (qf110 : Nat) (qf111 : Nat) (v117 : Int32) (qf118 : Nat) (qf119 : Nat) (v120 : Int32) (v121 : Int32) (v122 : Int32) (v123 : Int32) (v124 : Int32) (v125 : Int32) (qf127 : Nat) (qf128 : Nat) (v129 : Int32) (v130 : Int32) (v131 : Int32) (v132 : Int32) (v133 : Int32) (v134 : Int32) (v135 : Int32) (v136 : Int32) (qf137 : Nat) (cf109 : ClassId) (f109 : (Nat → Int32)) (cf100 : ClassId) (f100 : (Nat → Int32)) (cf127 : ClassId) (f127 : (Nat → Int32)) (cf107 : ClassId) (f107 : (Nat → Int32)) (cf102 : ClassId) (f102 : (Nat → Int32)) (cf111 : ClassId) (f111 : (Nat → Int32)) (cf104 : ClassId) (f104 : (Nat → Int32)) (cf118 : ClassId) (f118 : (Nat → Int32)) (cf119 : ClassId) (f119 : (Nat → Int32)) (cf105 : ClassId) (f105 : (Nat → Int32)) (cf128 : ClassId) (f128 : (Nat → Int32)) (cf110 : ClassId) (f110 : (Nat → Int32)) (cf103 : ClassId) (f103 : (Nat → Int32)) (cf106 : ClassId) (f106 : (Nat → Int32)) (cf108 : ClassId) (f108 : (Nat → Int32)) (cf137 : ClassId) (f137 : (Nat → Int32)) (nS477 : Nat) (fS477 : (Nat → Int32)) (hS477 : Nat) (qS477 : Nat) (tS477 : String) (nf : Nat) (r0 : Int32) (o118 : (Nat → Int32)) (o119 : (Nat → Int32)) (o127 : (Nat → Int32)) (o128 : (Nat → Int32)) (o137 : (Nat → Int32)) (w117 : Int32) (w120 : Int32) (w121 : Int32) (w122 : Int32) (w123 : Int32) (w124 : Int32) (w125 : Int32) (w131 : Int32) (w136 : Int32) (hlen : zs.length = 155) (hf98 : zs[98]? = some (.int v98)) (hf100 : zs[100]? = some (.ref qf100)) (hf102 : zs[102]? = some (.ref qf102)) (hf103 : zs[103]? = some (.ref qf103)) (hf104 : zs[104]? = some (.ref qf104)) (hf105 : zs[105]? = some (.ref qf105)) (hf106 : zs[106]? = some (.ref qf106)) (hf107 : zs[107]? = some (.ref qf107)) (hf108 : zs[108]? = some (.ref qf108)) (hf109 : zs[109]? = some (.ref qf109)) (hf110 : zs[110]? = some (.ref qf110)) (hf111 : zs[111]? = some (.ref qf111)) (hf117 : zs[117]? = some (.int v117)) (hf118 : zs[118]? = some (.ref qf118)) (hf119 : zs[119]? = some (.ref qf119)) (hf120 : zs[120]? = some (.int v120)) (hf121 : zs[121]? = some (.int v121)) (hf122 : zs[122]? = some (.int v122)) (hf123 : zs[123]? = some (.int v123)) (hf124 : zs[124]? = some (.int v124)) (hf125 : zs[125]? = some (.int v125)) (hf127 : zs[127]? = some (.ref qf127)) (hf128 : zs[128]? = some (.ref qf128)) (hf129 : zs[129]? = some (.int v129)) (hf130 : zs[130]? = some (.int v130)) (hf131 : zs[131]? = some (.int v131)) (hf132 : zs[132]? = some (.int v132)) (hf133 : zs[133]? = some (.int v133)) (hf134 : zs[134]? = some (.int v134)) (hf135 : zs[135]? = some (.int v135)) (hf136 : zs[136]? = some (.int v136)) (hf137 : zs[137]? = some (.ref qf137)) (hsp : sp_vm_flows nf a1 a2 v98 v117 v120 v121 v122 v123 v124 v125 v129 v130 v131 v132 v133 v134 v135 v136 f109 f100 f127 f107 f102 f111 f104 f118 f119 f105 f128 f110 f103 f106 f108 f137 nS477 fS477 = some (r0, o118, o119, o127, o128, o137, w117, w120, w121, w122, w123, w124, w125, w131, w136)) : Met l yX13_flows (.code yX13_flows cX13_flows 10 (some .boolean) :: VS_h9) ({ frames := 13, cells := 0, slots := 0, locals := 300 }) (va_Pc [.ref h0, .int a1, .int a2] (fun U => U.heap.size = sz ∧ va_P (dC, dI) vwCl [(h0, .inr (13, zs)), (qf109, .inl (cf109, 96, .inl f109)), (qf100, .inl (cf100, 48000, .inl f100)), (qf127, .inl (cf127, 30, .inl f127)), (qf107, .inl (cf107, 96, .inl f107)), (qf102, .inl (cf102, 2048, .inl f102)), (qf111, .inl (cf111, 96, .inl f111)), (qf104, .inl (cf104, 8, .inl f104)), (qf118, .inl (cf118, 2100, .inl f118)), (qf119, .inl (cf119, 2100, .inl f119)), (qf105, .inl (cf105, 8, .inl f105)), (qf128, .inl (cf128, 31, .inl f128)), (qf110, .inl (cf110, 96, .inl f110)), (qf103, .inl (cf103, 8, .inl f103)), (qf106, .inl (cf106, 8, .inl f106)), (qf108, .inl (cf108, 8, .inl f108)), (qf137, .inl (cf137, 6, .inl f137))] U.heap ∧ va_K (dC, dI) vwCl [(cf109, .int), (cf100, .int), (cf127, .int), (cf107, .int), (cf102, .int), (cf111, .int), (cf104, .int), (cf118, .int), (cf119, .int), (cf105, .int), (cf128, .int), (cf110, .int), (cf103, .int), (cf106, .int), (cf108, .int), (cf137, .int)] U ∧ va_D (fun _ => True) [(h0, .inr (13, zs)), (qf109, .inl (cf109, 96, .inl f109)), (qf100, .inl (cf100, 48000, .inl f100)), (qf127, .inl (cf127, 30, .inl f127)), (qf107, .inl (cf107, 96, .inl f107)), (qf102, .inl (cf102, 2048, .inl f102)), (qf111, .inl (cf111, 96, .inl f111)), (qf104, .inl (cf104, 8, .inl f104)), (qf118, .inl (cf118, 2100, .inl f118)), (qf119, .inl (cf119, 2100, .inl f119)), (qf105, .inl (cf105, 8, .inl f105)), (qf128, .inl (cf128, 31, .inl f128)), (qf110, .inl (cf110, 96, .inl f110)), (qf103, .inl (cf103, 8, .inl f103)), (qf106, .inl (cf106, 8, .inl f106)), (qf108, .inl (cf108, 8, .inl f108)), (qf137, .inl (cf137, 6, .inl f137))] ∧ pz_W nS477 fS477 hS477 qS477 (va_A [(h0, .inr (13, zs)), (qf109, .inl (cf109, 96, .inl f109)), (qf100, .inl (cf100, 48000, .inl f100)), (qf127, .inl (cf127, 30, .inl f127)), (qf107, .inl (cf107, 96, .inl f107)), (qf102, .inl (cf102, 2048, .inl f102)), (qf111, .inl (cf111, 96, .inl f111)), (qf104, .inl (cf104, 8, .inl f104)), (qf118, .inl (cf118, 2100, .inl f118)), (qf119, .inl (cf119, 2100, .inl f119)), (qf105, .inl (cf105, 8, .inl f105)), (qf128, .inl (cf128, 31, .inl f128)), (qf110, .inl (cf110, 96, .inl f110)), (qf103, .inl (cf103, 8, .inl f103)), (qf106, .inl (cf106, 8, .inl f106)), (qf108, .inl (cf108, 8, .inl f108)), (qf137, .inl (cf137, 6, .inl f137))] sz) U U.heap ∧ vk_R RX13 477 tS477 hS477 U)) (va_Qi (fun (r : Int32) (u : (List Value)) => match u with | (zo1) => (r0 = r ∧ (r0 = 0 ∨ r0 = 1)) ∧ zo1.length = 155 ∧ (∀ j : Nat, j ≠ 117 → j ≠ 120 → j ≠ 121 → j ≠ 122 → j ≠ 123 → j ≠ 124 → j ≠ 125 → j ≠ 131 → j ≠ 136 → zo1[j]? = zs[j]?) ∧ zo1[117]? = some (.int w117) ∧ zo1[120]? = some (.int w120) ∧ zo1[121]? = some (.int w121) ∧ zo1[122]? = some (.int w122) ∧ zo1[123]? = some (.int w123) ∧ zo1[124]? = some (.int w124) ∧ zo1[125]? = some (.int w125) ∧ zo1[131]? = some (.int w131) ∧ zo1[136]? = some (.int w136)) (fun (u : (List Value)) (t : State) => match u with | (zo1) => va_P (dC, dI) vwCl [(h0, .inr (13, zo1)), (qf109, .inl (cf109, 96, .inl f109)), (qf100, .inl (cf100, 48000, .inl f100)), (qf127, .inl (cf127, 30, .inl o127)), (qf107, .inl (cf107, 96, .inl f107)), (qf102, .inl (cf102, 2048, .inl f102)), (qf111, .inl (cf111, 96, .inl f111)), (qf104, .inl (cf104, 8, .inl f104)), (qf118, .inl (cf118, 2100, .inl o118)), (qf119, .inl (cf119, 2100, .inl o119)), (qf105, .inl (cf105, 8, .inl f105)), (qf128, .inl (cf128, 31, .inl o128)), (qf110, .inl (cf110, 96, .inl f110)), (qf103, .inl (cf103, 8, .inl f103)), (qf106, .inl (cf106, 8, .inl f106)), (qf108, .inl (cf108, 8, .inl f108)), (qf137, .inl (cf137, 6, .inl o137))] t.heap ∧ va_K (dC, dI) vwCl [(cf109, .int), (cf100, .int), (cf127, .int), (cf107, .int), (cf102, .int), (cf111, .int), (cf104, .int), (cf118, .int), (cf119, .int), (cf105, .int), (cf128, .int), (cf110, .int), (cf103, .int), (cf106, .int), (cf108, .int), (cf137, .int)] t ∧ va_D (va_A [(h0, .inr (13, zs)), (qf109, .inl (cf109, 96, .inl f109)), (qf100, .inl (cf100, 48000, .inl f100)), (qf127, .inl (cf127, 30, .inl f127)), (qf107, .inl (cf107, 96, .inl f107)), (qf102, .inl (cf102, 2048, .inl f102)), (qf111, .inl (cf111, 96, .inl f111)), (qf104, .inl (cf104, 8, .inl f104)), (qf118, .inl (cf118, 2100, .inl f118)), (qf119, .inl (cf119, 2100, .inl f119)), (qf105, .inl (cf105, 8, .inl f105)), (qf128, .inl (cf128, 31, .inl f128)), (qf110, .inl (cf110, 96, .inl f110)), (qf103, .inl (cf103, 8, .inl f103)), (qf106, .inl (cf106, 8, .inl f106)), (qf108, .inl (cf108, 8, .inl f108)), (qf137, .inl (cf137, 6, .inl f137))] sz) [(h0, .inr (13, zo1)), (qf109, .inl (cf109, 96, .inl f109)), (qf100, .inl (cf100, 48000, .inl f100)), (qf127, .inl (cf127, 30, .inl o127)), (qf107, .inl (cf107, 96, .inl f107)), (qf102, .inl (cf102, 2048, .inl f102)), (qf111, .inl (cf111, 96, .inl f111)), (qf104, .inl (cf104, 8, .inl f104)), (qf118, .inl (cf118, 2100, .inl o118)), (qf119, .inl (cf119, 2100, .inl o119)), (qf105, .inl (cf105, 8, .inl f105)), (qf128, .inl (cf128, 31, .inl o128)), (qf110, .inl (cf110, 96, .inl f110)), (qf103, .inl (cf103, 8, .inl f103)), (qf106, .inl (cf106, 8, .inl f106)), (qf108, .inl (cf108, 8, .inl f108)), (qf137, .inl (cf137, 6, .inl o137))]) (va_A [(h0, .inr (13, zs)), (qf109, .inl (cf109, 96, .inl f109)), (qf100, .inl (cf100, 48000, .inl f100)), (qf127, .inl (cf127, 30, .inl f127)), (qf107, .inl (cf107, 96, .inl f107)), (qf102, .inl (cf102, 2048, .inl f102)), (qf111, .inl (cf111, 96, .inl f111)), (qf104, .inl (cf104, 8, .inl f104)), (qf118, .inl (cf118, 2100, .inl f118)), (qf119, .inl (cf119, 2100, .inl f119)), (qf105, .inl (cf105, 8, .inl f105)), (qf128, .inl (cf128, 31, .inl f128)), (qf110, .inl (cf110, 96, .inl f110)), (qf103, .inl (cf103, 8, .inl f103)), (qf106, .inl (cf106, 8, .inl f106)), (qf108, .inl (cf108, 8, .inl f108)), (qf137, .inl (cf137, 6, .inl f137))] sz)) 0 0 (va_A [(h0, .inr (13, zs)), (qf109, .inl (cf109, 96, .inl f109)), (qf100, .inl (cf100, 48000, .inl f100)), (qf127, .inl (cf127, 30, .inl f127)), (qf107, .inl (cf107, 96, .inl f107)), (qf102, .inl (cf102, 2048, .inl f102)), (qf111, .inl (cf111, 96, .inl f111)), (qf104, .inl (cf104, 8, .inl f104)), (qf118, .inl (cf118, 2100, .inl f118)), (qf119, .inl (cf119, 2100, .inl f119)), (qf105, .inl (cf105, 8, .inl f105)), (qf128, .inl (cf128, 31, .inl f128)), (qf110, .inl (cf110, 96, .inl f110)), (qf103, .inl (cf103, 8, .inl f103)), (qf106, .inl (cf106, 8, .inl f106)), (qf108, .inl (cf108, 8, .inl f108)), (qf137, .inl (cf137, 6, .inl f137))] sz) := by
  refine Met.ofW (cc := cX13_flows) (maxL := 10) (ret := (some .boolean)) (by decide) rfl ?_
  intro p e s m args below meth c s₁ B hml hv
  obtain ⟨rfl, hsz, hP, hK, hD0, hZWS477, hZRS477⟩ := hv
  have hx := B.exec
  have hb := B.bytes
  have hr := B.returns
  have hts := atoms_spec (ws := (.code yX13_flows cX13_flows 10 (some .boolean) :: VS_h9)) B.pre
  replace hts := fun w (h : w ∈ VS_h9) => hts w (List.mem_cons_of_mem _ h)
  have hown : s.vm.findClass RX13 = some m.cls := findClass_of_methodNamed B.named
  have hlocks := B.notSynchronized
  subst hsz
  have hD := hD0.self (sz := s.heap.size)
  generalize hAe : va_A [(h0, .inr (13, zs)), (qf109, .inl (cf109, 96, .inl f109)), (qf100, .inl (cf100, 48000, .inl f100)), (qf127, .inl (cf127, 30, .inl f127)), (qf107, .inl (cf107, 96, .inl f107)), (qf102, .inl (cf102, 2048, .inl f102)), (qf111, .inl (cf111, 96, .inl f111)), (qf104, .inl (cf104, 8, .inl f104)), (qf118, .inl (cf118, 2100, .inl f118)), (qf119, .inl (cf119, 2100, .inl f119)), (qf105, .inl (cf105, 8, .inl f105)), (qf128, .inl (cf128, 31, .inl f128)), (qf110, .inl (cf110, 96, .inl f110)), (qf103, .inl (cf103, 8, .inl f103)), (qf106, .inl (cf106, 8, .inl f106)), (qf108, .inl (cf108, 8, .inl f108)), (qf137, .inl (cf137, 6, .inl f137))] s.heap.size = A at hD hZWS477 ⊢
  have hA : ∀ q : Nat, s.heap.size ≤ q → A q := fun q h => by rw [← hAe]; exact Or.inr h
  have hP : va_P (dC, dI) vwCl [(h0, .inr (13, zs)), (qf109, .inl (cf109, 96, .inl f109)), (qf100, .inl (cf100, 48000, .inl f100)), (qf127, .inl (cf127, 30, .inl f127)), (qf107, .inl (cf107, 96, .inl f107)), (qf102, .inl (cf102, 2048, .inl f102)), (qf111, .inl (cf111, 96, .inl f111)), (qf104, .inl (cf104, 8, .inl f104)), (qf118, .inl (cf118, 2100, .inl f118)), (qf119, .inl (cf119, 2100, .inl f119)), (qf105, .inl (cf105, 8, .inl f105)), (qf128, .inl (cf128, 31, .inl f128)), (qf110, .inl (cf110, 96, .inl f110)), (qf103, .inl (cf103, 8, .inl f103)), (qf106, .inl (cf106, 8, .inl f106)), (qf108, .inl (cf108, 8, .inl f108)), (qf137, .inl (cf137, 6, .inl f137))] s.heap := hP
  have hl := lv_entry ([.ref h0, .int a1, .int a2]) (n := 10) (Nat.le_of_ble_eq_true rfl)
  rw [lg_entry_eq]
  generalize (lg_sl ([.ref h0, .int a1, .int a2]) ++ List.replicate (10 - (lg_sl ([.ref h0, .int a1, .int a2])).length) Slot.unset).toArray = ls at hl ⊢
  have hl : lv_has ls 10 [(0, .ref h0), (1, .int a1), (2, .int a2)] := hl
  obtain ⟨H, hH⟩ : ∃ H : Heap, s.heap = H := ⟨_, rfl⟩
  rw [hH] at hP ⊢
  have hS : va_S A s.heap H [] := by rw [← hH]; exact va_S.rf
  obtain ⟨locs, hlo⟩ : ∃ locs : List Loc, locs = [] := ⟨_, rfl⟩
  rw [← hlo] at hS ⊢
  have hrs0 : ∀ j : Nat, j ≠ 117 → j ≠ 120 → j ≠ 121 → j ≠ 122 → j ≠ 123 → j ≠ 124 → j ≠ 125 → j ≠ 131 → j ≠ 136 → zs[j]? = zs[j]? := fun _ _ _ _ _ _ _ _ _ _  => rfl
  unfold sp_vm_flows at hsp
  refine jn_use (α := Heap × List Loc × Array Slot × List Value × Int32 × (Nat → Int32) × (Nat → Int32) × (Nat → Int32) × (Nat → Int32) × (Nat → Int32) × Int32 × Int32 × Int32 × Int32 × Int32 × Int32 × Int32 × Int32 × Int32) (fun x9 => x9.1) (fun x9 => x9.2.1) (fun x9 => F0 m 193 x9.2.2.1 [.int (x9.2.2.2.2.1)]) (fun x9 => match x9 with | (H, locs, ls, z193, rr_193, g118_193, g119_193, g127_193, g128_193, g137_193, x117_193, x120_193, x121_193, x122_193, x123_193, x124_193, x125_193, x131_193, x136_193) => va_S A s.heap H locs ∧ va_D A [(h0, .inr (13, z193)), (qf109, .inl (cf109, 96, .inl f109)), (qf100, .inl (cf100, 48000, .inl f100)), (qf127, .inl (cf127, 30, .inl g127_193)), (qf107, .inl (cf107, 96, .inl f107)), (qf102, .inl (cf102, 2048, .inl f102)), (qf111, .inl (cf111, 96, .inl f111)), (qf104, .inl (cf104, 8, .inl f104)), (qf118, .inl (cf118, 2100, .inl g118_193)), (qf119, .inl (cf119, 2100, .inl g119_193)), (qf105, .inl (cf105, 8, .inl f105)), (qf128, .inl (cf128, 31, .inl g128_193)), (qf110, .inl (cf110, 96, .inl f110)), (qf103, .inl (cf103, 8, .inl f103)), (qf106, .inl (cf106, 8, .inl f106)), (qf108, .inl (cf108, 8, .inl f108)), (qf137, .inl (cf137, 6, .inl g137_193))] ∧ va_P (dC, dI) vwCl [(h0, .inr (13, z193)), (qf109, .inl (cf109, 96, .inl f109)), (qf100, .inl (cf100, 48000, .inl f100)), (qf127, .inl (cf127, 30, .inl g127_193)), (qf107, .inl (cf107, 96, .inl f107)), (qf102, .inl (cf102, 2048, .inl f102)), (qf111, .inl (cf111, 96, .inl f111)), (qf104, .inl (cf104, 8, .inl f104)), (qf118, .inl (cf118, 2100, .inl g118_193)), (qf119, .inl (cf119, 2100, .inl g119_193)), (qf105, .inl (cf105, 8, .inl f105)), (qf128, .inl (cf128, 31, .inl g128_193)), (qf110, .inl (cf110, 96, .inl f110)), (qf103, .inl (cf103, 8, .inl f103)), (qf106, .inl (cf106, 8, .inl f106)), (qf108, .inl (cf108, 8, .inl f108)), (qf137, .inl (cf137, 6, .inl g137_193))] H ∧ z193[98]? = some (.int v98) ∧ z193[100]? = some (.ref qf100) ∧ z193[102]? = some (.ref qf102) ∧ z193[103]? = some (.ref qf103) ∧ z193[104]? = some (.ref qf104) ∧ z193[105]? = some (.ref qf105) ∧ z193[106]? = some (.ref qf106) ∧ z193[107]? = some (.ref qf107) ∧ z193[108]? = some (.ref qf108) ∧ z193[109]? = some (.ref qf109) ∧ z193[110]? = some (.ref qf110) ∧ z193[111]? = some (.ref qf111) ∧ z193[117]? = some (.int x117_193) ∧ z193[118]? = some (.ref qf118) ∧ z193[119]? = some (.ref qf119) ∧ z193[120]? = some (.int x120_193) ∧ z193[121]? = some (.int x121_193) ∧ z193[122]? = some (.int x122_193) ∧ z193[123]? = some (.int x123_193) ∧ z193[124]? = some (.int x124_193) ∧ z193[125]? = some (.int x125_193) ∧ z193[127]? = some (.ref qf127) ∧ z193[128]? = some (.ref qf128) ∧ z193[129]? = some (.int v129) ∧ z193[130]? = some (.int v130) ∧ z193[131]? = some (.int x131_193) ∧ z193[132]? = some (.int v132) ∧ z193[133]? = some (.int v133) ∧ z193[134]? = some (.int v134) ∧ z193[135]? = some (.int v135) ∧ z193[136]? = some (.int x136_193) ∧ z193[137]? = some (.ref qf137) ∧ z193.length = 155 ∧ (∀ j : Nat, j ≠ 117 → j ≠ 120 → j ≠ 121 → j ≠ 122 → j ≠ 123 → j ≠ 124 → j ≠ 125 → j ≠ 131 → j ≠ 136 → z193[j]? = zs[j]?) ∧ (rr_193 = 0 ∨ rr_193 = 1) ∧ some (rr_193, g118_193, g119_193, g127_193, g128_193, g137_193, x117_193, x120_193, x121_193, x122_193, x123_193, x124_193, x125_193, x131_193, x136_193) = some (r0, o118, o119, o127, o128, o137, w117, w120, w121, w122, w123, w124, w125, w131, w136)) ?_ ?_
  · intro x9 hJ9
    obtain ⟨H, locs, ls, z193, rr_193, g118_193, g119_193, g127_193, g128_193, g137_193, x117_193, x120_193, x121_193, x122_193, x123_193, x124_193, x125_193, x131_193, x136_193⟩ := x9
    obtain ⟨hS, hD, hP, hfh_193_98, hfh_193_100, hfh_193_102, hfh_193_103, hfh_193_104, hfh_193_105, hfh_193_106, hfh_193_107, hfh_193_108, hfh_193_109, hfh_193_110, hfh_193_111, hfh_193_117, hfh_193_118, hfh_193_119, hfh_193_120, hfh_193_121, hfh_193_122, hfh_193_123, hfh_193_124, hfh_193_125, hfh_193_127, hfh_193_128, hfh_193_129, hfh_193_130, hfh_193_131, hfh_193_132, hfh_193_133, hfh_193_134, hfh_193_135, hfh_193_136, hfh_193_137, hlh_193, hrh_193, hz9, hsp⟩ := hJ9
    replace hS : va_S A s.heap H locs := hS
    replace hD : va_D A [(h0, .inr (13, z193)), (qf109, .inl (cf109, 96, .inl f109)), (qf100, .inl (cf100, 48000, .inl f100)), (qf127, .inl (cf127, 30, .inl g127_193)), (qf107, .inl (cf107, 96, .inl f107)), (qf102, .inl (cf102, 2048, .inl f102)), (qf111, .inl (cf111, 96, .inl f111)), (qf104, .inl (cf104, 8, .inl f104)), (qf118, .inl (cf118, 2100, .inl g118_193)), (qf119, .inl (cf119, 2100, .inl g119_193)), (qf105, .inl (cf105, 8, .inl f105)), (qf128, .inl (cf128, 31, .inl g128_193)), (qf110, .inl (cf110, 96, .inl f110)), (qf103, .inl (cf103, 8, .inl f103)), (qf106, .inl (cf106, 8, .inl f106)), (qf108, .inl (cf108, 8, .inl f108)), (qf137, .inl (cf137, 6, .inl g137_193))] := hD
    replace hP : va_P (dC, dI) vwCl [(h0, .inr (13, z193)), (qf109, .inl (cf109, 96, .inl f109)), (qf100, .inl (cf100, 48000, .inl f100)), (qf127, .inl (cf127, 30, .inl g127_193)), (qf107, .inl (cf107, 96, .inl f107)), (qf102, .inl (cf102, 2048, .inl f102)), (qf111, .inl (cf111, 96, .inl f111)), (qf104, .inl (cf104, 8, .inl f104)), (qf118, .inl (cf118, 2100, .inl g118_193)), (qf119, .inl (cf119, 2100, .inl g119_193)), (qf105, .inl (cf105, 8, .inl f105)), (qf128, .inl (cf128, 31, .inl g128_193)), (qf110, .inl (cf110, 96, .inl f110)), (qf103, .inl (cf103, 8, .inl f103)), (qf106, .inl (cf106, 8, .inl f106)), (qf108, .inl (cf108, 8, .inl f108)), (qf137, .inl (cf137, 6, .inl g137_193))] H := hP
    replace hsp : some (rr_193, g118_193, g119_193, g127_193, g128_193, g137_193, x117_193, x120_193, x121_193, x122_193, x123_193, x124_193, x125_193, x131_193, x136_193) = some (r0, o118, o119, o127, o128, o137, w117, w120, w121, w122, w123, w124, w125, w131, w136) := hsp
    show W _ _ _ _ _ _ _ _ _ _ H locs _ _ _ (F0 m 193 ls [.int rr_193])
    rcases hz9 with rfl | rfl
    · skip
      have hr0 := Option.some.inj hsp
      clear hsp
      obtain ⟨hq0, hr1⟩ := Prod.mk.inj hr0
      clear hr0
      obtain ⟨hq1, hr2⟩ := Prod.mk.inj hr1
      clear hr1
      obtain ⟨hq2, hr3⟩ := Prod.mk.inj hr2
      clear hr2
      obtain ⟨hq3, hr4⟩ := Prod.mk.inj hr3
      clear hr3
      obtain ⟨hq4, hr5⟩ := Prod.mk.inj hr4
      clear hr4
      obtain ⟨hq5, hr6⟩ := Prod.mk.inj hr5
      clear hr5
      obtain ⟨hq6, hr7⟩ := Prod.mk.inj hr6
      clear hr6
      obtain ⟨hq7, hr8⟩ := Prod.mk.inj hr7
      clear hr7
      obtain ⟨hq8, hr9⟩ := Prod.mk.inj hr8
      clear hr8
      obtain ⟨hq9, hr10⟩ := Prod.mk.inj hr9
      clear hr9
      obtain ⟨hq10, hr11⟩ := Prod.mk.inj hr10
      clear hr10
      obtain ⟨hq11, hr12⟩ := Prod.mk.inj hr11
      clear hr11
      obtain ⟨hq12, hr13⟩ := Prod.mk.inj hr12
      clear hr12
      obtain ⟨hq13, hr14⟩ := Prod.mk.inj hr13
      clear hr13
      subst hq0
      subst hq1
      subst hq2
      subst hq3
      subst hq4
      subst hq5
      subst hq6
      subst hq7
      subst hq8
      subst hq9
      subst hq10
      subst hq11
      subst hq12
      subst hq13
      subst hr14
      have hP9 := hP.sub (ws' := [(h0, .inr (13, z193)), (qf109, .inl (cf109, 96, .inl f109)), (qf100, .inl (cf100, 48000, .inl f100)), (qf127, .inl (cf127, 30, .inl g127_193)), (qf107, .inl (cf107, 96, .inl f107)), (qf102, .inl (cf102, 2048, .inl f102)), (qf111, .inl (cf111, 96, .inl f111)), (qf104, .inl (cf104, 8, .inl f104)), (qf118, .inl (cf118, 2100, .inl g118_193)), (qf119, .inl (cf119, 2100, .inl g119_193)), (qf105, .inl (cf105, 8, .inl f105)), (qf128, .inl (cf128, 31, .inl g128_193)), (qf110, .inl (cf110, 96, .inl f110)), (qf103, .inl (cf103, 8, .inl f103)), (qf106, .inl (cf106, 8, .inl f106)), (qf108, .inl (cf108, 8, .inl f108)), (qf137, .inl (cf137, 6, .inl g137_193))]) [0, 1, 2, 3, 4, 5, 6, 7, 8, 9, 10, 11, 12, 13, 14, 15, 16] rfl
      have hD9 := hD.sub (ws' := [(h0, .inr (13, z193)), (qf109, .inl (cf109, 96, .inl f109)), (qf100, .inl (cf100, 48000, .inl f100)), (qf127, .inl (cf127, 30, .inl g127_193)), (qf107, .inl (cf107, 96, .inl f107)), (qf102, .inl (cf102, 2048, .inl f102)), (qf111, .inl (cf111, 96, .inl f111)), (qf104, .inl (cf104, 8, .inl f104)), (qf118, .inl (cf118, 2100, .inl g118_193)), (qf119, .inl (cf119, 2100, .inl g119_193)), (qf105, .inl (cf105, 8, .inl f105)), (qf128, .inl (cf128, 31, .inl g128_193)), (qf110, .inl (cf110, 96, .inl f110)), (qf103, .inl (cf103, 8, .inl f103)), (qf106, .inl (cf106, 8, .inl f106)), (qf108, .inl (cf108, 8, .inl f108)), (qf137, .inl (cf137, 6, .inl g137_193))]) [0, 1, 2, 3, 4, 5, 6, 7, 8, 9, 10, 11, 12, 13, 14, 15, 16] (by decide) rfl
      have hK9 := hK.sub (tys' := [(cf109, .int), (cf100, .int), (cf127, .int), (cf107, .int), (cf102, .int), (cf111, .int), (cf104, .int), (cf118, .int), (cf119, .int), (cf105, .int), (cf128, .int), (cf110, .int), (cf103, .int), (cf106, .int), (cf108, .int), (cf137, .int)]) [0, 1, 2, 3, 4, 5, 6, 7, 8, 9, 10, 11, 12, 13, 14, 15] rfl
      exact W.zret hx hb hr (by decide) (fun t ht hW => ⟨⟨(0), (z193), rfl, ⟨⟨rfl, Or.inl rfl⟩, hlh_193, hrh_193, hfh_193_117, hfh_193_120, hfh_193_121, hfh_193_122, hfh_193_123, hfh_193_124, hfh_193_125, hfh_193_131, hfh_193_136⟩, by rw [ht]; exact hP9, va_K.moved hW.alike hK9, hD9⟩, hS.F ht⟩) hS.2.2 dX13_flows_193
    · skip
      have hr0 := Option.some.inj hsp
      clear hsp
      obtain ⟨hq0, hr1⟩ := Prod.mk.inj hr0
      clear hr0
      obtain ⟨hq1, hr2⟩ := Prod.mk.inj hr1
      clear hr1
      obtain ⟨hq2, hr3⟩ := Prod.mk.inj hr2
      clear hr2
      obtain ⟨hq3, hr4⟩ := Prod.mk.inj hr3
      clear hr3
      obtain ⟨hq4, hr5⟩ := Prod.mk.inj hr4
      clear hr4
      obtain ⟨hq5, hr6⟩ := Prod.mk.inj hr5
      clear hr5
      obtain ⟨hq6, hr7⟩ := Prod.mk.inj hr6
      clear hr6
      obtain ⟨hq7, hr8⟩ := Prod.mk.inj hr7
      clear hr7
      obtain ⟨hq8, hr9⟩ := Prod.mk.inj hr8
      clear hr8
      obtain ⟨hq9, hr10⟩ := Prod.mk.inj hr9
      clear hr9
      obtain ⟨hq10, hr11⟩ := Prod.mk.inj hr10
      clear hr10
      obtain ⟨hq11, hr12⟩ := Prod.mk.inj hr11
      clear hr11
      obtain ⟨hq12, hr13⟩ := Prod.mk.inj hr12
      clear hr12
      obtain ⟨hq13, hr14⟩ := Prod.mk.inj hr13
      clear hr13
      subst hq0
      subst hq1
      subst hq2
      subst hq3
      subst hq4
      subst hq5
      subst hq6
      subst hq7
      subst hq8
      subst hq9
      subst hq10
      subst hq11
      subst hq12
      subst hq13
      subst hr14
      have hP9 := hP.sub (ws' := [(h0, .inr (13, z193)), (qf109, .inl (cf109, 96, .inl f109)), (qf100, .inl (cf100, 48000, .inl f100)), (qf127, .inl (cf127, 30, .inl g127_193)), (qf107, .inl (cf107, 96, .inl f107)), (qf102, .inl (cf102, 2048, .inl f102)), (qf111, .inl (cf111, 96, .inl f111)), (qf104, .inl (cf104, 8, .inl f104)), (qf118, .inl (cf118, 2100, .inl g118_193)), (qf119, .inl (cf119, 2100, .inl g119_193)), (qf105, .inl (cf105, 8, .inl f105)), (qf128, .inl (cf128, 31, .inl g128_193)), (qf110, .inl (cf110, 96, .inl f110)), (qf103, .inl (cf103, 8, .inl f103)), (qf106, .inl (cf106, 8, .inl f106)), (qf108, .inl (cf108, 8, .inl f108)), (qf137, .inl (cf137, 6, .inl g137_193))]) [0, 1, 2, 3, 4, 5, 6, 7, 8, 9, 10, 11, 12, 13, 14, 15, 16] rfl
      have hD9 := hD.sub (ws' := [(h0, .inr (13, z193)), (qf109, .inl (cf109, 96, .inl f109)), (qf100, .inl (cf100, 48000, .inl f100)), (qf127, .inl (cf127, 30, .inl g127_193)), (qf107, .inl (cf107, 96, .inl f107)), (qf102, .inl (cf102, 2048, .inl f102)), (qf111, .inl (cf111, 96, .inl f111)), (qf104, .inl (cf104, 8, .inl f104)), (qf118, .inl (cf118, 2100, .inl g118_193)), (qf119, .inl (cf119, 2100, .inl g119_193)), (qf105, .inl (cf105, 8, .inl f105)), (qf128, .inl (cf128, 31, .inl g128_193)), (qf110, .inl (cf110, 96, .inl f110)), (qf103, .inl (cf103, 8, .inl f103)), (qf106, .inl (cf106, 8, .inl f106)), (qf108, .inl (cf108, 8, .inl f108)), (qf137, .inl (cf137, 6, .inl g137_193))]) [0, 1, 2, 3, 4, 5, 6, 7, 8, 9, 10, 11, 12, 13, 14, 15, 16] (by decide) rfl
      have hK9 := hK.sub (tys' := [(cf109, .int), (cf100, .int), (cf127, .int), (cf107, .int), (cf102, .int), (cf111, .int), (cf104, .int), (cf118, .int), (cf119, .int), (cf105, .int), (cf128, .int), (cf110, .int), (cf103, .int), (cf106, .int), (cf108, .int), (cf137, .int)]) [0, 1, 2, 3, 4, 5, 6, 7, 8, 9, 10, 11, 12, 13, 14, 15] rfl
      exact W.zret hx hb hr (by decide) (fun t ht hW => ⟨⟨(1), (z193), rfl, ⟨⟨rfl, Or.inr rfl⟩, hlh_193, hrh_193, hfh_193_117, hfh_193_120, hfh_193_121, hfh_193_122, hfh_193_123, hfh_193_124, hfh_193_125, hfh_193_131, hfh_193_136⟩, by rw [ht]; exact hP9, va_K.moved hW.alike hK9, hD9⟩, hS.F ht⟩) hS.2.2 dX13_flows_193
  intro hret_193
  refine jn_use (α := Heap × List Loc × Array Slot × List Value × Int32 × (Nat → Int32) × (Nat → Int32) × (Nat → Int32) × (Nat → Int32) × (Nat → Int32) × Int32 × Int32 × Int32 × Int32 × Int32 × Int32 × Int32 × Int32 × Int32) (fun x9 => x9.1) (fun x9 => x9.2.1) (fun x9 => F0 m 233 x9.2.2.1 [.int (x9.2.2.2.2.1)]) (fun x9 => match x9 with | (H, locs, ls, z233, rr_233, g118_233, g119_233, g127_233, g128_233, g137_233, x117_233, x120_233, x121_233, x122_233, x123_233, x124_233, x125_233, x131_233, x136_233) => va_S A s.heap H locs ∧ va_D A [(h0, .inr (13, z233)), (qf109, .inl (cf109, 96, .inl f109)), (qf100, .inl (cf100, 48000, .inl f100)), (qf127, .inl (cf127, 30, .inl g127_233)), (qf107, .inl (cf107, 96, .inl f107)), (qf102, .inl (cf102, 2048, .inl f102)), (qf111, .inl (cf111, 96, .inl f111)), (qf104, .inl (cf104, 8, .inl f104)), (qf118, .inl (cf118, 2100, .inl g118_233)), (qf119, .inl (cf119, 2100, .inl g119_233)), (qf105, .inl (cf105, 8, .inl f105)), (qf128, .inl (cf128, 31, .inl g128_233)), (qf110, .inl (cf110, 96, .inl f110)), (qf103, .inl (cf103, 8, .inl f103)), (qf106, .inl (cf106, 8, .inl f106)), (qf108, .inl (cf108, 8, .inl f108)), (qf137, .inl (cf137, 6, .inl g137_233))] ∧ va_P (dC, dI) vwCl [(h0, .inr (13, z233)), (qf109, .inl (cf109, 96, .inl f109)), (qf100, .inl (cf100, 48000, .inl f100)), (qf127, .inl (cf127, 30, .inl g127_233)), (qf107, .inl (cf107, 96, .inl f107)), (qf102, .inl (cf102, 2048, .inl f102)), (qf111, .inl (cf111, 96, .inl f111)), (qf104, .inl (cf104, 8, .inl f104)), (qf118, .inl (cf118, 2100, .inl g118_233)), (qf119, .inl (cf119, 2100, .inl g119_233)), (qf105, .inl (cf105, 8, .inl f105)), (qf128, .inl (cf128, 31, .inl g128_233)), (qf110, .inl (cf110, 96, .inl f110)), (qf103, .inl (cf103, 8, .inl f103)), (qf106, .inl (cf106, 8, .inl f106)), (qf108, .inl (cf108, 8, .inl f108)), (qf137, .inl (cf137, 6, .inl g137_233))] H ∧ z233[98]? = some (.int v98) ∧ z233[100]? = some (.ref qf100) ∧ z233[102]? = some (.ref qf102) ∧ z233[103]? = some (.ref qf103) ∧ z233[104]? = some (.ref qf104) ∧ z233[105]? = some (.ref qf105) ∧ z233[106]? = some (.ref qf106) ∧ z233[107]? = some (.ref qf107) ∧ z233[108]? = some (.ref qf108) ∧ z233[109]? = some (.ref qf109) ∧ z233[110]? = some (.ref qf110) ∧ z233[111]? = some (.ref qf111) ∧ z233[117]? = some (.int x117_233) ∧ z233[118]? = some (.ref qf118) ∧ z233[119]? = some (.ref qf119) ∧ z233[120]? = some (.int x120_233) ∧ z233[121]? = some (.int x121_233) ∧ z233[122]? = some (.int x122_233) ∧ z233[123]? = some (.int x123_233) ∧ z233[124]? = some (.int x124_233) ∧ z233[125]? = some (.int x125_233) ∧ z233[127]? = some (.ref qf127) ∧ z233[128]? = some (.ref qf128) ∧ z233[129]? = some (.int v129) ∧ z233[130]? = some (.int v130) ∧ z233[131]? = some (.int x131_233) ∧ z233[132]? = some (.int v132) ∧ z233[133]? = some (.int v133) ∧ z233[134]? = some (.int v134) ∧ z233[135]? = some (.int v135) ∧ z233[136]? = some (.int x136_233) ∧ z233[137]? = some (.ref qf137) ∧ z233.length = 155 ∧ (∀ j : Nat, j ≠ 117 → j ≠ 120 → j ≠ 121 → j ≠ 122 → j ≠ 123 → j ≠ 124 → j ≠ 125 → j ≠ 131 → j ≠ 136 → z233[j]? = zs[j]?) ∧ (rr_233 = 0 ∨ rr_233 = 1) ∧ some (rr_233, g118_233, g119_233, g127_233, g128_233, g137_233, x117_233, x120_233, x121_233, x122_233, x123_233, x124_233, x125_233, x131_233, x136_233) = some (r0, o118, o119, o127, o128, o137, w117, w120, w121, w122, w123, w124, w125, w131, w136)) ?_ ?_
  · intro x9 hJ9
    obtain ⟨H, locs, ls, z233, rr_233, g118_233, g119_233, g127_233, g128_233, g137_233, x117_233, x120_233, x121_233, x122_233, x123_233, x124_233, x125_233, x131_233, x136_233⟩ := x9
    obtain ⟨hS, hD, hP, hfh_233_98, hfh_233_100, hfh_233_102, hfh_233_103, hfh_233_104, hfh_233_105, hfh_233_106, hfh_233_107, hfh_233_108, hfh_233_109, hfh_233_110, hfh_233_111, hfh_233_117, hfh_233_118, hfh_233_119, hfh_233_120, hfh_233_121, hfh_233_122, hfh_233_123, hfh_233_124, hfh_233_125, hfh_233_127, hfh_233_128, hfh_233_129, hfh_233_130, hfh_233_131, hfh_233_132, hfh_233_133, hfh_233_134, hfh_233_135, hfh_233_136, hfh_233_137, hlh_233, hrh_233, hz9, hsp⟩ := hJ9
    replace hS : va_S A s.heap H locs := hS
    replace hD : va_D A [(h0, .inr (13, z233)), (qf109, .inl (cf109, 96, .inl f109)), (qf100, .inl (cf100, 48000, .inl f100)), (qf127, .inl (cf127, 30, .inl g127_233)), (qf107, .inl (cf107, 96, .inl f107)), (qf102, .inl (cf102, 2048, .inl f102)), (qf111, .inl (cf111, 96, .inl f111)), (qf104, .inl (cf104, 8, .inl f104)), (qf118, .inl (cf118, 2100, .inl g118_233)), (qf119, .inl (cf119, 2100, .inl g119_233)), (qf105, .inl (cf105, 8, .inl f105)), (qf128, .inl (cf128, 31, .inl g128_233)), (qf110, .inl (cf110, 96, .inl f110)), (qf103, .inl (cf103, 8, .inl f103)), (qf106, .inl (cf106, 8, .inl f106)), (qf108, .inl (cf108, 8, .inl f108)), (qf137, .inl (cf137, 6, .inl g137_233))] := hD
    replace hP : va_P (dC, dI) vwCl [(h0, .inr (13, z233)), (qf109, .inl (cf109, 96, .inl f109)), (qf100, .inl (cf100, 48000, .inl f100)), (qf127, .inl (cf127, 30, .inl g127_233)), (qf107, .inl (cf107, 96, .inl f107)), (qf102, .inl (cf102, 2048, .inl f102)), (qf111, .inl (cf111, 96, .inl f111)), (qf104, .inl (cf104, 8, .inl f104)), (qf118, .inl (cf118, 2100, .inl g118_233)), (qf119, .inl (cf119, 2100, .inl g119_233)), (qf105, .inl (cf105, 8, .inl f105)), (qf128, .inl (cf128, 31, .inl g128_233)), (qf110, .inl (cf110, 96, .inl f110)), (qf103, .inl (cf103, 8, .inl f103)), (qf106, .inl (cf106, 8, .inl f106)), (qf108, .inl (cf108, 8, .inl f108)), (qf137, .inl (cf137, 6, .inl g137_233))] H := hP
    replace hsp : some (rr_233, g118_233, g119_233, g127_233, g128_233, g137_233, x117_233, x120_233, x121_233, x122_233, x123_233, x124_233, x125_233, x131_233, x136_233) = some (r0, o118, o119, o127, o128, o137, w117, w120, w121, w122, w123, w124, w125, w131, w136) := hsp
    show W _ _ _ _ _ _ _ _ _ _ H locs _ _ _ (F0 m 233 ls [.int rr_233])
    rcases hz9 with rfl | rfl
    · skip
      have hr0 := Option.some.inj hsp
      clear hsp
      obtain ⟨hq0, hr1⟩ := Prod.mk.inj hr0
      clear hr0
      obtain ⟨hq1, hr2⟩ := Prod.mk.inj hr1
      clear hr1
      obtain ⟨hq2, hr3⟩ := Prod.mk.inj hr2
      clear hr2
      obtain ⟨hq3, hr4⟩ := Prod.mk.inj hr3
      clear hr3
      obtain ⟨hq4, hr5⟩ := Prod.mk.inj hr4
      clear hr4
      obtain ⟨hq5, hr6⟩ := Prod.mk.inj hr5
      clear hr5
      obtain ⟨hq6, hr7⟩ := Prod.mk.inj hr6
      clear hr6
      obtain ⟨hq7, hr8⟩ := Prod.mk.inj hr7
      clear hr7
      obtain ⟨hq8, hr9⟩ := Prod.mk.inj hr8
      clear hr8
      obtain ⟨hq9, hr10⟩ := Prod.mk.inj hr9
      clear hr9
      obtain ⟨hq10, hr11⟩ := Prod.mk.inj hr10
      clear hr10
      obtain ⟨hq11, hr12⟩ := Prod.mk.inj hr11
      clear hr11
      obtain ⟨hq12, hr13⟩ := Prod.mk.inj hr12
      clear hr12
      obtain ⟨hq13, hr14⟩ := Prod.mk.inj hr13
      clear hr13
      subst hq0
      subst hq1
      subst hq2
      subst hq3
      subst hq4
      subst hq5
      subst hq6
      subst hq7
      subst hq8
      subst hq9
      subst hq10
      subst hq11
      subst hq12
      subst hq13
      subst hr14
      have hP9 := hP.sub (ws' := [(h0, .inr (13, z233)), (qf109, .inl (cf109, 96, .inl f109)), (qf100, .inl (cf100, 48000, .inl f100)), (qf127, .inl (cf127, 30, .inl g127_233)), (qf107, .inl (cf107, 96, .inl f107)), (qf102, .inl (cf102, 2048, .inl f102)), (qf111, .inl (cf111, 96, .inl f111)), (qf104, .inl (cf104, 8, .inl f104)), (qf118, .inl (cf118, 2100, .inl g118_233)), (qf119, .inl (cf119, 2100, .inl g119_233)), (qf105, .inl (cf105, 8, .inl f105)), (qf128, .inl (cf128, 31, .inl g128_233)), (qf110, .inl (cf110, 96, .inl f110)), (qf103, .inl (cf103, 8, .inl f103)), (qf106, .inl (cf106, 8, .inl f106)), (qf108, .inl (cf108, 8, .inl f108)), (qf137, .inl (cf137, 6, .inl g137_233))]) [0, 1, 2, 3, 4, 5, 6, 7, 8, 9, 10, 11, 12, 13, 14, 15, 16] rfl
      have hD9 := hD.sub (ws' := [(h0, .inr (13, z233)), (qf109, .inl (cf109, 96, .inl f109)), (qf100, .inl (cf100, 48000, .inl f100)), (qf127, .inl (cf127, 30, .inl g127_233)), (qf107, .inl (cf107, 96, .inl f107)), (qf102, .inl (cf102, 2048, .inl f102)), (qf111, .inl (cf111, 96, .inl f111)), (qf104, .inl (cf104, 8, .inl f104)), (qf118, .inl (cf118, 2100, .inl g118_233)), (qf119, .inl (cf119, 2100, .inl g119_233)), (qf105, .inl (cf105, 8, .inl f105)), (qf128, .inl (cf128, 31, .inl g128_233)), (qf110, .inl (cf110, 96, .inl f110)), (qf103, .inl (cf103, 8, .inl f103)), (qf106, .inl (cf106, 8, .inl f106)), (qf108, .inl (cf108, 8, .inl f108)), (qf137, .inl (cf137, 6, .inl g137_233))]) [0, 1, 2, 3, 4, 5, 6, 7, 8, 9, 10, 11, 12, 13, 14, 15, 16] (by decide) rfl
      have hK9 := hK.sub (tys' := [(cf109, .int), (cf100, .int), (cf127, .int), (cf107, .int), (cf102, .int), (cf111, .int), (cf104, .int), (cf118, .int), (cf119, .int), (cf105, .int), (cf128, .int), (cf110, .int), (cf103, .int), (cf106, .int), (cf108, .int), (cf137, .int)]) [0, 1, 2, 3, 4, 5, 6, 7, 8, 9, 10, 11, 12, 13, 14, 15] rfl
      exact W.zret hx hb hr (by decide) (fun t ht hW => ⟨⟨(0), (z233), rfl, ⟨⟨rfl, Or.inl rfl⟩, hlh_233, hrh_233, hfh_233_117, hfh_233_120, hfh_233_121, hfh_233_122, hfh_233_123, hfh_233_124, hfh_233_125, hfh_233_131, hfh_233_136⟩, by rw [ht]; exact hP9, va_K.moved hW.alike hK9, hD9⟩, hS.F ht⟩) hS.2.2 dX13_flows_233
    · skip
      have hr0 := Option.some.inj hsp
      clear hsp
      obtain ⟨hq0, hr1⟩ := Prod.mk.inj hr0
      clear hr0
      obtain ⟨hq1, hr2⟩ := Prod.mk.inj hr1
      clear hr1
      obtain ⟨hq2, hr3⟩ := Prod.mk.inj hr2
      clear hr2
      obtain ⟨hq3, hr4⟩ := Prod.mk.inj hr3
      clear hr3
      obtain ⟨hq4, hr5⟩ := Prod.mk.inj hr4
      clear hr4
      obtain ⟨hq5, hr6⟩ := Prod.mk.inj hr5
      clear hr5
      obtain ⟨hq6, hr7⟩ := Prod.mk.inj hr6
      clear hr6
      obtain ⟨hq7, hr8⟩ := Prod.mk.inj hr7
      clear hr7
      obtain ⟨hq8, hr9⟩ := Prod.mk.inj hr8
      clear hr8
      obtain ⟨hq9, hr10⟩ := Prod.mk.inj hr9
      clear hr9
      obtain ⟨hq10, hr11⟩ := Prod.mk.inj hr10
      clear hr10
      obtain ⟨hq11, hr12⟩ := Prod.mk.inj hr11
      clear hr11
      obtain ⟨hq12, hr13⟩ := Prod.mk.inj hr12
      clear hr12
      obtain ⟨hq13, hr14⟩ := Prod.mk.inj hr13
      clear hr13
      subst hq0
      subst hq1
      subst hq2
      subst hq3
      subst hq4
      subst hq5
      subst hq6
      subst hq7
      subst hq8
      subst hq9
      subst hq10
      subst hq11
      subst hq12
      subst hq13
      subst hr14
      have hP9 := hP.sub (ws' := [(h0, .inr (13, z233)), (qf109, .inl (cf109, 96, .inl f109)), (qf100, .inl (cf100, 48000, .inl f100)), (qf127, .inl (cf127, 30, .inl g127_233)), (qf107, .inl (cf107, 96, .inl f107)), (qf102, .inl (cf102, 2048, .inl f102)), (qf111, .inl (cf111, 96, .inl f111)), (qf104, .inl (cf104, 8, .inl f104)), (qf118, .inl (cf118, 2100, .inl g118_233)), (qf119, .inl (cf119, 2100, .inl g119_233)), (qf105, .inl (cf105, 8, .inl f105)), (qf128, .inl (cf128, 31, .inl g128_233)), (qf110, .inl (cf110, 96, .inl f110)), (qf103, .inl (cf103, 8, .inl f103)), (qf106, .inl (cf106, 8, .inl f106)), (qf108, .inl (cf108, 8, .inl f108)), (qf137, .inl (cf137, 6, .inl g137_233))]) [0, 1, 2, 3, 4, 5, 6, 7, 8, 9, 10, 11, 12, 13, 14, 15, 16] rfl
      have hD9 := hD.sub (ws' := [(h0, .inr (13, z233)), (qf109, .inl (cf109, 96, .inl f109)), (qf100, .inl (cf100, 48000, .inl f100)), (qf127, .inl (cf127, 30, .inl g127_233)), (qf107, .inl (cf107, 96, .inl f107)), (qf102, .inl (cf102, 2048, .inl f102)), (qf111, .inl (cf111, 96, .inl f111)), (qf104, .inl (cf104, 8, .inl f104)), (qf118, .inl (cf118, 2100, .inl g118_233)), (qf119, .inl (cf119, 2100, .inl g119_233)), (qf105, .inl (cf105, 8, .inl f105)), (qf128, .inl (cf128, 31, .inl g128_233)), (qf110, .inl (cf110, 96, .inl f110)), (qf103, .inl (cf103, 8, .inl f103)), (qf106, .inl (cf106, 8, .inl f106)), (qf108, .inl (cf108, 8, .inl f108)), (qf137, .inl (cf137, 6, .inl g137_233))]) [0, 1, 2, 3, 4, 5, 6, 7, 8, 9, 10, 11, 12, 13, 14, 15, 16] (by decide) rfl
      have hK9 := hK.sub (tys' := [(cf109, .int), (cf100, .int), (cf127, .int), (cf107, .int), (cf102, .int), (cf111, .int), (cf104, .int), (cf118, .int), (cf119, .int), (cf105, .int), (cf128, .int), (cf110, .int), (cf103, .int), (cf106, .int), (cf108, .int), (cf137, .int)]) [0, 1, 2, 3, 4, 5, 6, 7, 8, 9, 10, 11, 12, 13, 14, 15] rfl
      exact W.zret hx hb hr (by decide) (fun t ht hW => ⟨⟨(1), (z233), rfl, ⟨⟨rfl, Or.inr rfl⟩, hlh_233, hrh_233, hfh_233_117, hfh_233_120, hfh_233_121, hfh_233_122, hfh_233_123, hfh_233_124, hfh_233_125, hfh_233_131, hfh_233_136⟩, by rw [ht]; exact hP9, va_K.moved hW.alike hK9, hD9⟩, hS.F ht⟩) hS.2.2 dX13_flows_233
  intro hret_233
  refine jn_use (α := Heap × List Loc × Array Slot × List Value × Int32 × (Nat → Int32) × (Nat → Int32) × (Nat → Int32) × (Nat → Int32) × (Nat → Int32) × Int32 × Int32 × Int32 × Int32 × Int32 × Int32 × Int32 × Int32 × Int32) (fun x9 => x9.1) (fun x9 => x9.2.1) (fun x9 => F0 m 259 x9.2.2.1 [.int (x9.2.2.2.2.1)]) (fun x9 => match x9 with | (H, locs, ls, z259, rr_259, g118_259, g119_259, g127_259, g128_259, g137_259, x117_259, x120_259, x121_259, x122_259, x123_259, x124_259, x125_259, x131_259, x136_259) => va_S A s.heap H locs ∧ va_D A [(h0, .inr (13, z259)), (qf109, .inl (cf109, 96, .inl f109)), (qf100, .inl (cf100, 48000, .inl f100)), (qf127, .inl (cf127, 30, .inl g127_259)), (qf107, .inl (cf107, 96, .inl f107)), (qf102, .inl (cf102, 2048, .inl f102)), (qf111, .inl (cf111, 96, .inl f111)), (qf104, .inl (cf104, 8, .inl f104)), (qf118, .inl (cf118, 2100, .inl g118_259)), (qf119, .inl (cf119, 2100, .inl g119_259)), (qf105, .inl (cf105, 8, .inl f105)), (qf128, .inl (cf128, 31, .inl g128_259)), (qf110, .inl (cf110, 96, .inl f110)), (qf103, .inl (cf103, 8, .inl f103)), (qf106, .inl (cf106, 8, .inl f106)), (qf108, .inl (cf108, 8, .inl f108)), (qf137, .inl (cf137, 6, .inl g137_259))] ∧ va_P (dC, dI) vwCl [(h0, .inr (13, z259)), (qf109, .inl (cf109, 96, .inl f109)), (qf100, .inl (cf100, 48000, .inl f100)), (qf127, .inl (cf127, 30, .inl g127_259)), (qf107, .inl (cf107, 96, .inl f107)), (qf102, .inl (cf102, 2048, .inl f102)), (qf111, .inl (cf111, 96, .inl f111)), (qf104, .inl (cf104, 8, .inl f104)), (qf118, .inl (cf118, 2100, .inl g118_259)), (qf119, .inl (cf119, 2100, .inl g119_259)), (qf105, .inl (cf105, 8, .inl f105)), (qf128, .inl (cf128, 31, .inl g128_259)), (qf110, .inl (cf110, 96, .inl f110)), (qf103, .inl (cf103, 8, .inl f103)), (qf106, .inl (cf106, 8, .inl f106)), (qf108, .inl (cf108, 8, .inl f108)), (qf137, .inl (cf137, 6, .inl g137_259))] H ∧ z259[98]? = some (.int v98) ∧ z259[100]? = some (.ref qf100) ∧ z259[102]? = some (.ref qf102) ∧ z259[103]? = some (.ref qf103) ∧ z259[104]? = some (.ref qf104) ∧ z259[105]? = some (.ref qf105) ∧ z259[106]? = some (.ref qf106) ∧ z259[107]? = some (.ref qf107) ∧ z259[108]? = some (.ref qf108) ∧ z259[109]? = some (.ref qf109) ∧ z259[110]? = some (.ref qf110) ∧ z259[111]? = some (.ref qf111) ∧ z259[117]? = some (.int x117_259) ∧ z259[118]? = some (.ref qf118) ∧ z259[119]? = some (.ref qf119) ∧ z259[120]? = some (.int x120_259) ∧ z259[121]? = some (.int x121_259) ∧ z259[122]? = some (.int x122_259) ∧ z259[123]? = some (.int x123_259) ∧ z259[124]? = some (.int x124_259) ∧ z259[125]? = some (.int x125_259) ∧ z259[127]? = some (.ref qf127) ∧ z259[128]? = some (.ref qf128) ∧ z259[129]? = some (.int v129) ∧ z259[130]? = some (.int v130) ∧ z259[131]? = some (.int x131_259) ∧ z259[132]? = some (.int v132) ∧ z259[133]? = some (.int v133) ∧ z259[134]? = some (.int v134) ∧ z259[135]? = some (.int v135) ∧ z259[136]? = some (.int x136_259) ∧ z259[137]? = some (.ref qf137) ∧ z259.length = 155 ∧ (∀ j : Nat, j ≠ 117 → j ≠ 120 → j ≠ 121 → j ≠ 122 → j ≠ 123 → j ≠ 124 → j ≠ 125 → j ≠ 131 → j ≠ 136 → z259[j]? = zs[j]?) ∧ (rr_259 = 0 ∨ rr_259 = 1) ∧ some (rr_259, g118_259, g119_259, g127_259, g128_259, g137_259, x117_259, x120_259, x121_259, x122_259, x123_259, x124_259, x125_259, x131_259, x136_259) = some (r0, o118, o119, o127, o128, o137, w117, w120, w121, w122, w123, w124, w125, w131, w136)) ?_ ?_
  · intro x9 hJ9
    obtain ⟨H, locs, ls, z259, rr_259, g118_259, g119_259, g127_259, g128_259, g137_259, x117_259, x120_259, x121_259, x122_259, x123_259, x124_259, x125_259, x131_259, x136_259⟩ := x9
    obtain ⟨hS, hD, hP, hfh_259_98, hfh_259_100, hfh_259_102, hfh_259_103, hfh_259_104, hfh_259_105, hfh_259_106, hfh_259_107, hfh_259_108, hfh_259_109, hfh_259_110, hfh_259_111, hfh_259_117, hfh_259_118, hfh_259_119, hfh_259_120, hfh_259_121, hfh_259_122, hfh_259_123, hfh_259_124, hfh_259_125, hfh_259_127, hfh_259_128, hfh_259_129, hfh_259_130, hfh_259_131, hfh_259_132, hfh_259_133, hfh_259_134, hfh_259_135, hfh_259_136, hfh_259_137, hlh_259, hrh_259, hz9, hsp⟩ := hJ9
    replace hS : va_S A s.heap H locs := hS
    replace hD : va_D A [(h0, .inr (13, z259)), (qf109, .inl (cf109, 96, .inl f109)), (qf100, .inl (cf100, 48000, .inl f100)), (qf127, .inl (cf127, 30, .inl g127_259)), (qf107, .inl (cf107, 96, .inl f107)), (qf102, .inl (cf102, 2048, .inl f102)), (qf111, .inl (cf111, 96, .inl f111)), (qf104, .inl (cf104, 8, .inl f104)), (qf118, .inl (cf118, 2100, .inl g118_259)), (qf119, .inl (cf119, 2100, .inl g119_259)), (qf105, .inl (cf105, 8, .inl f105)), (qf128, .inl (cf128, 31, .inl g128_259)), (qf110, .inl (cf110, 96, .inl f110)), (qf103, .inl (cf103, 8, .inl f103)), (qf106, .inl (cf106, 8, .inl f106)), (qf108, .inl (cf108, 8, .inl f108)), (qf137, .inl (cf137, 6, .inl g137_259))] := hD
    replace hP : va_P (dC, dI) vwCl [(h0, .inr (13, z259)), (qf109, .inl (cf109, 96, .inl f109)), (qf100, .inl (cf100, 48000, .inl f100)), (qf127, .inl (cf127, 30, .inl g127_259)), (qf107, .inl (cf107, 96, .inl f107)), (qf102, .inl (cf102, 2048, .inl f102)), (qf111, .inl (cf111, 96, .inl f111)), (qf104, .inl (cf104, 8, .inl f104)), (qf118, .inl (cf118, 2100, .inl g118_259)), (qf119, .inl (cf119, 2100, .inl g119_259)), (qf105, .inl (cf105, 8, .inl f105)), (qf128, .inl (cf128, 31, .inl g128_259)), (qf110, .inl (cf110, 96, .inl f110)), (qf103, .inl (cf103, 8, .inl f103)), (qf106, .inl (cf106, 8, .inl f106)), (qf108, .inl (cf108, 8, .inl f108)), (qf137, .inl (cf137, 6, .inl g137_259))] H := hP
    replace hsp : some (rr_259, g118_259, g119_259, g127_259, g128_259, g137_259, x117_259, x120_259, x121_259, x122_259, x123_259, x124_259, x125_259, x131_259, x136_259) = some (r0, o118, o119, o127, o128, o137, w117, w120, w121, w122, w123, w124, w125, w131, w136) := hsp
    show W _ _ _ _ _ _ _ _ _ _ H locs _ _ _ (F0 m 259 ls [.int rr_259])
    rcases hz9 with rfl | rfl
    · skip
      have hr0 := Option.some.inj hsp
      clear hsp
      obtain ⟨hq0, hr1⟩ := Prod.mk.inj hr0
      clear hr0
      obtain ⟨hq1, hr2⟩ := Prod.mk.inj hr1
      clear hr1
      obtain ⟨hq2, hr3⟩ := Prod.mk.inj hr2
      clear hr2
      obtain ⟨hq3, hr4⟩ := Prod.mk.inj hr3
      clear hr3
      obtain ⟨hq4, hr5⟩ := Prod.mk.inj hr4
      clear hr4
      obtain ⟨hq5, hr6⟩ := Prod.mk.inj hr5
      clear hr5
      obtain ⟨hq6, hr7⟩ := Prod.mk.inj hr6
      clear hr6
      obtain ⟨hq7, hr8⟩ := Prod.mk.inj hr7
      clear hr7
      obtain ⟨hq8, hr9⟩ := Prod.mk.inj hr8
      clear hr8
      obtain ⟨hq9, hr10⟩ := Prod.mk.inj hr9
      clear hr9
      obtain ⟨hq10, hr11⟩ := Prod.mk.inj hr10
      clear hr10
      obtain ⟨hq11, hr12⟩ := Prod.mk.inj hr11
      clear hr11
      obtain ⟨hq12, hr13⟩ := Prod.mk.inj hr12
      clear hr12
      obtain ⟨hq13, hr14⟩ := Prod.mk.inj hr13
      clear hr13
      subst hq0
      subst hq1
      subst hq2
      subst hq3
      subst hq4
      subst hq5
      subst hq6
      subst hq7
      subst hq8
      subst hq9
      subst hq10
      subst hq11
      subst hq12
      subst hq13
      subst hr14
      have hP9 := hP.sub (ws' := [(h0, .inr (13, z259)), (qf109, .inl (cf109, 96, .inl f109)), (qf100, .inl (cf100, 48000, .inl f100)), (qf127, .inl (cf127, 30, .inl g127_259)), (qf107, .inl (cf107, 96, .inl f107)), (qf102, .inl (cf102, 2048, .inl f102)), (qf111, .inl (cf111, 96, .inl f111)), (qf104, .inl (cf104, 8, .inl f104)), (qf118, .inl (cf118, 2100, .inl g118_259)), (qf119, .inl (cf119, 2100, .inl g119_259)), (qf105, .inl (cf105, 8, .inl f105)), (qf128, .inl (cf128, 31, .inl g128_259)), (qf110, .inl (cf110, 96, .inl f110)), (qf103, .inl (cf103, 8, .inl f103)), (qf106, .inl (cf106, 8, .inl f106)), (qf108, .inl (cf108, 8, .inl f108)), (qf137, .inl (cf137, 6, .inl g137_259))]) [0, 1, 2, 3, 4, 5, 6, 7, 8, 9, 10, 11, 12, 13, 14, 15, 16] rfl
      have hD9 := hD.sub (ws' := [(h0, .inr (13, z259)), (qf109, .inl (cf109, 96, .inl f109)), (qf100, .inl (cf100, 48000, .inl f100)), (qf127, .inl (cf127, 30, .inl g127_259)), (qf107, .inl (cf107, 96, .inl f107)), (qf102, .inl (cf102, 2048, .inl f102)), (qf111, .inl (cf111, 96, .inl f111)), (qf104, .inl (cf104, 8, .inl f104)), (qf118, .inl (cf118, 2100, .inl g118_259)), (qf119, .inl (cf119, 2100, .inl g119_259)), (qf105, .inl (cf105, 8, .inl f105)), (qf128, .inl (cf128, 31, .inl g128_259)), (qf110, .inl (cf110, 96, .inl f110)), (qf103, .inl (cf103, 8, .inl f103)), (qf106, .inl (cf106, 8, .inl f106)), (qf108, .inl (cf108, 8, .inl f108)), (qf137, .inl (cf137, 6, .inl g137_259))]) [0, 1, 2, 3, 4, 5, 6, 7, 8, 9, 10, 11, 12, 13, 14, 15, 16] (by decide) rfl
      have hK9 := hK.sub (tys' := [(cf109, .int), (cf100, .int), (cf127, .int), (cf107, .int), (cf102, .int), (cf111, .int), (cf104, .int), (cf118, .int), (cf119, .int), (cf105, .int), (cf128, .int), (cf110, .int), (cf103, .int), (cf106, .int), (cf108, .int), (cf137, .int)]) [0, 1, 2, 3, 4, 5, 6, 7, 8, 9, 10, 11, 12, 13, 14, 15] rfl
      exact W.zret hx hb hr (by decide) (fun t ht hW => ⟨⟨(0), (z259), rfl, ⟨⟨rfl, Or.inl rfl⟩, hlh_259, hrh_259, hfh_259_117, hfh_259_120, hfh_259_121, hfh_259_122, hfh_259_123, hfh_259_124, hfh_259_125, hfh_259_131, hfh_259_136⟩, by rw [ht]; exact hP9, va_K.moved hW.alike hK9, hD9⟩, hS.F ht⟩) hS.2.2 dX13_flows_259
    · skip
      have hr0 := Option.some.inj hsp
      clear hsp
      obtain ⟨hq0, hr1⟩ := Prod.mk.inj hr0
      clear hr0
      obtain ⟨hq1, hr2⟩ := Prod.mk.inj hr1
      clear hr1
      obtain ⟨hq2, hr3⟩ := Prod.mk.inj hr2
      clear hr2
      obtain ⟨hq3, hr4⟩ := Prod.mk.inj hr3
      clear hr3
      obtain ⟨hq4, hr5⟩ := Prod.mk.inj hr4
      clear hr4
      obtain ⟨hq5, hr6⟩ := Prod.mk.inj hr5
      clear hr5
      obtain ⟨hq6, hr7⟩ := Prod.mk.inj hr6
      clear hr6
      obtain ⟨hq7, hr8⟩ := Prod.mk.inj hr7
      clear hr7
      obtain ⟨hq8, hr9⟩ := Prod.mk.inj hr8
      clear hr8
      obtain ⟨hq9, hr10⟩ := Prod.mk.inj hr9
      clear hr9
      obtain ⟨hq10, hr11⟩ := Prod.mk.inj hr10
      clear hr10
      obtain ⟨hq11, hr12⟩ := Prod.mk.inj hr11
      clear hr11
      obtain ⟨hq12, hr13⟩ := Prod.mk.inj hr12
      clear hr12
      obtain ⟨hq13, hr14⟩ := Prod.mk.inj hr13
      clear hr13
      subst hq0
      subst hq1
      subst hq2
      subst hq3
      subst hq4
      subst hq5
      subst hq6
      subst hq7
      subst hq8
      subst hq9
      subst hq10
      subst hq11
      subst hq12
      subst hq13
      subst hr14
      have hP9 := hP.sub (ws' := [(h0, .inr (13, z259)), (qf109, .inl (cf109, 96, .inl f109)), (qf100, .inl (cf100, 48000, .inl f100)), (qf127, .inl (cf127, 30, .inl g127_259)), (qf107, .inl (cf107, 96, .inl f107)), (qf102, .inl (cf102, 2048, .inl f102)), (qf111, .inl (cf111, 96, .inl f111)), (qf104, .inl (cf104, 8, .inl f104)), (qf118, .inl (cf118, 2100, .inl g118_259)), (qf119, .inl (cf119, 2100, .inl g119_259)), (qf105, .inl (cf105, 8, .inl f105)), (qf128, .inl (cf128, 31, .inl g128_259)), (qf110, .inl (cf110, 96, .inl f110)), (qf103, .inl (cf103, 8, .inl f103)), (qf106, .inl (cf106, 8, .inl f106)), (qf108, .inl (cf108, 8, .inl f108)), (qf137, .inl (cf137, 6, .inl g137_259))]) [0, 1, 2, 3, 4, 5, 6, 7, 8, 9, 10, 11, 12, 13, 14, 15, 16] rfl
      have hD9 := hD.sub (ws' := [(h0, .inr (13, z259)), (qf109, .inl (cf109, 96, .inl f109)), (qf100, .inl (cf100, 48000, .inl f100)), (qf127, .inl (cf127, 30, .inl g127_259)), (qf107, .inl (cf107, 96, .inl f107)), (qf102, .inl (cf102, 2048, .inl f102)), (qf111, .inl (cf111, 96, .inl f111)), (qf104, .inl (cf104, 8, .inl f104)), (qf118, .inl (cf118, 2100, .inl g118_259)), (qf119, .inl (cf119, 2100, .inl g119_259)), (qf105, .inl (cf105, 8, .inl f105)), (qf128, .inl (cf128, 31, .inl g128_259)), (qf110, .inl (cf110, 96, .inl f110)), (qf103, .inl (cf103, 8, .inl f103)), (qf106, .inl (cf106, 8, .inl f106)), (qf108, .inl (cf108, 8, .inl f108)), (qf137, .inl (cf137, 6, .inl g137_259))]) [0, 1, 2, 3, 4, 5, 6, 7, 8, 9, 10, 11, 12, 13, 14, 15, 16] (by decide) rfl
      have hK9 := hK.sub (tys' := [(cf109, .int), (cf100, .int), (cf127, .int), (cf107, .int), (cf102, .int), (cf111, .int), (cf104, .int), (cf118, .int), (cf119, .int), (cf105, .int), (cf128, .int), (cf110, .int), (cf103, .int), (cf106, .int), (cf108, .int), (cf137, .int)]) [0, 1, 2, 3, 4, 5, 6, 7, 8, 9, 10, 11, 12, 13, 14, 15] rfl
      exact W.zret hx hb hr (by decide) (fun t ht hW => ⟨⟨(1), (z259), rfl, ⟨⟨rfl, Or.inr rfl⟩, hlh_259, hrh_259, hfh_259_117, hfh_259_120, hfh_259_121, hfh_259_122, hfh_259_123, hfh_259_124, hfh_259_125, hfh_259_131, hfh_259_136⟩, by rw [ht]; exact hP9, va_K.moved hW.alike hK9, hD9⟩, hS.F ht⟩) hS.2.2 dX13_flows_259
  intro hret_259
  refine jn_use (α := Heap × List Loc × Array Slot × List Value × Int32 × (Nat → Int32) × (Nat → Int32) × (Nat → Int32) × (Nat → Int32) × (Nat → Int32) × Int32 × Int32 × Int32 × Int32 × Int32 × Int32 × Int32 × Int32 × Int32) (fun x9 => x9.1) (fun x9 => x9.2.1) (fun x9 => F0 m 279 x9.2.2.1 [.int (x9.2.2.2.2.1)]) (fun x9 => match x9 with | (H, locs, ls, z279, rr_279, g118_279, g119_279, g127_279, g128_279, g137_279, x117_279, x120_279, x121_279, x122_279, x123_279, x124_279, x125_279, x131_279, x136_279) => va_S A s.heap H locs ∧ va_D A [(h0, .inr (13, z279)), (qf109, .inl (cf109, 96, .inl f109)), (qf100, .inl (cf100, 48000, .inl f100)), (qf127, .inl (cf127, 30, .inl g127_279)), (qf107, .inl (cf107, 96, .inl f107)), (qf102, .inl (cf102, 2048, .inl f102)), (qf111, .inl (cf111, 96, .inl f111)), (qf104, .inl (cf104, 8, .inl f104)), (qf118, .inl (cf118, 2100, .inl g118_279)), (qf119, .inl (cf119, 2100, .inl g119_279)), (qf105, .inl (cf105, 8, .inl f105)), (qf128, .inl (cf128, 31, .inl g128_279)), (qf110, .inl (cf110, 96, .inl f110)), (qf103, .inl (cf103, 8, .inl f103)), (qf106, .inl (cf106, 8, .inl f106)), (qf108, .inl (cf108, 8, .inl f108)), (qf137, .inl (cf137, 6, .inl g137_279))] ∧ va_P (dC, dI) vwCl [(h0, .inr (13, z279)), (qf109, .inl (cf109, 96, .inl f109)), (qf100, .inl (cf100, 48000, .inl f100)), (qf127, .inl (cf127, 30, .inl g127_279)), (qf107, .inl (cf107, 96, .inl f107)), (qf102, .inl (cf102, 2048, .inl f102)), (qf111, .inl (cf111, 96, .inl f111)), (qf104, .inl (cf104, 8, .inl f104)), (qf118, .inl (cf118, 2100, .inl g118_279)), (qf119, .inl (cf119, 2100, .inl g119_279)), (qf105, .inl (cf105, 8, .inl f105)), (qf128, .inl (cf128, 31, .inl g128_279)), (qf110, .inl (cf110, 96, .inl f110)), (qf103, .inl (cf103, 8, .inl f103)), (qf106, .inl (cf106, 8, .inl f106)), (qf108, .inl (cf108, 8, .inl f108)), (qf137, .inl (cf137, 6, .inl g137_279))] H ∧ z279[98]? = some (.int v98) ∧ z279[100]? = some (.ref qf100) ∧ z279[102]? = some (.ref qf102) ∧ z279[103]? = some (.ref qf103) ∧ z279[104]? = some (.ref qf104) ∧ z279[105]? = some (.ref qf105) ∧ z279[106]? = some (.ref qf106) ∧ z279[107]? = some (.ref qf107) ∧ z279[108]? = some (.ref qf108) ∧ z279[109]? = some (.ref qf109) ∧ z279[110]? = some (.ref qf110) ∧ z279[111]? = some (.ref qf111) ∧ z279[117]? = some (.int x117_279) ∧ z279[118]? = some (.ref qf118) ∧ z279[119]? = some (.ref qf119) ∧ z279[120]? = some (.int x120_279) ∧ z279[121]? = some (.int x121_279) ∧ z279[122]? = some (.int x122_279) ∧ z279[123]? = some (.int x123_279) ∧ z279[124]? = some (.int x124_279) ∧ z279[125]? = some (.int x125_279) ∧ z279[127]? = some (.ref qf127) ∧ z279[128]? = some (.ref qf128) ∧ z279[129]? = some (.int v129) ∧ z279[130]? = some (.int v130) ∧ z279[131]? = some (.int x131_279) ∧ z279[132]? = some (.int v132) ∧ z279[133]? = some (.int v133) ∧ z279[134]? = some (.int v134) ∧ z279[135]? = some (.int v135) ∧ z279[136]? = some (.int x136_279) ∧ z279[137]? = some (.ref qf137) ∧ z279.length = 155 ∧ (∀ j : Nat, j ≠ 117 → j ≠ 120 → j ≠ 121 → j ≠ 122 → j ≠ 123 → j ≠ 124 → j ≠ 125 → j ≠ 131 → j ≠ 136 → z279[j]? = zs[j]?) ∧ (rr_279 = 0 ∨ rr_279 = 1) ∧ some (rr_279, g118_279, g119_279, g127_279, g128_279, g137_279, x117_279, x120_279, x121_279, x122_279, x123_279, x124_279, x125_279, x131_279, x136_279) = some (r0, o118, o119, o127, o128, o137, w117, w120, w121, w122, w123, w124, w125, w131, w136)) ?_ ?_
  · intro x9 hJ9
    obtain ⟨H, locs, ls, z279, rr_279, g118_279, g119_279, g127_279, g128_279, g137_279, x117_279, x120_279, x121_279, x122_279, x123_279, x124_279, x125_279, x131_279, x136_279⟩ := x9
    obtain ⟨hS, hD, hP, hfh_279_98, hfh_279_100, hfh_279_102, hfh_279_103, hfh_279_104, hfh_279_105, hfh_279_106, hfh_279_107, hfh_279_108, hfh_279_109, hfh_279_110, hfh_279_111, hfh_279_117, hfh_279_118, hfh_279_119, hfh_279_120, hfh_279_121, hfh_279_122, hfh_279_123, hfh_279_124, hfh_279_125, hfh_279_127, hfh_279_128, hfh_279_129, hfh_279_130, hfh_279_131, hfh_279_132, hfh_279_133, hfh_279_134, hfh_279_135, hfh_279_136, hfh_279_137, hlh_279, hrh_279, hz9, hsp⟩ := hJ9
    replace hS : va_S A s.heap H locs := hS
    replace hD : va_D A [(h0, .inr (13, z279)), (qf109, .inl (cf109, 96, .inl f109)), (qf100, .inl (cf100, 48000, .inl f100)), (qf127, .inl (cf127, 30, .inl g127_279)), (qf107, .inl (cf107, 96, .inl f107)), (qf102, .inl (cf102, 2048, .inl f102)), (qf111, .inl (cf111, 96, .inl f111)), (qf104, .inl (cf104, 8, .inl f104)), (qf118, .inl (cf118, 2100, .inl g118_279)), (qf119, .inl (cf119, 2100, .inl g119_279)), (qf105, .inl (cf105, 8, .inl f105)), (qf128, .inl (cf128, 31, .inl g128_279)), (qf110, .inl (cf110, 96, .inl f110)), (qf103, .inl (cf103, 8, .inl f103)), (qf106, .inl (cf106, 8, .inl f106)), (qf108, .inl (cf108, 8, .inl f108)), (qf137, .inl (cf137, 6, .inl g137_279))] := hD
    replace hP : va_P (dC, dI) vwCl [(h0, .inr (13, z279)), (qf109, .inl (cf109, 96, .inl f109)), (qf100, .inl (cf100, 48000, .inl f100)), (qf127, .inl (cf127, 30, .inl g127_279)), (qf107, .inl (cf107, 96, .inl f107)), (qf102, .inl (cf102, 2048, .inl f102)), (qf111, .inl (cf111, 96, .inl f111)), (qf104, .inl (cf104, 8, .inl f104)), (qf118, .inl (cf118, 2100, .inl g118_279)), (qf119, .inl (cf119, 2100, .inl g119_279)), (qf105, .inl (cf105, 8, .inl f105)), (qf128, .inl (cf128, 31, .inl g128_279)), (qf110, .inl (cf110, 96, .inl f110)), (qf103, .inl (cf103, 8, .inl f103)), (qf106, .inl (cf106, 8, .inl f106)), (qf108, .inl (cf108, 8, .inl f108)), (qf137, .inl (cf137, 6, .inl g137_279))] H := hP
    replace hsp : some (rr_279, g118_279, g119_279, g127_279, g128_279, g137_279, x117_279, x120_279, x121_279, x122_279, x123_279, x124_279, x125_279, x131_279, x136_279) = some (r0, o118, o119, o127, o128, o137, w117, w120, w121, w122, w123, w124, w125, w131, w136) := hsp
    show W _ _ _ _ _ _ _ _ _ _ H locs _ _ _ (F0 m 279 ls [.int rr_279])
    rcases hz9 with rfl | rfl
    · skip
      have hr0 := Option.some.inj hsp
      clear hsp
      obtain ⟨hq0, hr1⟩ := Prod.mk.inj hr0
      clear hr0
      obtain ⟨hq1, hr2⟩ := Prod.mk.inj hr1
      clear hr1
      obtain ⟨hq2, hr3⟩ := Prod.mk.inj hr2
      clear hr2
      obtain ⟨hq3, hr4⟩ := Prod.mk.inj hr3
      clear hr3
      obtain ⟨hq4, hr5⟩ := Prod.mk.inj hr4
      clear hr4
      obtain ⟨hq5, hr6⟩ := Prod.mk.inj hr5
      clear hr5
      obtain ⟨hq6, hr7⟩ := Prod.mk.inj hr6
      clear hr6
      obtain ⟨hq7, hr8⟩ := Prod.mk.inj hr7
      clear hr7
      obtain ⟨hq8, hr9⟩ := Prod.mk.inj hr8
      clear hr8
      obtain ⟨hq9, hr10⟩ := Prod.mk.inj hr9
      clear hr9
      obtain ⟨hq10, hr11⟩ := Prod.mk.inj hr10
      clear hr10
      obtain ⟨hq11, hr12⟩ := Prod.mk.inj hr11
      clear hr11
      obtain ⟨hq12, hr13⟩ := Prod.mk.inj hr12
      clear hr12
      obtain ⟨hq13, hr14⟩ := Prod.mk.inj hr13
      clear hr13
      subst hq0
      subst hq1
      subst hq2
      subst hq3
      subst hq4
      subst hq5
      subst hq6
      subst hq7
      subst hq8
      subst hq9
      subst hq10
      subst hq11
      subst hq12
      subst hq13
      subst hr14
      have hP9 := hP.sub (ws' := [(h0, .inr (13, z279)), (qf109, .inl (cf109, 96, .inl f109)), (qf100, .inl (cf100, 48000, .inl f100)), (qf127, .inl (cf127, 30, .inl g127_279)), (qf107, .inl (cf107, 96, .inl f107)), (qf102, .inl (cf102, 2048, .inl f102)), (qf111, .inl (cf111, 96, .inl f111)), (qf104, .inl (cf104, 8, .inl f104)), (qf118, .inl (cf118, 2100, .inl g118_279)), (qf119, .inl (cf119, 2100, .inl g119_279)), (qf105, .inl (cf105, 8, .inl f105)), (qf128, .inl (cf128, 31, .inl g128_279)), (qf110, .inl (cf110, 96, .inl f110)), (qf103, .inl (cf103, 8, .inl f103)), (qf106, .inl (cf106, 8, .inl f106)), (qf108, .inl (cf108, 8, .inl f108)), (qf137, .inl (cf137, 6, .inl g137_279))]) [0, 1, 2, 3, 4, 5, 6, 7, 8, 9, 10, 11, 12, 13, 14, 15, 16] rfl
      have hD9 := hD.sub (ws' := [(h0, .inr (13, z279)), (qf109, .inl (cf109, 96, .inl f109)), (qf100, .inl (cf100, 48000, .inl f100)), (qf127, .inl (cf127, 30, .inl g127_279)), (qf107, .inl (cf107, 96, .inl f107)), (qf102, .inl (cf102, 2048, .inl f102)), (qf111, .inl (cf111, 96, .inl f111)), (qf104, .inl (cf104, 8, .inl f104)), (qf118, .inl (cf118, 2100, .inl g118_279)), (qf119, .inl (cf119, 2100, .inl g119_279)), (qf105, .inl (cf105, 8, .inl f105)), (qf128, .inl (cf128, 31, .inl g128_279)), (qf110, .inl (cf110, 96, .inl f110)), (qf103, .inl (cf103, 8, .inl f103)), (qf106, .inl (cf106, 8, .inl f106)), (qf108, .inl (cf108, 8, .inl f108)), (qf137, .inl (cf137, 6, .inl g137_279))]) [0, 1, 2, 3, 4, 5, 6, 7, 8, 9, 10, 11, 12, 13, 14, 15, 16] (by decide) rfl
      have hK9 := hK.sub (tys' := [(cf109, .int), (cf100, .int), (cf127, .int), (cf107, .int), (cf102, .int), (cf111, .int), (cf104, .int), (cf118, .int), (cf119, .int), (cf105, .int), (cf128, .int), (cf110, .int), (cf103, .int), (cf106, .int), (cf108, .int), (cf137, .int)]) [0, 1, 2, 3, 4, 5, 6, 7, 8, 9, 10, 11, 12, 13, 14, 15] rfl
      exact W.zret hx hb hr (by decide) (fun t ht hW => ⟨⟨(0), (z279), rfl, ⟨⟨rfl, Or.inl rfl⟩, hlh_279, hrh_279, hfh_279_117, hfh_279_120, hfh_279_121, hfh_279_122, hfh_279_123, hfh_279_124, hfh_279_125, hfh_279_131, hfh_279_136⟩, by rw [ht]; exact hP9, va_K.moved hW.alike hK9, hD9⟩, hS.F ht⟩) hS.2.2 dX13_flows_279
    · skip
      have hr0 := Option.some.inj hsp
      clear hsp
      obtain ⟨hq0, hr1⟩ := Prod.mk.inj hr0
      clear hr0
      obtain ⟨hq1, hr2⟩ := Prod.mk.inj hr1
      clear hr1
      obtain ⟨hq2, hr3⟩ := Prod.mk.inj hr2
      clear hr2
      obtain ⟨hq3, hr4⟩ := Prod.mk.inj hr3
      clear hr3
      obtain ⟨hq4, hr5⟩ := Prod.mk.inj hr4
      clear hr4
      obtain ⟨hq5, hr6⟩ := Prod.mk.inj hr5
      clear hr5
      obtain ⟨hq6, hr7⟩ := Prod.mk.inj hr6
      clear hr6
      obtain ⟨hq7, hr8⟩ := Prod.mk.inj hr7
      clear hr7
      obtain ⟨hq8, hr9⟩ := Prod.mk.inj hr8
      clear hr8
      obtain ⟨hq9, hr10⟩ := Prod.mk.inj hr9
      clear hr9
      obtain ⟨hq10, hr11⟩ := Prod.mk.inj hr10
      clear hr10
      obtain ⟨hq11, hr12⟩ := Prod.mk.inj hr11
      clear hr11
      obtain ⟨hq12, hr13⟩ := Prod.mk.inj hr12
      clear hr12
      obtain ⟨hq13, hr14⟩ := Prod.mk.inj hr13
      clear hr13
      subst hq0
      subst hq1
      subst hq2
      subst hq3
      subst hq4
      subst hq5
      subst hq6
      subst hq7
      subst hq8
      subst hq9
      subst hq10
      subst hq11
      subst hq12
      subst hq13
      subst hr14
      have hP9 := hP.sub (ws' := [(h0, .inr (13, z279)), (qf109, .inl (cf109, 96, .inl f109)), (qf100, .inl (cf100, 48000, .inl f100)), (qf127, .inl (cf127, 30, .inl g127_279)), (qf107, .inl (cf107, 96, .inl f107)), (qf102, .inl (cf102, 2048, .inl f102)), (qf111, .inl (cf111, 96, .inl f111)), (qf104, .inl (cf104, 8, .inl f104)), (qf118, .inl (cf118, 2100, .inl g118_279)), (qf119, .inl (cf119, 2100, .inl g119_279)), (qf105, .inl (cf105, 8, .inl f105)), (qf128, .inl (cf128, 31, .inl g128_279)), (qf110, .inl (cf110, 96, .inl f110)), (qf103, .inl (cf103, 8, .inl f103)), (qf106, .inl (cf106, 8, .inl f106)), (qf108, .inl (cf108, 8, .inl f108)), (qf137, .inl (cf137, 6, .inl g137_279))]) [0, 1, 2, 3, 4, 5, 6, 7, 8, 9, 10, 11, 12, 13, 14, 15, 16] rfl
      have hD9 := hD.sub (ws' := [(h0, .inr (13, z279)), (qf109, .inl (cf109, 96, .inl f109)), (qf100, .inl (cf100, 48000, .inl f100)), (qf127, .inl (cf127, 30, .inl g127_279)), (qf107, .inl (cf107, 96, .inl f107)), (qf102, .inl (cf102, 2048, .inl f102)), (qf111, .inl (cf111, 96, .inl f111)), (qf104, .inl (cf104, 8, .inl f104)), (qf118, .inl (cf118, 2100, .inl g118_279)), (qf119, .inl (cf119, 2100, .inl g119_279)), (qf105, .inl (cf105, 8, .inl f105)), (qf128, .inl (cf128, 31, .inl g128_279)), (qf110, .inl (cf110, 96, .inl f110)), (qf103, .inl (cf103, 8, .inl f103)), (qf106, .inl (cf106, 8, .inl f106)), (qf108, .inl (cf108, 8, .inl f108)), (qf137, .inl (cf137, 6, .inl g137_279))]) [0, 1, 2, 3, 4, 5, 6, 7, 8, 9, 10, 11, 12, 13, 14, 15, 16] (by decide) rfl
      have hK9 := hK.sub (tys' := [(cf109, .int), (cf100, .int), (cf127, .int), (cf107, .int), (cf102, .int), (cf111, .int), (cf104, .int), (cf118, .int), (cf119, .int), (cf105, .int), (cf128, .int), (cf110, .int), (cf103, .int), (cf106, .int), (cf108, .int), (cf137, .int)]) [0, 1, 2, 3, 4, 5, 6, 7, 8, 9, 10, 11, 12, 13, 14, 15] rfl
      exact W.zret hx hb hr (by decide) (fun t ht hW => ⟨⟨(1), (z279), rfl, ⟨⟨rfl, Or.inr rfl⟩, hlh_279, hrh_279, hfh_279_117, hfh_279_120, hfh_279_121, hfh_279_122, hfh_279_123, hfh_279_124, hfh_279_125, hfh_279_131, hfh_279_136⟩, by rw [ht]; exact hP9, va_K.moved hW.alike hK9, hD9⟩, hS.F ht⟩) hS.2.2 dX13_flows_279
  intro hret_279
  refine jn_use (α := Heap × List Loc × Array Slot × List Value × Int32 × (Nat → Int32) × (Nat → Int32) × (Nat → Int32) × (Nat → Int32) × (Nat → Int32) × Int32 × Int32 × Int32 × Int32 × Int32 × Int32 × Int32 × Int32 × Int32) (fun x9 => x9.1) (fun x9 => x9.2.1) (fun x9 => F0 m 299 x9.2.2.1 [.int (x9.2.2.2.2.1)]) (fun x9 => match x9 with | (H, locs, ls, z299, rr_299, g118_299, g119_299, g127_299, g128_299, g137_299, x117_299, x120_299, x121_299, x122_299, x123_299, x124_299, x125_299, x131_299, x136_299) => va_S A s.heap H locs ∧ va_D A [(h0, .inr (13, z299)), (qf109, .inl (cf109, 96, .inl f109)), (qf100, .inl (cf100, 48000, .inl f100)), (qf127, .inl (cf127, 30, .inl g127_299)), (qf107, .inl (cf107, 96, .inl f107)), (qf102, .inl (cf102, 2048, .inl f102)), (qf111, .inl (cf111, 96, .inl f111)), (qf104, .inl (cf104, 8, .inl f104)), (qf118, .inl (cf118, 2100, .inl g118_299)), (qf119, .inl (cf119, 2100, .inl g119_299)), (qf105, .inl (cf105, 8, .inl f105)), (qf128, .inl (cf128, 31, .inl g128_299)), (qf110, .inl (cf110, 96, .inl f110)), (qf103, .inl (cf103, 8, .inl f103)), (qf106, .inl (cf106, 8, .inl f106)), (qf108, .inl (cf108, 8, .inl f108)), (qf137, .inl (cf137, 6, .inl g137_299))] ∧ va_P (dC, dI) vwCl [(h0, .inr (13, z299)), (qf109, .inl (cf109, 96, .inl f109)), (qf100, .inl (cf100, 48000, .inl f100)), (qf127, .inl (cf127, 30, .inl g127_299)), (qf107, .inl (cf107, 96, .inl f107)), (qf102, .inl (cf102, 2048, .inl f102)), (qf111, .inl (cf111, 96, .inl f111)), (qf104, .inl (cf104, 8, .inl f104)), (qf118, .inl (cf118, 2100, .inl g118_299)), (qf119, .inl (cf119, 2100, .inl g119_299)), (qf105, .inl (cf105, 8, .inl f105)), (qf128, .inl (cf128, 31, .inl g128_299)), (qf110, .inl (cf110, 96, .inl f110)), (qf103, .inl (cf103, 8, .inl f103)), (qf106, .inl (cf106, 8, .inl f106)), (qf108, .inl (cf108, 8, .inl f108)), (qf137, .inl (cf137, 6, .inl g137_299))] H ∧ z299[98]? = some (.int v98) ∧ z299[100]? = some (.ref qf100) ∧ z299[102]? = some (.ref qf102) ∧ z299[103]? = some (.ref qf103) ∧ z299[104]? = some (.ref qf104) ∧ z299[105]? = some (.ref qf105) ∧ z299[106]? = some (.ref qf106) ∧ z299[107]? = some (.ref qf107) ∧ z299[108]? = some (.ref qf108) ∧ z299[109]? = some (.ref qf109) ∧ z299[110]? = some (.ref qf110) ∧ z299[111]? = some (.ref qf111) ∧ z299[117]? = some (.int x117_299) ∧ z299[118]? = some (.ref qf118) ∧ z299[119]? = some (.ref qf119) ∧ z299[120]? = some (.int x120_299) ∧ z299[121]? = some (.int x121_299) ∧ z299[122]? = some (.int x122_299) ∧ z299[123]? = some (.int x123_299) ∧ z299[124]? = some (.int x124_299) ∧ z299[125]? = some (.int x125_299) ∧ z299[127]? = some (.ref qf127) ∧ z299[128]? = some (.ref qf128) ∧ z299[129]? = some (.int v129) ∧ z299[130]? = some (.int v130) ∧ z299[131]? = some (.int x131_299) ∧ z299[132]? = some (.int v132) ∧ z299[133]? = some (.int v133) ∧ z299[134]? = some (.int v134) ∧ z299[135]? = some (.int v135) ∧ z299[136]? = some (.int x136_299) ∧ z299[137]? = some (.ref qf137) ∧ z299.length = 155 ∧ (∀ j : Nat, j ≠ 117 → j ≠ 120 → j ≠ 121 → j ≠ 122 → j ≠ 123 → j ≠ 124 → j ≠ 125 → j ≠ 131 → j ≠ 136 → z299[j]? = zs[j]?) ∧ (rr_299 = 0 ∨ rr_299 = 1) ∧ some (rr_299, g118_299, g119_299, g127_299, g128_299, g137_299, x117_299, x120_299, x121_299, x122_299, x123_299, x124_299, x125_299, x131_299, x136_299) = some (r0, o118, o119, o127, o128, o137, w117, w120, w121, w122, w123, w124, w125, w131, w136)) ?_ ?_
  · intro x9 hJ9
    obtain ⟨H, locs, ls, z299, rr_299, g118_299, g119_299, g127_299, g128_299, g137_299, x117_299, x120_299, x121_299, x122_299, x123_299, x124_299, x125_299, x131_299, x136_299⟩ := x9
    obtain ⟨hS, hD, hP, hfh_299_98, hfh_299_100, hfh_299_102, hfh_299_103, hfh_299_104, hfh_299_105, hfh_299_106, hfh_299_107, hfh_299_108, hfh_299_109, hfh_299_110, hfh_299_111, hfh_299_117, hfh_299_118, hfh_299_119, hfh_299_120, hfh_299_121, hfh_299_122, hfh_299_123, hfh_299_124, hfh_299_125, hfh_299_127, hfh_299_128, hfh_299_129, hfh_299_130, hfh_299_131, hfh_299_132, hfh_299_133, hfh_299_134, hfh_299_135, hfh_299_136, hfh_299_137, hlh_299, hrh_299, hz9, hsp⟩ := hJ9
    replace hS : va_S A s.heap H locs := hS
    replace hD : va_D A [(h0, .inr (13, z299)), (qf109, .inl (cf109, 96, .inl f109)), (qf100, .inl (cf100, 48000, .inl f100)), (qf127, .inl (cf127, 30, .inl g127_299)), (qf107, .inl (cf107, 96, .inl f107)), (qf102, .inl (cf102, 2048, .inl f102)), (qf111, .inl (cf111, 96, .inl f111)), (qf104, .inl (cf104, 8, .inl f104)), (qf118, .inl (cf118, 2100, .inl g118_299)), (qf119, .inl (cf119, 2100, .inl g119_299)), (qf105, .inl (cf105, 8, .inl f105)), (qf128, .inl (cf128, 31, .inl g128_299)), (qf110, .inl (cf110, 96, .inl f110)), (qf103, .inl (cf103, 8, .inl f103)), (qf106, .inl (cf106, 8, .inl f106)), (qf108, .inl (cf108, 8, .inl f108)), (qf137, .inl (cf137, 6, .inl g137_299))] := hD
    replace hP : va_P (dC, dI) vwCl [(h0, .inr (13, z299)), (qf109, .inl (cf109, 96, .inl f109)), (qf100, .inl (cf100, 48000, .inl f100)), (qf127, .inl (cf127, 30, .inl g127_299)), (qf107, .inl (cf107, 96, .inl f107)), (qf102, .inl (cf102, 2048, .inl f102)), (qf111, .inl (cf111, 96, .inl f111)), (qf104, .inl (cf104, 8, .inl f104)), (qf118, .inl (cf118, 2100, .inl g118_299)), (qf119, .inl (cf119, 2100, .inl g119_299)), (qf105, .inl (cf105, 8, .inl f105)), (qf128, .inl (cf128, 31, .inl g128_299)), (qf110, .inl (cf110, 96, .inl f110)), (qf103, .inl (cf103, 8, .inl f103)), (qf106, .inl (cf106, 8, .inl f106)), (qf108, .inl (cf108, 8, .inl f108)), (qf137, .inl (cf137, 6, .inl g137_299))] H := hP
    replace hsp : some (rr_299, g118_299, g119_299, g127_299, g128_299, g137_299, x117_299, x120_299, x121_299, x122_299, x123_299, x124_299, x125_299, x131_299, x136_299) = some (r0, o118, o119, o127, o128, o137, w117, w120, w121, w122, w123, w124, w125, w131, w136) := hsp
    show W _ _ _ _ _ _ _ _ _ _ H locs _ _ _ (F0 m 299 ls [.int rr_299])
    rcases hz9 with rfl | rfl
    · skip
      have hr0 := Option.some.inj hsp
      clear hsp
      obtain ⟨hq0, hr1⟩ := Prod.mk.inj hr0
      clear hr0
      obtain ⟨hq1, hr2⟩ := Prod.mk.inj hr1
      clear hr1
      obtain ⟨hq2, hr3⟩ := Prod.mk.inj hr2
      clear hr2
      obtain ⟨hq3, hr4⟩ := Prod.mk.inj hr3
      clear hr3
      obtain ⟨hq4, hr5⟩ := Prod.mk.inj hr4
      clear hr4
      obtain ⟨hq5, hr6⟩ := Prod.mk.inj hr5
      clear hr5
      obtain ⟨hq6, hr7⟩ := Prod.mk.inj hr6
      clear hr6
      obtain ⟨hq7, hr8⟩ := Prod.mk.inj hr7
      clear hr7
      obtain ⟨hq8, hr9⟩ := Prod.mk.inj hr8
      clear hr8
      obtain ⟨hq9, hr10⟩ := Prod.mk.inj hr9
      clear hr9
      obtain ⟨hq10, hr11⟩ := Prod.mk.inj hr10
      clear hr10
      obtain ⟨hq11, hr12⟩ := Prod.mk.inj hr11
      clear hr11
      obtain ⟨hq12, hr13⟩ := Prod.mk.inj hr12
      clear hr12
      obtain ⟨hq13, hr14⟩ := Prod.mk.inj hr13
      clear hr13
      subst hq0
      subst hq1
      subst hq2
      subst hq3
      subst hq4
      subst hq5
      subst hq6
      subst hq7
      subst hq8
      subst hq9
      subst hq10
      subst hq11
      subst hq12
      subst hq13
      subst hr14
      have hP9 := hP.sub (ws' := [(h0, .inr (13, z299)), (qf109, .inl (cf109, 96, .inl f109)), (qf100, .inl (cf100, 48000, .inl f100)), (qf127, .inl (cf127, 30, .inl g127_299)), (qf107, .inl (cf107, 96, .inl f107)), (qf102, .inl (cf102, 2048, .inl f102)), (qf111, .inl (cf111, 96, .inl f111)), (qf104, .inl (cf104, 8, .inl f104)), (qf118, .inl (cf118, 2100, .inl g118_299)), (qf119, .inl (cf119, 2100, .inl g119_299)), (qf105, .inl (cf105, 8, .inl f105)), (qf128, .inl (cf128, 31, .inl g128_299)), (qf110, .inl (cf110, 96, .inl f110)), (qf103, .inl (cf103, 8, .inl f103)), (qf106, .inl (cf106, 8, .inl f106)), (qf108, .inl (cf108, 8, .inl f108)), (qf137, .inl (cf137, 6, .inl g137_299))]) [0, 1, 2, 3, 4, 5, 6, 7, 8, 9, 10, 11, 12, 13, 14, 15, 16] rfl
      have hD9 := hD.sub (ws' := [(h0, .inr (13, z299)), (qf109, .inl (cf109, 96, .inl f109)), (qf100, .inl (cf100, 48000, .inl f100)), (qf127, .inl (cf127, 30, .inl g127_299)), (qf107, .inl (cf107, 96, .inl f107)), (qf102, .inl (cf102, 2048, .inl f102)), (qf111, .inl (cf111, 96, .inl f111)), (qf104, .inl (cf104, 8, .inl f104)), (qf118, .inl (cf118, 2100, .inl g118_299)), (qf119, .inl (cf119, 2100, .inl g119_299)), (qf105, .inl (cf105, 8, .inl f105)), (qf128, .inl (cf128, 31, .inl g128_299)), (qf110, .inl (cf110, 96, .inl f110)), (qf103, .inl (cf103, 8, .inl f103)), (qf106, .inl (cf106, 8, .inl f106)), (qf108, .inl (cf108, 8, .inl f108)), (qf137, .inl (cf137, 6, .inl g137_299))]) [0, 1, 2, 3, 4, 5, 6, 7, 8, 9, 10, 11, 12, 13, 14, 15, 16] (by decide) rfl
      have hK9 := hK.sub (tys' := [(cf109, .int), (cf100, .int), (cf127, .int), (cf107, .int), (cf102, .int), (cf111, .int), (cf104, .int), (cf118, .int), (cf119, .int), (cf105, .int), (cf128, .int), (cf110, .int), (cf103, .int), (cf106, .int), (cf108, .int), (cf137, .int)]) [0, 1, 2, 3, 4, 5, 6, 7, 8, 9, 10, 11, 12, 13, 14, 15] rfl
      exact W.zret hx hb hr (by decide) (fun t ht hW => ⟨⟨(0), (z299), rfl, ⟨⟨rfl, Or.inl rfl⟩, hlh_299, hrh_299, hfh_299_117, hfh_299_120, hfh_299_121, hfh_299_122, hfh_299_123, hfh_299_124, hfh_299_125, hfh_299_131, hfh_299_136⟩, by rw [ht]; exact hP9, va_K.moved hW.alike hK9, hD9⟩, hS.F ht⟩) hS.2.2 dX13_flows_299
    · skip
      have hr0 := Option.some.inj hsp
      clear hsp
      obtain ⟨hq0, hr1⟩ := Prod.mk.inj hr0
      clear hr0
      obtain ⟨hq1, hr2⟩ := Prod.mk.inj hr1
      clear hr1
      obtain ⟨hq2, hr3⟩ := Prod.mk.inj hr2
      clear hr2
      obtain ⟨hq3, hr4⟩ := Prod.mk.inj hr3
      clear hr3
      obtain ⟨hq4, hr5⟩ := Prod.mk.inj hr4
      clear hr4
      obtain ⟨hq5, hr6⟩ := Prod.mk.inj hr5
      clear hr5
      obtain ⟨hq6, hr7⟩ := Prod.mk.inj hr6
      clear hr6
      obtain ⟨hq7, hr8⟩ := Prod.mk.inj hr7
      clear hr7
      obtain ⟨hq8, hr9⟩ := Prod.mk.inj hr8
      clear hr8
      obtain ⟨hq9, hr10⟩ := Prod.mk.inj hr9
      clear hr9
      obtain ⟨hq10, hr11⟩ := Prod.mk.inj hr10
      clear hr10
      obtain ⟨hq11, hr12⟩ := Prod.mk.inj hr11
      clear hr11
      obtain ⟨hq12, hr13⟩ := Prod.mk.inj hr12
      clear hr12
      obtain ⟨hq13, hr14⟩ := Prod.mk.inj hr13
      clear hr13
      subst hq0
      subst hq1
      subst hq2
      subst hq3
      subst hq4
      subst hq5
      subst hq6
      subst hq7
      subst hq8
      subst hq9
      subst hq10
      subst hq11
      subst hq12
      subst hq13
      subst hr14
      have hP9 := hP.sub (ws' := [(h0, .inr (13, z299)), (qf109, .inl (cf109, 96, .inl f109)), (qf100, .inl (cf100, 48000, .inl f100)), (qf127, .inl (cf127, 30, .inl g127_299)), (qf107, .inl (cf107, 96, .inl f107)), (qf102, .inl (cf102, 2048, .inl f102)), (qf111, .inl (cf111, 96, .inl f111)), (qf104, .inl (cf104, 8, .inl f104)), (qf118, .inl (cf118, 2100, .inl g118_299)), (qf119, .inl (cf119, 2100, .inl g119_299)), (qf105, .inl (cf105, 8, .inl f105)), (qf128, .inl (cf128, 31, .inl g128_299)), (qf110, .inl (cf110, 96, .inl f110)), (qf103, .inl (cf103, 8, .inl f103)), (qf106, .inl (cf106, 8, .inl f106)), (qf108, .inl (cf108, 8, .inl f108)), (qf137, .inl (cf137, 6, .inl g137_299))]) [0, 1, 2, 3, 4, 5, 6, 7, 8, 9, 10, 11, 12, 13, 14, 15, 16] rfl
      have hD9 := hD.sub (ws' := [(h0, .inr (13, z299)), (qf109, .inl (cf109, 96, .inl f109)), (qf100, .inl (cf100, 48000, .inl f100)), (qf127, .inl (cf127, 30, .inl g127_299)), (qf107, .inl (cf107, 96, .inl f107)), (qf102, .inl (cf102, 2048, .inl f102)), (qf111, .inl (cf111, 96, .inl f111)), (qf104, .inl (cf104, 8, .inl f104)), (qf118, .inl (cf118, 2100, .inl g118_299)), (qf119, .inl (cf119, 2100, .inl g119_299)), (qf105, .inl (cf105, 8, .inl f105)), (qf128, .inl (cf128, 31, .inl g128_299)), (qf110, .inl (cf110, 96, .inl f110)), (qf103, .inl (cf103, 8, .inl f103)), (qf106, .inl (cf106, 8, .inl f106)), (qf108, .inl (cf108, 8, .inl f108)), (qf137, .inl (cf137, 6, .inl g137_299))]) [0, 1, 2, 3, 4, 5, 6, 7, 8, 9, 10, 11, 12, 13, 14, 15, 16] (by decide) rfl
      have hK9 := hK.sub (tys' := [(cf109, .int), (cf100, .int), (cf127, .int), (cf107, .int), (cf102, .int), (cf111, .int), (cf104, .int), (cf118, .int), (cf119, .int), (cf105, .int), (cf128, .int), (cf110, .int), (cf103, .int), (cf106, .int), (cf108, .int), (cf137, .int)]) [0, 1, 2, 3, 4, 5, 6, 7, 8, 9, 10, 11, 12, 13, 14, 15] rfl
      exact W.zret hx hb hr (by decide) (fun t ht hW => ⟨⟨(1), (z299), rfl, ⟨⟨rfl, Or.inr rfl⟩, hlh_299, hrh_299, hfh_299_117, hfh_299_120, hfh_299_121, hfh_299_122, hfh_299_123, hfh_299_124, hfh_299_125, hfh_299_131, hfh_299_136⟩, by rw [ht]; exact hP9, va_K.moved hW.alike hK9, hD9⟩, hS.F ht⟩) hS.2.2 dX13_flows_299
  intro hret_299
  refine jn_use (α := Heap × List Loc × Array Slot × List Value × Int32 × (Nat → Int32) × (Nat → Int32) × (Nat → Int32) × (Nat → Int32) × (Nat → Int32) × Int32 × Int32 × Int32 × Int32 × Int32 × Int32 × Int32 × Int32 × Int32) (fun x9 => x9.1) (fun x9 => x9.2.1) (fun x9 => F0 m 362 x9.2.2.1 [.int (x9.2.2.2.2.1)]) (fun x9 => match x9 with | (H, locs, ls, z362, rr_362, g118_362, g119_362, g127_362, g128_362, g137_362, x117_362, x120_362, x121_362, x122_362, x123_362, x124_362, x125_362, x131_362, x136_362) => va_S A s.heap H locs ∧ va_D A [(h0, .inr (13, z362)), (qf109, .inl (cf109, 96, .inl f109)), (qf100, .inl (cf100, 48000, .inl f100)), (qf127, .inl (cf127, 30, .inl g127_362)), (qf107, .inl (cf107, 96, .inl f107)), (qf102, .inl (cf102, 2048, .inl f102)), (qf111, .inl (cf111, 96, .inl f111)), (qf104, .inl (cf104, 8, .inl f104)), (qf118, .inl (cf118, 2100, .inl g118_362)), (qf119, .inl (cf119, 2100, .inl g119_362)), (qf105, .inl (cf105, 8, .inl f105)), (qf128, .inl (cf128, 31, .inl g128_362)), (qf110, .inl (cf110, 96, .inl f110)), (qf103, .inl (cf103, 8, .inl f103)), (qf106, .inl (cf106, 8, .inl f106)), (qf108, .inl (cf108, 8, .inl f108)), (qf137, .inl (cf137, 6, .inl g137_362))] ∧ va_P (dC, dI) vwCl [(h0, .inr (13, z362)), (qf109, .inl (cf109, 96, .inl f109)), (qf100, .inl (cf100, 48000, .inl f100)), (qf127, .inl (cf127, 30, .inl g127_362)), (qf107, .inl (cf107, 96, .inl f107)), (qf102, .inl (cf102, 2048, .inl f102)), (qf111, .inl (cf111, 96, .inl f111)), (qf104, .inl (cf104, 8, .inl f104)), (qf118, .inl (cf118, 2100, .inl g118_362)), (qf119, .inl (cf119, 2100, .inl g119_362)), (qf105, .inl (cf105, 8, .inl f105)), (qf128, .inl (cf128, 31, .inl g128_362)), (qf110, .inl (cf110, 96, .inl f110)), (qf103, .inl (cf103, 8, .inl f103)), (qf106, .inl (cf106, 8, .inl f106)), (qf108, .inl (cf108, 8, .inl f108)), (qf137, .inl (cf137, 6, .inl g137_362))] H ∧ z362[98]? = some (.int v98) ∧ z362[100]? = some (.ref qf100) ∧ z362[102]? = some (.ref qf102) ∧ z362[103]? = some (.ref qf103) ∧ z362[104]? = some (.ref qf104) ∧ z362[105]? = some (.ref qf105) ∧ z362[106]? = some (.ref qf106) ∧ z362[107]? = some (.ref qf107) ∧ z362[108]? = some (.ref qf108) ∧ z362[109]? = some (.ref qf109) ∧ z362[110]? = some (.ref qf110) ∧ z362[111]? = some (.ref qf111) ∧ z362[117]? = some (.int x117_362) ∧ z362[118]? = some (.ref qf118) ∧ z362[119]? = some (.ref qf119) ∧ z362[120]? = some (.int x120_362) ∧ z362[121]? = some (.int x121_362) ∧ z362[122]? = some (.int x122_362) ∧ z362[123]? = some (.int x123_362) ∧ z362[124]? = some (.int x124_362) ∧ z362[125]? = some (.int x125_362) ∧ z362[127]? = some (.ref qf127) ∧ z362[128]? = some (.ref qf128) ∧ z362[129]? = some (.int v129) ∧ z362[130]? = some (.int v130) ∧ z362[131]? = some (.int x131_362) ∧ z362[132]? = some (.int v132) ∧ z362[133]? = some (.int v133) ∧ z362[134]? = some (.int v134) ∧ z362[135]? = some (.int v135) ∧ z362[136]? = some (.int x136_362) ∧ z362[137]? = some (.ref qf137) ∧ z362.length = 155 ∧ (∀ j : Nat, j ≠ 117 → j ≠ 120 → j ≠ 121 → j ≠ 122 → j ≠ 123 → j ≠ 124 → j ≠ 125 → j ≠ 131 → j ≠ 136 → z362[j]? = zs[j]?) ∧ (rr_362 = 0 ∨ rr_362 = 1) ∧ some (rr_362, g118_362, g119_362, g127_362, g128_362, g137_362, x117_362, x120_362, x121_362, x122_362, x123_362, x124_362, x125_362, x131_362, x136_362) = some (r0, o118, o119, o127, o128, o137, w117, w120, w121, w122, w123, w124, w125, w131, w136)) ?_ ?_
  · intro x9 hJ9
    obtain ⟨H, locs, ls, z362, rr_362, g118_362, g119_362, g127_362, g128_362, g137_362, x117_362, x120_362, x121_362, x122_362, x123_362, x124_362, x125_362, x131_362, x136_362⟩ := x9
    obtain ⟨hS, hD, hP, hfh_362_98, hfh_362_100, hfh_362_102, hfh_362_103, hfh_362_104, hfh_362_105, hfh_362_106, hfh_362_107, hfh_362_108, hfh_362_109, hfh_362_110, hfh_362_111, hfh_362_117, hfh_362_118, hfh_362_119, hfh_362_120, hfh_362_121, hfh_362_122, hfh_362_123, hfh_362_124, hfh_362_125, hfh_362_127, hfh_362_128, hfh_362_129, hfh_362_130, hfh_362_131, hfh_362_132, hfh_362_133, hfh_362_134, hfh_362_135, hfh_362_136, hfh_362_137, hlh_362, hrh_362, hz9, hsp⟩ := hJ9
    replace hS : va_S A s.heap H locs := hS
    replace hD : va_D A [(h0, .inr (13, z362)), (qf109, .inl (cf109, 96, .inl f109)), (qf100, .inl (cf100, 48000, .inl f100)), (qf127, .inl (cf127, 30, .inl g127_362)), (qf107, .inl (cf107, 96, .inl f107)), (qf102, .inl (cf102, 2048, .inl f102)), (qf111, .inl (cf111, 96, .inl f111)), (qf104, .inl (cf104, 8, .inl f104)), (qf118, .inl (cf118, 2100, .inl g118_362)), (qf119, .inl (cf119, 2100, .inl g119_362)), (qf105, .inl (cf105, 8, .inl f105)), (qf128, .inl (cf128, 31, .inl g128_362)), (qf110, .inl (cf110, 96, .inl f110)), (qf103, .inl (cf103, 8, .inl f103)), (qf106, .inl (cf106, 8, .inl f106)), (qf108, .inl (cf108, 8, .inl f108)), (qf137, .inl (cf137, 6, .inl g137_362))] := hD
    replace hP : va_P (dC, dI) vwCl [(h0, .inr (13, z362)), (qf109, .inl (cf109, 96, .inl f109)), (qf100, .inl (cf100, 48000, .inl f100)), (qf127, .inl (cf127, 30, .inl g127_362)), (qf107, .inl (cf107, 96, .inl f107)), (qf102, .inl (cf102, 2048, .inl f102)), (qf111, .inl (cf111, 96, .inl f111)), (qf104, .inl (cf104, 8, .inl f104)), (qf118, .inl (cf118, 2100, .inl g118_362)), (qf119, .inl (cf119, 2100, .inl g119_362)), (qf105, .inl (cf105, 8, .inl f105)), (qf128, .inl (cf128, 31, .inl g128_362)), (qf110, .inl (cf110, 96, .inl f110)), (qf103, .inl (cf103, 8, .inl f103)), (qf106, .inl (cf106, 8, .inl f106)), (qf108, .inl (cf108, 8, .inl f108)), (qf137, .inl (cf137, 6, .inl g137_362))] H := hP
    replace hsp : some (rr_362, g118_362, g119_362, g127_362, g128_362, g137_362, x117_362, x120_362, x121_362, x122_362, x123_362, x124_362, x125_362, x131_362, x136_362) = some (r0, o118, o119, o127, o128, o137, w117, w120, w121, w122, w123, w124, w125, w131, w136) := hsp
    show W _ _ _ _ _ _ _ _ _ _ H locs _ _ _ (F0 m 362 ls [.int rr_362])
    rcases hz9 with rfl | rfl
    · skip
      have hr0 := Option.some.inj hsp
      clear hsp
      obtain ⟨hq0, hr1⟩ := Prod.mk.inj hr0
      clear hr0
      obtain ⟨hq1, hr2⟩ := Prod.mk.inj hr1
      clear hr1
      obtain ⟨hq2, hr3⟩ := Prod.mk.inj hr2
      clear hr2
      obtain ⟨hq3, hr4⟩ := Prod.mk.inj hr3
      clear hr3
      obtain ⟨hq4, hr5⟩ := Prod.mk.inj hr4
      clear hr4
      obtain ⟨hq5, hr6⟩ := Prod.mk.inj hr5
      clear hr5
      obtain ⟨hq6, hr7⟩ := Prod.mk.inj hr6
      clear hr6
      obtain ⟨hq7, hr8⟩ := Prod.mk.inj hr7
      clear hr7
      obtain ⟨hq8, hr9⟩ := Prod.mk.inj hr8
      clear hr8
      obtain ⟨hq9, hr10⟩ := Prod.mk.inj hr9
      clear hr9
      obtain ⟨hq10, hr11⟩ := Prod.mk.inj hr10
      clear hr10
      obtain ⟨hq11, hr12⟩ := Prod.mk.inj hr11
      clear hr11
      obtain ⟨hq12, hr13⟩ := Prod.mk.inj hr12
      clear hr12
      obtain ⟨hq13, hr14⟩ := Prod.mk.inj hr13
      clear hr13
      subst hq0
      subst hq1
      subst hq2
      subst hq3
      subst hq4
      subst hq5
      subst hq6
      subst hq7
      subst hq8
      subst hq9
      subst hq10
      subst hq11
      subst hq12
      subst hq13
      subst hr14
      have hP9 := hP.sub (ws' := [(h0, .inr (13, z362)), (qf109, .inl (cf109, 96, .inl f109)), (qf100, .inl (cf100, 48000, .inl f100)), (qf127, .inl (cf127, 30, .inl g127_362)), (qf107, .inl (cf107, 96, .inl f107)), (qf102, .inl (cf102, 2048, .inl f102)), (qf111, .inl (cf111, 96, .inl f111)), (qf104, .inl (cf104, 8, .inl f104)), (qf118, .inl (cf118, 2100, .inl g118_362)), (qf119, .inl (cf119, 2100, .inl g119_362)), (qf105, .inl (cf105, 8, .inl f105)), (qf128, .inl (cf128, 31, .inl g128_362)), (qf110, .inl (cf110, 96, .inl f110)), (qf103, .inl (cf103, 8, .inl f103)), (qf106, .inl (cf106, 8, .inl f106)), (qf108, .inl (cf108, 8, .inl f108)), (qf137, .inl (cf137, 6, .inl g137_362))]) [0, 1, 2, 3, 4, 5, 6, 7, 8, 9, 10, 11, 12, 13, 14, 15, 16] rfl
      have hD9 := hD.sub (ws' := [(h0, .inr (13, z362)), (qf109, .inl (cf109, 96, .inl f109)), (qf100, .inl (cf100, 48000, .inl f100)), (qf127, .inl (cf127, 30, .inl g127_362)), (qf107, .inl (cf107, 96, .inl f107)), (qf102, .inl (cf102, 2048, .inl f102)), (qf111, .inl (cf111, 96, .inl f111)), (qf104, .inl (cf104, 8, .inl f104)), (qf118, .inl (cf118, 2100, .inl g118_362)), (qf119, .inl (cf119, 2100, .inl g119_362)), (qf105, .inl (cf105, 8, .inl f105)), (qf128, .inl (cf128, 31, .inl g128_362)), (qf110, .inl (cf110, 96, .inl f110)), (qf103, .inl (cf103, 8, .inl f103)), (qf106, .inl (cf106, 8, .inl f106)), (qf108, .inl (cf108, 8, .inl f108)), (qf137, .inl (cf137, 6, .inl g137_362))]) [0, 1, 2, 3, 4, 5, 6, 7, 8, 9, 10, 11, 12, 13, 14, 15, 16] (by decide) rfl
      have hK9 := hK.sub (tys' := [(cf109, .int), (cf100, .int), (cf127, .int), (cf107, .int), (cf102, .int), (cf111, .int), (cf104, .int), (cf118, .int), (cf119, .int), (cf105, .int), (cf128, .int), (cf110, .int), (cf103, .int), (cf106, .int), (cf108, .int), (cf137, .int)]) [0, 1, 2, 3, 4, 5, 6, 7, 8, 9, 10, 11, 12, 13, 14, 15] rfl
      exact W.zret hx hb hr (by decide) (fun t ht hW => ⟨⟨(0), (z362), rfl, ⟨⟨rfl, Or.inl rfl⟩, hlh_362, hrh_362, hfh_362_117, hfh_362_120, hfh_362_121, hfh_362_122, hfh_362_123, hfh_362_124, hfh_362_125, hfh_362_131, hfh_362_136⟩, by rw [ht]; exact hP9, va_K.moved hW.alike hK9, hD9⟩, hS.F ht⟩) hS.2.2 dX13_flows_362
    · skip
      have hr0 := Option.some.inj hsp
      clear hsp
      obtain ⟨hq0, hr1⟩ := Prod.mk.inj hr0
      clear hr0
      obtain ⟨hq1, hr2⟩ := Prod.mk.inj hr1
      clear hr1
      obtain ⟨hq2, hr3⟩ := Prod.mk.inj hr2
      clear hr2
      obtain ⟨hq3, hr4⟩ := Prod.mk.inj hr3
      clear hr3
      obtain ⟨hq4, hr5⟩ := Prod.mk.inj hr4
      clear hr4
      obtain ⟨hq5, hr6⟩ := Prod.mk.inj hr5
      clear hr5
      obtain ⟨hq6, hr7⟩ := Prod.mk.inj hr6
      clear hr6
      obtain ⟨hq7, hr8⟩ := Prod.mk.inj hr7
      clear hr7
      obtain ⟨hq8, hr9⟩ := Prod.mk.inj hr8
      clear hr8
      obtain ⟨hq9, hr10⟩ := Prod.mk.inj hr9
      clear hr9
      obtain ⟨hq10, hr11⟩ := Prod.mk.inj hr10
      clear hr10
      obtain ⟨hq11, hr12⟩ := Prod.mk.inj hr11
      clear hr11
      obtain ⟨hq12, hr13⟩ := Prod.mk.inj hr12
      clear hr12
      obtain ⟨hq13, hr14⟩ := Prod.mk.inj hr13
      clear hr13
      subst hq0
      subst hq1
      subst hq2
      subst hq3
      subst hq4
      subst hq5
      subst hq6
      subst hq7
      subst hq8
      subst hq9
      subst hq10
      subst hq11
      subst hq12
      subst hq13
      subst hr14
      have hP9 := hP.sub (ws' := [(h0, .inr (13, z362)), (qf109, .inl (cf109, 96, .inl f109)), (qf100, .inl (cf100, 48000, .inl f100)), (qf127, .inl (cf127, 30, .inl g127_362)), (qf107, .inl (cf107, 96, .inl f107)), (qf102, .inl (cf102, 2048, .inl f102)), (qf111, .inl (cf111, 96, .inl f111)), (qf104, .inl (cf104, 8, .inl f104)), (qf118, .inl (cf118, 2100, .inl g118_362)), (qf119, .inl (cf119, 2100, .inl g119_362)), (qf105, .inl (cf105, 8, .inl f105)), (qf128, .inl (cf128, 31, .inl g128_362)), (qf110, .inl (cf110, 96, .inl f110)), (qf103, .inl (cf103, 8, .inl f103)), (qf106, .inl (cf106, 8, .inl f106)), (qf108, .inl (cf108, 8, .inl f108)), (qf137, .inl (cf137, 6, .inl g137_362))]) [0, 1, 2, 3, 4, 5, 6, 7, 8, 9, 10, 11, 12, 13, 14, 15, 16] rfl
      have hD9 := hD.sub (ws' := [(h0, .inr (13, z362)), (qf109, .inl (cf109, 96, .inl f109)), (qf100, .inl (cf100, 48000, .inl f100)), (qf127, .inl (cf127, 30, .inl g127_362)), (qf107, .inl (cf107, 96, .inl f107)), (qf102, .inl (cf102, 2048, .inl f102)), (qf111, .inl (cf111, 96, .inl f111)), (qf104, .inl (cf104, 8, .inl f104)), (qf118, .inl (cf118, 2100, .inl g118_362)), (qf119, .inl (cf119, 2100, .inl g119_362)), (qf105, .inl (cf105, 8, .inl f105)), (qf128, .inl (cf128, 31, .inl g128_362)), (qf110, .inl (cf110, 96, .inl f110)), (qf103, .inl (cf103, 8, .inl f103)), (qf106, .inl (cf106, 8, .inl f106)), (qf108, .inl (cf108, 8, .inl f108)), (qf137, .inl (cf137, 6, .inl g137_362))]) [0, 1, 2, 3, 4, 5, 6, 7, 8, 9, 10, 11, 12, 13, 14, 15, 16] (by decide) rfl
      have hK9 := hK.sub (tys' := [(cf109, .int), (cf100, .int), (cf127, .int), (cf107, .int), (cf102, .int), (cf111, .int), (cf104, .int), (cf118, .int), (cf119, .int), (cf105, .int), (cf128, .int), (cf110, .int), (cf103, .int), (cf106, .int), (cf108, .int), (cf137, .int)]) [0, 1, 2, 3, 4, 5, 6, 7, 8, 9, 10, 11, 12, 13, 14, 15] rfl
      exact W.zret hx hb hr (by decide) (fun t ht hW => ⟨⟨(1), (z362), rfl, ⟨⟨rfl, Or.inr rfl⟩, hlh_362, hrh_362, hfh_362_117, hfh_362_120, hfh_362_121, hfh_362_122, hfh_362_123, hfh_362_124, hfh_362_125, hfh_362_131, hfh_362_136⟩, by rw [ht]; exact hP9, va_K.moved hW.alike hK9, hD9⟩, hS.F ht⟩) hS.2.2 dX13_flows_362
  intro hret_362
  refine jn_use (α := Heap × List Loc × Array Slot × List Value × Int32 × (Nat → Int32) × (Nat → Int32) × (Nat → Int32) × (Nat → Int32) × (Nat → Int32) × Int32 × Int32 × Int32 × Int32 × Int32 × Int32 × Int32 × Int32 × Int32) (fun x9 => x9.1) (fun x9 => x9.2.1) (fun x9 => F0 m 448 x9.2.2.1 [.int (x9.2.2.2.2.1)]) (fun x9 => match x9 with | (H, locs, ls, z448, rr_448, g118_448, g119_448, g127_448, g128_448, g137_448, x117_448, x120_448, x121_448, x122_448, x123_448, x124_448, x125_448, x131_448, x136_448) => va_S A s.heap H locs ∧ va_D A [(h0, .inr (13, z448)), (qf109, .inl (cf109, 96, .inl f109)), (qf100, .inl (cf100, 48000, .inl f100)), (qf127, .inl (cf127, 30, .inl g127_448)), (qf107, .inl (cf107, 96, .inl f107)), (qf102, .inl (cf102, 2048, .inl f102)), (qf111, .inl (cf111, 96, .inl f111)), (qf104, .inl (cf104, 8, .inl f104)), (qf118, .inl (cf118, 2100, .inl g118_448)), (qf119, .inl (cf119, 2100, .inl g119_448)), (qf105, .inl (cf105, 8, .inl f105)), (qf128, .inl (cf128, 31, .inl g128_448)), (qf110, .inl (cf110, 96, .inl f110)), (qf103, .inl (cf103, 8, .inl f103)), (qf106, .inl (cf106, 8, .inl f106)), (qf108, .inl (cf108, 8, .inl f108)), (qf137, .inl (cf137, 6, .inl g137_448))] ∧ va_P (dC, dI) vwCl [(h0, .inr (13, z448)), (qf109, .inl (cf109, 96, .inl f109)), (qf100, .inl (cf100, 48000, .inl f100)), (qf127, .inl (cf127, 30, .inl g127_448)), (qf107, .inl (cf107, 96, .inl f107)), (qf102, .inl (cf102, 2048, .inl f102)), (qf111, .inl (cf111, 96, .inl f111)), (qf104, .inl (cf104, 8, .inl f104)), (qf118, .inl (cf118, 2100, .inl g118_448)), (qf119, .inl (cf119, 2100, .inl g119_448)), (qf105, .inl (cf105, 8, .inl f105)), (qf128, .inl (cf128, 31, .inl g128_448)), (qf110, .inl (cf110, 96, .inl f110)), (qf103, .inl (cf103, 8, .inl f103)), (qf106, .inl (cf106, 8, .inl f106)), (qf108, .inl (cf108, 8, .inl f108)), (qf137, .inl (cf137, 6, .inl g137_448))] H ∧ z448[98]? = some (.int v98) ∧ z448[100]? = some (.ref qf100) ∧ z448[102]? = some (.ref qf102) ∧ z448[103]? = some (.ref qf103) ∧ z448[104]? = some (.ref qf104) ∧ z448[105]? = some (.ref qf105) ∧ z448[106]? = some (.ref qf106) ∧ z448[107]? = some (.ref qf107) ∧ z448[108]? = some (.ref qf108) ∧ z448[109]? = some (.ref qf109) ∧ z448[110]? = some (.ref qf110) ∧ z448[111]? = some (.ref qf111) ∧ z448[117]? = some (.int x117_448) ∧ z448[118]? = some (.ref qf118) ∧ z448[119]? = some (.ref qf119) ∧ z448[120]? = some (.int x120_448) ∧ z448[121]? = some (.int x121_448) ∧ z448[122]? = some (.int x122_448) ∧ z448[123]? = some (.int x123_448) ∧ z448[124]? = some (.int x124_448) ∧ z448[125]? = some (.int x125_448) ∧ z448[127]? = some (.ref qf127) ∧ z448[128]? = some (.ref qf128) ∧ z448[129]? = some (.int v129) ∧ z448[130]? = some (.int v130) ∧ z448[131]? = some (.int x131_448) ∧ z448[132]? = some (.int v132) ∧ z448[133]? = some (.int v133) ∧ z448[134]? = some (.int v134) ∧ z448[135]? = some (.int v135) ∧ z448[136]? = some (.int x136_448) ∧ z448[137]? = some (.ref qf137) ∧ z448.length = 155 ∧ (∀ j : Nat, j ≠ 117 → j ≠ 120 → j ≠ 121 → j ≠ 122 → j ≠ 123 → j ≠ 124 → j ≠ 125 → j ≠ 131 → j ≠ 136 → z448[j]? = zs[j]?) ∧ (rr_448 = 0 ∨ rr_448 = 1) ∧ some (rr_448, g118_448, g119_448, g127_448, g128_448, g137_448, x117_448, x120_448, x121_448, x122_448, x123_448, x124_448, x125_448, x131_448, x136_448) = some (r0, o118, o119, o127, o128, o137, w117, w120, w121, w122, w123, w124, w125, w131, w136)) ?_ ?_
  · intro x9 hJ9
    obtain ⟨H, locs, ls, z448, rr_448, g118_448, g119_448, g127_448, g128_448, g137_448, x117_448, x120_448, x121_448, x122_448, x123_448, x124_448, x125_448, x131_448, x136_448⟩ := x9
    obtain ⟨hS, hD, hP, hfh_448_98, hfh_448_100, hfh_448_102, hfh_448_103, hfh_448_104, hfh_448_105, hfh_448_106, hfh_448_107, hfh_448_108, hfh_448_109, hfh_448_110, hfh_448_111, hfh_448_117, hfh_448_118, hfh_448_119, hfh_448_120, hfh_448_121, hfh_448_122, hfh_448_123, hfh_448_124, hfh_448_125, hfh_448_127, hfh_448_128, hfh_448_129, hfh_448_130, hfh_448_131, hfh_448_132, hfh_448_133, hfh_448_134, hfh_448_135, hfh_448_136, hfh_448_137, hlh_448, hrh_448, hz9, hsp⟩ := hJ9
    replace hS : va_S A s.heap H locs := hS
    replace hD : va_D A [(h0, .inr (13, z448)), (qf109, .inl (cf109, 96, .inl f109)), (qf100, .inl (cf100, 48000, .inl f100)), (qf127, .inl (cf127, 30, .inl g127_448)), (qf107, .inl (cf107, 96, .inl f107)), (qf102, .inl (cf102, 2048, .inl f102)), (qf111, .inl (cf111, 96, .inl f111)), (qf104, .inl (cf104, 8, .inl f104)), (qf118, .inl (cf118, 2100, .inl g118_448)), (qf119, .inl (cf119, 2100, .inl g119_448)), (qf105, .inl (cf105, 8, .inl f105)), (qf128, .inl (cf128, 31, .inl g128_448)), (qf110, .inl (cf110, 96, .inl f110)), (qf103, .inl (cf103, 8, .inl f103)), (qf106, .inl (cf106, 8, .inl f106)), (qf108, .inl (cf108, 8, .inl f108)), (qf137, .inl (cf137, 6, .inl g137_448))] := hD
    replace hP : va_P (dC, dI) vwCl [(h0, .inr (13, z448)), (qf109, .inl (cf109, 96, .inl f109)), (qf100, .inl (cf100, 48000, .inl f100)), (qf127, .inl (cf127, 30, .inl g127_448)), (qf107, .inl (cf107, 96, .inl f107)), (qf102, .inl (cf102, 2048, .inl f102)), (qf111, .inl (cf111, 96, .inl f111)), (qf104, .inl (cf104, 8, .inl f104)), (qf118, .inl (cf118, 2100, .inl g118_448)), (qf119, .inl (cf119, 2100, .inl g119_448)), (qf105, .inl (cf105, 8, .inl f105)), (qf128, .inl (cf128, 31, .inl g128_448)), (qf110, .inl (cf110, 96, .inl f110)), (qf103, .inl (cf103, 8, .inl f103)), (qf106, .inl (cf106, 8, .inl f106)), (qf108, .inl (cf108, 8, .inl f108)), (qf137, .inl (cf137, 6, .inl g137_448))] H := hP
    replace hsp : some (rr_448, g118_448, g119_448, g127_448, g128_448, g137_448, x117_448, x120_448, x121_448, x122_448, x123_448, x124_448, x125_448, x131_448, x136_448) = some (r0, o118, o119, o127, o128, o137, w117, w120, w121, w122, w123, w124, w125, w131, w136) := hsp
    show W _ _ _ _ _ _ _ _ _ _ H locs _ _ _ (F0 m 448 ls [.int rr_448])
    rcases hz9 with rfl | rfl
    · skip
      have hr0 := Option.some.inj hsp
      clear hsp
      obtain ⟨hq0, hr1⟩ := Prod.mk.inj hr0
      clear hr0
      obtain ⟨hq1, hr2⟩ := Prod.mk.inj hr1
      clear hr1
      obtain ⟨hq2, hr3⟩ := Prod.mk.inj hr2
      clear hr2
      obtain ⟨hq3, hr4⟩ := Prod.mk.inj hr3
      clear hr3
      obtain ⟨hq4, hr5⟩ := Prod.mk.inj hr4
      clear hr4
      obtain ⟨hq5, hr6⟩ := Prod.mk.inj hr5
      clear hr5
      obtain ⟨hq6, hr7⟩ := Prod.mk.inj hr6
      clear hr6
      obtain ⟨hq7, hr8⟩ := Prod.mk.inj hr7
      clear hr7
      obtain ⟨hq8, hr9⟩ := Prod.mk.inj hr8
      clear hr8
      obtain ⟨hq9, hr10⟩ := Prod.mk.inj hr9
      clear hr9
      obtain ⟨hq10, hr11⟩ := Prod.mk.inj hr10
      clear hr10
      obtain ⟨hq11, hr12⟩ := Prod.mk.inj hr11
      clear hr11
      obtain ⟨hq12, hr13⟩ := Prod.mk.inj hr12
      clear hr12
      obtain ⟨hq13, hr14⟩ := Prod.mk.inj hr13
      clear hr13
      subst hq0
      subst hq1
      subst hq2
      subst hq3
      subst hq4
      subst hq5
      subst hq6
      subst hq7
      subst hq8
      subst hq9
      subst hq10
      subst hq11
      subst hq12
      subst hq13
      subst hr14
      have hP9 := hP.sub (ws' := [(h0, .inr (13, z448)), (qf109, .inl (cf109, 96, .inl f109)), (qf100, .inl (cf100, 48000, .inl f100)), (qf127, .inl (cf127, 30, .inl g127_448)), (qf107, .inl (cf107, 96, .inl f107)), (qf102, .inl (cf102, 2048, .inl f102)), (qf111, .inl (cf111, 96, .inl f111)), (qf104, .inl (cf104, 8, .inl f104)), (qf118, .inl (cf118, 2100, .inl g118_448)), (qf119, .inl (cf119, 2100, .inl g119_448)), (qf105, .inl (cf105, 8, .inl f105)), (qf128, .inl (cf128, 31, .inl g128_448)), (qf110, .inl (cf110, 96, .inl f110)), (qf103, .inl (cf103, 8, .inl f103)), (qf106, .inl (cf106, 8, .inl f106)), (qf108, .inl (cf108, 8, .inl f108)), (qf137, .inl (cf137, 6, .inl g137_448))]) [0, 1, 2, 3, 4, 5, 6, 7, 8, 9, 10, 11, 12, 13, 14, 15, 16] rfl
      have hD9 := hD.sub (ws' := [(h0, .inr (13, z448)), (qf109, .inl (cf109, 96, .inl f109)), (qf100, .inl (cf100, 48000, .inl f100)), (qf127, .inl (cf127, 30, .inl g127_448)), (qf107, .inl (cf107, 96, .inl f107)), (qf102, .inl (cf102, 2048, .inl f102)), (qf111, .inl (cf111, 96, .inl f111)), (qf104, .inl (cf104, 8, .inl f104)), (qf118, .inl (cf118, 2100, .inl g118_448)), (qf119, .inl (cf119, 2100, .inl g119_448)), (qf105, .inl (cf105, 8, .inl f105)), (qf128, .inl (cf128, 31, .inl g128_448)), (qf110, .inl (cf110, 96, .inl f110)), (qf103, .inl (cf103, 8, .inl f103)), (qf106, .inl (cf106, 8, .inl f106)), (qf108, .inl (cf108, 8, .inl f108)), (qf137, .inl (cf137, 6, .inl g137_448))]) [0, 1, 2, 3, 4, 5, 6, 7, 8, 9, 10, 11, 12, 13, 14, 15, 16] (by decide) rfl
      have hK9 := hK.sub (tys' := [(cf109, .int), (cf100, .int), (cf127, .int), (cf107, .int), (cf102, .int), (cf111, .int), (cf104, .int), (cf118, .int), (cf119, .int), (cf105, .int), (cf128, .int), (cf110, .int), (cf103, .int), (cf106, .int), (cf108, .int), (cf137, .int)]) [0, 1, 2, 3, 4, 5, 6, 7, 8, 9, 10, 11, 12, 13, 14, 15] rfl
      exact W.zret hx hb hr (by decide) (fun t ht hW => ⟨⟨(0), (z448), rfl, ⟨⟨rfl, Or.inl rfl⟩, hlh_448, hrh_448, hfh_448_117, hfh_448_120, hfh_448_121, hfh_448_122, hfh_448_123, hfh_448_124, hfh_448_125, hfh_448_131, hfh_448_136⟩, by rw [ht]; exact hP9, va_K.moved hW.alike hK9, hD9⟩, hS.F ht⟩) hS.2.2 dX13_flows_448
    · skip
      have hr0 := Option.some.inj hsp
      clear hsp
      obtain ⟨hq0, hr1⟩ := Prod.mk.inj hr0
      clear hr0
      obtain ⟨hq1, hr2⟩ := Prod.mk.inj hr1
      clear hr1
      obtain ⟨hq2, hr3⟩ := Prod.mk.inj hr2
      clear hr2
      obtain ⟨hq3, hr4⟩ := Prod.mk.inj hr3
      clear hr3
      obtain ⟨hq4, hr5⟩ := Prod.mk.inj hr4
      clear hr4
      obtain ⟨hq5, hr6⟩ := Prod.mk.inj hr5
      clear hr5
      obtain ⟨hq6, hr7⟩ := Prod.mk.inj hr6
      clear hr6
      obtain ⟨hq7, hr8⟩ := Prod.mk.inj hr7
      clear hr7
      obtain ⟨hq8, hr9⟩ := Prod.mk.inj hr8
      clear hr8
      obtain ⟨hq9, hr10⟩ := Prod.mk.inj hr9
      clear hr9
      obtain ⟨hq10, hr11⟩ := Prod.mk.inj hr10
      clear hr10
      obtain ⟨hq11, hr12⟩ := Prod.mk.inj hr11
      clear hr11
      obtain ⟨hq12, hr13⟩ := Prod.mk.inj hr12
      clear hr12
      obtain ⟨hq13, hr14⟩ := Prod.mk.inj hr13
      clear hr13
      subst hq0
      subst hq1
      subst hq2
      subst hq3
      subst hq4
      subst hq5
      subst hq6
      subst hq7
      subst hq8
      subst hq9
      subst hq10
      subst hq11
      subst hq12
      subst hq13
      subst hr14
      have hP9 := hP.sub (ws' := [(h0, .inr (13, z448)), (qf109, .inl (cf109, 96, .inl f109)), (qf100, .inl (cf100, 48000, .inl f100)), (qf127, .inl (cf127, 30, .inl g127_448)), (qf107, .inl (cf107, 96, .inl f107)), (qf102, .inl (cf102, 2048, .inl f102)), (qf111, .inl (cf111, 96, .inl f111)), (qf104, .inl (cf104, 8, .inl f104)), (qf118, .inl (cf118, 2100, .inl g118_448)), (qf119, .inl (cf119, 2100, .inl g119_448)), (qf105, .inl (cf105, 8, .inl f105)), (qf128, .inl (cf128, 31, .inl g128_448)), (qf110, .inl (cf110, 96, .inl f110)), (qf103, .inl (cf103, 8, .inl f103)), (qf106, .inl (cf106, 8, .inl f106)), (qf108, .inl (cf108, 8, .inl f108)), (qf137, .inl (cf137, 6, .inl g137_448))]) [0, 1, 2, 3, 4, 5, 6, 7, 8, 9, 10, 11, 12, 13, 14, 15, 16] rfl
      have hD9 := hD.sub (ws' := [(h0, .inr (13, z448)), (qf109, .inl (cf109, 96, .inl f109)), (qf100, .inl (cf100, 48000, .inl f100)), (qf127, .inl (cf127, 30, .inl g127_448)), (qf107, .inl (cf107, 96, .inl f107)), (qf102, .inl (cf102, 2048, .inl f102)), (qf111, .inl (cf111, 96, .inl f111)), (qf104, .inl (cf104, 8, .inl f104)), (qf118, .inl (cf118, 2100, .inl g118_448)), (qf119, .inl (cf119, 2100, .inl g119_448)), (qf105, .inl (cf105, 8, .inl f105)), (qf128, .inl (cf128, 31, .inl g128_448)), (qf110, .inl (cf110, 96, .inl f110)), (qf103, .inl (cf103, 8, .inl f103)), (qf106, .inl (cf106, 8, .inl f106)), (qf108, .inl (cf108, 8, .inl f108)), (qf137, .inl (cf137, 6, .inl g137_448))]) [0, 1, 2, 3, 4, 5, 6, 7, 8, 9, 10, 11, 12, 13, 14, 15, 16] (by decide) rfl
      have hK9 := hK.sub (tys' := [(cf109, .int), (cf100, .int), (cf127, .int), (cf107, .int), (cf102, .int), (cf111, .int), (cf104, .int), (cf118, .int), (cf119, .int), (cf105, .int), (cf128, .int), (cf110, .int), (cf103, .int), (cf106, .int), (cf108, .int), (cf137, .int)]) [0, 1, 2, 3, 4, 5, 6, 7, 8, 9, 10, 11, 12, 13, 14, 15] rfl
      exact W.zret hx hb hr (by decide) (fun t ht hW => ⟨⟨(1), (z448), rfl, ⟨⟨rfl, Or.inr rfl⟩, hlh_448, hrh_448, hfh_448_117, hfh_448_120, hfh_448_121, hfh_448_122, hfh_448_123, hfh_448_124, hfh_448_125, hfh_448_131, hfh_448_136⟩, by rw [ht]; exact hP9, va_K.moved hW.alike hK9, hD9⟩, hS.F ht⟩) hS.2.2 dX13_flows_448
  intro hret_448
  have hj_68 := jt_vm_flows_68 nf hx hb hml hown hts hA hK h0 zs a1 a2 v98 qf100 qf102 qf103 qf104 qf105 qf106 qf107 qf108 qf109 qf110 qf111 v117 qf118 qf119 v120 v121 v122 v123 v124 v125 qf127 qf128 v129 v130 v131 v132 v133 v134 v135 v136 qf137 cf109 f109 cf100 f100 cf127 f127 cf107 f107 cf102 f102 cf111 f111 cf104 f104 cf118 f118 cf119 f119 cf105 f105 cf128 f128 cf110 f110 cf103 f103 cf106 f106 cf108 f108 cf137 f137 nS477 fS477 hS477 qS477 tS477 r0 o118 o119 o127 o128 o137 w117 w120 w121 w122 w123 w124 w125 w131 w136 hZWS477 hZRS477 (Nat.le_of_ble_eq_true rfl) (Nat.le_of_ble_eq_true rfl) hret_193 hret_233 hret_259 hret_279 hret_299 hret_362 hret_448
  refine lv_iconst (v := 0) hx hb dX13_flows_0 (by decide) ?_
  refine lv_istore_n (lv' := [(3, .int 0), (0, .ref h0), (1, .int a1), (2, .int a2)]) hx hb dX13_flows_1 rfl hl (by decide) rfl (fun ls hl => ?_)
  replace hl : lv_has ls 10 [(3, .int 0), (0, .ref h0), (1, .int a1), (2, .int a2)] := lv_sub hl [0, 1, 2, 3] rfl
  replace hP := hP.sub (ws' := [(h0, .inr (13, zs)), (qf109, .inl (cf109, 96, .inl f109)), (qf100, .inl (cf100, 48000, .inl f100)), (qf127, .inl (cf127, 30, .inl f127)), (qf107, .inl (cf107, 96, .inl f107)), (qf102, .inl (cf102, 2048, .inl f102)), (qf111, .inl (cf111, 96, .inl f111)), (qf104, .inl (cf104, 8, .inl f104)), (qf118, .inl (cf118, 2100, .inl f118)), (qf119, .inl (cf119, 2100, .inl f119)), (qf105, .inl (cf105, 8, .inl f105)), (qf128, .inl (cf128, 31, .inl f128)), (qf110, .inl (cf110, 96, .inl f110)), (qf103, .inl (cf103, 8, .inl f103)), (qf106, .inl (cf106, 8, .inl f106)), (qf108, .inl (cf108, 8, .inl f108)), (qf137, .inl (cf137, 6, .inl f137))]) [0, 1, 2, 3, 4, 5, 6, 7, 8, 9, 10, 11, 12, 13, 14, 15, 16] rfl
  replace hD := hD.sub (ws' := [(h0, .inr (13, zs)), (qf109, .inl (cf109, 96, .inl f109)), (qf100, .inl (cf100, 48000, .inl f100)), (qf127, .inl (cf127, 30, .inl f127)), (qf107, .inl (cf107, 96, .inl f107)), (qf102, .inl (cf102, 2048, .inl f102)), (qf111, .inl (cf111, 96, .inl f111)), (qf104, .inl (cf104, 8, .inl f104)), (qf118, .inl (cf118, 2100, .inl f118)), (qf119, .inl (cf119, 2100, .inl f119)), (qf105, .inl (cf105, 8, .inl f105)), (qf128, .inl (cf128, 31, .inl f128)), (qf110, .inl (cf110, 96, .inl f110)), (qf103, .inl (cf103, 8, .inl f103)), (qf106, .inl (cf106, 8, .inl f106)), (qf108, .inl (cf108, 8, .inl f108)), (qf137, .inl (cf137, 6, .inl f137))]) [0, 1, 2, 3, 4, 5, 6, 7, 8, 9, 10, 11, 12, 13, 14, 15, 16] (by decide) rfl
  replace hK := hK.sub (tys' := [(cf109, .int), (cf100, .int), (cf127, .int), (cf107, .int), (cf102, .int), (cf111, .int), (cf104, .int), (cf118, .int), (cf119, .int), (cf105, .int), (cf128, .int), (cf110, .int), (cf103, .int), (cf106, .int), (cf108, .int), (cf137, .int)]) [0, 1, 2, 3, 4, 5, 6, 7, 8, 9, 10, 11, 12, 13, 14, 15] rfl
  obtain ⟨n_2, hn_2⟩ : ∃ z : Nat, z = nf := ⟨_, rfl⟩
  obtain ⟨l1_2, el1_2⟩ : ∃ z : Int32, z = a1 := ⟨_, rfl⟩
  obtain ⟨l2_2, el2_2⟩ : ∃ z : Int32, z = a2 := ⟨_, rfl⟩
  obtain ⟨l3_2, el3_2⟩ : ∃ z : Int32, z = 0 := ⟨_, rfl⟩
  obtain ⟨g118_2, eg118_2⟩ : ∃ z : Nat → Int32, z = f118 := ⟨_, rfl⟩
  obtain ⟨g119_2, eg119_2⟩ : ∃ z : Nat → Int32, z = f119 := ⟨_, rfl⟩
  obtain ⟨g127_2, eg127_2⟩ : ∃ z : Nat → Int32, z = f127 := ⟨_, rfl⟩
  obtain ⟨g128_2, eg128_2⟩ : ∃ z : Nat → Int32, z = f128 := ⟨_, rfl⟩
  obtain ⟨g137_2, eg137_2⟩ : ∃ z : Nat → Int32, z = f137 := ⟨_, rfl⟩
  obtain ⟨x117_2, ex117_2⟩ : ∃ z : Int32, z = v117 := ⟨_, rfl⟩
  obtain ⟨x120_2, ex120_2⟩ : ∃ z : Int32, z = v120 := ⟨_, rfl⟩
  obtain ⟨x121_2, ex121_2⟩ : ∃ z : Int32, z = v121 := ⟨_, rfl⟩
  obtain ⟨x122_2, ex122_2⟩ : ∃ z : Int32, z = v122 := ⟨_, rfl⟩
  obtain ⟨x123_2, ex123_2⟩ : ∃ z : Int32, z = v123 := ⟨_, rfl⟩
  obtain ⟨x124_2, ex124_2⟩ : ∃ z : Int32, z = v124 := ⟨_, rfl⟩
  obtain ⟨x125_2, ex125_2⟩ : ∃ z : Int32, z = v125 := ⟨_, rfl⟩
  obtain ⟨x131_2, ex131_2⟩ : ∃ z : Int32, z = v131 := ⟨_, rfl⟩
  obtain ⟨x136_2, ex136_2⟩ : ∃ z : Int32, z = v136 := ⟨_, rfl⟩
  replace hsp : lp_vm_flows_2 nf n_2 a1 a2 v98 v117 v120 v121 v122 v123 v124 v125 v129 v130 v131 v132 v133 v134 v135 v136 f109 f100 f127 f107 f102 f111 f104 f118 f119 f105 f128 f110 f103 f106 f108 f137 nS477 fS477 l1_2 l2_2 l3_2 g118_2 g119_2 g127_2 g128_2 g137_2 x117_2 x120_2 x121_2 x122_2 x123_2 x124_2 x125_2 x131_2 x136_2 = some (r0, o118, o119, o127, o128, o137, w117, w120, w121, w122, w123, w124, w125, w131, w136) := by rw [hn_2, el1_2, el2_2, el3_2, eg118_2, eg119_2, eg127_2, eg128_2, eg137_2, ex117_2, ex120_2, ex121_2, ex122_2, ex123_2, ex124_2, ex125_2, ex131_2, ex136_2]; exact hsp
  replace hl : lv_has ls 10 [(3, .int l3_2), (0, .ref h0), (1, .int l1_2), (2, .int l2_2)] := by rw [el1_2, el2_2, el3_2]; exact hl
  obtain ⟨z2, ez2⟩ : ∃ z : List Value, z = zs := ⟨_, rfl⟩
  have hfh_2_98 : z2[98]? = some (.int v98) := by rw [ez2]; exact hf98
  have hfh_2_100 : z2[100]? = some (.ref qf100) := by rw [ez2]; exact hf100
  have hfh_2_102 : z2[102]? = some (.ref qf102) := by rw [ez2]; exact hf102
  have hfh_2_103 : z2[103]? = some (.ref qf103) := by rw [ez2]; exact hf103
  have hfh_2_104 : z2[104]? = some (.ref qf104) := by rw [ez2]; exact hf104
  have hfh_2_105 : z2[105]? = some (.ref qf105) := by rw [ez2]; exact hf105
  have hfh_2_106 : z2[106]? = some (.ref qf106) := by rw [ez2]; exact hf106
  have hfh_2_107 : z2[107]? = some (.ref qf107) := by rw [ez2]; exact hf107
  have hfh_2_108 : z2[108]? = some (.ref qf108) := by rw [ez2]; exact hf108
  have hfh_2_109 : z2[109]? = some (.ref qf109) := by rw [ez2]; exact hf109
  have hfh_2_110 : z2[110]? = some (.ref qf110) := by rw [ez2]; exact hf110
  have hfh_2_111 : z2[111]? = some (.ref qf111) := by rw [ez2]; exact hf111
  have hfh_2_117 : z2[117]? = some (.int x117_2) := by rw [ez2, ex117_2]; exact hf117
  have hfh_2_118 : z2[118]? = some (.ref qf118) := by rw [ez2]; exact hf118
  have hfh_2_119 : z2[119]? = some (.ref qf119) := by rw [ez2]; exact hf119
  have hfh_2_120 : z2[120]? = some (.int x120_2) := by rw [ez2, ex120_2]; exact hf120
  have hfh_2_121 : z2[121]? = some (.int x121_2) := by rw [ez2, ex121_2]; exact hf121
  have hfh_2_122 : z2[122]? = some (.int x122_2) := by rw [ez2, ex122_2]; exact hf122
  have hfh_2_123 : z2[123]? = some (.int x123_2) := by rw [ez2, ex123_2]; exact hf123
  have hfh_2_124 : z2[124]? = some (.int x124_2) := by rw [ez2, ex124_2]; exact hf124
  have hfh_2_125 : z2[125]? = some (.int x125_2) := by rw [ez2, ex125_2]; exact hf125
  have hfh_2_127 : z2[127]? = some (.ref qf127) := by rw [ez2]; exact hf127
  have hfh_2_128 : z2[128]? = some (.ref qf128) := by rw [ez2]; exact hf128
  have hfh_2_129 : z2[129]? = some (.int v129) := by rw [ez2]; exact hf129
  have hfh_2_130 : z2[130]? = some (.int v130) := by rw [ez2]; exact hf130
  have hfh_2_131 : z2[131]? = some (.int x131_2) := by rw [ez2, ex131_2]; exact hf131
  have hfh_2_132 : z2[132]? = some (.int v132) := by rw [ez2]; exact hf132
  have hfh_2_133 : z2[133]? = some (.int v133) := by rw [ez2]; exact hf133
  have hfh_2_134 : z2[134]? = some (.int v134) := by rw [ez2]; exact hf134
  have hfh_2_135 : z2[135]? = some (.int v135) := by rw [ez2]; exact hf135
  have hfh_2_136 : z2[136]? = some (.int x136_2) := by rw [ez2, ex136_2]; exact hf136
  have hfh_2_137 : z2[137]? = some (.ref qf137) := by rw [ez2]; exact hf137
  have hlh_2 : z2.length = 155 := by rw [ez2]; exact hlen
  have hrh_2 : ∀ j : Nat, j ≠ 117 → j ≠ 120 → j ≠ 121 → j ≠ 122 → j ≠ 123 → j ≠ 124 → j ≠ 125 → j ≠ 131 → j ≠ 136 → z2[j]? = zs[j]? := by rw [ez2]; exact hrs0
  replace hP : va_P (dC, dI) vwCl [(h0, .inr (13, z2)), (qf109, .inl (cf109, 96, .inl f109)), (qf100, .inl (cf100, 48000, .inl f100)), (qf127, .inl (cf127, 30, .inl g127_2)), (qf107, .inl (cf107, 96, .inl f107)), (qf102, .inl (cf102, 2048, .inl f102)), (qf111, .inl (cf111, 96, .inl f111)), (qf104, .inl (cf104, 8, .inl f104)), (qf118, .inl (cf118, 2100, .inl g118_2)), (qf119, .inl (cf119, 2100, .inl g119_2)), (qf105, .inl (cf105, 8, .inl f105)), (qf128, .inl (cf128, 31, .inl g128_2)), (qf110, .inl (cf110, 96, .inl f110)), (qf103, .inl (cf103, 8, .inl f103)), (qf106, .inl (cf106, 8, .inl f106)), (qf108, .inl (cf108, 8, .inl f108)), (qf137, .inl (cf137, 6, .inl g137_2))] H := by rw [ez2, eg118_2, eg119_2, eg127_2, eg128_2, eg137_2]; exact hP
  replace hD : va_D A [(h0, .inr (13, z2)), (qf109, .inl (cf109, 96, .inl f109)), (qf100, .inl (cf100, 48000, .inl f100)), (qf127, .inl (cf127, 30, .inl g127_2)), (qf107, .inl (cf107, 96, .inl f107)), (qf102, .inl (cf102, 2048, .inl f102)), (qf111, .inl (cf111, 96, .inl f111)), (qf104, .inl (cf104, 8, .inl f104)), (qf118, .inl (cf118, 2100, .inl g118_2)), (qf119, .inl (cf119, 2100, .inl g119_2)), (qf105, .inl (cf105, 8, .inl f105)), (qf128, .inl (cf128, 31, .inl g128_2)), (qf110, .inl (cf110, 96, .inl f110)), (qf103, .inl (cf103, 8, .inl f103)), (qf106, .inl (cf106, 8, .inl f106)), (qf108, .inl (cf108, 8, .inl f108)), (qf137, .inl (cf137, 6, .inl g137_2))] := by rw [ez2, eg118_2, eg119_2, eg127_2, eg128_2, eg137_2]; exact hD
  clear hn_2 ez2 el1_2 el2_2 el3_2 eg118_2 eg119_2 eg127_2 eg128_2 eg137_2 ex117_2 ex120_2 ex121_2 ex122_2 ex123_2 ex124_2 ex125_2 ex131_2 ex136_2
  try clear hlo
  try clear hH
  revert hsp
  revert hP
  revert hD
  revert hS
  revert hl
  revert hrh_2
  revert hlh_2
  revert hfh_2_137
  revert hfh_2_136
  revert hfh_2_135
  revert hfh_2_134
  revert hfh_2_133
  revert hfh_2_132
  revert hfh_2_131
  revert hfh_2_130
  revert hfh_2_129
  revert hfh_2_128
  revert hfh_2_127
  revert hfh_2_125
  revert hfh_2_124
  revert hfh_2_123
  revert hfh_2_122
  revert hfh_2_121
  revert hfh_2_120
  revert hfh_2_119
  revert hfh_2_118
  revert hfh_2_117
  revert hfh_2_111
  revert hfh_2_110
  revert hfh_2_109
  revert hfh_2_108
  revert hfh_2_107
  revert hfh_2_106
  revert hfh_2_105
  revert hfh_2_104
  revert hfh_2_103
  revert hfh_2_102
  revert hfh_2_100
  revert hfh_2_98
  revert x136_2
  revert x131_2
  revert x125_2
  revert x124_2
  revert x123_2
  revert x122_2
  revert x121_2
  revert x120_2
  revert x117_2
  revert g137_2
  revert g128_2
  revert g127_2
  revert g119_2
  revert g118_2
  revert l3_2
  revert l2_2
  revert l1_2
  revert z2
  revert ls
  revert locs
  revert H
  induction n_2 with
  | zero => intro H locs ls z2 l1_2 l2_2 l3_2 g118_2 g119_2 g127_2 g128_2 g137_2 x117_2 x120_2 x121_2 x122_2 x123_2 x124_2 x125_2 x131_2 x136_2 hfh_2_98 hfh_2_100 hfh_2_102 hfh_2_103 hfh_2_104 hfh_2_105 hfh_2_106 hfh_2_107 hfh_2_108 hfh_2_109 hfh_2_110 hfh_2_111 hfh_2_117 hfh_2_118 hfh_2_119 hfh_2_120 hfh_2_121 hfh_2_122 hfh_2_123 hfh_2_124 hfh_2_125 hfh_2_127 hfh_2_128 hfh_2_129 hfh_2_130 hfh_2_131 hfh_2_132 hfh_2_133 hfh_2_134 hfh_2_135 hfh_2_136 hfh_2_137 hlh_2 hrh_2 hl hS hD hP hsp; unfold lp_vm_flows_2 at hsp; cases hsp
  | succ n_2 ih_2 =>
    intro H locs ls z2 l1_2 l2_2 l3_2 g118_2 g119_2 g127_2 g128_2 g137_2 x117_2 x120_2 x121_2 x122_2 x123_2 x124_2 x125_2 x131_2 x136_2 hfh_2_98 hfh_2_100 hfh_2_102 hfh_2_103 hfh_2_104 hfh_2_105 hfh_2_106 hfh_2_107 hfh_2_108 hfh_2_109 hfh_2_110 hfh_2_111 hfh_2_117 hfh_2_118 hfh_2_119 hfh_2_120 hfh_2_121 hfh_2_122 hfh_2_123 hfh_2_124 hfh_2_125 hfh_2_127 hfh_2_128 hfh_2_129 hfh_2_130 hfh_2_131 hfh_2_132 hfh_2_133 hfh_2_134 hfh_2_135 hfh_2_136 hfh_2_137 hlh_2 hrh_2 hl hS hD hP hsp
    unfold lp_vm_flows_2 at hsp
    try dsimp only at hsp
    refine lv_iload_n hx hb dX13_flows_2 rfl (lv_at hl 0 rfl) ?_
    refine lv_aload_n hx hb dX13_flows_3 rfl (lv_at hl 1 rfl) ?_
    refine va_get (D := (dC, dI)) (ci := 13) (v := .int v129) (C := RX13) (T := TX13) (N := 155) hx hb hts uV_h9_X13 hown hK hP 0 rfl rfl 129 (by decide) (hts (.fieldLink RX13 964 "ClassMillModel" "localMany" "I") mw_h9_545) (fun _ h9 => h9) hfh_2_129 dX13_flows_4 ?_
    refine lv_icmp_ge (tgt := 23) hx hb dX13_flows_7 (by decide) (fun c_1 => ?_) (fun c_1 => ?_)
    · rw [if_pos c_1] at hsp
      refine lv_aload_n hx hb dX13_flows_23 rfl (lv_at hl 1 rfl) ?_
      refine lv_iconst (v := 0) hx hb dX13_flows_24 (by decide) ?_
      refine va_put (D := (dC, dI)) (ci := 13) (v := .int 0) (ty := .int) (C := RX13) (T := TX13) (N := 155) hx hb hts uV_h9_X13 tyX13 tyX13_ok nmX13 hown hK hP hD hS 0 rfl rfl 131 (by decide) (hts (.fieldLink RX13 961 "ClassMillModel" "stackMany" "I") mw_h9_543) (fun _ h9 => h9) rfl (by decide +kernel) rfl rfl (by rw [hlh_2]; decide) dX13_flows_25 ?_
      clear hP hD hS
      intro H locs hP hD hS
      obtain ⟨fs_2, efs_2⟩ : ∃ zf : List Value, zf = z2.set 131 (.int 0) := ⟨_, rfl⟩
      rw [← efs_2] at hP hD
      have hlfs_2 : fs_2.length = 155 := by rw [efs_2, List.length_set]; exact hlh_2
      have hfs_2_98 : fs_2[98]? = some (.int v98) := by rw [efs_2, List.getElem?_set_ne (by decide)]; exact hfh_2_98
      have hfs_2_100 : fs_2[100]? = some (.ref qf100) := by rw [efs_2, List.getElem?_set_ne (by decide)]; exact hfh_2_100
      have hfs_2_102 : fs_2[102]? = some (.ref qf102) := by rw [efs_2, List.getElem?_set_ne (by decide)]; exact hfh_2_102
      have hfs_2_103 : fs_2[103]? = some (.ref qf103) := by rw [efs_2, List.getElem?_set_ne (by decide)]; exact hfh_2_103
      have hfs_2_104 : fs_2[104]? = some (.ref qf104) := by rw [efs_2, List.getElem?_set_ne (by decide)]; exact hfh_2_104
      have hfs_2_105 : fs_2[105]? = some (.ref qf105) := by rw [efs_2, List.getElem?_set_ne (by decide)]; exact hfh_2_105
      have hfs_2_106 : fs_2[106]? = some (.ref qf106) := by rw [efs_2, List.getElem?_set_ne (by decide)]; exact hfh_2_106
      have hfs_2_107 : fs_2[107]? = some (.ref qf107) := by rw [efs_2, List.getElem?_set_ne (by decide)]; exact hfh_2_107
      have hfs_2_108 : fs_2[108]? = some (.ref qf108) := by rw [efs_2, List.getElem?_set_ne (by decide)]; exact hfh_2_108
      have hfs_2_109 : fs_2[109]? = some (.ref qf109) := by rw [efs_2, List.getElem?_set_ne (by decide)]; exact hfh_2_109
      have hfs_2_110 : fs_2[110]? = some (.ref qf110) := by rw [efs_2, List.getElem?_set_ne (by decide)]; exact hfh_2_110
      have hfs_2_111 : fs_2[111]? = some (.ref qf111) := by rw [efs_2, List.getElem?_set_ne (by decide)]; exact hfh_2_111
      have hfs_2_117 : fs_2[117]? = some (.int x117_2) := by rw [efs_2, List.getElem?_set_ne (by decide)]; exact hfh_2_117
      have hfs_2_118 : fs_2[118]? = some (.ref qf118) := by rw [efs_2, List.getElem?_set_ne (by decide)]; exact hfh_2_118
      have hfs_2_119 : fs_2[119]? = some (.ref qf119) := by rw [efs_2, List.getElem?_set_ne (by decide)]; exact hfh_2_119
      have hfs_2_120 : fs_2[120]? = some (.int x120_2) := by rw [efs_2, List.getElem?_set_ne (by decide)]; exact hfh_2_120
      have hfs_2_121 : fs_2[121]? = some (.int x121_2) := by rw [efs_2, List.getElem?_set_ne (by decide)]; exact hfh_2_121
      have hfs_2_122 : fs_2[122]? = some (.int x122_2) := by rw [efs_2, List.getElem?_set_ne (by decide)]; exact hfh_2_122
      have hfs_2_123 : fs_2[123]? = some (.int x123_2) := by rw [efs_2, List.getElem?_set_ne (by decide)]; exact hfh_2_123
      have hfs_2_124 : fs_2[124]? = some (.int x124_2) := by rw [efs_2, List.getElem?_set_ne (by decide)]; exact hfh_2_124
      have hfs_2_125 : fs_2[125]? = some (.int x125_2) := by rw [efs_2, List.getElem?_set_ne (by decide)]; exact hfh_2_125
      have hfs_2_127 : fs_2[127]? = some (.ref qf127) := by rw [efs_2, List.getElem?_set_ne (by decide)]; exact hfh_2_127
      have hfs_2_128 : fs_2[128]? = some (.ref qf128) := by rw [efs_2, List.getElem?_set_ne (by decide)]; exact hfh_2_128
      have hfs_2_129 : fs_2[129]? = some (.int v129) := by rw [efs_2, List.getElem?_set_ne (by decide)]; exact hfh_2_129
      have hfs_2_130 : fs_2[130]? = some (.int v130) := by rw [efs_2, List.getElem?_set_ne (by decide)]; exact hfh_2_130
      have hfs_2_132 : fs_2[132]? = some (.int v132) := by rw [efs_2, List.getElem?_set_ne (by decide)]; exact hfh_2_132
      have hfs_2_133 : fs_2[133]? = some (.int v133) := by rw [efs_2, List.getElem?_set_ne (by decide)]; exact hfh_2_133
      have hfs_2_134 : fs_2[134]? = some (.int v134) := by rw [efs_2, List.getElem?_set_ne (by decide)]; exact hfh_2_134
      have hfs_2_135 : fs_2[135]? = some (.int v135) := by rw [efs_2, List.getElem?_set_ne (by decide)]; exact hfh_2_135
      have hfs_2_136 : fs_2[136]? = some (.int x136_2) := by rw [efs_2, List.getElem?_set_ne (by decide)]; exact hfh_2_136
      have hfs_2_137 : fs_2[137]? = some (.ref qf137) := by rw [efs_2, List.getElem?_set_ne (by decide)]; exact hfh_2_137
      have hfs_2_131 : fs_2[131]? = some (.int 0) := by rw [efs_2, List.getElem?_set_self (by rw [hlh_2]; decide)]
      replace hP : va_P (dC, dI) vwCl [(h0, .inr (13, fs_2)), (qf109, .inl (cf109, 96, .inl f109)), (qf100, .inl (cf100, 48000, .inl f100)), (qf127, .inl (cf127, 30, .inl g127_2)), (qf107, .inl (cf107, 96, .inl f107)), (qf102, .inl (cf102, 2048, .inl f102)), (qf111, .inl (cf111, 96, .inl f111)), (qf104, .inl (cf104, 8, .inl f104)), (qf118, .inl (cf118, 2100, .inl g118_2)), (qf119, .inl (cf119, 2100, .inl g119_2)), (qf105, .inl (cf105, 8, .inl f105)), (qf128, .inl (cf128, 31, .inl g128_2)), (qf110, .inl (cf110, 96, .inl f110)), (qf103, .inl (cf103, 8, .inl f103)), (qf106, .inl (cf106, 8, .inl f106)), (qf108, .inl (cf108, 8, .inl f108)), (qf137, .inl (cf137, 6, .inl g137_2))] H := hP
      replace hD : va_D A [(h0, .inr (13, fs_2)), (qf109, .inl (cf109, 96, .inl f109)), (qf100, .inl (cf100, 48000, .inl f100)), (qf127, .inl (cf127, 30, .inl g127_2)), (qf107, .inl (cf107, 96, .inl f107)), (qf102, .inl (cf102, 2048, .inl f102)), (qf111, .inl (cf111, 96, .inl f111)), (qf104, .inl (cf104, 8, .inl f104)), (qf118, .inl (cf118, 2100, .inl g118_2)), (qf119, .inl (cf119, 2100, .inl g119_2)), (qf105, .inl (cf105, 8, .inl f105)), (qf128, .inl (cf128, 31, .inl g128_2)), (qf110, .inl (cf110, 96, .inl f110)), (qf103, .inl (cf103, 8, .inl f103)), (qf106, .inl (cf106, 8, .inl f106)), (qf108, .inl (cf108, 8, .inl f108)), (qf137, .inl (cf137, 6, .inl g137_2))] := hD
      have hrs_3 : ∀ j : Nat, j ≠ 117 → j ≠ 120 → j ≠ 121 → j ≠ 122 → j ≠ 123 → j ≠ 124 → j ≠ 125 → j ≠ 131 → j ≠ 136 → fs_2[j]? = zs[j]? := fun j g117 g120 g121 g122 g123 g124 g125 g131 g136 => ((congrArg (fun z : List Value => z[j]?) efs_2).trans (List.getElem?_set_ne (Ne.symm g131))).trans (hrh_2 j g117 g120 g121 g122 g123 g124 g125 g131 g136)
      refine lv_iconst (v := 0) hx hb dX13_flows_28 (by decide) ?_
      refine lv_istore_n (lv' := [(3, .int 0), (0, .ref h0), (1, .int l1_2), (2, .int l2_2)]) hx hb dX13_flows_29 rfl hl (by decide) rfl (fun ls hl => ?_)
      refine lv_aload_n hx hb dX13_flows_30 rfl (lv_at hl 1 rfl) ?_
      refine lv_aload_n hx hb dX13_flows_31 rfl (lv_at hl 1 rfl) ?_
      refine va_get (D := (dC, dI)) (ci := 13) (v := .int v132) (C := RX13) (T := TX13) (N := 155) hx hb hts uV_h9_X13 hown hK hP 0 rfl rfl 132 (by decide) (hts (.fieldLink RX13 932 "ClassMillModel" "inClass" "I") mw_h9_533) (fun _ h9 => h9) hfs_2_132 dX13_flows_32 ?_
      refine lv_aload_n hx hb dX13_flows_35 rfl (lv_at hl 1 rfl) ?_
      refine va_get (D := (dC, dI)) (ci := 13) (v := .ref qf109) (C := RX13) (T := TX13) (N := 155) hx hb hts uV_h9_X13 hown hK hP 0 rfl rfl 109 (by decide) (hts (.fieldLink RX13 236 "ClassMillModel" "methodAt" "[I") mw_h9_282) (fun _ h9 => h9) hfs_2_109 dX13_flows_36 ?_
      refine lv_bipush (v := 12) hx hb dX13_flows_39 (by decide) ?_
      refine lv_aload_n hx hb dX13_flows_41 rfl (lv_at hl 1 rfl) ?_
      refine va_get (D := (dC, dI)) (ci := 13) (v := .int v132) (C := RX13) (T := TX13) (N := 155) hx hb hts uV_h9_X13 hown hK hP 0 rfl rfl 132 (by decide) (hts (.fieldLink RX13 932 "ClassMillModel" "inClass" "I") mw_h9_533) (fun _ h9 => h9) hfs_2_132 dX13_flows_42 ?_
      refine lv_imul hx hb dX13_flows_45 ?_
      refine lv_iload_n hx hb dX13_flows_46 rfl (lv_at hl 3 rfl) ?_
      refine lv_iadd hx hb dX13_flows_47 ?_
      obtain ⟨hi_4, hsp⟩ := ox_in hsp
      refine va_iald hx hb hK hP 1 0 rfl rfl (i := ((12 * v132) + l2_2)) hi_4 dX13_flows_48 ?_
      obtain ⟨u1_0, hu_1, hsp⟩ := ox_bind hsp
      try dsimp only at hsp
      have hPc := hP.sub (ws' := [(h0, .inr (13, fs_2)), (qf100, .inl (cf100, 48000, .inl f100))]) [0, 2] rfl
      have hDc := hD.sub (ws' := [(h0, .inr (13, fs_2)), (qf100, .inl (cf100, 48000, .inl f100))]) [0, 2] (by decide) rfl
      have hKc := hK.sub (tys' := [(cf100, .int)]) [1] rfl
      have hFc := va_free (wc := [(h0, .inr (13, fs_2)), (qf100, .inl (cf100, 48000, .inl f100))]) hD hS hA [0, 2] rfl
      refine va_calli (va_runV (As := [.int v132, .int (f109 (((12 * v132) + l2_2) : Int32).toNatClampNeg)]) (rest := []) ⟨hx, hb, hml, hown, hts⟩ (tm_byteAt l dC dI H.size h0 fs_2 v132 ((f109 (((12 * v132) + l2_2) : Int32).toNatClampNeg)) qf100 cf100 f100 nf u1_0 hlfs_2 hfs_2_100 hu_1) (cwV 2 hts gv_h9_58 rfl rfl rfl (by decide +kernel) ⟨Nat.le_of_ble_eq_true rfl, Nat.le_of_ble_eq_true rfl⟩) ⟨fun a U g mk q => by obtain ⟨q0, q1, qP, qK, qD⟩ := q; exact ⟨q0, q1, qP, va_K.moved (u := U) (U := U.calling g mk a) (Vm.Alike.refl U.vm) qK, qD⟩, va_recv hKc hPc (ci := 13) (q0 := 0) rfl rfl, fun U hU hW => ⟨rfl, by rw [hU], by rw [hU]; exact hPc, va_K.moved hW.alike hKc, hDc.weaken (fun _ _ _ _ => trivial)⟩⟩ rfl rfl hl.1 rfl (lv_room (Nat.le_of_ble_eq_true rfl)) dX13_flows_49 ⟨Nat.le_of_ble_eq_true rfl, Nat.le_of_ble_eq_true rfl⟩) hS (fun q _ h => hFc q h) hFc ?_
      clear hS
      intro r_5 u t H1 locs ht hvm hw hB hz1 hk1 hS
      obtain ⟨z_1, rfl⟩ : ∃ z, z = u := ⟨_, rfl⟩
      obtain ⟨hP1, hK1, hD1⟩ := hB
      rw [ht] at hP1
      have hK1 := va_K.moved hvm.symm hK1
      try dsimp only at hw
      have hPD := va_join (wr := [(qf109, .inl (cf109, 96, .inl f109)), (qf127, .inl (cf127, 30, .inl g127_2)), (qf107, .inl (cf107, 96, .inl f107)), (qf102, .inl (cf102, 2048, .inl f102)), (qf111, .inl (cf111, 96, .inl f111)), (qf104, .inl (cf104, 8, .inl f104)), (qf118, .inl (cf118, 2100, .inl g118_2)), (qf119, .inl (cf119, 2100, .inl g119_2)), (qf105, .inl (cf105, 8, .inl f105)), (qf128, .inl (cf128, 31, .inl g128_2)), (qf110, .inl (cf110, 96, .inl f110)), (qf103, .inl (cf103, 8, .inl f103)), (qf106, .inl (cf106, 8, .inl f106)), (qf108, .inl (cf108, 8, .inl f108)), (qf137, .inl (cf137, 6, .inl g137_2))]) (w1 := [(h0, .inr (13, z_1)), (qf100, .inl (cf100, 48000, .inl f100))]) hP hD [0, 2] [1, 3, 4, 5, 6, 7, 8, 9, 10, 11, 12, 13, 14, 15, 16] rfl rfl (by decide) (by decide) hk1 hFc hP1 hD1
      clear hP hD
      obtain ⟨hP, hD⟩ := hPD
      replace hK := (hK.sub (tys' := [(cf109, .int), (cf127, .int), (cf107, .int), (cf102, .int), (cf111, .int), (cf104, .int), (cf118, .int), (cf119, .int), (cf105, .int), (cf128, .int), (cf110, .int), (cf103, .int), (cf106, .int), (cf108, .int), (cf137, .int)]) [0, 2, 3, 4, 5, 6, 7, 8, 9, 10, 11, 12, 13, 14, 15] rfl).app hK1
      clear hPc hDc hKc hFc hP1 hK1 hD1 hz1 hk1 ht hvm
      generalize H1 = H at hP hS ⊢
      replace hP : va_P (dC, dI) vwCl [(qf109, .inl (cf109, 96, .inl f109)), (qf127, .inl (cf127, 30, .inl g127_2)), (qf107, .inl (cf107, 96, .inl f107)), (qf102, .inl (cf102, 2048, .inl f102)), (qf111, .inl (cf111, 96, .inl f111)), (qf104, .inl (cf104, 8, .inl f104)), (qf118, .inl (cf118, 2100, .inl g118_2)), (qf119, .inl (cf119, 2100, .inl g119_2)), (qf105, .inl (cf105, 8, .inl f105)), (qf128, .inl (cf128, 31, .inl g128_2)), (qf110, .inl (cf110, 96, .inl f110)), (qf103, .inl (cf103, 8, .inl f103)), (qf106, .inl (cf106, 8, .inl f106)), (qf108, .inl (cf108, 8, .inl f108)), (qf137, .inl (cf137, 6, .inl g137_2)), (h0, .inr (13, z_1)), (qf100, .inl (cf100, 48000, .inl f100))] H := hP
      replace hD : va_D A [(qf109, .inl (cf109, 96, .inl f109)), (qf127, .inl (cf127, 30, .inl g127_2)), (qf107, .inl (cf107, 96, .inl f107)), (qf102, .inl (cf102, 2048, .inl f102)), (qf111, .inl (cf111, 96, .inl f111)), (qf104, .inl (cf104, 8, .inl f104)), (qf118, .inl (cf118, 2100, .inl g118_2)), (qf119, .inl (cf119, 2100, .inl g119_2)), (qf105, .inl (cf105, 8, .inl f105)), (qf128, .inl (cf128, 31, .inl g128_2)), (qf110, .inl (cf110, 96, .inl f110)), (qf103, .inl (cf103, 8, .inl f103)), (qf106, .inl (cf106, 8, .inl f106)), (qf108, .inl (cf108, 8, .inl f108)), (qf137, .inl (cf137, 6, .inl g137_2)), (h0, .inr (13, z_1)), (qf100, .inl (cf100, 48000, .inl f100))] := hD
      replace hK : va_K (dC, dI) vwCl [(cf109, .int), (cf127, .int), (cf107, .int), (cf102, .int), (cf111, .int), (cf104, .int), (cf118, .int), (cf119, .int), (cf105, .int), (cf128, .int), (cf110, .int), (cf103, .int), (cf106, .int), (cf108, .int), (cf137, .int), (cf100, .int)] s := hK
      obtain ⟨hwa_1, hln_1, hre_1⟩ := hw
      have hfk_1_98 : z_1[98]? = some (.int v98) := (hre_1 98 ).trans (hfs_2_98)
      have hfk_1_100 : z_1[100]? = some (.ref qf100) := (hre_1 100 ).trans (hfs_2_100)
      have hfk_1_102 : z_1[102]? = some (.ref qf102) := (hre_1 102 ).trans (hfs_2_102)
      have hfk_1_103 : z_1[103]? = some (.ref qf103) := (hre_1 103 ).trans (hfs_2_103)
      have hfk_1_104 : z_1[104]? = some (.ref qf104) := (hre_1 104 ).trans (hfs_2_104)
      have hfk_1_105 : z_1[105]? = some (.ref qf105) := (hre_1 105 ).trans (hfs_2_105)
      have hfk_1_106 : z_1[106]? = some (.ref qf106) := (hre_1 106 ).trans (hfs_2_106)
      have hfk_1_107 : z_1[107]? = some (.ref qf107) := (hre_1 107 ).trans (hfs_2_107)
      have hfk_1_108 : z_1[108]? = some (.ref qf108) := (hre_1 108 ).trans (hfs_2_108)
      have hfk_1_109 : z_1[109]? = some (.ref qf109) := (hre_1 109 ).trans (hfs_2_109)
      have hfk_1_110 : z_1[110]? = some (.ref qf110) := (hre_1 110 ).trans (hfs_2_110)
      have hfk_1_111 : z_1[111]? = some (.ref qf111) := (hre_1 111 ).trans (hfs_2_111)
      have hfk_1_117 : z_1[117]? = some (.int x117_2) := (hre_1 117 ).trans (hfs_2_117)
      have hfk_1_118 : z_1[118]? = some (.ref qf118) := (hre_1 118 ).trans (hfs_2_118)
      have hfk_1_119 : z_1[119]? = some (.ref qf119) := (hre_1 119 ).trans (hfs_2_119)
      have hfk_1_120 : z_1[120]? = some (.int x120_2) := (hre_1 120 ).trans (hfs_2_120)
      have hfk_1_121 : z_1[121]? = some (.int x121_2) := (hre_1 121 ).trans (hfs_2_121)
      have hfk_1_122 : z_1[122]? = some (.int x122_2) := (hre_1 122 ).trans (hfs_2_122)
      have hfk_1_123 : z_1[123]? = some (.int x123_2) := (hre_1 123 ).trans (hfs_2_123)
      have hfk_1_124 : z_1[124]? = some (.int x124_2) := (hre_1 124 ).trans (hfs_2_124)
      have hfk_1_125 : z_1[125]? = some (.int x125_2) := (hre_1 125 ).trans (hfs_2_125)
      have hfk_1_127 : z_1[127]? = some (.ref qf127) := (hre_1 127 ).trans (hfs_2_127)
      have hfk_1_128 : z_1[128]? = some (.ref qf128) := (hre_1 128 ).trans (hfs_2_128)
      have hfk_1_129 : z_1[129]? = some (.int v129) := (hre_1 129 ).trans (hfs_2_129)
      have hfk_1_130 : z_1[130]? = some (.int v130) := (hre_1 130 ).trans (hfs_2_130)
      have hfk_1_131 : z_1[131]? = some (.int 0) := (hre_1 131 ).trans (hfs_2_131)
      have hfk_1_132 : z_1[132]? = some (.int v132) := (hre_1 132 ).trans (hfs_2_132)
      have hfk_1_133 : z_1[133]? = some (.int v133) := (hre_1 133 ).trans (hfs_2_133)
      have hfk_1_134 : z_1[134]? = some (.int v134) := (hre_1 134 ).trans (hfs_2_134)
      have hfk_1_135 : z_1[135]? = some (.int v135) := (hre_1 135 ).trans (hfs_2_135)
      have hfk_1_136 : z_1[136]? = some (.int x136_2) := (hre_1 136 ).trans (hfs_2_136)
      have hfk_1_137 : z_1[137]? = some (.ref qf137) := (hre_1 137 ).trans (hfs_2_137)
      have hrq_1 : ∀ j : Nat, j ≠ 117 → j ≠ 120 → j ≠ 121 → j ≠ 122 → j ≠ 123 → j ≠ 124 → j ≠ 125 → j ≠ 131 → j ≠ 136 → z_1[j]? = zs[j]? := fun j g117 g120 g121 g122 g123 g124 g125 g131 g136 => (hre_1 j ).trans (hrs_3 j g117 g120 g121 g122 g123 g124 g125 g131 g136)
      obtain rfl := hwa_1
      refine lv_if_ne (tgt := 68) hx hb dX13_flows_52 (by decide) (fun c_6 => ?_) (fun c_6 => ?_)
      · rw [if_neg c_6] at hsp
        exact hj_68 (H, locs, ls, z_1, l1_2, l2_2, 0, g118_2, g119_2, g127_2, g128_2, g137_2, x117_2, x120_2, x121_2, x122_2, x123_2, x124_2, x125_2, 0, x136_2) ⟨lv_sub hl [1, 2, 3, 0] rfl, hS, hD.sub (ws' := [(h0, .inr (13, z_1)), (qf109, .inl (cf109, 96, .inl f109)), (qf100, .inl (cf100, 48000, .inl f100)), (qf127, .inl (cf127, 30, .inl g127_2)), (qf107, .inl (cf107, 96, .inl f107)), (qf102, .inl (cf102, 2048, .inl f102)), (qf111, .inl (cf111, 96, .inl f111)), (qf104, .inl (cf104, 8, .inl f104)), (qf118, .inl (cf118, 2100, .inl g118_2)), (qf119, .inl (cf119, 2100, .inl g119_2)), (qf105, .inl (cf105, 8, .inl f105)), (qf128, .inl (cf128, 31, .inl g128_2)), (qf110, .inl (cf110, 96, .inl f110)), (qf103, .inl (cf103, 8, .inl f103)), (qf106, .inl (cf106, 8, .inl f106)), (qf108, .inl (cf108, 8, .inl f108)), (qf137, .inl (cf137, 6, .inl g137_2))]) [15, 0, 16, 1, 2, 3, 4, 5, 6, 7, 8, 9, 10, 11, 12, 13, 14] (by decide) rfl, hP.sub (ws' := [(h0, .inr (13, z_1)), (qf109, .inl (cf109, 96, .inl f109)), (qf100, .inl (cf100, 48000, .inl f100)), (qf127, .inl (cf127, 30, .inl g127_2)), (qf107, .inl (cf107, 96, .inl f107)), (qf102, .inl (cf102, 2048, .inl f102)), (qf111, .inl (cf111, 96, .inl f111)), (qf104, .inl (cf104, 8, .inl f104)), (qf118, .inl (cf118, 2100, .inl g118_2)), (qf119, .inl (cf119, 2100, .inl g119_2)), (qf105, .inl (cf105, 8, .inl f105)), (qf128, .inl (cf128, 31, .inl g128_2)), (qf110, .inl (cf110, 96, .inl f110)), (qf103, .inl (cf103, 8, .inl f103)), (qf106, .inl (cf106, 8, .inl f106)), (qf108, .inl (cf108, 8, .inl f108)), (qf137, .inl (cf137, 6, .inl g137_2))]) [15, 0, 16, 1, 2, 3, 4, 5, 6, 7, 8, 9, 10, 11, 12, 13, 14] rfl, hfk_1_98, hfk_1_100, hfk_1_102, hfk_1_103, hfk_1_104, hfk_1_105, hfk_1_106, hfk_1_107, hfk_1_108, hfk_1_109, hfk_1_110, hfk_1_111, hfk_1_117, hfk_1_118, hfk_1_119, hfk_1_120, hfk_1_121, hfk_1_122, hfk_1_123, hfk_1_124, hfk_1_125, hfk_1_127, hfk_1_128, hfk_1_129, hfk_1_130, hfk_1_131, hfk_1_132, hfk_1_133, hfk_1_134, hfk_1_135, hfk_1_136, hfk_1_137, hln_1, hrq_1, hsp⟩
      · rw [if_pos c_6] at hsp
        refine lv_aload_n hx hb dX13_flows_55 rfl (lv_at hl 1 rfl) ?_
        refine va_get (D := (dC, dI)) (ci := 13) (v := .ref qf127) (C := RX13) (T := TX13) (N := 155) hx hb hts uV_h9_X13 hown hK hP 15 rfl rfl 127 (by decide) (hts (.fieldLink RX13 270 "ClassMillModel" "locals" "[I") mw_h9_542) (fun _ h9 => h9) hfk_1_127 dX13_flows_56 ?_
        refine lv_iconst (v := 0) hx hb dX13_flows_59 (by decide) ?_
        refine lv_iconst (v := 4) hx hb dX13_flows_60 (by decide) ?_
        refine lv_iconst (v := 2) hx hb dX13_flows_61 (by decide) ?_
        refine lv_iload_n hx hb dX13_flows_62 rfl (lv_at hl 2 rfl) ?_
        refine lv_imul hx hb dX13_flows_63 ?_
        refine lv_iadd hx hb dX13_flows_64 ?_
        refine va_iast hx hb hK hP hD hS 1 1 rfl rfl (i := 0) (x := (4 + (2 * l1_2))) (by unfold vp_in; decide) dX13_flows_65 ?_
        clear hP hD hS
        intro H locs hP hD hS
        replace hP : va_P (dC, dI) vwCl [(qf109, .inl (cf109, 96, .inl f109)), (qf127, .inl (cf127, 30, .inl (upd g127_2 (0 : Int32).toNatClampNeg (4 + (2 * l1_2))))), (qf107, .inl (cf107, 96, .inl f107)), (qf102, .inl (cf102, 2048, .inl f102)), (qf111, .inl (cf111, 96, .inl f111)), (qf104, .inl (cf104, 8, .inl f104)), (qf118, .inl (cf118, 2100, .inl g118_2)), (qf119, .inl (cf119, 2100, .inl g119_2)), (qf105, .inl (cf105, 8, .inl f105)), (qf128, .inl (cf128, 31, .inl g128_2)), (qf110, .inl (cf110, 96, .inl f110)), (qf103, .inl (cf103, 8, .inl f103)), (qf106, .inl (cf106, 8, .inl f106)), (qf108, .inl (cf108, 8, .inl f108)), (qf137, .inl (cf137, 6, .inl g137_2)), (h0, .inr (13, z_1)), (qf100, .inl (cf100, 48000, .inl f100))] H := hP
        replace hD : va_D A [(qf109, .inl (cf109, 96, .inl f109)), (qf127, .inl (cf127, 30, .inl (upd g127_2 (0 : Int32).toNatClampNeg (4 + (2 * l1_2))))), (qf107, .inl (cf107, 96, .inl f107)), (qf102, .inl (cf102, 2048, .inl f102)), (qf111, .inl (cf111, 96, .inl f111)), (qf104, .inl (cf104, 8, .inl f104)), (qf118, .inl (cf118, 2100, .inl g118_2)), (qf119, .inl (cf119, 2100, .inl g119_2)), (qf105, .inl (cf105, 8, .inl f105)), (qf128, .inl (cf128, 31, .inl g128_2)), (qf110, .inl (cf110, 96, .inl f110)), (qf103, .inl (cf103, 8, .inl f103)), (qf106, .inl (cf106, 8, .inl f106)), (qf108, .inl (cf108, 8, .inl f108)), (qf137, .inl (cf137, 6, .inl g137_2)), (h0, .inr (13, z_1)), (qf100, .inl (cf100, 48000, .inl f100))] := hD
        refine lv_iconst (v := 1) hx hb dX13_flows_66 (by decide) ?_
        refine lv_istore_n (lv' := [(3, .int 1), (0, .ref h0), (1, .int l1_2), (2, .int l2_2)]) hx hb dX13_flows_67 rfl hl (by decide) rfl (fun ls hl => ?_)
        exact hj_68 (H, locs, ls, z_1, l1_2, l2_2, 1, g118_2, g119_2, (upd g127_2 (0 : Int32).toNatClampNeg (4 + (2 * l1_2))), g128_2, g137_2, x117_2, x120_2, x121_2, x122_2, x123_2, x124_2, x125_2, 0, x136_2) ⟨lv_sub hl [1, 2, 3, 0] rfl, hS, hD.sub (ws' := [(h0, .inr (13, z_1)), (qf109, .inl (cf109, 96, .inl f109)), (qf100, .inl (cf100, 48000, .inl f100)), (qf127, .inl (cf127, 30, .inl (upd g127_2 (0 : Int32).toNatClampNeg (4 + (2 * l1_2))))), (qf107, .inl (cf107, 96, .inl f107)), (qf102, .inl (cf102, 2048, .inl f102)), (qf111, .inl (cf111, 96, .inl f111)), (qf104, .inl (cf104, 8, .inl f104)), (qf118, .inl (cf118, 2100, .inl g118_2)), (qf119, .inl (cf119, 2100, .inl g119_2)), (qf105, .inl (cf105, 8, .inl f105)), (qf128, .inl (cf128, 31, .inl g128_2)), (qf110, .inl (cf110, 96, .inl f110)), (qf103, .inl (cf103, 8, .inl f103)), (qf106, .inl (cf106, 8, .inl f106)), (qf108, .inl (cf108, 8, .inl f108)), (qf137, .inl (cf137, 6, .inl g137_2))]) [15, 0, 16, 1, 2, 3, 4, 5, 6, 7, 8, 9, 10, 11, 12, 13, 14] (by decide) rfl, hP.sub (ws' := [(h0, .inr (13, z_1)), (qf109, .inl (cf109, 96, .inl f109)), (qf100, .inl (cf100, 48000, .inl f100)), (qf127, .inl (cf127, 30, .inl (upd g127_2 (0 : Int32).toNatClampNeg (4 + (2 * l1_2))))), (qf107, .inl (cf107, 96, .inl f107)), (qf102, .inl (cf102, 2048, .inl f102)), (qf111, .inl (cf111, 96, .inl f111)), (qf104, .inl (cf104, 8, .inl f104)), (qf118, .inl (cf118, 2100, .inl g118_2)), (qf119, .inl (cf119, 2100, .inl g119_2)), (qf105, .inl (cf105, 8, .inl f105)), (qf128, .inl (cf128, 31, .inl g128_2)), (qf110, .inl (cf110, 96, .inl f110)), (qf103, .inl (cf103, 8, .inl f103)), (qf106, .inl (cf106, 8, .inl f106)), (qf108, .inl (cf108, 8, .inl f108)), (qf137, .inl (cf137, 6, .inl g137_2))]) [15, 0, 16, 1, 2, 3, 4, 5, 6, 7, 8, 9, 10, 11, 12, 13, 14] rfl, hfk_1_98, hfk_1_100, hfk_1_102, hfk_1_103, hfk_1_104, hfk_1_105, hfk_1_106, hfk_1_107, hfk_1_108, hfk_1_109, hfk_1_110, hfk_1_111, hfk_1_117, hfk_1_118, hfk_1_119, hfk_1_120, hfk_1_121, hfk_1_122, hfk_1_123, hfk_1_124, hfk_1_125, hfk_1_127, hfk_1_128, hfk_1_129, hfk_1_130, hfk_1_131, hfk_1_132, hfk_1_133, hfk_1_134, hfk_1_135, hfk_1_136, hfk_1_137, hln_1, hrq_1, hsp⟩
    · rw [if_neg c_1] at hsp
      refine lv_aload_n hx hb dX13_flows_10 rfl (lv_at hl 1 rfl) ?_
      refine va_get (D := (dC, dI)) (ci := 13) (v := .ref qf127) (C := RX13) (T := TX13) (N := 155) hx hb hts uV_h9_X13 hown hK hP 0 rfl rfl 127 (by decide) (hts (.fieldLink RX13 270 "ClassMillModel" "locals" "[I") mw_h9_542) (fun _ h9 => h9) hfh_2_127 dX13_flows_11 ?_
      refine lv_iload_n hx hb dX13_flows_14 rfl (lv_at hl 0 rfl) ?_
      refine lv_iconst (v := 0) hx hb dX13_flows_15 (by decide) ?_
      obtain ⟨hi_7, hsp⟩ := ox_in hsp
      refine va_iast hx hb hK hP hD hS 3 2 rfl rfl (i := l3_2) (x := 0) hi_7 dX13_flows_16 ?_
      clear hP hD hS
      intro H locs hP hD hS
      replace hP : va_P (dC, dI) vwCl [(h0, .inr (13, z2)), (qf109, .inl (cf109, 96, .inl f109)), (qf100, .inl (cf100, 48000, .inl f100)), (qf127, .inl (cf127, 30, .inl (upd g127_2 (l3_2 : Int32).toNatClampNeg 0))), (qf107, .inl (cf107, 96, .inl f107)), (qf102, .inl (cf102, 2048, .inl f102)), (qf111, .inl (cf111, 96, .inl f111)), (qf104, .inl (cf104, 8, .inl f104)), (qf118, .inl (cf118, 2100, .inl g118_2)), (qf119, .inl (cf119, 2100, .inl g119_2)), (qf105, .inl (cf105, 8, .inl f105)), (qf128, .inl (cf128, 31, .inl g128_2)), (qf110, .inl (cf110, 96, .inl f110)), (qf103, .inl (cf103, 8, .inl f103)), (qf106, .inl (cf106, 8, .inl f106)), (qf108, .inl (cf108, 8, .inl f108)), (qf137, .inl (cf137, 6, .inl g137_2))] H := hP
      replace hD : va_D A [(h0, .inr (13, z2)), (qf109, .inl (cf109, 96, .inl f109)), (qf100, .inl (cf100, 48000, .inl f100)), (qf127, .inl (cf127, 30, .inl (upd g127_2 (l3_2 : Int32).toNatClampNeg 0))), (qf107, .inl (cf107, 96, .inl f107)), (qf102, .inl (cf102, 2048, .inl f102)), (qf111, .inl (cf111, 96, .inl f111)), (qf104, .inl (cf104, 8, .inl f104)), (qf118, .inl (cf118, 2100, .inl g118_2)), (qf119, .inl (cf119, 2100, .inl g119_2)), (qf105, .inl (cf105, 8, .inl f105)), (qf128, .inl (cf128, 31, .inl g128_2)), (qf110, .inl (cf110, 96, .inl f110)), (qf103, .inl (cf103, 8, .inl f103)), (qf106, .inl (cf106, 8, .inl f106)), (qf108, .inl (cf108, 8, .inl f108)), (qf137, .inl (cf137, 6, .inl g137_2))] := hD
      refine lv_iinc (v := (l3_2 + 1)) (lv' := [(3, .int (l3_2 + 1)), (0, .ref h0), (1, .int l1_2), (2, .int l2_2)]) hx hb dX13_flows_17 hl (k := 0) rfl rfl (by decide) rfl (fun ls hl => ?_)
      refine lv_goto (tgt := 2) hx hb dX13_flows_20 (by decide) ?_
      exact ih_2 H locs ls z2 l1_2 l2_2 (l3_2 + 1) g118_2 g119_2 (upd g127_2 (l3_2 : Int32).toNatClampNeg 0) g128_2 g137_2 x117_2 x120_2 x121_2 x122_2 x123_2 x124_2 x125_2 x131_2 x136_2 (hfh_2_98) (hfh_2_100) (hfh_2_102) (hfh_2_103) (hfh_2_104) (hfh_2_105) (hfh_2_106) (hfh_2_107) (hfh_2_108) (hfh_2_109) (hfh_2_110) (hfh_2_111) (hfh_2_117) (hfh_2_118) (hfh_2_119) (hfh_2_120) (hfh_2_121) (hfh_2_122) (hfh_2_123) (hfh_2_124) (hfh_2_125) (hfh_2_127) (hfh_2_128) (hfh_2_129) (hfh_2_130) (hfh_2_131) (hfh_2_132) (hfh_2_133) (hfh_2_134) (hfh_2_135) (hfh_2_136) (hfh_2_137) hlh_2 hrh_2 (lv_sub hl [0, 1, 2, 3] rfl) hS (hD.sub (ws' := [(h0, .inr (13, z2)), (qf109, .inl (cf109, 96, .inl f109)), (qf100, .inl (cf100, 48000, .inl f100)), (qf127, .inl (cf127, 30, .inl (upd g127_2 (l3_2 : Int32).toNatClampNeg 0))), (qf107, .inl (cf107, 96, .inl f107)), (qf102, .inl (cf102, 2048, .inl f102)), (qf111, .inl (cf111, 96, .inl f111)), (qf104, .inl (cf104, 8, .inl f104)), (qf118, .inl (cf118, 2100, .inl g118_2)), (qf119, .inl (cf119, 2100, .inl g119_2)), (qf105, .inl (cf105, 8, .inl f105)), (qf128, .inl (cf128, 31, .inl g128_2)), (qf110, .inl (cf110, 96, .inl f110)), (qf103, .inl (cf103, 8, .inl f103)), (qf106, .inl (cf106, 8, .inl f106)), (qf108, .inl (cf108, 8, .inl f108)), (qf137, .inl (cf137, 6, .inl g137_2))]) [0, 1, 2, 3, 4, 5, 6, 7, 8, 9, 10, 11, 12, 13, 14, 15, 16] (by decide) rfl) (hP.sub (ws' := [(h0, .inr (13, z2)), (qf109, .inl (cf109, 96, .inl f109)), (qf100, .inl (cf100, 48000, .inl f100)), (qf127, .inl (cf127, 30, .inl (upd g127_2 (l3_2 : Int32).toNatClampNeg 0))), (qf107, .inl (cf107, 96, .inl f107)), (qf102, .inl (cf102, 2048, .inl f102)), (qf111, .inl (cf111, 96, .inl f111)), (qf104, .inl (cf104, 8, .inl f104)), (qf118, .inl (cf118, 2100, .inl g118_2)), (qf119, .inl (cf119, 2100, .inl g119_2)), (qf105, .inl (cf105, 8, .inl f105)), (qf128, .inl (cf128, 31, .inl g128_2)), (qf110, .inl (cf110, 96, .inl f110)), (qf103, .inl (cf103, 8, .inl f103)), (qf106, .inl (cf106, 8, .inl f106)), (qf108, .inl (cf108, 8, .inl f108)), (qf137, .inl (cf137, 6, .inl g137_2))]) [0, 1, 2, 3, 4, 5, 6, 7, 8, 9, 10, 11, 12, 13, 14, 15, 16] rfl) hsp
def lp_vm_methodFits_245 (nf n : Nat) (a1 : Int32) (a2 : Int32) (v98 : Int32) (v117 : Int32) (v120 : Int32) (v121 : Int32) (v122 : Int32) (v123 : Int32) (v124 : Int32) (v125 : Int32) (v131 : Int32) (v136 : Int32) (f109 : Nat → Int32) (f100 : Nat → Int32) (f110 : Nat → Int32) (f111 : Nat → Int32) (f127 : Nat → Int32) (f107 : Nat → Int32) (f102 : Nat → Int32) (f104 : Nat → Int32) (f118 : Nat → Int32) (f119 : Nat → Int32) (f105 : Nat → Int32) (f128 : Nat → Int32) (f103 : Nat → Int32) (f106 : Nat → Int32) (f108 : Nat → Int32) (f137 : Nat → Int32) (f126 : Nat → Int32) (nS477 : Nat) (fS477 : Nat → Int32)  (l1_245 : Int32) (l2_245 : Int32) (l4_245 : Int32) (l5_245 : Int32) (g118_245 : Nat → Int32) (g119_245 : Nat → Int32) (g126_245 : Nat → Int32) (g127_245 : Nat → Int32) (g128_245 : Nat → Int32) (g137_245 : Nat → Int32) (x117_245 : Int32) (x120_245 : Int32) (x121_245 : Int32) (x122_245 : Int32) (x123_245 : Int32) (x124_245 : Int32) (x125_245 : Int32) (x129_245 : Int32) (x130_245 : Int32) (x131_245 : Int32) (x132_245 : Int32) (x133_245 : Int32) (x134_245 : Int32) (x135_245 : Int32) (x136_245 : Int32) : Option (Int32 × (Nat → Int32) × (Nat → Int32) × (Nat → Int32) × (Nat → Int32) × (Nat → Int32) × (Nat → Int32) × Int32 × Int32 × Int32 × Int32 × Int32 × Int32 × Int32 × Int32 × Int32 × Int32 × Int32 × Int32 × Int32 × Int32 × Int32) := match n with
  | 0 => none
  | n + 1 => ((sp_tm_frameMany nf x132_245 x133_245 f111 f100).bind (fun p1 => (if p1 ≤ l5_245 then ((sp_vm_flows nf l1_245 l2_245 v98 x117_245 x120_245 x121_245 x122_245 x123_245 x124_245 x125_245 x129_245 x130_245 x131_245 x132_245 x133_245 x134_245 x135_245 x136_245 f109 f100 g127_245 f107 f102 f111 f104 g118_245 g119_245 f105 g128_245 f110 f103 f106 f108 g137_245 nS477 fS477).bind (fun p2 => (if p2.1 = 0 then (some (0, p2.2.1, p2.2.2.1, g126_245, p2.2.2.2.1, p2.2.2.2.2.1, p2.2.2.2.2.2.1, p2.2.2.2.2.2.2.1, p2.2.2.2.2.2.2.2.1, p2.2.2.2.2.2.2.2.2.1, p2.2.2.2.2.2.2.2.2.2.1, p2.2.2.2.2.2.2.2.2.2.2.1, p2.2.2.2.2.2.2.2.2.2.2.2.1, p2.2.2.2.2.2.2.2.2.2.2.2.2.1, x129_245, x130_245, p2.2.2.2.2.2.2.2.2.2.2.2.2.2.1, x132_245, x133_245, x134_245, x135_245, p2.2.2.2.2.2.2.2.2.2.2.2.2.2.2)) else (some (1, p2.2.1, p2.2.2.1, g126_245, p2.2.2.2.1, p2.2.2.2.2.1, p2.2.2.2.2.2.1, p2.2.2.2.2.2.2.1, p2.2.2.2.2.2.2.2.1, p2.2.2.2.2.2.2.2.2.1, p2.2.2.2.2.2.2.2.2.2.1, p2.2.2.2.2.2.2.2.2.2.2.1, p2.2.2.2.2.2.2.2.2.2.2.2.1, p2.2.2.2.2.2.2.2.2.2.2.2.2.1, x129_245, x130_245, p2.2.2.2.2.2.2.2.2.2.2.2.2.2.1, x132_245, x133_245, x134_245, x135_245, p2.2.2.2.2.2.2.2.2.2.2.2.2.2.2))))) else ((sp_tn_frameAt nf l5_245 x132_245 x133_245 f111 f100).bind (fun p3 => ((sp_tm_pairIn nf p3 x132_245 f100).bind (fun p4 => (if p4 ≤ l4_245 then ((sp_tm_bad nf 9 l1_245 l2_245 l5_245).bind (fun p5 => (if p5.1 = 0 then (some (0, g118_245, g119_245, g126_245, g127_245, g128_245, g137_245, x117_245, x120_245, x121_245, p5.2.1, p5.2.2.1, p5.2.2.2.1, p5.2.2.2.2, x129_245, x130_245, x131_245, x132_245, x133_245, x134_245, x135_245, x136_245)) else (some (1, g118_245, g119_245, g126_245, g127_245, g128_245, g137_245, x117_245, x120_245, x121_245, p5.2.1, p5.2.2.1, p5.2.2.2.1, p5.2.2.2.2, x129_245, x130_245, x131_245, x132_245, x133_245, x134_245, x135_245, x136_245))))) else (if x135_245 ≤ p4 then ((sp_tm_bad nf 9 l1_245 l2_245 l5_245).bind (fun p6 => (if p6.1 = 0 then (some (0, g118_245, g119_245, g126_245, g127_245, g128_245, g137_245, x117_245, x120_245, x121_245, p6.2.1, p6.2.2.1, p6.2.2.2.1, p6.2.2.2.2, x129_245, x130_245, x131_245, x132_245, x133_245, x134_245, x135_245, x136_245)) else (some (1, g118_245, g119_245, g126_245, g127_245, g128_245, g137_245, x117_245, x120_245, x121_245, p6.2.1, p6.2.2.1, p6.2.2.2.1, p6.2.2.2.2, x129_245, x130_245, x131_245, x132_245, x133_245, x134_245, x135_245, x136_245))))) else (if p4 < 0 then none else if 1501 ≤ (p4 : Int32).toNatClampNeg then none else (if (g126_245 (p4 : Int32).toNatClampNeg) = 0 then ((sp_tm_bad nf 9 l1_245 l2_245 l5_245).bind (fun p7 => (if p7.1 = 0 then (some (0, g118_245, g119_245, g126_245, g127_245, g128_245, g137_245, x117_245, x120_245, x121_245, p7.2.1, p7.2.2.1, p7.2.2.2.1, p7.2.2.2.2, x129_245, x130_245, x131_245, x132_245, x133_245, x134_245, x135_245, x136_245)) else (some (1, g118_245, g119_245, g126_245, g127_245, g128_245, g137_245, x117_245, x120_245, x121_245, p7.2.1, p7.2.2.1, p7.2.2.2.1, p7.2.2.2.2, x129_245, x130_245, x131_245, x132_245, x133_245, x134_245, x135_245, x136_245))))) else ((sp_vm_frameIsThere nf p3 v98 x117_245 x120_245 x129_245 x130_245 x132_245 f100 f102 f104 g118_245 g119_245 nS477 fS477).bind (fun p8 => (if p8.1 = 0 then ((sp_tm_bad nf 9 l1_245 l2_245 l5_245).bind (fun p9 => (if p9.1 = 0 then (some (0, p8.2.1, p8.2.2.1, g126_245, g127_245, g128_245, g137_245, p8.2.2.2.1, p8.2.2.2.2, x121_245, p9.2.1, p9.2.2.1, p9.2.2.2.1, p9.2.2.2.2, x129_245, x130_245, x131_245, x132_245, x133_245, x134_245, x135_245, x136_245)) else (some (1, p8.2.1, p8.2.2.1, g126_245, g127_245, g128_245, g137_245, p8.2.2.2.1, p8.2.2.2.2, x121_245, p9.2.1, p9.2.2.1, p9.2.2.2.1, p9.2.2.2.2, x129_245, x130_245, x131_245, x132_245, x133_245, x134_245, x135_245, x136_245))))) else (lp_vm_methodFits_245 nf n a1 a2 v98 v117 v120 v121 v122 v123 v124 v125 v131 v136 f109 f100 f110 f111 f127 f107 f102 f104 f118 f119 f105 f128 f103 f106 f108 f137 f126 nS477 fS477 l1_245 l2_245 p4 (l5_245 + 1) p8.2.1 p8.2.2.1 g126_245 g127_245 g128_245 g137_245 p8.2.2.2.1 p8.2.2.2.2 x121_245 x122_245 x123_245 x124_245 x125_245 x129_245 x130_245 x131_245 x132_245 x133_245 x134_245 x135_245 x136_245)))))))))))))))
def lp_vm_methodFits_192 (nf n : Nat) (a1 : Int32) (a2 : Int32) (v98 : Int32) (v117 : Int32) (v120 : Int32) (v121 : Int32) (v122 : Int32) (v123 : Int32) (v124 : Int32) (v125 : Int32) (v131 : Int32) (v136 : Int32) (f109 : Nat → Int32) (f100 : Nat → Int32) (f110 : Nat → Int32) (f111 : Nat → Int32) (f127 : Nat → Int32) (f107 : Nat → Int32) (f102 : Nat → Int32) (f104 : Nat → Int32) (f118 : Nat → Int32) (f119 : Nat → Int32) (f105 : Nat → Int32) (f128 : Nat → Int32) (f103 : Nat → Int32) (f106 : Nat → Int32) (f108 : Nat → Int32) (f137 : Nat → Int32) (f126 : Nat → Int32) (nS477 : Nat) (fS477 : Nat → Int32)  (l1_192 : Int32) (l2_192 : Int32) (l3_192 : Int32) (l4_192 : Int32) (g118_192 : Nat → Int32) (g119_192 : Nat → Int32) (g126_192 : Nat → Int32) (g127_192 : Nat → Int32) (g128_192 : Nat → Int32) (g137_192 : Nat → Int32) (x117_192 : Int32) (x120_192 : Int32) (x121_192 : Int32) (x122_192 : Int32) (x123_192 : Int32) (x124_192 : Int32) (x125_192 : Int32) (x129_192 : Int32) (x130_192 : Int32) (x131_192 : Int32) (x132_192 : Int32) (x133_192 : Int32) (x134_192 : Int32) (x135_192 : Int32) (x136_192 : Int32) : Option (Int32 × (Nat → Int32) × (Nat → Int32) × (Nat → Int32) × (Nat → Int32) × (Nat → Int32) × (Nat → Int32) × Int32 × Int32 × Int32 × Int32 × Int32 × Int32 × Int32 × Int32 × Int32 × Int32 × Int32 × Int32 × Int32 × Int32 × Int32) := match n with
  | 0 => none
  | n + 1 => ((sp_tm_byteAt nf x132_192 l3_192 f100).bind (fun p1 => (if p1 ≤ l4_192 then (lp_vm_methodFits_245 nf nf a1 a2 v98 v117 v120 v121 v122 v123 v124 v125 v131 v136 f109 f100 f110 f111 f127 f107 f102 f104 f118 f119 f105 f128 f103 f106 f108 f137 f126 nS477 fS477  l1_192 l2_192 (-1) 0 g118_192 g119_192 g126_192 g127_192 g128_192 g137_192 x117_192 x120_192 x121_192 x122_192 x123_192 x124_192 x125_192 x129_192 x130_192 x131_192 x132_192 x133_192 x134_192 x135_192 x136_192) else ((sp_vm_handlerFits nf ((l3_192 + 1) + (7 * l4_192)) v98 x117_192 x120_192 x132_192 x133_192 x135_192 f100 g126_192 f102 f104 g118_192 g119_192 f111 f105 nS477 fS477).bind (fun p2 => (if p2.1 = 0 then ((sp_tm_bad nf 8 l1_192 l2_192 l4_192).bind (fun p3 => (if p3.1 = 0 then (some (0, p2.2.1, p2.2.2.1, g126_192, g127_192, g128_192, g137_192, p2.2.2.2.1, p2.2.2.2.2, x121_192, p3.2.1, p3.2.2.1, p3.2.2.2.1, p3.2.2.2.2, x129_192, x130_192, x131_192, x132_192, x133_192, x134_192, x135_192, x136_192)) else (some (1, p2.2.1, p2.2.2.1, g126_192, g127_192, g128_192, g137_192, p2.2.2.2.1, p2.2.2.2.2, x121_192, p3.2.1, p3.2.2.1, p3.2.2.2.1, p3.2.2.2.2, x129_192, x130_192, x131_192, x132_192, x133_192, x134_192, x135_192, x136_192))))) else (lp_vm_methodFits_192 nf n a1 a2 v98 v117 v120 v121 v122 v123 v124 v125 v131 v136 f109 f100 f110 f111 f127 f107 f102 f104 f118 f119 f105 f128 f103 f106 f108 f137 f126 nS477 fS477 l1_192 l2_192 l3_192 (l4_192 + 1) p2.2.1 p2.2.2.1 g126_192 g127_192 g128_192 g137_192 p2.2.2.2.1 p2.2.2.2.2 x121_192 x122_192 x123_192 x124_192 x125_192 x129_192 x130_192 x131_192 x132_192 x133_192 x134_192 x135_192 x136_192)))))))
def lp_vm_methodFits_97 (nf n : Nat) (a1 : Int32) (a2 : Int32) (v98 : Int32) (v117 : Int32) (v120 : Int32) (v121 : Int32) (v122 : Int32) (v123 : Int32) (v124 : Int32) (v125 : Int32) (v131 : Int32) (v136 : Int32) (f109 : Nat → Int32) (f100 : Nat → Int32) (f110 : Nat → Int32) (f111 : Nat → Int32) (f127 : Nat → Int32) (f107 : Nat → Int32) (f102 : Nat → Int32) (f104 : Nat → Int32) (f118 : Nat → Int32) (f119 : Nat → Int32) (f105 : Nat → Int32) (f128 : Nat → Int32) (f103 : Nat → Int32) (f106 : Nat → Int32) (f108 : Nat → Int32) (f137 : Nat → Int32) (f126 : Nat → Int32) (nS477 : Nat) (fS477 : Nat → Int32)  (l1_97 : Int32) (l2_97 : Int32) (l3_97 : Int32) (g118_97 : Nat → Int32) (g119_97 : Nat → Int32) (g126_97 : Nat → Int32) (g127_97 : Nat → Int32) (g128_97 : Nat → Int32) (g137_97 : Nat → Int32) (x117_97 : Int32) (x120_97 : Int32) (x121_97 : Int32) (x122_97 : Int32) (x123_97 : Int32) (x124_97 : Int32) (x125_97 : Int32) (x129_97 : Int32) (x130_97 : Int32) (x131_97 : Int32) (x132_97 : Int32) (x133_97 : Int32) (x134_97 : Int32) (x135_97 : Int32) (x136_97 : Int32) : Option (Int32 × (Nat → Int32) × (Nat → Int32) × (Nat → Int32) × (Nat → Int32) × (Nat → Int32) × (Nat → Int32) × Int32 × Int32 × Int32 × Int32 × Int32 × Int32 × Int32 × Int32 × Int32 × Int32 × Int32 × Int32 × Int32 × Int32 × Int32) := match n with
  | 0 => none
  | n + 1 => (if x135_97 ≤ l3_97 then (if ((12 * x132_97) + l2_97) < 0 then none else if 96 ≤ (((12 * x132_97) + l2_97) : Int32).toNatClampNeg then none else (lp_vm_methodFits_192 nf nf a1 a2 v98 v117 v120 v121 v122 v123 v124 v125 v131 v136 f109 f100 f110 f111 f127 f107 f102 f104 f118 f119 f105 f128 f103 f106 f108 f137 f126 nS477 fS477  l1_97 l2_97 (f110 (((12 * x132_97) + l2_97) : Int32).toNatClampNeg) 0 g118_97 g119_97 g126_97 g127_97 g128_97 g137_97 x117_97 x120_97 x121_97 x122_97 x123_97 x124_97 x125_97 x129_97 x130_97 x131_97 x132_97 x133_97 x134_97 x135_97 x136_97)) else ((sp_tm_code nf l3_97 x132_97 x134_97 f100).bind (fun p1 => ((sp_tm_isJump nf p1).bind (fun p2 => (if p2 = 0 then ((sp_tm_code nf l3_97 x132_97 x134_97 f100).bind (fun p3 => ((sp_tm_widthOf nf p3).bind (fun p4 => (lp_vm_methodFits_97 nf n a1 a2 v98 v117 v120 v121 v122 v123 v124 v125 v131 v136 f109 f100 f110 f111 f127 f107 f102 f104 f118 f119 f105 f128 f103 f106 f108 f137 f126 nS477 fS477 l1_97 l2_97 (l3_97 + p4) g118_97 g119_97 g126_97 g127_97 g128_97 g137_97 x117_97 x120_97 x121_97 x122_97 x123_97 x124_97 x125_97 x129_97 x130_97 x131_97 x132_97 x133_97 x134_97 x135_97 x136_97))))) else ((sp_tm_aimOf nf l3_97 x132_97 x134_97 f100).bind (fun p5 => (if p5 < 0 then ((sp_tm_bad nf 7 l1_97 l2_97 l3_97).bind (fun p6 => (if p6.1 = 0 then (some (0, g118_97, g119_97, g126_97, g127_97, g128_97, g137_97, x117_97, x120_97, x121_97, p6.2.1, p6.2.2.1, p6.2.2.2.1, p6.2.2.2.2, x129_97, x130_97, x131_97, x132_97, x133_97, x134_97, x135_97, x136_97)) else (some (1, g118_97, g119_97, g126_97, g127_97, g128_97, g137_97, x117_97, x120_97, x121_97, p6.2.1, p6.2.2.1, p6.2.2.2.1, p6.2.2.2.2, x129_97, x130_97, x131_97, x132_97, x133_97, x134_97, x135_97, x136_97))))) else (if x135_97 ≤ p5 then ((sp_tm_bad nf 7 l1_97 l2_97 l3_97).bind (fun p7 => (if p7.1 = 0 then (some (0, g118_97, g119_97, g126_97, g127_97, g128_97, g137_97, x117_97, x120_97, x121_97, p7.2.1, p7.2.2.1, p7.2.2.2.1, p7.2.2.2.2, x129_97, x130_97, x131_97, x132_97, x133_97, x134_97, x135_97, x136_97)) else (some (1, g118_97, g119_97, g126_97, g127_97, g128_97, g137_97, x117_97, x120_97, x121_97, p7.2.1, p7.2.2.1, p7.2.2.2.1, p7.2.2.2.2, x129_97, x130_97, x131_97, x132_97, x133_97, x134_97, x135_97, x136_97))))) else (if p5 < 0 then none else if 1501 ≤ (p5 : Int32).toNatClampNeg then none else (if (g126_97 (p5 : Int32).toNatClampNeg) = 0 then ((sp_tm_bad nf 7 l1_97 l2_97 l3_97).bind (fun p8 => (if p8.1 = 0 then (some (0, g118_97, g119_97, g126_97, g127_97, g128_97, g137_97, x117_97, x120_97, x121_97, p8.2.1, p8.2.2.1, p8.2.2.2.1, p8.2.2.2.2, x129_97, x130_97, x131_97, x132_97, x133_97, x134_97, x135_97, x136_97)) else (some (1, g118_97, g119_97, g126_97, g127_97, g128_97, g137_97, x117_97, x120_97, x121_97, p8.2.1, p8.2.2.1, p8.2.2.2.1, p8.2.2.2.2, x129_97, x130_97, x131_97, x132_97, x133_97, x134_97, x135_97, x136_97))))) else ((sp_tm_code nf l3_97 x132_97 x134_97 f100).bind (fun p9 => ((sp_tm_widthOf nf p9).bind (fun p10 => (lp_vm_methodFits_97 nf n a1 a2 v98 v117 v120 v121 v122 v123 v124 v125 v131 v136 f109 f100 f110 f111 f127 f107 f102 f104 f118 f119 f105 f128 f103 f106 f108 f137 f126 nS477 fS477 l1_97 l2_97 (l3_97 + p10) g118_97 g119_97 g126_97 g127_97 g128_97 g137_97 x117_97 x120_97 x121_97 x122_97 x123_97 x124_97 x125_97 x129_97 x130_97 x131_97 x132_97 x133_97 x134_97 x135_97 x136_97)))))))))))))))))
def lp_vm_methodFits_30 (nf n : Nat) (a1 : Int32) (a2 : Int32) (v98 : Int32) (v117 : Int32) (v120 : Int32) (v121 : Int32) (v122 : Int32) (v123 : Int32) (v124 : Int32) (v125 : Int32) (v131 : Int32) (v136 : Int32) (f109 : Nat → Int32) (f100 : Nat → Int32) (f110 : Nat → Int32) (f111 : Nat → Int32) (f127 : Nat → Int32) (f107 : Nat → Int32) (f102 : Nat → Int32) (f104 : Nat → Int32) (f118 : Nat → Int32) (f119 : Nat → Int32) (f105 : Nat → Int32) (f128 : Nat → Int32) (f103 : Nat → Int32) (f106 : Nat → Int32) (f108 : Nat → Int32) (f137 : Nat → Int32) (f126 : Nat → Int32) (nS477 : Nat) (fS477 : Nat → Int32)  (l1_30 : Int32) (l2_30 : Int32) (l3_30 : Int32) (g118_30 : Nat → Int32) (g119_30 : Nat → Int32) (g126_30 : Nat → Int32) (g127_30 : Nat → Int32) (g128_30 : Nat → Int32) (g137_30 : Nat → Int32) (x117_30 : Int32) (x120_30 : Int32) (x121_30 : Int32) (x122_30 : Int32) (x123_30 : Int32) (x124_30 : Int32) (x125_30 : Int32) (x129_30 : Int32) (x130_30 : Int32) (x131_30 : Int32) (x132_30 : Int32) (x133_30 : Int32) (x134_30 : Int32) (x135_30 : Int32) (x136_30 : Int32) : Option (Int32 × (Nat → Int32) × (Nat → Int32) × (Nat → Int32) × (Nat → Int32) × (Nat → Int32) × (Nat → Int32) × Int32 × Int32 × Int32 × Int32 × Int32 × Int32 × Int32 × Int32 × Int32 × Int32 × Int32 × Int32 × Int32 × Int32 × Int32) := match n with
  | 0 => none
  | n + 1 => (if x135_30 ≤ l3_30 then (lp_vm_methodFits_97 nf nf a1 a2 v98 v117 v120 v121 v122 v123 v124 v125 v131 v136 f109 f100 f110 f111 f127 f107 f102 f104 f118 f119 f105 f128 f103 f106 f108 f137 f126 nS477 fS477  l1_30 l2_30 0 g118_30 g119_30 g126_30 g127_30 g128_30 g137_30 x117_30 x120_30 x121_30 x122_30 x123_30 x124_30 x125_30 x129_30 x130_30 x131_30 x132_30 x133_30 x134_30 x135_30 x136_30) else ((sp_tm_code nf l3_30 x132_30 x134_30 f100).bind (fun p1 => ((sp_tm_widthOf nf p1).bind (fun p2 => (if p2 = 0 then ((sp_tm_bad nf 6 l1_30 l2_30 l3_30).bind (fun p3 => (if p3.1 = 0 then (some (0, g118_30, g119_30, g126_30, g127_30, g128_30, g137_30, x117_30, x120_30, x121_30, p3.2.1, p3.2.2.1, p3.2.2.2.1, p3.2.2.2.2, x129_30, x130_30, x131_30, x132_30, x133_30, x134_30, x135_30, x136_30)) else (some (1, g118_30, g119_30, g126_30, g127_30, g128_30, g137_30, x117_30, x120_30, x121_30, p3.2.1, p3.2.2.1, p3.2.2.2.1, p3.2.2.2.2, x129_30, x130_30, x131_30, x132_30, x133_30, x134_30, x135_30, x136_30))))) else (if (l3_30 + p2) ≤ x135_30 then (if l3_30 < 0 then none else if 1501 ≤ (l3_30 : Int32).toNatClampNeg then none else ((sp_tm_code nf l3_30 x132_30 x134_30 f100).bind (fun p4 => ((sp_tm_widthOf nf p4).bind (fun p5 => (lp_vm_methodFits_30 nf n a1 a2 v98 v117 v120 v121 v122 v123 v124 v125 v131 v136 f109 f100 f110 f111 f127 f107 f102 f104 f118 f119 f105 f128 f103 f106 f108 f137 f126 nS477 fS477 l1_30 l2_30 (l3_30 + p5) g118_30 g119_30 (upd g126_30 (l3_30 : Int32).toNatClampNeg (vp_nar .boolean 1)) g127_30 g128_30 g137_30 x117_30 x120_30 x121_30 x122_30 x123_30 x124_30 x125_30 x129_30 x130_30 x131_30 x132_30 x133_30 x134_30 x135_30 x136_30)))))) else ((sp_tm_bad nf 6 l1_30 l2_30 l3_30).bind (fun p6 => (if p6.1 = 0 then (some (0, g118_30, g119_30, g126_30, g127_30, g128_30, g137_30, x117_30, x120_30, x121_30, p6.2.1, p6.2.2.1, p6.2.2.2.1, p6.2.2.2.2, x129_30, x130_30, x131_30, x132_30, x133_30, x134_30, x135_30, x136_30)) else (some (1, g118_30, g119_30, g126_30, g127_30, g128_30, g137_30, x117_30, x120_30, x121_30, p6.2.1, p6.2.2.1, p6.2.2.2.1, p6.2.2.2.2, x129_30, x130_30, x131_30, x132_30, x133_30, x134_30, x135_30, x136_30))))))))))))
def lp_vm_methodFits_8 (nf n : Nat) (a1 : Int32) (a2 : Int32) (v98 : Int32) (v117 : Int32) (v120 : Int32) (v121 : Int32) (v122 : Int32) (v123 : Int32) (v124 : Int32) (v125 : Int32) (v131 : Int32) (v136 : Int32) (f109 : Nat → Int32) (f100 : Nat → Int32) (f110 : Nat → Int32) (f111 : Nat → Int32) (f127 : Nat → Int32) (f107 : Nat → Int32) (f102 : Nat → Int32) (f104 : Nat → Int32) (f118 : Nat → Int32) (f119 : Nat → Int32) (f105 : Nat → Int32) (f128 : Nat → Int32) (f103 : Nat → Int32) (f106 : Nat → Int32) (f108 : Nat → Int32) (f137 : Nat → Int32) (f126 : Nat → Int32) (nS477 : Nat) (fS477 : Nat → Int32)  (l1_8 : Int32) (l2_8 : Int32) (l3_8 : Int32) (g118_8 : Nat → Int32) (g119_8 : Nat → Int32) (g126_8 : Nat → Int32) (g127_8 : Nat → Int32) (g128_8 : Nat → Int32) (g137_8 : Nat → Int32) (x117_8 : Int32) (x120_8 : Int32) (x121_8 : Int32) (x122_8 : Int32) (x123_8 : Int32) (x124_8 : Int32) (x125_8 : Int32) (x129_8 : Int32) (x130_8 : Int32) (x131_8 : Int32) (x132_8 : Int32) (x133_8 : Int32) (x134_8 : Int32) (x135_8 : Int32) (x136_8 : Int32) : Option (Int32 × (Nat → Int32) × (Nat → Int32) × (Nat → Int32) × (Nat → Int32) × (Nat → Int32) × (Nat → Int32) × Int32 × Int32 × Int32 × Int32 × Int32 × Int32 × Int32 × Int32 × Int32 × Int32 × Int32 × Int32 × Int32 × Int32 × Int32) := match n with
  | 0 => none
  | n + 1 => (if 1500 < l3_8 then (lp_vm_methodFits_30 nf nf a1 a2 v98 v117 v120 v121 v122 v123 v124 v125 v131 v136 f109 f100 f110 f111 f127 f107 f102 f104 f118 f119 f105 f128 f103 f106 f108 f137 f126 nS477 fS477  l1_8 l2_8 0 g118_8 g119_8 g126_8 g127_8 g128_8 g137_8 x117_8 x120_8 x121_8 x122_8 x123_8 x124_8 x125_8 x129_8 x130_8 x131_8 x132_8 x133_8 x134_8 x135_8 x136_8) else (if l3_8 < 0 then none else if 1501 ≤ (l3_8 : Int32).toNatClampNeg then none else (lp_vm_methodFits_8 nf n a1 a2 v98 v117 v120 v121 v122 v123 v124 v125 v131 v136 f109 f100 f110 f111 f127 f107 f102 f104 f118 f119 f105 f128 f103 f106 f108 f137 f126 nS477 fS477 l1_8 l2_8 (l3_8 + 1) g118_8 g119_8 (upd g126_8 (l3_8 : Int32).toNatClampNeg (vp_nar .boolean 0)) g127_8 g128_8 g137_8 x117_8 x120_8 x121_8 x122_8 x123_8 x124_8 x125_8 x129_8 x130_8 x131_8 x132_8 x133_8 x134_8 x135_8 x136_8)))
def sp_vm_methodFits (nf : Nat) (a1 : Int32) (a2 : Int32) (v98 : Int32) (v117 : Int32) (v120 : Int32) (v121 : Int32) (v122 : Int32) (v123 : Int32) (v124 : Int32) (v125 : Int32) (v131 : Int32) (v136 : Int32) (f109 : Nat → Int32) (f100 : Nat → Int32) (f110 : Nat → Int32) (f111 : Nat → Int32) (f127 : Nat → Int32) (f107 : Nat → Int32) (f102 : Nat → Int32) (f104 : Nat → Int32) (f118 : Nat → Int32) (f119 : Nat → Int32) (f105 : Nat → Int32) (f128 : Nat → Int32) (f103 : Nat → Int32) (f106 : Nat → Int32) (f108 : Nat → Int32) (f137 : Nat → Int32) (f126 : Nat → Int32) (nS477 : Nat) (fS477 : Nat → Int32) : Option (Int32 × (Nat → Int32) × (Nat → Int32) × (Nat → Int32) × (Nat → Int32) × (Nat → Int32) × (Nat → Int32) × Int32 × Int32 × Int32 × Int32 × Int32 × Int32 × Int32 × Int32 × Int32 × Int32 × Int32 × Int32 × Int32 × Int32 × Int32) := ((sp_tn_at_ nf a1 a2 f109 f100).bind (fun p1 => (lp_vm_methodFits_8 nf nf a1 a2 v98 v117 v120 v121 v122 v123 v124 v125 v131 v136 f109 f100 f110 f111 f127 f107 f102 f104 f118 f119 f105 f128 f103 f106 f108 f137 f126 nS477 fS477  a1 a2 0 f118 f119 f126 f127 f128 f137 v117 v120 v121 v122 v123 v124 v125 p1.1 p1.2.1 v131 p1.2.2.1 p1.2.2.2.1 p1.2.2.2.2.1 p1.2.2.2.2.2 v136)))

set_option maxHeartbeats 4000000 in
set_option maxRecDepth 100000 in
/-- ClassMillModel.methodFits -/
theorem vm_methodFits (l : Launch) (dC : Nat → ClassId) (dI : Nat → Nat → Nat) (sz : Nat) (h0 : Nat) (zs : (List Value)) (a1 : Int32) (a2 : Int32) (v98 : Int32) (qf100 : Nat) (qf102 : Nat) (qf103 : Nat) (qf104 : Nat) (qf105 : Nat) (qf106 : Nat) (qf107 : Nat) (qf108 : Nat) (qf109 : Nat) (qf110 : Nat) (qf111 : Nat) (v117 : Int32) (qf118 : Nat) (qf119 : Nat) (v120 : Int32) (v121 : Int32) (v122 : Int32) (v123 : Int32) (v124 : Int32) (v125 : Int32) (qf126 : Nat) (qf127 : Nat) (qf128 : Nat) (v129 : Int32) (v130 : Int32) (v131 : Int32) (v132 : Int32) (v133 : Int32) (v134 : Int32) (v135 : Int32) (v136 : Int32) (qf137 : Nat) (cf109 : ClassId) (f109 : (Nat → Int32)) (cf100 : ClassId) (f100 : (Nat → Int32)) (cf110 : ClassId) (f110 : (Nat → Int32)) (cf111 : ClassId) (f111 : (Nat → Int32)) (cf127 : ClassId) (f127 : (Nat → Int32)) (cf107 : ClassId) (f107 : (Nat → Int32)) (cf102 : ClassId) (f102 : (Nat → Int32)) (cf104 : ClassId) (f104 : (Nat → Int32)) (cf118 : ClassId) (f118 : (Nat → Int32)) (cf119 : ClassId) (f119 : (Nat → Int32)) (cf105 : ClassId) (f105 : (Nat → Int32)) (cf128 : ClassId) (f128 : (Nat → Int32)) (cf103 : ClassId) (f103 : (Nat → Int32)) (cf106 : ClassId) (f106 : (Nat → Int32)) (cf108 : ClassId) (f108 : (Nat → Int32)) (cf137 : ClassId) (f137 : (Nat → Int32)) (cf126 : ClassId) (f126 : (Nat → Int32)) (nS477 : Nat) (fS477 : (Nat → Int32)) (hS477 : Nat) (qS477 : Nat) (tS477 : String) (nf : Nat) (r0 : Int32) (o118 : (Nat → Int32)) (o119 : (Nat → Int32)) (o126 : (Nat → Int32)) (o127 : (Nat → Int32)) (o128 : (Nat → Int32)) (o137 : (Nat → Int32)) (w117 : Int32) (w120 : Int32) (w121 : Int32) (w122 : Int32) (w123 : Int32) (w124 : Int32) (w125 : Int32) (w129 : Int32) (w130 : Int32) (w131 : Int32) (w132 : Int32) (w133 : Int32) (w134 : Int32) (w135 : Int32) (w136 : Int32) (hlen : zs.length = 155) (hf98 : zs[98]? = some (.int v98)) (hf100 : zs[100]? = some (.ref qf100)) (hf102 : zs[102]? = some (.ref qf102)) (hf103 : zs[103]? = some (.ref qf103)) (hf104 : zs[104]? = some (.ref qf104)) (hf105 : zs[105]? = some (.ref qf105)) (hf106 : zs[106]? = some (.ref qf106)) (hf107 : zs[107]? = some (.ref qf107)) (hf108 : zs[108]? = some (.ref qf108)) (hf109 : zs[109]? = some (.ref qf109)) (hf110 : zs[110]? = some (.ref qf110)) (hf111 : zs[111]? = some (.ref qf111)) (hf117 : zs[117]? = some (.int v117)) (hf118 : zs[118]? = some (.ref qf118)) (hf119 : zs[119]? = some (.ref qf119)) (hf120 : zs[120]? = some (.int v120)) (hf121 : zs[121]? = some (.int v121)) (hf122 : zs[122]? = some (.int v122)) (hf123 : zs[123]? = some (.int v123)) (hf124 : zs[124]? = some (.int v124)) (hf125 : zs[125]? = some (.int v125)) (hf126 : zs[126]? = some (.ref qf126)) (hf127 : zs[127]? = some (.ref qf127)) (hf128 : zs[128]? = some (.ref qf128)) (hf129 : zs[129]? = some (.int v129)) (hf130 : zs[130]? = some (.int v130)) (hf131 : zs[131]? = some (.int v131)) (hf132 : zs[132]? = some (.int v132)) (hf133 : zs[133]? = some (.int v133)) (hf134 : zs[134]? = some (.int v134)) (hf135 : zs[135]? = some (.int v135)) (hf136 : zs[136]? = some (.int v136)) (hf137 : zs[137]? = some (.ref qf137)) (hsp : sp_vm_methodFits nf a1 a2 v98 v117 v120 v121 v122 v123 v124 v125 v131 v136 f109 f100 f110 f111 f127 f107 f102 f104 f118 f119 f105 f128 f103 f106 f108 f137 f126 nS477 fS477 = some (r0, o118, o119, o126, o127, o128, o137, w117, w120, w121, w122, w123, w124, w125, w129, w130, w131, w132, w133, w134, w135, w136)) : Met l yX13_methodFits (.code yX13_methodFits cX13_methodFits 8 (some .boolean) :: VS_h9) ({ frames := 14, cells := 0, slots := 0, locals := 329 }) (va_Pc [.ref h0, .int a1, .int a2] (fun U => U.heap.size = sz ∧ va_P (dC, dI) vwCl [(h0, .inr (13, zs)), (qf109, .inl (cf109, 96, .inl f109)), (qf100, .inl (cf100, 48000, .inl f100)), (qf110, .inl (cf110, 96, .inl f110)), (qf111, .inl (cf111, 96, .inl f111)), (qf127, .inl (cf127, 30, .inl f127)), (qf107, .inl (cf107, 96, .inl f107)), (qf102, .inl (cf102, 2048, .inl f102)), (qf104, .inl (cf104, 8, .inl f104)), (qf118, .inl (cf118, 2100, .inl f118)), (qf119, .inl (cf119, 2100, .inl f119)), (qf105, .inl (cf105, 8, .inl f105)), (qf128, .inl (cf128, 31, .inl f128)), (qf103, .inl (cf103, 8, .inl f103)), (qf106, .inl (cf106, 8, .inl f106)), (qf108, .inl (cf108, 8, .inl f108)), (qf137, .inl (cf137, 6, .inl f137)), (qf126, .inl (cf126, 1501, .inl f126))] U.heap ∧ va_K (dC, dI) vwCl [(cf109, .int), (cf100, .int), (cf110, .int), (cf111, .int), (cf127, .int), (cf107, .int), (cf102, .int), (cf104, .int), (cf118, .int), (cf119, .int), (cf105, .int), (cf128, .int), (cf103, .int), (cf106, .int), (cf108, .int), (cf137, .int), (cf126, .boolean)] U ∧ va_D (fun _ => True) [(h0, .inr (13, zs)), (qf109, .inl (cf109, 96, .inl f109)), (qf100, .inl (cf100, 48000, .inl f100)), (qf110, .inl (cf110, 96, .inl f110)), (qf111, .inl (cf111, 96, .inl f111)), (qf127, .inl (cf127, 30, .inl f127)), (qf107, .inl (cf107, 96, .inl f107)), (qf102, .inl (cf102, 2048, .inl f102)), (qf104, .inl (cf104, 8, .inl f104)), (qf118, .inl (cf118, 2100, .inl f118)), (qf119, .inl (cf119, 2100, .inl f119)), (qf105, .inl (cf105, 8, .inl f105)), (qf128, .inl (cf128, 31, .inl f128)), (qf103, .inl (cf103, 8, .inl f103)), (qf106, .inl (cf106, 8, .inl f106)), (qf108, .inl (cf108, 8, .inl f108)), (qf137, .inl (cf137, 6, .inl f137)), (qf126, .inl (cf126, 1501, .inl f126))] ∧ pz_W nS477 fS477 hS477 qS477 (va_A [(h0, .inr (13, zs)), (qf109, .inl (cf109, 96, .inl f109)), (qf100, .inl (cf100, 48000, .inl f100)), (qf110, .inl (cf110, 96, .inl f110)), (qf111, .inl (cf111, 96, .inl f111)), (qf127, .inl (cf127, 30, .inl f127)), (qf107, .inl (cf107, 96, .inl f107)), (qf102, .inl (cf102, 2048, .inl f102)), (qf104, .inl (cf104, 8, .inl f104)), (qf118, .inl (cf118, 2100, .inl f118)), (qf119, .inl (cf119, 2100, .inl f119)), (qf105, .inl (cf105, 8, .inl f105)), (qf128, .inl (cf128, 31, .inl f128)), (qf103, .inl (cf103, 8, .inl f103)), (qf106, .inl (cf106, 8, .inl f106)), (qf108, .inl (cf108, 8, .inl f108)), (qf137, .inl (cf137, 6, .inl f137)), (qf126, .inl (cf126, 1501, .inl f126))] sz) U U.heap ∧ vk_R RX13 477 tS477 hS477 U)) (va_Qi (fun (r : Int32) (u : (List Value)) => match u with | (zo1) => (r0 = r ∧ (r0 = 0 ∨ r0 = 1)) ∧ zo1.length = 155 ∧ (∀ j : Nat, j ≠ 117 → j ≠ 120 → j ≠ 121 → j ≠ 122 → j ≠ 123 → j ≠ 124 → j ≠ 125 → j ≠ 129 → j ≠ 130 → j ≠ 131 → j ≠ 132 → j ≠ 133 → j ≠ 134 → j ≠ 135 → j ≠ 136 → zo1[j]? = zs[j]?) ∧ zo1[117]? = some (.int w117) ∧ zo1[120]? = some (.int w120) ∧ zo1[121]? = some (.int w121) ∧ zo1[122]? = some (.int w122) ∧ zo1[123]? = some (.int w123) ∧ zo1[124]? = some (.int w124) ∧ zo1[125]? = some (.int w125) ∧ zo1[129]? = some (.int w129) ∧ zo1[130]? = some (.int w130) ∧ zo1[131]? = some (.int w131) ∧ zo1[132]? = some (.int w132) ∧ zo1[133]? = some (.int w133) ∧ zo1[134]? = some (.int w134) ∧ zo1[135]? = some (.int w135) ∧ zo1[136]? = some (.int w136)) (fun (u : (List Value)) (t : State) => match u with | (zo1) => va_P (dC, dI) vwCl [(h0, .inr (13, zo1)), (qf109, .inl (cf109, 96, .inl f109)), (qf100, .inl (cf100, 48000, .inl f100)), (qf110, .inl (cf110, 96, .inl f110)), (qf111, .inl (cf111, 96, .inl f111)), (qf127, .inl (cf127, 30, .inl o127)), (qf107, .inl (cf107, 96, .inl f107)), (qf102, .inl (cf102, 2048, .inl f102)), (qf104, .inl (cf104, 8, .inl f104)), (qf118, .inl (cf118, 2100, .inl o118)), (qf119, .inl (cf119, 2100, .inl o119)), (qf105, .inl (cf105, 8, .inl f105)), (qf128, .inl (cf128, 31, .inl o128)), (qf103, .inl (cf103, 8, .inl f103)), (qf106, .inl (cf106, 8, .inl f106)), (qf108, .inl (cf108, 8, .inl f108)), (qf137, .inl (cf137, 6, .inl o137)), (qf126, .inl (cf126, 1501, .inl o126))] t.heap ∧ va_K (dC, dI) vwCl [(cf109, .int), (cf100, .int), (cf110, .int), (cf111, .int), (cf127, .int), (cf107, .int), (cf102, .int), (cf104, .int), (cf118, .int), (cf119, .int), (cf105, .int), (cf128, .int), (cf103, .int), (cf106, .int), (cf108, .int), (cf137, .int), (cf126, .boolean)] t ∧ va_D (va_A [(h0, .inr (13, zs)), (qf109, .inl (cf109, 96, .inl f109)), (qf100, .inl (cf100, 48000, .inl f100)), (qf110, .inl (cf110, 96, .inl f110)), (qf111, .inl (cf111, 96, .inl f111)), (qf127, .inl (cf127, 30, .inl f127)), (qf107, .inl (cf107, 96, .inl f107)), (qf102, .inl (cf102, 2048, .inl f102)), (qf104, .inl (cf104, 8, .inl f104)), (qf118, .inl (cf118, 2100, .inl f118)), (qf119, .inl (cf119, 2100, .inl f119)), (qf105, .inl (cf105, 8, .inl f105)), (qf128, .inl (cf128, 31, .inl f128)), (qf103, .inl (cf103, 8, .inl f103)), (qf106, .inl (cf106, 8, .inl f106)), (qf108, .inl (cf108, 8, .inl f108)), (qf137, .inl (cf137, 6, .inl f137)), (qf126, .inl (cf126, 1501, .inl f126))] sz) [(h0, .inr (13, zo1)), (qf109, .inl (cf109, 96, .inl f109)), (qf100, .inl (cf100, 48000, .inl f100)), (qf110, .inl (cf110, 96, .inl f110)), (qf111, .inl (cf111, 96, .inl f111)), (qf127, .inl (cf127, 30, .inl o127)), (qf107, .inl (cf107, 96, .inl f107)), (qf102, .inl (cf102, 2048, .inl f102)), (qf104, .inl (cf104, 8, .inl f104)), (qf118, .inl (cf118, 2100, .inl o118)), (qf119, .inl (cf119, 2100, .inl o119)), (qf105, .inl (cf105, 8, .inl f105)), (qf128, .inl (cf128, 31, .inl o128)), (qf103, .inl (cf103, 8, .inl f103)), (qf106, .inl (cf106, 8, .inl f106)), (qf108, .inl (cf108, 8, .inl f108)), (qf137, .inl (cf137, 6, .inl o137)), (qf126, .inl (cf126, 1501, .inl o126))]) (va_A [(h0, .inr (13, zs)), (qf109, .inl (cf109, 96, .inl f109)), (qf100, .inl (cf100, 48000, .inl f100)), (qf110, .inl (cf110, 96, .inl f110)), (qf111, .inl (cf111, 96, .inl f111)), (qf127, .inl (cf127, 30, .inl f127)), (qf107, .inl (cf107, 96, .inl f107)), (qf102, .inl (cf102, 2048, .inl f102)), (qf104, .inl (cf104, 8, .inl f104)), (qf118, .inl (cf118, 2100, .inl f118)), (qf119, .inl (cf119, 2100, .inl f119)), (qf105, .inl (cf105, 8, .inl f105)), (qf128, .inl (cf128, 31, .inl f128)), (qf103, .inl (cf103, 8, .inl f103)), (qf106, .inl (cf106, 8, .inl f106)), (qf108, .inl (cf108, 8, .inl f108)), (qf137, .inl (cf137, 6, .inl f137)), (qf126, .inl (cf126, 1501, .inl f126))] sz)) 0 0 (va_A [(h0, .inr (13, zs)), (qf109, .inl (cf109, 96, .inl f109)), (qf100, .inl (cf100, 48000, .inl f100)), (qf110, .inl (cf110, 96, .inl f110)), (qf111, .inl (cf111, 96, .inl f111)), (qf127, .inl (cf127, 30, .inl f127)), (qf107, .inl (cf107, 96, .inl f107)), (qf102, .inl (cf102, 2048, .inl f102)), (qf104, .inl (cf104, 8, .inl f104)), (qf118, .inl (cf118, 2100, .inl f118)), (qf119, .inl (cf119, 2100, .inl f119)), (qf105, .inl (cf105, 8, .inl f105)), (qf128, .inl (cf128, 31, .inl f128)), (qf103, .inl (cf103, 8, .inl f103)), (qf106, .inl (cf106, 8, .inl f106)), (qf108, .inl (cf108, 8, .inl f108)), (qf137, .inl (cf137, 6, .inl f137)), (qf126, .inl (cf126, 1501, .inl f126))] sz) := by
  refine Met.ofW (cc := cX13_methodFits) (maxL := 8) (ret := (some .boolean)) (by decide) rfl ?_
  intro p e s m args below meth c s₁ B hml hv
  obtain ⟨rfl, hsz, hP, hK, hD0, hZWS477, hZRS477⟩ := hv
  have hx := B.exec
  have hb := B.bytes
  have hr := B.returns
  have hts := atoms_spec (ws := (.code yX13_methodFits cX13_methodFits 8 (some .boolean) :: VS_h9)) B.pre
  replace hts := fun w (h : w ∈ VS_h9) => hts w (List.mem_cons_of_mem _ h)
  have hown : s.vm.findClass RX13 = some m.cls := findClass_of_methodNamed B.named
  have hlocks := B.notSynchronized
  subst hsz
  have hD := hD0.self (sz := s.heap.size)
  generalize hAe : va_A [(h0, .inr (13, zs)), (qf109, .inl (cf109, 96, .inl f109)), (qf100, .inl (cf100, 48000, .inl f100)), (qf110, .inl (cf110, 96, .inl f110)), (qf111, .inl (cf111, 96, .inl f111)), (qf127, .inl (cf127, 30, .inl f127)), (qf107, .inl (cf107, 96, .inl f107)), (qf102, .inl (cf102, 2048, .inl f102)), (qf104, .inl (cf104, 8, .inl f104)), (qf118, .inl (cf118, 2100, .inl f118)), (qf119, .inl (cf119, 2100, .inl f119)), (qf105, .inl (cf105, 8, .inl f105)), (qf128, .inl (cf128, 31, .inl f128)), (qf103, .inl (cf103, 8, .inl f103)), (qf106, .inl (cf106, 8, .inl f106)), (qf108, .inl (cf108, 8, .inl f108)), (qf137, .inl (cf137, 6, .inl f137)), (qf126, .inl (cf126, 1501, .inl f126))] s.heap.size = A at hD hZWS477 ⊢
  have hA : ∀ q : Nat, s.heap.size ≤ q → A q := fun q h => by rw [← hAe]; exact Or.inr h
  have hP : va_P (dC, dI) vwCl [(h0, .inr (13, zs)), (qf109, .inl (cf109, 96, .inl f109)), (qf100, .inl (cf100, 48000, .inl f100)), (qf110, .inl (cf110, 96, .inl f110)), (qf111, .inl (cf111, 96, .inl f111)), (qf127, .inl (cf127, 30, .inl f127)), (qf107, .inl (cf107, 96, .inl f107)), (qf102, .inl (cf102, 2048, .inl f102)), (qf104, .inl (cf104, 8, .inl f104)), (qf118, .inl (cf118, 2100, .inl f118)), (qf119, .inl (cf119, 2100, .inl f119)), (qf105, .inl (cf105, 8, .inl f105)), (qf128, .inl (cf128, 31, .inl f128)), (qf103, .inl (cf103, 8, .inl f103)), (qf106, .inl (cf106, 8, .inl f106)), (qf108, .inl (cf108, 8, .inl f108)), (qf137, .inl (cf137, 6, .inl f137)), (qf126, .inl (cf126, 1501, .inl f126))] s.heap := hP
  have hl := lv_entry ([.ref h0, .int a1, .int a2]) (n := 8) (Nat.le_of_ble_eq_true rfl)
  rw [lg_entry_eq]
  generalize (lg_sl ([.ref h0, .int a1, .int a2]) ++ List.replicate (8 - (lg_sl ([.ref h0, .int a1, .int a2])).length) Slot.unset).toArray = ls at hl ⊢
  have hl : lv_has ls 8 [(0, .ref h0), (1, .int a1), (2, .int a2)] := hl
  obtain ⟨H, hH⟩ : ∃ H : Heap, s.heap = H := ⟨_, rfl⟩
  rw [hH] at hP ⊢
  have hS : va_S A s.heap H [] := by rw [← hH]; exact va_S.rf
  obtain ⟨locs, hlo⟩ : ∃ locs : List Loc, locs = [] := ⟨_, rfl⟩
  rw [← hlo] at hS ⊢
  have hrs0 : ∀ j : Nat, j ≠ 117 → j ≠ 120 → j ≠ 121 → j ≠ 122 → j ≠ 123 → j ≠ 124 → j ≠ 125 → j ≠ 129 → j ≠ 130 → j ≠ 131 → j ≠ 132 → j ≠ 133 → j ≠ 134 → j ≠ 135 → j ≠ 136 → zs[j]? = zs[j]? := fun _ _ _ _ _ _ _ _ _ _ _ _ _ _ _ _  => rfl
  unfold sp_vm_methodFits at hsp
  refine jn_use (α := Heap × List Loc × Array Slot × List Value × Int32 × (Nat → Int32) × (Nat → Int32) × (Nat → Int32) × (Nat → Int32) × (Nat → Int32) × (Nat → Int32) × Int32 × Int32 × Int32 × Int32 × Int32 × Int32 × Int32 × Int32 × Int32 × Int32 × Int32 × Int32 × Int32 × Int32 × Int32) (fun x9 => x9.1) (fun x9 => x9.2.1) (fun x9 => F0 m 73 x9.2.2.1 [.int (x9.2.2.2.2.1)]) (fun x9 => match x9 with | (H, locs, ls, z73, rr_73, g118_73, g119_73, g126_73, g127_73, g128_73, g137_73, x117_73, x120_73, x121_73, x122_73, x123_73, x124_73, x125_73, x129_73, x130_73, x131_73, x132_73, x133_73, x134_73, x135_73, x136_73) => va_S A s.heap H locs ∧ va_D A [(h0, .inr (13, z73)), (qf109, .inl (cf109, 96, .inl f109)), (qf100, .inl (cf100, 48000, .inl f100)), (qf110, .inl (cf110, 96, .inl f110)), (qf111, .inl (cf111, 96, .inl f111)), (qf127, .inl (cf127, 30, .inl g127_73)), (qf107, .inl (cf107, 96, .inl f107)), (qf102, .inl (cf102, 2048, .inl f102)), (qf104, .inl (cf104, 8, .inl f104)), (qf118, .inl (cf118, 2100, .inl g118_73)), (qf119, .inl (cf119, 2100, .inl g119_73)), (qf105, .inl (cf105, 8, .inl f105)), (qf128, .inl (cf128, 31, .inl g128_73)), (qf103, .inl (cf103, 8, .inl f103)), (qf106, .inl (cf106, 8, .inl f106)), (qf108, .inl (cf108, 8, .inl f108)), (qf137, .inl (cf137, 6, .inl g137_73)), (qf126, .inl (cf126, 1501, .inl g126_73))] ∧ va_P (dC, dI) vwCl [(h0, .inr (13, z73)), (qf109, .inl (cf109, 96, .inl f109)), (qf100, .inl (cf100, 48000, .inl f100)), (qf110, .inl (cf110, 96, .inl f110)), (qf111, .inl (cf111, 96, .inl f111)), (qf127, .inl (cf127, 30, .inl g127_73)), (qf107, .inl (cf107, 96, .inl f107)), (qf102, .inl (cf102, 2048, .inl f102)), (qf104, .inl (cf104, 8, .inl f104)), (qf118, .inl (cf118, 2100, .inl g118_73)), (qf119, .inl (cf119, 2100, .inl g119_73)), (qf105, .inl (cf105, 8, .inl f105)), (qf128, .inl (cf128, 31, .inl g128_73)), (qf103, .inl (cf103, 8, .inl f103)), (qf106, .inl (cf106, 8, .inl f106)), (qf108, .inl (cf108, 8, .inl f108)), (qf137, .inl (cf137, 6, .inl g137_73)), (qf126, .inl (cf126, 1501, .inl g126_73))] H ∧ z73[98]? = some (.int v98) ∧ z73[100]? = some (.ref qf100) ∧ z73[102]? = some (.ref qf102) ∧ z73[103]? = some (.ref qf103) ∧ z73[104]? = some (.ref qf104) ∧ z73[105]? = some (.ref qf105) ∧ z73[106]? = some (.ref qf106) ∧ z73[107]? = some (.ref qf107) ∧ z73[108]? = some (.ref qf108) ∧ z73[109]? = some (.ref qf109) ∧ z73[110]? = some (.ref qf110) ∧ z73[111]? = some (.ref qf111) ∧ z73[117]? = some (.int x117_73) ∧ z73[118]? = some (.ref qf118) ∧ z73[119]? = some (.ref qf119) ∧ z73[120]? = some (.int x120_73) ∧ z73[121]? = some (.int x121_73) ∧ z73[122]? = some (.int x122_73) ∧ z73[123]? = some (.int x123_73) ∧ z73[124]? = some (.int x124_73) ∧ z73[125]? = some (.int x125_73) ∧ z73[126]? = some (.ref qf126) ∧ z73[127]? = some (.ref qf127) ∧ z73[128]? = some (.ref qf128) ∧ z73[129]? = some (.int x129_73) ∧ z73[130]? = some (.int x130_73) ∧ z73[131]? = some (.int x131_73) ∧ z73[132]? = some (.int x132_73) ∧ z73[133]? = some (.int x133_73) ∧ z73[134]? = some (.int x134_73) ∧ z73[135]? = some (.int x135_73) ∧ z73[136]? = some (.int x136_73) ∧ z73[137]? = some (.ref qf137) ∧ z73.length = 155 ∧ (∀ j : Nat, j ≠ 117 → j ≠ 120 → j ≠ 121 → j ≠ 122 → j ≠ 123 → j ≠ 124 → j ≠ 125 → j ≠ 129 → j ≠ 130 → j ≠ 131 → j ≠ 132 → j ≠ 133 → j ≠ 134 → j ≠ 135 → j ≠ 136 → z73[j]? = zs[j]?) ∧ (rr_73 = 0 ∨ rr_73 = 1) ∧ some (rr_73, g118_73, g119_73, g126_73, g127_73, g128_73, g137_73, x117_73, x120_73, x121_73, x122_73, x123_73, x124_73, x125_73, x129_73, x130_73, x131_73, x132_73, x133_73, x134_73, x135_73, x136_73) = some (r0, o118, o119, o126, o127, o128, o137, w117, w120, w121, w122, w123, w124, w125, w129, w130, w131, w132, w133, w134, w135, w136)) ?_ ?_
  · intro x9 hJ9
    obtain ⟨H, locs, ls, z73, rr_73, g118_73, g119_73, g126_73, g127_73, g128_73, g137_73, x117_73, x120_73, x121_73, x122_73, x123_73, x124_73, x125_73, x129_73, x130_73, x131_73, x132_73, x133_73, x134_73, x135_73, x136_73⟩ := x9
    obtain ⟨hS, hD, hP, hfh_73_98, hfh_73_100, hfh_73_102, hfh_73_103, hfh_73_104, hfh_73_105, hfh_73_106, hfh_73_107, hfh_73_108, hfh_73_109, hfh_73_110, hfh_73_111, hfh_73_117, hfh_73_118, hfh_73_119, hfh_73_120, hfh_73_121, hfh_73_122, hfh_73_123, hfh_73_124, hfh_73_125, hfh_73_126, hfh_73_127, hfh_73_128, hfh_73_129, hfh_73_130, hfh_73_131, hfh_73_132, hfh_73_133, hfh_73_134, hfh_73_135, hfh_73_136, hfh_73_137, hlh_73, hrh_73, hz9, hsp⟩ := hJ9
    replace hS : va_S A s.heap H locs := hS
    replace hD : va_D A [(h0, .inr (13, z73)), (qf109, .inl (cf109, 96, .inl f109)), (qf100, .inl (cf100, 48000, .inl f100)), (qf110, .inl (cf110, 96, .inl f110)), (qf111, .inl (cf111, 96, .inl f111)), (qf127, .inl (cf127, 30, .inl g127_73)), (qf107, .inl (cf107, 96, .inl f107)), (qf102, .inl (cf102, 2048, .inl f102)), (qf104, .inl (cf104, 8, .inl f104)), (qf118, .inl (cf118, 2100, .inl g118_73)), (qf119, .inl (cf119, 2100, .inl g119_73)), (qf105, .inl (cf105, 8, .inl f105)), (qf128, .inl (cf128, 31, .inl g128_73)), (qf103, .inl (cf103, 8, .inl f103)), (qf106, .inl (cf106, 8, .inl f106)), (qf108, .inl (cf108, 8, .inl f108)), (qf137, .inl (cf137, 6, .inl g137_73)), (qf126, .inl (cf126, 1501, .inl g126_73))] := hD
    replace hP : va_P (dC, dI) vwCl [(h0, .inr (13, z73)), (qf109, .inl (cf109, 96, .inl f109)), (qf100, .inl (cf100, 48000, .inl f100)), (qf110, .inl (cf110, 96, .inl f110)), (qf111, .inl (cf111, 96, .inl f111)), (qf127, .inl (cf127, 30, .inl g127_73)), (qf107, .inl (cf107, 96, .inl f107)), (qf102, .inl (cf102, 2048, .inl f102)), (qf104, .inl (cf104, 8, .inl f104)), (qf118, .inl (cf118, 2100, .inl g118_73)), (qf119, .inl (cf119, 2100, .inl g119_73)), (qf105, .inl (cf105, 8, .inl f105)), (qf128, .inl (cf128, 31, .inl g128_73)), (qf103, .inl (cf103, 8, .inl f103)), (qf106, .inl (cf106, 8, .inl f106)), (qf108, .inl (cf108, 8, .inl f108)), (qf137, .inl (cf137, 6, .inl g137_73)), (qf126, .inl (cf126, 1501, .inl g126_73))] H := hP
    replace hsp : some (rr_73, g118_73, g119_73, g126_73, g127_73, g128_73, g137_73, x117_73, x120_73, x121_73, x122_73, x123_73, x124_73, x125_73, x129_73, x130_73, x131_73, x132_73, x133_73, x134_73, x135_73, x136_73) = some (r0, o118, o119, o126, o127, o128, o137, w117, w120, w121, w122, w123, w124, w125, w129, w130, w131, w132, w133, w134, w135, w136) := hsp
    show W _ _ _ _ _ _ _ _ _ _ H locs _ _ _ (F0 m 73 ls [.int rr_73])
    rcases hz9 with rfl | rfl
    · skip
      have hr0 := Option.some.inj hsp
      clear hsp
      obtain ⟨hq0, hr1⟩ := Prod.mk.inj hr0
      clear hr0
      obtain ⟨hq1, hr2⟩ := Prod.mk.inj hr1
      clear hr1
      obtain ⟨hq2, hr3⟩ := Prod.mk.inj hr2
      clear hr2
      obtain ⟨hq3, hr4⟩ := Prod.mk.inj hr3
      clear hr3
      obtain ⟨hq4, hr5⟩ := Prod.mk.inj hr4
      clear hr4
      obtain ⟨hq5, hr6⟩ := Prod.mk.inj hr5
      clear hr5
      obtain ⟨hq6, hr7⟩ := Prod.mk.inj hr6
      clear hr6
      obtain ⟨hq7, hr8⟩ := Prod.mk.inj hr7
      clear hr7
      obtain ⟨hq8, hr9⟩ := Prod.mk.inj hr8
      clear hr8
      obtain ⟨hq9, hr10⟩ := Prod.mk.inj hr9
      clear hr9
      obtain ⟨hq10, hr11⟩ := Prod.mk.inj hr10
      clear hr10
      obtain ⟨hq11, hr12⟩ := Prod.mk.inj hr11
      clear hr11
      obtain ⟨hq12, hr13⟩ := Prod.mk.inj hr12
      clear hr12
      obtain ⟨hq13, hr14⟩ := Prod.mk.inj hr13
      clear hr13
      obtain ⟨hq14, hr15⟩ := Prod.mk.inj hr14
      clear hr14
      obtain ⟨hq15, hr16⟩ := Prod.mk.inj hr15
      clear hr15
      obtain ⟨hq16, hr17⟩ := Prod.mk.inj hr16
      clear hr16
      obtain ⟨hq17, hr18⟩ := Prod.mk.inj hr17
      clear hr17
      obtain ⟨hq18, hr19⟩ := Prod.mk.inj hr18
      clear hr18
      obtain ⟨hq19, hr20⟩ := Prod.mk.inj hr19
      clear hr19
      obtain ⟨hq20, hr21⟩ := Prod.mk.inj hr20
      clear hr20
      subst hq0
      subst hq1
      subst hq2
      subst hq3
      subst hq4
      subst hq5
      subst hq6
      subst hq7
      subst hq8
      subst hq9
      subst hq10
      subst hq11
      subst hq12
      subst hq13
      subst hq14
      subst hq15
      subst hq16
      subst hq17
      subst hq18
      subst hq19
      subst hq20
      subst hr21
      have hP9 := hP.sub (ws' := [(h0, .inr (13, z73)), (qf109, .inl (cf109, 96, .inl f109)), (qf100, .inl (cf100, 48000, .inl f100)), (qf110, .inl (cf110, 96, .inl f110)), (qf111, .inl (cf111, 96, .inl f111)), (qf127, .inl (cf127, 30, .inl g127_73)), (qf107, .inl (cf107, 96, .inl f107)), (qf102, .inl (cf102, 2048, .inl f102)), (qf104, .inl (cf104, 8, .inl f104)), (qf118, .inl (cf118, 2100, .inl g118_73)), (qf119, .inl (cf119, 2100, .inl g119_73)), (qf105, .inl (cf105, 8, .inl f105)), (qf128, .inl (cf128, 31, .inl g128_73)), (qf103, .inl (cf103, 8, .inl f103)), (qf106, .inl (cf106, 8, .inl f106)), (qf108, .inl (cf108, 8, .inl f108)), (qf137, .inl (cf137, 6, .inl g137_73)), (qf126, .inl (cf126, 1501, .inl g126_73))]) [0, 1, 2, 3, 4, 5, 6, 7, 8, 9, 10, 11, 12, 13, 14, 15, 16, 17] rfl
      have hD9 := hD.sub (ws' := [(h0, .inr (13, z73)), (qf109, .inl (cf109, 96, .inl f109)), (qf100, .inl (cf100, 48000, .inl f100)), (qf110, .inl (cf110, 96, .inl f110)), (qf111, .inl (cf111, 96, .inl f111)), (qf127, .inl (cf127, 30, .inl g127_73)), (qf107, .inl (cf107, 96, .inl f107)), (qf102, .inl (cf102, 2048, .inl f102)), (qf104, .inl (cf104, 8, .inl f104)), (qf118, .inl (cf118, 2100, .inl g118_73)), (qf119, .inl (cf119, 2100, .inl g119_73)), (qf105, .inl (cf105, 8, .inl f105)), (qf128, .inl (cf128, 31, .inl g128_73)), (qf103, .inl (cf103, 8, .inl f103)), (qf106, .inl (cf106, 8, .inl f106)), (qf108, .inl (cf108, 8, .inl f108)), (qf137, .inl (cf137, 6, .inl g137_73)), (qf126, .inl (cf126, 1501, .inl g126_73))]) [0, 1, 2, 3, 4, 5, 6, 7, 8, 9, 10, 11, 12, 13, 14, 15, 16, 17] (by decide) rfl
      have hK9 := hK.sub (tys' := [(cf109, .int), (cf100, .int), (cf110, .int), (cf111, .int), (cf127, .int), (cf107, .int), (cf102, .int), (cf104, .int), (cf118, .int), (cf119, .int), (cf105, .int), (cf128, .int), (cf103, .int), (cf106, .int), (cf108, .int), (cf137, .int), (cf126, .boolean)]) [0, 1, 2, 3, 4, 5, 6, 7, 8, 9, 10, 11, 12, 13, 14, 15, 16] rfl
      exact W.zret hx hb hr (by decide) (fun t ht hW => ⟨⟨(0), (z73), rfl, ⟨⟨rfl, Or.inl rfl⟩, hlh_73, hrh_73, hfh_73_117, hfh_73_120, hfh_73_121, hfh_73_122, hfh_73_123, hfh_73_124, hfh_73_125, hfh_73_129, hfh_73_130, hfh_73_131, hfh_73_132, hfh_73_133, hfh_73_134, hfh_73_135, hfh_73_136⟩, by rw [ht]; exact hP9, va_K.moved hW.alike hK9, hD9⟩, hS.F ht⟩) hS.2.2 dX13_methodFits_73
    · skip
      have hr0 := Option.some.inj hsp
      clear hsp
      obtain ⟨hq0, hr1⟩ := Prod.mk.inj hr0
      clear hr0
      obtain ⟨hq1, hr2⟩ := Prod.mk.inj hr1
      clear hr1
      obtain ⟨hq2, hr3⟩ := Prod.mk.inj hr2
      clear hr2
      obtain ⟨hq3, hr4⟩ := Prod.mk.inj hr3
      clear hr3
      obtain ⟨hq4, hr5⟩ := Prod.mk.inj hr4
      clear hr4
      obtain ⟨hq5, hr6⟩ := Prod.mk.inj hr5
      clear hr5
      obtain ⟨hq6, hr7⟩ := Prod.mk.inj hr6
      clear hr6
      obtain ⟨hq7, hr8⟩ := Prod.mk.inj hr7
      clear hr7
      obtain ⟨hq8, hr9⟩ := Prod.mk.inj hr8
      clear hr8
      obtain ⟨hq9, hr10⟩ := Prod.mk.inj hr9
      clear hr9
      obtain ⟨hq10, hr11⟩ := Prod.mk.inj hr10
      clear hr10
      obtain ⟨hq11, hr12⟩ := Prod.mk.inj hr11
      clear hr11
      obtain ⟨hq12, hr13⟩ := Prod.mk.inj hr12
      clear hr12
      obtain ⟨hq13, hr14⟩ := Prod.mk.inj hr13
      clear hr13
      obtain ⟨hq14, hr15⟩ := Prod.mk.inj hr14
      clear hr14
      obtain ⟨hq15, hr16⟩ := Prod.mk.inj hr15
      clear hr15
      obtain ⟨hq16, hr17⟩ := Prod.mk.inj hr16
      clear hr16
      obtain ⟨hq17, hr18⟩ := Prod.mk.inj hr17
      clear hr17
      obtain ⟨hq18, hr19⟩ := Prod.mk.inj hr18
      clear hr18
      obtain ⟨hq19, hr20⟩ := Prod.mk.inj hr19
      clear hr19
      obtain ⟨hq20, hr21⟩ := Prod.mk.inj hr20
      clear hr20
      subst hq0
      subst hq1
      subst hq2
      subst hq3
      subst hq4
      subst hq5
      subst hq6
      subst hq7
      subst hq8
      subst hq9
      subst hq10
      subst hq11
      subst hq12
      subst hq13
      subst hq14
      subst hq15
      subst hq16
      subst hq17
      subst hq18
      subst hq19
      subst hq20
      subst hr21
      have hP9 := hP.sub (ws' := [(h0, .inr (13, z73)), (qf109, .inl (cf109, 96, .inl f109)), (qf100, .inl (cf100, 48000, .inl f100)), (qf110, .inl (cf110, 96, .inl f110)), (qf111, .inl (cf111, 96, .inl f111)), (qf127, .inl (cf127, 30, .inl g127_73)), (qf107, .inl (cf107, 96, .inl f107)), (qf102, .inl (cf102, 2048, .inl f102)), (qf104, .inl (cf104, 8, .inl f104)), (qf118, .inl (cf118, 2100, .inl g118_73)), (qf119, .inl (cf119, 2100, .inl g119_73)), (qf105, .inl (cf105, 8, .inl f105)), (qf128, .inl (cf128, 31, .inl g128_73)), (qf103, .inl (cf103, 8, .inl f103)), (qf106, .inl (cf106, 8, .inl f106)), (qf108, .inl (cf108, 8, .inl f108)), (qf137, .inl (cf137, 6, .inl g137_73)), (qf126, .inl (cf126, 1501, .inl g126_73))]) [0, 1, 2, 3, 4, 5, 6, 7, 8, 9, 10, 11, 12, 13, 14, 15, 16, 17] rfl
      have hD9 := hD.sub (ws' := [(h0, .inr (13, z73)), (qf109, .inl (cf109, 96, .inl f109)), (qf100, .inl (cf100, 48000, .inl f100)), (qf110, .inl (cf110, 96, .inl f110)), (qf111, .inl (cf111, 96, .inl f111)), (qf127, .inl (cf127, 30, .inl g127_73)), (qf107, .inl (cf107, 96, .inl f107)), (qf102, .inl (cf102, 2048, .inl f102)), (qf104, .inl (cf104, 8, .inl f104)), (qf118, .inl (cf118, 2100, .inl g118_73)), (qf119, .inl (cf119, 2100, .inl g119_73)), (qf105, .inl (cf105, 8, .inl f105)), (qf128, .inl (cf128, 31, .inl g128_73)), (qf103, .inl (cf103, 8, .inl f103)), (qf106, .inl (cf106, 8, .inl f106)), (qf108, .inl (cf108, 8, .inl f108)), (qf137, .inl (cf137, 6, .inl g137_73)), (qf126, .inl (cf126, 1501, .inl g126_73))]) [0, 1, 2, 3, 4, 5, 6, 7, 8, 9, 10, 11, 12, 13, 14, 15, 16, 17] (by decide) rfl
      have hK9 := hK.sub (tys' := [(cf109, .int), (cf100, .int), (cf110, .int), (cf111, .int), (cf127, .int), (cf107, .int), (cf102, .int), (cf104, .int), (cf118, .int), (cf119, .int), (cf105, .int), (cf128, .int), (cf103, .int), (cf106, .int), (cf108, .int), (cf137, .int), (cf126, .boolean)]) [0, 1, 2, 3, 4, 5, 6, 7, 8, 9, 10, 11, 12, 13, 14, 15, 16] rfl
      exact W.zret hx hb hr (by decide) (fun t ht hW => ⟨⟨(1), (z73), rfl, ⟨⟨rfl, Or.inr rfl⟩, hlh_73, hrh_73, hfh_73_117, hfh_73_120, hfh_73_121, hfh_73_122, hfh_73_123, hfh_73_124, hfh_73_125, hfh_73_129, hfh_73_130, hfh_73_131, hfh_73_132, hfh_73_133, hfh_73_134, hfh_73_135, hfh_73_136⟩, by rw [ht]; exact hP9, va_K.moved hW.alike hK9, hD9⟩, hS.F ht⟩) hS.2.2 dX13_methodFits_73
  intro hret_73
  refine jn_use (α := Heap × List Loc × Array Slot × List Value × Int32 × (Nat → Int32) × (Nat → Int32) × (Nat → Int32) × (Nat → Int32) × (Nat → Int32) × (Nat → Int32) × Int32 × Int32 × Int32 × Int32 × Int32 × Int32 × Int32 × Int32 × Int32 × Int32 × Int32 × Int32 × Int32 × Int32 × Int32) (fun x9 => x9.1) (fun x9 => x9.2.1) (fun x9 => F0 m 159 x9.2.2.1 [.int (x9.2.2.2.2.1)]) (fun x9 => match x9 with | (H, locs, ls, z159, rr_159, g118_159, g119_159, g126_159, g127_159, g128_159, g137_159, x117_159, x120_159, x121_159, x122_159, x123_159, x124_159, x125_159, x129_159, x130_159, x131_159, x132_159, x133_159, x134_159, x135_159, x136_159) => va_S A s.heap H locs ∧ va_D A [(h0, .inr (13, z159)), (qf109, .inl (cf109, 96, .inl f109)), (qf100, .inl (cf100, 48000, .inl f100)), (qf110, .inl (cf110, 96, .inl f110)), (qf111, .inl (cf111, 96, .inl f111)), (qf127, .inl (cf127, 30, .inl g127_159)), (qf107, .inl (cf107, 96, .inl f107)), (qf102, .inl (cf102, 2048, .inl f102)), (qf104, .inl (cf104, 8, .inl f104)), (qf118, .inl (cf118, 2100, .inl g118_159)), (qf119, .inl (cf119, 2100, .inl g119_159)), (qf105, .inl (cf105, 8, .inl f105)), (qf128, .inl (cf128, 31, .inl g128_159)), (qf103, .inl (cf103, 8, .inl f103)), (qf106, .inl (cf106, 8, .inl f106)), (qf108, .inl (cf108, 8, .inl f108)), (qf137, .inl (cf137, 6, .inl g137_159)), (qf126, .inl (cf126, 1501, .inl g126_159))] ∧ va_P (dC, dI) vwCl [(h0, .inr (13, z159)), (qf109, .inl (cf109, 96, .inl f109)), (qf100, .inl (cf100, 48000, .inl f100)), (qf110, .inl (cf110, 96, .inl f110)), (qf111, .inl (cf111, 96, .inl f111)), (qf127, .inl (cf127, 30, .inl g127_159)), (qf107, .inl (cf107, 96, .inl f107)), (qf102, .inl (cf102, 2048, .inl f102)), (qf104, .inl (cf104, 8, .inl f104)), (qf118, .inl (cf118, 2100, .inl g118_159)), (qf119, .inl (cf119, 2100, .inl g119_159)), (qf105, .inl (cf105, 8, .inl f105)), (qf128, .inl (cf128, 31, .inl g128_159)), (qf103, .inl (cf103, 8, .inl f103)), (qf106, .inl (cf106, 8, .inl f106)), (qf108, .inl (cf108, 8, .inl f108)), (qf137, .inl (cf137, 6, .inl g137_159)), (qf126, .inl (cf126, 1501, .inl g126_159))] H ∧ z159[98]? = some (.int v98) ∧ z159[100]? = some (.ref qf100) ∧ z159[102]? = some (.ref qf102) ∧ z159[103]? = some (.ref qf103) ∧ z159[104]? = some (.ref qf104) ∧ z159[105]? = some (.ref qf105) ∧ z159[106]? = some (.ref qf106) ∧ z159[107]? = some (.ref qf107) ∧ z159[108]? = some (.ref qf108) ∧ z159[109]? = some (.ref qf109) ∧ z159[110]? = some (.ref qf110) ∧ z159[111]? = some (.ref qf111) ∧ z159[117]? = some (.int x117_159) ∧ z159[118]? = some (.ref qf118) ∧ z159[119]? = some (.ref qf119) ∧ z159[120]? = some (.int x120_159) ∧ z159[121]? = some (.int x121_159) ∧ z159[122]? = some (.int x122_159) ∧ z159[123]? = some (.int x123_159) ∧ z159[124]? = some (.int x124_159) ∧ z159[125]? = some (.int x125_159) ∧ z159[126]? = some (.ref qf126) ∧ z159[127]? = some (.ref qf127) ∧ z159[128]? = some (.ref qf128) ∧ z159[129]? = some (.int x129_159) ∧ z159[130]? = some (.int x130_159) ∧ z159[131]? = some (.int x131_159) ∧ z159[132]? = some (.int x132_159) ∧ z159[133]? = some (.int x133_159) ∧ z159[134]? = some (.int x134_159) ∧ z159[135]? = some (.int x135_159) ∧ z159[136]? = some (.int x136_159) ∧ z159[137]? = some (.ref qf137) ∧ z159.length = 155 ∧ (∀ j : Nat, j ≠ 117 → j ≠ 120 → j ≠ 121 → j ≠ 122 → j ≠ 123 → j ≠ 124 → j ≠ 125 → j ≠ 129 → j ≠ 130 → j ≠ 131 → j ≠ 132 → j ≠ 133 → j ≠ 134 → j ≠ 135 → j ≠ 136 → z159[j]? = zs[j]?) ∧ (rr_159 = 0 ∨ rr_159 = 1) ∧ some (rr_159, g118_159, g119_159, g126_159, g127_159, g128_159, g137_159, x117_159, x120_159, x121_159, x122_159, x123_159, x124_159, x125_159, x129_159, x130_159, x131_159, x132_159, x133_159, x134_159, x135_159, x136_159) = some (r0, o118, o119, o126, o127, o128, o137, w117, w120, w121, w122, w123, w124, w125, w129, w130, w131, w132, w133, w134, w135, w136)) ?_ ?_
  · intro x9 hJ9
    obtain ⟨H, locs, ls, z159, rr_159, g118_159, g119_159, g126_159, g127_159, g128_159, g137_159, x117_159, x120_159, x121_159, x122_159, x123_159, x124_159, x125_159, x129_159, x130_159, x131_159, x132_159, x133_159, x134_159, x135_159, x136_159⟩ := x9
    obtain ⟨hS, hD, hP, hfh_159_98, hfh_159_100, hfh_159_102, hfh_159_103, hfh_159_104, hfh_159_105, hfh_159_106, hfh_159_107, hfh_159_108, hfh_159_109, hfh_159_110, hfh_159_111, hfh_159_117, hfh_159_118, hfh_159_119, hfh_159_120, hfh_159_121, hfh_159_122, hfh_159_123, hfh_159_124, hfh_159_125, hfh_159_126, hfh_159_127, hfh_159_128, hfh_159_129, hfh_159_130, hfh_159_131, hfh_159_132, hfh_159_133, hfh_159_134, hfh_159_135, hfh_159_136, hfh_159_137, hlh_159, hrh_159, hz9, hsp⟩ := hJ9
    replace hS : va_S A s.heap H locs := hS
    replace hD : va_D A [(h0, .inr (13, z159)), (qf109, .inl (cf109, 96, .inl f109)), (qf100, .inl (cf100, 48000, .inl f100)), (qf110, .inl (cf110, 96, .inl f110)), (qf111, .inl (cf111, 96, .inl f111)), (qf127, .inl (cf127, 30, .inl g127_159)), (qf107, .inl (cf107, 96, .inl f107)), (qf102, .inl (cf102, 2048, .inl f102)), (qf104, .inl (cf104, 8, .inl f104)), (qf118, .inl (cf118, 2100, .inl g118_159)), (qf119, .inl (cf119, 2100, .inl g119_159)), (qf105, .inl (cf105, 8, .inl f105)), (qf128, .inl (cf128, 31, .inl g128_159)), (qf103, .inl (cf103, 8, .inl f103)), (qf106, .inl (cf106, 8, .inl f106)), (qf108, .inl (cf108, 8, .inl f108)), (qf137, .inl (cf137, 6, .inl g137_159)), (qf126, .inl (cf126, 1501, .inl g126_159))] := hD
    replace hP : va_P (dC, dI) vwCl [(h0, .inr (13, z159)), (qf109, .inl (cf109, 96, .inl f109)), (qf100, .inl (cf100, 48000, .inl f100)), (qf110, .inl (cf110, 96, .inl f110)), (qf111, .inl (cf111, 96, .inl f111)), (qf127, .inl (cf127, 30, .inl g127_159)), (qf107, .inl (cf107, 96, .inl f107)), (qf102, .inl (cf102, 2048, .inl f102)), (qf104, .inl (cf104, 8, .inl f104)), (qf118, .inl (cf118, 2100, .inl g118_159)), (qf119, .inl (cf119, 2100, .inl g119_159)), (qf105, .inl (cf105, 8, .inl f105)), (qf128, .inl (cf128, 31, .inl g128_159)), (qf103, .inl (cf103, 8, .inl f103)), (qf106, .inl (cf106, 8, .inl f106)), (qf108, .inl (cf108, 8, .inl f108)), (qf137, .inl (cf137, 6, .inl g137_159)), (qf126, .inl (cf126, 1501, .inl g126_159))] H := hP
    replace hsp : some (rr_159, g118_159, g119_159, g126_159, g127_159, g128_159, g137_159, x117_159, x120_159, x121_159, x122_159, x123_159, x124_159, x125_159, x129_159, x130_159, x131_159, x132_159, x133_159, x134_159, x135_159, x136_159) = some (r0, o118, o119, o126, o127, o128, o137, w117, w120, w121, w122, w123, w124, w125, w129, w130, w131, w132, w133, w134, w135, w136) := hsp
    show W _ _ _ _ _ _ _ _ _ _ H locs _ _ _ (F0 m 159 ls [.int rr_159])
    rcases hz9 with rfl | rfl
    · skip
      have hr0 := Option.some.inj hsp
      clear hsp
      obtain ⟨hq0, hr1⟩ := Prod.mk.inj hr0
      clear hr0
      obtain ⟨hq1, hr2⟩ := Prod.mk.inj hr1
      clear hr1
      obtain ⟨hq2, hr3⟩ := Prod.mk.inj hr2
      clear hr2
      obtain ⟨hq3, hr4⟩ := Prod.mk.inj hr3
      clear hr3
      obtain ⟨hq4, hr5⟩ := Prod.mk.inj hr4
      clear hr4
      obtain ⟨hq5, hr6⟩ := Prod.mk.inj hr5
      clear hr5
      obtain ⟨hq6, hr7⟩ := Prod.mk.inj hr6
      clear hr6
      obtain ⟨hq7, hr8⟩ := Prod.mk.inj hr7
      clear hr7
      obtain ⟨hq8, hr9⟩ := Prod.mk.inj hr8
      clear hr8
      obtain ⟨hq9, hr10⟩ := Prod.mk.inj hr9
      clear hr9
      obtain ⟨hq10, hr11⟩ := Prod.mk.inj hr10
      clear hr10
      obtain ⟨hq11, hr12⟩ := Prod.mk.inj hr11
      clear hr11
      obtain ⟨hq12, hr13⟩ := Prod.mk.inj hr12
      clear hr12
      obtain ⟨hq13, hr14⟩ := Prod.mk.inj hr13
      clear hr13
      obtain ⟨hq14, hr15⟩ := Prod.mk.inj hr14
      clear hr14
      obtain ⟨hq15, hr16⟩ := Prod.mk.inj hr15
      clear hr15
      obtain ⟨hq16, hr17⟩ := Prod.mk.inj hr16
      clear hr16
      obtain ⟨hq17, hr18⟩ := Prod.mk.inj hr17
      clear hr17
      obtain ⟨hq18, hr19⟩ := Prod.mk.inj hr18
      clear hr18
      obtain ⟨hq19, hr20⟩ := Prod.mk.inj hr19
      clear hr19
      obtain ⟨hq20, hr21⟩ := Prod.mk.inj hr20
      clear hr20
      subst hq0
      subst hq1
      subst hq2
      subst hq3
      subst hq4
      subst hq5
      subst hq6
      subst hq7
      subst hq8
      subst hq9
      subst hq10
      subst hq11
      subst hq12
      subst hq13
      subst hq14
      subst hq15
      subst hq16
      subst hq17
      subst hq18
      subst hq19
      subst hq20
      subst hr21
      have hP9 := hP.sub (ws' := [(h0, .inr (13, z159)), (qf109, .inl (cf109, 96, .inl f109)), (qf100, .inl (cf100, 48000, .inl f100)), (qf110, .inl (cf110, 96, .inl f110)), (qf111, .inl (cf111, 96, .inl f111)), (qf127, .inl (cf127, 30, .inl g127_159)), (qf107, .inl (cf107, 96, .inl f107)), (qf102, .inl (cf102, 2048, .inl f102)), (qf104, .inl (cf104, 8, .inl f104)), (qf118, .inl (cf118, 2100, .inl g118_159)), (qf119, .inl (cf119, 2100, .inl g119_159)), (qf105, .inl (cf105, 8, .inl f105)), (qf128, .inl (cf128, 31, .inl g128_159)), (qf103, .inl (cf103, 8, .inl f103)), (qf106, .inl (cf106, 8, .inl f106)), (qf108, .inl (cf108, 8, .inl f108)), (qf137, .inl (cf137, 6, .inl g137_159)), (qf126, .inl (cf126, 1501, .inl g126_159))]) [0, 1, 2, 3, 4, 5, 6, 7, 8, 9, 10, 11, 12, 13, 14, 15, 16, 17] rfl
      have hD9 := hD.sub (ws' := [(h0, .inr (13, z159)), (qf109, .inl (cf109, 96, .inl f109)), (qf100, .inl (cf100, 48000, .inl f100)), (qf110, .inl (cf110, 96, .inl f110)), (qf111, .inl (cf111, 96, .inl f111)), (qf127, .inl (cf127, 30, .inl g127_159)), (qf107, .inl (cf107, 96, .inl f107)), (qf102, .inl (cf102, 2048, .inl f102)), (qf104, .inl (cf104, 8, .inl f104)), (qf118, .inl (cf118, 2100, .inl g118_159)), (qf119, .inl (cf119, 2100, .inl g119_159)), (qf105, .inl (cf105, 8, .inl f105)), (qf128, .inl (cf128, 31, .inl g128_159)), (qf103, .inl (cf103, 8, .inl f103)), (qf106, .inl (cf106, 8, .inl f106)), (qf108, .inl (cf108, 8, .inl f108)), (qf137, .inl (cf137, 6, .inl g137_159)), (qf126, .inl (cf126, 1501, .inl g126_159))]) [0, 1, 2, 3, 4, 5, 6, 7, 8, 9, 10, 11, 12, 13, 14, 15, 16, 17] (by decide) rfl
      have hK9 := hK.sub (tys' := [(cf109, .int), (cf100, .int), (cf110, .int), (cf111, .int), (cf127, .int), (cf107, .int), (cf102, .int), (cf104, .int), (cf118, .int), (cf119, .int), (cf105, .int), (cf128, .int), (cf103, .int), (cf106, .int), (cf108, .int), (cf137, .int), (cf126, .boolean)]) [0, 1, 2, 3, 4, 5, 6, 7, 8, 9, 10, 11, 12, 13, 14, 15, 16] rfl
      exact W.zret hx hb hr (by decide) (fun t ht hW => ⟨⟨(0), (z159), rfl, ⟨⟨rfl, Or.inl rfl⟩, hlh_159, hrh_159, hfh_159_117, hfh_159_120, hfh_159_121, hfh_159_122, hfh_159_123, hfh_159_124, hfh_159_125, hfh_159_129, hfh_159_130, hfh_159_131, hfh_159_132, hfh_159_133, hfh_159_134, hfh_159_135, hfh_159_136⟩, by rw [ht]; exact hP9, va_K.moved hW.alike hK9, hD9⟩, hS.F ht⟩) hS.2.2 dX13_methodFits_159
    · skip
      have hr0 := Option.some.inj hsp
      clear hsp
      obtain ⟨hq0, hr1⟩ := Prod.mk.inj hr0
      clear hr0
      obtain ⟨hq1, hr2⟩ := Prod.mk.inj hr1
      clear hr1
      obtain ⟨hq2, hr3⟩ := Prod.mk.inj hr2
      clear hr2
      obtain ⟨hq3, hr4⟩ := Prod.mk.inj hr3
      clear hr3
      obtain ⟨hq4, hr5⟩ := Prod.mk.inj hr4
      clear hr4
      obtain ⟨hq5, hr6⟩ := Prod.mk.inj hr5
      clear hr5
      obtain ⟨hq6, hr7⟩ := Prod.mk.inj hr6
      clear hr6
      obtain ⟨hq7, hr8⟩ := Prod.mk.inj hr7
      clear hr7
      obtain ⟨hq8, hr9⟩ := Prod.mk.inj hr8
      clear hr8
      obtain ⟨hq9, hr10⟩ := Prod.mk.inj hr9
      clear hr9
      obtain ⟨hq10, hr11⟩ := Prod.mk.inj hr10
      clear hr10
      obtain ⟨hq11, hr12⟩ := Prod.mk.inj hr11
      clear hr11
      obtain ⟨hq12, hr13⟩ := Prod.mk.inj hr12
      clear hr12
      obtain ⟨hq13, hr14⟩ := Prod.mk.inj hr13
      clear hr13
      obtain ⟨hq14, hr15⟩ := Prod.mk.inj hr14
      clear hr14
      obtain ⟨hq15, hr16⟩ := Prod.mk.inj hr15
      clear hr15
      obtain ⟨hq16, hr17⟩ := Prod.mk.inj hr16
      clear hr16
      obtain ⟨hq17, hr18⟩ := Prod.mk.inj hr17
      clear hr17
      obtain ⟨hq18, hr19⟩ := Prod.mk.inj hr18
      clear hr18
      obtain ⟨hq19, hr20⟩ := Prod.mk.inj hr19
      clear hr19
      obtain ⟨hq20, hr21⟩ := Prod.mk.inj hr20
      clear hr20
      subst hq0
      subst hq1
      subst hq2
      subst hq3
      subst hq4
      subst hq5
      subst hq6
      subst hq7
      subst hq8
      subst hq9
      subst hq10
      subst hq11
      subst hq12
      subst hq13
      subst hq14
      subst hq15
      subst hq16
      subst hq17
      subst hq18
      subst hq19
      subst hq20
      subst hr21
      have hP9 := hP.sub (ws' := [(h0, .inr (13, z159)), (qf109, .inl (cf109, 96, .inl f109)), (qf100, .inl (cf100, 48000, .inl f100)), (qf110, .inl (cf110, 96, .inl f110)), (qf111, .inl (cf111, 96, .inl f111)), (qf127, .inl (cf127, 30, .inl g127_159)), (qf107, .inl (cf107, 96, .inl f107)), (qf102, .inl (cf102, 2048, .inl f102)), (qf104, .inl (cf104, 8, .inl f104)), (qf118, .inl (cf118, 2100, .inl g118_159)), (qf119, .inl (cf119, 2100, .inl g119_159)), (qf105, .inl (cf105, 8, .inl f105)), (qf128, .inl (cf128, 31, .inl g128_159)), (qf103, .inl (cf103, 8, .inl f103)), (qf106, .inl (cf106, 8, .inl f106)), (qf108, .inl (cf108, 8, .inl f108)), (qf137, .inl (cf137, 6, .inl g137_159)), (qf126, .inl (cf126, 1501, .inl g126_159))]) [0, 1, 2, 3, 4, 5, 6, 7, 8, 9, 10, 11, 12, 13, 14, 15, 16, 17] rfl
      have hD9 := hD.sub (ws' := [(h0, .inr (13, z159)), (qf109, .inl (cf109, 96, .inl f109)), (qf100, .inl (cf100, 48000, .inl f100)), (qf110, .inl (cf110, 96, .inl f110)), (qf111, .inl (cf111, 96, .inl f111)), (qf127, .inl (cf127, 30, .inl g127_159)), (qf107, .inl (cf107, 96, .inl f107)), (qf102, .inl (cf102, 2048, .inl f102)), (qf104, .inl (cf104, 8, .inl f104)), (qf118, .inl (cf118, 2100, .inl g118_159)), (qf119, .inl (cf119, 2100, .inl g119_159)), (qf105, .inl (cf105, 8, .inl f105)), (qf128, .inl (cf128, 31, .inl g128_159)), (qf103, .inl (cf103, 8, .inl f103)), (qf106, .inl (cf106, 8, .inl f106)), (qf108, .inl (cf108, 8, .inl f108)), (qf137, .inl (cf137, 6, .inl g137_159)), (qf126, .inl (cf126, 1501, .inl g126_159))]) [0, 1, 2, 3, 4, 5, 6, 7, 8, 9, 10, 11, 12, 13, 14, 15, 16, 17] (by decide) rfl
      have hK9 := hK.sub (tys' := [(cf109, .int), (cf100, .int), (cf110, .int), (cf111, .int), (cf127, .int), (cf107, .int), (cf102, .int), (cf104, .int), (cf118, .int), (cf119, .int), (cf105, .int), (cf128, .int), (cf103, .int), (cf106, .int), (cf108, .int), (cf137, .int), (cf126, .boolean)]) [0, 1, 2, 3, 4, 5, 6, 7, 8, 9, 10, 11, 12, 13, 14, 15, 16] rfl
      exact W.zret hx hb hr (by decide) (fun t ht hW => ⟨⟨(1), (z159), rfl, ⟨⟨rfl, Or.inr rfl⟩, hlh_159, hrh_159, hfh_159_117, hfh_159_120, hfh_159_121, hfh_159_122, hfh_159_123, hfh_159_124, hfh_159_125, hfh_159_129, hfh_159_130, hfh_159_131, hfh_159_132, hfh_159_133, hfh_159_134, hfh_159_135, hfh_159_136⟩, by rw [ht]; exact hP9, va_K.moved hW.alike hK9, hD9⟩, hS.F ht⟩) hS.2.2 dX13_methodFits_159
  intro hret_159
  refine jn_use (α := Heap × List Loc × Array Slot × List Value × Int32 × (Nat → Int32) × (Nat → Int32) × (Nat → Int32) × (Nat → Int32) × (Nat → Int32) × (Nat → Int32) × Int32 × Int32 × Int32 × Int32 × Int32 × Int32 × Int32 × Int32 × Int32 × Int32 × Int32 × Int32 × Int32 × Int32 × Int32) (fun x9 => x9.1) (fun x9 => x9.2.1) (fun x9 => F0 m 232 x9.2.2.1 [.int (x9.2.2.2.2.1)]) (fun x9 => match x9 with | (H, locs, ls, z232, rr_232, g118_232, g119_232, g126_232, g127_232, g128_232, g137_232, x117_232, x120_232, x121_232, x122_232, x123_232, x124_232, x125_232, x129_232, x130_232, x131_232, x132_232, x133_232, x134_232, x135_232, x136_232) => va_S A s.heap H locs ∧ va_D A [(h0, .inr (13, z232)), (qf109, .inl (cf109, 96, .inl f109)), (qf100, .inl (cf100, 48000, .inl f100)), (qf110, .inl (cf110, 96, .inl f110)), (qf111, .inl (cf111, 96, .inl f111)), (qf127, .inl (cf127, 30, .inl g127_232)), (qf107, .inl (cf107, 96, .inl f107)), (qf102, .inl (cf102, 2048, .inl f102)), (qf104, .inl (cf104, 8, .inl f104)), (qf118, .inl (cf118, 2100, .inl g118_232)), (qf119, .inl (cf119, 2100, .inl g119_232)), (qf105, .inl (cf105, 8, .inl f105)), (qf128, .inl (cf128, 31, .inl g128_232)), (qf103, .inl (cf103, 8, .inl f103)), (qf106, .inl (cf106, 8, .inl f106)), (qf108, .inl (cf108, 8, .inl f108)), (qf137, .inl (cf137, 6, .inl g137_232)), (qf126, .inl (cf126, 1501, .inl g126_232))] ∧ va_P (dC, dI) vwCl [(h0, .inr (13, z232)), (qf109, .inl (cf109, 96, .inl f109)), (qf100, .inl (cf100, 48000, .inl f100)), (qf110, .inl (cf110, 96, .inl f110)), (qf111, .inl (cf111, 96, .inl f111)), (qf127, .inl (cf127, 30, .inl g127_232)), (qf107, .inl (cf107, 96, .inl f107)), (qf102, .inl (cf102, 2048, .inl f102)), (qf104, .inl (cf104, 8, .inl f104)), (qf118, .inl (cf118, 2100, .inl g118_232)), (qf119, .inl (cf119, 2100, .inl g119_232)), (qf105, .inl (cf105, 8, .inl f105)), (qf128, .inl (cf128, 31, .inl g128_232)), (qf103, .inl (cf103, 8, .inl f103)), (qf106, .inl (cf106, 8, .inl f106)), (qf108, .inl (cf108, 8, .inl f108)), (qf137, .inl (cf137, 6, .inl g137_232)), (qf126, .inl (cf126, 1501, .inl g126_232))] H ∧ z232[98]? = some (.int v98) ∧ z232[100]? = some (.ref qf100) ∧ z232[102]? = some (.ref qf102) ∧ z232[103]? = some (.ref qf103) ∧ z232[104]? = some (.ref qf104) ∧ z232[105]? = some (.ref qf105) ∧ z232[106]? = some (.ref qf106) ∧ z232[107]? = some (.ref qf107) ∧ z232[108]? = some (.ref qf108) ∧ z232[109]? = some (.ref qf109) ∧ z232[110]? = some (.ref qf110) ∧ z232[111]? = some (.ref qf111) ∧ z232[117]? = some (.int x117_232) ∧ z232[118]? = some (.ref qf118) ∧ z232[119]? = some (.ref qf119) ∧ z232[120]? = some (.int x120_232) ∧ z232[121]? = some (.int x121_232) ∧ z232[122]? = some (.int x122_232) ∧ z232[123]? = some (.int x123_232) ∧ z232[124]? = some (.int x124_232) ∧ z232[125]? = some (.int x125_232) ∧ z232[126]? = some (.ref qf126) ∧ z232[127]? = some (.ref qf127) ∧ z232[128]? = some (.ref qf128) ∧ z232[129]? = some (.int x129_232) ∧ z232[130]? = some (.int x130_232) ∧ z232[131]? = some (.int x131_232) ∧ z232[132]? = some (.int x132_232) ∧ z232[133]? = some (.int x133_232) ∧ z232[134]? = some (.int x134_232) ∧ z232[135]? = some (.int x135_232) ∧ z232[136]? = some (.int x136_232) ∧ z232[137]? = some (.ref qf137) ∧ z232.length = 155 ∧ (∀ j : Nat, j ≠ 117 → j ≠ 120 → j ≠ 121 → j ≠ 122 → j ≠ 123 → j ≠ 124 → j ≠ 125 → j ≠ 129 → j ≠ 130 → j ≠ 131 → j ≠ 132 → j ≠ 133 → j ≠ 134 → j ≠ 135 → j ≠ 136 → z232[j]? = zs[j]?) ∧ (rr_232 = 0 ∨ rr_232 = 1) ∧ some (rr_232, g118_232, g119_232, g126_232, g127_232, g128_232, g137_232, x117_232, x120_232, x121_232, x122_232, x123_232, x124_232, x125_232, x129_232, x130_232, x131_232, x132_232, x133_232, x134_232, x135_232, x136_232) = some (r0, o118, o119, o126, o127, o128, o137, w117, w120, w121, w122, w123, w124, w125, w129, w130, w131, w132, w133, w134, w135, w136)) ?_ ?_
  · intro x9 hJ9
    obtain ⟨H, locs, ls, z232, rr_232, g118_232, g119_232, g126_232, g127_232, g128_232, g137_232, x117_232, x120_232, x121_232, x122_232, x123_232, x124_232, x125_232, x129_232, x130_232, x131_232, x132_232, x133_232, x134_232, x135_232, x136_232⟩ := x9
    obtain ⟨hS, hD, hP, hfh_232_98, hfh_232_100, hfh_232_102, hfh_232_103, hfh_232_104, hfh_232_105, hfh_232_106, hfh_232_107, hfh_232_108, hfh_232_109, hfh_232_110, hfh_232_111, hfh_232_117, hfh_232_118, hfh_232_119, hfh_232_120, hfh_232_121, hfh_232_122, hfh_232_123, hfh_232_124, hfh_232_125, hfh_232_126, hfh_232_127, hfh_232_128, hfh_232_129, hfh_232_130, hfh_232_131, hfh_232_132, hfh_232_133, hfh_232_134, hfh_232_135, hfh_232_136, hfh_232_137, hlh_232, hrh_232, hz9, hsp⟩ := hJ9
    replace hS : va_S A s.heap H locs := hS
    replace hD : va_D A [(h0, .inr (13, z232)), (qf109, .inl (cf109, 96, .inl f109)), (qf100, .inl (cf100, 48000, .inl f100)), (qf110, .inl (cf110, 96, .inl f110)), (qf111, .inl (cf111, 96, .inl f111)), (qf127, .inl (cf127, 30, .inl g127_232)), (qf107, .inl (cf107, 96, .inl f107)), (qf102, .inl (cf102, 2048, .inl f102)), (qf104, .inl (cf104, 8, .inl f104)), (qf118, .inl (cf118, 2100, .inl g118_232)), (qf119, .inl (cf119, 2100, .inl g119_232)), (qf105, .inl (cf105, 8, .inl f105)), (qf128, .inl (cf128, 31, .inl g128_232)), (qf103, .inl (cf103, 8, .inl f103)), (qf106, .inl (cf106, 8, .inl f106)), (qf108, .inl (cf108, 8, .inl f108)), (qf137, .inl (cf137, 6, .inl g137_232)), (qf126, .inl (cf126, 1501, .inl g126_232))] := hD
    replace hP : va_P (dC, dI) vwCl [(h0, .inr (13, z232)), (qf109, .inl (cf109, 96, .inl f109)), (qf100, .inl (cf100, 48000, .inl f100)), (qf110, .inl (cf110, 96, .inl f110)), (qf111, .inl (cf111, 96, .inl f111)), (qf127, .inl (cf127, 30, .inl g127_232)), (qf107, .inl (cf107, 96, .inl f107)), (qf102, .inl (cf102, 2048, .inl f102)), (qf104, .inl (cf104, 8, .inl f104)), (qf118, .inl (cf118, 2100, .inl g118_232)), (qf119, .inl (cf119, 2100, .inl g119_232)), (qf105, .inl (cf105, 8, .inl f105)), (qf128, .inl (cf128, 31, .inl g128_232)), (qf103, .inl (cf103, 8, .inl f103)), (qf106, .inl (cf106, 8, .inl f106)), (qf108, .inl (cf108, 8, .inl f108)), (qf137, .inl (cf137, 6, .inl g137_232)), (qf126, .inl (cf126, 1501, .inl g126_232))] H := hP
    replace hsp : some (rr_232, g118_232, g119_232, g126_232, g127_232, g128_232, g137_232, x117_232, x120_232, x121_232, x122_232, x123_232, x124_232, x125_232, x129_232, x130_232, x131_232, x132_232, x133_232, x134_232, x135_232, x136_232) = some (r0, o118, o119, o126, o127, o128, o137, w117, w120, w121, w122, w123, w124, w125, w129, w130, w131, w132, w133, w134, w135, w136) := hsp
    show W _ _ _ _ _ _ _ _ _ _ H locs _ _ _ (F0 m 232 ls [.int rr_232])
    rcases hz9 with rfl | rfl
    · skip
      have hr0 := Option.some.inj hsp
      clear hsp
      obtain ⟨hq0, hr1⟩ := Prod.mk.inj hr0
      clear hr0
      obtain ⟨hq1, hr2⟩ := Prod.mk.inj hr1
      clear hr1
      obtain ⟨hq2, hr3⟩ := Prod.mk.inj hr2
      clear hr2
      obtain ⟨hq3, hr4⟩ := Prod.mk.inj hr3
      clear hr3
      obtain ⟨hq4, hr5⟩ := Prod.mk.inj hr4
      clear hr4
      obtain ⟨hq5, hr6⟩ := Prod.mk.inj hr5
      clear hr5
      obtain ⟨hq6, hr7⟩ := Prod.mk.inj hr6
      clear hr6
      obtain ⟨hq7, hr8⟩ := Prod.mk.inj hr7
      clear hr7
      obtain ⟨hq8, hr9⟩ := Prod.mk.inj hr8
      clear hr8
      obtain ⟨hq9, hr10⟩ := Prod.mk.inj hr9
      clear hr9
      obtain ⟨hq10, hr11⟩ := Prod.mk.inj hr10
      clear hr10
      obtain ⟨hq11, hr12⟩ := Prod.mk.inj hr11
      clear hr11
      obtain ⟨hq12, hr13⟩ := Prod.mk.inj hr12
      clear hr12
      obtain ⟨hq13, hr14⟩ := Prod.mk.inj hr13
      clear hr13
      obtain ⟨hq14, hr15⟩ := Prod.mk.inj hr14
      clear hr14
      obtain ⟨hq15, hr16⟩ := Prod.mk.inj hr15
      clear hr15
      obtain ⟨hq16, hr17⟩ := Prod.mk.inj hr16
      clear hr16
      obtain ⟨hq17, hr18⟩ := Prod.mk.inj hr17
      clear hr17
      obtain ⟨hq18, hr19⟩ := Prod.mk.inj hr18
      clear hr18
      obtain ⟨hq19, hr20⟩ := Prod.mk.inj hr19
      clear hr19
      obtain ⟨hq20, hr21⟩ := Prod.mk.inj hr20
      clear hr20
      subst hq0
      subst hq1
      subst hq2
      subst hq3
      subst hq4
      subst hq5
      subst hq6
      subst hq7
      subst hq8
      subst hq9
      subst hq10
      subst hq11
      subst hq12
      subst hq13
      subst hq14
      subst hq15
      subst hq16
      subst hq17
      subst hq18
      subst hq19
      subst hq20
      subst hr21
      have hP9 := hP.sub (ws' := [(h0, .inr (13, z232)), (qf109, .inl (cf109, 96, .inl f109)), (qf100, .inl (cf100, 48000, .inl f100)), (qf110, .inl (cf110, 96, .inl f110)), (qf111, .inl (cf111, 96, .inl f111)), (qf127, .inl (cf127, 30, .inl g127_232)), (qf107, .inl (cf107, 96, .inl f107)), (qf102, .inl (cf102, 2048, .inl f102)), (qf104, .inl (cf104, 8, .inl f104)), (qf118, .inl (cf118, 2100, .inl g118_232)), (qf119, .inl (cf119, 2100, .inl g119_232)), (qf105, .inl (cf105, 8, .inl f105)), (qf128, .inl (cf128, 31, .inl g128_232)), (qf103, .inl (cf103, 8, .inl f103)), (qf106, .inl (cf106, 8, .inl f106)), (qf108, .inl (cf108, 8, .inl f108)), (qf137, .inl (cf137, 6, .inl g137_232)), (qf126, .inl (cf126, 1501, .inl g126_232))]) [0, 1, 2, 3, 4, 5, 6, 7, 8, 9, 10, 11, 12, 13, 14, 15, 16, 17] rfl
      have hD9 := hD.sub (ws' := [(h0, .inr (13, z232)), (qf109, .inl (cf109, 96, .inl f109)), (qf100, .inl (cf100, 48000, .inl f100)), (qf110, .inl (cf110, 96, .inl f110)), (qf111, .inl (cf111, 96, .inl f111)), (qf127, .inl (cf127, 30, .inl g127_232)), (qf107, .inl (cf107, 96, .inl f107)), (qf102, .inl (cf102, 2048, .inl f102)), (qf104, .inl (cf104, 8, .inl f104)), (qf118, .inl (cf118, 2100, .inl g118_232)), (qf119, .inl (cf119, 2100, .inl g119_232)), (qf105, .inl (cf105, 8, .inl f105)), (qf128, .inl (cf128, 31, .inl g128_232)), (qf103, .inl (cf103, 8, .inl f103)), (qf106, .inl (cf106, 8, .inl f106)), (qf108, .inl (cf108, 8, .inl f108)), (qf137, .inl (cf137, 6, .inl g137_232)), (qf126, .inl (cf126, 1501, .inl g126_232))]) [0, 1, 2, 3, 4, 5, 6, 7, 8, 9, 10, 11, 12, 13, 14, 15, 16, 17] (by decide) rfl
      have hK9 := hK.sub (tys' := [(cf109, .int), (cf100, .int), (cf110, .int), (cf111, .int), (cf127, .int), (cf107, .int), (cf102, .int), (cf104, .int), (cf118, .int), (cf119, .int), (cf105, .int), (cf128, .int), (cf103, .int), (cf106, .int), (cf108, .int), (cf137, .int), (cf126, .boolean)]) [0, 1, 2, 3, 4, 5, 6, 7, 8, 9, 10, 11, 12, 13, 14, 15, 16] rfl
      exact W.zret hx hb hr (by decide) (fun t ht hW => ⟨⟨(0), (z232), rfl, ⟨⟨rfl, Or.inl rfl⟩, hlh_232, hrh_232, hfh_232_117, hfh_232_120, hfh_232_121, hfh_232_122, hfh_232_123, hfh_232_124, hfh_232_125, hfh_232_129, hfh_232_130, hfh_232_131, hfh_232_132, hfh_232_133, hfh_232_134, hfh_232_135, hfh_232_136⟩, by rw [ht]; exact hP9, va_K.moved hW.alike hK9, hD9⟩, hS.F ht⟩) hS.2.2 dX13_methodFits_232
    · skip
      have hr0 := Option.some.inj hsp
      clear hsp
      obtain ⟨hq0, hr1⟩ := Prod.mk.inj hr0
      clear hr0
      obtain ⟨hq1, hr2⟩ := Prod.mk.inj hr1
      clear hr1
      obtain ⟨hq2, hr3⟩ := Prod.mk.inj hr2
      clear hr2
      obtain ⟨hq3, hr4⟩ := Prod.mk.inj hr3
      clear hr3
      obtain ⟨hq4, hr5⟩ := Prod.mk.inj hr4
      clear hr4
      obtain ⟨hq5, hr6⟩ := Prod.mk.inj hr5
      clear hr5
      obtain ⟨hq6, hr7⟩ := Prod.mk.inj hr6
      clear hr6
      obtain ⟨hq7, hr8⟩ := Prod.mk.inj hr7
      clear hr7
      obtain ⟨hq8, hr9⟩ := Prod.mk.inj hr8
      clear hr8
      obtain ⟨hq9, hr10⟩ := Prod.mk.inj hr9
      clear hr9
      obtain ⟨hq10, hr11⟩ := Prod.mk.inj hr10
      clear hr10
      obtain ⟨hq11, hr12⟩ := Prod.mk.inj hr11
      clear hr11
      obtain ⟨hq12, hr13⟩ := Prod.mk.inj hr12
      clear hr12
      obtain ⟨hq13, hr14⟩ := Prod.mk.inj hr13
      clear hr13
      obtain ⟨hq14, hr15⟩ := Prod.mk.inj hr14
      clear hr14
      obtain ⟨hq15, hr16⟩ := Prod.mk.inj hr15
      clear hr15
      obtain ⟨hq16, hr17⟩ := Prod.mk.inj hr16
      clear hr16
      obtain ⟨hq17, hr18⟩ := Prod.mk.inj hr17
      clear hr17
      obtain ⟨hq18, hr19⟩ := Prod.mk.inj hr18
      clear hr18
      obtain ⟨hq19, hr20⟩ := Prod.mk.inj hr19
      clear hr19
      obtain ⟨hq20, hr21⟩ := Prod.mk.inj hr20
      clear hr20
      subst hq0
      subst hq1
      subst hq2
      subst hq3
      subst hq4
      subst hq5
      subst hq6
      subst hq7
      subst hq8
      subst hq9
      subst hq10
      subst hq11
      subst hq12
      subst hq13
      subst hq14
      subst hq15
      subst hq16
      subst hq17
      subst hq18
      subst hq19
      subst hq20
      subst hr21
      have hP9 := hP.sub (ws' := [(h0, .inr (13, z232)), (qf109, .inl (cf109, 96, .inl f109)), (qf100, .inl (cf100, 48000, .inl f100)), (qf110, .inl (cf110, 96, .inl f110)), (qf111, .inl (cf111, 96, .inl f111)), (qf127, .inl (cf127, 30, .inl g127_232)), (qf107, .inl (cf107, 96, .inl f107)), (qf102, .inl (cf102, 2048, .inl f102)), (qf104, .inl (cf104, 8, .inl f104)), (qf118, .inl (cf118, 2100, .inl g118_232)), (qf119, .inl (cf119, 2100, .inl g119_232)), (qf105, .inl (cf105, 8, .inl f105)), (qf128, .inl (cf128, 31, .inl g128_232)), (qf103, .inl (cf103, 8, .inl f103)), (qf106, .inl (cf106, 8, .inl f106)), (qf108, .inl (cf108, 8, .inl f108)), (qf137, .inl (cf137, 6, .inl g137_232)), (qf126, .inl (cf126, 1501, .inl g126_232))]) [0, 1, 2, 3, 4, 5, 6, 7, 8, 9, 10, 11, 12, 13, 14, 15, 16, 17] rfl
      have hD9 := hD.sub (ws' := [(h0, .inr (13, z232)), (qf109, .inl (cf109, 96, .inl f109)), (qf100, .inl (cf100, 48000, .inl f100)), (qf110, .inl (cf110, 96, .inl f110)), (qf111, .inl (cf111, 96, .inl f111)), (qf127, .inl (cf127, 30, .inl g127_232)), (qf107, .inl (cf107, 96, .inl f107)), (qf102, .inl (cf102, 2048, .inl f102)), (qf104, .inl (cf104, 8, .inl f104)), (qf118, .inl (cf118, 2100, .inl g118_232)), (qf119, .inl (cf119, 2100, .inl g119_232)), (qf105, .inl (cf105, 8, .inl f105)), (qf128, .inl (cf128, 31, .inl g128_232)), (qf103, .inl (cf103, 8, .inl f103)), (qf106, .inl (cf106, 8, .inl f106)), (qf108, .inl (cf108, 8, .inl f108)), (qf137, .inl (cf137, 6, .inl g137_232)), (qf126, .inl (cf126, 1501, .inl g126_232))]) [0, 1, 2, 3, 4, 5, 6, 7, 8, 9, 10, 11, 12, 13, 14, 15, 16, 17] (by decide) rfl
      have hK9 := hK.sub (tys' := [(cf109, .int), (cf100, .int), (cf110, .int), (cf111, .int), (cf127, .int), (cf107, .int), (cf102, .int), (cf104, .int), (cf118, .int), (cf119, .int), (cf105, .int), (cf128, .int), (cf103, .int), (cf106, .int), (cf108, .int), (cf137, .int), (cf126, .boolean)]) [0, 1, 2, 3, 4, 5, 6, 7, 8, 9, 10, 11, 12, 13, 14, 15, 16] rfl
      exact W.zret hx hb hr (by decide) (fun t ht hW => ⟨⟨(1), (z232), rfl, ⟨⟨rfl, Or.inr rfl⟩, hlh_232, hrh_232, hfh_232_117, hfh_232_120, hfh_232_121, hfh_232_122, hfh_232_123, hfh_232_124, hfh_232_125, hfh_232_129, hfh_232_130, hfh_232_131, hfh_232_132, hfh_232_133, hfh_232_134, hfh_232_135, hfh_232_136⟩, by rw [ht]; exact hP9, va_K.moved hW.alike hK9, hD9⟩, hS.F ht⟩) hS.2.2 dX13_methodFits_232
  intro hret_232
  refine jn_use (α := Heap × List Loc × Array Slot × List Value × Int32 × (Nat → Int32) × (Nat → Int32) × (Nat → Int32) × (Nat → Int32) × (Nat → Int32) × (Nat → Int32) × Int32 × Int32 × Int32 × Int32 × Int32 × Int32 × Int32 × Int32 × Int32 × Int32 × Int32 × Int32 × Int32 × Int32 × Int32) (fun x9 => x9.1) (fun x9 => x9.2.1) (fun x9 => F0 m 315 x9.2.2.1 [.int (x9.2.2.2.2.1)]) (fun x9 => match x9 with | (H, locs, ls, z315, rr_315, g118_315, g119_315, g126_315, g127_315, g128_315, g137_315, x117_315, x120_315, x121_315, x122_315, x123_315, x124_315, x125_315, x129_315, x130_315, x131_315, x132_315, x133_315, x134_315, x135_315, x136_315) => va_S A s.heap H locs ∧ va_D A [(h0, .inr (13, z315)), (qf109, .inl (cf109, 96, .inl f109)), (qf100, .inl (cf100, 48000, .inl f100)), (qf110, .inl (cf110, 96, .inl f110)), (qf111, .inl (cf111, 96, .inl f111)), (qf127, .inl (cf127, 30, .inl g127_315)), (qf107, .inl (cf107, 96, .inl f107)), (qf102, .inl (cf102, 2048, .inl f102)), (qf104, .inl (cf104, 8, .inl f104)), (qf118, .inl (cf118, 2100, .inl g118_315)), (qf119, .inl (cf119, 2100, .inl g119_315)), (qf105, .inl (cf105, 8, .inl f105)), (qf128, .inl (cf128, 31, .inl g128_315)), (qf103, .inl (cf103, 8, .inl f103)), (qf106, .inl (cf106, 8, .inl f106)), (qf108, .inl (cf108, 8, .inl f108)), (qf137, .inl (cf137, 6, .inl g137_315)), (qf126, .inl (cf126, 1501, .inl g126_315))] ∧ va_P (dC, dI) vwCl [(h0, .inr (13, z315)), (qf109, .inl (cf109, 96, .inl f109)), (qf100, .inl (cf100, 48000, .inl f100)), (qf110, .inl (cf110, 96, .inl f110)), (qf111, .inl (cf111, 96, .inl f111)), (qf127, .inl (cf127, 30, .inl g127_315)), (qf107, .inl (cf107, 96, .inl f107)), (qf102, .inl (cf102, 2048, .inl f102)), (qf104, .inl (cf104, 8, .inl f104)), (qf118, .inl (cf118, 2100, .inl g118_315)), (qf119, .inl (cf119, 2100, .inl g119_315)), (qf105, .inl (cf105, 8, .inl f105)), (qf128, .inl (cf128, 31, .inl g128_315)), (qf103, .inl (cf103, 8, .inl f103)), (qf106, .inl (cf106, 8, .inl f106)), (qf108, .inl (cf108, 8, .inl f108)), (qf137, .inl (cf137, 6, .inl g137_315)), (qf126, .inl (cf126, 1501, .inl g126_315))] H ∧ z315[98]? = some (.int v98) ∧ z315[100]? = some (.ref qf100) ∧ z315[102]? = some (.ref qf102) ∧ z315[103]? = some (.ref qf103) ∧ z315[104]? = some (.ref qf104) ∧ z315[105]? = some (.ref qf105) ∧ z315[106]? = some (.ref qf106) ∧ z315[107]? = some (.ref qf107) ∧ z315[108]? = some (.ref qf108) ∧ z315[109]? = some (.ref qf109) ∧ z315[110]? = some (.ref qf110) ∧ z315[111]? = some (.ref qf111) ∧ z315[117]? = some (.int x117_315) ∧ z315[118]? = some (.ref qf118) ∧ z315[119]? = some (.ref qf119) ∧ z315[120]? = some (.int x120_315) ∧ z315[121]? = some (.int x121_315) ∧ z315[122]? = some (.int x122_315) ∧ z315[123]? = some (.int x123_315) ∧ z315[124]? = some (.int x124_315) ∧ z315[125]? = some (.int x125_315) ∧ z315[126]? = some (.ref qf126) ∧ z315[127]? = some (.ref qf127) ∧ z315[128]? = some (.ref qf128) ∧ z315[129]? = some (.int x129_315) ∧ z315[130]? = some (.int x130_315) ∧ z315[131]? = some (.int x131_315) ∧ z315[132]? = some (.int x132_315) ∧ z315[133]? = some (.int x133_315) ∧ z315[134]? = some (.int x134_315) ∧ z315[135]? = some (.int x135_315) ∧ z315[136]? = some (.int x136_315) ∧ z315[137]? = some (.ref qf137) ∧ z315.length = 155 ∧ (∀ j : Nat, j ≠ 117 → j ≠ 120 → j ≠ 121 → j ≠ 122 → j ≠ 123 → j ≠ 124 → j ≠ 125 → j ≠ 129 → j ≠ 130 → j ≠ 131 → j ≠ 132 → j ≠ 133 → j ≠ 134 → j ≠ 135 → j ≠ 136 → z315[j]? = zs[j]?) ∧ (rr_315 = 0 ∨ rr_315 = 1) ∧ some (rr_315, g118_315, g119_315, g126_315, g127_315, g128_315, g137_315, x117_315, x120_315, x121_315, x122_315, x123_315, x124_315, x125_315, x129_315, x130_315, x131_315, x132_315, x133_315, x134_315, x135_315, x136_315) = some (r0, o118, o119, o126, o127, o128, o137, w117, w120, w121, w122, w123, w124, w125, w129, w130, w131, w132, w133, w134, w135, w136)) ?_ ?_
  · intro x9 hJ9
    obtain ⟨H, locs, ls, z315, rr_315, g118_315, g119_315, g126_315, g127_315, g128_315, g137_315, x117_315, x120_315, x121_315, x122_315, x123_315, x124_315, x125_315, x129_315, x130_315, x131_315, x132_315, x133_315, x134_315, x135_315, x136_315⟩ := x9
    obtain ⟨hS, hD, hP, hfh_315_98, hfh_315_100, hfh_315_102, hfh_315_103, hfh_315_104, hfh_315_105, hfh_315_106, hfh_315_107, hfh_315_108, hfh_315_109, hfh_315_110, hfh_315_111, hfh_315_117, hfh_315_118, hfh_315_119, hfh_315_120, hfh_315_121, hfh_315_122, hfh_315_123, hfh_315_124, hfh_315_125, hfh_315_126, hfh_315_127, hfh_315_128, hfh_315_129, hfh_315_130, hfh_315_131, hfh_315_132, hfh_315_133, hfh_315_134, hfh_315_135, hfh_315_136, hfh_315_137, hlh_315, hrh_315, hz9, hsp⟩ := hJ9
    replace hS : va_S A s.heap H locs := hS
    replace hD : va_D A [(h0, .inr (13, z315)), (qf109, .inl (cf109, 96, .inl f109)), (qf100, .inl (cf100, 48000, .inl f100)), (qf110, .inl (cf110, 96, .inl f110)), (qf111, .inl (cf111, 96, .inl f111)), (qf127, .inl (cf127, 30, .inl g127_315)), (qf107, .inl (cf107, 96, .inl f107)), (qf102, .inl (cf102, 2048, .inl f102)), (qf104, .inl (cf104, 8, .inl f104)), (qf118, .inl (cf118, 2100, .inl g118_315)), (qf119, .inl (cf119, 2100, .inl g119_315)), (qf105, .inl (cf105, 8, .inl f105)), (qf128, .inl (cf128, 31, .inl g128_315)), (qf103, .inl (cf103, 8, .inl f103)), (qf106, .inl (cf106, 8, .inl f106)), (qf108, .inl (cf108, 8, .inl f108)), (qf137, .inl (cf137, 6, .inl g137_315)), (qf126, .inl (cf126, 1501, .inl g126_315))] := hD
    replace hP : va_P (dC, dI) vwCl [(h0, .inr (13, z315)), (qf109, .inl (cf109, 96, .inl f109)), (qf100, .inl (cf100, 48000, .inl f100)), (qf110, .inl (cf110, 96, .inl f110)), (qf111, .inl (cf111, 96, .inl f111)), (qf127, .inl (cf127, 30, .inl g127_315)), (qf107, .inl (cf107, 96, .inl f107)), (qf102, .inl (cf102, 2048, .inl f102)), (qf104, .inl (cf104, 8, .inl f104)), (qf118, .inl (cf118, 2100, .inl g118_315)), (qf119, .inl (cf119, 2100, .inl g119_315)), (qf105, .inl (cf105, 8, .inl f105)), (qf128, .inl (cf128, 31, .inl g128_315)), (qf103, .inl (cf103, 8, .inl f103)), (qf106, .inl (cf106, 8, .inl f106)), (qf108, .inl (cf108, 8, .inl f108)), (qf137, .inl (cf137, 6, .inl g137_315)), (qf126, .inl (cf126, 1501, .inl g126_315))] H := hP
    replace hsp : some (rr_315, g118_315, g119_315, g126_315, g127_315, g128_315, g137_315, x117_315, x120_315, x121_315, x122_315, x123_315, x124_315, x125_315, x129_315, x130_315, x131_315, x132_315, x133_315, x134_315, x135_315, x136_315) = some (r0, o118, o119, o126, o127, o128, o137, w117, w120, w121, w122, w123, w124, w125, w129, w130, w131, w132, w133, w134, w135, w136) := hsp
    show W _ _ _ _ _ _ _ _ _ _ H locs _ _ _ (F0 m 315 ls [.int rr_315])
    rcases hz9 with rfl | rfl
    · skip
      have hr0 := Option.some.inj hsp
      clear hsp
      obtain ⟨hq0, hr1⟩ := Prod.mk.inj hr0
      clear hr0
      obtain ⟨hq1, hr2⟩ := Prod.mk.inj hr1
      clear hr1
      obtain ⟨hq2, hr3⟩ := Prod.mk.inj hr2
      clear hr2
      obtain ⟨hq3, hr4⟩ := Prod.mk.inj hr3
      clear hr3
      obtain ⟨hq4, hr5⟩ := Prod.mk.inj hr4
      clear hr4
      obtain ⟨hq5, hr6⟩ := Prod.mk.inj hr5
      clear hr5
      obtain ⟨hq6, hr7⟩ := Prod.mk.inj hr6
      clear hr6
      obtain ⟨hq7, hr8⟩ := Prod.mk.inj hr7
      clear hr7
      obtain ⟨hq8, hr9⟩ := Prod.mk.inj hr8
      clear hr8
      obtain ⟨hq9, hr10⟩ := Prod.mk.inj hr9
      clear hr9
      obtain ⟨hq10, hr11⟩ := Prod.mk.inj hr10
      clear hr10
      obtain ⟨hq11, hr12⟩ := Prod.mk.inj hr11
      clear hr11
      obtain ⟨hq12, hr13⟩ := Prod.mk.inj hr12
      clear hr12
      obtain ⟨hq13, hr14⟩ := Prod.mk.inj hr13
      clear hr13
      obtain ⟨hq14, hr15⟩ := Prod.mk.inj hr14
      clear hr14
      obtain ⟨hq15, hr16⟩ := Prod.mk.inj hr15
      clear hr15
      obtain ⟨hq16, hr17⟩ := Prod.mk.inj hr16
      clear hr16
      obtain ⟨hq17, hr18⟩ := Prod.mk.inj hr17
      clear hr17
      obtain ⟨hq18, hr19⟩ := Prod.mk.inj hr18
      clear hr18
      obtain ⟨hq19, hr20⟩ := Prod.mk.inj hr19
      clear hr19
      obtain ⟨hq20, hr21⟩ := Prod.mk.inj hr20
      clear hr20
      subst hq0
      subst hq1
      subst hq2
      subst hq3
      subst hq4
      subst hq5
      subst hq6
      subst hq7
      subst hq8
      subst hq9
      subst hq10
      subst hq11
      subst hq12
      subst hq13
      subst hq14
      subst hq15
      subst hq16
      subst hq17
      subst hq18
      subst hq19
      subst hq20
      subst hr21
      have hP9 := hP.sub (ws' := [(h0, .inr (13, z315)), (qf109, .inl (cf109, 96, .inl f109)), (qf100, .inl (cf100, 48000, .inl f100)), (qf110, .inl (cf110, 96, .inl f110)), (qf111, .inl (cf111, 96, .inl f111)), (qf127, .inl (cf127, 30, .inl g127_315)), (qf107, .inl (cf107, 96, .inl f107)), (qf102, .inl (cf102, 2048, .inl f102)), (qf104, .inl (cf104, 8, .inl f104)), (qf118, .inl (cf118, 2100, .inl g118_315)), (qf119, .inl (cf119, 2100, .inl g119_315)), (qf105, .inl (cf105, 8, .inl f105)), (qf128, .inl (cf128, 31, .inl g128_315)), (qf103, .inl (cf103, 8, .inl f103)), (qf106, .inl (cf106, 8, .inl f106)), (qf108, .inl (cf108, 8, .inl f108)), (qf137, .inl (cf137, 6, .inl g137_315)), (qf126, .inl (cf126, 1501, .inl g126_315))]) [0, 1, 2, 3, 4, 5, 6, 7, 8, 9, 10, 11, 12, 13, 14, 15, 16, 17] rfl
      have hD9 := hD.sub (ws' := [(h0, .inr (13, z315)), (qf109, .inl (cf109, 96, .inl f109)), (qf100, .inl (cf100, 48000, .inl f100)), (qf110, .inl (cf110, 96, .inl f110)), (qf111, .inl (cf111, 96, .inl f111)), (qf127, .inl (cf127, 30, .inl g127_315)), (qf107, .inl (cf107, 96, .inl f107)), (qf102, .inl (cf102, 2048, .inl f102)), (qf104, .inl (cf104, 8, .inl f104)), (qf118, .inl (cf118, 2100, .inl g118_315)), (qf119, .inl (cf119, 2100, .inl g119_315)), (qf105, .inl (cf105, 8, .inl f105)), (qf128, .inl (cf128, 31, .inl g128_315)), (qf103, .inl (cf103, 8, .inl f103)), (qf106, .inl (cf106, 8, .inl f106)), (qf108, .inl (cf108, 8, .inl f108)), (qf137, .inl (cf137, 6, .inl g137_315)), (qf126, .inl (cf126, 1501, .inl g126_315))]) [0, 1, 2, 3, 4, 5, 6, 7, 8, 9, 10, 11, 12, 13, 14, 15, 16, 17] (by decide) rfl
      have hK9 := hK.sub (tys' := [(cf109, .int), (cf100, .int), (cf110, .int), (cf111, .int), (cf127, .int), (cf107, .int), (cf102, .int), (cf104, .int), (cf118, .int), (cf119, .int), (cf105, .int), (cf128, .int), (cf103, .int), (cf106, .int), (cf108, .int), (cf137, .int), (cf126, .boolean)]) [0, 1, 2, 3, 4, 5, 6, 7, 8, 9, 10, 11, 12, 13, 14, 15, 16] rfl
      exact W.zret hx hb hr (by decide) (fun t ht hW => ⟨⟨(0), (z315), rfl, ⟨⟨rfl, Or.inl rfl⟩, hlh_315, hrh_315, hfh_315_117, hfh_315_120, hfh_315_121, hfh_315_122, hfh_315_123, hfh_315_124, hfh_315_125, hfh_315_129, hfh_315_130, hfh_315_131, hfh_315_132, hfh_315_133, hfh_315_134, hfh_315_135, hfh_315_136⟩, by rw [ht]; exact hP9, va_K.moved hW.alike hK9, hD9⟩, hS.F ht⟩) hS.2.2 dX13_methodFits_315
    · skip
      have hr0 := Option.some.inj hsp
      clear hsp
      obtain ⟨hq0, hr1⟩ := Prod.mk.inj hr0
      clear hr0
      obtain ⟨hq1, hr2⟩ := Prod.mk.inj hr1
      clear hr1
      obtain ⟨hq2, hr3⟩ := Prod.mk.inj hr2
      clear hr2
      obtain ⟨hq3, hr4⟩ := Prod.mk.inj hr3
      clear hr3
      obtain ⟨hq4, hr5⟩ := Prod.mk.inj hr4
      clear hr4
      obtain ⟨hq5, hr6⟩ := Prod.mk.inj hr5
      clear hr5
      obtain ⟨hq6, hr7⟩ := Prod.mk.inj hr6
      clear hr6
      obtain ⟨hq7, hr8⟩ := Prod.mk.inj hr7
      clear hr7
      obtain ⟨hq8, hr9⟩ := Prod.mk.inj hr8
      clear hr8
      obtain ⟨hq9, hr10⟩ := Prod.mk.inj hr9
      clear hr9
      obtain ⟨hq10, hr11⟩ := Prod.mk.inj hr10
      clear hr10
      obtain ⟨hq11, hr12⟩ := Prod.mk.inj hr11
      clear hr11
      obtain ⟨hq12, hr13⟩ := Prod.mk.inj hr12
      clear hr12
      obtain ⟨hq13, hr14⟩ := Prod.mk.inj hr13
      clear hr13
      obtain ⟨hq14, hr15⟩ := Prod.mk.inj hr14
      clear hr14
      obtain ⟨hq15, hr16⟩ := Prod.mk.inj hr15
      clear hr15
      obtain ⟨hq16, hr17⟩ := Prod.mk.inj hr16
      clear hr16
      obtain ⟨hq17, hr18⟩ := Prod.mk.inj hr17
      clear hr17
      obtain ⟨hq18, hr19⟩ := Prod.mk.inj hr18
      clear hr18
      obtain ⟨hq19, hr20⟩ := Prod.mk.inj hr19
      clear hr19
      obtain ⟨hq20, hr21⟩ := Prod.mk.inj hr20
      clear hr20
      subst hq0
      subst hq1
      subst hq2
      subst hq3
      subst hq4
      subst hq5
      subst hq6
      subst hq7
      subst hq8
      subst hq9
      subst hq10
      subst hq11
      subst hq12
      subst hq13
      subst hq14
      subst hq15
      subst hq16
      subst hq17
      subst hq18
      subst hq19
      subst hq20
      subst hr21
      have hP9 := hP.sub (ws' := [(h0, .inr (13, z315)), (qf109, .inl (cf109, 96, .inl f109)), (qf100, .inl (cf100, 48000, .inl f100)), (qf110, .inl (cf110, 96, .inl f110)), (qf111, .inl (cf111, 96, .inl f111)), (qf127, .inl (cf127, 30, .inl g127_315)), (qf107, .inl (cf107, 96, .inl f107)), (qf102, .inl (cf102, 2048, .inl f102)), (qf104, .inl (cf104, 8, .inl f104)), (qf118, .inl (cf118, 2100, .inl g118_315)), (qf119, .inl (cf119, 2100, .inl g119_315)), (qf105, .inl (cf105, 8, .inl f105)), (qf128, .inl (cf128, 31, .inl g128_315)), (qf103, .inl (cf103, 8, .inl f103)), (qf106, .inl (cf106, 8, .inl f106)), (qf108, .inl (cf108, 8, .inl f108)), (qf137, .inl (cf137, 6, .inl g137_315)), (qf126, .inl (cf126, 1501, .inl g126_315))]) [0, 1, 2, 3, 4, 5, 6, 7, 8, 9, 10, 11, 12, 13, 14, 15, 16, 17] rfl
      have hD9 := hD.sub (ws' := [(h0, .inr (13, z315)), (qf109, .inl (cf109, 96, .inl f109)), (qf100, .inl (cf100, 48000, .inl f100)), (qf110, .inl (cf110, 96, .inl f110)), (qf111, .inl (cf111, 96, .inl f111)), (qf127, .inl (cf127, 30, .inl g127_315)), (qf107, .inl (cf107, 96, .inl f107)), (qf102, .inl (cf102, 2048, .inl f102)), (qf104, .inl (cf104, 8, .inl f104)), (qf118, .inl (cf118, 2100, .inl g118_315)), (qf119, .inl (cf119, 2100, .inl g119_315)), (qf105, .inl (cf105, 8, .inl f105)), (qf128, .inl (cf128, 31, .inl g128_315)), (qf103, .inl (cf103, 8, .inl f103)), (qf106, .inl (cf106, 8, .inl f106)), (qf108, .inl (cf108, 8, .inl f108)), (qf137, .inl (cf137, 6, .inl g137_315)), (qf126, .inl (cf126, 1501, .inl g126_315))]) [0, 1, 2, 3, 4, 5, 6, 7, 8, 9, 10, 11, 12, 13, 14, 15, 16, 17] (by decide) rfl
      have hK9 := hK.sub (tys' := [(cf109, .int), (cf100, .int), (cf110, .int), (cf111, .int), (cf127, .int), (cf107, .int), (cf102, .int), (cf104, .int), (cf118, .int), (cf119, .int), (cf105, .int), (cf128, .int), (cf103, .int), (cf106, .int), (cf108, .int), (cf137, .int), (cf126, .boolean)]) [0, 1, 2, 3, 4, 5, 6, 7, 8, 9, 10, 11, 12, 13, 14, 15, 16] rfl
      exact W.zret hx hb hr (by decide) (fun t ht hW => ⟨⟨(1), (z315), rfl, ⟨⟨rfl, Or.inr rfl⟩, hlh_315, hrh_315, hfh_315_117, hfh_315_120, hfh_315_121, hfh_315_122, hfh_315_123, hfh_315_124, hfh_315_125, hfh_315_129, hfh_315_130, hfh_315_131, hfh_315_132, hfh_315_133, hfh_315_134, hfh_315_135, hfh_315_136⟩, by rw [ht]; exact hP9, va_K.moved hW.alike hK9, hD9⟩, hS.F ht⟩) hS.2.2 dX13_methodFits_315
  intro hret_315
  refine jn_use (α := Heap × List Loc × Array Slot × List Value × Int32 × (Nat → Int32) × (Nat → Int32) × (Nat → Int32) × (Nat → Int32) × (Nat → Int32) × (Nat → Int32) × Int32 × Int32 × Int32 × Int32 × Int32 × Int32 × Int32 × Int32 × Int32 × Int32 × Int32 × Int32 × Int32 × Int32 × Int32) (fun x9 => x9.1) (fun x9 => x9.2.1) (fun x9 => F0 m 332 x9.2.2.1 [.int (x9.2.2.2.2.1)]) (fun x9 => match x9 with | (H, locs, ls, z332, rr_332, g118_332, g119_332, g126_332, g127_332, g128_332, g137_332, x117_332, x120_332, x121_332, x122_332, x123_332, x124_332, x125_332, x129_332, x130_332, x131_332, x132_332, x133_332, x134_332, x135_332, x136_332) => va_S A s.heap H locs ∧ va_D A [(h0, .inr (13, z332)), (qf109, .inl (cf109, 96, .inl f109)), (qf100, .inl (cf100, 48000, .inl f100)), (qf110, .inl (cf110, 96, .inl f110)), (qf111, .inl (cf111, 96, .inl f111)), (qf127, .inl (cf127, 30, .inl g127_332)), (qf107, .inl (cf107, 96, .inl f107)), (qf102, .inl (cf102, 2048, .inl f102)), (qf104, .inl (cf104, 8, .inl f104)), (qf118, .inl (cf118, 2100, .inl g118_332)), (qf119, .inl (cf119, 2100, .inl g119_332)), (qf105, .inl (cf105, 8, .inl f105)), (qf128, .inl (cf128, 31, .inl g128_332)), (qf103, .inl (cf103, 8, .inl f103)), (qf106, .inl (cf106, 8, .inl f106)), (qf108, .inl (cf108, 8, .inl f108)), (qf137, .inl (cf137, 6, .inl g137_332)), (qf126, .inl (cf126, 1501, .inl g126_332))] ∧ va_P (dC, dI) vwCl [(h0, .inr (13, z332)), (qf109, .inl (cf109, 96, .inl f109)), (qf100, .inl (cf100, 48000, .inl f100)), (qf110, .inl (cf110, 96, .inl f110)), (qf111, .inl (cf111, 96, .inl f111)), (qf127, .inl (cf127, 30, .inl g127_332)), (qf107, .inl (cf107, 96, .inl f107)), (qf102, .inl (cf102, 2048, .inl f102)), (qf104, .inl (cf104, 8, .inl f104)), (qf118, .inl (cf118, 2100, .inl g118_332)), (qf119, .inl (cf119, 2100, .inl g119_332)), (qf105, .inl (cf105, 8, .inl f105)), (qf128, .inl (cf128, 31, .inl g128_332)), (qf103, .inl (cf103, 8, .inl f103)), (qf106, .inl (cf106, 8, .inl f106)), (qf108, .inl (cf108, 8, .inl f108)), (qf137, .inl (cf137, 6, .inl g137_332)), (qf126, .inl (cf126, 1501, .inl g126_332))] H ∧ z332[98]? = some (.int v98) ∧ z332[100]? = some (.ref qf100) ∧ z332[102]? = some (.ref qf102) ∧ z332[103]? = some (.ref qf103) ∧ z332[104]? = some (.ref qf104) ∧ z332[105]? = some (.ref qf105) ∧ z332[106]? = some (.ref qf106) ∧ z332[107]? = some (.ref qf107) ∧ z332[108]? = some (.ref qf108) ∧ z332[109]? = some (.ref qf109) ∧ z332[110]? = some (.ref qf110) ∧ z332[111]? = some (.ref qf111) ∧ z332[117]? = some (.int x117_332) ∧ z332[118]? = some (.ref qf118) ∧ z332[119]? = some (.ref qf119) ∧ z332[120]? = some (.int x120_332) ∧ z332[121]? = some (.int x121_332) ∧ z332[122]? = some (.int x122_332) ∧ z332[123]? = some (.int x123_332) ∧ z332[124]? = some (.int x124_332) ∧ z332[125]? = some (.int x125_332) ∧ z332[126]? = some (.ref qf126) ∧ z332[127]? = some (.ref qf127) ∧ z332[128]? = some (.ref qf128) ∧ z332[129]? = some (.int x129_332) ∧ z332[130]? = some (.int x130_332) ∧ z332[131]? = some (.int x131_332) ∧ z332[132]? = some (.int x132_332) ∧ z332[133]? = some (.int x133_332) ∧ z332[134]? = some (.int x134_332) ∧ z332[135]? = some (.int x135_332) ∧ z332[136]? = some (.int x136_332) ∧ z332[137]? = some (.ref qf137) ∧ z332.length = 155 ∧ (∀ j : Nat, j ≠ 117 → j ≠ 120 → j ≠ 121 → j ≠ 122 → j ≠ 123 → j ≠ 124 → j ≠ 125 → j ≠ 129 → j ≠ 130 → j ≠ 131 → j ≠ 132 → j ≠ 133 → j ≠ 134 → j ≠ 135 → j ≠ 136 → z332[j]? = zs[j]?) ∧ (rr_332 = 0 ∨ rr_332 = 1) ∧ some (rr_332, g118_332, g119_332, g126_332, g127_332, g128_332, g137_332, x117_332, x120_332, x121_332, x122_332, x123_332, x124_332, x125_332, x129_332, x130_332, x131_332, x132_332, x133_332, x134_332, x135_332, x136_332) = some (r0, o118, o119, o126, o127, o128, o137, w117, w120, w121, w122, w123, w124, w125, w129, w130, w131, w132, w133, w134, w135, w136)) ?_ ?_
  · intro x9 hJ9
    obtain ⟨H, locs, ls, z332, rr_332, g118_332, g119_332, g126_332, g127_332, g128_332, g137_332, x117_332, x120_332, x121_332, x122_332, x123_332, x124_332, x125_332, x129_332, x130_332, x131_332, x132_332, x133_332, x134_332, x135_332, x136_332⟩ := x9
    obtain ⟨hS, hD, hP, hfh_332_98, hfh_332_100, hfh_332_102, hfh_332_103, hfh_332_104, hfh_332_105, hfh_332_106, hfh_332_107, hfh_332_108, hfh_332_109, hfh_332_110, hfh_332_111, hfh_332_117, hfh_332_118, hfh_332_119, hfh_332_120, hfh_332_121, hfh_332_122, hfh_332_123, hfh_332_124, hfh_332_125, hfh_332_126, hfh_332_127, hfh_332_128, hfh_332_129, hfh_332_130, hfh_332_131, hfh_332_132, hfh_332_133, hfh_332_134, hfh_332_135, hfh_332_136, hfh_332_137, hlh_332, hrh_332, hz9, hsp⟩ := hJ9
    replace hS : va_S A s.heap H locs := hS
    replace hD : va_D A [(h0, .inr (13, z332)), (qf109, .inl (cf109, 96, .inl f109)), (qf100, .inl (cf100, 48000, .inl f100)), (qf110, .inl (cf110, 96, .inl f110)), (qf111, .inl (cf111, 96, .inl f111)), (qf127, .inl (cf127, 30, .inl g127_332)), (qf107, .inl (cf107, 96, .inl f107)), (qf102, .inl (cf102, 2048, .inl f102)), (qf104, .inl (cf104, 8, .inl f104)), (qf118, .inl (cf118, 2100, .inl g118_332)), (qf119, .inl (cf119, 2100, .inl g119_332)), (qf105, .inl (cf105, 8, .inl f105)), (qf128, .inl (cf128, 31, .inl g128_332)), (qf103, .inl (cf103, 8, .inl f103)), (qf106, .inl (cf106, 8, .inl f106)), (qf108, .inl (cf108, 8, .inl f108)), (qf137, .inl (cf137, 6, .inl g137_332)), (qf126, .inl (cf126, 1501, .inl g126_332))] := hD
    replace hP : va_P (dC, dI) vwCl [(h0, .inr (13, z332)), (qf109, .inl (cf109, 96, .inl f109)), (qf100, .inl (cf100, 48000, .inl f100)), (qf110, .inl (cf110, 96, .inl f110)), (qf111, .inl (cf111, 96, .inl f111)), (qf127, .inl (cf127, 30, .inl g127_332)), (qf107, .inl (cf107, 96, .inl f107)), (qf102, .inl (cf102, 2048, .inl f102)), (qf104, .inl (cf104, 8, .inl f104)), (qf118, .inl (cf118, 2100, .inl g118_332)), (qf119, .inl (cf119, 2100, .inl g119_332)), (qf105, .inl (cf105, 8, .inl f105)), (qf128, .inl (cf128, 31, .inl g128_332)), (qf103, .inl (cf103, 8, .inl f103)), (qf106, .inl (cf106, 8, .inl f106)), (qf108, .inl (cf108, 8, .inl f108)), (qf137, .inl (cf137, 6, .inl g137_332)), (qf126, .inl (cf126, 1501, .inl g126_332))] H := hP
    replace hsp : some (rr_332, g118_332, g119_332, g126_332, g127_332, g128_332, g137_332, x117_332, x120_332, x121_332, x122_332, x123_332, x124_332, x125_332, x129_332, x130_332, x131_332, x132_332, x133_332, x134_332, x135_332, x136_332) = some (r0, o118, o119, o126, o127, o128, o137, w117, w120, w121, w122, w123, w124, w125, w129, w130, w131, w132, w133, w134, w135, w136) := hsp
    show W _ _ _ _ _ _ _ _ _ _ H locs _ _ _ (F0 m 332 ls [.int rr_332])
    rcases hz9 with rfl | rfl
    · skip
      have hr0 := Option.some.inj hsp
      clear hsp
      obtain ⟨hq0, hr1⟩ := Prod.mk.inj hr0
      clear hr0
      obtain ⟨hq1, hr2⟩ := Prod.mk.inj hr1
      clear hr1
      obtain ⟨hq2, hr3⟩ := Prod.mk.inj hr2
      clear hr2
      obtain ⟨hq3, hr4⟩ := Prod.mk.inj hr3
      clear hr3
      obtain ⟨hq4, hr5⟩ := Prod.mk.inj hr4
      clear hr4
      obtain ⟨hq5, hr6⟩ := Prod.mk.inj hr5
      clear hr5
      obtain ⟨hq6, hr7⟩ := Prod.mk.inj hr6
      clear hr6
      obtain ⟨hq7, hr8⟩ := Prod.mk.inj hr7
      clear hr7
      obtain ⟨hq8, hr9⟩ := Prod.mk.inj hr8
      clear hr8
      obtain ⟨hq9, hr10⟩ := Prod.mk.inj hr9
      clear hr9
      obtain ⟨hq10, hr11⟩ := Prod.mk.inj hr10
      clear hr10
      obtain ⟨hq11, hr12⟩ := Prod.mk.inj hr11
      clear hr11
      obtain ⟨hq12, hr13⟩ := Prod.mk.inj hr12
      clear hr12
      obtain ⟨hq13, hr14⟩ := Prod.mk.inj hr13
      clear hr13
      obtain ⟨hq14, hr15⟩ := Prod.mk.inj hr14
      clear hr14
      obtain ⟨hq15, hr16⟩ := Prod.mk.inj hr15
      clear hr15
      obtain ⟨hq16, hr17⟩ := Prod.mk.inj hr16
      clear hr16
      obtain ⟨hq17, hr18⟩ := Prod.mk.inj hr17
      clear hr17
      obtain ⟨hq18, hr19⟩ := Prod.mk.inj hr18
      clear hr18
      obtain ⟨hq19, hr20⟩ := Prod.mk.inj hr19
      clear hr19
      obtain ⟨hq20, hr21⟩ := Prod.mk.inj hr20
      clear hr20
      subst hq0
      subst hq1
      subst hq2
      subst hq3
      subst hq4
      subst hq5
      subst hq6
      subst hq7
      subst hq8
      subst hq9
      subst hq10
      subst hq11
      subst hq12
      subst hq13
      subst hq14
      subst hq15
      subst hq16
      subst hq17
      subst hq18
      subst hq19
      subst hq20
      subst hr21
      have hP9 := hP.sub (ws' := [(h0, .inr (13, z332)), (qf109, .inl (cf109, 96, .inl f109)), (qf100, .inl (cf100, 48000, .inl f100)), (qf110, .inl (cf110, 96, .inl f110)), (qf111, .inl (cf111, 96, .inl f111)), (qf127, .inl (cf127, 30, .inl g127_332)), (qf107, .inl (cf107, 96, .inl f107)), (qf102, .inl (cf102, 2048, .inl f102)), (qf104, .inl (cf104, 8, .inl f104)), (qf118, .inl (cf118, 2100, .inl g118_332)), (qf119, .inl (cf119, 2100, .inl g119_332)), (qf105, .inl (cf105, 8, .inl f105)), (qf128, .inl (cf128, 31, .inl g128_332)), (qf103, .inl (cf103, 8, .inl f103)), (qf106, .inl (cf106, 8, .inl f106)), (qf108, .inl (cf108, 8, .inl f108)), (qf137, .inl (cf137, 6, .inl g137_332)), (qf126, .inl (cf126, 1501, .inl g126_332))]) [0, 1, 2, 3, 4, 5, 6, 7, 8, 9, 10, 11, 12, 13, 14, 15, 16, 17] rfl
      have hD9 := hD.sub (ws' := [(h0, .inr (13, z332)), (qf109, .inl (cf109, 96, .inl f109)), (qf100, .inl (cf100, 48000, .inl f100)), (qf110, .inl (cf110, 96, .inl f110)), (qf111, .inl (cf111, 96, .inl f111)), (qf127, .inl (cf127, 30, .inl g127_332)), (qf107, .inl (cf107, 96, .inl f107)), (qf102, .inl (cf102, 2048, .inl f102)), (qf104, .inl (cf104, 8, .inl f104)), (qf118, .inl (cf118, 2100, .inl g118_332)), (qf119, .inl (cf119, 2100, .inl g119_332)), (qf105, .inl (cf105, 8, .inl f105)), (qf128, .inl (cf128, 31, .inl g128_332)), (qf103, .inl (cf103, 8, .inl f103)), (qf106, .inl (cf106, 8, .inl f106)), (qf108, .inl (cf108, 8, .inl f108)), (qf137, .inl (cf137, 6, .inl g137_332)), (qf126, .inl (cf126, 1501, .inl g126_332))]) [0, 1, 2, 3, 4, 5, 6, 7, 8, 9, 10, 11, 12, 13, 14, 15, 16, 17] (by decide) rfl
      have hK9 := hK.sub (tys' := [(cf109, .int), (cf100, .int), (cf110, .int), (cf111, .int), (cf127, .int), (cf107, .int), (cf102, .int), (cf104, .int), (cf118, .int), (cf119, .int), (cf105, .int), (cf128, .int), (cf103, .int), (cf106, .int), (cf108, .int), (cf137, .int), (cf126, .boolean)]) [0, 1, 2, 3, 4, 5, 6, 7, 8, 9, 10, 11, 12, 13, 14, 15, 16] rfl
      exact W.zret hx hb hr (by decide) (fun t ht hW => ⟨⟨(0), (z332), rfl, ⟨⟨rfl, Or.inl rfl⟩, hlh_332, hrh_332, hfh_332_117, hfh_332_120, hfh_332_121, hfh_332_122, hfh_332_123, hfh_332_124, hfh_332_125, hfh_332_129, hfh_332_130, hfh_332_131, hfh_332_132, hfh_332_133, hfh_332_134, hfh_332_135, hfh_332_136⟩, by rw [ht]; exact hP9, va_K.moved hW.alike hK9, hD9⟩, hS.F ht⟩) hS.2.2 dX13_methodFits_332
    · skip
      have hr0 := Option.some.inj hsp
      clear hsp
      obtain ⟨hq0, hr1⟩ := Prod.mk.inj hr0
      clear hr0
      obtain ⟨hq1, hr2⟩ := Prod.mk.inj hr1
      clear hr1
      obtain ⟨hq2, hr3⟩ := Prod.mk.inj hr2
      clear hr2
      obtain ⟨hq3, hr4⟩ := Prod.mk.inj hr3
      clear hr3
      obtain ⟨hq4, hr5⟩ := Prod.mk.inj hr4
      clear hr4
      obtain ⟨hq5, hr6⟩ := Prod.mk.inj hr5
      clear hr5
      obtain ⟨hq6, hr7⟩ := Prod.mk.inj hr6
      clear hr6
      obtain ⟨hq7, hr8⟩ := Prod.mk.inj hr7
      clear hr7
      obtain ⟨hq8, hr9⟩ := Prod.mk.inj hr8
      clear hr8
      obtain ⟨hq9, hr10⟩ := Prod.mk.inj hr9
      clear hr9
      obtain ⟨hq10, hr11⟩ := Prod.mk.inj hr10
      clear hr10
      obtain ⟨hq11, hr12⟩ := Prod.mk.inj hr11
      clear hr11
      obtain ⟨hq12, hr13⟩ := Prod.mk.inj hr12
      clear hr12
      obtain ⟨hq13, hr14⟩ := Prod.mk.inj hr13
      clear hr13
      obtain ⟨hq14, hr15⟩ := Prod.mk.inj hr14
      clear hr14
      obtain ⟨hq15, hr16⟩ := Prod.mk.inj hr15
      clear hr15
      obtain ⟨hq16, hr17⟩ := Prod.mk.inj hr16
      clear hr16
      obtain ⟨hq17, hr18⟩ := Prod.mk.inj hr17
      clear hr17
      obtain ⟨hq18, hr19⟩ := Prod.mk.inj hr18
      clear hr18
      obtain ⟨hq19, hr20⟩ := Prod.mk.inj hr19
      clear hr19
      obtain ⟨hq20, hr21⟩ := Prod.mk.inj hr20
      clear hr20
      subst hq0
      subst hq1
      subst hq2
      subst hq3
      subst hq4
      subst hq5
      subst hq6
      subst hq7
      subst hq8
      subst hq9
      subst hq10
      subst hq11
      subst hq12
      subst hq13
      subst hq14
      subst hq15
      subst hq16
      subst hq17
      subst hq18
      subst hq19
      subst hq20
      subst hr21
      have hP9 := hP.sub (ws' := [(h0, .inr (13, z332)), (qf109, .inl (cf109, 96, .inl f109)), (qf100, .inl (cf100, 48000, .inl f100)), (qf110, .inl (cf110, 96, .inl f110)), (qf111, .inl (cf111, 96, .inl f111)), (qf127, .inl (cf127, 30, .inl g127_332)), (qf107, .inl (cf107, 96, .inl f107)), (qf102, .inl (cf102, 2048, .inl f102)), (qf104, .inl (cf104, 8, .inl f104)), (qf118, .inl (cf118, 2100, .inl g118_332)), (qf119, .inl (cf119, 2100, .inl g119_332)), (qf105, .inl (cf105, 8, .inl f105)), (qf128, .inl (cf128, 31, .inl g128_332)), (qf103, .inl (cf103, 8, .inl f103)), (qf106, .inl (cf106, 8, .inl f106)), (qf108, .inl (cf108, 8, .inl f108)), (qf137, .inl (cf137, 6, .inl g137_332)), (qf126, .inl (cf126, 1501, .inl g126_332))]) [0, 1, 2, 3, 4, 5, 6, 7, 8, 9, 10, 11, 12, 13, 14, 15, 16, 17] rfl
      have hD9 := hD.sub (ws' := [(h0, .inr (13, z332)), (qf109, .inl (cf109, 96, .inl f109)), (qf100, .inl (cf100, 48000, .inl f100)), (qf110, .inl (cf110, 96, .inl f110)), (qf111, .inl (cf111, 96, .inl f111)), (qf127, .inl (cf127, 30, .inl g127_332)), (qf107, .inl (cf107, 96, .inl f107)), (qf102, .inl (cf102, 2048, .inl f102)), (qf104, .inl (cf104, 8, .inl f104)), (qf118, .inl (cf118, 2100, .inl g118_332)), (qf119, .inl (cf119, 2100, .inl g119_332)), (qf105, .inl (cf105, 8, .inl f105)), (qf128, .inl (cf128, 31, .inl g128_332)), (qf103, .inl (cf103, 8, .inl f103)), (qf106, .inl (cf106, 8, .inl f106)), (qf108, .inl (cf108, 8, .inl f108)), (qf137, .inl (cf137, 6, .inl g137_332)), (qf126, .inl (cf126, 1501, .inl g126_332))]) [0, 1, 2, 3, 4, 5, 6, 7, 8, 9, 10, 11, 12, 13, 14, 15, 16, 17] (by decide) rfl
      have hK9 := hK.sub (tys' := [(cf109, .int), (cf100, .int), (cf110, .int), (cf111, .int), (cf127, .int), (cf107, .int), (cf102, .int), (cf104, .int), (cf118, .int), (cf119, .int), (cf105, .int), (cf128, .int), (cf103, .int), (cf106, .int), (cf108, .int), (cf137, .int), (cf126, .boolean)]) [0, 1, 2, 3, 4, 5, 6, 7, 8, 9, 10, 11, 12, 13, 14, 15, 16] rfl
      exact W.zret hx hb hr (by decide) (fun t ht hW => ⟨⟨(1), (z332), rfl, ⟨⟨rfl, Or.inr rfl⟩, hlh_332, hrh_332, hfh_332_117, hfh_332_120, hfh_332_121, hfh_332_122, hfh_332_123, hfh_332_124, hfh_332_125, hfh_332_129, hfh_332_130, hfh_332_131, hfh_332_132, hfh_332_133, hfh_332_134, hfh_332_135, hfh_332_136⟩, by rw [ht]; exact hP9, va_K.moved hW.alike hK9, hD9⟩, hS.F ht⟩) hS.2.2 dX13_methodFits_332
  intro hret_332
  refine lv_aload_n hx hb dX13_methodFits_0 rfl (lv_at hl 0 rfl) ?_
  refine lv_iload_n hx hb dX13_methodFits_1 rfl (lv_at hl 1 rfl) ?_
  refine lv_iload_n hx hb dX13_methodFits_2 rfl (lv_at hl 2 rfl) ?_
  obtain ⟨⟨u1_0, u1_1, u1_2, u1_3, u1_4, u1_5⟩, hu_1, hsp⟩ := ox_bind hsp
  try dsimp only at hsp
  have hPc := hP.sub (ws' := [(h0, .inr (13, zs)), (qf109, .inl (cf109, 96, .inl f109)), (qf100, .inl (cf100, 48000, .inl f100))]) [0, 1, 2] rfl
  have hDc := hD.sub (ws' := [(h0, .inr (13, zs)), (qf109, .inl (cf109, 96, .inl f109)), (qf100, .inl (cf100, 48000, .inl f100))]) [0, 1, 2] (by decide) rfl
  have hKc := hK.sub (tys' := [(cf109, .int), (cf100, .int)]) [0, 1] rfl
  have hFc := va_free (wc := [(h0, .inr (13, zs)), (qf109, .inl (cf109, 96, .inl f109)), (qf100, .inl (cf100, 48000, .inl f100))]) hD hS hA [0, 1, 2] rfl
  refine va_callv (va_runV (As := [.int a1, .int a2]) (rest := []) ⟨hx, hb, hml, hown, hts⟩ (tn_at_ l dC dI H.size h0 zs a1 a2 qf100 qf109 v129 v130 v132 v133 v134 v135 cf109 f109 cf100 f100 nf u1_0 u1_1 u1_2 u1_3 u1_4 u1_5 hlen hf100 hf109 hf129 hf130 hf132 hf133 hf134 hf135 hu_1) (cwV 2 hts gv_h9_60 rfl rfl rfl (by decide +kernel) ⟨Nat.le_of_ble_eq_true rfl, Nat.le_of_ble_eq_true rfl⟩) ⟨fun a U g mk q => by obtain ⟨q0, q1, qP, qK, qD⟩ := q; exact ⟨q0, q1, qP, va_K.moved (u := U) (U := U.calling g mk a) (Vm.Alike.refl U.vm) qK, qD⟩, va_recv hKc hPc (ci := 13) (q0 := 0) rfl rfl, fun U hU hW => ⟨rfl, by rw [hU], by rw [hU]; exact hPc, va_K.moved hW.alike hKc, hDc.weaken (fun _ _ _ _ => trivial)⟩⟩ rfl rfl hl.1 rfl (lv_room (Nat.le_of_ble_eq_true rfl)) dX13_methodFits_3 ⟨Nat.le_of_ble_eq_true rfl, Nat.le_of_ble_eq_true rfl⟩) hS (fun q _ h => hFc q h) hFc ?_
  clear hS
  intro u t H1 locs ht hvm hw hB hz1 hk1 hS
  obtain ⟨z_1, rfl⟩ : ∃ z, z = u := ⟨_, rfl⟩
  obtain ⟨hP1, hK1, hD1⟩ := hB
  rw [ht] at hP1
  have hK1 := va_K.moved hvm.symm hK1
  try dsimp only at hw
  have hPD := va_join (wr := [(qf110, .inl (cf110, 96, .inl f110)), (qf111, .inl (cf111, 96, .inl f111)), (qf127, .inl (cf127, 30, .inl f127)), (qf107, .inl (cf107, 96, .inl f107)), (qf102, .inl (cf102, 2048, .inl f102)), (qf104, .inl (cf104, 8, .inl f104)), (qf118, .inl (cf118, 2100, .inl f118)), (qf119, .inl (cf119, 2100, .inl f119)), (qf105, .inl (cf105, 8, .inl f105)), (qf128, .inl (cf128, 31, .inl f128)), (qf103, .inl (cf103, 8, .inl f103)), (qf106, .inl (cf106, 8, .inl f106)), (qf108, .inl (cf108, 8, .inl f108)), (qf137, .inl (cf137, 6, .inl f137)), (qf126, .inl (cf126, 1501, .inl f126))]) (w1 := [(h0, .inr (13, z_1)), (qf109, .inl (cf109, 96, .inl f109)), (qf100, .inl (cf100, 48000, .inl f100))]) hP hD [0, 1, 2] [3, 4, 5, 6, 7, 8, 9, 10, 11, 12, 13, 14, 15, 16, 17] rfl rfl (by decide) (by decide) hk1 hFc hP1 hD1
  clear hP hD
  obtain ⟨hP, hD⟩ := hPD
  replace hK := (hK.sub (tys' := [(cf110, .int), (cf111, .int), (cf127, .int), (cf107, .int), (cf102, .int), (cf104, .int), (cf118, .int), (cf119, .int), (cf105, .int), (cf128, .int), (cf103, .int), (cf106, .int), (cf108, .int), (cf137, .int), (cf126, .boolean)]) [2, 3, 4, 5, 6, 7, 8, 9, 10, 11, 12, 13, 14, 15, 16] rfl).app hK1
  clear hPc hDc hKc hFc hP1 hK1 hD1 hz1 hk1 ht hvm
  generalize H1 = H at hP hS ⊢
  replace hP : va_P (dC, dI) vwCl [(qf110, .inl (cf110, 96, .inl f110)), (qf111, .inl (cf111, 96, .inl f111)), (qf127, .inl (cf127, 30, .inl f127)), (qf107, .inl (cf107, 96, .inl f107)), (qf102, .inl (cf102, 2048, .inl f102)), (qf104, .inl (cf104, 8, .inl f104)), (qf118, .inl (cf118, 2100, .inl f118)), (qf119, .inl (cf119, 2100, .inl f119)), (qf105, .inl (cf105, 8, .inl f105)), (qf128, .inl (cf128, 31, .inl f128)), (qf103, .inl (cf103, 8, .inl f103)), (qf106, .inl (cf106, 8, .inl f106)), (qf108, .inl (cf108, 8, .inl f108)), (qf137, .inl (cf137, 6, .inl f137)), (qf126, .inl (cf126, 1501, .inl f126)), (h0, .inr (13, z_1)), (qf109, .inl (cf109, 96, .inl f109)), (qf100, .inl (cf100, 48000, .inl f100))] H := hP
  replace hD : va_D A [(qf110, .inl (cf110, 96, .inl f110)), (qf111, .inl (cf111, 96, .inl f111)), (qf127, .inl (cf127, 30, .inl f127)), (qf107, .inl (cf107, 96, .inl f107)), (qf102, .inl (cf102, 2048, .inl f102)), (qf104, .inl (cf104, 8, .inl f104)), (qf118, .inl (cf118, 2100, .inl f118)), (qf119, .inl (cf119, 2100, .inl f119)), (qf105, .inl (cf105, 8, .inl f105)), (qf128, .inl (cf128, 31, .inl f128)), (qf103, .inl (cf103, 8, .inl f103)), (qf106, .inl (cf106, 8, .inl f106)), (qf108, .inl (cf108, 8, .inl f108)), (qf137, .inl (cf137, 6, .inl f137)), (qf126, .inl (cf126, 1501, .inl f126)), (h0, .inr (13, z_1)), (qf109, .inl (cf109, 96, .inl f109)), (qf100, .inl (cf100, 48000, .inl f100))] := hD
  replace hK : va_K (dC, dI) vwCl [(cf110, .int), (cf111, .int), (cf127, .int), (cf107, .int), (cf102, .int), (cf104, .int), (cf118, .int), (cf119, .int), (cf105, .int), (cf128, .int), (cf103, .int), (cf106, .int), (cf108, .int), (cf137, .int), (cf126, .boolean), (cf109, .int), (cf100, .int)] s := hK
  obtain ⟨hwa_1, hln_1, hre_1, hch_1_129, hch_1_130, hch_1_132, hch_1_133, hch_1_134, hch_1_135⟩ := hw
  have hfk_1_98 : z_1[98]? = some (.int v98) := (hre_1 98 (by decide) (by decide) (by decide) (by decide) (by decide) (by decide)).trans (hf98)
  have hfk_1_100 : z_1[100]? = some (.ref qf100) := (hre_1 100 (by decide) (by decide) (by decide) (by decide) (by decide) (by decide)).trans (hf100)
  have hfk_1_102 : z_1[102]? = some (.ref qf102) := (hre_1 102 (by decide) (by decide) (by decide) (by decide) (by decide) (by decide)).trans (hf102)
  have hfk_1_103 : z_1[103]? = some (.ref qf103) := (hre_1 103 (by decide) (by decide) (by decide) (by decide) (by decide) (by decide)).trans (hf103)
  have hfk_1_104 : z_1[104]? = some (.ref qf104) := (hre_1 104 (by decide) (by decide) (by decide) (by decide) (by decide) (by decide)).trans (hf104)
  have hfk_1_105 : z_1[105]? = some (.ref qf105) := (hre_1 105 (by decide) (by decide) (by decide) (by decide) (by decide) (by decide)).trans (hf105)
  have hfk_1_106 : z_1[106]? = some (.ref qf106) := (hre_1 106 (by decide) (by decide) (by decide) (by decide) (by decide) (by decide)).trans (hf106)
  have hfk_1_107 : z_1[107]? = some (.ref qf107) := (hre_1 107 (by decide) (by decide) (by decide) (by decide) (by decide) (by decide)).trans (hf107)
  have hfk_1_108 : z_1[108]? = some (.ref qf108) := (hre_1 108 (by decide) (by decide) (by decide) (by decide) (by decide) (by decide)).trans (hf108)
  have hfk_1_109 : z_1[109]? = some (.ref qf109) := (hre_1 109 (by decide) (by decide) (by decide) (by decide) (by decide) (by decide)).trans (hf109)
  have hfk_1_110 : z_1[110]? = some (.ref qf110) := (hre_1 110 (by decide) (by decide) (by decide) (by decide) (by decide) (by decide)).trans (hf110)
  have hfk_1_111 : z_1[111]? = some (.ref qf111) := (hre_1 111 (by decide) (by decide) (by decide) (by decide) (by decide) (by decide)).trans (hf111)
  have hfk_1_117 : z_1[117]? = some (.int v117) := (hre_1 117 (by decide) (by decide) (by decide) (by decide) (by decide) (by decide)).trans (hf117)
  have hfk_1_118 : z_1[118]? = some (.ref qf118) := (hre_1 118 (by decide) (by decide) (by decide) (by decide) (by decide) (by decide)).trans (hf118)
  have hfk_1_119 : z_1[119]? = some (.ref qf119) := (hre_1 119 (by decide) (by decide) (by decide) (by decide) (by decide) (by decide)).trans (hf119)
  have hfk_1_120 : z_1[120]? = some (.int v120) := (hre_1 120 (by decide) (by decide) (by decide) (by decide) (by decide) (by decide)).trans (hf120)
  have hfk_1_121 : z_1[121]? = some (.int v121) := (hre_1 121 (by decide) (by decide) (by decide) (by decide) (by decide) (by decide)).trans (hf121)
  have hfk_1_122 : z_1[122]? = some (.int v122) := (hre_1 122 (by decide) (by decide) (by decide) (by decide) (by decide) (by decide)).trans (hf122)
  have hfk_1_123 : z_1[123]? = some (.int v123) := (hre_1 123 (by decide) (by decide) (by decide) (by decide) (by decide) (by decide)).trans (hf123)
  have hfk_1_124 : z_1[124]? = some (.int v124) := (hre_1 124 (by decide) (by decide) (by decide) (by decide) (by decide) (by decide)).trans (hf124)
  have hfk_1_125 : z_1[125]? = some (.int v125) := (hre_1 125 (by decide) (by decide) (by decide) (by decide) (by decide) (by decide)).trans (hf125)
  have hfk_1_126 : z_1[126]? = some (.ref qf126) := (hre_1 126 (by decide) (by decide) (by decide) (by decide) (by decide) (by decide)).trans (hf126)
  have hfk_1_127 : z_1[127]? = some (.ref qf127) := (hre_1 127 (by decide) (by decide) (by decide) (by decide) (by decide) (by decide)).trans (hf127)
  have hfk_1_128 : z_1[128]? = some (.ref qf128) := (hre_1 128 (by decide) (by decide) (by decide) (by decide) (by decide) (by decide)).trans (hf128)
  have hfk_1_131 : z_1[131]? = some (.int v131) := (hre_1 131 (by decide) (by decide) (by decide) (by decide) (by decide) (by decide)).trans (hf131)
  have hfk_1_136 : z_1[136]? = some (.int v136) := (hre_1 136 (by decide) (by decide) (by decide) (by decide) (by decide) (by decide)).trans (hf136)
  have hfk_1_137 : z_1[137]? = some (.ref qf137) := (hre_1 137 (by decide) (by decide) (by decide) (by decide) (by decide) (by decide)).trans (hf137)
  have hrq_1 : ∀ j : Nat, j ≠ 117 → j ≠ 120 → j ≠ 121 → j ≠ 122 → j ≠ 123 → j ≠ 124 → j ≠ 125 → j ≠ 129 → j ≠ 130 → j ≠ 131 → j ≠ 132 → j ≠ 133 → j ≠ 134 → j ≠ 135 → j ≠ 136 → z_1[j]? = zs[j]? := fun j g117 g120 g121 g122 g123 g124 g125 g129 g130 g131 g132 g133 g134 g135 g136 => (hre_1 j g129 g130 g132 g133 g134 g135).trans (hrs0 j g117 g120 g121 g122 g123 g124 g125 g129 g130 g131 g132 g133 g134 g135 g136)
  refine lv_iconst (v := 0) hx hb dX13_methodFits_6 (by decide) ?_
  refine lv_istore_n (lv' := [(3, .int 0), (0, .ref h0), (1, .int a1), (2, .int a2)]) hx hb dX13_methodFits_7 rfl hl (by decide) rfl (fun ls hl => ?_)
  replace hl : lv_has ls 8 [(3, .int 0), (0, .ref h0), (1, .int a1), (2, .int a2)] := lv_sub hl [0, 1, 2, 3] rfl
  replace hP := hP.sub (ws' := [(h0, .inr (13, z_1)), (qf109, .inl (cf109, 96, .inl f109)), (qf100, .inl (cf100, 48000, .inl f100)), (qf110, .inl (cf110, 96, .inl f110)), (qf111, .inl (cf111, 96, .inl f111)), (qf127, .inl (cf127, 30, .inl f127)), (qf107, .inl (cf107, 96, .inl f107)), (qf102, .inl (cf102, 2048, .inl f102)), (qf104, .inl (cf104, 8, .inl f104)), (qf118, .inl (cf118, 2100, .inl f118)), (qf119, .inl (cf119, 2100, .inl f119)), (qf105, .inl (cf105, 8, .inl f105)), (qf128, .inl (cf128, 31, .inl f128)), (qf103, .inl (cf103, 8, .inl f103)), (qf106, .inl (cf106, 8, .inl f106)), (qf108, .inl (cf108, 8, .inl f108)), (qf137, .inl (cf137, 6, .inl f137)), (qf126, .inl (cf126, 1501, .inl f126))]) [15, 16, 17, 0, 1, 2, 3, 4, 5, 6, 7, 8, 9, 10, 11, 12, 13, 14] rfl
  replace hD := hD.sub (ws' := [(h0, .inr (13, z_1)), (qf109, .inl (cf109, 96, .inl f109)), (qf100, .inl (cf100, 48000, .inl f100)), (qf110, .inl (cf110, 96, .inl f110)), (qf111, .inl (cf111, 96, .inl f111)), (qf127, .inl (cf127, 30, .inl f127)), (qf107, .inl (cf107, 96, .inl f107)), (qf102, .inl (cf102, 2048, .inl f102)), (qf104, .inl (cf104, 8, .inl f104)), (qf118, .inl (cf118, 2100, .inl f118)), (qf119, .inl (cf119, 2100, .inl f119)), (qf105, .inl (cf105, 8, .inl f105)), (qf128, .inl (cf128, 31, .inl f128)), (qf103, .inl (cf103, 8, .inl f103)), (qf106, .inl (cf106, 8, .inl f106)), (qf108, .inl (cf108, 8, .inl f108)), (qf137, .inl (cf137, 6, .inl f137)), (qf126, .inl (cf126, 1501, .inl f126))]) [15, 16, 17, 0, 1, 2, 3, 4, 5, 6, 7, 8, 9, 10, 11, 12, 13, 14] (by decide) rfl
  replace hK := hK.sub (tys' := [(cf109, .int), (cf100, .int), (cf110, .int), (cf111, .int), (cf127, .int), (cf107, .int), (cf102, .int), (cf104, .int), (cf118, .int), (cf119, .int), (cf105, .int), (cf128, .int), (cf103, .int), (cf106, .int), (cf108, .int), (cf137, .int), (cf126, .boolean)]) [15, 16, 0, 1, 2, 3, 4, 5, 6, 7, 8, 9, 10, 11, 12, 13, 14] rfl
  obtain ⟨n_8, hn_8⟩ : ∃ z : Nat, z = nf := ⟨_, rfl⟩
  obtain ⟨l1_8, el1_8⟩ : ∃ z : Int32, z = a1 := ⟨_, rfl⟩
  obtain ⟨l2_8, el2_8⟩ : ∃ z : Int32, z = a2 := ⟨_, rfl⟩
  obtain ⟨l3_8, el3_8⟩ : ∃ z : Int32, z = 0 := ⟨_, rfl⟩
  obtain ⟨g118_8, eg118_8⟩ : ∃ z : Nat → Int32, z = f118 := ⟨_, rfl⟩
  obtain ⟨g119_8, eg119_8⟩ : ∃ z : Nat → Int32, z = f119 := ⟨_, rfl⟩
  obtain ⟨g126_8, eg126_8⟩ : ∃ z : Nat → Int32, z = f126 := ⟨_, rfl⟩
  obtain ⟨g127_8, eg127_8⟩ : ∃ z : Nat → Int32, z = f127 := ⟨_, rfl⟩
  obtain ⟨g128_8, eg128_8⟩ : ∃ z : Nat → Int32, z = f128 := ⟨_, rfl⟩
  obtain ⟨g137_8, eg137_8⟩ : ∃ z : Nat → Int32, z = f137 := ⟨_, rfl⟩
  obtain ⟨x117_8, ex117_8⟩ : ∃ z : Int32, z = v117 := ⟨_, rfl⟩
  obtain ⟨x120_8, ex120_8⟩ : ∃ z : Int32, z = v120 := ⟨_, rfl⟩
  obtain ⟨x121_8, ex121_8⟩ : ∃ z : Int32, z = v121 := ⟨_, rfl⟩
  obtain ⟨x122_8, ex122_8⟩ : ∃ z : Int32, z = v122 := ⟨_, rfl⟩
  obtain ⟨x123_8, ex123_8⟩ : ∃ z : Int32, z = v123 := ⟨_, rfl⟩
  obtain ⟨x124_8, ex124_8⟩ : ∃ z : Int32, z = v124 := ⟨_, rfl⟩
  obtain ⟨x125_8, ex125_8⟩ : ∃ z : Int32, z = v125 := ⟨_, rfl⟩
  obtain ⟨x129_8, ex129_8⟩ : ∃ z : Int32, z = u1_0 := ⟨_, rfl⟩
  obtain ⟨x130_8, ex130_8⟩ : ∃ z : Int32, z = u1_1 := ⟨_, rfl⟩
  obtain ⟨x131_8, ex131_8⟩ : ∃ z : Int32, z = v131 := ⟨_, rfl⟩
  obtain ⟨x132_8, ex132_8⟩ : ∃ z : Int32, z = u1_2 := ⟨_, rfl⟩
  obtain ⟨x133_8, ex133_8⟩ : ∃ z : Int32, z = u1_3 := ⟨_, rfl⟩
  obtain ⟨x134_8, ex134_8⟩ : ∃ z : Int32, z = u1_4 := ⟨_, rfl⟩
  obtain ⟨x135_8, ex135_8⟩ : ∃ z : Int32, z = u1_5 := ⟨_, rfl⟩
  obtain ⟨x136_8, ex136_8⟩ : ∃ z : Int32, z = v136 := ⟨_, rfl⟩
  replace hsp : lp_vm_methodFits_8 nf n_8 a1 a2 v98 v117 v120 v121 v122 v123 v124 v125 v131 v136 f109 f100 f110 f111 f127 f107 f102 f104 f118 f119 f105 f128 f103 f106 f108 f137 f126 nS477 fS477 l1_8 l2_8 l3_8 g118_8 g119_8 g126_8 g127_8 g128_8 g137_8 x117_8 x120_8 x121_8 x122_8 x123_8 x124_8 x125_8 x129_8 x130_8 x131_8 x132_8 x133_8 x134_8 x135_8 x136_8 = some (r0, o118, o119, o126, o127, o128, o137, w117, w120, w121, w122, w123, w124, w125, w129, w130, w131, w132, w133, w134, w135, w136) := by rw [hn_8, el1_8, el2_8, el3_8, eg118_8, eg119_8, eg126_8, eg127_8, eg128_8, eg137_8, ex117_8, ex120_8, ex121_8, ex122_8, ex123_8, ex124_8, ex125_8, ex129_8, ex130_8, ex131_8, ex132_8, ex133_8, ex134_8, ex135_8, ex136_8]; exact hsp
  replace hl : lv_has ls 8 [(3, .int l3_8), (0, .ref h0), (1, .int l1_8), (2, .int l2_8)] := by rw [el1_8, el2_8, el3_8]; exact hl
  obtain ⟨z8, ez8⟩ : ∃ z : List Value, z = z_1 := ⟨_, rfl⟩
  have hfh_8_98 : z8[98]? = some (.int v98) := by rw [ez8]; exact hfk_1_98
  have hfh_8_100 : z8[100]? = some (.ref qf100) := by rw [ez8]; exact hfk_1_100
  have hfh_8_102 : z8[102]? = some (.ref qf102) := by rw [ez8]; exact hfk_1_102
  have hfh_8_103 : z8[103]? = some (.ref qf103) := by rw [ez8]; exact hfk_1_103
  have hfh_8_104 : z8[104]? = some (.ref qf104) := by rw [ez8]; exact hfk_1_104
  have hfh_8_105 : z8[105]? = some (.ref qf105) := by rw [ez8]; exact hfk_1_105
  have hfh_8_106 : z8[106]? = some (.ref qf106) := by rw [ez8]; exact hfk_1_106
  have hfh_8_107 : z8[107]? = some (.ref qf107) := by rw [ez8]; exact hfk_1_107
  have hfh_8_108 : z8[108]? = some (.ref qf108) := by rw [ez8]; exact hfk_1_108
  have hfh_8_109 : z8[109]? = some (.ref qf109) := by rw [ez8]; exact hfk_1_109
  have hfh_8_110 : z8[110]? = some (.ref qf110) := by rw [ez8]; exact hfk_1_110
  have hfh_8_111 : z8[111]? = some (.ref qf111) := by rw [ez8]; exact hfk_1_111
  have hfh_8_117 : z8[117]? = some (.int x117_8) := by rw [ez8, ex117_8]; exact hfk_1_117
  have hfh_8_118 : z8[118]? = some (.ref qf118) := by rw [ez8]; exact hfk_1_118
  have hfh_8_119 : z8[119]? = some (.ref qf119) := by rw [ez8]; exact hfk_1_119
  have hfh_8_120 : z8[120]? = some (.int x120_8) := by rw [ez8, ex120_8]; exact hfk_1_120
  have hfh_8_121 : z8[121]? = some (.int x121_8) := by rw [ez8, ex121_8]; exact hfk_1_121
  have hfh_8_122 : z8[122]? = some (.int x122_8) := by rw [ez8, ex122_8]; exact hfk_1_122
  have hfh_8_123 : z8[123]? = some (.int x123_8) := by rw [ez8, ex123_8]; exact hfk_1_123
  have hfh_8_124 : z8[124]? = some (.int x124_8) := by rw [ez8, ex124_8]; exact hfk_1_124
  have hfh_8_125 : z8[125]? = some (.int x125_8) := by rw [ez8, ex125_8]; exact hfk_1_125
  have hfh_8_126 : z8[126]? = some (.ref qf126) := by rw [ez8]; exact hfk_1_126
  have hfh_8_127 : z8[127]? = some (.ref qf127) := by rw [ez8]; exact hfk_1_127
  have hfh_8_128 : z8[128]? = some (.ref qf128) := by rw [ez8]; exact hfk_1_128
  have hfh_8_129 : z8[129]? = some (.int x129_8) := by rw [ez8, ex129_8]; exact hch_1_129
  have hfh_8_130 : z8[130]? = some (.int x130_8) := by rw [ez8, ex130_8]; exact hch_1_130
  have hfh_8_131 : z8[131]? = some (.int x131_8) := by rw [ez8, ex131_8]; exact hfk_1_131
  have hfh_8_132 : z8[132]? = some (.int x132_8) := by rw [ez8, ex132_8]; exact hch_1_132
  have hfh_8_133 : z8[133]? = some (.int x133_8) := by rw [ez8, ex133_8]; exact hch_1_133
  have hfh_8_134 : z8[134]? = some (.int x134_8) := by rw [ez8, ex134_8]; exact hch_1_134
  have hfh_8_135 : z8[135]? = some (.int x135_8) := by rw [ez8, ex135_8]; exact hch_1_135
  have hfh_8_136 : z8[136]? = some (.int x136_8) := by rw [ez8, ex136_8]; exact hfk_1_136
  have hfh_8_137 : z8[137]? = some (.ref qf137) := by rw [ez8]; exact hfk_1_137
  have hlh_8 : z8.length = 155 := by rw [ez8]; exact hln_1
  have hrh_8 : ∀ j : Nat, j ≠ 117 → j ≠ 120 → j ≠ 121 → j ≠ 122 → j ≠ 123 → j ≠ 124 → j ≠ 125 → j ≠ 129 → j ≠ 130 → j ≠ 131 → j ≠ 132 → j ≠ 133 → j ≠ 134 → j ≠ 135 → j ≠ 136 → z8[j]? = zs[j]? := by rw [ez8]; exact hrq_1
  replace hP : va_P (dC, dI) vwCl [(h0, .inr (13, z8)), (qf109, .inl (cf109, 96, .inl f109)), (qf100, .inl (cf100, 48000, .inl f100)), (qf110, .inl (cf110, 96, .inl f110)), (qf111, .inl (cf111, 96, .inl f111)), (qf127, .inl (cf127, 30, .inl g127_8)), (qf107, .inl (cf107, 96, .inl f107)), (qf102, .inl (cf102, 2048, .inl f102)), (qf104, .inl (cf104, 8, .inl f104)), (qf118, .inl (cf118, 2100, .inl g118_8)), (qf119, .inl (cf119, 2100, .inl g119_8)), (qf105, .inl (cf105, 8, .inl f105)), (qf128, .inl (cf128, 31, .inl g128_8)), (qf103, .inl (cf103, 8, .inl f103)), (qf106, .inl (cf106, 8, .inl f106)), (qf108, .inl (cf108, 8, .inl f108)), (qf137, .inl (cf137, 6, .inl g137_8)), (qf126, .inl (cf126, 1501, .inl g126_8))] H := by rw [ez8, eg118_8, eg119_8, eg126_8, eg127_8, eg128_8, eg137_8]; exact hP
  replace hD : va_D A [(h0, .inr (13, z8)), (qf109, .inl (cf109, 96, .inl f109)), (qf100, .inl (cf100, 48000, .inl f100)), (qf110, .inl (cf110, 96, .inl f110)), (qf111, .inl (cf111, 96, .inl f111)), (qf127, .inl (cf127, 30, .inl g127_8)), (qf107, .inl (cf107, 96, .inl f107)), (qf102, .inl (cf102, 2048, .inl f102)), (qf104, .inl (cf104, 8, .inl f104)), (qf118, .inl (cf118, 2100, .inl g118_8)), (qf119, .inl (cf119, 2100, .inl g119_8)), (qf105, .inl (cf105, 8, .inl f105)), (qf128, .inl (cf128, 31, .inl g128_8)), (qf103, .inl (cf103, 8, .inl f103)), (qf106, .inl (cf106, 8, .inl f106)), (qf108, .inl (cf108, 8, .inl f108)), (qf137, .inl (cf137, 6, .inl g137_8)), (qf126, .inl (cf126, 1501, .inl g126_8))] := by rw [ez8, eg118_8, eg119_8, eg126_8, eg127_8, eg128_8, eg137_8]; exact hD
  clear hn_8 ez8 el1_8 el2_8 el3_8 eg118_8 eg119_8 eg126_8 eg127_8 eg128_8 eg137_8 ex117_8 ex120_8 ex121_8 ex122_8 ex123_8 ex124_8 ex125_8 ex129_8 ex130_8 ex131_8 ex132_8 ex133_8 ex134_8 ex135_8 ex136_8
  try clear hlo
  try clear hH
  revert hsp
  revert hP
  revert hD
  revert hS
  revert hl
  revert hrh_8
  revert hlh_8
  revert hfh_8_137
  revert hfh_8_136
  revert hfh_8_135
  revert hfh_8_134
  revert hfh_8_133
  revert hfh_8_132
  revert hfh_8_131
  revert hfh_8_130
  revert hfh_8_129
  revert hfh_8_128
  revert hfh_8_127
  revert hfh_8_126
  revert hfh_8_125
  revert hfh_8_124
  revert hfh_8_123
  revert hfh_8_122
  revert hfh_8_121
  revert hfh_8_120
  revert hfh_8_119
  revert hfh_8_118
  revert hfh_8_117
  revert hfh_8_111
  revert hfh_8_110
  revert hfh_8_109
  revert hfh_8_108
  revert hfh_8_107
  revert hfh_8_106
  revert hfh_8_105
  revert hfh_8_104
  revert hfh_8_103
  revert hfh_8_102
  revert hfh_8_100
  revert hfh_8_98
  revert x136_8
  revert x135_8
  revert x134_8
  revert x133_8
  revert x132_8
  revert x131_8
  revert x130_8
  revert x129_8
  revert x125_8
  revert x124_8
  revert x123_8
  revert x122_8
  revert x121_8
  revert x120_8
  revert x117_8
  revert g137_8
  revert g128_8
  revert g127_8
  revert g126_8
  revert g119_8
  revert g118_8
  revert l3_8
  revert l2_8
  revert l1_8
  revert z8
  revert ls
  revert locs
  revert H
  induction n_8 with
  | zero => intro H locs ls z8 l1_8 l2_8 l3_8 g118_8 g119_8 g126_8 g127_8 g128_8 g137_8 x117_8 x120_8 x121_8 x122_8 x123_8 x124_8 x125_8 x129_8 x130_8 x131_8 x132_8 x133_8 x134_8 x135_8 x136_8 hfh_8_98 hfh_8_100 hfh_8_102 hfh_8_103 hfh_8_104 hfh_8_105 hfh_8_106 hfh_8_107 hfh_8_108 hfh_8_109 hfh_8_110 hfh_8_111 hfh_8_117 hfh_8_118 hfh_8_119 hfh_8_120 hfh_8_121 hfh_8_122 hfh_8_123 hfh_8_124 hfh_8_125 hfh_8_126 hfh_8_127 hfh_8_128 hfh_8_129 hfh_8_130 hfh_8_131 hfh_8_132 hfh_8_133 hfh_8_134 hfh_8_135 hfh_8_136 hfh_8_137 hlh_8 hrh_8 hl hS hD hP hsp; unfold lp_vm_methodFits_8 at hsp; cases hsp
  | succ n_8 ih_8 =>
    intro H locs ls z8 l1_8 l2_8 l3_8 g118_8 g119_8 g126_8 g127_8 g128_8 g137_8 x117_8 x120_8 x121_8 x122_8 x123_8 x124_8 x125_8 x129_8 x130_8 x131_8 x132_8 x133_8 x134_8 x135_8 x136_8 hfh_8_98 hfh_8_100 hfh_8_102 hfh_8_103 hfh_8_104 hfh_8_105 hfh_8_106 hfh_8_107 hfh_8_108 hfh_8_109 hfh_8_110 hfh_8_111 hfh_8_117 hfh_8_118 hfh_8_119 hfh_8_120 hfh_8_121 hfh_8_122 hfh_8_123 hfh_8_124 hfh_8_125 hfh_8_126 hfh_8_127 hfh_8_128 hfh_8_129 hfh_8_130 hfh_8_131 hfh_8_132 hfh_8_133 hfh_8_134 hfh_8_135 hfh_8_136 hfh_8_137 hlh_8 hrh_8 hl hS hD hP hsp
    unfold lp_vm_methodFits_8 at hsp
    try dsimp only at hsp
    refine lv_iload_n hx hb dX13_methodFits_8 rfl (lv_at hl 0 rfl) ?_
    refine lv_sipush (v := 1500) hx hb dX13_methodFits_9 (by decide) ?_
    refine lv_icmp_gt (tgt := 28) hx hb dX13_methodFits_12 (by decide) (fun c_1 => ?_) (fun c_1 => ?_)
    · rw [if_pos c_1] at hsp
      refine lv_iconst (v := 0) hx hb dX13_methodFits_28 (by decide) ?_
      refine lv_istore_n (lv' := [(3, .int 0), (0, .ref h0), (1, .int l1_8), (2, .int l2_8)]) hx hb dX13_methodFits_29 rfl hl (by decide) rfl (fun ls hl => ?_)
      replace hl : lv_has ls 8 [(3, .int 0), (0, .ref h0), (1, .int l1_8), (2, .int l2_8)] := lv_sub hl [0, 1, 2, 3] rfl
      replace hP := hP.sub (ws' := [(h0, .inr (13, z8)), (qf109, .inl (cf109, 96, .inl f109)), (qf100, .inl (cf100, 48000, .inl f100)), (qf110, .inl (cf110, 96, .inl f110)), (qf111, .inl (cf111, 96, .inl f111)), (qf127, .inl (cf127, 30, .inl g127_8)), (qf107, .inl (cf107, 96, .inl f107)), (qf102, .inl (cf102, 2048, .inl f102)), (qf104, .inl (cf104, 8, .inl f104)), (qf118, .inl (cf118, 2100, .inl g118_8)), (qf119, .inl (cf119, 2100, .inl g119_8)), (qf105, .inl (cf105, 8, .inl f105)), (qf128, .inl (cf128, 31, .inl g128_8)), (qf103, .inl (cf103, 8, .inl f103)), (qf106, .inl (cf106, 8, .inl f106)), (qf108, .inl (cf108, 8, .inl f108)), (qf137, .inl (cf137, 6, .inl g137_8)), (qf126, .inl (cf126, 1501, .inl g126_8))]) [0, 1, 2, 3, 4, 5, 6, 7, 8, 9, 10, 11, 12, 13, 14, 15, 16, 17] rfl
      replace hD := hD.sub (ws' := [(h0, .inr (13, z8)), (qf109, .inl (cf109, 96, .inl f109)), (qf100, .inl (cf100, 48000, .inl f100)), (qf110, .inl (cf110, 96, .inl f110)), (qf111, .inl (cf111, 96, .inl f111)), (qf127, .inl (cf127, 30, .inl g127_8)), (qf107, .inl (cf107, 96, .inl f107)), (qf102, .inl (cf102, 2048, .inl f102)), (qf104, .inl (cf104, 8, .inl f104)), (qf118, .inl (cf118, 2100, .inl g118_8)), (qf119, .inl (cf119, 2100, .inl g119_8)), (qf105, .inl (cf105, 8, .inl f105)), (qf128, .inl (cf128, 31, .inl g128_8)), (qf103, .inl (cf103, 8, .inl f103)), (qf106, .inl (cf106, 8, .inl f106)), (qf108, .inl (cf108, 8, .inl f108)), (qf137, .inl (cf137, 6, .inl g137_8)), (qf126, .inl (cf126, 1501, .inl g126_8))]) [0, 1, 2, 3, 4, 5, 6, 7, 8, 9, 10, 11, 12, 13, 14, 15, 16, 17] (by decide) rfl
      replace hK := hK.sub (tys' := [(cf109, .int), (cf100, .int), (cf110, .int), (cf111, .int), (cf127, .int), (cf107, .int), (cf102, .int), (cf104, .int), (cf118, .int), (cf119, .int), (cf105, .int), (cf128, .int), (cf103, .int), (cf106, .int), (cf108, .int), (cf137, .int), (cf126, .boolean)]) [0, 1, 2, 3, 4, 5, 6, 7, 8, 9, 10, 11, 12, 13, 14, 15, 16] rfl
      obtain ⟨n_30, hn_30⟩ : ∃ z : Nat, z = nf := ⟨_, rfl⟩
      obtain ⟨l1_30, el1_30⟩ : ∃ z : Int32, z = l1_8 := ⟨_, rfl⟩
      obtain ⟨l2_30, el2_30⟩ : ∃ z : Int32, z = l2_8 := ⟨_, rfl⟩
      obtain ⟨l3_30, el3_30⟩ : ∃ z : Int32, z = 0 := ⟨_, rfl⟩
      obtain ⟨g118_30, eg118_30⟩ : ∃ z : Nat → Int32, z = g118_8 := ⟨_, rfl⟩
      obtain ⟨g119_30, eg119_30⟩ : ∃ z : Nat → Int32, z = g119_8 := ⟨_, rfl⟩
      obtain ⟨g126_30, eg126_30⟩ : ∃ z : Nat → Int32, z = g126_8 := ⟨_, rfl⟩
      obtain ⟨g127_30, eg127_30⟩ : ∃ z : Nat → Int32, z = g127_8 := ⟨_, rfl⟩
      obtain ⟨g128_30, eg128_30⟩ : ∃ z : Nat → Int32, z = g128_8 := ⟨_, rfl⟩
      obtain ⟨g137_30, eg137_30⟩ : ∃ z : Nat → Int32, z = g137_8 := ⟨_, rfl⟩
      obtain ⟨x117_30, ex117_30⟩ : ∃ z : Int32, z = x117_8 := ⟨_, rfl⟩
      obtain ⟨x120_30, ex120_30⟩ : ∃ z : Int32, z = x120_8 := ⟨_, rfl⟩
      obtain ⟨x121_30, ex121_30⟩ : ∃ z : Int32, z = x121_8 := ⟨_, rfl⟩
      obtain ⟨x122_30, ex122_30⟩ : ∃ z : Int32, z = x122_8 := ⟨_, rfl⟩
      obtain ⟨x123_30, ex123_30⟩ : ∃ z : Int32, z = x123_8 := ⟨_, rfl⟩
      obtain ⟨x124_30, ex124_30⟩ : ∃ z : Int32, z = x124_8 := ⟨_, rfl⟩
      obtain ⟨x125_30, ex125_30⟩ : ∃ z : Int32, z = x125_8 := ⟨_, rfl⟩
      obtain ⟨x129_30, ex129_30⟩ : ∃ z : Int32, z = x129_8 := ⟨_, rfl⟩
      obtain ⟨x130_30, ex130_30⟩ : ∃ z : Int32, z = x130_8 := ⟨_, rfl⟩
      obtain ⟨x131_30, ex131_30⟩ : ∃ z : Int32, z = x131_8 := ⟨_, rfl⟩
      obtain ⟨x132_30, ex132_30⟩ : ∃ z : Int32, z = x132_8 := ⟨_, rfl⟩
      obtain ⟨x133_30, ex133_30⟩ : ∃ z : Int32, z = x133_8 := ⟨_, rfl⟩
      obtain ⟨x134_30, ex134_30⟩ : ∃ z : Int32, z = x134_8 := ⟨_, rfl⟩
      obtain ⟨x135_30, ex135_30⟩ : ∃ z : Int32, z = x135_8 := ⟨_, rfl⟩
      obtain ⟨x136_30, ex136_30⟩ : ∃ z : Int32, z = x136_8 := ⟨_, rfl⟩
      replace hsp : lp_vm_methodFits_30 nf n_30 a1 a2 v98 v117 v120 v121 v122 v123 v124 v125 v131 v136 f109 f100 f110 f111 f127 f107 f102 f104 f118 f119 f105 f128 f103 f106 f108 f137 f126 nS477 fS477 l1_30 l2_30 l3_30 g118_30 g119_30 g126_30 g127_30 g128_30 g137_30 x117_30 x120_30 x121_30 x122_30 x123_30 x124_30 x125_30 x129_30 x130_30 x131_30 x132_30 x133_30 x134_30 x135_30 x136_30 = some (r0, o118, o119, o126, o127, o128, o137, w117, w120, w121, w122, w123, w124, w125, w129, w130, w131, w132, w133, w134, w135, w136) := by rw [hn_30, el1_30, el2_30, el3_30, eg118_30, eg119_30, eg126_30, eg127_30, eg128_30, eg137_30, ex117_30, ex120_30, ex121_30, ex122_30, ex123_30, ex124_30, ex125_30, ex129_30, ex130_30, ex131_30, ex132_30, ex133_30, ex134_30, ex135_30, ex136_30]; exact hsp
      replace hl : lv_has ls 8 [(3, .int l3_30), (0, .ref h0), (1, .int l1_30), (2, .int l2_30)] := by rw [el1_30, el2_30, el3_30]; exact hl
      obtain ⟨z30, ez30⟩ : ∃ z : List Value, z = z8 := ⟨_, rfl⟩
      have hfh_30_98 : z30[98]? = some (.int v98) := by rw [ez30]; exact hfh_8_98
      have hfh_30_100 : z30[100]? = some (.ref qf100) := by rw [ez30]; exact hfh_8_100
      have hfh_30_102 : z30[102]? = some (.ref qf102) := by rw [ez30]; exact hfh_8_102
      have hfh_30_103 : z30[103]? = some (.ref qf103) := by rw [ez30]; exact hfh_8_103
      have hfh_30_104 : z30[104]? = some (.ref qf104) := by rw [ez30]; exact hfh_8_104
      have hfh_30_105 : z30[105]? = some (.ref qf105) := by rw [ez30]; exact hfh_8_105
      have hfh_30_106 : z30[106]? = some (.ref qf106) := by rw [ez30]; exact hfh_8_106
      have hfh_30_107 : z30[107]? = some (.ref qf107) := by rw [ez30]; exact hfh_8_107
      have hfh_30_108 : z30[108]? = some (.ref qf108) := by rw [ez30]; exact hfh_8_108
      have hfh_30_109 : z30[109]? = some (.ref qf109) := by rw [ez30]; exact hfh_8_109
      have hfh_30_110 : z30[110]? = some (.ref qf110) := by rw [ez30]; exact hfh_8_110
      have hfh_30_111 : z30[111]? = some (.ref qf111) := by rw [ez30]; exact hfh_8_111
      have hfh_30_117 : z30[117]? = some (.int x117_30) := by rw [ez30, ex117_30]; exact hfh_8_117
      have hfh_30_118 : z30[118]? = some (.ref qf118) := by rw [ez30]; exact hfh_8_118
      have hfh_30_119 : z30[119]? = some (.ref qf119) := by rw [ez30]; exact hfh_8_119
      have hfh_30_120 : z30[120]? = some (.int x120_30) := by rw [ez30, ex120_30]; exact hfh_8_120
      have hfh_30_121 : z30[121]? = some (.int x121_30) := by rw [ez30, ex121_30]; exact hfh_8_121
      have hfh_30_122 : z30[122]? = some (.int x122_30) := by rw [ez30, ex122_30]; exact hfh_8_122
      have hfh_30_123 : z30[123]? = some (.int x123_30) := by rw [ez30, ex123_30]; exact hfh_8_123
      have hfh_30_124 : z30[124]? = some (.int x124_30) := by rw [ez30, ex124_30]; exact hfh_8_124
      have hfh_30_125 : z30[125]? = some (.int x125_30) := by rw [ez30, ex125_30]; exact hfh_8_125
      have hfh_30_126 : z30[126]? = some (.ref qf126) := by rw [ez30]; exact hfh_8_126
      have hfh_30_127 : z30[127]? = some (.ref qf127) := by rw [ez30]; exact hfh_8_127
      have hfh_30_128 : z30[128]? = some (.ref qf128) := by rw [ez30]; exact hfh_8_128
      have hfh_30_129 : z30[129]? = some (.int x129_30) := by rw [ez30, ex129_30]; exact hfh_8_129
      have hfh_30_130 : z30[130]? = some (.int x130_30) := by rw [ez30, ex130_30]; exact hfh_8_130
      have hfh_30_131 : z30[131]? = some (.int x131_30) := by rw [ez30, ex131_30]; exact hfh_8_131
      have hfh_30_132 : z30[132]? = some (.int x132_30) := by rw [ez30, ex132_30]; exact hfh_8_132
      have hfh_30_133 : z30[133]? = some (.int x133_30) := by rw [ez30, ex133_30]; exact hfh_8_133
      have hfh_30_134 : z30[134]? = some (.int x134_30) := by rw [ez30, ex134_30]; exact hfh_8_134
      have hfh_30_135 : z30[135]? = some (.int x135_30) := by rw [ez30, ex135_30]; exact hfh_8_135
      have hfh_30_136 : z30[136]? = some (.int x136_30) := by rw [ez30, ex136_30]; exact hfh_8_136
      have hfh_30_137 : z30[137]? = some (.ref qf137) := by rw [ez30]; exact hfh_8_137
      have hlh_30 : z30.length = 155 := by rw [ez30]; exact hlh_8
      have hrh_30 : ∀ j : Nat, j ≠ 117 → j ≠ 120 → j ≠ 121 → j ≠ 122 → j ≠ 123 → j ≠ 124 → j ≠ 125 → j ≠ 129 → j ≠ 130 → j ≠ 131 → j ≠ 132 → j ≠ 133 → j ≠ 134 → j ≠ 135 → j ≠ 136 → z30[j]? = zs[j]? := by rw [ez30]; exact hrh_8
      replace hP : va_P (dC, dI) vwCl [(h0, .inr (13, z30)), (qf109, .inl (cf109, 96, .inl f109)), (qf100, .inl (cf100, 48000, .inl f100)), (qf110, .inl (cf110, 96, .inl f110)), (qf111, .inl (cf111, 96, .inl f111)), (qf127, .inl (cf127, 30, .inl g127_30)), (qf107, .inl (cf107, 96, .inl f107)), (qf102, .inl (cf102, 2048, .inl f102)), (qf104, .inl (cf104, 8, .inl f104)), (qf118, .inl (cf118, 2100, .inl g118_30)), (qf119, .inl (cf119, 2100, .inl g119_30)), (qf105, .inl (cf105, 8, .inl f105)), (qf128, .inl (cf128, 31, .inl g128_30)), (qf103, .inl (cf103, 8, .inl f103)), (qf106, .inl (cf106, 8, .inl f106)), (qf108, .inl (cf108, 8, .inl f108)), (qf137, .inl (cf137, 6, .inl g137_30)), (qf126, .inl (cf126, 1501, .inl g126_30))] H := by rw [ez30, eg118_30, eg119_30, eg126_30, eg127_30, eg128_30, eg137_30]; exact hP
      replace hD : va_D A [(h0, .inr (13, z30)), (qf109, .inl (cf109, 96, .inl f109)), (qf100, .inl (cf100, 48000, .inl f100)), (qf110, .inl (cf110, 96, .inl f110)), (qf111, .inl (cf111, 96, .inl f111)), (qf127, .inl (cf127, 30, .inl g127_30)), (qf107, .inl (cf107, 96, .inl f107)), (qf102, .inl (cf102, 2048, .inl f102)), (qf104, .inl (cf104, 8, .inl f104)), (qf118, .inl (cf118, 2100, .inl g118_30)), (qf119, .inl (cf119, 2100, .inl g119_30)), (qf105, .inl (cf105, 8, .inl f105)), (qf128, .inl (cf128, 31, .inl g128_30)), (qf103, .inl (cf103, 8, .inl f103)), (qf106, .inl (cf106, 8, .inl f106)), (qf108, .inl (cf108, 8, .inl f108)), (qf137, .inl (cf137, 6, .inl g137_30)), (qf126, .inl (cf126, 1501, .inl g126_30))] := by rw [ez30, eg118_30, eg119_30, eg126_30, eg127_30, eg128_30, eg137_30]; exact hD
      clear hn_30 ez30 el1_30 el2_30 el3_30 eg118_30 eg119_30 eg126_30 eg127_30 eg128_30 eg137_30 ex117_30 ex120_30 ex121_30 ex122_30 ex123_30 ex124_30 ex125_30 ex129_30 ex130_30 ex131_30 ex132_30 ex133_30 ex134_30 ex135_30 ex136_30
      try clear hlo
      try clear hH
      revert hsp
      revert hP
      revert hD
      revert hS
      revert hl
      revert hrh_30
      revert hlh_30
      revert hfh_30_137
      revert hfh_30_136
      revert hfh_30_135
      revert hfh_30_134
      revert hfh_30_133
      revert hfh_30_132
      revert hfh_30_131
      revert hfh_30_130
      revert hfh_30_129
      revert hfh_30_128
      revert hfh_30_127
      revert hfh_30_126
      revert hfh_30_125
      revert hfh_30_124
      revert hfh_30_123
      revert hfh_30_122
      revert hfh_30_121
      revert hfh_30_120
      revert hfh_30_119
      revert hfh_30_118
      revert hfh_30_117
      revert hfh_30_111
      revert hfh_30_110
      revert hfh_30_109
      revert hfh_30_108
      revert hfh_30_107
      revert hfh_30_106
      revert hfh_30_105
      revert hfh_30_104
      revert hfh_30_103
      revert hfh_30_102
      revert hfh_30_100
      revert hfh_30_98
      revert x136_30
      revert x135_30
      revert x134_30
      revert x133_30
      revert x132_30
      revert x131_30
      revert x130_30
      revert x129_30
      revert x125_30
      revert x124_30
      revert x123_30
      revert x122_30
      revert x121_30
      revert x120_30
      revert x117_30
      revert g137_30
      revert g128_30
      revert g127_30
      revert g126_30
      revert g119_30
      revert g118_30
      revert l3_30
      revert l2_30
      revert l1_30
      revert z30
      revert ls
      revert locs
      revert H
      induction n_30 with
      | zero => intro H locs ls z30 l1_30 l2_30 l3_30 g118_30 g119_30 g126_30 g127_30 g128_30 g137_30 x117_30 x120_30 x121_30 x122_30 x123_30 x124_30 x125_30 x129_30 x130_30 x131_30 x132_30 x133_30 x134_30 x135_30 x136_30 hfh_30_98 hfh_30_100 hfh_30_102 hfh_30_103 hfh_30_104 hfh_30_105 hfh_30_106 hfh_30_107 hfh_30_108 hfh_30_109 hfh_30_110 hfh_30_111 hfh_30_117 hfh_30_118 hfh_30_119 hfh_30_120 hfh_30_121 hfh_30_122 hfh_30_123 hfh_30_124 hfh_30_125 hfh_30_126 hfh_30_127 hfh_30_128 hfh_30_129 hfh_30_130 hfh_30_131 hfh_30_132 hfh_30_133 hfh_30_134 hfh_30_135 hfh_30_136 hfh_30_137 hlh_30 hrh_30 hl hS hD hP hsp; unfold lp_vm_methodFits_30 at hsp; cases hsp
      | succ n_30 ih_30 =>
        intro H locs ls z30 l1_30 l2_30 l3_30 g118_30 g119_30 g126_30 g127_30 g128_30 g137_30 x117_30 x120_30 x121_30 x122_30 x123_30 x124_30 x125_30 x129_30 x130_30 x131_30 x132_30 x133_30 x134_30 x135_30 x136_30 hfh_30_98 hfh_30_100 hfh_30_102 hfh_30_103 hfh_30_104 hfh_30_105 hfh_30_106 hfh_30_107 hfh_30_108 hfh_30_109 hfh_30_110 hfh_30_111 hfh_30_117 hfh_30_118 hfh_30_119 hfh_30_120 hfh_30_121 hfh_30_122 hfh_30_123 hfh_30_124 hfh_30_125 hfh_30_126 hfh_30_127 hfh_30_128 hfh_30_129 hfh_30_130 hfh_30_131 hfh_30_132 hfh_30_133 hfh_30_134 hfh_30_135 hfh_30_136 hfh_30_137 hlh_30 hrh_30 hl hS hD hP hsp
        unfold lp_vm_methodFits_30 at hsp
        try dsimp only at hsp
        refine lv_iload_n hx hb dX13_methodFits_30 rfl (lv_at hl 0 rfl) ?_
        refine lv_aload_n hx hb dX13_methodFits_31 rfl (lv_at hl 1 rfl) ?_
        refine va_get (D := (dC, dI)) (ci := 13) (v := .int x135_30) (C := RX13) (T := TX13) (N := 155) hx hb hts uV_h9_X13 hown hK hP 0 rfl rfl 135 (by decide) (hts (.fieldLink RX13 970 "ClassMillModel" "codeSize" "I") mw_h9_546) (fun _ h9 => h9) hfh_30_135 dX13_methodFits_32 ?_
        refine lv_icmp_ge (tgt := 95) hx hb dX13_methodFits_35 (by decide) (fun c_2 => ?_) (fun c_2 => ?_)
        · rw [if_pos c_2] at hsp
          refine lv_iconst (v := 0) hx hb dX13_methodFits_95 (by decide) ?_
          refine lv_istore_n (lv' := [(3, .int 0), (0, .ref h0), (1, .int l1_30), (2, .int l2_30)]) hx hb dX13_methodFits_96 rfl hl (by decide) rfl (fun ls hl => ?_)
          replace hl : lv_has ls 8 [(3, .int 0), (0, .ref h0), (1, .int l1_30), (2, .int l2_30)] := lv_sub hl [0, 1, 2, 3] rfl
          replace hP := hP.sub (ws' := [(h0, .inr (13, z30)), (qf109, .inl (cf109, 96, .inl f109)), (qf100, .inl (cf100, 48000, .inl f100)), (qf110, .inl (cf110, 96, .inl f110)), (qf111, .inl (cf111, 96, .inl f111)), (qf127, .inl (cf127, 30, .inl g127_30)), (qf107, .inl (cf107, 96, .inl f107)), (qf102, .inl (cf102, 2048, .inl f102)), (qf104, .inl (cf104, 8, .inl f104)), (qf118, .inl (cf118, 2100, .inl g118_30)), (qf119, .inl (cf119, 2100, .inl g119_30)), (qf105, .inl (cf105, 8, .inl f105)), (qf128, .inl (cf128, 31, .inl g128_30)), (qf103, .inl (cf103, 8, .inl f103)), (qf106, .inl (cf106, 8, .inl f106)), (qf108, .inl (cf108, 8, .inl f108)), (qf137, .inl (cf137, 6, .inl g137_30)), (qf126, .inl (cf126, 1501, .inl g126_30))]) [0, 1, 2, 3, 4, 5, 6, 7, 8, 9, 10, 11, 12, 13, 14, 15, 16, 17] rfl
          replace hD := hD.sub (ws' := [(h0, .inr (13, z30)), (qf109, .inl (cf109, 96, .inl f109)), (qf100, .inl (cf100, 48000, .inl f100)), (qf110, .inl (cf110, 96, .inl f110)), (qf111, .inl (cf111, 96, .inl f111)), (qf127, .inl (cf127, 30, .inl g127_30)), (qf107, .inl (cf107, 96, .inl f107)), (qf102, .inl (cf102, 2048, .inl f102)), (qf104, .inl (cf104, 8, .inl f104)), (qf118, .inl (cf118, 2100, .inl g118_30)), (qf119, .inl (cf119, 2100, .inl g119_30)), (qf105, .inl (cf105, 8, .inl f105)), (qf128, .inl (cf128, 31, .inl g128_30)), (qf103, .inl (cf103, 8, .inl f103)), (qf106, .inl (cf106, 8, .inl f106)), (qf108, .inl (cf108, 8, .inl f108)), (qf137, .inl (cf137, 6, .inl g137_30)), (qf126, .inl (cf126, 1501, .inl g126_30))]) [0, 1, 2, 3, 4, 5, 6, 7, 8, 9, 10, 11, 12, 13, 14, 15, 16, 17] (by decide) rfl
          replace hK := hK.sub (tys' := [(cf109, .int), (cf100, .int), (cf110, .int), (cf111, .int), (cf127, .int), (cf107, .int), (cf102, .int), (cf104, .int), (cf118, .int), (cf119, .int), (cf105, .int), (cf128, .int), (cf103, .int), (cf106, .int), (cf108, .int), (cf137, .int), (cf126, .boolean)]) [0, 1, 2, 3, 4, 5, 6, 7, 8, 9, 10, 11, 12, 13, 14, 15, 16] rfl
          obtain ⟨n_97, hn_97⟩ : ∃ z : Nat, z = nf := ⟨_, rfl⟩
          obtain ⟨l1_97, el1_97⟩ : ∃ z : Int32, z = l1_30 := ⟨_, rfl⟩
          obtain ⟨l2_97, el2_97⟩ : ∃ z : Int32, z = l2_30 := ⟨_, rfl⟩
          obtain ⟨l3_97, el3_97⟩ : ∃ z : Int32, z = 0 := ⟨_, rfl⟩
          obtain ⟨g118_97, eg118_97⟩ : ∃ z : Nat → Int32, z = g118_30 := ⟨_, rfl⟩
          obtain ⟨g119_97, eg119_97⟩ : ∃ z : Nat → Int32, z = g119_30 := ⟨_, rfl⟩
          obtain ⟨g126_97, eg126_97⟩ : ∃ z : Nat → Int32, z = g126_30 := ⟨_, rfl⟩
          obtain ⟨g127_97, eg127_97⟩ : ∃ z : Nat → Int32, z = g127_30 := ⟨_, rfl⟩
          obtain ⟨g128_97, eg128_97⟩ : ∃ z : Nat → Int32, z = g128_30 := ⟨_, rfl⟩
          obtain ⟨g137_97, eg137_97⟩ : ∃ z : Nat → Int32, z = g137_30 := ⟨_, rfl⟩
          obtain ⟨x117_97, ex117_97⟩ : ∃ z : Int32, z = x117_30 := ⟨_, rfl⟩
          obtain ⟨x120_97, ex120_97⟩ : ∃ z : Int32, z = x120_30 := ⟨_, rfl⟩
          obtain ⟨x121_97, ex121_97⟩ : ∃ z : Int32, z = x121_30 := ⟨_, rfl⟩
          obtain ⟨x122_97, ex122_97⟩ : ∃ z : Int32, z = x122_30 := ⟨_, rfl⟩
          obtain ⟨x123_97, ex123_97⟩ : ∃ z : Int32, z = x123_30 := ⟨_, rfl⟩
          obtain ⟨x124_97, ex124_97⟩ : ∃ z : Int32, z = x124_30 := ⟨_, rfl⟩
          obtain ⟨x125_97, ex125_97⟩ : ∃ z : Int32, z = x125_30 := ⟨_, rfl⟩
          obtain ⟨x129_97, ex129_97⟩ : ∃ z : Int32, z = x129_30 := ⟨_, rfl⟩
          obtain ⟨x130_97, ex130_97⟩ : ∃ z : Int32, z = x130_30 := ⟨_, rfl⟩
          obtain ⟨x131_97, ex131_97⟩ : ∃ z : Int32, z = x131_30 := ⟨_, rfl⟩
          obtain ⟨x132_97, ex132_97⟩ : ∃ z : Int32, z = x132_30 := ⟨_, rfl⟩
          obtain ⟨x133_97, ex133_97⟩ : ∃ z : Int32, z = x133_30 := ⟨_, rfl⟩
          obtain ⟨x134_97, ex134_97⟩ : ∃ z : Int32, z = x134_30 := ⟨_, rfl⟩
          obtain ⟨x135_97, ex135_97⟩ : ∃ z : Int32, z = x135_30 := ⟨_, rfl⟩
          obtain ⟨x136_97, ex136_97⟩ : ∃ z : Int32, z = x136_30 := ⟨_, rfl⟩
          replace hsp : lp_vm_methodFits_97 nf n_97 a1 a2 v98 v117 v120 v121 v122 v123 v124 v125 v131 v136 f109 f100 f110 f111 f127 f107 f102 f104 f118 f119 f105 f128 f103 f106 f108 f137 f126 nS477 fS477 l1_97 l2_97 l3_97 g118_97 g119_97 g126_97 g127_97 g128_97 g137_97 x117_97 x120_97 x121_97 x122_97 x123_97 x124_97 x125_97 x129_97 x130_97 x131_97 x132_97 x133_97 x134_97 x135_97 x136_97 = some (r0, o118, o119, o126, o127, o128, o137, w117, w120, w121, w122, w123, w124, w125, w129, w130, w131, w132, w133, w134, w135, w136) := by rw [hn_97, el1_97, el2_97, el3_97, eg118_97, eg119_97, eg126_97, eg127_97, eg128_97, eg137_97, ex117_97, ex120_97, ex121_97, ex122_97, ex123_97, ex124_97, ex125_97, ex129_97, ex130_97, ex131_97, ex132_97, ex133_97, ex134_97, ex135_97, ex136_97]; exact hsp
          replace hl : lv_has ls 8 [(3, .int l3_97), (0, .ref h0), (1, .int l1_97), (2, .int l2_97)] := by rw [el1_97, el2_97, el3_97]; exact hl
          obtain ⟨z97, ez97⟩ : ∃ z : List Value, z = z30 := ⟨_, rfl⟩
          have hfh_97_98 : z97[98]? = some (.int v98) := by rw [ez97]; exact hfh_30_98
          have hfh_97_100 : z97[100]? = some (.ref qf100) := by rw [ez97]; exact hfh_30_100
          have hfh_97_102 : z97[102]? = some (.ref qf102) := by rw [ez97]; exact hfh_30_102
          have hfh_97_103 : z97[103]? = some (.ref qf103) := by rw [ez97]; exact hfh_30_103
          have hfh_97_104 : z97[104]? = some (.ref qf104) := by rw [ez97]; exact hfh_30_104
          have hfh_97_105 : z97[105]? = some (.ref qf105) := by rw [ez97]; exact hfh_30_105
          have hfh_97_106 : z97[106]? = some (.ref qf106) := by rw [ez97]; exact hfh_30_106
          have hfh_97_107 : z97[107]? = some (.ref qf107) := by rw [ez97]; exact hfh_30_107
          have hfh_97_108 : z97[108]? = some (.ref qf108) := by rw [ez97]; exact hfh_30_108
          have hfh_97_109 : z97[109]? = some (.ref qf109) := by rw [ez97]; exact hfh_30_109
          have hfh_97_110 : z97[110]? = some (.ref qf110) := by rw [ez97]; exact hfh_30_110
          have hfh_97_111 : z97[111]? = some (.ref qf111) := by rw [ez97]; exact hfh_30_111
          have hfh_97_117 : z97[117]? = some (.int x117_97) := by rw [ez97, ex117_97]; exact hfh_30_117
          have hfh_97_118 : z97[118]? = some (.ref qf118) := by rw [ez97]; exact hfh_30_118
          have hfh_97_119 : z97[119]? = some (.ref qf119) := by rw [ez97]; exact hfh_30_119
          have hfh_97_120 : z97[120]? = some (.int x120_97) := by rw [ez97, ex120_97]; exact hfh_30_120
          have hfh_97_121 : z97[121]? = some (.int x121_97) := by rw [ez97, ex121_97]; exact hfh_30_121
          have hfh_97_122 : z97[122]? = some (.int x122_97) := by rw [ez97, ex122_97]; exact hfh_30_122
          have hfh_97_123 : z97[123]? = some (.int x123_97) := by rw [ez97, ex123_97]; exact hfh_30_123
          have hfh_97_124 : z97[124]? = some (.int x124_97) := by rw [ez97, ex124_97]; exact hfh_30_124
          have hfh_97_125 : z97[125]? = some (.int x125_97) := by rw [ez97, ex125_97]; exact hfh_30_125
          have hfh_97_126 : z97[126]? = some (.ref qf126) := by rw [ez97]; exact hfh_30_126
          have hfh_97_127 : z97[127]? = some (.ref qf127) := by rw [ez97]; exact hfh_30_127
          have hfh_97_128 : z97[128]? = some (.ref qf128) := by rw [ez97]; exact hfh_30_128
          have hfh_97_129 : z97[129]? = some (.int x129_97) := by rw [ez97, ex129_97]; exact hfh_30_129
          have hfh_97_130 : z97[130]? = some (.int x130_97) := by rw [ez97, ex130_97]; exact hfh_30_130
          have hfh_97_131 : z97[131]? = some (.int x131_97) := by rw [ez97, ex131_97]; exact hfh_30_131
          have hfh_97_132 : z97[132]? = some (.int x132_97) := by rw [ez97, ex132_97]; exact hfh_30_132
          have hfh_97_133 : z97[133]? = some (.int x133_97) := by rw [ez97, ex133_97]; exact hfh_30_133
          have hfh_97_134 : z97[134]? = some (.int x134_97) := by rw [ez97, ex134_97]; exact hfh_30_134
          have hfh_97_135 : z97[135]? = some (.int x135_97) := by rw [ez97, ex135_97]; exact hfh_30_135
          have hfh_97_136 : z97[136]? = some (.int x136_97) := by rw [ez97, ex136_97]; exact hfh_30_136
          have hfh_97_137 : z97[137]? = some (.ref qf137) := by rw [ez97]; exact hfh_30_137
          have hlh_97 : z97.length = 155 := by rw [ez97]; exact hlh_30
          have hrh_97 : ∀ j : Nat, j ≠ 117 → j ≠ 120 → j ≠ 121 → j ≠ 122 → j ≠ 123 → j ≠ 124 → j ≠ 125 → j ≠ 129 → j ≠ 130 → j ≠ 131 → j ≠ 132 → j ≠ 133 → j ≠ 134 → j ≠ 135 → j ≠ 136 → z97[j]? = zs[j]? := by rw [ez97]; exact hrh_30
          replace hP : va_P (dC, dI) vwCl [(h0, .inr (13, z97)), (qf109, .inl (cf109, 96, .inl f109)), (qf100, .inl (cf100, 48000, .inl f100)), (qf110, .inl (cf110, 96, .inl f110)), (qf111, .inl (cf111, 96, .inl f111)), (qf127, .inl (cf127, 30, .inl g127_97)), (qf107, .inl (cf107, 96, .inl f107)), (qf102, .inl (cf102, 2048, .inl f102)), (qf104, .inl (cf104, 8, .inl f104)), (qf118, .inl (cf118, 2100, .inl g118_97)), (qf119, .inl (cf119, 2100, .inl g119_97)), (qf105, .inl (cf105, 8, .inl f105)), (qf128, .inl (cf128, 31, .inl g128_97)), (qf103, .inl (cf103, 8, .inl f103)), (qf106, .inl (cf106, 8, .inl f106)), (qf108, .inl (cf108, 8, .inl f108)), (qf137, .inl (cf137, 6, .inl g137_97)), (qf126, .inl (cf126, 1501, .inl g126_97))] H := by rw [ez97, eg118_97, eg119_97, eg126_97, eg127_97, eg128_97, eg137_97]; exact hP
          replace hD : va_D A [(h0, .inr (13, z97)), (qf109, .inl (cf109, 96, .inl f109)), (qf100, .inl (cf100, 48000, .inl f100)), (qf110, .inl (cf110, 96, .inl f110)), (qf111, .inl (cf111, 96, .inl f111)), (qf127, .inl (cf127, 30, .inl g127_97)), (qf107, .inl (cf107, 96, .inl f107)), (qf102, .inl (cf102, 2048, .inl f102)), (qf104, .inl (cf104, 8, .inl f104)), (qf118, .inl (cf118, 2100, .inl g118_97)), (qf119, .inl (cf119, 2100, .inl g119_97)), (qf105, .inl (cf105, 8, .inl f105)), (qf128, .inl (cf128, 31, .inl g128_97)), (qf103, .inl (cf103, 8, .inl f103)), (qf106, .inl (cf106, 8, .inl f106)), (qf108, .inl (cf108, 8, .inl f108)), (qf137, .inl (cf137, 6, .inl g137_97)), (qf126, .inl (cf126, 1501, .inl g126_97))] := by rw [ez97, eg118_97, eg119_97, eg126_97, eg127_97, eg128_97, eg137_97]; exact hD
          clear hn_97 ez97 el1_97 el2_97 el3_97 eg118_97 eg119_97 eg126_97 eg127_97 eg128_97 eg137_97 ex117_97 ex120_97 ex121_97 ex122_97 ex123_97 ex124_97 ex125_97 ex129_97 ex130_97 ex131_97 ex132_97 ex133_97 ex134_97 ex135_97 ex136_97
          try clear hlo
          try clear hH
          revert hsp
          revert hP
          revert hD
          revert hS
          revert hl
          revert hrh_97
          revert hlh_97
          revert hfh_97_137
          revert hfh_97_136
          revert hfh_97_135
          revert hfh_97_134
          revert hfh_97_133
          revert hfh_97_132
          revert hfh_97_131
          revert hfh_97_130
          revert hfh_97_129
          revert hfh_97_128
          revert hfh_97_127
          revert hfh_97_126
          revert hfh_97_125
          revert hfh_97_124
          revert hfh_97_123
          revert hfh_97_122
          revert hfh_97_121
          revert hfh_97_120
          revert hfh_97_119
          revert hfh_97_118
          revert hfh_97_117
          revert hfh_97_111
          revert hfh_97_110
          revert hfh_97_109
          revert hfh_97_108
          revert hfh_97_107
          revert hfh_97_106
          revert hfh_97_105
          revert hfh_97_104
          revert hfh_97_103
          revert hfh_97_102
          revert hfh_97_100
          revert hfh_97_98
          revert x136_97
          revert x135_97
          revert x134_97
          revert x133_97
          revert x132_97
          revert x131_97
          revert x130_97
          revert x129_97
          revert x125_97
          revert x124_97
          revert x123_97
          revert x122_97
          revert x121_97
          revert x120_97
          revert x117_97
          revert g137_97
          revert g128_97
          revert g127_97
          revert g126_97
          revert g119_97
          revert g118_97
          revert l3_97
          revert l2_97
          revert l1_97
          revert z97
          revert ls
          revert locs
          revert H
          induction n_97 with
          | zero => intro H locs ls z97 l1_97 l2_97 l3_97 g118_97 g119_97 g126_97 g127_97 g128_97 g137_97 x117_97 x120_97 x121_97 x122_97 x123_97 x124_97 x125_97 x129_97 x130_97 x131_97 x132_97 x133_97 x134_97 x135_97 x136_97 hfh_97_98 hfh_97_100 hfh_97_102 hfh_97_103 hfh_97_104 hfh_97_105 hfh_97_106 hfh_97_107 hfh_97_108 hfh_97_109 hfh_97_110 hfh_97_111 hfh_97_117 hfh_97_118 hfh_97_119 hfh_97_120 hfh_97_121 hfh_97_122 hfh_97_123 hfh_97_124 hfh_97_125 hfh_97_126 hfh_97_127 hfh_97_128 hfh_97_129 hfh_97_130 hfh_97_131 hfh_97_132 hfh_97_133 hfh_97_134 hfh_97_135 hfh_97_136 hfh_97_137 hlh_97 hrh_97 hl hS hD hP hsp; unfold lp_vm_methodFits_97 at hsp; cases hsp
          | succ n_97 ih_97 =>
            intro H locs ls z97 l1_97 l2_97 l3_97 g118_97 g119_97 g126_97 g127_97 g128_97 g137_97 x117_97 x120_97 x121_97 x122_97 x123_97 x124_97 x125_97 x129_97 x130_97 x131_97 x132_97 x133_97 x134_97 x135_97 x136_97 hfh_97_98 hfh_97_100 hfh_97_102 hfh_97_103 hfh_97_104 hfh_97_105 hfh_97_106 hfh_97_107 hfh_97_108 hfh_97_109 hfh_97_110 hfh_97_111 hfh_97_117 hfh_97_118 hfh_97_119 hfh_97_120 hfh_97_121 hfh_97_122 hfh_97_123 hfh_97_124 hfh_97_125 hfh_97_126 hfh_97_127 hfh_97_128 hfh_97_129 hfh_97_130 hfh_97_131 hfh_97_132 hfh_97_133 hfh_97_134 hfh_97_135 hfh_97_136 hfh_97_137 hlh_97 hrh_97 hl hS hD hP hsp
            unfold lp_vm_methodFits_97 at hsp
            try dsimp only at hsp
            refine lv_iload_n hx hb dX13_methodFits_97 rfl (lv_at hl 0 rfl) ?_
            refine lv_aload_n hx hb dX13_methodFits_98 rfl (lv_at hl 1 rfl) ?_
            refine va_get (D := (dC, dI)) (ci := 13) (v := .int x135_97) (C := RX13) (T := TX13) (N := 155) hx hb hts uV_h9_X13 hown hK hP 0 rfl rfl 135 (by decide) (hts (.fieldLink RX13 970 "ClassMillModel" "codeSize" "I") mw_h9_546) (fun _ h9 => h9) hfh_97_135 dX13_methodFits_99 ?_
            refine lv_icmp_ge (tgt := 174) hx hb dX13_methodFits_102 (by decide) (fun c_3 => ?_) (fun c_3 => ?_)
            · rw [if_pos c_3] at hsp
              refine lv_aload_n hx hb dX13_methodFits_174 rfl (lv_at hl 1 rfl) ?_
              refine va_get (D := (dC, dI)) (ci := 13) (v := .ref qf110) (C := RX13) (T := TX13) (N := 155) hx hb hts uV_h9_X13 hown hK hP 0 rfl rfl 110 (by decide) (hts (.fieldLink RX13 239 "ClassMillModel" "handlersAt" "[I") mw_h9_283) (fun _ h9 => h9) hfh_97_110 dX13_methodFits_175 ?_
              refine lv_bipush (v := 12) hx hb dX13_methodFits_178 (by decide) ?_
              refine lv_aload_n hx hb dX13_methodFits_180 rfl (lv_at hl 1 rfl) ?_
              refine va_get (D := (dC, dI)) (ci := 13) (v := .int x132_97) (C := RX13) (T := TX13) (N := 155) hx hb hts uV_h9_X13 hown hK hP 0 rfl rfl 132 (by decide) (hts (.fieldLink RX13 932 "ClassMillModel" "inClass" "I") mw_h9_533) (fun _ h9 => h9) hfh_97_132 dX13_methodFits_181 ?_
              refine lv_imul hx hb dX13_methodFits_184 ?_
              refine lv_iload_n hx hb dX13_methodFits_185 rfl (lv_at hl 3 rfl) ?_
              refine lv_iadd hx hb dX13_methodFits_186 ?_
              obtain ⟨hi_4, hsp⟩ := ox_in hsp
              refine va_iald hx hb hK hP 3 2 rfl rfl (i := ((12 * x132_97) + l2_97)) hi_4 dX13_methodFits_187 ?_
              refine lv_istore_n (lv' := [(3, .int (f110 (((12 * x132_97) + l2_97) : Int32).toNatClampNeg)), (0, .ref h0), (1, .int l1_97), (2, .int l2_97)]) hx hb dX13_methodFits_188 rfl hl (by decide) rfl (fun ls hl => ?_)
              refine lv_iconst (v := 0) hx hb dX13_methodFits_189 (by decide) ?_
              refine lv_istore (lv' := [(4, .int 0), (3, .int (f110 (((12 * x132_97) + l2_97) : Int32).toNatClampNeg)), (0, .ref h0), (1, .int l1_97), (2, .int l2_97)]) hx hb dX13_methodFits_190 hl (by decide) rfl (fun ls hl => ?_)
              replace hl : lv_has ls 8 [(4, .int 0), (3, .int (f110 (((12 * x132_97) + l2_97) : Int32).toNatClampNeg)), (0, .ref h0), (1, .int l1_97), (2, .int l2_97)] := lv_sub hl [0, 1, 2, 3, 4] rfl
              replace hP := hP.sub (ws' := [(h0, .inr (13, z97)), (qf109, .inl (cf109, 96, .inl f109)), (qf100, .inl (cf100, 48000, .inl f100)), (qf110, .inl (cf110, 96, .inl f110)), (qf111, .inl (cf111, 96, .inl f111)), (qf127, .inl (cf127, 30, .inl g127_97)), (qf107, .inl (cf107, 96, .inl f107)), (qf102, .inl (cf102, 2048, .inl f102)), (qf104, .inl (cf104, 8, .inl f104)), (qf118, .inl (cf118, 2100, .inl g118_97)), (qf119, .inl (cf119, 2100, .inl g119_97)), (qf105, .inl (cf105, 8, .inl f105)), (qf128, .inl (cf128, 31, .inl g128_97)), (qf103, .inl (cf103, 8, .inl f103)), (qf106, .inl (cf106, 8, .inl f106)), (qf108, .inl (cf108, 8, .inl f108)), (qf137, .inl (cf137, 6, .inl g137_97)), (qf126, .inl (cf126, 1501, .inl g126_97))]) [0, 1, 2, 3, 4, 5, 6, 7, 8, 9, 10, 11, 12, 13, 14, 15, 16, 17] rfl
              replace hD := hD.sub (ws' := [(h0, .inr (13, z97)), (qf109, .inl (cf109, 96, .inl f109)), (qf100, .inl (cf100, 48000, .inl f100)), (qf110, .inl (cf110, 96, .inl f110)), (qf111, .inl (cf111, 96, .inl f111)), (qf127, .inl (cf127, 30, .inl g127_97)), (qf107, .inl (cf107, 96, .inl f107)), (qf102, .inl (cf102, 2048, .inl f102)), (qf104, .inl (cf104, 8, .inl f104)), (qf118, .inl (cf118, 2100, .inl g118_97)), (qf119, .inl (cf119, 2100, .inl g119_97)), (qf105, .inl (cf105, 8, .inl f105)), (qf128, .inl (cf128, 31, .inl g128_97)), (qf103, .inl (cf103, 8, .inl f103)), (qf106, .inl (cf106, 8, .inl f106)), (qf108, .inl (cf108, 8, .inl f108)), (qf137, .inl (cf137, 6, .inl g137_97)), (qf126, .inl (cf126, 1501, .inl g126_97))]) [0, 1, 2, 3, 4, 5, 6, 7, 8, 9, 10, 11, 12, 13, 14, 15, 16, 17] (by decide) rfl
              replace hK := hK.sub (tys' := [(cf109, .int), (cf100, .int), (cf110, .int), (cf111, .int), (cf127, .int), (cf107, .int), (cf102, .int), (cf104, .int), (cf118, .int), (cf119, .int), (cf105, .int), (cf128, .int), (cf103, .int), (cf106, .int), (cf108, .int), (cf137, .int), (cf126, .boolean)]) [0, 1, 2, 3, 4, 5, 6, 7, 8, 9, 10, 11, 12, 13, 14, 15, 16] rfl
              obtain ⟨n_192, hn_192⟩ : ∃ z : Nat, z = nf := ⟨_, rfl⟩
              obtain ⟨l1_192, el1_192⟩ : ∃ z : Int32, z = l1_97 := ⟨_, rfl⟩
              obtain ⟨l2_192, el2_192⟩ : ∃ z : Int32, z = l2_97 := ⟨_, rfl⟩
              obtain ⟨l3_192, el3_192⟩ : ∃ z : Int32, z = (f110 (((12 * x132_97) + l2_97) : Int32).toNatClampNeg) := ⟨_, rfl⟩
              obtain ⟨l4_192, el4_192⟩ : ∃ z : Int32, z = 0 := ⟨_, rfl⟩
              obtain ⟨g118_192, eg118_192⟩ : ∃ z : Nat → Int32, z = g118_97 := ⟨_, rfl⟩
              obtain ⟨g119_192, eg119_192⟩ : ∃ z : Nat → Int32, z = g119_97 := ⟨_, rfl⟩
              obtain ⟨g126_192, eg126_192⟩ : ∃ z : Nat → Int32, z = g126_97 := ⟨_, rfl⟩
              obtain ⟨g127_192, eg127_192⟩ : ∃ z : Nat → Int32, z = g127_97 := ⟨_, rfl⟩
              obtain ⟨g128_192, eg128_192⟩ : ∃ z : Nat → Int32, z = g128_97 := ⟨_, rfl⟩
              obtain ⟨g137_192, eg137_192⟩ : ∃ z : Nat → Int32, z = g137_97 := ⟨_, rfl⟩
              obtain ⟨x117_192, ex117_192⟩ : ∃ z : Int32, z = x117_97 := ⟨_, rfl⟩
              obtain ⟨x120_192, ex120_192⟩ : ∃ z : Int32, z = x120_97 := ⟨_, rfl⟩
              obtain ⟨x121_192, ex121_192⟩ : ∃ z : Int32, z = x121_97 := ⟨_, rfl⟩
              obtain ⟨x122_192, ex122_192⟩ : ∃ z : Int32, z = x122_97 := ⟨_, rfl⟩
              obtain ⟨x123_192, ex123_192⟩ : ∃ z : Int32, z = x123_97 := ⟨_, rfl⟩
              obtain ⟨x124_192, ex124_192⟩ : ∃ z : Int32, z = x124_97 := ⟨_, rfl⟩
              obtain ⟨x125_192, ex125_192⟩ : ∃ z : Int32, z = x125_97 := ⟨_, rfl⟩
              obtain ⟨x129_192, ex129_192⟩ : ∃ z : Int32, z = x129_97 := ⟨_, rfl⟩
              obtain ⟨x130_192, ex130_192⟩ : ∃ z : Int32, z = x130_97 := ⟨_, rfl⟩
              obtain ⟨x131_192, ex131_192⟩ : ∃ z : Int32, z = x131_97 := ⟨_, rfl⟩
              obtain ⟨x132_192, ex132_192⟩ : ∃ z : Int32, z = x132_97 := ⟨_, rfl⟩
              obtain ⟨x133_192, ex133_192⟩ : ∃ z : Int32, z = x133_97 := ⟨_, rfl⟩
              obtain ⟨x134_192, ex134_192⟩ : ∃ z : Int32, z = x134_97 := ⟨_, rfl⟩
              obtain ⟨x135_192, ex135_192⟩ : ∃ z : Int32, z = x135_97 := ⟨_, rfl⟩
              obtain ⟨x136_192, ex136_192⟩ : ∃ z : Int32, z = x136_97 := ⟨_, rfl⟩
              replace hsp : lp_vm_methodFits_192 nf n_192 a1 a2 v98 v117 v120 v121 v122 v123 v124 v125 v131 v136 f109 f100 f110 f111 f127 f107 f102 f104 f118 f119 f105 f128 f103 f106 f108 f137 f126 nS477 fS477 l1_192 l2_192 l3_192 l4_192 g118_192 g119_192 g126_192 g127_192 g128_192 g137_192 x117_192 x120_192 x121_192 x122_192 x123_192 x124_192 x125_192 x129_192 x130_192 x131_192 x132_192 x133_192 x134_192 x135_192 x136_192 = some (r0, o118, o119, o126, o127, o128, o137, w117, w120, w121, w122, w123, w124, w125, w129, w130, w131, w132, w133, w134, w135, w136) := by rw [hn_192, el1_192, el2_192, el3_192, el4_192, eg118_192, eg119_192, eg126_192, eg127_192, eg128_192, eg137_192, ex117_192, ex120_192, ex121_192, ex122_192, ex123_192, ex124_192, ex125_192, ex129_192, ex130_192, ex131_192, ex132_192, ex133_192, ex134_192, ex135_192, ex136_192]; exact hsp
              replace hl : lv_has ls 8 [(4, .int l4_192), (3, .int l3_192), (0, .ref h0), (1, .int l1_192), (2, .int l2_192)] := by rw [el1_192, el2_192, el3_192, el4_192]; exact hl
              obtain ⟨z192, ez192⟩ : ∃ z : List Value, z = z97 := ⟨_, rfl⟩
              have hfh_192_98 : z192[98]? = some (.int v98) := by rw [ez192]; exact hfh_97_98
              have hfh_192_100 : z192[100]? = some (.ref qf100) := by rw [ez192]; exact hfh_97_100
              have hfh_192_102 : z192[102]? = some (.ref qf102) := by rw [ez192]; exact hfh_97_102
              have hfh_192_103 : z192[103]? = some (.ref qf103) := by rw [ez192]; exact hfh_97_103
              have hfh_192_104 : z192[104]? = some (.ref qf104) := by rw [ez192]; exact hfh_97_104
              have hfh_192_105 : z192[105]? = some (.ref qf105) := by rw [ez192]; exact hfh_97_105
              have hfh_192_106 : z192[106]? = some (.ref qf106) := by rw [ez192]; exact hfh_97_106
              have hfh_192_107 : z192[107]? = some (.ref qf107) := by rw [ez192]; exact hfh_97_107
              have hfh_192_108 : z192[108]? = some (.ref qf108) := by rw [ez192]; exact hfh_97_108
              have hfh_192_109 : z192[109]? = some (.ref qf109) := by rw [ez192]; exact hfh_97_109
              have hfh_192_110 : z192[110]? = some (.ref qf110) := by rw [ez192]; exact hfh_97_110
              have hfh_192_111 : z192[111]? = some (.ref qf111) := by rw [ez192]; exact hfh_97_111
              have hfh_192_117 : z192[117]? = some (.int x117_192) := by rw [ez192, ex117_192]; exact hfh_97_117
              have hfh_192_118 : z192[118]? = some (.ref qf118) := by rw [ez192]; exact hfh_97_118
              have hfh_192_119 : z192[119]? = some (.ref qf119) := by rw [ez192]; exact hfh_97_119
              have hfh_192_120 : z192[120]? = some (.int x120_192) := by rw [ez192, ex120_192]; exact hfh_97_120
              have hfh_192_121 : z192[121]? = some (.int x121_192) := by rw [ez192, ex121_192]; exact hfh_97_121
              have hfh_192_122 : z192[122]? = some (.int x122_192) := by rw [ez192, ex122_192]; exact hfh_97_122
              have hfh_192_123 : z192[123]? = some (.int x123_192) := by rw [ez192, ex123_192]; exact hfh_97_123
              have hfh_192_124 : z192[124]? = some (.int x124_192) := by rw [ez192, ex124_192]; exact hfh_97_124
              have hfh_192_125 : z192[125]? = some (.int x125_192) := by rw [ez192, ex125_192]; exact hfh_97_125
              have hfh_192_126 : z192[126]? = some (.ref qf126) := by rw [ez192]; exact hfh_97_126
              have hfh_192_127 : z192[127]? = some (.ref qf127) := by rw [ez192]; exact hfh_97_127
              have hfh_192_128 : z192[128]? = some (.ref qf128) := by rw [ez192]; exact hfh_97_128
              have hfh_192_129 : z192[129]? = some (.int x129_192) := by rw [ez192, ex129_192]; exact hfh_97_129
              have hfh_192_130 : z192[130]? = some (.int x130_192) := by rw [ez192, ex130_192]; exact hfh_97_130
              have hfh_192_131 : z192[131]? = some (.int x131_192) := by rw [ez192, ex131_192]; exact hfh_97_131
              have hfh_192_132 : z192[132]? = some (.int x132_192) := by rw [ez192, ex132_192]; exact hfh_97_132
              have hfh_192_133 : z192[133]? = some (.int x133_192) := by rw [ez192, ex133_192]; exact hfh_97_133
              have hfh_192_134 : z192[134]? = some (.int x134_192) := by rw [ez192, ex134_192]; exact hfh_97_134
              have hfh_192_135 : z192[135]? = some (.int x135_192) := by rw [ez192, ex135_192]; exact hfh_97_135
              have hfh_192_136 : z192[136]? = some (.int x136_192) := by rw [ez192, ex136_192]; exact hfh_97_136
              have hfh_192_137 : z192[137]? = some (.ref qf137) := by rw [ez192]; exact hfh_97_137
              have hlh_192 : z192.length = 155 := by rw [ez192]; exact hlh_97
              have hrh_192 : ∀ j : Nat, j ≠ 117 → j ≠ 120 → j ≠ 121 → j ≠ 122 → j ≠ 123 → j ≠ 124 → j ≠ 125 → j ≠ 129 → j ≠ 130 → j ≠ 131 → j ≠ 132 → j ≠ 133 → j ≠ 134 → j ≠ 135 → j ≠ 136 → z192[j]? = zs[j]? := by rw [ez192]; exact hrh_97
              replace hP : va_P (dC, dI) vwCl [(h0, .inr (13, z192)), (qf109, .inl (cf109, 96, .inl f109)), (qf100, .inl (cf100, 48000, .inl f100)), (qf110, .inl (cf110, 96, .inl f110)), (qf111, .inl (cf111, 96, .inl f111)), (qf127, .inl (cf127, 30, .inl g127_192)), (qf107, .inl (cf107, 96, .inl f107)), (qf102, .inl (cf102, 2048, .inl f102)), (qf104, .inl (cf104, 8, .inl f104)), (qf118, .inl (cf118, 2100, .inl g118_192)), (qf119, .inl (cf119, 2100, .inl g119_192)), (qf105, .inl (cf105, 8, .inl f105)), (qf128, .inl (cf128, 31, .inl g128_192)), (qf103, .inl (cf103, 8, .inl f103)), (qf106, .inl (cf106, 8, .inl f106)), (qf108, .inl (cf108, 8, .inl f108)), (qf137, .inl (cf137, 6, .inl g137_192)), (qf126, .inl (cf126, 1501, .inl g126_192))] H := by rw [ez192, eg118_192, eg119_192, eg126_192, eg127_192, eg128_192, eg137_192]; exact hP
              replace hD : va_D A [(h0, .inr (13, z192)), (qf109, .inl (cf109, 96, .inl f109)), (qf100, .inl (cf100, 48000, .inl f100)), (qf110, .inl (cf110, 96, .inl f110)), (qf111, .inl (cf111, 96, .inl f111)), (qf127, .inl (cf127, 30, .inl g127_192)), (qf107, .inl (cf107, 96, .inl f107)), (qf102, .inl (cf102, 2048, .inl f102)), (qf104, .inl (cf104, 8, .inl f104)), (qf118, .inl (cf118, 2100, .inl g118_192)), (qf119, .inl (cf119, 2100, .inl g119_192)), (qf105, .inl (cf105, 8, .inl f105)), (qf128, .inl (cf128, 31, .inl g128_192)), (qf103, .inl (cf103, 8, .inl f103)), (qf106, .inl (cf106, 8, .inl f106)), (qf108, .inl (cf108, 8, .inl f108)), (qf137, .inl (cf137, 6, .inl g137_192)), (qf126, .inl (cf126, 1501, .inl g126_192))] := by rw [ez192, eg118_192, eg119_192, eg126_192, eg127_192, eg128_192, eg137_192]; exact hD
              clear hn_192 ez192 el1_192 el2_192 el3_192 el4_192 eg118_192 eg119_192 eg126_192 eg127_192 eg128_192 eg137_192 ex117_192 ex120_192 ex121_192 ex122_192 ex123_192 ex124_192 ex125_192 ex129_192 ex130_192 ex131_192 ex132_192 ex133_192 ex134_192 ex135_192 ex136_192
              try clear hlo
              try clear hH
              revert hsp
              revert hP
              revert hD
              revert hS
              revert hl
              revert hrh_192
              revert hlh_192
              revert hfh_192_137
              revert hfh_192_136
              revert hfh_192_135
              revert hfh_192_134
              revert hfh_192_133
              revert hfh_192_132
              revert hfh_192_131
              revert hfh_192_130
              revert hfh_192_129
              revert hfh_192_128
              revert hfh_192_127
              revert hfh_192_126
              revert hfh_192_125
              revert hfh_192_124
              revert hfh_192_123
              revert hfh_192_122
              revert hfh_192_121
              revert hfh_192_120
              revert hfh_192_119
              revert hfh_192_118
              revert hfh_192_117
              revert hfh_192_111
              revert hfh_192_110
              revert hfh_192_109
              revert hfh_192_108
              revert hfh_192_107
              revert hfh_192_106
              revert hfh_192_105
              revert hfh_192_104
              revert hfh_192_103
              revert hfh_192_102
              revert hfh_192_100
              revert hfh_192_98
              revert x136_192
              revert x135_192
              revert x134_192
              revert x133_192
              revert x132_192
              revert x131_192
              revert x130_192
              revert x129_192
              revert x125_192
              revert x124_192
              revert x123_192
              revert x122_192
              revert x121_192
              revert x120_192
              revert x117_192
              revert g137_192
              revert g128_192
              revert g127_192
              revert g126_192
              revert g119_192
              revert g118_192
              revert l4_192
              revert l3_192
              revert l2_192
              revert l1_192
              revert z192
              revert ls
              revert locs
              revert H
              induction n_192 with
              | zero => intro H locs ls z192 l1_192 l2_192 l3_192 l4_192 g118_192 g119_192 g126_192 g127_192 g128_192 g137_192 x117_192 x120_192 x121_192 x122_192 x123_192 x124_192 x125_192 x129_192 x130_192 x131_192 x132_192 x133_192 x134_192 x135_192 x136_192 hfh_192_98 hfh_192_100 hfh_192_102 hfh_192_103 hfh_192_104 hfh_192_105 hfh_192_106 hfh_192_107 hfh_192_108 hfh_192_109 hfh_192_110 hfh_192_111 hfh_192_117 hfh_192_118 hfh_192_119 hfh_192_120 hfh_192_121 hfh_192_122 hfh_192_123 hfh_192_124 hfh_192_125 hfh_192_126 hfh_192_127 hfh_192_128 hfh_192_129 hfh_192_130 hfh_192_131 hfh_192_132 hfh_192_133 hfh_192_134 hfh_192_135 hfh_192_136 hfh_192_137 hlh_192 hrh_192 hl hS hD hP hsp; unfold lp_vm_methodFits_192 at hsp; cases hsp
              | succ n_192 ih_192 =>
                intro H locs ls z192 l1_192 l2_192 l3_192 l4_192 g118_192 g119_192 g126_192 g127_192 g128_192 g137_192 x117_192 x120_192 x121_192 x122_192 x123_192 x124_192 x125_192 x129_192 x130_192 x131_192 x132_192 x133_192 x134_192 x135_192 x136_192 hfh_192_98 hfh_192_100 hfh_192_102 hfh_192_103 hfh_192_104 hfh_192_105 hfh_192_106 hfh_192_107 hfh_192_108 hfh_192_109 hfh_192_110 hfh_192_111 hfh_192_117 hfh_192_118 hfh_192_119 hfh_192_120 hfh_192_121 hfh_192_122 hfh_192_123 hfh_192_124 hfh_192_125 hfh_192_126 hfh_192_127 hfh_192_128 hfh_192_129 hfh_192_130 hfh_192_131 hfh_192_132 hfh_192_133 hfh_192_134 hfh_192_135 hfh_192_136 hfh_192_137 hlh_192 hrh_192 hl hS hD hP hsp
                unfold lp_vm_methodFits_192 at hsp
                try dsimp only at hsp
                refine lv_iload hx hb dX13_methodFits_192 (lv_at hl 0 rfl) ?_
                refine lv_aload_n hx hb dX13_methodFits_194 rfl (lv_at hl 2 rfl) ?_
                refine lv_aload_n hx hb dX13_methodFits_195 rfl (lv_at hl 2 rfl) ?_
                refine va_get (D := (dC, dI)) (ci := 13) (v := .int x132_192) (C := RX13) (T := TX13) (N := 155) hx hb hts uV_h9_X13 hown hK hP 0 rfl rfl 132 (by decide) (hts (.fieldLink RX13 932 "ClassMillModel" "inClass" "I") mw_h9_533) (fun _ h9 => h9) hfh_192_132 dX13_methodFits_196 ?_
                refine lv_iload_n hx hb dX13_methodFits_199 rfl (lv_at hl 1 rfl) ?_
                obtain ⟨u2_0, hu_2, hsp⟩ := ox_bind hsp
                try dsimp only at hsp
                have hPc := hP.sub (ws' := [(h0, .inr (13, z192)), (qf100, .inl (cf100, 48000, .inl f100))]) [0, 2] rfl
                have hDc := hD.sub (ws' := [(h0, .inr (13, z192)), (qf100, .inl (cf100, 48000, .inl f100))]) [0, 2] (by decide) rfl
                have hKc := hK.sub (tys' := [(cf100, .int)]) [1] rfl
                have hFc := va_free (wc := [(h0, .inr (13, z192)), (qf100, .inl (cf100, 48000, .inl f100))]) hD hS hA [0, 2] rfl
                refine va_calli (va_runV (As := [.int x132_192, .int l3_192]) (rest := [.int l4_192]) ⟨hx, hb, hml, hown, hts⟩ (tm_byteAt l dC dI H.size h0 z192 x132_192 l3_192 qf100 cf100 f100 nf u2_0 hlh_192 hfh_192_100 hu_2) (cwV 2 hts gv_h9_58 rfl rfl rfl (by decide +kernel) ⟨Nat.le_of_ble_eq_true rfl, Nat.le_of_ble_eq_true rfl⟩) ⟨fun a U g mk q => by obtain ⟨q0, q1, qP, qK, qD⟩ := q; exact ⟨q0, q1, qP, va_K.moved (u := U) (U := U.calling g mk a) (Vm.Alike.refl U.vm) qK, qD⟩, va_recv hKc hPc (ci := 13) (q0 := 0) rfl rfl, fun U hU hW => ⟨rfl, by rw [hU], by rw [hU]; exact hPc, va_K.moved hW.alike hKc, hDc.weaken (fun _ _ _ _ => trivial)⟩⟩ rfl rfl hl.1 rfl (lv_room (Nat.le_of_ble_eq_true rfl)) dX13_methodFits_200 ⟨Nat.le_of_ble_eq_true rfl, Nat.le_of_ble_eq_true rfl⟩) hS (fun q _ h => hFc q h) hFc ?_
                clear hS
                intro r_5 u t H1 locs ht hvm hw hB hz1 hk1 hS
                obtain ⟨z_2, rfl⟩ : ∃ z, z = u := ⟨_, rfl⟩
                obtain ⟨hP1, hK1, hD1⟩ := hB
                rw [ht] at hP1
                have hK1 := va_K.moved hvm.symm hK1
                try dsimp only at hw
                have hPD := va_join (wr := [(qf109, .inl (cf109, 96, .inl f109)), (qf110, .inl (cf110, 96, .inl f110)), (qf111, .inl (cf111, 96, .inl f111)), (qf127, .inl (cf127, 30, .inl g127_192)), (qf107, .inl (cf107, 96, .inl f107)), (qf102, .inl (cf102, 2048, .inl f102)), (qf104, .inl (cf104, 8, .inl f104)), (qf118, .inl (cf118, 2100, .inl g118_192)), (qf119, .inl (cf119, 2100, .inl g119_192)), (qf105, .inl (cf105, 8, .inl f105)), (qf128, .inl (cf128, 31, .inl g128_192)), (qf103, .inl (cf103, 8, .inl f103)), (qf106, .inl (cf106, 8, .inl f106)), (qf108, .inl (cf108, 8, .inl f108)), (qf137, .inl (cf137, 6, .inl g137_192)), (qf126, .inl (cf126, 1501, .inl g126_192))]) (w1 := [(h0, .inr (13, z_2)), (qf100, .inl (cf100, 48000, .inl f100))]) hP hD [0, 2] [1, 3, 4, 5, 6, 7, 8, 9, 10, 11, 12, 13, 14, 15, 16, 17] rfl rfl (by decide) (by decide) hk1 hFc hP1 hD1
                clear hP hD
                obtain ⟨hP, hD⟩ := hPD
                replace hK := (hK.sub (tys' := [(cf109, .int), (cf110, .int), (cf111, .int), (cf127, .int), (cf107, .int), (cf102, .int), (cf104, .int), (cf118, .int), (cf119, .int), (cf105, .int), (cf128, .int), (cf103, .int), (cf106, .int), (cf108, .int), (cf137, .int), (cf126, .boolean)]) [0, 2, 3, 4, 5, 6, 7, 8, 9, 10, 11, 12, 13, 14, 15, 16] rfl).app hK1
                clear hPc hDc hKc hFc hP1 hK1 hD1 hz1 hk1 ht hvm
                generalize H1 = H at hP hS ⊢
                replace hP : va_P (dC, dI) vwCl [(qf109, .inl (cf109, 96, .inl f109)), (qf110, .inl (cf110, 96, .inl f110)), (qf111, .inl (cf111, 96, .inl f111)), (qf127, .inl (cf127, 30, .inl g127_192)), (qf107, .inl (cf107, 96, .inl f107)), (qf102, .inl (cf102, 2048, .inl f102)), (qf104, .inl (cf104, 8, .inl f104)), (qf118, .inl (cf118, 2100, .inl g118_192)), (qf119, .inl (cf119, 2100, .inl g119_192)), (qf105, .inl (cf105, 8, .inl f105)), (qf128, .inl (cf128, 31, .inl g128_192)), (qf103, .inl (cf103, 8, .inl f103)), (qf106, .inl (cf106, 8, .inl f106)), (qf108, .inl (cf108, 8, .inl f108)), (qf137, .inl (cf137, 6, .inl g137_192)), (qf126, .inl (cf126, 1501, .inl g126_192)), (h0, .inr (13, z_2)), (qf100, .inl (cf100, 48000, .inl f100))] H := hP
                replace hD : va_D A [(qf109, .inl (cf109, 96, .inl f109)), (qf110, .inl (cf110, 96, .inl f110)), (qf111, .inl (cf111, 96, .inl f111)), (qf127, .inl (cf127, 30, .inl g127_192)), (qf107, .inl (cf107, 96, .inl f107)), (qf102, .inl (cf102, 2048, .inl f102)), (qf104, .inl (cf104, 8, .inl f104)), (qf118, .inl (cf118, 2100, .inl g118_192)), (qf119, .inl (cf119, 2100, .inl g119_192)), (qf105, .inl (cf105, 8, .inl f105)), (qf128, .inl (cf128, 31, .inl g128_192)), (qf103, .inl (cf103, 8, .inl f103)), (qf106, .inl (cf106, 8, .inl f106)), (qf108, .inl (cf108, 8, .inl f108)), (qf137, .inl (cf137, 6, .inl g137_192)), (qf126, .inl (cf126, 1501, .inl g126_192)), (h0, .inr (13, z_2)), (qf100, .inl (cf100, 48000, .inl f100))] := hD
                replace hK : va_K (dC, dI) vwCl [(cf109, .int), (cf110, .int), (cf111, .int), (cf127, .int), (cf107, .int), (cf102, .int), (cf104, .int), (cf118, .int), (cf119, .int), (cf105, .int), (cf128, .int), (cf103, .int), (cf106, .int), (cf108, .int), (cf137, .int), (cf126, .boolean), (cf100, .int)] s := hK
                obtain ⟨hwa_2, hln_2, hre_2⟩ := hw
                have hfk_2_98 : z_2[98]? = some (.int v98) := (hre_2 98 ).trans (hfh_192_98)
                have hfk_2_100 : z_2[100]? = some (.ref qf100) := (hre_2 100 ).trans (hfh_192_100)
                have hfk_2_102 : z_2[102]? = some (.ref qf102) := (hre_2 102 ).trans (hfh_192_102)
                have hfk_2_103 : z_2[103]? = some (.ref qf103) := (hre_2 103 ).trans (hfh_192_103)
                have hfk_2_104 : z_2[104]? = some (.ref qf104) := (hre_2 104 ).trans (hfh_192_104)
                have hfk_2_105 : z_2[105]? = some (.ref qf105) := (hre_2 105 ).trans (hfh_192_105)
                have hfk_2_106 : z_2[106]? = some (.ref qf106) := (hre_2 106 ).trans (hfh_192_106)
                have hfk_2_107 : z_2[107]? = some (.ref qf107) := (hre_2 107 ).trans (hfh_192_107)
                have hfk_2_108 : z_2[108]? = some (.ref qf108) := (hre_2 108 ).trans (hfh_192_108)
                have hfk_2_109 : z_2[109]? = some (.ref qf109) := (hre_2 109 ).trans (hfh_192_109)
                have hfk_2_110 : z_2[110]? = some (.ref qf110) := (hre_2 110 ).trans (hfh_192_110)
                have hfk_2_111 : z_2[111]? = some (.ref qf111) := (hre_2 111 ).trans (hfh_192_111)
                have hfk_2_117 : z_2[117]? = some (.int x117_192) := (hre_2 117 ).trans (hfh_192_117)
                have hfk_2_118 : z_2[118]? = some (.ref qf118) := (hre_2 118 ).trans (hfh_192_118)
                have hfk_2_119 : z_2[119]? = some (.ref qf119) := (hre_2 119 ).trans (hfh_192_119)
                have hfk_2_120 : z_2[120]? = some (.int x120_192) := (hre_2 120 ).trans (hfh_192_120)
                have hfk_2_121 : z_2[121]? = some (.int x121_192) := (hre_2 121 ).trans (hfh_192_121)
                have hfk_2_122 : z_2[122]? = some (.int x122_192) := (hre_2 122 ).trans (hfh_192_122)
                have hfk_2_123 : z_2[123]? = some (.int x123_192) := (hre_2 123 ).trans (hfh_192_123)
                have hfk_2_124 : z_2[124]? = some (.int x124_192) := (hre_2 124 ).trans (hfh_192_124)
                have hfk_2_125 : z_2[125]? = some (.int x125_192) := (hre_2 125 ).trans (hfh_192_125)
                have hfk_2_126 : z_2[126]? = some (.ref qf126) := (hre_2 126 ).trans (hfh_192_126)
                have hfk_2_127 : z_2[127]? = some (.ref qf127) := (hre_2 127 ).trans (hfh_192_127)
                have hfk_2_128 : z_2[128]? = some (.ref qf128) := (hre_2 128 ).trans (hfh_192_128)
                have hfk_2_129 : z_2[129]? = some (.int x129_192) := (hre_2 129 ).trans (hfh_192_129)
                have hfk_2_130 : z_2[130]? = some (.int x130_192) := (hre_2 130 ).trans (hfh_192_130)
                have hfk_2_131 : z_2[131]? = some (.int x131_192) := (hre_2 131 ).trans (hfh_192_131)
                have hfk_2_132 : z_2[132]? = some (.int x132_192) := (hre_2 132 ).trans (hfh_192_132)
                have hfk_2_133 : z_2[133]? = some (.int x133_192) := (hre_2 133 ).trans (hfh_192_133)
                have hfk_2_134 : z_2[134]? = some (.int x134_192) := (hre_2 134 ).trans (hfh_192_134)
                have hfk_2_135 : z_2[135]? = some (.int x135_192) := (hre_2 135 ).trans (hfh_192_135)
                have hfk_2_136 : z_2[136]? = some (.int x136_192) := (hre_2 136 ).trans (hfh_192_136)
                have hfk_2_137 : z_2[137]? = some (.ref qf137) := (hre_2 137 ).trans (hfh_192_137)
                have hrq_2 : ∀ j : Nat, j ≠ 117 → j ≠ 120 → j ≠ 121 → j ≠ 122 → j ≠ 123 → j ≠ 124 → j ≠ 125 → j ≠ 129 → j ≠ 130 → j ≠ 131 → j ≠ 132 → j ≠ 133 → j ≠ 134 → j ≠ 135 → j ≠ 136 → z_2[j]? = zs[j]? := fun j g117 g120 g121 g122 g123 g124 g125 g129 g130 g131 g132 g133 g134 g135 g136 => (hre_2 j ).trans (hrh_192 j g117 g120 g121 g122 g123 g124 g125 g129 g130 g131 g132 g133 g134 g135 g136)
                obtain rfl := hwa_2
                refine lv_icmp_ge (tgt := 239) hx hb dX13_methodFits_203 (by decide) (fun c_6 => ?_) (fun c_6 => ?_)
                · rw [if_pos c_6] at hsp
                  refine lv_iconst (v := (-1)) hx hb dX13_methodFits_239 (by decide) ?_
                  refine lv_istore (lv' := [(4, .int (-1)), (3, .int l3_192), (0, .ref h0), (1, .int l1_192), (2, .int l2_192)]) hx hb dX13_methodFits_240 hl (by decide) rfl (fun ls hl => ?_)
                  refine lv_iconst (v := 0) hx hb dX13_methodFits_242 (by decide) ?_
                  refine lv_istore (lv' := [(5, .int 0), (4, .int (-1)), (3, .int l3_192), (0, .ref h0), (1, .int l1_192), (2, .int l2_192)]) hx hb dX13_methodFits_243 hl (by decide) rfl (fun ls hl => ?_)
                  replace hl : lv_has ls 8 [(5, .int 0), (4, .int (-1)), (0, .ref h0), (1, .int l1_192), (2, .int l2_192)] := lv_sub hl [0, 1, 3, 4, 5] rfl
                  replace hP := hP.sub (ws' := [(h0, .inr (13, z_2)), (qf109, .inl (cf109, 96, .inl f109)), (qf100, .inl (cf100, 48000, .inl f100)), (qf110, .inl (cf110, 96, .inl f110)), (qf111, .inl (cf111, 96, .inl f111)), (qf127, .inl (cf127, 30, .inl g127_192)), (qf107, .inl (cf107, 96, .inl f107)), (qf102, .inl (cf102, 2048, .inl f102)), (qf104, .inl (cf104, 8, .inl f104)), (qf118, .inl (cf118, 2100, .inl g118_192)), (qf119, .inl (cf119, 2100, .inl g119_192)), (qf105, .inl (cf105, 8, .inl f105)), (qf128, .inl (cf128, 31, .inl g128_192)), (qf103, .inl (cf103, 8, .inl f103)), (qf106, .inl (cf106, 8, .inl f106)), (qf108, .inl (cf108, 8, .inl f108)), (qf137, .inl (cf137, 6, .inl g137_192)), (qf126, .inl (cf126, 1501, .inl g126_192))]) [16, 0, 17, 1, 2, 3, 4, 5, 6, 7, 8, 9, 10, 11, 12, 13, 14, 15] rfl
                  replace hD := hD.sub (ws' := [(h0, .inr (13, z_2)), (qf109, .inl (cf109, 96, .inl f109)), (qf100, .inl (cf100, 48000, .inl f100)), (qf110, .inl (cf110, 96, .inl f110)), (qf111, .inl (cf111, 96, .inl f111)), (qf127, .inl (cf127, 30, .inl g127_192)), (qf107, .inl (cf107, 96, .inl f107)), (qf102, .inl (cf102, 2048, .inl f102)), (qf104, .inl (cf104, 8, .inl f104)), (qf118, .inl (cf118, 2100, .inl g118_192)), (qf119, .inl (cf119, 2100, .inl g119_192)), (qf105, .inl (cf105, 8, .inl f105)), (qf128, .inl (cf128, 31, .inl g128_192)), (qf103, .inl (cf103, 8, .inl f103)), (qf106, .inl (cf106, 8, .inl f106)), (qf108, .inl (cf108, 8, .inl f108)), (qf137, .inl (cf137, 6, .inl g137_192)), (qf126, .inl (cf126, 1501, .inl g126_192))]) [16, 0, 17, 1, 2, 3, 4, 5, 6, 7, 8, 9, 10, 11, 12, 13, 14, 15] (by decide) rfl
                  replace hK := hK.sub (tys' := [(cf109, .int), (cf100, .int), (cf110, .int), (cf111, .int), (cf127, .int), (cf107, .int), (cf102, .int), (cf104, .int), (cf118, .int), (cf119, .int), (cf105, .int), (cf128, .int), (cf103, .int), (cf106, .int), (cf108, .int), (cf137, .int), (cf126, .boolean)]) [0, 16, 1, 2, 3, 4, 5, 6, 7, 8, 9, 10, 11, 12, 13, 14, 15] rfl
                  obtain ⟨n_245, hn_245⟩ : ∃ z : Nat, z = nf := ⟨_, rfl⟩
                  obtain ⟨l1_245, el1_245⟩ : ∃ z : Int32, z = l1_192 := ⟨_, rfl⟩
                  obtain ⟨l2_245, el2_245⟩ : ∃ z : Int32, z = l2_192 := ⟨_, rfl⟩
                  obtain ⟨l4_245, el4_245⟩ : ∃ z : Int32, z = (-1) := ⟨_, rfl⟩
                  obtain ⟨l5_245, el5_245⟩ : ∃ z : Int32, z = 0 := ⟨_, rfl⟩
                  obtain ⟨g118_245, eg118_245⟩ : ∃ z : Nat → Int32, z = g118_192 := ⟨_, rfl⟩
                  obtain ⟨g119_245, eg119_245⟩ : ∃ z : Nat → Int32, z = g119_192 := ⟨_, rfl⟩
                  obtain ⟨g126_245, eg126_245⟩ : ∃ z : Nat → Int32, z = g126_192 := ⟨_, rfl⟩
                  obtain ⟨g127_245, eg127_245⟩ : ∃ z : Nat → Int32, z = g127_192 := ⟨_, rfl⟩
                  obtain ⟨g128_245, eg128_245⟩ : ∃ z : Nat → Int32, z = g128_192 := ⟨_, rfl⟩
                  obtain ⟨g137_245, eg137_245⟩ : ∃ z : Nat → Int32, z = g137_192 := ⟨_, rfl⟩
                  obtain ⟨x117_245, ex117_245⟩ : ∃ z : Int32, z = x117_192 := ⟨_, rfl⟩
                  obtain ⟨x120_245, ex120_245⟩ : ∃ z : Int32, z = x120_192 := ⟨_, rfl⟩
                  obtain ⟨x121_245, ex121_245⟩ : ∃ z : Int32, z = x121_192 := ⟨_, rfl⟩
                  obtain ⟨x122_245, ex122_245⟩ : ∃ z : Int32, z = x122_192 := ⟨_, rfl⟩
                  obtain ⟨x123_245, ex123_245⟩ : ∃ z : Int32, z = x123_192 := ⟨_, rfl⟩
                  obtain ⟨x124_245, ex124_245⟩ : ∃ z : Int32, z = x124_192 := ⟨_, rfl⟩
                  obtain ⟨x125_245, ex125_245⟩ : ∃ z : Int32, z = x125_192 := ⟨_, rfl⟩
                  obtain ⟨x129_245, ex129_245⟩ : ∃ z : Int32, z = x129_192 := ⟨_, rfl⟩
                  obtain ⟨x130_245, ex130_245⟩ : ∃ z : Int32, z = x130_192 := ⟨_, rfl⟩
                  obtain ⟨x131_245, ex131_245⟩ : ∃ z : Int32, z = x131_192 := ⟨_, rfl⟩
                  obtain ⟨x132_245, ex132_245⟩ : ∃ z : Int32, z = x132_192 := ⟨_, rfl⟩
                  obtain ⟨x133_245, ex133_245⟩ : ∃ z : Int32, z = x133_192 := ⟨_, rfl⟩
                  obtain ⟨x134_245, ex134_245⟩ : ∃ z : Int32, z = x134_192 := ⟨_, rfl⟩
                  obtain ⟨x135_245, ex135_245⟩ : ∃ z : Int32, z = x135_192 := ⟨_, rfl⟩
                  obtain ⟨x136_245, ex136_245⟩ : ∃ z : Int32, z = x136_192 := ⟨_, rfl⟩
                  replace hsp : lp_vm_methodFits_245 nf n_245 a1 a2 v98 v117 v120 v121 v122 v123 v124 v125 v131 v136 f109 f100 f110 f111 f127 f107 f102 f104 f118 f119 f105 f128 f103 f106 f108 f137 f126 nS477 fS477 l1_245 l2_245 l4_245 l5_245 g118_245 g119_245 g126_245 g127_245 g128_245 g137_245 x117_245 x120_245 x121_245 x122_245 x123_245 x124_245 x125_245 x129_245 x130_245 x131_245 x132_245 x133_245 x134_245 x135_245 x136_245 = some (r0, o118, o119, o126, o127, o128, o137, w117, w120, w121, w122, w123, w124, w125, w129, w130, w131, w132, w133, w134, w135, w136) := by rw [hn_245, el1_245, el2_245, el4_245, el5_245, eg118_245, eg119_245, eg126_245, eg127_245, eg128_245, eg137_245, ex117_245, ex120_245, ex121_245, ex122_245, ex123_245, ex124_245, ex125_245, ex129_245, ex130_245, ex131_245, ex132_245, ex133_245, ex134_245, ex135_245, ex136_245]; exact hsp
                  replace hl : lv_has ls 8 [(5, .int l5_245), (4, .int l4_245), (0, .ref h0), (1, .int l1_245), (2, .int l2_245)] := by rw [el1_245, el2_245, el4_245, el5_245]; exact hl
                  obtain ⟨z245, ez245⟩ : ∃ z : List Value, z = z_2 := ⟨_, rfl⟩
                  have hfh_245_98 : z245[98]? = some (.int v98) := by rw [ez245]; exact hfk_2_98
                  have hfh_245_100 : z245[100]? = some (.ref qf100) := by rw [ez245]; exact hfk_2_100
                  have hfh_245_102 : z245[102]? = some (.ref qf102) := by rw [ez245]; exact hfk_2_102
                  have hfh_245_103 : z245[103]? = some (.ref qf103) := by rw [ez245]; exact hfk_2_103
                  have hfh_245_104 : z245[104]? = some (.ref qf104) := by rw [ez245]; exact hfk_2_104
                  have hfh_245_105 : z245[105]? = some (.ref qf105) := by rw [ez245]; exact hfk_2_105
                  have hfh_245_106 : z245[106]? = some (.ref qf106) := by rw [ez245]; exact hfk_2_106
                  have hfh_245_107 : z245[107]? = some (.ref qf107) := by rw [ez245]; exact hfk_2_107
                  have hfh_245_108 : z245[108]? = some (.ref qf108) := by rw [ez245]; exact hfk_2_108
                  have hfh_245_109 : z245[109]? = some (.ref qf109) := by rw [ez245]; exact hfk_2_109
                  have hfh_245_110 : z245[110]? = some (.ref qf110) := by rw [ez245]; exact hfk_2_110
                  have hfh_245_111 : z245[111]? = some (.ref qf111) := by rw [ez245]; exact hfk_2_111
                  have hfh_245_117 : z245[117]? = some (.int x117_245) := by rw [ez245, ex117_245]; exact hfk_2_117
                  have hfh_245_118 : z245[118]? = some (.ref qf118) := by rw [ez245]; exact hfk_2_118
                  have hfh_245_119 : z245[119]? = some (.ref qf119) := by rw [ez245]; exact hfk_2_119
                  have hfh_245_120 : z245[120]? = some (.int x120_245) := by rw [ez245, ex120_245]; exact hfk_2_120
                  have hfh_245_121 : z245[121]? = some (.int x121_245) := by rw [ez245, ex121_245]; exact hfk_2_121
                  have hfh_245_122 : z245[122]? = some (.int x122_245) := by rw [ez245, ex122_245]; exact hfk_2_122
                  have hfh_245_123 : z245[123]? = some (.int x123_245) := by rw [ez245, ex123_245]; exact hfk_2_123
                  have hfh_245_124 : z245[124]? = some (.int x124_245) := by rw [ez245, ex124_245]; exact hfk_2_124
                  have hfh_245_125 : z245[125]? = some (.int x125_245) := by rw [ez245, ex125_245]; exact hfk_2_125
                  have hfh_245_126 : z245[126]? = some (.ref qf126) := by rw [ez245]; exact hfk_2_126
                  have hfh_245_127 : z245[127]? = some (.ref qf127) := by rw [ez245]; exact hfk_2_127
                  have hfh_245_128 : z245[128]? = some (.ref qf128) := by rw [ez245]; exact hfk_2_128
                  have hfh_245_129 : z245[129]? = some (.int x129_245) := by rw [ez245, ex129_245]; exact hfk_2_129
                  have hfh_245_130 : z245[130]? = some (.int x130_245) := by rw [ez245, ex130_245]; exact hfk_2_130
                  have hfh_245_131 : z245[131]? = some (.int x131_245) := by rw [ez245, ex131_245]; exact hfk_2_131
                  have hfh_245_132 : z245[132]? = some (.int x132_245) := by rw [ez245, ex132_245]; exact hfk_2_132
                  have hfh_245_133 : z245[133]? = some (.int x133_245) := by rw [ez245, ex133_245]; exact hfk_2_133
                  have hfh_245_134 : z245[134]? = some (.int x134_245) := by rw [ez245, ex134_245]; exact hfk_2_134
                  have hfh_245_135 : z245[135]? = some (.int x135_245) := by rw [ez245, ex135_245]; exact hfk_2_135
                  have hfh_245_136 : z245[136]? = some (.int x136_245) := by rw [ez245, ex136_245]; exact hfk_2_136
                  have hfh_245_137 : z245[137]? = some (.ref qf137) := by rw [ez245]; exact hfk_2_137
                  have hlh_245 : z245.length = 155 := by rw [ez245]; exact hln_2
                  have hrh_245 : ∀ j : Nat, j ≠ 117 → j ≠ 120 → j ≠ 121 → j ≠ 122 → j ≠ 123 → j ≠ 124 → j ≠ 125 → j ≠ 129 → j ≠ 130 → j ≠ 131 → j ≠ 132 → j ≠ 133 → j ≠ 134 → j ≠ 135 → j ≠ 136 → z245[j]? = zs[j]? := by rw [ez245]; exact hrq_2
                  replace hP : va_P (dC, dI) vwCl [(h0, .inr (13, z245)), (qf109, .inl (cf109, 96, .inl f109)), (qf100, .inl (cf100, 48000, .inl f100)), (qf110, .inl (cf110, 96, .inl f110)), (qf111, .inl (cf111, 96, .inl f111)), (qf127, .inl (cf127, 30, .inl g127_245)), (qf107, .inl (cf107, 96, .inl f107)), (qf102, .inl (cf102, 2048, .inl f102)), (qf104, .inl (cf104, 8, .inl f104)), (qf118, .inl (cf118, 2100, .inl g118_245)), (qf119, .inl (cf119, 2100, .inl g119_245)), (qf105, .inl (cf105, 8, .inl f105)), (qf128, .inl (cf128, 31, .inl g128_245)), (qf103, .inl (cf103, 8, .inl f103)), (qf106, .inl (cf106, 8, .inl f106)), (qf108, .inl (cf108, 8, .inl f108)), (qf137, .inl (cf137, 6, .inl g137_245)), (qf126, .inl (cf126, 1501, .inl g126_245))] H := by rw [ez245, eg118_245, eg119_245, eg126_245, eg127_245, eg128_245, eg137_245]; exact hP
                  replace hD : va_D A [(h0, .inr (13, z245)), (qf109, .inl (cf109, 96, .inl f109)), (qf100, .inl (cf100, 48000, .inl f100)), (qf110, .inl (cf110, 96, .inl f110)), (qf111, .inl (cf111, 96, .inl f111)), (qf127, .inl (cf127, 30, .inl g127_245)), (qf107, .inl (cf107, 96, .inl f107)), (qf102, .inl (cf102, 2048, .inl f102)), (qf104, .inl (cf104, 8, .inl f104)), (qf118, .inl (cf118, 2100, .inl g118_245)), (qf119, .inl (cf119, 2100, .inl g119_245)), (qf105, .inl (cf105, 8, .inl f105)), (qf128, .inl (cf128, 31, .inl g128_245)), (qf103, .inl (cf103, 8, .inl f103)), (qf106, .inl (cf106, 8, .inl f106)), (qf108, .inl (cf108, 8, .inl f108)), (qf137, .inl (cf137, 6, .inl g137_245)), (qf126, .inl (cf126, 1501, .inl g126_245))] := by rw [ez245, eg118_245, eg119_245, eg126_245, eg127_245, eg128_245, eg137_245]; exact hD
                  clear hn_245 ez245 el1_245 el2_245 el4_245 el5_245 eg118_245 eg119_245 eg126_245 eg127_245 eg128_245 eg137_245 ex117_245 ex120_245 ex121_245 ex122_245 ex123_245 ex124_245 ex125_245 ex129_245 ex130_245 ex131_245 ex132_245 ex133_245 ex134_245 ex135_245 ex136_245
                  try clear hlo
                  try clear hH
                  revert hsp
                  revert hP
                  revert hD
                  revert hS
                  revert hl
                  revert hrh_245
                  revert hlh_245
                  revert hfh_245_137
                  revert hfh_245_136
                  revert hfh_245_135
                  revert hfh_245_134
                  revert hfh_245_133
                  revert hfh_245_132
                  revert hfh_245_131
                  revert hfh_245_130
                  revert hfh_245_129
                  revert hfh_245_128
                  revert hfh_245_127
                  revert hfh_245_126
                  revert hfh_245_125
                  revert hfh_245_124
                  revert hfh_245_123
                  revert hfh_245_122
                  revert hfh_245_121
                  revert hfh_245_120
                  revert hfh_245_119
                  revert hfh_245_118
                  revert hfh_245_117
                  revert hfh_245_111
                  revert hfh_245_110
                  revert hfh_245_109
                  revert hfh_245_108
                  revert hfh_245_107
                  revert hfh_245_106
                  revert hfh_245_105
                  revert hfh_245_104
                  revert hfh_245_103
                  revert hfh_245_102
                  revert hfh_245_100
                  revert hfh_245_98
                  revert x136_245
                  revert x135_245
                  revert x134_245
                  revert x133_245
                  revert x132_245
                  revert x131_245
                  revert x130_245
                  revert x129_245
                  revert x125_245
                  revert x124_245
                  revert x123_245
                  revert x122_245
                  revert x121_245
                  revert x120_245
                  revert x117_245
                  revert g137_245
                  revert g128_245
                  revert g127_245
                  revert g126_245
                  revert g119_245
                  revert g118_245
                  revert l5_245
                  revert l4_245
                  revert l2_245
                  revert l1_245
                  revert z245
                  revert ls
                  revert locs
                  revert H
                  induction n_245 with
                  | zero => intro H locs ls z245 l1_245 l2_245 l4_245 l5_245 g118_245 g119_245 g126_245 g127_245 g128_245 g137_245 x117_245 x120_245 x121_245 x122_245 x123_245 x124_245 x125_245 x129_245 x130_245 x131_245 x132_245 x133_245 x134_245 x135_245 x136_245 hfh_245_98 hfh_245_100 hfh_245_102 hfh_245_103 hfh_245_104 hfh_245_105 hfh_245_106 hfh_245_107 hfh_245_108 hfh_245_109 hfh_245_110 hfh_245_111 hfh_245_117 hfh_245_118 hfh_245_119 hfh_245_120 hfh_245_121 hfh_245_122 hfh_245_123 hfh_245_124 hfh_245_125 hfh_245_126 hfh_245_127 hfh_245_128 hfh_245_129 hfh_245_130 hfh_245_131 hfh_245_132 hfh_245_133 hfh_245_134 hfh_245_135 hfh_245_136 hfh_245_137 hlh_245 hrh_245 hl hS hD hP hsp; unfold lp_vm_methodFits_245 at hsp; cases hsp
                  | succ n_245 ih_245 =>
                    intro H locs ls z245 l1_245 l2_245 l4_245 l5_245 g118_245 g119_245 g126_245 g127_245 g128_245 g137_245 x117_245 x120_245 x121_245 x122_245 x123_245 x124_245 x125_245 x129_245 x130_245 x131_245 x132_245 x133_245 x134_245 x135_245 x136_245 hfh_245_98 hfh_245_100 hfh_245_102 hfh_245_103 hfh_245_104 hfh_245_105 hfh_245_106 hfh_245_107 hfh_245_108 hfh_245_109 hfh_245_110 hfh_245_111 hfh_245_117 hfh_245_118 hfh_245_119 hfh_245_120 hfh_245_121 hfh_245_122 hfh_245_123 hfh_245_124 hfh_245_125 hfh_245_126 hfh_245_127 hfh_245_128 hfh_245_129 hfh_245_130 hfh_245_131 hfh_245_132 hfh_245_133 hfh_245_134 hfh_245_135 hfh_245_136 hfh_245_137 hlh_245 hrh_245 hl hS hD hP hsp
                    unfold lp_vm_methodFits_245 at hsp
                    try dsimp only at hsp
                    refine lv_iload hx hb dX13_methodFits_245 (lv_at hl 0 rfl) ?_
                    refine lv_aload_n hx hb dX13_methodFits_247 rfl (lv_at hl 2 rfl) ?_
                    obtain ⟨u3_0, hu_3, hsp⟩ := ox_bind hsp
                    try dsimp only at hsp
                    have hPc := hP.sub (ws' := [(h0, .inr (13, z245)), (qf111, .inl (cf111, 96, .inl f111)), (qf100, .inl (cf100, 48000, .inl f100))]) [0, 4, 2] rfl
                    have hDc := hD.sub (ws' := [(h0, .inr (13, z245)), (qf111, .inl (cf111, 96, .inl f111)), (qf100, .inl (cf100, 48000, .inl f100))]) [0, 4, 2] (by decide) rfl
                    have hKc := hK.sub (tys' := [(cf111, .int), (cf100, .int)]) [3, 1] rfl
                    have hFc := va_free (wc := [(h0, .inr (13, z245)), (qf111, .inl (cf111, 96, .inl f111)), (qf100, .inl (cf100, 48000, .inl f100))]) hD hS hA [0, 4, 2] rfl
                    refine va_calli (va_runV (As := []) (rest := [.int l5_245]) ⟨hx, hb, hml, hown, hts⟩ (tm_frameMany l dC dI H.size h0 z245 qf100 qf111 x132_245 x133_245 cf111 f111 cf100 f100 nf u3_0 hlh_245 hfh_245_100 hfh_245_111 hfh_245_132 hfh_245_133 hu_3) (cwV 0 hts gv_h9_61 rfl rfl rfl (by decide +kernel) ⟨Nat.le_of_ble_eq_true rfl, Nat.le_of_ble_eq_true rfl⟩) ⟨fun a U g mk q => by obtain ⟨q0, q1, qP, qK, qD⟩ := q; exact ⟨q0, q1, qP, va_K.moved (u := U) (U := U.calling g mk a) (Vm.Alike.refl U.vm) qK, qD⟩, va_recv hKc hPc (ci := 13) (q0 := 0) rfl rfl, fun U hU hW => ⟨rfl, by rw [hU], by rw [hU]; exact hPc, va_K.moved hW.alike hKc, hDc.weaken (fun _ _ _ _ => trivial)⟩⟩ rfl rfl hl.1 rfl (lv_room (Nat.le_of_ble_eq_true rfl)) dX13_methodFits_248 ⟨Nat.le_of_ble_eq_true rfl, Nat.le_of_ble_eq_true rfl⟩) hS (fun q _ h => hFc q h) hFc ?_
                    clear hS
                    intro r_7 u t H1 locs ht hvm hw hB hz1 hk1 hS
                    obtain ⟨z_3, rfl⟩ : ∃ z, z = u := ⟨_, rfl⟩
                    obtain ⟨hP1, hK1, hD1⟩ := hB
                    rw [ht] at hP1
                    have hK1 := va_K.moved hvm.symm hK1
                    try dsimp only at hw
                    have hPD := va_join (wr := [(qf109, .inl (cf109, 96, .inl f109)), (qf110, .inl (cf110, 96, .inl f110)), (qf127, .inl (cf127, 30, .inl g127_245)), (qf107, .inl (cf107, 96, .inl f107)), (qf102, .inl (cf102, 2048, .inl f102)), (qf104, .inl (cf104, 8, .inl f104)), (qf118, .inl (cf118, 2100, .inl g118_245)), (qf119, .inl (cf119, 2100, .inl g119_245)), (qf105, .inl (cf105, 8, .inl f105)), (qf128, .inl (cf128, 31, .inl g128_245)), (qf103, .inl (cf103, 8, .inl f103)), (qf106, .inl (cf106, 8, .inl f106)), (qf108, .inl (cf108, 8, .inl f108)), (qf137, .inl (cf137, 6, .inl g137_245)), (qf126, .inl (cf126, 1501, .inl g126_245))]) (w1 := [(h0, .inr (13, z_3)), (qf111, .inl (cf111, 96, .inl f111)), (qf100, .inl (cf100, 48000, .inl f100))]) hP hD [0, 4, 2] [1, 3, 5, 6, 7, 8, 9, 10, 11, 12, 13, 14, 15, 16, 17] rfl rfl (by decide) (by decide) hk1 hFc hP1 hD1
                    clear hP hD
                    obtain ⟨hP, hD⟩ := hPD
                    replace hK := (hK.sub (tys' := [(cf109, .int), (cf110, .int), (cf127, .int), (cf107, .int), (cf102, .int), (cf104, .int), (cf118, .int), (cf119, .int), (cf105, .int), (cf128, .int), (cf103, .int), (cf106, .int), (cf108, .int), (cf137, .int), (cf126, .boolean)]) [0, 2, 4, 5, 6, 7, 8, 9, 10, 11, 12, 13, 14, 15, 16] rfl).app hK1
                    clear hPc hDc hKc hFc hP1 hK1 hD1 hz1 hk1 ht hvm
                    generalize H1 = H at hP hS ⊢
                    replace hP : va_P (dC, dI) vwCl [(qf109, .inl (cf109, 96, .inl f109)), (qf110, .inl (cf110, 96, .inl f110)), (qf127, .inl (cf127, 30, .inl g127_245)), (qf107, .inl (cf107, 96, .inl f107)), (qf102, .inl (cf102, 2048, .inl f102)), (qf104, .inl (cf104, 8, .inl f104)), (qf118, .inl (cf118, 2100, .inl g118_245)), (qf119, .inl (cf119, 2100, .inl g119_245)), (qf105, .inl (cf105, 8, .inl f105)), (qf128, .inl (cf128, 31, .inl g128_245)), (qf103, .inl (cf103, 8, .inl f103)), (qf106, .inl (cf106, 8, .inl f106)), (qf108, .inl (cf108, 8, .inl f108)), (qf137, .inl (cf137, 6, .inl g137_245)), (qf126, .inl (cf126, 1501, .inl g126_245)), (h0, .inr (13, z_3)), (qf111, .inl (cf111, 96, .inl f111)), (qf100, .inl (cf100, 48000, .inl f100))] H := hP
                    replace hD : va_D A [(qf109, .inl (cf109, 96, .inl f109)), (qf110, .inl (cf110, 96, .inl f110)), (qf127, .inl (cf127, 30, .inl g127_245)), (qf107, .inl (cf107, 96, .inl f107)), (qf102, .inl (cf102, 2048, .inl f102)), (qf104, .inl (cf104, 8, .inl f104)), (qf118, .inl (cf118, 2100, .inl g118_245)), (qf119, .inl (cf119, 2100, .inl g119_245)), (qf105, .inl (cf105, 8, .inl f105)), (qf128, .inl (cf128, 31, .inl g128_245)), (qf103, .inl (cf103, 8, .inl f103)), (qf106, .inl (cf106, 8, .inl f106)), (qf108, .inl (cf108, 8, .inl f108)), (qf137, .inl (cf137, 6, .inl g137_245)), (qf126, .inl (cf126, 1501, .inl g126_245)), (h0, .inr (13, z_3)), (qf111, .inl (cf111, 96, .inl f111)), (qf100, .inl (cf100, 48000, .inl f100))] := hD
                    replace hK : va_K (dC, dI) vwCl [(cf109, .int), (cf110, .int), (cf127, .int), (cf107, .int), (cf102, .int), (cf104, .int), (cf118, .int), (cf119, .int), (cf105, .int), (cf128, .int), (cf103, .int), (cf106, .int), (cf108, .int), (cf137, .int), (cf126, .boolean), (cf111, .int), (cf100, .int)] s := hK
                    obtain ⟨hwa_3, hln_3, hre_3⟩ := hw
                    have hfk_3_98 : z_3[98]? = some (.int v98) := (hre_3 98 ).trans (hfh_245_98)
                    have hfk_3_100 : z_3[100]? = some (.ref qf100) := (hre_3 100 ).trans (hfh_245_100)
                    have hfk_3_102 : z_3[102]? = some (.ref qf102) := (hre_3 102 ).trans (hfh_245_102)
                    have hfk_3_103 : z_3[103]? = some (.ref qf103) := (hre_3 103 ).trans (hfh_245_103)
                    have hfk_3_104 : z_3[104]? = some (.ref qf104) := (hre_3 104 ).trans (hfh_245_104)
                    have hfk_3_105 : z_3[105]? = some (.ref qf105) := (hre_3 105 ).trans (hfh_245_105)
                    have hfk_3_106 : z_3[106]? = some (.ref qf106) := (hre_3 106 ).trans (hfh_245_106)
                    have hfk_3_107 : z_3[107]? = some (.ref qf107) := (hre_3 107 ).trans (hfh_245_107)
                    have hfk_3_108 : z_3[108]? = some (.ref qf108) := (hre_3 108 ).trans (hfh_245_108)
                    have hfk_3_109 : z_3[109]? = some (.ref qf109) := (hre_3 109 ).trans (hfh_245_109)
                    have hfk_3_110 : z_3[110]? = some (.ref qf110) := (hre_3 110 ).trans (hfh_245_110)
                    have hfk_3_111 : z_3[111]? = some (.ref qf111) := (hre_3 111 ).trans (hfh_245_111)
                    have hfk_3_117 : z_3[117]? = some (.int x117_245) := (hre_3 117 ).trans (hfh_245_117)
                    have hfk_3_118 : z_3[118]? = some (.ref qf118) := (hre_3 118 ).trans (hfh_245_118)
                    have hfk_3_119 : z_3[119]? = some (.ref qf119) := (hre_3 119 ).trans (hfh_245_119)
                    have hfk_3_120 : z_3[120]? = some (.int x120_245) := (hre_3 120 ).trans (hfh_245_120)
                    have hfk_3_121 : z_3[121]? = some (.int x121_245) := (hre_3 121 ).trans (hfh_245_121)
                    have hfk_3_122 : z_3[122]? = some (.int x122_245) := (hre_3 122 ).trans (hfh_245_122)
                    have hfk_3_123 : z_3[123]? = some (.int x123_245) := (hre_3 123 ).trans (hfh_245_123)
                    have hfk_3_124 : z_3[124]? = some (.int x124_245) := (hre_3 124 ).trans (hfh_245_124)
                    have hfk_3_125 : z_3[125]? = some (.int x125_245) := (hre_3 125 ).trans (hfh_245_125)
                    have hfk_3_126 : z_3[126]? = some (.ref qf126) := (hre_3 126 ).trans (hfh_245_126)
                    have hfk_3_127 : z_3[127]? = some (.ref qf127) := (hre_3 127 ).trans (hfh_245_127)
                    have hfk_3_128 : z_3[128]? = some (.ref qf128) := (hre_3 128 ).trans (hfh_245_128)
                    have hfk_3_129 : z_3[129]? = some (.int x129_245) := (hre_3 129 ).trans (hfh_245_129)
                    have hfk_3_130 : z_3[130]? = some (.int x130_245) := (hre_3 130 ).trans (hfh_245_130)
                    have hfk_3_131 : z_3[131]? = some (.int x131_245) := (hre_3 131 ).trans (hfh_245_131)
                    have hfk_3_132 : z_3[132]? = some (.int x132_245) := (hre_3 132 ).trans (hfh_245_132)
                    have hfk_3_133 : z_3[133]? = some (.int x133_245) := (hre_3 133 ).trans (hfh_245_133)
                    have hfk_3_134 : z_3[134]? = some (.int x134_245) := (hre_3 134 ).trans (hfh_245_134)
                    have hfk_3_135 : z_3[135]? = some (.int x135_245) := (hre_3 135 ).trans (hfh_245_135)
                    have hfk_3_136 : z_3[136]? = some (.int x136_245) := (hre_3 136 ).trans (hfh_245_136)
                    have hfk_3_137 : z_3[137]? = some (.ref qf137) := (hre_3 137 ).trans (hfh_245_137)
                    have hrq_3 : ∀ j : Nat, j ≠ 117 → j ≠ 120 → j ≠ 121 → j ≠ 122 → j ≠ 123 → j ≠ 124 → j ≠ 125 → j ≠ 129 → j ≠ 130 → j ≠ 131 → j ≠ 132 → j ≠ 133 → j ≠ 134 → j ≠ 135 → j ≠ 136 → z_3[j]? = zs[j]? := fun j g117 g120 g121 g122 g123 g124 g125 g129 g130 g131 g132 g133 g134 g135 g136 => (hre_3 j ).trans (hrh_245 j g117 g120 g121 g122 g123 g124 g125 g129 g130 g131 g132 g133 g134 g135 g136)
                    obtain rfl := hwa_3
                    refine lv_icmp_ge (tgt := 326) hx hb dX13_methodFits_251 (by decide) (fun c_8 => ?_) (fun c_8 => ?_)
                    · rw [if_pos c_8] at hsp
                      refine lv_aload_n hx hb dX13_methodFits_326 rfl (lv_at hl 2 rfl) ?_
                      refine lv_iload_n hx hb dX13_methodFits_327 rfl (lv_at hl 3 rfl) ?_
                      refine lv_iload_n hx hb dX13_methodFits_328 rfl (lv_at hl 4 rfl) ?_
                      obtain ⟨⟨u4_0, g904_1, g904_2, g904_3, g904_4, g904_5, u4_6, u4_7, u4_8, u4_9, u4_10, u4_11, u4_12, u4_13, u4_14⟩, hu_4, hsp⟩ := ox_bind hsp
                      try dsimp only at hsp
                      have hPc := hP.sub (ws' := [(h0, .inr (13, z_3)), (qf109, .inl (cf109, 96, .inl f109)), (qf100, .inl (cf100, 48000, .inl f100)), (qf127, .inl (cf127, 30, .inl g127_245)), (qf107, .inl (cf107, 96, .inl f107)), (qf102, .inl (cf102, 2048, .inl f102)), (qf111, .inl (cf111, 96, .inl f111)), (qf104, .inl (cf104, 8, .inl f104)), (qf118, .inl (cf118, 2100, .inl g118_245)), (qf119, .inl (cf119, 2100, .inl g119_245)), (qf105, .inl (cf105, 8, .inl f105)), (qf128, .inl (cf128, 31, .inl g128_245)), (qf110, .inl (cf110, 96, .inl f110)), (qf103, .inl (cf103, 8, .inl f103)), (qf106, .inl (cf106, 8, .inl f106)), (qf108, .inl (cf108, 8, .inl f108)), (qf137, .inl (cf137, 6, .inl g137_245))]) [15, 0, 17, 2, 3, 4, 16, 5, 6, 7, 8, 9, 1, 10, 11, 12, 13] rfl
                      have hDc := hD.sub (ws' := [(h0, .inr (13, z_3)), (qf109, .inl (cf109, 96, .inl f109)), (qf100, .inl (cf100, 48000, .inl f100)), (qf127, .inl (cf127, 30, .inl g127_245)), (qf107, .inl (cf107, 96, .inl f107)), (qf102, .inl (cf102, 2048, .inl f102)), (qf111, .inl (cf111, 96, .inl f111)), (qf104, .inl (cf104, 8, .inl f104)), (qf118, .inl (cf118, 2100, .inl g118_245)), (qf119, .inl (cf119, 2100, .inl g119_245)), (qf105, .inl (cf105, 8, .inl f105)), (qf128, .inl (cf128, 31, .inl g128_245)), (qf110, .inl (cf110, 96, .inl f110)), (qf103, .inl (cf103, 8, .inl f103)), (qf106, .inl (cf106, 8, .inl f106)), (qf108, .inl (cf108, 8, .inl f108)), (qf137, .inl (cf137, 6, .inl g137_245))]) [15, 0, 17, 2, 3, 4, 16, 5, 6, 7, 8, 9, 1, 10, 11, 12, 13] (by decide) rfl
                      have hKc := hK.sub (tys' := [(cf109, .int), (cf100, .int), (cf127, .int), (cf107, .int), (cf102, .int), (cf111, .int), (cf104, .int), (cf118, .int), (cf119, .int), (cf105, .int), (cf128, .int), (cf110, .int), (cf103, .int), (cf106, .int), (cf108, .int), (cf137, .int)]) [0, 16, 2, 3, 4, 15, 5, 6, 7, 8, 9, 1, 10, 11, 12, 13] rfl
                      have hFc := va_free (wc := [(h0, .inr (13, z_3)), (qf109, .inl (cf109, 96, .inl f109)), (qf100, .inl (cf100, 48000, .inl f100)), (qf127, .inl (cf127, 30, .inl g127_245)), (qf107, .inl (cf107, 96, .inl f107)), (qf102, .inl (cf102, 2048, .inl f102)), (qf111, .inl (cf111, 96, .inl f111)), (qf104, .inl (cf104, 8, .inl f104)), (qf118, .inl (cf118, 2100, .inl g118_245)), (qf119, .inl (cf119, 2100, .inl g119_245)), (qf105, .inl (cf105, 8, .inl f105)), (qf128, .inl (cf128, 31, .inl g128_245)), (qf110, .inl (cf110, 96, .inl f110)), (qf103, .inl (cf103, 8, .inl f103)), (qf106, .inl (cf106, 8, .inl f106)), (qf108, .inl (cf108, 8, .inl f108)), (qf137, .inl (cf137, 6, .inl g137_245))]) hD hS hA [15, 0, 17, 2, 3, 4, 16, 5, 6, 7, 8, 9, 1, 10, 11, 12, 13] rfl
                      refine va_calli (va_runV (As := [.int l1_245, .int l2_245]) (rest := []) ⟨hx, hb, hml, hown, hts⟩ (vm_flows l dC dI H.size h0 z_3 l1_245 l2_245 v98 qf100 qf102 qf103 qf104 qf105 qf106 qf107 qf108 qf109 qf110 qf111 x117_245 qf118 qf119 x120_245 x121_245 x122_245 x123_245 x124_245 x125_245 qf127 qf128 x129_245 x130_245 x131_245 x132_245 x133_245 x134_245 x135_245 x136_245 qf137 cf109 f109 cf100 f100 cf127 g127_245 cf107 f107 cf102 f102 cf111 f111 cf104 f104 cf118 g118_245 cf119 g119_245 cf105 f105 cf128 g128_245 cf110 f110 cf103 f103 cf106 f106 cf108 f108 cf137 g137_245 nS477 fS477 hS477 qS477 tS477 nf u4_0 g904_1 g904_2 g904_3 g904_4 g904_5 u4_6 u4_7 u4_8 u4_9 u4_10 u4_11 u4_12 u4_13 u4_14 hln_3 hfk_3_98 hfk_3_100 hfk_3_102 hfk_3_103 hfk_3_104 hfk_3_105 hfk_3_106 hfk_3_107 hfk_3_108 hfk_3_109 hfk_3_110 hfk_3_111 hfk_3_117 hfk_3_118 hfk_3_119 hfk_3_120 hfk_3_121 hfk_3_122 hfk_3_123 hfk_3_124 hfk_3_125 hfk_3_127 hfk_3_128 hfk_3_129 hfk_3_130 hfk_3_131 hfk_3_132 hfk_3_133 hfk_3_134 hfk_3_135 hfk_3_136 hfk_3_137 hu_4) (cwV 2 hts gv_h9_130 rfl rfl rfl (by decide +kernel) ⟨Nat.le_of_ble_eq_true rfl, Nat.le_of_ble_eq_true rfl⟩) ⟨fun a U g mk q => by obtain ⟨q0, q1, qP, qK, qD, qhZWS477, qhZRS477⟩ := q; exact ⟨q0, q1, qP, va_K.moved (u := U) (U := U.calling g mk a) (Vm.Alike.refl U.vm) qK, qD, pz_W.moved (u := U) (U := U.calling g mk a) (Vm.Alike.refl U.vm) qhZWS477, vk_R.same rfl qhZRS477⟩, va_recv hKc hPc (ci := 13) (q0 := 0) rfl rfl, fun U hU hW => ⟨rfl, by rw [hU], by rw [hU]; exact hPc, va_K.moved hW.alike hKc, hDc.weaken (fun _ _ _ _ => trivial), by rw [hU]; exact ((pz_W.moved hW.alike hZWS477).kept hS.2.1).narrow hFc, vk_R.warm hW hZRS477⟩⟩ rfl rfl hl.1 rfl (lv_room (Nat.le_of_ble_eq_true rfl)) dX13_methodFits_329 ⟨Nat.le_of_ble_eq_true rfl, Nat.le_of_ble_eq_true rfl⟩) hS (fun q _ h => hFc q h) hFc ?_
                      clear hS
                      intro r_9 u t H1 locs ht hvm hw hB hz1 hk1 hS
                      obtain ⟨z_4, rfl⟩ : ∃ z, z = u := ⟨_, rfl⟩
                      obtain ⟨hP1, hK1, hD1⟩ := hB
                      rw [ht] at hP1
                      have hK1 := va_K.moved hvm.symm hK1
                      try dsimp only at hw
                      have hPD := va_join (wr := [(qf126, .inl (cf126, 1501, .inl g126_245))]) (w1 := [(h0, .inr (13, z_4)), (qf109, .inl (cf109, 96, .inl f109)), (qf100, .inl (cf100, 48000, .inl f100)), (qf127, .inl (cf127, 30, .inl g904_3)), (qf107, .inl (cf107, 96, .inl f107)), (qf102, .inl (cf102, 2048, .inl f102)), (qf111, .inl (cf111, 96, .inl f111)), (qf104, .inl (cf104, 8, .inl f104)), (qf118, .inl (cf118, 2100, .inl g904_1)), (qf119, .inl (cf119, 2100, .inl g904_2)), (qf105, .inl (cf105, 8, .inl f105)), (qf128, .inl (cf128, 31, .inl g904_4)), (qf110, .inl (cf110, 96, .inl f110)), (qf103, .inl (cf103, 8, .inl f103)), (qf106, .inl (cf106, 8, .inl f106)), (qf108, .inl (cf108, 8, .inl f108)), (qf137, .inl (cf137, 6, .inl g904_5))]) hP hD [15, 0, 17, 2, 3, 4, 16, 5, 6, 7, 8, 9, 1, 10, 11, 12, 13] [14] rfl rfl (by decide) (by decide) hk1 hFc hP1 hD1
                      clear hP hD
                      obtain ⟨hP, hD⟩ := hPD
                      replace hK := (hK.sub (tys' := [(cf126, .boolean)]) [14] rfl).app hK1
                      clear hPc hDc hKc hFc hP1 hK1 hD1 hz1 hk1 ht hvm
                      generalize H1 = H at hP hS ⊢
                      replace hP : va_P (dC, dI) vwCl [(qf126, .inl (cf126, 1501, .inl g126_245)), (h0, .inr (13, z_4)), (qf109, .inl (cf109, 96, .inl f109)), (qf100, .inl (cf100, 48000, .inl f100)), (qf127, .inl (cf127, 30, .inl g904_3)), (qf107, .inl (cf107, 96, .inl f107)), (qf102, .inl (cf102, 2048, .inl f102)), (qf111, .inl (cf111, 96, .inl f111)), (qf104, .inl (cf104, 8, .inl f104)), (qf118, .inl (cf118, 2100, .inl g904_1)), (qf119, .inl (cf119, 2100, .inl g904_2)), (qf105, .inl (cf105, 8, .inl f105)), (qf128, .inl (cf128, 31, .inl g904_4)), (qf110, .inl (cf110, 96, .inl f110)), (qf103, .inl (cf103, 8, .inl f103)), (qf106, .inl (cf106, 8, .inl f106)), (qf108, .inl (cf108, 8, .inl f108)), (qf137, .inl (cf137, 6, .inl g904_5))] H := hP
                      replace hD : va_D A [(qf126, .inl (cf126, 1501, .inl g126_245)), (h0, .inr (13, z_4)), (qf109, .inl (cf109, 96, .inl f109)), (qf100, .inl (cf100, 48000, .inl f100)), (qf127, .inl (cf127, 30, .inl g904_3)), (qf107, .inl (cf107, 96, .inl f107)), (qf102, .inl (cf102, 2048, .inl f102)), (qf111, .inl (cf111, 96, .inl f111)), (qf104, .inl (cf104, 8, .inl f104)), (qf118, .inl (cf118, 2100, .inl g904_1)), (qf119, .inl (cf119, 2100, .inl g904_2)), (qf105, .inl (cf105, 8, .inl f105)), (qf128, .inl (cf128, 31, .inl g904_4)), (qf110, .inl (cf110, 96, .inl f110)), (qf103, .inl (cf103, 8, .inl f103)), (qf106, .inl (cf106, 8, .inl f106)), (qf108, .inl (cf108, 8, .inl f108)), (qf137, .inl (cf137, 6, .inl g904_5))] := hD
                      replace hK : va_K (dC, dI) vwCl [(cf126, .boolean), (cf109, .int), (cf100, .int), (cf127, .int), (cf107, .int), (cf102, .int), (cf111, .int), (cf104, .int), (cf118, .int), (cf119, .int), (cf105, .int), (cf128, .int), (cf110, .int), (cf103, .int), (cf106, .int), (cf108, .int), (cf137, .int)] s := hK
                      obtain ⟨hwa_4, hln_4, hre_4, hch_4_117, hch_4_120, hch_4_121, hch_4_122, hch_4_123, hch_4_124, hch_4_125, hch_4_131, hch_4_136⟩ := hw
                      have hfk_4_98 : z_4[98]? = some (.int v98) := (hre_4 98 (by decide) (by decide) (by decide) (by decide) (by decide) (by decide) (by decide) (by decide) (by decide)).trans (hfk_3_98)
                      have hfk_4_100 : z_4[100]? = some (.ref qf100) := (hre_4 100 (by decide) (by decide) (by decide) (by decide) (by decide) (by decide) (by decide) (by decide) (by decide)).trans (hfk_3_100)
                      have hfk_4_102 : z_4[102]? = some (.ref qf102) := (hre_4 102 (by decide) (by decide) (by decide) (by decide) (by decide) (by decide) (by decide) (by decide) (by decide)).trans (hfk_3_102)
                      have hfk_4_103 : z_4[103]? = some (.ref qf103) := (hre_4 103 (by decide) (by decide) (by decide) (by decide) (by decide) (by decide) (by decide) (by decide) (by decide)).trans (hfk_3_103)
                      have hfk_4_104 : z_4[104]? = some (.ref qf104) := (hre_4 104 (by decide) (by decide) (by decide) (by decide) (by decide) (by decide) (by decide) (by decide) (by decide)).trans (hfk_3_104)
                      have hfk_4_105 : z_4[105]? = some (.ref qf105) := (hre_4 105 (by decide) (by decide) (by decide) (by decide) (by decide) (by decide) (by decide) (by decide) (by decide)).trans (hfk_3_105)
                      have hfk_4_106 : z_4[106]? = some (.ref qf106) := (hre_4 106 (by decide) (by decide) (by decide) (by decide) (by decide) (by decide) (by decide) (by decide) (by decide)).trans (hfk_3_106)
                      have hfk_4_107 : z_4[107]? = some (.ref qf107) := (hre_4 107 (by decide) (by decide) (by decide) (by decide) (by decide) (by decide) (by decide) (by decide) (by decide)).trans (hfk_3_107)
                      have hfk_4_108 : z_4[108]? = some (.ref qf108) := (hre_4 108 (by decide) (by decide) (by decide) (by decide) (by decide) (by decide) (by decide) (by decide) (by decide)).trans (hfk_3_108)
                      have hfk_4_109 : z_4[109]? = some (.ref qf109) := (hre_4 109 (by decide) (by decide) (by decide) (by decide) (by decide) (by decide) (by decide) (by decide) (by decide)).trans (hfk_3_109)
                      have hfk_4_110 : z_4[110]? = some (.ref qf110) := (hre_4 110 (by decide) (by decide) (by decide) (by decide) (by decide) (by decide) (by decide) (by decide) (by decide)).trans (hfk_3_110)
                      have hfk_4_111 : z_4[111]? = some (.ref qf111) := (hre_4 111 (by decide) (by decide) (by decide) (by decide) (by decide) (by decide) (by decide) (by decide) (by decide)).trans (hfk_3_111)
                      have hfk_4_118 : z_4[118]? = some (.ref qf118) := (hre_4 118 (by decide) (by decide) (by decide) (by decide) (by decide) (by decide) (by decide) (by decide) (by decide)).trans (hfk_3_118)
                      have hfk_4_119 : z_4[119]? = some (.ref qf119) := (hre_4 119 (by decide) (by decide) (by decide) (by decide) (by decide) (by decide) (by decide) (by decide) (by decide)).trans (hfk_3_119)
                      have hfk_4_126 : z_4[126]? = some (.ref qf126) := (hre_4 126 (by decide) (by decide) (by decide) (by decide) (by decide) (by decide) (by decide) (by decide) (by decide)).trans (hfk_3_126)
                      have hfk_4_127 : z_4[127]? = some (.ref qf127) := (hre_4 127 (by decide) (by decide) (by decide) (by decide) (by decide) (by decide) (by decide) (by decide) (by decide)).trans (hfk_3_127)
                      have hfk_4_128 : z_4[128]? = some (.ref qf128) := (hre_4 128 (by decide) (by decide) (by decide) (by decide) (by decide) (by decide) (by decide) (by decide) (by decide)).trans (hfk_3_128)
                      have hfk_4_129 : z_4[129]? = some (.int x129_245) := (hre_4 129 (by decide) (by decide) (by decide) (by decide) (by decide) (by decide) (by decide) (by decide) (by decide)).trans (hfk_3_129)
                      have hfk_4_130 : z_4[130]? = some (.int x130_245) := (hre_4 130 (by decide) (by decide) (by decide) (by decide) (by decide) (by decide) (by decide) (by decide) (by decide)).trans (hfk_3_130)
                      have hfk_4_132 : z_4[132]? = some (.int x132_245) := (hre_4 132 (by decide) (by decide) (by decide) (by decide) (by decide) (by decide) (by decide) (by decide) (by decide)).trans (hfk_3_132)
                      have hfk_4_133 : z_4[133]? = some (.int x133_245) := (hre_4 133 (by decide) (by decide) (by decide) (by decide) (by decide) (by decide) (by decide) (by decide) (by decide)).trans (hfk_3_133)
                      have hfk_4_134 : z_4[134]? = some (.int x134_245) := (hre_4 134 (by decide) (by decide) (by decide) (by decide) (by decide) (by decide) (by decide) (by decide) (by decide)).trans (hfk_3_134)
                      have hfk_4_135 : z_4[135]? = some (.int x135_245) := (hre_4 135 (by decide) (by decide) (by decide) (by decide) (by decide) (by decide) (by decide) (by decide) (by decide)).trans (hfk_3_135)
                      have hfk_4_137 : z_4[137]? = some (.ref qf137) := (hre_4 137 (by decide) (by decide) (by decide) (by decide) (by decide) (by decide) (by decide) (by decide) (by decide)).trans (hfk_3_137)
                      have hrq_4 : ∀ j : Nat, j ≠ 117 → j ≠ 120 → j ≠ 121 → j ≠ 122 → j ≠ 123 → j ≠ 124 → j ≠ 125 → j ≠ 129 → j ≠ 130 → j ≠ 131 → j ≠ 132 → j ≠ 133 → j ≠ 134 → j ≠ 135 → j ≠ 136 → z_4[j]? = zs[j]? := fun j g117 g120 g121 g122 g123 g124 g125 g129 g130 g131 g132 g133 g134 g135 g136 => (hre_4 j g117 g120 g121 g122 g123 g124 g125 g131 g136).trans (hrq_3 j g117 g120 g121 g122 g123 g124 g125 g129 g130 g131 g132 g133 g134 g135 g136)
                      obtain ⟨rfl, hz_4⟩ := hwa_4
                      rcases hz_4 with rfl | rfl
                      · rw [if_pos rfl] at hsp
                        exact hret_332 (H, locs, ls, z_4, 0, g904_1, g904_2, g126_245, g904_3, g904_4, g904_5, u4_6, u4_7, u4_8, u4_9, u4_10, u4_11, u4_12, x129_245, x130_245, u4_13, x132_245, x133_245, x134_245, x135_245, u4_14) ⟨hS, hD.sub (ws' := [(h0, .inr (13, z_4)), (qf109, .inl (cf109, 96, .inl f109)), (qf100, .inl (cf100, 48000, .inl f100)), (qf110, .inl (cf110, 96, .inl f110)), (qf111, .inl (cf111, 96, .inl f111)), (qf127, .inl (cf127, 30, .inl g904_3)), (qf107, .inl (cf107, 96, .inl f107)), (qf102, .inl (cf102, 2048, .inl f102)), (qf104, .inl (cf104, 8, .inl f104)), (qf118, .inl (cf118, 2100, .inl g904_1)), (qf119, .inl (cf119, 2100, .inl g904_2)), (qf105, .inl (cf105, 8, .inl f105)), (qf128, .inl (cf128, 31, .inl g904_4)), (qf103, .inl (cf103, 8, .inl f103)), (qf106, .inl (cf106, 8, .inl f106)), (qf108, .inl (cf108, 8, .inl f108)), (qf137, .inl (cf137, 6, .inl g904_5)), (qf126, .inl (cf126, 1501, .inl g126_245))]) [1, 2, 3, 13, 7, 4, 5, 6, 8, 9, 10, 11, 12, 14, 15, 16, 17, 0] (by decide) rfl, hP.sub (ws' := [(h0, .inr (13, z_4)), (qf109, .inl (cf109, 96, .inl f109)), (qf100, .inl (cf100, 48000, .inl f100)), (qf110, .inl (cf110, 96, .inl f110)), (qf111, .inl (cf111, 96, .inl f111)), (qf127, .inl (cf127, 30, .inl g904_3)), (qf107, .inl (cf107, 96, .inl f107)), (qf102, .inl (cf102, 2048, .inl f102)), (qf104, .inl (cf104, 8, .inl f104)), (qf118, .inl (cf118, 2100, .inl g904_1)), (qf119, .inl (cf119, 2100, .inl g904_2)), (qf105, .inl (cf105, 8, .inl f105)), (qf128, .inl (cf128, 31, .inl g904_4)), (qf103, .inl (cf103, 8, .inl f103)), (qf106, .inl (cf106, 8, .inl f106)), (qf108, .inl (cf108, 8, .inl f108)), (qf137, .inl (cf137, 6, .inl g904_5)), (qf126, .inl (cf126, 1501, .inl g126_245))]) [1, 2, 3, 13, 7, 4, 5, 6, 8, 9, 10, 11, 12, 14, 15, 16, 17, 0] rfl, hfk_4_98, hfk_4_100, hfk_4_102, hfk_4_103, hfk_4_104, hfk_4_105, hfk_4_106, hfk_4_107, hfk_4_108, hfk_4_109, hfk_4_110, hfk_4_111, hch_4_117, hfk_4_118, hfk_4_119, hch_4_120, hch_4_121, hch_4_122, hch_4_123, hch_4_124, hch_4_125, hfk_4_126, hfk_4_127, hfk_4_128, hfk_4_129, hfk_4_130, hch_4_131, hfk_4_132, hfk_4_133, hfk_4_134, hfk_4_135, hch_4_136, hfk_4_137, hln_4, hrq_4, Or.inl rfl, hsp⟩
                      · rw [if_neg (by decide)] at hsp
                        exact hret_332 (H, locs, ls, z_4, 1, g904_1, g904_2, g126_245, g904_3, g904_4, g904_5, u4_6, u4_7, u4_8, u4_9, u4_10, u4_11, u4_12, x129_245, x130_245, u4_13, x132_245, x133_245, x134_245, x135_245, u4_14) ⟨hS, hD.sub (ws' := [(h0, .inr (13, z_4)), (qf109, .inl (cf109, 96, .inl f109)), (qf100, .inl (cf100, 48000, .inl f100)), (qf110, .inl (cf110, 96, .inl f110)), (qf111, .inl (cf111, 96, .inl f111)), (qf127, .inl (cf127, 30, .inl g904_3)), (qf107, .inl (cf107, 96, .inl f107)), (qf102, .inl (cf102, 2048, .inl f102)), (qf104, .inl (cf104, 8, .inl f104)), (qf118, .inl (cf118, 2100, .inl g904_1)), (qf119, .inl (cf119, 2100, .inl g904_2)), (qf105, .inl (cf105, 8, .inl f105)), (qf128, .inl (cf128, 31, .inl g904_4)), (qf103, .inl (cf103, 8, .inl f103)), (qf106, .inl (cf106, 8, .inl f106)), (qf108, .inl (cf108, 8, .inl f108)), (qf137, .inl (cf137, 6, .inl g904_5)), (qf126, .inl (cf126, 1501, .inl g126_245))]) [1, 2, 3, 13, 7, 4, 5, 6, 8, 9, 10, 11, 12, 14, 15, 16, 17, 0] (by decide) rfl, hP.sub (ws' := [(h0, .inr (13, z_4)), (qf109, .inl (cf109, 96, .inl f109)), (qf100, .inl (cf100, 48000, .inl f100)), (qf110, .inl (cf110, 96, .inl f110)), (qf111, .inl (cf111, 96, .inl f111)), (qf127, .inl (cf127, 30, .inl g904_3)), (qf107, .inl (cf107, 96, .inl f107)), (qf102, .inl (cf102, 2048, .inl f102)), (qf104, .inl (cf104, 8, .inl f104)), (qf118, .inl (cf118, 2100, .inl g904_1)), (qf119, .inl (cf119, 2100, .inl g904_2)), (qf105, .inl (cf105, 8, .inl f105)), (qf128, .inl (cf128, 31, .inl g904_4)), (qf103, .inl (cf103, 8, .inl f103)), (qf106, .inl (cf106, 8, .inl f106)), (qf108, .inl (cf108, 8, .inl f108)), (qf137, .inl (cf137, 6, .inl g904_5)), (qf126, .inl (cf126, 1501, .inl g126_245))]) [1, 2, 3, 13, 7, 4, 5, 6, 8, 9, 10, 11, 12, 14, 15, 16, 17, 0] rfl, hfk_4_98, hfk_4_100, hfk_4_102, hfk_4_103, hfk_4_104, hfk_4_105, hfk_4_106, hfk_4_107, hfk_4_108, hfk_4_109, hfk_4_110, hfk_4_111, hch_4_117, hfk_4_118, hfk_4_119, hch_4_120, hch_4_121, hch_4_122, hch_4_123, hch_4_124, hch_4_125, hfk_4_126, hfk_4_127, hfk_4_128, hfk_4_129, hfk_4_130, hch_4_131, hfk_4_132, hfk_4_133, hfk_4_134, hfk_4_135, hch_4_136, hfk_4_137, hln_4, hrq_4, Or.inr rfl, hsp⟩
                    · rw [if_neg c_8] at hsp
                      refine lv_aload_n hx hb dX13_methodFits_254 rfl (lv_at hl 2 rfl) ?_
                      refine lv_iload hx hb dX13_methodFits_255 (lv_at hl 0 rfl) ?_
                      obtain ⟨u5_0, hu_5, hsp⟩ := ox_bind hsp
                      try dsimp only at hsp
                      have hPc := hP.sub (ws' := [(h0, .inr (13, z_3)), (qf111, .inl (cf111, 96, .inl f111)), (qf100, .inl (cf100, 48000, .inl f100))]) [15, 16, 17] rfl
                      have hDc := hD.sub (ws' := [(h0, .inr (13, z_3)), (qf111, .inl (cf111, 96, .inl f111)), (qf100, .inl (cf100, 48000, .inl f100))]) [15, 16, 17] (by decide) rfl
                      have hKc := hK.sub (tys' := [(cf111, .int), (cf100, .int)]) [15, 16] rfl
                      have hFc := va_free (wc := [(h0, .inr (13, z_3)), (qf111, .inl (cf111, 96, .inl f111)), (qf100, .inl (cf100, 48000, .inl f100))]) hD hS hA [15, 16, 17] rfl
                      refine va_calli (va_runV (As := [.int l5_245]) (rest := []) ⟨hx, hb, hml, hown, hts⟩ (tn_frameAt l dC dI H.size h0 z_3 l5_245 qf100 qf111 x132_245 x133_245 cf111 f111 cf100 f100 nf u5_0 hln_3 hfk_3_100 hfk_3_111 hfk_3_132 hfk_3_133 hu_5) (cwV 1 hts gv_h9_131 rfl rfl rfl (by decide +kernel) ⟨Nat.le_of_ble_eq_true rfl, Nat.le_of_ble_eq_true rfl⟩) ⟨fun a U g mk q => by obtain ⟨q0, q1, qP, qK, qD⟩ := q; exact ⟨q0, q1, qP, va_K.moved (u := U) (U := U.calling g mk a) (Vm.Alike.refl U.vm) qK, qD⟩, va_recv hKc hPc (ci := 13) (q0 := 0) rfl rfl, fun U hU hW => ⟨rfl, by rw [hU], by rw [hU]; exact hPc, va_K.moved hW.alike hKc, hDc.weaken (fun _ _ _ _ => trivial)⟩⟩ rfl rfl hl.1 rfl (lv_room (Nat.le_of_ble_eq_true rfl)) dX13_methodFits_257 ⟨Nat.le_of_ble_eq_true rfl, Nat.le_of_ble_eq_true rfl⟩) hS (fun q _ h => hFc q h) hFc ?_
                      clear hS
                      intro r_10 u t H1 locs ht hvm hw hB hz1 hk1 hS
                      obtain ⟨z_5, rfl⟩ : ∃ z, z = u := ⟨_, rfl⟩
                      obtain ⟨hP1, hK1, hD1⟩ := hB
                      rw [ht] at hP1
                      have hK1 := va_K.moved hvm.symm hK1
                      try dsimp only at hw
                      have hPD := va_join (wr := [(qf109, .inl (cf109, 96, .inl f109)), (qf110, .inl (cf110, 96, .inl f110)), (qf127, .inl (cf127, 30, .inl g127_245)), (qf107, .inl (cf107, 96, .inl f107)), (qf102, .inl (cf102, 2048, .inl f102)), (qf104, .inl (cf104, 8, .inl f104)), (qf118, .inl (cf118, 2100, .inl g118_245)), (qf119, .inl (cf119, 2100, .inl g119_245)), (qf105, .inl (cf105, 8, .inl f105)), (qf128, .inl (cf128, 31, .inl g128_245)), (qf103, .inl (cf103, 8, .inl f103)), (qf106, .inl (cf106, 8, .inl f106)), (qf108, .inl (cf108, 8, .inl f108)), (qf137, .inl (cf137, 6, .inl g137_245)), (qf126, .inl (cf126, 1501, .inl g126_245))]) (w1 := [(h0, .inr (13, z_5)), (qf111, .inl (cf111, 96, .inl f111)), (qf100, .inl (cf100, 48000, .inl f100))]) hP hD [15, 16, 17] [0, 1, 2, 3, 4, 5, 6, 7, 8, 9, 10, 11, 12, 13, 14] rfl rfl (by decide) (by decide) hk1 hFc hP1 hD1
                      clear hP hD
                      obtain ⟨hP, hD⟩ := hPD
                      replace hK := (hK.sub (tys' := [(cf109, .int), (cf110, .int), (cf127, .int), (cf107, .int), (cf102, .int), (cf104, .int), (cf118, .int), (cf119, .int), (cf105, .int), (cf128, .int), (cf103, .int), (cf106, .int), (cf108, .int), (cf137, .int), (cf126, .boolean)]) [0, 1, 2, 3, 4, 5, 6, 7, 8, 9, 10, 11, 12, 13, 14] rfl).app hK1
                      clear hPc hDc hKc hFc hP1 hK1 hD1 hz1 hk1 ht hvm
                      generalize H1 = H at hP hS ⊢
                      replace hP : va_P (dC, dI) vwCl [(qf109, .inl (cf109, 96, .inl f109)), (qf110, .inl (cf110, 96, .inl f110)), (qf127, .inl (cf127, 30, .inl g127_245)), (qf107, .inl (cf107, 96, .inl f107)), (qf102, .inl (cf102, 2048, .inl f102)), (qf104, .inl (cf104, 8, .inl f104)), (qf118, .inl (cf118, 2100, .inl g118_245)), (qf119, .inl (cf119, 2100, .inl g119_245)), (qf105, .inl (cf105, 8, .inl f105)), (qf128, .inl (cf128, 31, .inl g128_245)), (qf103, .inl (cf103, 8, .inl f103)), (qf106, .inl (cf106, 8, .inl f106)), (qf108, .inl (cf108, 8, .inl f108)), (qf137, .inl (cf137, 6, .inl g137_245)), (qf126, .inl (cf126, 1501, .inl g126_245)), (h0, .inr (13, z_5)), (qf111, .inl (cf111, 96, .inl f111)), (qf100, .inl (cf100, 48000, .inl f100))] H := hP
                      replace hD : va_D A [(qf109, .inl (cf109, 96, .inl f109)), (qf110, .inl (cf110, 96, .inl f110)), (qf127, .inl (cf127, 30, .inl g127_245)), (qf107, .inl (cf107, 96, .inl f107)), (qf102, .inl (cf102, 2048, .inl f102)), (qf104, .inl (cf104, 8, .inl f104)), (qf118, .inl (cf118, 2100, .inl g118_245)), (qf119, .inl (cf119, 2100, .inl g119_245)), (qf105, .inl (cf105, 8, .inl f105)), (qf128, .inl (cf128, 31, .inl g128_245)), (qf103, .inl (cf103, 8, .inl f103)), (qf106, .inl (cf106, 8, .inl f106)), (qf108, .inl (cf108, 8, .inl f108)), (qf137, .inl (cf137, 6, .inl g137_245)), (qf126, .inl (cf126, 1501, .inl g126_245)), (h0, .inr (13, z_5)), (qf111, .inl (cf111, 96, .inl f111)), (qf100, .inl (cf100, 48000, .inl f100))] := hD
                      replace hK : va_K (dC, dI) vwCl [(cf109, .int), (cf110, .int), (cf127, .int), (cf107, .int), (cf102, .int), (cf104, .int), (cf118, .int), (cf119, .int), (cf105, .int), (cf128, .int), (cf103, .int), (cf106, .int), (cf108, .int), (cf137, .int), (cf126, .boolean), (cf111, .int), (cf100, .int)] s := hK
                      obtain ⟨hwa_5, hln_5, hre_5⟩ := hw
                      have hfk_5_98 : z_5[98]? = some (.int v98) := (hre_5 98 ).trans (hfk_3_98)
                      have hfk_5_100 : z_5[100]? = some (.ref qf100) := (hre_5 100 ).trans (hfk_3_100)
                      have hfk_5_102 : z_5[102]? = some (.ref qf102) := (hre_5 102 ).trans (hfk_3_102)
                      have hfk_5_103 : z_5[103]? = some (.ref qf103) := (hre_5 103 ).trans (hfk_3_103)
                      have hfk_5_104 : z_5[104]? = some (.ref qf104) := (hre_5 104 ).trans (hfk_3_104)
                      have hfk_5_105 : z_5[105]? = some (.ref qf105) := (hre_5 105 ).trans (hfk_3_105)
                      have hfk_5_106 : z_5[106]? = some (.ref qf106) := (hre_5 106 ).trans (hfk_3_106)
                      have hfk_5_107 : z_5[107]? = some (.ref qf107) := (hre_5 107 ).trans (hfk_3_107)
                      have hfk_5_108 : z_5[108]? = some (.ref qf108) := (hre_5 108 ).trans (hfk_3_108)
                      have hfk_5_109 : z_5[109]? = some (.ref qf109) := (hre_5 109 ).trans (hfk_3_109)
                      have hfk_5_110 : z_5[110]? = some (.ref qf110) := (hre_5 110 ).trans (hfk_3_110)
                      have hfk_5_111 : z_5[111]? = some (.ref qf111) := (hre_5 111 ).trans (hfk_3_111)
                      have hfk_5_117 : z_5[117]? = some (.int x117_245) := (hre_5 117 ).trans (hfk_3_117)
                      have hfk_5_118 : z_5[118]? = some (.ref qf118) := (hre_5 118 ).trans (hfk_3_118)
                      have hfk_5_119 : z_5[119]? = some (.ref qf119) := (hre_5 119 ).trans (hfk_3_119)
                      have hfk_5_120 : z_5[120]? = some (.int x120_245) := (hre_5 120 ).trans (hfk_3_120)
                      have hfk_5_121 : z_5[121]? = some (.int x121_245) := (hre_5 121 ).trans (hfk_3_121)
                      have hfk_5_122 : z_5[122]? = some (.int x122_245) := (hre_5 122 ).trans (hfk_3_122)
                      have hfk_5_123 : z_5[123]? = some (.int x123_245) := (hre_5 123 ).trans (hfk_3_123)
                      have hfk_5_124 : z_5[124]? = some (.int x124_245) := (hre_5 124 ).trans (hfk_3_124)
                      have hfk_5_125 : z_5[125]? = some (.int x125_245) := (hre_5 125 ).trans (hfk_3_125)
                      have hfk_5_126 : z_5[126]? = some (.ref qf126) := (hre_5 126 ).trans (hfk_3_126)
                      have hfk_5_127 : z_5[127]? = some (.ref qf127) := (hre_5 127 ).trans (hfk_3_127)
                      have hfk_5_128 : z_5[128]? = some (.ref qf128) := (hre_5 128 ).trans (hfk_3_128)
                      have hfk_5_129 : z_5[129]? = some (.int x129_245) := (hre_5 129 ).trans (hfk_3_129)
                      have hfk_5_130 : z_5[130]? = some (.int x130_245) := (hre_5 130 ).trans (hfk_3_130)
                      have hfk_5_131 : z_5[131]? = some (.int x131_245) := (hre_5 131 ).trans (hfk_3_131)
                      have hfk_5_132 : z_5[132]? = some (.int x132_245) := (hre_5 132 ).trans (hfk_3_132)
                      have hfk_5_133 : z_5[133]? = some (.int x133_245) := (hre_5 133 ).trans (hfk_3_133)
                      have hfk_5_134 : z_5[134]? = some (.int x134_245) := (hre_5 134 ).trans (hfk_3_134)
                      have hfk_5_135 : z_5[135]? = some (.int x135_245) := (hre_5 135 ).trans (hfk_3_135)
                      have hfk_5_136 : z_5[136]? = some (.int x136_245) := (hre_5 136 ).trans (hfk_3_136)
                      have hfk_5_137 : z_5[137]? = some (.ref qf137) := (hre_5 137 ).trans (hfk_3_137)
                      have hrq_5 : ∀ j : Nat, j ≠ 117 → j ≠ 120 → j ≠ 121 → j ≠ 122 → j ≠ 123 → j ≠ 124 → j ≠ 125 → j ≠ 129 → j ≠ 130 → j ≠ 131 → j ≠ 132 → j ≠ 133 → j ≠ 134 → j ≠ 135 → j ≠ 136 → z_5[j]? = zs[j]? := fun j g117 g120 g121 g122 g123 g124 g125 g129 g130 g131 g132 g133 g134 g135 g136 => (hre_5 j ).trans (hrq_3 j g117 g120 g121 g122 g123 g124 g125 g129 g130 g131 g132 g133 g134 g135 g136)
                      obtain rfl := hwa_5
                      refine lv_istore (lv' := [(6, .int u5_0), (5, .int l5_245), (4, .int l4_245), (0, .ref h0), (1, .int l1_245), (2, .int l2_245)]) hx hb dX13_methodFits_260 hl (by decide) rfl (fun ls hl => ?_)
                      refine lv_aload_n hx hb dX13_methodFits_262 rfl (lv_at hl 3 rfl) ?_
                      refine lv_iload hx hb dX13_methodFits_263 (lv_at hl 0 rfl) ?_
                      obtain ⟨u6_0, hu_6, hsp⟩ := ox_bind hsp
                      try dsimp only at hsp
                      have hPc := hP.sub (ws' := [(h0, .inr (13, z_5)), (qf100, .inl (cf100, 48000, .inl f100))]) [15, 17] rfl
                      have hDc := hD.sub (ws' := [(h0, .inr (13, z_5)), (qf100, .inl (cf100, 48000, .inl f100))]) [15, 17] (by decide) rfl
                      have hKc := hK.sub (tys' := [(cf100, .int)]) [16] rfl
                      have hFc := va_free (wc := [(h0, .inr (13, z_5)), (qf100, .inl (cf100, 48000, .inl f100))]) hD hS hA [15, 17] rfl
                      refine va_calli (va_runV (As := [.int u5_0]) (rest := []) ⟨hx, hb, hml, hown, hts⟩ (tm_pairIn l dC dI H.size h0 z_5 u5_0 qf100 x132_245 cf100 f100 nf u6_0 hln_5 hfk_5_100 hfk_5_132 hu_6) (cwV 1 hts gv_h9_62 rfl rfl rfl (by decide +kernel) ⟨Nat.le_of_ble_eq_true rfl, Nat.le_of_ble_eq_true rfl⟩) ⟨fun a U g mk q => by obtain ⟨q0, q1, qP, qK, qD⟩ := q; exact ⟨q0, q1, qP, va_K.moved (u := U) (U := U.calling g mk a) (Vm.Alike.refl U.vm) qK, qD⟩, va_recv hKc hPc (ci := 13) (q0 := 0) rfl rfl, fun U hU hW => ⟨rfl, by rw [hU], by rw [hU]; exact hPc, va_K.moved hW.alike hKc, hDc.weaken (fun _ _ _ _ => trivial)⟩⟩ rfl rfl hl.1 rfl (lv_room (Nat.le_of_ble_eq_true rfl)) dX13_methodFits_265 ⟨Nat.le_of_ble_eq_true rfl, Nat.le_of_ble_eq_true rfl⟩) hS (fun q _ h => hFc q h) hFc ?_
                      clear hS
                      intro r_11 u t H1 locs ht hvm hw hB hz1 hk1 hS
                      obtain ⟨z_6, rfl⟩ : ∃ z, z = u := ⟨_, rfl⟩
                      obtain ⟨hP1, hK1, hD1⟩ := hB
                      rw [ht] at hP1
                      have hK1 := va_K.moved hvm.symm hK1
                      try dsimp only at hw
                      have hPD := va_join (wr := [(qf109, .inl (cf109, 96, .inl f109)), (qf110, .inl (cf110, 96, .inl f110)), (qf127, .inl (cf127, 30, .inl g127_245)), (qf107, .inl (cf107, 96, .inl f107)), (qf102, .inl (cf102, 2048, .inl f102)), (qf104, .inl (cf104, 8, .inl f104)), (qf118, .inl (cf118, 2100, .inl g118_245)), (qf119, .inl (cf119, 2100, .inl g119_245)), (qf105, .inl (cf105, 8, .inl f105)), (qf128, .inl (cf128, 31, .inl g128_245)), (qf103, .inl (cf103, 8, .inl f103)), (qf106, .inl (cf106, 8, .inl f106)), (qf108, .inl (cf108, 8, .inl f108)), (qf137, .inl (cf137, 6, .inl g137_245)), (qf126, .inl (cf126, 1501, .inl g126_245)), (qf111, .inl (cf111, 96, .inl f111))]) (w1 := [(h0, .inr (13, z_6)), (qf100, .inl (cf100, 48000, .inl f100))]) hP hD [15, 17] [0, 1, 2, 3, 4, 5, 6, 7, 8, 9, 10, 11, 12, 13, 14, 16] rfl rfl (by decide) (by decide) hk1 hFc hP1 hD1
                      clear hP hD
                      obtain ⟨hP, hD⟩ := hPD
                      replace hK := (hK.sub (tys' := [(cf109, .int), (cf110, .int), (cf127, .int), (cf107, .int), (cf102, .int), (cf104, .int), (cf118, .int), (cf119, .int), (cf105, .int), (cf128, .int), (cf103, .int), (cf106, .int), (cf108, .int), (cf137, .int), (cf126, .boolean), (cf111, .int)]) [0, 1, 2, 3, 4, 5, 6, 7, 8, 9, 10, 11, 12, 13, 14, 15] rfl).app hK1
                      clear hPc hDc hKc hFc hP1 hK1 hD1 hz1 hk1 ht hvm
                      generalize H1 = H at hP hS ⊢
                      replace hP : va_P (dC, dI) vwCl [(qf109, .inl (cf109, 96, .inl f109)), (qf110, .inl (cf110, 96, .inl f110)), (qf127, .inl (cf127, 30, .inl g127_245)), (qf107, .inl (cf107, 96, .inl f107)), (qf102, .inl (cf102, 2048, .inl f102)), (qf104, .inl (cf104, 8, .inl f104)), (qf118, .inl (cf118, 2100, .inl g118_245)), (qf119, .inl (cf119, 2100, .inl g119_245)), (qf105, .inl (cf105, 8, .inl f105)), (qf128, .inl (cf128, 31, .inl g128_245)), (qf103, .inl (cf103, 8, .inl f103)), (qf106, .inl (cf106, 8, .inl f106)), (qf108, .inl (cf108, 8, .inl f108)), (qf137, .inl (cf137, 6, .inl g137_245)), (qf126, .inl (cf126, 1501, .inl g126_245)), (qf111, .inl (cf111, 96, .inl f111)), (h0, .inr (13, z_6)), (qf100, .inl (cf100, 48000, .inl f100))] H := hP
                      replace hD : va_D A [(qf109, .inl (cf109, 96, .inl f109)), (qf110, .inl (cf110, 96, .inl f110)), (qf127, .inl (cf127, 30, .inl g127_245)), (qf107, .inl (cf107, 96, .inl f107)), (qf102, .inl (cf102, 2048, .inl f102)), (qf104, .inl (cf104, 8, .inl f104)), (qf118, .inl (cf118, 2100, .inl g118_245)), (qf119, .inl (cf119, 2100, .inl g119_245)), (qf105, .inl (cf105, 8, .inl f105)), (qf128, .inl (cf128, 31, .inl g128_245)), (qf103, .inl (cf103, 8, .inl f103)), (qf106, .inl (cf106, 8, .inl f106)), (qf108, .inl (cf108, 8, .inl f108)), (qf137, .inl (cf137, 6, .inl g137_245)), (qf126, .inl (cf126, 1501, .inl g126_245)), (qf111, .inl (cf111, 96, .inl f111)), (h0, .inr (13, z_6)), (qf100, .inl (cf100, 48000, .inl f100))] := hD
                      replace hK : va_K (dC, dI) vwCl [(cf109, .int), (cf110, .int), (cf127, .int), (cf107, .int), (cf102, .int), (cf104, .int), (cf118, .int), (cf119, .int), (cf105, .int), (cf128, .int), (cf103, .int), (cf106, .int), (cf108, .int), (cf137, .int), (cf126, .boolean), (cf111, .int), (cf100, .int)] s := hK
                      obtain ⟨hwa_6, hln_6, hre_6⟩ := hw
                      have hfk_6_98 : z_6[98]? = some (.int v98) := (hre_6 98 ).trans (hfk_5_98)
                      have hfk_6_100 : z_6[100]? = some (.ref qf100) := (hre_6 100 ).trans (hfk_5_100)
                      have hfk_6_102 : z_6[102]? = some (.ref qf102) := (hre_6 102 ).trans (hfk_5_102)
                      have hfk_6_103 : z_6[103]? = some (.ref qf103) := (hre_6 103 ).trans (hfk_5_103)
                      have hfk_6_104 : z_6[104]? = some (.ref qf104) := (hre_6 104 ).trans (hfk_5_104)
                      have hfk_6_105 : z_6[105]? = some (.ref qf105) := (hre_6 105 ).trans (hfk_5_105)
                      have hfk_6_106 : z_6[106]? = some (.ref qf106) := (hre_6 106 ).trans (hfk_5_106)
                      have hfk_6_107 : z_6[107]? = some (.ref qf107) := (hre_6 107 ).trans (hfk_5_107)
                      have hfk_6_108 : z_6[108]? = some (.ref qf108) := (hre_6 108 ).trans (hfk_5_108)
                      have hfk_6_109 : z_6[109]? = some (.ref qf109) := (hre_6 109 ).trans (hfk_5_109)
                      have hfk_6_110 : z_6[110]? = some (.ref qf110) := (hre_6 110 ).trans (hfk_5_110)
                      have hfk_6_111 : z_6[111]? = some (.ref qf111) := (hre_6 111 ).trans (hfk_5_111)
                      have hfk_6_117 : z_6[117]? = some (.int x117_245) := (hre_6 117 ).trans (hfk_5_117)
                      have hfk_6_118 : z_6[118]? = some (.ref qf118) := (hre_6 118 ).trans (hfk_5_118)
                      have hfk_6_119 : z_6[119]? = some (.ref qf119) := (hre_6 119 ).trans (hfk_5_119)
                      have hfk_6_120 : z_6[120]? = some (.int x120_245) := (hre_6 120 ).trans (hfk_5_120)
                      have hfk_6_121 : z_6[121]? = some (.int x121_245) := (hre_6 121 ).trans (hfk_5_121)
                      have hfk_6_122 : z_6[122]? = some (.int x122_245) := (hre_6 122 ).trans (hfk_5_122)
                      have hfk_6_123 : z_6[123]? = some (.int x123_245) := (hre_6 123 ).trans (hfk_5_123)
                      have hfk_6_124 : z_6[124]? = some (.int x124_245) := (hre_6 124 ).trans (hfk_5_124)
                      have hfk_6_125 : z_6[125]? = some (.int x125_245) := (hre_6 125 ).trans (hfk_5_125)
                      have hfk_6_126 : z_6[126]? = some (.ref qf126) := (hre_6 126 ).trans (hfk_5_126)
                      have hfk_6_127 : z_6[127]? = some (.ref qf127) := (hre_6 127 ).trans (hfk_5_127)
                      have hfk_6_128 : z_6[128]? = some (.ref qf128) := (hre_6 128 ).trans (hfk_5_128)
                      have hfk_6_129 : z_6[129]? = some (.int x129_245) := (hre_6 129 ).trans (hfk_5_129)
                      have hfk_6_130 : z_6[130]? = some (.int x130_245) := (hre_6 130 ).trans (hfk_5_130)
                      have hfk_6_131 : z_6[131]? = some (.int x131_245) := (hre_6 131 ).trans (hfk_5_131)
                      have hfk_6_132 : z_6[132]? = some (.int x132_245) := (hre_6 132 ).trans (hfk_5_132)
                      have hfk_6_133 : z_6[133]? = some (.int x133_245) := (hre_6 133 ).trans (hfk_5_133)
                      have hfk_6_134 : z_6[134]? = some (.int x134_245) := (hre_6 134 ).trans (hfk_5_134)
                      have hfk_6_135 : z_6[135]? = some (.int x135_245) := (hre_6 135 ).trans (hfk_5_135)
                      have hfk_6_136 : z_6[136]? = some (.int x136_245) := (hre_6 136 ).trans (hfk_5_136)
                      have hfk_6_137 : z_6[137]? = some (.ref qf137) := (hre_6 137 ).trans (hfk_5_137)
                      have hrq_6 : ∀ j : Nat, j ≠ 117 → j ≠ 120 → j ≠ 121 → j ≠ 122 → j ≠ 123 → j ≠ 124 → j ≠ 125 → j ≠ 129 → j ≠ 130 → j ≠ 131 → j ≠ 132 → j ≠ 133 → j ≠ 134 → j ≠ 135 → j ≠ 136 → z_6[j]? = zs[j]? := fun j g117 g120 g121 g122 g123 g124 g125 g129 g130 g131 g132 g133 g134 g135 g136 => (hre_6 j ).trans (hrq_5 j g117 g120 g121 g122 g123 g124 g125 g129 g130 g131 g132 g133 g134 g135 g136)
                      obtain rfl := hwa_6
                      refine lv_istore (lv' := [(7, .int u6_0), (6, .int u5_0), (5, .int l5_245), (4, .int l4_245), (0, .ref h0), (1, .int l1_245), (2, .int l2_245)]) hx hb dX13_methodFits_268 hl (by decide) rfl (fun ls hl => ?_)
                      refine lv_iload hx hb dX13_methodFits_270 (lv_at hl 0 rfl) ?_
                      refine lv_iload hx hb dX13_methodFits_272 (lv_at hl 3 rfl) ?_
                      refine lv_icmp_le (tgt := 305) hx hb dX13_methodFits_274 (by decide) (fun c_12 => ?_) (fun c_12 => ?_)
                      · rw [if_pos c_12] at hsp
                        refine lv_aload_n hx hb dX13_methodFits_305 rfl (lv_at hl 4 rfl) ?_
                        refine lv_bipush (v := 9) hx hb dX13_methodFits_306 (by decide) ?_
                        refine lv_iload_n hx hb dX13_methodFits_308 rfl (lv_at hl 5 rfl) ?_
                        refine lv_iload_n hx hb dX13_methodFits_309 rfl (lv_at hl 6 rfl) ?_
                        refine lv_iload hx hb dX13_methodFits_310 (lv_at hl 2 rfl) ?_
                        obtain ⟨⟨u7_0, u7_1, u7_2, u7_3, u7_4⟩, hu_7, hsp⟩ := ox_bind hsp
                        try dsimp only at hsp
                        have hPc := hP.sub (ws' := [(h0, .inr (13, z_6))]) [16] rfl
                        have hDc := hD.sub (ws' := [(h0, .inr (13, z_6))]) [16] (by decide) rfl
                        have hKc := hK.sub (tys' := []) [] rfl
                        have hFc := va_free (wc := [(h0, .inr (13, z_6))]) hD hS hA [16] rfl
                        refine va_calli (va_runV (As := [.int 9, .int l1_245, .int l2_245, .int l5_245]) (rest := []) ⟨hx, hb, hml, hown, hts⟩ (tm_bad l dC dI H.size h0 z_6 9 l1_245 l2_245 l5_245 x122_245 x123_245 x124_245 x125_245 nf u7_0 u7_1 u7_2 u7_3 u7_4 hln_6 hfk_6_122 hfk_6_123 hfk_6_124 hfk_6_125 hu_7) (cwV 4 hts gv_h9_63 rfl rfl rfl (by decide +kernel) ⟨Nat.le_of_ble_eq_true rfl, Nat.le_of_ble_eq_true rfl⟩) ⟨fun a U g mk q => by obtain ⟨q0, q1, qP, qK, qD⟩ := q; exact ⟨q0, q1, qP, va_K.moved (u := U) (U := U.calling g mk a) (Vm.Alike.refl U.vm) qK, qD⟩, va_recv hKc hPc (ci := 13) (q0 := 0) rfl rfl, fun U hU hW => ⟨rfl, by rw [hU], by rw [hU]; exact hPc, va_K.moved hW.alike hKc, hDc.weaken (fun _ _ _ _ => trivial)⟩⟩ rfl rfl hl.1 rfl (lv_room (Nat.le_of_ble_eq_true rfl)) dX13_methodFits_312 ⟨Nat.le_of_ble_eq_true rfl, Nat.le_of_ble_eq_true rfl⟩) hS (fun q _ h => hFc q h) hFc ?_
                        clear hS
                        intro r_13 u t H1 locs ht hvm hw hB hz1 hk1 hS
                        obtain ⟨z_7, rfl⟩ : ∃ z, z = u := ⟨_, rfl⟩
                        obtain ⟨hP1, hK1, hD1⟩ := hB
                        rw [ht] at hP1
                        have hK1 := va_K.moved hvm.symm hK1
                        try dsimp only at hw
                        have hPD := va_join (wr := [(qf109, .inl (cf109, 96, .inl f109)), (qf110, .inl (cf110, 96, .inl f110)), (qf127, .inl (cf127, 30, .inl g127_245)), (qf107, .inl (cf107, 96, .inl f107)), (qf102, .inl (cf102, 2048, .inl f102)), (qf104, .inl (cf104, 8, .inl f104)), (qf118, .inl (cf118, 2100, .inl g118_245)), (qf119, .inl (cf119, 2100, .inl g119_245)), (qf105, .inl (cf105, 8, .inl f105)), (qf128, .inl (cf128, 31, .inl g128_245)), (qf103, .inl (cf103, 8, .inl f103)), (qf106, .inl (cf106, 8, .inl f106)), (qf108, .inl (cf108, 8, .inl f108)), (qf137, .inl (cf137, 6, .inl g137_245)), (qf126, .inl (cf126, 1501, .inl g126_245)), (qf111, .inl (cf111, 96, .inl f111)), (qf100, .inl (cf100, 48000, .inl f100))]) (w1 := [(h0, .inr (13, z_7))]) hP hD [16] [0, 1, 2, 3, 4, 5, 6, 7, 8, 9, 10, 11, 12, 13, 14, 15, 17] rfl rfl (by decide) (by decide) hk1 hFc hP1 hD1
                        clear hP hD
                        obtain ⟨hP, hD⟩ := hPD
                        replace hK := (hK.sub (tys' := [(cf109, .int), (cf110, .int), (cf127, .int), (cf107, .int), (cf102, .int), (cf104, .int), (cf118, .int), (cf119, .int), (cf105, .int), (cf128, .int), (cf103, .int), (cf106, .int), (cf108, .int), (cf137, .int), (cf126, .boolean), (cf111, .int), (cf100, .int)]) [0, 1, 2, 3, 4, 5, 6, 7, 8, 9, 10, 11, 12, 13, 14, 15, 16] rfl).app hK1
                        clear hPc hDc hKc hFc hP1 hK1 hD1 hz1 hk1 ht hvm
                        generalize H1 = H at hP hS ⊢
                        replace hP : va_P (dC, dI) vwCl [(qf109, .inl (cf109, 96, .inl f109)), (qf110, .inl (cf110, 96, .inl f110)), (qf127, .inl (cf127, 30, .inl g127_245)), (qf107, .inl (cf107, 96, .inl f107)), (qf102, .inl (cf102, 2048, .inl f102)), (qf104, .inl (cf104, 8, .inl f104)), (qf118, .inl (cf118, 2100, .inl g118_245)), (qf119, .inl (cf119, 2100, .inl g119_245)), (qf105, .inl (cf105, 8, .inl f105)), (qf128, .inl (cf128, 31, .inl g128_245)), (qf103, .inl (cf103, 8, .inl f103)), (qf106, .inl (cf106, 8, .inl f106)), (qf108, .inl (cf108, 8, .inl f108)), (qf137, .inl (cf137, 6, .inl g137_245)), (qf126, .inl (cf126, 1501, .inl g126_245)), (qf111, .inl (cf111, 96, .inl f111)), (qf100, .inl (cf100, 48000, .inl f100)), (h0, .inr (13, z_7))] H := hP
                        replace hD : va_D A [(qf109, .inl (cf109, 96, .inl f109)), (qf110, .inl (cf110, 96, .inl f110)), (qf127, .inl (cf127, 30, .inl g127_245)), (qf107, .inl (cf107, 96, .inl f107)), (qf102, .inl (cf102, 2048, .inl f102)), (qf104, .inl (cf104, 8, .inl f104)), (qf118, .inl (cf118, 2100, .inl g118_245)), (qf119, .inl (cf119, 2100, .inl g119_245)), (qf105, .inl (cf105, 8, .inl f105)), (qf128, .inl (cf128, 31, .inl g128_245)), (qf103, .inl (cf103, 8, .inl f103)), (qf106, .inl (cf106, 8, .inl f106)), (qf108, .inl (cf108, 8, .inl f108)), (qf137, .inl (cf137, 6, .inl g137_245)), (qf126, .inl (cf126, 1501, .inl g126_245)), (qf111, .inl (cf111, 96, .inl f111)), (qf100, .inl (cf100, 48000, .inl f100)), (h0, .inr (13, z_7))] := hD
                        replace hK : va_K (dC, dI) vwCl [(cf109, .int), (cf110, .int), (cf127, .int), (cf107, .int), (cf102, .int), (cf104, .int), (cf118, .int), (cf119, .int), (cf105, .int), (cf128, .int), (cf103, .int), (cf106, .int), (cf108, .int), (cf137, .int), (cf126, .boolean), (cf111, .int), (cf100, .int)] s := hK
                        obtain ⟨hwa_7, hln_7, hre_7, hch_7_122, hch_7_123, hch_7_124, hch_7_125⟩ := hw
                        have hfk_7_98 : z_7[98]? = some (.int v98) := (hre_7 98 (by decide) (by decide) (by decide) (by decide)).trans (hfk_6_98)
                        have hfk_7_100 : z_7[100]? = some (.ref qf100) := (hre_7 100 (by decide) (by decide) (by decide) (by decide)).trans (hfk_6_100)
                        have hfk_7_102 : z_7[102]? = some (.ref qf102) := (hre_7 102 (by decide) (by decide) (by decide) (by decide)).trans (hfk_6_102)
                        have hfk_7_103 : z_7[103]? = some (.ref qf103) := (hre_7 103 (by decide) (by decide) (by decide) (by decide)).trans (hfk_6_103)
                        have hfk_7_104 : z_7[104]? = some (.ref qf104) := (hre_7 104 (by decide) (by decide) (by decide) (by decide)).trans (hfk_6_104)
                        have hfk_7_105 : z_7[105]? = some (.ref qf105) := (hre_7 105 (by decide) (by decide) (by decide) (by decide)).trans (hfk_6_105)
                        have hfk_7_106 : z_7[106]? = some (.ref qf106) := (hre_7 106 (by decide) (by decide) (by decide) (by decide)).trans (hfk_6_106)
                        have hfk_7_107 : z_7[107]? = some (.ref qf107) := (hre_7 107 (by decide) (by decide) (by decide) (by decide)).trans (hfk_6_107)
                        have hfk_7_108 : z_7[108]? = some (.ref qf108) := (hre_7 108 (by decide) (by decide) (by decide) (by decide)).trans (hfk_6_108)
                        have hfk_7_109 : z_7[109]? = some (.ref qf109) := (hre_7 109 (by decide) (by decide) (by decide) (by decide)).trans (hfk_6_109)
                        have hfk_7_110 : z_7[110]? = some (.ref qf110) := (hre_7 110 (by decide) (by decide) (by decide) (by decide)).trans (hfk_6_110)
                        have hfk_7_111 : z_7[111]? = some (.ref qf111) := (hre_7 111 (by decide) (by decide) (by decide) (by decide)).trans (hfk_6_111)
                        have hfk_7_117 : z_7[117]? = some (.int x117_245) := (hre_7 117 (by decide) (by decide) (by decide) (by decide)).trans (hfk_6_117)
                        have hfk_7_118 : z_7[118]? = some (.ref qf118) := (hre_7 118 (by decide) (by decide) (by decide) (by decide)).trans (hfk_6_118)
                        have hfk_7_119 : z_7[119]? = some (.ref qf119) := (hre_7 119 (by decide) (by decide) (by decide) (by decide)).trans (hfk_6_119)
                        have hfk_7_120 : z_7[120]? = some (.int x120_245) := (hre_7 120 (by decide) (by decide) (by decide) (by decide)).trans (hfk_6_120)
                        have hfk_7_121 : z_7[121]? = some (.int x121_245) := (hre_7 121 (by decide) (by decide) (by decide) (by decide)).trans (hfk_6_121)
                        have hfk_7_126 : z_7[126]? = some (.ref qf126) := (hre_7 126 (by decide) (by decide) (by decide) (by decide)).trans (hfk_6_126)
                        have hfk_7_127 : z_7[127]? = some (.ref qf127) := (hre_7 127 (by decide) (by decide) (by decide) (by decide)).trans (hfk_6_127)
                        have hfk_7_128 : z_7[128]? = some (.ref qf128) := (hre_7 128 (by decide) (by decide) (by decide) (by decide)).trans (hfk_6_128)
                        have hfk_7_129 : z_7[129]? = some (.int x129_245) := (hre_7 129 (by decide) (by decide) (by decide) (by decide)).trans (hfk_6_129)
                        have hfk_7_130 : z_7[130]? = some (.int x130_245) := (hre_7 130 (by decide) (by decide) (by decide) (by decide)).trans (hfk_6_130)
                        have hfk_7_131 : z_7[131]? = some (.int x131_245) := (hre_7 131 (by decide) (by decide) (by decide) (by decide)).trans (hfk_6_131)
                        have hfk_7_132 : z_7[132]? = some (.int x132_245) := (hre_7 132 (by decide) (by decide) (by decide) (by decide)).trans (hfk_6_132)
                        have hfk_7_133 : z_7[133]? = some (.int x133_245) := (hre_7 133 (by decide) (by decide) (by decide) (by decide)).trans (hfk_6_133)
                        have hfk_7_134 : z_7[134]? = some (.int x134_245) := (hre_7 134 (by decide) (by decide) (by decide) (by decide)).trans (hfk_6_134)
                        have hfk_7_135 : z_7[135]? = some (.int x135_245) := (hre_7 135 (by decide) (by decide) (by decide) (by decide)).trans (hfk_6_135)
                        have hfk_7_136 : z_7[136]? = some (.int x136_245) := (hre_7 136 (by decide) (by decide) (by decide) (by decide)).trans (hfk_6_136)
                        have hfk_7_137 : z_7[137]? = some (.ref qf137) := (hre_7 137 (by decide) (by decide) (by decide) (by decide)).trans (hfk_6_137)
                        have hrq_7 : ∀ j : Nat, j ≠ 117 → j ≠ 120 → j ≠ 121 → j ≠ 122 → j ≠ 123 → j ≠ 124 → j ≠ 125 → j ≠ 129 → j ≠ 130 → j ≠ 131 → j ≠ 132 → j ≠ 133 → j ≠ 134 → j ≠ 135 → j ≠ 136 → z_7[j]? = zs[j]? := fun j g117 g120 g121 g122 g123 g124 g125 g129 g130 g131 g132 g133 g134 g135 g136 => (hre_7 j g122 g123 g124 g125).trans (hrq_6 j g117 g120 g121 g122 g123 g124 g125 g129 g130 g131 g132 g133 g134 g135 g136)
                        obtain ⟨rfl, hz_7⟩ := hwa_7
                        rcases hz_7 with rfl | rfl
                        · rw [if_pos rfl] at hsp
                          exact hret_315 (H, locs, ls, z_7, 0, g118_245, g119_245, g126_245, g127_245, g128_245, g137_245, x117_245, x120_245, x121_245, u7_1, u7_2, u7_3, u7_4, x129_245, x130_245, x131_245, x132_245, x133_245, x134_245, x135_245, x136_245) ⟨hS, hD.sub (ws' := [(h0, .inr (13, z_7)), (qf109, .inl (cf109, 96, .inl f109)), (qf100, .inl (cf100, 48000, .inl f100)), (qf110, .inl (cf110, 96, .inl f110)), (qf111, .inl (cf111, 96, .inl f111)), (qf127, .inl (cf127, 30, .inl g127_245)), (qf107, .inl (cf107, 96, .inl f107)), (qf102, .inl (cf102, 2048, .inl f102)), (qf104, .inl (cf104, 8, .inl f104)), (qf118, .inl (cf118, 2100, .inl g118_245)), (qf119, .inl (cf119, 2100, .inl g119_245)), (qf105, .inl (cf105, 8, .inl f105)), (qf128, .inl (cf128, 31, .inl g128_245)), (qf103, .inl (cf103, 8, .inl f103)), (qf106, .inl (cf106, 8, .inl f106)), (qf108, .inl (cf108, 8, .inl f108)), (qf137, .inl (cf137, 6, .inl g137_245)), (qf126, .inl (cf126, 1501, .inl g126_245))]) [17, 0, 16, 1, 15, 2, 3, 4, 5, 6, 7, 8, 9, 10, 11, 12, 13, 14] (by decide) rfl, hP.sub (ws' := [(h0, .inr (13, z_7)), (qf109, .inl (cf109, 96, .inl f109)), (qf100, .inl (cf100, 48000, .inl f100)), (qf110, .inl (cf110, 96, .inl f110)), (qf111, .inl (cf111, 96, .inl f111)), (qf127, .inl (cf127, 30, .inl g127_245)), (qf107, .inl (cf107, 96, .inl f107)), (qf102, .inl (cf102, 2048, .inl f102)), (qf104, .inl (cf104, 8, .inl f104)), (qf118, .inl (cf118, 2100, .inl g118_245)), (qf119, .inl (cf119, 2100, .inl g119_245)), (qf105, .inl (cf105, 8, .inl f105)), (qf128, .inl (cf128, 31, .inl g128_245)), (qf103, .inl (cf103, 8, .inl f103)), (qf106, .inl (cf106, 8, .inl f106)), (qf108, .inl (cf108, 8, .inl f108)), (qf137, .inl (cf137, 6, .inl g137_245)), (qf126, .inl (cf126, 1501, .inl g126_245))]) [17, 0, 16, 1, 15, 2, 3, 4, 5, 6, 7, 8, 9, 10, 11, 12, 13, 14] rfl, hfk_7_98, hfk_7_100, hfk_7_102, hfk_7_103, hfk_7_104, hfk_7_105, hfk_7_106, hfk_7_107, hfk_7_108, hfk_7_109, hfk_7_110, hfk_7_111, hfk_7_117, hfk_7_118, hfk_7_119, hfk_7_120, hfk_7_121, hch_7_122, hch_7_123, hch_7_124, hch_7_125, hfk_7_126, hfk_7_127, hfk_7_128, hfk_7_129, hfk_7_130, hfk_7_131, hfk_7_132, hfk_7_133, hfk_7_134, hfk_7_135, hfk_7_136, hfk_7_137, hln_7, hrq_7, Or.inl rfl, hsp⟩
                        · rw [if_neg (by decide)] at hsp
                          exact hret_315 (H, locs, ls, z_7, 1, g118_245, g119_245, g126_245, g127_245, g128_245, g137_245, x117_245, x120_245, x121_245, u7_1, u7_2, u7_3, u7_4, x129_245, x130_245, x131_245, x132_245, x133_245, x134_245, x135_245, x136_245) ⟨hS, hD.sub (ws' := [(h0, .inr (13, z_7)), (qf109, .inl (cf109, 96, .inl f109)), (qf100, .inl (cf100, 48000, .inl f100)), (qf110, .inl (cf110, 96, .inl f110)), (qf111, .inl (cf111, 96, .inl f111)), (qf127, .inl (cf127, 30, .inl g127_245)), (qf107, .inl (cf107, 96, .inl f107)), (qf102, .inl (cf102, 2048, .inl f102)), (qf104, .inl (cf104, 8, .inl f104)), (qf118, .inl (cf118, 2100, .inl g118_245)), (qf119, .inl (cf119, 2100, .inl g119_245)), (qf105, .inl (cf105, 8, .inl f105)), (qf128, .inl (cf128, 31, .inl g128_245)), (qf103, .inl (cf103, 8, .inl f103)), (qf106, .inl (cf106, 8, .inl f106)), (qf108, .inl (cf108, 8, .inl f108)), (qf137, .inl (cf137, 6, .inl g137_245)), (qf126, .inl (cf126, 1501, .inl g126_245))]) [17, 0, 16, 1, 15, 2, 3, 4, 5, 6, 7, 8, 9, 10, 11, 12, 13, 14] (by decide) rfl, hP.sub (ws' := [(h0, .inr (13, z_7)), (qf109, .inl (cf109, 96, .inl f109)), (qf100, .inl (cf100, 48000, .inl f100)), (qf110, .inl (cf110, 96, .inl f110)), (qf111, .inl (cf111, 96, .inl f111)), (qf127, .inl (cf127, 30, .inl g127_245)), (qf107, .inl (cf107, 96, .inl f107)), (qf102, .inl (cf102, 2048, .inl f102)), (qf104, .inl (cf104, 8, .inl f104)), (qf118, .inl (cf118, 2100, .inl g118_245)), (qf119, .inl (cf119, 2100, .inl g119_245)), (qf105, .inl (cf105, 8, .inl f105)), (qf128, .inl (cf128, 31, .inl g128_245)), (qf103, .inl (cf103, 8, .inl f103)), (qf106, .inl (cf106, 8, .inl f106)), (qf108, .inl (cf108, 8, .inl f108)), (qf137, .inl (cf137, 6, .inl g137_245)), (qf126, .inl (cf126, 1501, .inl g126_245))]) [17, 0, 16, 1, 15, 2, 3, 4, 5, 6, 7, 8, 9, 10, 11, 12, 13, 14] rfl, hfk_7_98, hfk_7_100, hfk_7_102, hfk_7_103, hfk_7_104, hfk_7_105, hfk_7_106, hfk_7_107, hfk_7_108, hfk_7_109, hfk_7_110, hfk_7_111, hfk_7_117, hfk_7_118, hfk_7_119, hfk_7_120, hfk_7_121, hch_7_122, hch_7_123, hch_7_124, hch_7_125, hfk_7_126, hfk_7_127, hfk_7_128, hfk_7_129, hfk_7_130, hfk_7_131, hfk_7_132, hfk_7_133, hfk_7_134, hfk_7_135, hfk_7_136, hfk_7_137, hln_7, hrq_7, Or.inr rfl, hsp⟩
                      · rw [if_neg c_12] at hsp
                        refine lv_iload hx hb dX13_methodFits_277 (lv_at hl 0 rfl) ?_
                        refine lv_aload_n hx hb dX13_methodFits_279 rfl (lv_at hl 4 rfl) ?_
                        refine va_get (D := (dC, dI)) (ci := 13) (v := .int x135_245) (C := RX13) (T := TX13) (N := 155) hx hb hts uV_h9_X13 hown hK hP 16 rfl rfl 135 (by decide) (hts (.fieldLink RX13 970 "ClassMillModel" "codeSize" "I") mw_h9_546) (fun _ h9 => h9) hfk_6_135 dX13_methodFits_280 ?_
                        refine lv_icmp_ge (tgt := 305) hx hb dX13_methodFits_283 (by decide) (fun c_14 => ?_) (fun c_14 => ?_)
                        · rw [if_pos c_14] at hsp
                          refine lv_aload_n hx hb dX13_methodFits_305 rfl (lv_at hl 4 rfl) ?_
                          refine lv_bipush (v := 9) hx hb dX13_methodFits_306 (by decide) ?_
                          refine lv_iload_n hx hb dX13_methodFits_308 rfl (lv_at hl 5 rfl) ?_
                          refine lv_iload_n hx hb dX13_methodFits_309 rfl (lv_at hl 6 rfl) ?_
                          refine lv_iload hx hb dX13_methodFits_310 (lv_at hl 2 rfl) ?_
                          obtain ⟨⟨u8_0, u8_1, u8_2, u8_3, u8_4⟩, hu_8, hsp⟩ := ox_bind hsp
                          try dsimp only at hsp
                          have hPc := hP.sub (ws' := [(h0, .inr (13, z_6))]) [16] rfl
                          have hDc := hD.sub (ws' := [(h0, .inr (13, z_6))]) [16] (by decide) rfl
                          have hKc := hK.sub (tys' := []) [] rfl
                          have hFc := va_free (wc := [(h0, .inr (13, z_6))]) hD hS hA [16] rfl
                          refine va_calli (va_runV (As := [.int 9, .int l1_245, .int l2_245, .int l5_245]) (rest := []) ⟨hx, hb, hml, hown, hts⟩ (tm_bad l dC dI H.size h0 z_6 9 l1_245 l2_245 l5_245 x122_245 x123_245 x124_245 x125_245 nf u8_0 u8_1 u8_2 u8_3 u8_4 hln_6 hfk_6_122 hfk_6_123 hfk_6_124 hfk_6_125 hu_8) (cwV 4 hts gv_h9_63 rfl rfl rfl (by decide +kernel) ⟨Nat.le_of_ble_eq_true rfl, Nat.le_of_ble_eq_true rfl⟩) ⟨fun a U g mk q => by obtain ⟨q0, q1, qP, qK, qD⟩ := q; exact ⟨q0, q1, qP, va_K.moved (u := U) (U := U.calling g mk a) (Vm.Alike.refl U.vm) qK, qD⟩, va_recv hKc hPc (ci := 13) (q0 := 0) rfl rfl, fun U hU hW => ⟨rfl, by rw [hU], by rw [hU]; exact hPc, va_K.moved hW.alike hKc, hDc.weaken (fun _ _ _ _ => trivial)⟩⟩ rfl rfl hl.1 rfl (lv_room (Nat.le_of_ble_eq_true rfl)) dX13_methodFits_312 ⟨Nat.le_of_ble_eq_true rfl, Nat.le_of_ble_eq_true rfl⟩) hS (fun q _ h => hFc q h) hFc ?_
                          clear hS
                          intro r_15 u t H1 locs ht hvm hw hB hz1 hk1 hS
                          obtain ⟨z_8, rfl⟩ : ∃ z, z = u := ⟨_, rfl⟩
                          obtain ⟨hP1, hK1, hD1⟩ := hB
                          rw [ht] at hP1
                          have hK1 := va_K.moved hvm.symm hK1
                          try dsimp only at hw
                          have hPD := va_join (wr := [(qf109, .inl (cf109, 96, .inl f109)), (qf110, .inl (cf110, 96, .inl f110)), (qf127, .inl (cf127, 30, .inl g127_245)), (qf107, .inl (cf107, 96, .inl f107)), (qf102, .inl (cf102, 2048, .inl f102)), (qf104, .inl (cf104, 8, .inl f104)), (qf118, .inl (cf118, 2100, .inl g118_245)), (qf119, .inl (cf119, 2100, .inl g119_245)), (qf105, .inl (cf105, 8, .inl f105)), (qf128, .inl (cf128, 31, .inl g128_245)), (qf103, .inl (cf103, 8, .inl f103)), (qf106, .inl (cf106, 8, .inl f106)), (qf108, .inl (cf108, 8, .inl f108)), (qf137, .inl (cf137, 6, .inl g137_245)), (qf126, .inl (cf126, 1501, .inl g126_245)), (qf111, .inl (cf111, 96, .inl f111)), (qf100, .inl (cf100, 48000, .inl f100))]) (w1 := [(h0, .inr (13, z_8))]) hP hD [16] [0, 1, 2, 3, 4, 5, 6, 7, 8, 9, 10, 11, 12, 13, 14, 15, 17] rfl rfl (by decide) (by decide) hk1 hFc hP1 hD1
                          clear hP hD
                          obtain ⟨hP, hD⟩ := hPD
                          replace hK := (hK.sub (tys' := [(cf109, .int), (cf110, .int), (cf127, .int), (cf107, .int), (cf102, .int), (cf104, .int), (cf118, .int), (cf119, .int), (cf105, .int), (cf128, .int), (cf103, .int), (cf106, .int), (cf108, .int), (cf137, .int), (cf126, .boolean), (cf111, .int), (cf100, .int)]) [0, 1, 2, 3, 4, 5, 6, 7, 8, 9, 10, 11, 12, 13, 14, 15, 16] rfl).app hK1
                          clear hPc hDc hKc hFc hP1 hK1 hD1 hz1 hk1 ht hvm
                          generalize H1 = H at hP hS ⊢
                          replace hP : va_P (dC, dI) vwCl [(qf109, .inl (cf109, 96, .inl f109)), (qf110, .inl (cf110, 96, .inl f110)), (qf127, .inl (cf127, 30, .inl g127_245)), (qf107, .inl (cf107, 96, .inl f107)), (qf102, .inl (cf102, 2048, .inl f102)), (qf104, .inl (cf104, 8, .inl f104)), (qf118, .inl (cf118, 2100, .inl g118_245)), (qf119, .inl (cf119, 2100, .inl g119_245)), (qf105, .inl (cf105, 8, .inl f105)), (qf128, .inl (cf128, 31, .inl g128_245)), (qf103, .inl (cf103, 8, .inl f103)), (qf106, .inl (cf106, 8, .inl f106)), (qf108, .inl (cf108, 8, .inl f108)), (qf137, .inl (cf137, 6, .inl g137_245)), (qf126, .inl (cf126, 1501, .inl g126_245)), (qf111, .inl (cf111, 96, .inl f111)), (qf100, .inl (cf100, 48000, .inl f100)), (h0, .inr (13, z_8))] H := hP
                          replace hD : va_D A [(qf109, .inl (cf109, 96, .inl f109)), (qf110, .inl (cf110, 96, .inl f110)), (qf127, .inl (cf127, 30, .inl g127_245)), (qf107, .inl (cf107, 96, .inl f107)), (qf102, .inl (cf102, 2048, .inl f102)), (qf104, .inl (cf104, 8, .inl f104)), (qf118, .inl (cf118, 2100, .inl g118_245)), (qf119, .inl (cf119, 2100, .inl g119_245)), (qf105, .inl (cf105, 8, .inl f105)), (qf128, .inl (cf128, 31, .inl g128_245)), (qf103, .inl (cf103, 8, .inl f103)), (qf106, .inl (cf106, 8, .inl f106)), (qf108, .inl (cf108, 8, .inl f108)), (qf137, .inl (cf137, 6, .inl g137_245)), (qf126, .inl (cf126, 1501, .inl g126_245)), (qf111, .inl (cf111, 96, .inl f111)), (qf100, .inl (cf100, 48000, .inl f100)), (h0, .inr (13, z_8))] := hD
                          replace hK : va_K (dC, dI) vwCl [(cf109, .int), (cf110, .int), (cf127, .int), (cf107, .int), (cf102, .int), (cf104, .int), (cf118, .int), (cf119, .int), (cf105, .int), (cf128, .int), (cf103, .int), (cf106, .int), (cf108, .int), (cf137, .int), (cf126, .boolean), (cf111, .int), (cf100, .int)] s := hK
                          obtain ⟨hwa_8, hln_8, hre_8, hch_8_122, hch_8_123, hch_8_124, hch_8_125⟩ := hw
                          have hfk_8_98 : z_8[98]? = some (.int v98) := (hre_8 98 (by decide) (by decide) (by decide) (by decide)).trans (hfk_6_98)
                          have hfk_8_100 : z_8[100]? = some (.ref qf100) := (hre_8 100 (by decide) (by decide) (by decide) (by decide)).trans (hfk_6_100)
                          have hfk_8_102 : z_8[102]? = some (.ref qf102) := (hre_8 102 (by decide) (by decide) (by decide) (by decide)).trans (hfk_6_102)
                          have hfk_8_103 : z_8[103]? = some (.ref qf103) := (hre_8 103 (by decide) (by decide) (by decide) (by decide)).trans (hfk_6_103)
                          have hfk_8_104 : z_8[104]? = some (.ref qf104) := (hre_8 104 (by decide) (by decide) (by decide) (by decide)).trans (hfk_6_104)
                          have hfk_8_105 : z_8[105]? = some (.ref qf105) := (hre_8 105 (by decide) (by decide) (by decide) (by decide)).trans (hfk_6_105)
                          have hfk_8_106 : z_8[106]? = some (.ref qf106) := (hre_8 106 (by decide) (by decide) (by decide) (by decide)).trans (hfk_6_106)
                          have hfk_8_107 : z_8[107]? = some (.ref qf107) := (hre_8 107 (by decide) (by decide) (by decide) (by decide)).trans (hfk_6_107)
                          have hfk_8_108 : z_8[108]? = some (.ref qf108) := (hre_8 108 (by decide) (by decide) (by decide) (by decide)).trans (hfk_6_108)
                          have hfk_8_109 : z_8[109]? = some (.ref qf109) := (hre_8 109 (by decide) (by decide) (by decide) (by decide)).trans (hfk_6_109)
                          have hfk_8_110 : z_8[110]? = some (.ref qf110) := (hre_8 110 (by decide) (by decide) (by decide) (by decide)).trans (hfk_6_110)
                          have hfk_8_111 : z_8[111]? = some (.ref qf111) := (hre_8 111 (by decide) (by decide) (by decide) (by decide)).trans (hfk_6_111)
                          have hfk_8_117 : z_8[117]? = some (.int x117_245) := (hre_8 117 (by decide) (by decide) (by decide) (by decide)).trans (hfk_6_117)
                          have hfk_8_118 : z_8[118]? = some (.ref qf118) := (hre_8 118 (by decide) (by decide) (by decide) (by decide)).trans (hfk_6_118)
                          have hfk_8_119 : z_8[119]? = some (.ref qf119) := (hre_8 119 (by decide) (by decide) (by decide) (by decide)).trans (hfk_6_119)
                          have hfk_8_120 : z_8[120]? = some (.int x120_245) := (hre_8 120 (by decide) (by decide) (by decide) (by decide)).trans (hfk_6_120)
                          have hfk_8_121 : z_8[121]? = some (.int x121_245) := (hre_8 121 (by decide) (by decide) (by decide) (by decide)).trans (hfk_6_121)
                          have hfk_8_126 : z_8[126]? = some (.ref qf126) := (hre_8 126 (by decide) (by decide) (by decide) (by decide)).trans (hfk_6_126)
                          have hfk_8_127 : z_8[127]? = some (.ref qf127) := (hre_8 127 (by decide) (by decide) (by decide) (by decide)).trans (hfk_6_127)
                          have hfk_8_128 : z_8[128]? = some (.ref qf128) := (hre_8 128 (by decide) (by decide) (by decide) (by decide)).trans (hfk_6_128)
                          have hfk_8_129 : z_8[129]? = some (.int x129_245) := (hre_8 129 (by decide) (by decide) (by decide) (by decide)).trans (hfk_6_129)
                          have hfk_8_130 : z_8[130]? = some (.int x130_245) := (hre_8 130 (by decide) (by decide) (by decide) (by decide)).trans (hfk_6_130)
                          have hfk_8_131 : z_8[131]? = some (.int x131_245) := (hre_8 131 (by decide) (by decide) (by decide) (by decide)).trans (hfk_6_131)
                          have hfk_8_132 : z_8[132]? = some (.int x132_245) := (hre_8 132 (by decide) (by decide) (by decide) (by decide)).trans (hfk_6_132)
                          have hfk_8_133 : z_8[133]? = some (.int x133_245) := (hre_8 133 (by decide) (by decide) (by decide) (by decide)).trans (hfk_6_133)
                          have hfk_8_134 : z_8[134]? = some (.int x134_245) := (hre_8 134 (by decide) (by decide) (by decide) (by decide)).trans (hfk_6_134)
                          have hfk_8_135 : z_8[135]? = some (.int x135_245) := (hre_8 135 (by decide) (by decide) (by decide) (by decide)).trans (hfk_6_135)
                          have hfk_8_136 : z_8[136]? = some (.int x136_245) := (hre_8 136 (by decide) (by decide) (by decide) (by decide)).trans (hfk_6_136)
                          have hfk_8_137 : z_8[137]? = some (.ref qf137) := (hre_8 137 (by decide) (by decide) (by decide) (by decide)).trans (hfk_6_137)
                          have hrq_8 : ∀ j : Nat, j ≠ 117 → j ≠ 120 → j ≠ 121 → j ≠ 122 → j ≠ 123 → j ≠ 124 → j ≠ 125 → j ≠ 129 → j ≠ 130 → j ≠ 131 → j ≠ 132 → j ≠ 133 → j ≠ 134 → j ≠ 135 → j ≠ 136 → z_8[j]? = zs[j]? := fun j g117 g120 g121 g122 g123 g124 g125 g129 g130 g131 g132 g133 g134 g135 g136 => (hre_8 j g122 g123 g124 g125).trans (hrq_6 j g117 g120 g121 g122 g123 g124 g125 g129 g130 g131 g132 g133 g134 g135 g136)
                          obtain ⟨rfl, hz_8⟩ := hwa_8
                          rcases hz_8 with rfl | rfl
                          · rw [if_pos rfl] at hsp
                            exact hret_315 (H, locs, ls, z_8, 0, g118_245, g119_245, g126_245, g127_245, g128_245, g137_245, x117_245, x120_245, x121_245, u8_1, u8_2, u8_3, u8_4, x129_245, x130_245, x131_245, x132_245, x133_245, x134_245, x135_245, x136_245) ⟨hS, hD.sub (ws' := [(h0, .inr (13, z_8)), (qf109, .inl (cf109, 96, .inl f109)), (qf100, .inl (cf100, 48000, .inl f100)), (qf110, .inl (cf110, 96, .inl f110)), (qf111, .inl (cf111, 96, .inl f111)), (qf127, .inl (cf127, 30, .inl g127_245)), (qf107, .inl (cf107, 96, .inl f107)), (qf102, .inl (cf102, 2048, .inl f102)), (qf104, .inl (cf104, 8, .inl f104)), (qf118, .inl (cf118, 2100, .inl g118_245)), (qf119, .inl (cf119, 2100, .inl g119_245)), (qf105, .inl (cf105, 8, .inl f105)), (qf128, .inl (cf128, 31, .inl g128_245)), (qf103, .inl (cf103, 8, .inl f103)), (qf106, .inl (cf106, 8, .inl f106)), (qf108, .inl (cf108, 8, .inl f108)), (qf137, .inl (cf137, 6, .inl g137_245)), (qf126, .inl (cf126, 1501, .inl g126_245))]) [17, 0, 16, 1, 15, 2, 3, 4, 5, 6, 7, 8, 9, 10, 11, 12, 13, 14] (by decide) rfl, hP.sub (ws' := [(h0, .inr (13, z_8)), (qf109, .inl (cf109, 96, .inl f109)), (qf100, .inl (cf100, 48000, .inl f100)), (qf110, .inl (cf110, 96, .inl f110)), (qf111, .inl (cf111, 96, .inl f111)), (qf127, .inl (cf127, 30, .inl g127_245)), (qf107, .inl (cf107, 96, .inl f107)), (qf102, .inl (cf102, 2048, .inl f102)), (qf104, .inl (cf104, 8, .inl f104)), (qf118, .inl (cf118, 2100, .inl g118_245)), (qf119, .inl (cf119, 2100, .inl g119_245)), (qf105, .inl (cf105, 8, .inl f105)), (qf128, .inl (cf128, 31, .inl g128_245)), (qf103, .inl (cf103, 8, .inl f103)), (qf106, .inl (cf106, 8, .inl f106)), (qf108, .inl (cf108, 8, .inl f108)), (qf137, .inl (cf137, 6, .inl g137_245)), (qf126, .inl (cf126, 1501, .inl g126_245))]) [17, 0, 16, 1, 15, 2, 3, 4, 5, 6, 7, 8, 9, 10, 11, 12, 13, 14] rfl, hfk_8_98, hfk_8_100, hfk_8_102, hfk_8_103, hfk_8_104, hfk_8_105, hfk_8_106, hfk_8_107, hfk_8_108, hfk_8_109, hfk_8_110, hfk_8_111, hfk_8_117, hfk_8_118, hfk_8_119, hfk_8_120, hfk_8_121, hch_8_122, hch_8_123, hch_8_124, hch_8_125, hfk_8_126, hfk_8_127, hfk_8_128, hfk_8_129, hfk_8_130, hfk_8_131, hfk_8_132, hfk_8_133, hfk_8_134, hfk_8_135, hfk_8_136, hfk_8_137, hln_8, hrq_8, Or.inl rfl, hsp⟩
                          · rw [if_neg (by decide)] at hsp
                            exact hret_315 (H, locs, ls, z_8, 1, g118_245, g119_245, g126_245, g127_245, g128_245, g137_245, x117_245, x120_245, x121_245, u8_1, u8_2, u8_3, u8_4, x129_245, x130_245, x131_245, x132_245, x133_245, x134_245, x135_245, x136_245) ⟨hS, hD.sub (ws' := [(h0, .inr (13, z_8)), (qf109, .inl (cf109, 96, .inl f109)), (qf100, .inl (cf100, 48000, .inl f100)), (qf110, .inl (cf110, 96, .inl f110)), (qf111, .inl (cf111, 96, .inl f111)), (qf127, .inl (cf127, 30, .inl g127_245)), (qf107, .inl (cf107, 96, .inl f107)), (qf102, .inl (cf102, 2048, .inl f102)), (qf104, .inl (cf104, 8, .inl f104)), (qf118, .inl (cf118, 2100, .inl g118_245)), (qf119, .inl (cf119, 2100, .inl g119_245)), (qf105, .inl (cf105, 8, .inl f105)), (qf128, .inl (cf128, 31, .inl g128_245)), (qf103, .inl (cf103, 8, .inl f103)), (qf106, .inl (cf106, 8, .inl f106)), (qf108, .inl (cf108, 8, .inl f108)), (qf137, .inl (cf137, 6, .inl g137_245)), (qf126, .inl (cf126, 1501, .inl g126_245))]) [17, 0, 16, 1, 15, 2, 3, 4, 5, 6, 7, 8, 9, 10, 11, 12, 13, 14] (by decide) rfl, hP.sub (ws' := [(h0, .inr (13, z_8)), (qf109, .inl (cf109, 96, .inl f109)), (qf100, .inl (cf100, 48000, .inl f100)), (qf110, .inl (cf110, 96, .inl f110)), (qf111, .inl (cf111, 96, .inl f111)), (qf127, .inl (cf127, 30, .inl g127_245)), (qf107, .inl (cf107, 96, .inl f107)), (qf102, .inl (cf102, 2048, .inl f102)), (qf104, .inl (cf104, 8, .inl f104)), (qf118, .inl (cf118, 2100, .inl g118_245)), (qf119, .inl (cf119, 2100, .inl g119_245)), (qf105, .inl (cf105, 8, .inl f105)), (qf128, .inl (cf128, 31, .inl g128_245)), (qf103, .inl (cf103, 8, .inl f103)), (qf106, .inl (cf106, 8, .inl f106)), (qf108, .inl (cf108, 8, .inl f108)), (qf137, .inl (cf137, 6, .inl g137_245)), (qf126, .inl (cf126, 1501, .inl g126_245))]) [17, 0, 16, 1, 15, 2, 3, 4, 5, 6, 7, 8, 9, 10, 11, 12, 13, 14] rfl, hfk_8_98, hfk_8_100, hfk_8_102, hfk_8_103, hfk_8_104, hfk_8_105, hfk_8_106, hfk_8_107, hfk_8_108, hfk_8_109, hfk_8_110, hfk_8_111, hfk_8_117, hfk_8_118, hfk_8_119, hfk_8_120, hfk_8_121, hch_8_122, hch_8_123, hch_8_124, hch_8_125, hfk_8_126, hfk_8_127, hfk_8_128, hfk_8_129, hfk_8_130, hfk_8_131, hfk_8_132, hfk_8_133, hfk_8_134, hfk_8_135, hfk_8_136, hfk_8_137, hln_8, hrq_8, Or.inr rfl, hsp⟩
                        · rw [if_neg c_14] at hsp
                          refine lv_aload_n hx hb dX13_methodFits_286 rfl (lv_at hl 4 rfl) ?_
                          refine va_get (D := (dC, dI)) (ci := 13) (v := .ref qf126) (C := RX13) (T := TX13) (N := 155) hx hb hts uV_h9_X13 hown hK hP 16 rfl rfl 126 (by decide) (hts (.fieldLink RX13 267 "ClassMillModel" "begins" "[Z") mw_h9_547) (fun _ h9 => h9) hfk_6_126 dX13_methodFits_287 ?_
                          refine lv_iload hx hb dX13_methodFits_290 (lv_at hl 0 rfl) ?_
                          obtain ⟨hi_16, hsp⟩ := ox_in hsp
                          refine va_zald hx hb hK hP 14 14 rfl rfl (i := u6_0) hi_16 dX13_methodFits_292 ?_
                          refine lv_if_eq (tgt := 305) hx hb dX13_methodFits_293 (by decide) (fun c_17 => ?_) (fun c_17 => ?_)
                          · rw [if_pos c_17] at hsp
                            refine lv_aload_n hx hb dX13_methodFits_305 rfl (lv_at hl 4 rfl) ?_
                            refine lv_bipush (v := 9) hx hb dX13_methodFits_306 (by decide) ?_
                            refine lv_iload_n hx hb dX13_methodFits_308 rfl (lv_at hl 5 rfl) ?_
                            refine lv_iload_n hx hb dX13_methodFits_309 rfl (lv_at hl 6 rfl) ?_
                            refine lv_iload hx hb dX13_methodFits_310 (lv_at hl 2 rfl) ?_
                            obtain ⟨⟨u9_0, u9_1, u9_2, u9_3, u9_4⟩, hu_9, hsp⟩ := ox_bind hsp
                            try dsimp only at hsp
                            have hPc := hP.sub (ws' := [(h0, .inr (13, z_6))]) [16] rfl
                            have hDc := hD.sub (ws' := [(h0, .inr (13, z_6))]) [16] (by decide) rfl
                            have hKc := hK.sub (tys' := []) [] rfl
                            have hFc := va_free (wc := [(h0, .inr (13, z_6))]) hD hS hA [16] rfl
                            refine va_calli (va_runV (As := [.int 9, .int l1_245, .int l2_245, .int l5_245]) (rest := []) ⟨hx, hb, hml, hown, hts⟩ (tm_bad l dC dI H.size h0 z_6 9 l1_245 l2_245 l5_245 x122_245 x123_245 x124_245 x125_245 nf u9_0 u9_1 u9_2 u9_3 u9_4 hln_6 hfk_6_122 hfk_6_123 hfk_6_124 hfk_6_125 hu_9) (cwV 4 hts gv_h9_63 rfl rfl rfl (by decide +kernel) ⟨Nat.le_of_ble_eq_true rfl, Nat.le_of_ble_eq_true rfl⟩) ⟨fun a U g mk q => by obtain ⟨q0, q1, qP, qK, qD⟩ := q; exact ⟨q0, q1, qP, va_K.moved (u := U) (U := U.calling g mk a) (Vm.Alike.refl U.vm) qK, qD⟩, va_recv hKc hPc (ci := 13) (q0 := 0) rfl rfl, fun U hU hW => ⟨rfl, by rw [hU], by rw [hU]; exact hPc, va_K.moved hW.alike hKc, hDc.weaken (fun _ _ _ _ => trivial)⟩⟩ rfl rfl hl.1 rfl (lv_room (Nat.le_of_ble_eq_true rfl)) dX13_methodFits_312 ⟨Nat.le_of_ble_eq_true rfl, Nat.le_of_ble_eq_true rfl⟩) hS (fun q _ h => hFc q h) hFc ?_
                            clear hS
                            intro r_18 u t H1 locs ht hvm hw hB hz1 hk1 hS
                            obtain ⟨z_9, rfl⟩ : ∃ z, z = u := ⟨_, rfl⟩
                            obtain ⟨hP1, hK1, hD1⟩ := hB
                            rw [ht] at hP1
                            have hK1 := va_K.moved hvm.symm hK1
                            try dsimp only at hw
                            have hPD := va_join (wr := [(qf109, .inl (cf109, 96, .inl f109)), (qf110, .inl (cf110, 96, .inl f110)), (qf127, .inl (cf127, 30, .inl g127_245)), (qf107, .inl (cf107, 96, .inl f107)), (qf102, .inl (cf102, 2048, .inl f102)), (qf104, .inl (cf104, 8, .inl f104)), (qf118, .inl (cf118, 2100, .inl g118_245)), (qf119, .inl (cf119, 2100, .inl g119_245)), (qf105, .inl (cf105, 8, .inl f105)), (qf128, .inl (cf128, 31, .inl g128_245)), (qf103, .inl (cf103, 8, .inl f103)), (qf106, .inl (cf106, 8, .inl f106)), (qf108, .inl (cf108, 8, .inl f108)), (qf137, .inl (cf137, 6, .inl g137_245)), (qf126, .inl (cf126, 1501, .inl g126_245)), (qf111, .inl (cf111, 96, .inl f111)), (qf100, .inl (cf100, 48000, .inl f100))]) (w1 := [(h0, .inr (13, z_9))]) hP hD [16] [0, 1, 2, 3, 4, 5, 6, 7, 8, 9, 10, 11, 12, 13, 14, 15, 17] rfl rfl (by decide) (by decide) hk1 hFc hP1 hD1
                            clear hP hD
                            obtain ⟨hP, hD⟩ := hPD
                            replace hK := (hK.sub (tys' := [(cf109, .int), (cf110, .int), (cf127, .int), (cf107, .int), (cf102, .int), (cf104, .int), (cf118, .int), (cf119, .int), (cf105, .int), (cf128, .int), (cf103, .int), (cf106, .int), (cf108, .int), (cf137, .int), (cf126, .boolean), (cf111, .int), (cf100, .int)]) [0, 1, 2, 3, 4, 5, 6, 7, 8, 9, 10, 11, 12, 13, 14, 15, 16] rfl).app hK1
                            clear hPc hDc hKc hFc hP1 hK1 hD1 hz1 hk1 ht hvm
                            generalize H1 = H at hP hS ⊢
                            replace hP : va_P (dC, dI) vwCl [(qf109, .inl (cf109, 96, .inl f109)), (qf110, .inl (cf110, 96, .inl f110)), (qf127, .inl (cf127, 30, .inl g127_245)), (qf107, .inl (cf107, 96, .inl f107)), (qf102, .inl (cf102, 2048, .inl f102)), (qf104, .inl (cf104, 8, .inl f104)), (qf118, .inl (cf118, 2100, .inl g118_245)), (qf119, .inl (cf119, 2100, .inl g119_245)), (qf105, .inl (cf105, 8, .inl f105)), (qf128, .inl (cf128, 31, .inl g128_245)), (qf103, .inl (cf103, 8, .inl f103)), (qf106, .inl (cf106, 8, .inl f106)), (qf108, .inl (cf108, 8, .inl f108)), (qf137, .inl (cf137, 6, .inl g137_245)), (qf126, .inl (cf126, 1501, .inl g126_245)), (qf111, .inl (cf111, 96, .inl f111)), (qf100, .inl (cf100, 48000, .inl f100)), (h0, .inr (13, z_9))] H := hP
                            replace hD : va_D A [(qf109, .inl (cf109, 96, .inl f109)), (qf110, .inl (cf110, 96, .inl f110)), (qf127, .inl (cf127, 30, .inl g127_245)), (qf107, .inl (cf107, 96, .inl f107)), (qf102, .inl (cf102, 2048, .inl f102)), (qf104, .inl (cf104, 8, .inl f104)), (qf118, .inl (cf118, 2100, .inl g118_245)), (qf119, .inl (cf119, 2100, .inl g119_245)), (qf105, .inl (cf105, 8, .inl f105)), (qf128, .inl (cf128, 31, .inl g128_245)), (qf103, .inl (cf103, 8, .inl f103)), (qf106, .inl (cf106, 8, .inl f106)), (qf108, .inl (cf108, 8, .inl f108)), (qf137, .inl (cf137, 6, .inl g137_245)), (qf126, .inl (cf126, 1501, .inl g126_245)), (qf111, .inl (cf111, 96, .inl f111)), (qf100, .inl (cf100, 48000, .inl f100)), (h0, .inr (13, z_9))] := hD
                            replace hK : va_K (dC, dI) vwCl [(cf109, .int), (cf110, .int), (cf127, .int), (cf107, .int), (cf102, .int), (cf104, .int), (cf118, .int), (cf119, .int), (cf105, .int), (cf128, .int), (cf103, .int), (cf106, .int), (cf108, .int), (cf137, .int), (cf126, .boolean), (cf111, .int), (cf100, .int)] s := hK
                            obtain ⟨hwa_9, hln_9, hre_9, hch_9_122, hch_9_123, hch_9_124, hch_9_125⟩ := hw
                            have hfk_9_98 : z_9[98]? = some (.int v98) := (hre_9 98 (by decide) (by decide) (by decide) (by decide)).trans (hfk_6_98)
                            have hfk_9_100 : z_9[100]? = some (.ref qf100) := (hre_9 100 (by decide) (by decide) (by decide) (by decide)).trans (hfk_6_100)
                            have hfk_9_102 : z_9[102]? = some (.ref qf102) := (hre_9 102 (by decide) (by decide) (by decide) (by decide)).trans (hfk_6_102)
                            have hfk_9_103 : z_9[103]? = some (.ref qf103) := (hre_9 103 (by decide) (by decide) (by decide) (by decide)).trans (hfk_6_103)
                            have hfk_9_104 : z_9[104]? = some (.ref qf104) := (hre_9 104 (by decide) (by decide) (by decide) (by decide)).trans (hfk_6_104)
                            have hfk_9_105 : z_9[105]? = some (.ref qf105) := (hre_9 105 (by decide) (by decide) (by decide) (by decide)).trans (hfk_6_105)
                            have hfk_9_106 : z_9[106]? = some (.ref qf106) := (hre_9 106 (by decide) (by decide) (by decide) (by decide)).trans (hfk_6_106)
                            have hfk_9_107 : z_9[107]? = some (.ref qf107) := (hre_9 107 (by decide) (by decide) (by decide) (by decide)).trans (hfk_6_107)
                            have hfk_9_108 : z_9[108]? = some (.ref qf108) := (hre_9 108 (by decide) (by decide) (by decide) (by decide)).trans (hfk_6_108)
                            have hfk_9_109 : z_9[109]? = some (.ref qf109) := (hre_9 109 (by decide) (by decide) (by decide) (by decide)).trans (hfk_6_109)
                            have hfk_9_110 : z_9[110]? = some (.ref qf110) := (hre_9 110 (by decide) (by decide) (by decide) (by decide)).trans (hfk_6_110)
                            have hfk_9_111 : z_9[111]? = some (.ref qf111) := (hre_9 111 (by decide) (by decide) (by decide) (by decide)).trans (hfk_6_111)
                            have hfk_9_117 : z_9[117]? = some (.int x117_245) := (hre_9 117 (by decide) (by decide) (by decide) (by decide)).trans (hfk_6_117)
                            have hfk_9_118 : z_9[118]? = some (.ref qf118) := (hre_9 118 (by decide) (by decide) (by decide) (by decide)).trans (hfk_6_118)
                            have hfk_9_119 : z_9[119]? = some (.ref qf119) := (hre_9 119 (by decide) (by decide) (by decide) (by decide)).trans (hfk_6_119)
                            have hfk_9_120 : z_9[120]? = some (.int x120_245) := (hre_9 120 (by decide) (by decide) (by decide) (by decide)).trans (hfk_6_120)
                            have hfk_9_121 : z_9[121]? = some (.int x121_245) := (hre_9 121 (by decide) (by decide) (by decide) (by decide)).trans (hfk_6_121)
                            have hfk_9_126 : z_9[126]? = some (.ref qf126) := (hre_9 126 (by decide) (by decide) (by decide) (by decide)).trans (hfk_6_126)
                            have hfk_9_127 : z_9[127]? = some (.ref qf127) := (hre_9 127 (by decide) (by decide) (by decide) (by decide)).trans (hfk_6_127)
                            have hfk_9_128 : z_9[128]? = some (.ref qf128) := (hre_9 128 (by decide) (by decide) (by decide) (by decide)).trans (hfk_6_128)
                            have hfk_9_129 : z_9[129]? = some (.int x129_245) := (hre_9 129 (by decide) (by decide) (by decide) (by decide)).trans (hfk_6_129)
                            have hfk_9_130 : z_9[130]? = some (.int x130_245) := (hre_9 130 (by decide) (by decide) (by decide) (by decide)).trans (hfk_6_130)
                            have hfk_9_131 : z_9[131]? = some (.int x131_245) := (hre_9 131 (by decide) (by decide) (by decide) (by decide)).trans (hfk_6_131)
                            have hfk_9_132 : z_9[132]? = some (.int x132_245) := (hre_9 132 (by decide) (by decide) (by decide) (by decide)).trans (hfk_6_132)
                            have hfk_9_133 : z_9[133]? = some (.int x133_245) := (hre_9 133 (by decide) (by decide) (by decide) (by decide)).trans (hfk_6_133)
                            have hfk_9_134 : z_9[134]? = some (.int x134_245) := (hre_9 134 (by decide) (by decide) (by decide) (by decide)).trans (hfk_6_134)
                            have hfk_9_135 : z_9[135]? = some (.int x135_245) := (hre_9 135 (by decide) (by decide) (by decide) (by decide)).trans (hfk_6_135)
                            have hfk_9_136 : z_9[136]? = some (.int x136_245) := (hre_9 136 (by decide) (by decide) (by decide) (by decide)).trans (hfk_6_136)
                            have hfk_9_137 : z_9[137]? = some (.ref qf137) := (hre_9 137 (by decide) (by decide) (by decide) (by decide)).trans (hfk_6_137)
                            have hrq_9 : ∀ j : Nat, j ≠ 117 → j ≠ 120 → j ≠ 121 → j ≠ 122 → j ≠ 123 → j ≠ 124 → j ≠ 125 → j ≠ 129 → j ≠ 130 → j ≠ 131 → j ≠ 132 → j ≠ 133 → j ≠ 134 → j ≠ 135 → j ≠ 136 → z_9[j]? = zs[j]? := fun j g117 g120 g121 g122 g123 g124 g125 g129 g130 g131 g132 g133 g134 g135 g136 => (hre_9 j g122 g123 g124 g125).trans (hrq_6 j g117 g120 g121 g122 g123 g124 g125 g129 g130 g131 g132 g133 g134 g135 g136)
                            obtain ⟨rfl, hz_9⟩ := hwa_9
                            rcases hz_9 with rfl | rfl
                            · rw [if_pos rfl] at hsp
                              exact hret_315 (H, locs, ls, z_9, 0, g118_245, g119_245, g126_245, g127_245, g128_245, g137_245, x117_245, x120_245, x121_245, u9_1, u9_2, u9_3, u9_4, x129_245, x130_245, x131_245, x132_245, x133_245, x134_245, x135_245, x136_245) ⟨hS, hD.sub (ws' := [(h0, .inr (13, z_9)), (qf109, .inl (cf109, 96, .inl f109)), (qf100, .inl (cf100, 48000, .inl f100)), (qf110, .inl (cf110, 96, .inl f110)), (qf111, .inl (cf111, 96, .inl f111)), (qf127, .inl (cf127, 30, .inl g127_245)), (qf107, .inl (cf107, 96, .inl f107)), (qf102, .inl (cf102, 2048, .inl f102)), (qf104, .inl (cf104, 8, .inl f104)), (qf118, .inl (cf118, 2100, .inl g118_245)), (qf119, .inl (cf119, 2100, .inl g119_245)), (qf105, .inl (cf105, 8, .inl f105)), (qf128, .inl (cf128, 31, .inl g128_245)), (qf103, .inl (cf103, 8, .inl f103)), (qf106, .inl (cf106, 8, .inl f106)), (qf108, .inl (cf108, 8, .inl f108)), (qf137, .inl (cf137, 6, .inl g137_245)), (qf126, .inl (cf126, 1501, .inl g126_245))]) [17, 0, 16, 1, 15, 2, 3, 4, 5, 6, 7, 8, 9, 10, 11, 12, 13, 14] (by decide) rfl, hP.sub (ws' := [(h0, .inr (13, z_9)), (qf109, .inl (cf109, 96, .inl f109)), (qf100, .inl (cf100, 48000, .inl f100)), (qf110, .inl (cf110, 96, .inl f110)), (qf111, .inl (cf111, 96, .inl f111)), (qf127, .inl (cf127, 30, .inl g127_245)), (qf107, .inl (cf107, 96, .inl f107)), (qf102, .inl (cf102, 2048, .inl f102)), (qf104, .inl (cf104, 8, .inl f104)), (qf118, .inl (cf118, 2100, .inl g118_245)), (qf119, .inl (cf119, 2100, .inl g119_245)), (qf105, .inl (cf105, 8, .inl f105)), (qf128, .inl (cf128, 31, .inl g128_245)), (qf103, .inl (cf103, 8, .inl f103)), (qf106, .inl (cf106, 8, .inl f106)), (qf108, .inl (cf108, 8, .inl f108)), (qf137, .inl (cf137, 6, .inl g137_245)), (qf126, .inl (cf126, 1501, .inl g126_245))]) [17, 0, 16, 1, 15, 2, 3, 4, 5, 6, 7, 8, 9, 10, 11, 12, 13, 14] rfl, hfk_9_98, hfk_9_100, hfk_9_102, hfk_9_103, hfk_9_104, hfk_9_105, hfk_9_106, hfk_9_107, hfk_9_108, hfk_9_109, hfk_9_110, hfk_9_111, hfk_9_117, hfk_9_118, hfk_9_119, hfk_9_120, hfk_9_121, hch_9_122, hch_9_123, hch_9_124, hch_9_125, hfk_9_126, hfk_9_127, hfk_9_128, hfk_9_129, hfk_9_130, hfk_9_131, hfk_9_132, hfk_9_133, hfk_9_134, hfk_9_135, hfk_9_136, hfk_9_137, hln_9, hrq_9, Or.inl rfl, hsp⟩
                            · rw [if_neg (by decide)] at hsp
                              exact hret_315 (H, locs, ls, z_9, 1, g118_245, g119_245, g126_245, g127_245, g128_245, g137_245, x117_245, x120_245, x121_245, u9_1, u9_2, u9_3, u9_4, x129_245, x130_245, x131_245, x132_245, x133_245, x134_245, x135_245, x136_245) ⟨hS, hD.sub (ws' := [(h0, .inr (13, z_9)), (qf109, .inl (cf109, 96, .inl f109)), (qf100, .inl (cf100, 48000, .inl f100)), (qf110, .inl (cf110, 96, .inl f110)), (qf111, .inl (cf111, 96, .inl f111)), (qf127, .inl (cf127, 30, .inl g127_245)), (qf107, .inl (cf107, 96, .inl f107)), (qf102, .inl (cf102, 2048, .inl f102)), (qf104, .inl (cf104, 8, .inl f104)), (qf118, .inl (cf118, 2100, .inl g118_245)), (qf119, .inl (cf119, 2100, .inl g119_245)), (qf105, .inl (cf105, 8, .inl f105)), (qf128, .inl (cf128, 31, .inl g128_245)), (qf103, .inl (cf103, 8, .inl f103)), (qf106, .inl (cf106, 8, .inl f106)), (qf108, .inl (cf108, 8, .inl f108)), (qf137, .inl (cf137, 6, .inl g137_245)), (qf126, .inl (cf126, 1501, .inl g126_245))]) [17, 0, 16, 1, 15, 2, 3, 4, 5, 6, 7, 8, 9, 10, 11, 12, 13, 14] (by decide) rfl, hP.sub (ws' := [(h0, .inr (13, z_9)), (qf109, .inl (cf109, 96, .inl f109)), (qf100, .inl (cf100, 48000, .inl f100)), (qf110, .inl (cf110, 96, .inl f110)), (qf111, .inl (cf111, 96, .inl f111)), (qf127, .inl (cf127, 30, .inl g127_245)), (qf107, .inl (cf107, 96, .inl f107)), (qf102, .inl (cf102, 2048, .inl f102)), (qf104, .inl (cf104, 8, .inl f104)), (qf118, .inl (cf118, 2100, .inl g118_245)), (qf119, .inl (cf119, 2100, .inl g119_245)), (qf105, .inl (cf105, 8, .inl f105)), (qf128, .inl (cf128, 31, .inl g128_245)), (qf103, .inl (cf103, 8, .inl f103)), (qf106, .inl (cf106, 8, .inl f106)), (qf108, .inl (cf108, 8, .inl f108)), (qf137, .inl (cf137, 6, .inl g137_245)), (qf126, .inl (cf126, 1501, .inl g126_245))]) [17, 0, 16, 1, 15, 2, 3, 4, 5, 6, 7, 8, 9, 10, 11, 12, 13, 14] rfl, hfk_9_98, hfk_9_100, hfk_9_102, hfk_9_103, hfk_9_104, hfk_9_105, hfk_9_106, hfk_9_107, hfk_9_108, hfk_9_109, hfk_9_110, hfk_9_111, hfk_9_117, hfk_9_118, hfk_9_119, hfk_9_120, hfk_9_121, hch_9_122, hch_9_123, hch_9_124, hch_9_125, hfk_9_126, hfk_9_127, hfk_9_128, hfk_9_129, hfk_9_130, hfk_9_131, hfk_9_132, hfk_9_133, hfk_9_134, hfk_9_135, hfk_9_136, hfk_9_137, hln_9, hrq_9, Or.inr rfl, hsp⟩
                          · rw [if_neg c_17] at hsp
                            refine lv_aload_n hx hb dX13_methodFits_296 rfl (lv_at hl 4 rfl) ?_
                            refine lv_iload hx hb dX13_methodFits_297 (lv_at hl 1 rfl) ?_
                            obtain ⟨⟨u10_0, g910_1, g910_2, u10_3, u10_4⟩, hu_10, hsp⟩ := ox_bind hsp
                            try dsimp only at hsp
                            have hPc := hP.sub (ws' := [(h0, .inr (13, z_6)), (qf100, .inl (cf100, 48000, .inl f100)), (qf102, .inl (cf102, 2048, .inl f102)), (qf104, .inl (cf104, 8, .inl f104)), (qf118, .inl (cf118, 2100, .inl g118_245)), (qf119, .inl (cf119, 2100, .inl g119_245))]) [16, 17, 4, 5, 6, 7] rfl
                            have hDc := hD.sub (ws' := [(h0, .inr (13, z_6)), (qf100, .inl (cf100, 48000, .inl f100)), (qf102, .inl (cf102, 2048, .inl f102)), (qf104, .inl (cf104, 8, .inl f104)), (qf118, .inl (cf118, 2100, .inl g118_245)), (qf119, .inl (cf119, 2100, .inl g119_245))]) [16, 17, 4, 5, 6, 7] (by decide) rfl
                            have hKc := hK.sub (tys' := [(cf100, .int), (cf102, .int), (cf104, .int), (cf118, .int), (cf119, .int)]) [16, 4, 5, 6, 7] rfl
                            have hFc := va_free (wc := [(h0, .inr (13, z_6)), (qf100, .inl (cf100, 48000, .inl f100)), (qf102, .inl (cf102, 2048, .inl f102)), (qf104, .inl (cf104, 8, .inl f104)), (qf118, .inl (cf118, 2100, .inl g118_245)), (qf119, .inl (cf119, 2100, .inl g119_245))]) hD hS hA [16, 17, 4, 5, 6, 7] rfl
                            refine va_calli (va_runV (As := [.int u5_0]) (rest := []) ⟨hx, hb, hml, hown, hts⟩ (vm_frameIsThere l dC dI H.size h0 z_6 u5_0 v98 qf100 qf102 qf104 x117_245 qf118 qf119 x120_245 x129_245 x130_245 x132_245 cf100 f100 cf102 f102 cf104 f104 cf118 g118_245 cf119 g119_245 nS477 fS477 hS477 qS477 tS477 nf u10_0 g910_1 g910_2 u10_3 u10_4 hln_6 hfk_6_98 hfk_6_100 hfk_6_102 hfk_6_104 hfk_6_117 hfk_6_118 hfk_6_119 hfk_6_120 hfk_6_129 hfk_6_130 hfk_6_132 hu_10) (cwV 1 hts gv_h9_132 rfl rfl rfl (by decide +kernel) ⟨Nat.le_of_ble_eq_true rfl, Nat.le_of_ble_eq_true rfl⟩) ⟨fun a U g mk q => by obtain ⟨q0, q1, qP, qK, qD, qhZWS477, qhZRS477⟩ := q; exact ⟨q0, q1, qP, va_K.moved (u := U) (U := U.calling g mk a) (Vm.Alike.refl U.vm) qK, qD, pz_W.moved (u := U) (U := U.calling g mk a) (Vm.Alike.refl U.vm) qhZWS477, vk_R.same rfl qhZRS477⟩, va_recv hKc hPc (ci := 13) (q0 := 0) rfl rfl, fun U hU hW => ⟨rfl, by rw [hU], by rw [hU]; exact hPc, va_K.moved hW.alike hKc, hDc.weaken (fun _ _ _ _ => trivial), by rw [hU]; exact ((pz_W.moved hW.alike hZWS477).kept hS.2.1).narrow hFc, vk_R.warm hW hZRS477⟩⟩ rfl rfl hl.1 rfl (lv_room (Nat.le_of_ble_eq_true rfl)) dX13_methodFits_299 ⟨Nat.le_of_ble_eq_true rfl, Nat.le_of_ble_eq_true rfl⟩) hS (fun q _ h => hFc q h) hFc ?_
                            clear hS
                            intro r_19 u t H1 locs ht hvm hw hB hz1 hk1 hS
                            obtain ⟨z_10, rfl⟩ : ∃ z, z = u := ⟨_, rfl⟩
                            obtain ⟨hP1, hK1, hD1⟩ := hB
                            rw [ht] at hP1
                            have hK1 := va_K.moved hvm.symm hK1
                            try dsimp only at hw
                            have hPD := va_join (wr := [(qf109, .inl (cf109, 96, .inl f109)), (qf110, .inl (cf110, 96, .inl f110)), (qf127, .inl (cf127, 30, .inl g127_245)), (qf107, .inl (cf107, 96, .inl f107)), (qf105, .inl (cf105, 8, .inl f105)), (qf128, .inl (cf128, 31, .inl g128_245)), (qf103, .inl (cf103, 8, .inl f103)), (qf106, .inl (cf106, 8, .inl f106)), (qf108, .inl (cf108, 8, .inl f108)), (qf137, .inl (cf137, 6, .inl g137_245)), (qf126, .inl (cf126, 1501, .inl g126_245)), (qf111, .inl (cf111, 96, .inl f111))]) (w1 := [(h0, .inr (13, z_10)), (qf100, .inl (cf100, 48000, .inl f100)), (qf102, .inl (cf102, 2048, .inl f102)), (qf104, .inl (cf104, 8, .inl f104)), (qf118, .inl (cf118, 2100, .inl g910_1)), (qf119, .inl (cf119, 2100, .inl g910_2))]) hP hD [16, 17, 4, 5, 6, 7] [0, 1, 2, 3, 8, 9, 10, 11, 12, 13, 14, 15] rfl rfl (by decide) (by decide) hk1 hFc hP1 hD1
                            clear hP hD
                            obtain ⟨hP, hD⟩ := hPD
                            replace hK := (hK.sub (tys' := [(cf109, .int), (cf110, .int), (cf127, .int), (cf107, .int), (cf105, .int), (cf128, .int), (cf103, .int), (cf106, .int), (cf108, .int), (cf137, .int), (cf126, .boolean), (cf111, .int)]) [0, 1, 2, 3, 8, 9, 10, 11, 12, 13, 14, 15] rfl).app hK1
                            clear hPc hDc hKc hFc hP1 hK1 hD1 hz1 hk1 ht hvm
                            generalize H1 = H at hP hS ⊢
                            replace hP : va_P (dC, dI) vwCl [(qf109, .inl (cf109, 96, .inl f109)), (qf110, .inl (cf110, 96, .inl f110)), (qf127, .inl (cf127, 30, .inl g127_245)), (qf107, .inl (cf107, 96, .inl f107)), (qf105, .inl (cf105, 8, .inl f105)), (qf128, .inl (cf128, 31, .inl g128_245)), (qf103, .inl (cf103, 8, .inl f103)), (qf106, .inl (cf106, 8, .inl f106)), (qf108, .inl (cf108, 8, .inl f108)), (qf137, .inl (cf137, 6, .inl g137_245)), (qf126, .inl (cf126, 1501, .inl g126_245)), (qf111, .inl (cf111, 96, .inl f111)), (h0, .inr (13, z_10)), (qf100, .inl (cf100, 48000, .inl f100)), (qf102, .inl (cf102, 2048, .inl f102)), (qf104, .inl (cf104, 8, .inl f104)), (qf118, .inl (cf118, 2100, .inl g910_1)), (qf119, .inl (cf119, 2100, .inl g910_2))] H := hP
                            replace hD : va_D A [(qf109, .inl (cf109, 96, .inl f109)), (qf110, .inl (cf110, 96, .inl f110)), (qf127, .inl (cf127, 30, .inl g127_245)), (qf107, .inl (cf107, 96, .inl f107)), (qf105, .inl (cf105, 8, .inl f105)), (qf128, .inl (cf128, 31, .inl g128_245)), (qf103, .inl (cf103, 8, .inl f103)), (qf106, .inl (cf106, 8, .inl f106)), (qf108, .inl (cf108, 8, .inl f108)), (qf137, .inl (cf137, 6, .inl g137_245)), (qf126, .inl (cf126, 1501, .inl g126_245)), (qf111, .inl (cf111, 96, .inl f111)), (h0, .inr (13, z_10)), (qf100, .inl (cf100, 48000, .inl f100)), (qf102, .inl (cf102, 2048, .inl f102)), (qf104, .inl (cf104, 8, .inl f104)), (qf118, .inl (cf118, 2100, .inl g910_1)), (qf119, .inl (cf119, 2100, .inl g910_2))] := hD
                            replace hK : va_K (dC, dI) vwCl [(cf109, .int), (cf110, .int), (cf127, .int), (cf107, .int), (cf105, .int), (cf128, .int), (cf103, .int), (cf106, .int), (cf108, .int), (cf137, .int), (cf126, .boolean), (cf111, .int), (cf100, .int), (cf102, .int), (cf104, .int), (cf118, .int), (cf119, .int)] s := hK
                            obtain ⟨hwa_10, hln_10, hre_10, hch_10_117, hch_10_120⟩ := hw
                            have hfk_10_98 : z_10[98]? = some (.int v98) := (hre_10 98 (by decide) (by decide)).trans (hfk_6_98)
                            have hfk_10_100 : z_10[100]? = some (.ref qf100) := (hre_10 100 (by decide) (by decide)).trans (hfk_6_100)
                            have hfk_10_102 : z_10[102]? = some (.ref qf102) := (hre_10 102 (by decide) (by decide)).trans (hfk_6_102)
                            have hfk_10_103 : z_10[103]? = some (.ref qf103) := (hre_10 103 (by decide) (by decide)).trans (hfk_6_103)
                            have hfk_10_104 : z_10[104]? = some (.ref qf104) := (hre_10 104 (by decide) (by decide)).trans (hfk_6_104)
                            have hfk_10_105 : z_10[105]? = some (.ref qf105) := (hre_10 105 (by decide) (by decide)).trans (hfk_6_105)
                            have hfk_10_106 : z_10[106]? = some (.ref qf106) := (hre_10 106 (by decide) (by decide)).trans (hfk_6_106)
                            have hfk_10_107 : z_10[107]? = some (.ref qf107) := (hre_10 107 (by decide) (by decide)).trans (hfk_6_107)
                            have hfk_10_108 : z_10[108]? = some (.ref qf108) := (hre_10 108 (by decide) (by decide)).trans (hfk_6_108)
                            have hfk_10_109 : z_10[109]? = some (.ref qf109) := (hre_10 109 (by decide) (by decide)).trans (hfk_6_109)
                            have hfk_10_110 : z_10[110]? = some (.ref qf110) := (hre_10 110 (by decide) (by decide)).trans (hfk_6_110)
                            have hfk_10_111 : z_10[111]? = some (.ref qf111) := (hre_10 111 (by decide) (by decide)).trans (hfk_6_111)
                            have hfk_10_118 : z_10[118]? = some (.ref qf118) := (hre_10 118 (by decide) (by decide)).trans (hfk_6_118)
                            have hfk_10_119 : z_10[119]? = some (.ref qf119) := (hre_10 119 (by decide) (by decide)).trans (hfk_6_119)
                            have hfk_10_121 : z_10[121]? = some (.int x121_245) := (hre_10 121 (by decide) (by decide)).trans (hfk_6_121)
                            have hfk_10_122 : z_10[122]? = some (.int x122_245) := (hre_10 122 (by decide) (by decide)).trans (hfk_6_122)
                            have hfk_10_123 : z_10[123]? = some (.int x123_245) := (hre_10 123 (by decide) (by decide)).trans (hfk_6_123)
                            have hfk_10_124 : z_10[124]? = some (.int x124_245) := (hre_10 124 (by decide) (by decide)).trans (hfk_6_124)
                            have hfk_10_125 : z_10[125]? = some (.int x125_245) := (hre_10 125 (by decide) (by decide)).trans (hfk_6_125)
                            have hfk_10_126 : z_10[126]? = some (.ref qf126) := (hre_10 126 (by decide) (by decide)).trans (hfk_6_126)
                            have hfk_10_127 : z_10[127]? = some (.ref qf127) := (hre_10 127 (by decide) (by decide)).trans (hfk_6_127)
                            have hfk_10_128 : z_10[128]? = some (.ref qf128) := (hre_10 128 (by decide) (by decide)).trans (hfk_6_128)
                            have hfk_10_129 : z_10[129]? = some (.int x129_245) := (hre_10 129 (by decide) (by decide)).trans (hfk_6_129)
                            have hfk_10_130 : z_10[130]? = some (.int x130_245) := (hre_10 130 (by decide) (by decide)).trans (hfk_6_130)
                            have hfk_10_131 : z_10[131]? = some (.int x131_245) := (hre_10 131 (by decide) (by decide)).trans (hfk_6_131)
                            have hfk_10_132 : z_10[132]? = some (.int x132_245) := (hre_10 132 (by decide) (by decide)).trans (hfk_6_132)
                            have hfk_10_133 : z_10[133]? = some (.int x133_245) := (hre_10 133 (by decide) (by decide)).trans (hfk_6_133)
                            have hfk_10_134 : z_10[134]? = some (.int x134_245) := (hre_10 134 (by decide) (by decide)).trans (hfk_6_134)
                            have hfk_10_135 : z_10[135]? = some (.int x135_245) := (hre_10 135 (by decide) (by decide)).trans (hfk_6_135)
                            have hfk_10_136 : z_10[136]? = some (.int x136_245) := (hre_10 136 (by decide) (by decide)).trans (hfk_6_136)
                            have hfk_10_137 : z_10[137]? = some (.ref qf137) := (hre_10 137 (by decide) (by decide)).trans (hfk_6_137)
                            have hrq_10 : ∀ j : Nat, j ≠ 117 → j ≠ 120 → j ≠ 121 → j ≠ 122 → j ≠ 123 → j ≠ 124 → j ≠ 125 → j ≠ 129 → j ≠ 130 → j ≠ 131 → j ≠ 132 → j ≠ 133 → j ≠ 134 → j ≠ 135 → j ≠ 136 → z_10[j]? = zs[j]? := fun j g117 g120 g121 g122 g123 g124 g125 g129 g130 g131 g132 g133 g134 g135 g136 => (hre_10 j g117 g120).trans (hrq_6 j g117 g120 g121 g122 g123 g124 g125 g129 g130 g131 g132 g133 g134 g135 g136)
                            obtain ⟨rfl, hz_10⟩ := hwa_10
                            rcases hz_10 with rfl | rfl
                            · rw [if_pos rfl] at hsp
                              refine lv_if_ne (tgt := 316) hx hb dX13_methodFits_302 (by decide) (fun c_20 => (show False by revert c_20; decide).elim) (fun c_20 => ?_)
                              refine lv_aload_n hx hb dX13_methodFits_305 rfl (lv_at hl 4 rfl) ?_
                              refine lv_bipush (v := 9) hx hb dX13_methodFits_306 (by decide) ?_
                              refine lv_iload_n hx hb dX13_methodFits_308 rfl (lv_at hl 5 rfl) ?_
                              refine lv_iload_n hx hb dX13_methodFits_309 rfl (lv_at hl 6 rfl) ?_
                              refine lv_iload hx hb dX13_methodFits_310 (lv_at hl 2 rfl) ?_
                              obtain ⟨⟨u11_0, u11_1, u11_2, u11_3, u11_4⟩, hu_11, hsp⟩ := ox_bind hsp
                              try dsimp only at hsp
                              have hPc := hP.sub (ws' := [(h0, .inr (13, z_10))]) [12] rfl
                              have hDc := hD.sub (ws' := [(h0, .inr (13, z_10))]) [12] (by decide) rfl
                              have hKc := hK.sub (tys' := []) [] rfl
                              have hFc := va_free (wc := [(h0, .inr (13, z_10))]) hD hS hA [12] rfl
                              refine va_calli (va_runV (As := [.int 9, .int l1_245, .int l2_245, .int l5_245]) (rest := []) ⟨hx, hb, hml, hown, hts⟩ (tm_bad l dC dI H.size h0 z_10 9 l1_245 l2_245 l5_245 x122_245 x123_245 x124_245 x125_245 nf u11_0 u11_1 u11_2 u11_3 u11_4 hln_10 hfk_10_122 hfk_10_123 hfk_10_124 hfk_10_125 hu_11) (cwV 4 hts gv_h9_63 rfl rfl rfl (by decide +kernel) ⟨Nat.le_of_ble_eq_true rfl, Nat.le_of_ble_eq_true rfl⟩) ⟨fun a U g mk q => by obtain ⟨q0, q1, qP, qK, qD⟩ := q; exact ⟨q0, q1, qP, va_K.moved (u := U) (U := U.calling g mk a) (Vm.Alike.refl U.vm) qK, qD⟩, va_recv hKc hPc (ci := 13) (q0 := 0) rfl rfl, fun U hU hW => ⟨rfl, by rw [hU], by rw [hU]; exact hPc, va_K.moved hW.alike hKc, hDc.weaken (fun _ _ _ _ => trivial)⟩⟩ rfl rfl hl.1 rfl (lv_room (Nat.le_of_ble_eq_true rfl)) dX13_methodFits_312 ⟨Nat.le_of_ble_eq_true rfl, Nat.le_of_ble_eq_true rfl⟩) hS (fun q _ h => hFc q h) hFc ?_
                              clear hS
                              intro r_21 u t H1 locs ht hvm hw hB hz1 hk1 hS
                              obtain ⟨z_11, rfl⟩ : ∃ z, z = u := ⟨_, rfl⟩
                              obtain ⟨hP1, hK1, hD1⟩ := hB
                              rw [ht] at hP1
                              have hK1 := va_K.moved hvm.symm hK1
                              try dsimp only at hw
                              have hPD := va_join (wr := [(qf109, .inl (cf109, 96, .inl f109)), (qf110, .inl (cf110, 96, .inl f110)), (qf127, .inl (cf127, 30, .inl g127_245)), (qf107, .inl (cf107, 96, .inl f107)), (qf105, .inl (cf105, 8, .inl f105)), (qf128, .inl (cf128, 31, .inl g128_245)), (qf103, .inl (cf103, 8, .inl f103)), (qf106, .inl (cf106, 8, .inl f106)), (qf108, .inl (cf108, 8, .inl f108)), (qf137, .inl (cf137, 6, .inl g137_245)), (qf126, .inl (cf126, 1501, .inl g126_245)), (qf111, .inl (cf111, 96, .inl f111)), (qf100, .inl (cf100, 48000, .inl f100)), (qf102, .inl (cf102, 2048, .inl f102)), (qf104, .inl (cf104, 8, .inl f104)), (qf118, .inl (cf118, 2100, .inl g910_1)), (qf119, .inl (cf119, 2100, .inl g910_2))]) (w1 := [(h0, .inr (13, z_11))]) hP hD [12] [0, 1, 2, 3, 4, 5, 6, 7, 8, 9, 10, 11, 13, 14, 15, 16, 17] rfl rfl (by decide) (by decide) hk1 hFc hP1 hD1
                              clear hP hD
                              obtain ⟨hP, hD⟩ := hPD
                              replace hK := (hK.sub (tys' := [(cf109, .int), (cf110, .int), (cf127, .int), (cf107, .int), (cf105, .int), (cf128, .int), (cf103, .int), (cf106, .int), (cf108, .int), (cf137, .int), (cf126, .boolean), (cf111, .int), (cf100, .int), (cf102, .int), (cf104, .int), (cf118, .int), (cf119, .int)]) [0, 1, 2, 3, 4, 5, 6, 7, 8, 9, 10, 11, 12, 13, 14, 15, 16] rfl).app hK1
                              clear hPc hDc hKc hFc hP1 hK1 hD1 hz1 hk1 ht hvm
                              generalize H1 = H at hP hS ⊢
                              replace hP : va_P (dC, dI) vwCl [(qf109, .inl (cf109, 96, .inl f109)), (qf110, .inl (cf110, 96, .inl f110)), (qf127, .inl (cf127, 30, .inl g127_245)), (qf107, .inl (cf107, 96, .inl f107)), (qf105, .inl (cf105, 8, .inl f105)), (qf128, .inl (cf128, 31, .inl g128_245)), (qf103, .inl (cf103, 8, .inl f103)), (qf106, .inl (cf106, 8, .inl f106)), (qf108, .inl (cf108, 8, .inl f108)), (qf137, .inl (cf137, 6, .inl g137_245)), (qf126, .inl (cf126, 1501, .inl g126_245)), (qf111, .inl (cf111, 96, .inl f111)), (qf100, .inl (cf100, 48000, .inl f100)), (qf102, .inl (cf102, 2048, .inl f102)), (qf104, .inl (cf104, 8, .inl f104)), (qf118, .inl (cf118, 2100, .inl g910_1)), (qf119, .inl (cf119, 2100, .inl g910_2)), (h0, .inr (13, z_11))] H := hP
                              replace hD : va_D A [(qf109, .inl (cf109, 96, .inl f109)), (qf110, .inl (cf110, 96, .inl f110)), (qf127, .inl (cf127, 30, .inl g127_245)), (qf107, .inl (cf107, 96, .inl f107)), (qf105, .inl (cf105, 8, .inl f105)), (qf128, .inl (cf128, 31, .inl g128_245)), (qf103, .inl (cf103, 8, .inl f103)), (qf106, .inl (cf106, 8, .inl f106)), (qf108, .inl (cf108, 8, .inl f108)), (qf137, .inl (cf137, 6, .inl g137_245)), (qf126, .inl (cf126, 1501, .inl g126_245)), (qf111, .inl (cf111, 96, .inl f111)), (qf100, .inl (cf100, 48000, .inl f100)), (qf102, .inl (cf102, 2048, .inl f102)), (qf104, .inl (cf104, 8, .inl f104)), (qf118, .inl (cf118, 2100, .inl g910_1)), (qf119, .inl (cf119, 2100, .inl g910_2)), (h0, .inr (13, z_11))] := hD
                              replace hK : va_K (dC, dI) vwCl [(cf109, .int), (cf110, .int), (cf127, .int), (cf107, .int), (cf105, .int), (cf128, .int), (cf103, .int), (cf106, .int), (cf108, .int), (cf137, .int), (cf126, .boolean), (cf111, .int), (cf100, .int), (cf102, .int), (cf104, .int), (cf118, .int), (cf119, .int)] s := hK
                              obtain ⟨hwa_11, hln_11, hre_11, hch_11_122, hch_11_123, hch_11_124, hch_11_125⟩ := hw
                              have hfk_11_98 : z_11[98]? = some (.int v98) := (hre_11 98 (by decide) (by decide) (by decide) (by decide)).trans (hfk_10_98)
                              have hfk_11_100 : z_11[100]? = some (.ref qf100) := (hre_11 100 (by decide) (by decide) (by decide) (by decide)).trans (hfk_10_100)
                              have hfk_11_102 : z_11[102]? = some (.ref qf102) := (hre_11 102 (by decide) (by decide) (by decide) (by decide)).trans (hfk_10_102)
                              have hfk_11_103 : z_11[103]? = some (.ref qf103) := (hre_11 103 (by decide) (by decide) (by decide) (by decide)).trans (hfk_10_103)
                              have hfk_11_104 : z_11[104]? = some (.ref qf104) := (hre_11 104 (by decide) (by decide) (by decide) (by decide)).trans (hfk_10_104)
                              have hfk_11_105 : z_11[105]? = some (.ref qf105) := (hre_11 105 (by decide) (by decide) (by decide) (by decide)).trans (hfk_10_105)
                              have hfk_11_106 : z_11[106]? = some (.ref qf106) := (hre_11 106 (by decide) (by decide) (by decide) (by decide)).trans (hfk_10_106)
                              have hfk_11_107 : z_11[107]? = some (.ref qf107) := (hre_11 107 (by decide) (by decide) (by decide) (by decide)).trans (hfk_10_107)
                              have hfk_11_108 : z_11[108]? = some (.ref qf108) := (hre_11 108 (by decide) (by decide) (by decide) (by decide)).trans (hfk_10_108)
                              have hfk_11_109 : z_11[109]? = some (.ref qf109) := (hre_11 109 (by decide) (by decide) (by decide) (by decide)).trans (hfk_10_109)
                              have hfk_11_110 : z_11[110]? = some (.ref qf110) := (hre_11 110 (by decide) (by decide) (by decide) (by decide)).trans (hfk_10_110)
                              have hfk_11_111 : z_11[111]? = some (.ref qf111) := (hre_11 111 (by decide) (by decide) (by decide) (by decide)).trans (hfk_10_111)
                              have hfk_11_117 : z_11[117]? = some (.int u10_3) := (hre_11 117 (by decide) (by decide) (by decide) (by decide)).trans (hch_10_117)
                              have hfk_11_118 : z_11[118]? = some (.ref qf118) := (hre_11 118 (by decide) (by decide) (by decide) (by decide)).trans (hfk_10_118)
                              have hfk_11_119 : z_11[119]? = some (.ref qf119) := (hre_11 119 (by decide) (by decide) (by decide) (by decide)).trans (hfk_10_119)
                              have hfk_11_120 : z_11[120]? = some (.int u10_4) := (hre_11 120 (by decide) (by decide) (by decide) (by decide)).trans (hch_10_120)
                              have hfk_11_121 : z_11[121]? = some (.int x121_245) := (hre_11 121 (by decide) (by decide) (by decide) (by decide)).trans (hfk_10_121)
                              have hfk_11_126 : z_11[126]? = some (.ref qf126) := (hre_11 126 (by decide) (by decide) (by decide) (by decide)).trans (hfk_10_126)
                              have hfk_11_127 : z_11[127]? = some (.ref qf127) := (hre_11 127 (by decide) (by decide) (by decide) (by decide)).trans (hfk_10_127)
                              have hfk_11_128 : z_11[128]? = some (.ref qf128) := (hre_11 128 (by decide) (by decide) (by decide) (by decide)).trans (hfk_10_128)
                              have hfk_11_129 : z_11[129]? = some (.int x129_245) := (hre_11 129 (by decide) (by decide) (by decide) (by decide)).trans (hfk_10_129)
                              have hfk_11_130 : z_11[130]? = some (.int x130_245) := (hre_11 130 (by decide) (by decide) (by decide) (by decide)).trans (hfk_10_130)
                              have hfk_11_131 : z_11[131]? = some (.int x131_245) := (hre_11 131 (by decide) (by decide) (by decide) (by decide)).trans (hfk_10_131)
                              have hfk_11_132 : z_11[132]? = some (.int x132_245) := (hre_11 132 (by decide) (by decide) (by decide) (by decide)).trans (hfk_10_132)
                              have hfk_11_133 : z_11[133]? = some (.int x133_245) := (hre_11 133 (by decide) (by decide) (by decide) (by decide)).trans (hfk_10_133)
                              have hfk_11_134 : z_11[134]? = some (.int x134_245) := (hre_11 134 (by decide) (by decide) (by decide) (by decide)).trans (hfk_10_134)
                              have hfk_11_135 : z_11[135]? = some (.int x135_245) := (hre_11 135 (by decide) (by decide) (by decide) (by decide)).trans (hfk_10_135)
                              have hfk_11_136 : z_11[136]? = some (.int x136_245) := (hre_11 136 (by decide) (by decide) (by decide) (by decide)).trans (hfk_10_136)
                              have hfk_11_137 : z_11[137]? = some (.ref qf137) := (hre_11 137 (by decide) (by decide) (by decide) (by decide)).trans (hfk_10_137)
                              have hrq_11 : ∀ j : Nat, j ≠ 117 → j ≠ 120 → j ≠ 121 → j ≠ 122 → j ≠ 123 → j ≠ 124 → j ≠ 125 → j ≠ 129 → j ≠ 130 → j ≠ 131 → j ≠ 132 → j ≠ 133 → j ≠ 134 → j ≠ 135 → j ≠ 136 → z_11[j]? = zs[j]? := fun j g117 g120 g121 g122 g123 g124 g125 g129 g130 g131 g132 g133 g134 g135 g136 => (hre_11 j g122 g123 g124 g125).trans (hrq_10 j g117 g120 g121 g122 g123 g124 g125 g129 g130 g131 g132 g133 g134 g135 g136)
                              obtain ⟨rfl, hz_11⟩ := hwa_11
                              rcases hz_11 with rfl | rfl
                              · rw [if_pos rfl] at hsp
                                exact hret_315 (H, locs, ls, z_11, 0, g910_1, g910_2, g126_245, g127_245, g128_245, g137_245, u10_3, u10_4, x121_245, u11_1, u11_2, u11_3, u11_4, x129_245, x130_245, x131_245, x132_245, x133_245, x134_245, x135_245, x136_245) ⟨hS, hD.sub (ws' := [(h0, .inr (13, z_11)), (qf109, .inl (cf109, 96, .inl f109)), (qf100, .inl (cf100, 48000, .inl f100)), (qf110, .inl (cf110, 96, .inl f110)), (qf111, .inl (cf111, 96, .inl f111)), (qf127, .inl (cf127, 30, .inl g127_245)), (qf107, .inl (cf107, 96, .inl f107)), (qf102, .inl (cf102, 2048, .inl f102)), (qf104, .inl (cf104, 8, .inl f104)), (qf118, .inl (cf118, 2100, .inl g910_1)), (qf119, .inl (cf119, 2100, .inl g910_2)), (qf105, .inl (cf105, 8, .inl f105)), (qf128, .inl (cf128, 31, .inl g128_245)), (qf103, .inl (cf103, 8, .inl f103)), (qf106, .inl (cf106, 8, .inl f106)), (qf108, .inl (cf108, 8, .inl f108)), (qf137, .inl (cf137, 6, .inl g137_245)), (qf126, .inl (cf126, 1501, .inl g126_245))]) [17, 0, 12, 1, 11, 2, 3, 13, 14, 15, 16, 4, 5, 6, 7, 8, 9, 10] (by decide) rfl, hP.sub (ws' := [(h0, .inr (13, z_11)), (qf109, .inl (cf109, 96, .inl f109)), (qf100, .inl (cf100, 48000, .inl f100)), (qf110, .inl (cf110, 96, .inl f110)), (qf111, .inl (cf111, 96, .inl f111)), (qf127, .inl (cf127, 30, .inl g127_245)), (qf107, .inl (cf107, 96, .inl f107)), (qf102, .inl (cf102, 2048, .inl f102)), (qf104, .inl (cf104, 8, .inl f104)), (qf118, .inl (cf118, 2100, .inl g910_1)), (qf119, .inl (cf119, 2100, .inl g910_2)), (qf105, .inl (cf105, 8, .inl f105)), (qf128, .inl (cf128, 31, .inl g128_245)), (qf103, .inl (cf103, 8, .inl f103)), (qf106, .inl (cf106, 8, .inl f106)), (qf108, .inl (cf108, 8, .inl f108)), (qf137, .inl (cf137, 6, .inl g137_245)), (qf126, .inl (cf126, 1501, .inl g126_245))]) [17, 0, 12, 1, 11, 2, 3, 13, 14, 15, 16, 4, 5, 6, 7, 8, 9, 10] rfl, hfk_11_98, hfk_11_100, hfk_11_102, hfk_11_103, hfk_11_104, hfk_11_105, hfk_11_106, hfk_11_107, hfk_11_108, hfk_11_109, hfk_11_110, hfk_11_111, hfk_11_117, hfk_11_118, hfk_11_119, hfk_11_120, hfk_11_121, hch_11_122, hch_11_123, hch_11_124, hch_11_125, hfk_11_126, hfk_11_127, hfk_11_128, hfk_11_129, hfk_11_130, hfk_11_131, hfk_11_132, hfk_11_133, hfk_11_134, hfk_11_135, hfk_11_136, hfk_11_137, hln_11, hrq_11, Or.inl rfl, hsp⟩
                              · rw [if_neg (by decide)] at hsp
                                exact hret_315 (H, locs, ls, z_11, 1, g910_1, g910_2, g126_245, g127_245, g128_245, g137_245, u10_3, u10_4, x121_245, u11_1, u11_2, u11_3, u11_4, x129_245, x130_245, x131_245, x132_245, x133_245, x134_245, x135_245, x136_245) ⟨hS, hD.sub (ws' := [(h0, .inr (13, z_11)), (qf109, .inl (cf109, 96, .inl f109)), (qf100, .inl (cf100, 48000, .inl f100)), (qf110, .inl (cf110, 96, .inl f110)), (qf111, .inl (cf111, 96, .inl f111)), (qf127, .inl (cf127, 30, .inl g127_245)), (qf107, .inl (cf107, 96, .inl f107)), (qf102, .inl (cf102, 2048, .inl f102)), (qf104, .inl (cf104, 8, .inl f104)), (qf118, .inl (cf118, 2100, .inl g910_1)), (qf119, .inl (cf119, 2100, .inl g910_2)), (qf105, .inl (cf105, 8, .inl f105)), (qf128, .inl (cf128, 31, .inl g128_245)), (qf103, .inl (cf103, 8, .inl f103)), (qf106, .inl (cf106, 8, .inl f106)), (qf108, .inl (cf108, 8, .inl f108)), (qf137, .inl (cf137, 6, .inl g137_245)), (qf126, .inl (cf126, 1501, .inl g126_245))]) [17, 0, 12, 1, 11, 2, 3, 13, 14, 15, 16, 4, 5, 6, 7, 8, 9, 10] (by decide) rfl, hP.sub (ws' := [(h0, .inr (13, z_11)), (qf109, .inl (cf109, 96, .inl f109)), (qf100, .inl (cf100, 48000, .inl f100)), (qf110, .inl (cf110, 96, .inl f110)), (qf111, .inl (cf111, 96, .inl f111)), (qf127, .inl (cf127, 30, .inl g127_245)), (qf107, .inl (cf107, 96, .inl f107)), (qf102, .inl (cf102, 2048, .inl f102)), (qf104, .inl (cf104, 8, .inl f104)), (qf118, .inl (cf118, 2100, .inl g910_1)), (qf119, .inl (cf119, 2100, .inl g910_2)), (qf105, .inl (cf105, 8, .inl f105)), (qf128, .inl (cf128, 31, .inl g128_245)), (qf103, .inl (cf103, 8, .inl f103)), (qf106, .inl (cf106, 8, .inl f106)), (qf108, .inl (cf108, 8, .inl f108)), (qf137, .inl (cf137, 6, .inl g137_245)), (qf126, .inl (cf126, 1501, .inl g126_245))]) [17, 0, 12, 1, 11, 2, 3, 13, 14, 15, 16, 4, 5, 6, 7, 8, 9, 10] rfl, hfk_11_98, hfk_11_100, hfk_11_102, hfk_11_103, hfk_11_104, hfk_11_105, hfk_11_106, hfk_11_107, hfk_11_108, hfk_11_109, hfk_11_110, hfk_11_111, hfk_11_117, hfk_11_118, hfk_11_119, hfk_11_120, hfk_11_121, hch_11_122, hch_11_123, hch_11_124, hch_11_125, hfk_11_126, hfk_11_127, hfk_11_128, hfk_11_129, hfk_11_130, hfk_11_131, hfk_11_132, hfk_11_133, hfk_11_134, hfk_11_135, hfk_11_136, hfk_11_137, hln_11, hrq_11, Or.inr rfl, hsp⟩
                            · rw [if_neg (by decide)] at hsp
                              refine lv_if_ne (tgt := 316) hx hb dX13_methodFits_302 (by decide) (fun c_22 => ?_) (fun c_22 => (show False by revert c_22; decide).elim)
                              refine lv_iload hx hb dX13_methodFits_316 (lv_at hl 0 rfl) ?_
                              refine lv_istore (lv' := [(4, .int u6_0), (7, .int u6_0), (6, .int u5_0), (5, .int l5_245), (0, .ref h0), (1, .int l1_245), (2, .int l2_245)]) hx hb dX13_methodFits_318 hl (by decide) rfl (fun ls hl => ?_)
                              refine lv_iinc (v := (l5_245 + 1)) (lv' := [(5, .int (l5_245 + 1)), (4, .int u6_0), (7, .int u6_0), (6, .int u5_0), (0, .ref h0), (1, .int l1_245), (2, .int l2_245)]) hx hb dX13_methodFits_320 hl (k := 3) rfl rfl (by decide) rfl (fun ls hl => ?_)
                              refine lv_goto (tgt := 245) hx hb dX13_methodFits_323 (by decide) ?_
                              exact ih_245 H locs ls z_10 l1_245 l2_245 u6_0 (l5_245 + 1) g910_1 g910_2 g126_245 g127_245 g128_245 g137_245 u10_3 u10_4 x121_245 x122_245 x123_245 x124_245 x125_245 x129_245 x130_245 x131_245 x132_245 x133_245 x134_245 x135_245 x136_245 (hfk_10_98) (hfk_10_100) (hfk_10_102) (hfk_10_103) (hfk_10_104) (hfk_10_105) (hfk_10_106) (hfk_10_107) (hfk_10_108) (hfk_10_109) (hfk_10_110) (hfk_10_111) (hch_10_117) (hfk_10_118) (hfk_10_119) (hch_10_120) (hfk_10_121) (hfk_10_122) (hfk_10_123) (hfk_10_124) (hfk_10_125) (hfk_10_126) (hfk_10_127) (hfk_10_128) (hfk_10_129) (hfk_10_130) (hfk_10_131) (hfk_10_132) (hfk_10_133) (hfk_10_134) (hfk_10_135) (hfk_10_136) (hfk_10_137) hln_10 hrq_10 (lv_sub hl [0, 1, 4, 5, 6] rfl) hS (hD.sub (ws' := [(h0, .inr (13, z_10)), (qf109, .inl (cf109, 96, .inl f109)), (qf100, .inl (cf100, 48000, .inl f100)), (qf110, .inl (cf110, 96, .inl f110)), (qf111, .inl (cf111, 96, .inl f111)), (qf127, .inl (cf127, 30, .inl g127_245)), (qf107, .inl (cf107, 96, .inl f107)), (qf102, .inl (cf102, 2048, .inl f102)), (qf104, .inl (cf104, 8, .inl f104)), (qf118, .inl (cf118, 2100, .inl g910_1)), (qf119, .inl (cf119, 2100, .inl g910_2)), (qf105, .inl (cf105, 8, .inl f105)), (qf128, .inl (cf128, 31, .inl g128_245)), (qf103, .inl (cf103, 8, .inl f103)), (qf106, .inl (cf106, 8, .inl f106)), (qf108, .inl (cf108, 8, .inl f108)), (qf137, .inl (cf137, 6, .inl g137_245)), (qf126, .inl (cf126, 1501, .inl g126_245))]) [12, 0, 13, 1, 11, 2, 3, 14, 15, 16, 17, 4, 5, 6, 7, 8, 9, 10] (by decide) rfl) (hP.sub (ws' := [(h0, .inr (13, z_10)), (qf109, .inl (cf109, 96, .inl f109)), (qf100, .inl (cf100, 48000, .inl f100)), (qf110, .inl (cf110, 96, .inl f110)), (qf111, .inl (cf111, 96, .inl f111)), (qf127, .inl (cf127, 30, .inl g127_245)), (qf107, .inl (cf107, 96, .inl f107)), (qf102, .inl (cf102, 2048, .inl f102)), (qf104, .inl (cf104, 8, .inl f104)), (qf118, .inl (cf118, 2100, .inl g910_1)), (qf119, .inl (cf119, 2100, .inl g910_2)), (qf105, .inl (cf105, 8, .inl f105)), (qf128, .inl (cf128, 31, .inl g128_245)), (qf103, .inl (cf103, 8, .inl f103)), (qf106, .inl (cf106, 8, .inl f106)), (qf108, .inl (cf108, 8, .inl f108)), (qf137, .inl (cf137, 6, .inl g137_245)), (qf126, .inl (cf126, 1501, .inl g126_245))]) [12, 0, 13, 1, 11, 2, 3, 14, 15, 16, 17, 4, 5, 6, 7, 8, 9, 10] rfl) hsp
                · rw [if_neg c_6] at hsp
                  refine lv_aload_n hx hb dX13_methodFits_206 rfl (lv_at hl 2 rfl) ?_
                  refine lv_iload_n hx hb dX13_methodFits_207 rfl (lv_at hl 1 rfl) ?_
                  refine lv_iconst (v := 1) hx hb dX13_methodFits_208 (by decide) ?_
                  refine lv_iadd hx hb dX13_methodFits_209 ?_
                  refine lv_bipush (v := 7) hx hb dX13_methodFits_210 (by decide) ?_
                  refine lv_iload hx hb dX13_methodFits_212 (lv_at hl 0 rfl) ?_
                  refine lv_imul hx hb dX13_methodFits_214 ?_
                  refine lv_iadd hx hb dX13_methodFits_215 ?_
                  obtain ⟨⟨u12_0, g912_1, g912_2, u12_3, u12_4⟩, hu_12, hsp⟩ := ox_bind hsp
                  try dsimp only at hsp
                  have hPc := hP.sub (ws' := [(h0, .inr (13, z_2)), (qf100, .inl (cf100, 48000, .inl f100)), (qf126, .inl (cf126, 1501, .inl g126_192)), (qf102, .inl (cf102, 2048, .inl f102)), (qf104, .inl (cf104, 8, .inl f104)), (qf118, .inl (cf118, 2100, .inl g118_192)), (qf119, .inl (cf119, 2100, .inl g119_192)), (qf111, .inl (cf111, 96, .inl f111)), (qf105, .inl (cf105, 8, .inl f105))]) [16, 17, 15, 5, 6, 7, 8, 2, 9] rfl
                  have hDc := hD.sub (ws' := [(h0, .inr (13, z_2)), (qf100, .inl (cf100, 48000, .inl f100)), (qf126, .inl (cf126, 1501, .inl g126_192)), (qf102, .inl (cf102, 2048, .inl f102)), (qf104, .inl (cf104, 8, .inl f104)), (qf118, .inl (cf118, 2100, .inl g118_192)), (qf119, .inl (cf119, 2100, .inl g119_192)), (qf111, .inl (cf111, 96, .inl f111)), (qf105, .inl (cf105, 8, .inl f105))]) [16, 17, 15, 5, 6, 7, 8, 2, 9] (by decide) rfl
                  have hKc := hK.sub (tys' := [(cf100, .int), (cf126, .boolean), (cf102, .int), (cf104, .int), (cf118, .int), (cf119, .int), (cf111, .int), (cf105, .int)]) [16, 15, 5, 6, 7, 8, 2, 9] rfl
                  have hFc := va_free (wc := [(h0, .inr (13, z_2)), (qf100, .inl (cf100, 48000, .inl f100)), (qf126, .inl (cf126, 1501, .inl g126_192)), (qf102, .inl (cf102, 2048, .inl f102)), (qf104, .inl (cf104, 8, .inl f104)), (qf118, .inl (cf118, 2100, .inl g118_192)), (qf119, .inl (cf119, 2100, .inl g119_192)), (qf111, .inl (cf111, 96, .inl f111)), (qf105, .inl (cf105, 8, .inl f105))]) hD hS hA [16, 17, 15, 5, 6, 7, 8, 2, 9] rfl
                  refine va_calli (va_runV (As := [.int ((l3_192 + 1) + (7 * l4_192))]) (rest := []) ⟨hx, hb, hml, hown, hts⟩ (vm_handlerFits l dC dI H.size h0 z_2 (((l3_192 + 1) + (7 * l4_192))) v98 qf100 qf102 qf104 qf105 qf111 x117_192 qf118 qf119 x120_192 qf126 x132_192 x133_192 x135_192 cf100 f100 cf126 g126_192 cf102 f102 cf104 f104 cf118 g118_192 cf119 g119_192 cf111 f111 cf105 f105 nS477 fS477 hS477 qS477 tS477 nf u12_0 g912_1 g912_2 u12_3 u12_4 hln_2 hfk_2_98 hfk_2_100 hfk_2_102 hfk_2_104 hfk_2_105 hfk_2_111 hfk_2_117 hfk_2_118 hfk_2_119 hfk_2_120 hfk_2_126 hfk_2_132 hfk_2_133 hfk_2_135 hu_12) (cwV 1 hts gv_h9_133 rfl rfl rfl (by decide +kernel) ⟨Nat.le_of_ble_eq_true rfl, Nat.le_of_ble_eq_true rfl⟩) ⟨fun a U g mk q => by obtain ⟨q0, q1, qP, qK, qD, qhZWS477, qhZRS477⟩ := q; exact ⟨q0, q1, qP, va_K.moved (u := U) (U := U.calling g mk a) (Vm.Alike.refl U.vm) qK, qD, pz_W.moved (u := U) (U := U.calling g mk a) (Vm.Alike.refl U.vm) qhZWS477, vk_R.same rfl qhZRS477⟩, va_recv hKc hPc (ci := 13) (q0 := 0) rfl rfl, fun U hU hW => ⟨rfl, by rw [hU], by rw [hU]; exact hPc, va_K.moved hW.alike hKc, hDc.weaken (fun _ _ _ _ => trivial), by rw [hU]; exact ((pz_W.moved hW.alike hZWS477).kept hS.2.1).narrow hFc, vk_R.warm hW hZRS477⟩⟩ rfl rfl hl.1 rfl (lv_room (Nat.le_of_ble_eq_true rfl)) dX13_methodFits_216 ⟨Nat.le_of_ble_eq_true rfl, Nat.le_of_ble_eq_true rfl⟩) hS (fun q _ h => hFc q h) hFc ?_
                  clear hS
                  intro r_23 u t H1 locs ht hvm hw hB hz1 hk1 hS
                  obtain ⟨z_12, rfl⟩ : ∃ z, z = u := ⟨_, rfl⟩
                  obtain ⟨hP1, hK1, hD1⟩ := hB
                  rw [ht] at hP1
                  have hK1 := va_K.moved hvm.symm hK1
                  try dsimp only at hw
                  have hPD := va_join (wr := [(qf109, .inl (cf109, 96, .inl f109)), (qf110, .inl (cf110, 96, .inl f110)), (qf127, .inl (cf127, 30, .inl g127_192)), (qf107, .inl (cf107, 96, .inl f107)), (qf128, .inl (cf128, 31, .inl g128_192)), (qf103, .inl (cf103, 8, .inl f103)), (qf106, .inl (cf106, 8, .inl f106)), (qf108, .inl (cf108, 8, .inl f108)), (qf137, .inl (cf137, 6, .inl g137_192))]) (w1 := [(h0, .inr (13, z_12)), (qf100, .inl (cf100, 48000, .inl f100)), (qf126, .inl (cf126, 1501, .inl g126_192)), (qf102, .inl (cf102, 2048, .inl f102)), (qf104, .inl (cf104, 8, .inl f104)), (qf118, .inl (cf118, 2100, .inl g912_1)), (qf119, .inl (cf119, 2100, .inl g912_2)), (qf111, .inl (cf111, 96, .inl f111)), (qf105, .inl (cf105, 8, .inl f105))]) hP hD [16, 17, 15, 5, 6, 7, 8, 2, 9] [0, 1, 3, 4, 10, 11, 12, 13, 14] rfl rfl (by decide) (by decide) hk1 hFc hP1 hD1
                  clear hP hD
                  obtain ⟨hP, hD⟩ := hPD
                  replace hK := (hK.sub (tys' := [(cf109, .int), (cf110, .int), (cf127, .int), (cf107, .int), (cf128, .int), (cf103, .int), (cf106, .int), (cf108, .int), (cf137, .int)]) [0, 1, 3, 4, 10, 11, 12, 13, 14] rfl).app hK1
                  clear hPc hDc hKc hFc hP1 hK1 hD1 hz1 hk1 ht hvm
                  generalize H1 = H at hP hS ⊢
                  replace hP : va_P (dC, dI) vwCl [(qf109, .inl (cf109, 96, .inl f109)), (qf110, .inl (cf110, 96, .inl f110)), (qf127, .inl (cf127, 30, .inl g127_192)), (qf107, .inl (cf107, 96, .inl f107)), (qf128, .inl (cf128, 31, .inl g128_192)), (qf103, .inl (cf103, 8, .inl f103)), (qf106, .inl (cf106, 8, .inl f106)), (qf108, .inl (cf108, 8, .inl f108)), (qf137, .inl (cf137, 6, .inl g137_192)), (h0, .inr (13, z_12)), (qf100, .inl (cf100, 48000, .inl f100)), (qf126, .inl (cf126, 1501, .inl g126_192)), (qf102, .inl (cf102, 2048, .inl f102)), (qf104, .inl (cf104, 8, .inl f104)), (qf118, .inl (cf118, 2100, .inl g912_1)), (qf119, .inl (cf119, 2100, .inl g912_2)), (qf111, .inl (cf111, 96, .inl f111)), (qf105, .inl (cf105, 8, .inl f105))] H := hP
                  replace hD : va_D A [(qf109, .inl (cf109, 96, .inl f109)), (qf110, .inl (cf110, 96, .inl f110)), (qf127, .inl (cf127, 30, .inl g127_192)), (qf107, .inl (cf107, 96, .inl f107)), (qf128, .inl (cf128, 31, .inl g128_192)), (qf103, .inl (cf103, 8, .inl f103)), (qf106, .inl (cf106, 8, .inl f106)), (qf108, .inl (cf108, 8, .inl f108)), (qf137, .inl (cf137, 6, .inl g137_192)), (h0, .inr (13, z_12)), (qf100, .inl (cf100, 48000, .inl f100)), (qf126, .inl (cf126, 1501, .inl g126_192)), (qf102, .inl (cf102, 2048, .inl f102)), (qf104, .inl (cf104, 8, .inl f104)), (qf118, .inl (cf118, 2100, .inl g912_1)), (qf119, .inl (cf119, 2100, .inl g912_2)), (qf111, .inl (cf111, 96, .inl f111)), (qf105, .inl (cf105, 8, .inl f105))] := hD
                  replace hK : va_K (dC, dI) vwCl [(cf109, .int), (cf110, .int), (cf127, .int), (cf107, .int), (cf128, .int), (cf103, .int), (cf106, .int), (cf108, .int), (cf137, .int), (cf100, .int), (cf126, .boolean), (cf102, .int), (cf104, .int), (cf118, .int), (cf119, .int), (cf111, .int), (cf105, .int)] s := hK
                  obtain ⟨hwa_12, hln_12, hre_12, hch_12_117, hch_12_120⟩ := hw
                  have hfk_12_98 : z_12[98]? = some (.int v98) := (hre_12 98 (by decide) (by decide)).trans (hfk_2_98)
                  have hfk_12_100 : z_12[100]? = some (.ref qf100) := (hre_12 100 (by decide) (by decide)).trans (hfk_2_100)
                  have hfk_12_102 : z_12[102]? = some (.ref qf102) := (hre_12 102 (by decide) (by decide)).trans (hfk_2_102)
                  have hfk_12_103 : z_12[103]? = some (.ref qf103) := (hre_12 103 (by decide) (by decide)).trans (hfk_2_103)
                  have hfk_12_104 : z_12[104]? = some (.ref qf104) := (hre_12 104 (by decide) (by decide)).trans (hfk_2_104)
                  have hfk_12_105 : z_12[105]? = some (.ref qf105) := (hre_12 105 (by decide) (by decide)).trans (hfk_2_105)
                  have hfk_12_106 : z_12[106]? = some (.ref qf106) := (hre_12 106 (by decide) (by decide)).trans (hfk_2_106)
                  have hfk_12_107 : z_12[107]? = some (.ref qf107) := (hre_12 107 (by decide) (by decide)).trans (hfk_2_107)
                  have hfk_12_108 : z_12[108]? = some (.ref qf108) := (hre_12 108 (by decide) (by decide)).trans (hfk_2_108)
                  have hfk_12_109 : z_12[109]? = some (.ref qf109) := (hre_12 109 (by decide) (by decide)).trans (hfk_2_109)
                  have hfk_12_110 : z_12[110]? = some (.ref qf110) := (hre_12 110 (by decide) (by decide)).trans (hfk_2_110)
                  have hfk_12_111 : z_12[111]? = some (.ref qf111) := (hre_12 111 (by decide) (by decide)).trans (hfk_2_111)
                  have hfk_12_118 : z_12[118]? = some (.ref qf118) := (hre_12 118 (by decide) (by decide)).trans (hfk_2_118)
                  have hfk_12_119 : z_12[119]? = some (.ref qf119) := (hre_12 119 (by decide) (by decide)).trans (hfk_2_119)
                  have hfk_12_121 : z_12[121]? = some (.int x121_192) := (hre_12 121 (by decide) (by decide)).trans (hfk_2_121)
                  have hfk_12_122 : z_12[122]? = some (.int x122_192) := (hre_12 122 (by decide) (by decide)).trans (hfk_2_122)
                  have hfk_12_123 : z_12[123]? = some (.int x123_192) := (hre_12 123 (by decide) (by decide)).trans (hfk_2_123)
                  have hfk_12_124 : z_12[124]? = some (.int x124_192) := (hre_12 124 (by decide) (by decide)).trans (hfk_2_124)
                  have hfk_12_125 : z_12[125]? = some (.int x125_192) := (hre_12 125 (by decide) (by decide)).trans (hfk_2_125)
                  have hfk_12_126 : z_12[126]? = some (.ref qf126) := (hre_12 126 (by decide) (by decide)).trans (hfk_2_126)
                  have hfk_12_127 : z_12[127]? = some (.ref qf127) := (hre_12 127 (by decide) (by decide)).trans (hfk_2_127)
                  have hfk_12_128 : z_12[128]? = some (.ref qf128) := (hre_12 128 (by decide) (by decide)).trans (hfk_2_128)
                  have hfk_12_129 : z_12[129]? = some (.int x129_192) := (hre_12 129 (by decide) (by decide)).trans (hfk_2_129)
                  have hfk_12_130 : z_12[130]? = some (.int x130_192) := (hre_12 130 (by decide) (by decide)).trans (hfk_2_130)
                  have hfk_12_131 : z_12[131]? = some (.int x131_192) := (hre_12 131 (by decide) (by decide)).trans (hfk_2_131)
                  have hfk_12_132 : z_12[132]? = some (.int x132_192) := (hre_12 132 (by decide) (by decide)).trans (hfk_2_132)
                  have hfk_12_133 : z_12[133]? = some (.int x133_192) := (hre_12 133 (by decide) (by decide)).trans (hfk_2_133)
                  have hfk_12_134 : z_12[134]? = some (.int x134_192) := (hre_12 134 (by decide) (by decide)).trans (hfk_2_134)
                  have hfk_12_135 : z_12[135]? = some (.int x135_192) := (hre_12 135 (by decide) (by decide)).trans (hfk_2_135)
                  have hfk_12_136 : z_12[136]? = some (.int x136_192) := (hre_12 136 (by decide) (by decide)).trans (hfk_2_136)
                  have hfk_12_137 : z_12[137]? = some (.ref qf137) := (hre_12 137 (by decide) (by decide)).trans (hfk_2_137)
                  have hrq_12 : ∀ j : Nat, j ≠ 117 → j ≠ 120 → j ≠ 121 → j ≠ 122 → j ≠ 123 → j ≠ 124 → j ≠ 125 → j ≠ 129 → j ≠ 130 → j ≠ 131 → j ≠ 132 → j ≠ 133 → j ≠ 134 → j ≠ 135 → j ≠ 136 → z_12[j]? = zs[j]? := fun j g117 g120 g121 g122 g123 g124 g125 g129 g130 g131 g132 g133 g134 g135 g136 => (hre_12 j g117 g120).trans (hrq_2 j g117 g120 g121 g122 g123 g124 g125 g129 g130 g131 g132 g133 g134 g135 g136)
                  obtain ⟨rfl, hz_12⟩ := hwa_12
                  rcases hz_12 with rfl | rfl
                  · rw [if_pos rfl] at hsp
                    refine lv_if_ne (tgt := 233) hx hb dX13_methodFits_219 (by decide) (fun c_24 => (show False by revert c_24; decide).elim) (fun c_24 => ?_)
                    refine lv_aload_n hx hb dX13_methodFits_222 rfl (lv_at hl 2 rfl) ?_
                    refine lv_bipush (v := 8) hx hb dX13_methodFits_223 (by decide) ?_
                    refine lv_iload_n hx hb dX13_methodFits_225 rfl (lv_at hl 3 rfl) ?_
                    refine lv_iload_n hx hb dX13_methodFits_226 rfl (lv_at hl 4 rfl) ?_
                    refine lv_iload hx hb dX13_methodFits_227 (lv_at hl 0 rfl) ?_
                    obtain ⟨⟨u13_0, u13_1, u13_2, u13_3, u13_4⟩, hu_13, hsp⟩ := ox_bind hsp
                    try dsimp only at hsp
                    have hPc := hP.sub (ws' := [(h0, .inr (13, z_12))]) [9] rfl
                    have hDc := hD.sub (ws' := [(h0, .inr (13, z_12))]) [9] (by decide) rfl
                    have hKc := hK.sub (tys' := []) [] rfl
                    have hFc := va_free (wc := [(h0, .inr (13, z_12))]) hD hS hA [9] rfl
                    refine va_calli (va_runV (As := [.int 8, .int l1_192, .int l2_192, .int l4_192]) (rest := []) ⟨hx, hb, hml, hown, hts⟩ (tm_bad l dC dI H.size h0 z_12 8 l1_192 l2_192 l4_192 x122_192 x123_192 x124_192 x125_192 nf u13_0 u13_1 u13_2 u13_3 u13_4 hln_12 hfk_12_122 hfk_12_123 hfk_12_124 hfk_12_125 hu_13) (cwV 4 hts gv_h9_63 rfl rfl rfl (by decide +kernel) ⟨Nat.le_of_ble_eq_true rfl, Nat.le_of_ble_eq_true rfl⟩) ⟨fun a U g mk q => by obtain ⟨q0, q1, qP, qK, qD⟩ := q; exact ⟨q0, q1, qP, va_K.moved (u := U) (U := U.calling g mk a) (Vm.Alike.refl U.vm) qK, qD⟩, va_recv hKc hPc (ci := 13) (q0 := 0) rfl rfl, fun U hU hW => ⟨rfl, by rw [hU], by rw [hU]; exact hPc, va_K.moved hW.alike hKc, hDc.weaken (fun _ _ _ _ => trivial)⟩⟩ rfl rfl hl.1 rfl (lv_room (Nat.le_of_ble_eq_true rfl)) dX13_methodFits_229 ⟨Nat.le_of_ble_eq_true rfl, Nat.le_of_ble_eq_true rfl⟩) hS (fun q _ h => hFc q h) hFc ?_
                    clear hS
                    intro r_25 u t H1 locs ht hvm hw hB hz1 hk1 hS
                    obtain ⟨z_13, rfl⟩ : ∃ z, z = u := ⟨_, rfl⟩
                    obtain ⟨hP1, hK1, hD1⟩ := hB
                    rw [ht] at hP1
                    have hK1 := va_K.moved hvm.symm hK1
                    try dsimp only at hw
                    have hPD := va_join (wr := [(qf109, .inl (cf109, 96, .inl f109)), (qf110, .inl (cf110, 96, .inl f110)), (qf127, .inl (cf127, 30, .inl g127_192)), (qf107, .inl (cf107, 96, .inl f107)), (qf128, .inl (cf128, 31, .inl g128_192)), (qf103, .inl (cf103, 8, .inl f103)), (qf106, .inl (cf106, 8, .inl f106)), (qf108, .inl (cf108, 8, .inl f108)), (qf137, .inl (cf137, 6, .inl g137_192)), (qf100, .inl (cf100, 48000, .inl f100)), (qf126, .inl (cf126, 1501, .inl g126_192)), (qf102, .inl (cf102, 2048, .inl f102)), (qf104, .inl (cf104, 8, .inl f104)), (qf118, .inl (cf118, 2100, .inl g912_1)), (qf119, .inl (cf119, 2100, .inl g912_2)), (qf111, .inl (cf111, 96, .inl f111)), (qf105, .inl (cf105, 8, .inl f105))]) (w1 := [(h0, .inr (13, z_13))]) hP hD [9] [0, 1, 2, 3, 4, 5, 6, 7, 8, 10, 11, 12, 13, 14, 15, 16, 17] rfl rfl (by decide) (by decide) hk1 hFc hP1 hD1
                    clear hP hD
                    obtain ⟨hP, hD⟩ := hPD
                    replace hK := (hK.sub (tys' := [(cf109, .int), (cf110, .int), (cf127, .int), (cf107, .int), (cf128, .int), (cf103, .int), (cf106, .int), (cf108, .int), (cf137, .int), (cf100, .int), (cf126, .boolean), (cf102, .int), (cf104, .int), (cf118, .int), (cf119, .int), (cf111, .int), (cf105, .int)]) [0, 1, 2, 3, 4, 5, 6, 7, 8, 9, 10, 11, 12, 13, 14, 15, 16] rfl).app hK1
                    clear hPc hDc hKc hFc hP1 hK1 hD1 hz1 hk1 ht hvm
                    generalize H1 = H at hP hS ⊢
                    replace hP : va_P (dC, dI) vwCl [(qf109, .inl (cf109, 96, .inl f109)), (qf110, .inl (cf110, 96, .inl f110)), (qf127, .inl (cf127, 30, .inl g127_192)), (qf107, .inl (cf107, 96, .inl f107)), (qf128, .inl (cf128, 31, .inl g128_192)), (qf103, .inl (cf103, 8, .inl f103)), (qf106, .inl (cf106, 8, .inl f106)), (qf108, .inl (cf108, 8, .inl f108)), (qf137, .inl (cf137, 6, .inl g137_192)), (qf100, .inl (cf100, 48000, .inl f100)), (qf126, .inl (cf126, 1501, .inl g126_192)), (qf102, .inl (cf102, 2048, .inl f102)), (qf104, .inl (cf104, 8, .inl f104)), (qf118, .inl (cf118, 2100, .inl g912_1)), (qf119, .inl (cf119, 2100, .inl g912_2)), (qf111, .inl (cf111, 96, .inl f111)), (qf105, .inl (cf105, 8, .inl f105)), (h0, .inr (13, z_13))] H := hP
                    replace hD : va_D A [(qf109, .inl (cf109, 96, .inl f109)), (qf110, .inl (cf110, 96, .inl f110)), (qf127, .inl (cf127, 30, .inl g127_192)), (qf107, .inl (cf107, 96, .inl f107)), (qf128, .inl (cf128, 31, .inl g128_192)), (qf103, .inl (cf103, 8, .inl f103)), (qf106, .inl (cf106, 8, .inl f106)), (qf108, .inl (cf108, 8, .inl f108)), (qf137, .inl (cf137, 6, .inl g137_192)), (qf100, .inl (cf100, 48000, .inl f100)), (qf126, .inl (cf126, 1501, .inl g126_192)), (qf102, .inl (cf102, 2048, .inl f102)), (qf104, .inl (cf104, 8, .inl f104)), (qf118, .inl (cf118, 2100, .inl g912_1)), (qf119, .inl (cf119, 2100, .inl g912_2)), (qf111, .inl (cf111, 96, .inl f111)), (qf105, .inl (cf105, 8, .inl f105)), (h0, .inr (13, z_13))] := hD
                    replace hK : va_K (dC, dI) vwCl [(cf109, .int), (cf110, .int), (cf127, .int), (cf107, .int), (cf128, .int), (cf103, .int), (cf106, .int), (cf108, .int), (cf137, .int), (cf100, .int), (cf126, .boolean), (cf102, .int), (cf104, .int), (cf118, .int), (cf119, .int), (cf111, .int), (cf105, .int)] s := hK
                    obtain ⟨hwa_13, hln_13, hre_13, hch_13_122, hch_13_123, hch_13_124, hch_13_125⟩ := hw
                    have hfk_13_98 : z_13[98]? = some (.int v98) := (hre_13 98 (by decide) (by decide) (by decide) (by decide)).trans (hfk_12_98)
                    have hfk_13_100 : z_13[100]? = some (.ref qf100) := (hre_13 100 (by decide) (by decide) (by decide) (by decide)).trans (hfk_12_100)
                    have hfk_13_102 : z_13[102]? = some (.ref qf102) := (hre_13 102 (by decide) (by decide) (by decide) (by decide)).trans (hfk_12_102)
                    have hfk_13_103 : z_13[103]? = some (.ref qf103) := (hre_13 103 (by decide) (by decide) (by decide) (by decide)).trans (hfk_12_103)
                    have hfk_13_104 : z_13[104]? = some (.ref qf104) := (hre_13 104 (by decide) (by decide) (by decide) (by decide)).trans (hfk_12_104)
                    have hfk_13_105 : z_13[105]? = some (.ref qf105) := (hre_13 105 (by decide) (by decide) (by decide) (by decide)).trans (hfk_12_105)
                    have hfk_13_106 : z_13[106]? = some (.ref qf106) := (hre_13 106 (by decide) (by decide) (by decide) (by decide)).trans (hfk_12_106)
                    have hfk_13_107 : z_13[107]? = some (.ref qf107) := (hre_13 107 (by decide) (by decide) (by decide) (by decide)).trans (hfk_12_107)
                    have hfk_13_108 : z_13[108]? = some (.ref qf108) := (hre_13 108 (by decide) (by decide) (by decide) (by decide)).trans (hfk_12_108)
                    have hfk_13_109 : z_13[109]? = some (.ref qf109) := (hre_13 109 (by decide) (by decide) (by decide) (by decide)).trans (hfk_12_109)
                    have hfk_13_110 : z_13[110]? = some (.ref qf110) := (hre_13 110 (by decide) (by decide) (by decide) (by decide)).trans (hfk_12_110)
                    have hfk_13_111 : z_13[111]? = some (.ref qf111) := (hre_13 111 (by decide) (by decide) (by decide) (by decide)).trans (hfk_12_111)
                    have hfk_13_117 : z_13[117]? = some (.int u12_3) := (hre_13 117 (by decide) (by decide) (by decide) (by decide)).trans (hch_12_117)
                    have hfk_13_118 : z_13[118]? = some (.ref qf118) := (hre_13 118 (by decide) (by decide) (by decide) (by decide)).trans (hfk_12_118)
                    have hfk_13_119 : z_13[119]? = some (.ref qf119) := (hre_13 119 (by decide) (by decide) (by decide) (by decide)).trans (hfk_12_119)
                    have hfk_13_120 : z_13[120]? = some (.int u12_4) := (hre_13 120 (by decide) (by decide) (by decide) (by decide)).trans (hch_12_120)
                    have hfk_13_121 : z_13[121]? = some (.int x121_192) := (hre_13 121 (by decide) (by decide) (by decide) (by decide)).trans (hfk_12_121)
                    have hfk_13_126 : z_13[126]? = some (.ref qf126) := (hre_13 126 (by decide) (by decide) (by decide) (by decide)).trans (hfk_12_126)
                    have hfk_13_127 : z_13[127]? = some (.ref qf127) := (hre_13 127 (by decide) (by decide) (by decide) (by decide)).trans (hfk_12_127)
                    have hfk_13_128 : z_13[128]? = some (.ref qf128) := (hre_13 128 (by decide) (by decide) (by decide) (by decide)).trans (hfk_12_128)
                    have hfk_13_129 : z_13[129]? = some (.int x129_192) := (hre_13 129 (by decide) (by decide) (by decide) (by decide)).trans (hfk_12_129)
                    have hfk_13_130 : z_13[130]? = some (.int x130_192) := (hre_13 130 (by decide) (by decide) (by decide) (by decide)).trans (hfk_12_130)
                    have hfk_13_131 : z_13[131]? = some (.int x131_192) := (hre_13 131 (by decide) (by decide) (by decide) (by decide)).trans (hfk_12_131)
                    have hfk_13_132 : z_13[132]? = some (.int x132_192) := (hre_13 132 (by decide) (by decide) (by decide) (by decide)).trans (hfk_12_132)
                    have hfk_13_133 : z_13[133]? = some (.int x133_192) := (hre_13 133 (by decide) (by decide) (by decide) (by decide)).trans (hfk_12_133)
                    have hfk_13_134 : z_13[134]? = some (.int x134_192) := (hre_13 134 (by decide) (by decide) (by decide) (by decide)).trans (hfk_12_134)
                    have hfk_13_135 : z_13[135]? = some (.int x135_192) := (hre_13 135 (by decide) (by decide) (by decide) (by decide)).trans (hfk_12_135)
                    have hfk_13_136 : z_13[136]? = some (.int x136_192) := (hre_13 136 (by decide) (by decide) (by decide) (by decide)).trans (hfk_12_136)
                    have hfk_13_137 : z_13[137]? = some (.ref qf137) := (hre_13 137 (by decide) (by decide) (by decide) (by decide)).trans (hfk_12_137)
                    have hrq_13 : ∀ j : Nat, j ≠ 117 → j ≠ 120 → j ≠ 121 → j ≠ 122 → j ≠ 123 → j ≠ 124 → j ≠ 125 → j ≠ 129 → j ≠ 130 → j ≠ 131 → j ≠ 132 → j ≠ 133 → j ≠ 134 → j ≠ 135 → j ≠ 136 → z_13[j]? = zs[j]? := fun j g117 g120 g121 g122 g123 g124 g125 g129 g130 g131 g132 g133 g134 g135 g136 => (hre_13 j g122 g123 g124 g125).trans (hrq_12 j g117 g120 g121 g122 g123 g124 g125 g129 g130 g131 g132 g133 g134 g135 g136)
                    obtain ⟨rfl, hz_13⟩ := hwa_13
                    rcases hz_13 with rfl | rfl
                    · rw [if_pos rfl] at hsp
                      exact hret_232 (H, locs, ls, z_13, 0, g912_1, g912_2, g126_192, g127_192, g128_192, g137_192, u12_3, u12_4, x121_192, u13_1, u13_2, u13_3, u13_4, x129_192, x130_192, x131_192, x132_192, x133_192, x134_192, x135_192, x136_192) ⟨hS, hD.sub (ws' := [(h0, .inr (13, z_13)), (qf109, .inl (cf109, 96, .inl f109)), (qf100, .inl (cf100, 48000, .inl f100)), (qf110, .inl (cf110, 96, .inl f110)), (qf111, .inl (cf111, 96, .inl f111)), (qf127, .inl (cf127, 30, .inl g127_192)), (qf107, .inl (cf107, 96, .inl f107)), (qf102, .inl (cf102, 2048, .inl f102)), (qf104, .inl (cf104, 8, .inl f104)), (qf118, .inl (cf118, 2100, .inl g912_1)), (qf119, .inl (cf119, 2100, .inl g912_2)), (qf105, .inl (cf105, 8, .inl f105)), (qf128, .inl (cf128, 31, .inl g128_192)), (qf103, .inl (cf103, 8, .inl f103)), (qf106, .inl (cf106, 8, .inl f106)), (qf108, .inl (cf108, 8, .inl f108)), (qf137, .inl (cf137, 6, .inl g137_192)), (qf126, .inl (cf126, 1501, .inl g126_192))]) [17, 0, 9, 1, 15, 2, 3, 11, 12, 13, 14, 16, 4, 5, 6, 7, 8, 10] (by decide) rfl, hP.sub (ws' := [(h0, .inr (13, z_13)), (qf109, .inl (cf109, 96, .inl f109)), (qf100, .inl (cf100, 48000, .inl f100)), (qf110, .inl (cf110, 96, .inl f110)), (qf111, .inl (cf111, 96, .inl f111)), (qf127, .inl (cf127, 30, .inl g127_192)), (qf107, .inl (cf107, 96, .inl f107)), (qf102, .inl (cf102, 2048, .inl f102)), (qf104, .inl (cf104, 8, .inl f104)), (qf118, .inl (cf118, 2100, .inl g912_1)), (qf119, .inl (cf119, 2100, .inl g912_2)), (qf105, .inl (cf105, 8, .inl f105)), (qf128, .inl (cf128, 31, .inl g128_192)), (qf103, .inl (cf103, 8, .inl f103)), (qf106, .inl (cf106, 8, .inl f106)), (qf108, .inl (cf108, 8, .inl f108)), (qf137, .inl (cf137, 6, .inl g137_192)), (qf126, .inl (cf126, 1501, .inl g126_192))]) [17, 0, 9, 1, 15, 2, 3, 11, 12, 13, 14, 16, 4, 5, 6, 7, 8, 10] rfl, hfk_13_98, hfk_13_100, hfk_13_102, hfk_13_103, hfk_13_104, hfk_13_105, hfk_13_106, hfk_13_107, hfk_13_108, hfk_13_109, hfk_13_110, hfk_13_111, hfk_13_117, hfk_13_118, hfk_13_119, hfk_13_120, hfk_13_121, hch_13_122, hch_13_123, hch_13_124, hch_13_125, hfk_13_126, hfk_13_127, hfk_13_128, hfk_13_129, hfk_13_130, hfk_13_131, hfk_13_132, hfk_13_133, hfk_13_134, hfk_13_135, hfk_13_136, hfk_13_137, hln_13, hrq_13, Or.inl rfl, hsp⟩
                    · rw [if_neg (by decide)] at hsp
                      exact hret_232 (H, locs, ls, z_13, 1, g912_1, g912_2, g126_192, g127_192, g128_192, g137_192, u12_3, u12_4, x121_192, u13_1, u13_2, u13_3, u13_4, x129_192, x130_192, x131_192, x132_192, x133_192, x134_192, x135_192, x136_192) ⟨hS, hD.sub (ws' := [(h0, .inr (13, z_13)), (qf109, .inl (cf109, 96, .inl f109)), (qf100, .inl (cf100, 48000, .inl f100)), (qf110, .inl (cf110, 96, .inl f110)), (qf111, .inl (cf111, 96, .inl f111)), (qf127, .inl (cf127, 30, .inl g127_192)), (qf107, .inl (cf107, 96, .inl f107)), (qf102, .inl (cf102, 2048, .inl f102)), (qf104, .inl (cf104, 8, .inl f104)), (qf118, .inl (cf118, 2100, .inl g912_1)), (qf119, .inl (cf119, 2100, .inl g912_2)), (qf105, .inl (cf105, 8, .inl f105)), (qf128, .inl (cf128, 31, .inl g128_192)), (qf103, .inl (cf103, 8, .inl f103)), (qf106, .inl (cf106, 8, .inl f106)), (qf108, .inl (cf108, 8, .inl f108)), (qf137, .inl (cf137, 6, .inl g137_192)), (qf126, .inl (cf126, 1501, .inl g126_192))]) [17, 0, 9, 1, 15, 2, 3, 11, 12, 13, 14, 16, 4, 5, 6, 7, 8, 10] (by decide) rfl, hP.sub (ws' := [(h0, .inr (13, z_13)), (qf109, .inl (cf109, 96, .inl f109)), (qf100, .inl (cf100, 48000, .inl f100)), (qf110, .inl (cf110, 96, .inl f110)), (qf111, .inl (cf111, 96, .inl f111)), (qf127, .inl (cf127, 30, .inl g127_192)), (qf107, .inl (cf107, 96, .inl f107)), (qf102, .inl (cf102, 2048, .inl f102)), (qf104, .inl (cf104, 8, .inl f104)), (qf118, .inl (cf118, 2100, .inl g912_1)), (qf119, .inl (cf119, 2100, .inl g912_2)), (qf105, .inl (cf105, 8, .inl f105)), (qf128, .inl (cf128, 31, .inl g128_192)), (qf103, .inl (cf103, 8, .inl f103)), (qf106, .inl (cf106, 8, .inl f106)), (qf108, .inl (cf108, 8, .inl f108)), (qf137, .inl (cf137, 6, .inl g137_192)), (qf126, .inl (cf126, 1501, .inl g126_192))]) [17, 0, 9, 1, 15, 2, 3, 11, 12, 13, 14, 16, 4, 5, 6, 7, 8, 10] rfl, hfk_13_98, hfk_13_100, hfk_13_102, hfk_13_103, hfk_13_104, hfk_13_105, hfk_13_106, hfk_13_107, hfk_13_108, hfk_13_109, hfk_13_110, hfk_13_111, hfk_13_117, hfk_13_118, hfk_13_119, hfk_13_120, hfk_13_121, hch_13_122, hch_13_123, hch_13_124, hch_13_125, hfk_13_126, hfk_13_127, hfk_13_128, hfk_13_129, hfk_13_130, hfk_13_131, hfk_13_132, hfk_13_133, hfk_13_134, hfk_13_135, hfk_13_136, hfk_13_137, hln_13, hrq_13, Or.inr rfl, hsp⟩
                  · rw [if_neg (by decide)] at hsp
                    refine lv_if_ne (tgt := 233) hx hb dX13_methodFits_219 (by decide) (fun c_26 => ?_) (fun c_26 => (show False by revert c_26; decide).elim)
                    refine lv_iinc (v := (l4_192 + 1)) (lv' := [(4, .int (l4_192 + 1)), (3, .int l3_192), (0, .ref h0), (1, .int l1_192), (2, .int l2_192)]) hx hb dX13_methodFits_233 hl (k := 0) rfl rfl (by decide) rfl (fun ls hl => ?_)
                    refine lv_goto (tgt := 192) hx hb dX13_methodFits_236 (by decide) ?_
                    exact ih_192 H locs ls z_12 l1_192 l2_192 l3_192 (l4_192 + 1) g912_1 g912_2 g126_192 g127_192 g128_192 g137_192 u12_3 u12_4 x121_192 x122_192 x123_192 x124_192 x125_192 x129_192 x130_192 x131_192 x132_192 x133_192 x134_192 x135_192 x136_192 (hfk_12_98) (hfk_12_100) (hfk_12_102) (hfk_12_103) (hfk_12_104) (hfk_12_105) (hfk_12_106) (hfk_12_107) (hfk_12_108) (hfk_12_109) (hfk_12_110) (hfk_12_111) (hch_12_117) (hfk_12_118) (hfk_12_119) (hch_12_120) (hfk_12_121) (hfk_12_122) (hfk_12_123) (hfk_12_124) (hfk_12_125) (hfk_12_126) (hfk_12_127) (hfk_12_128) (hfk_12_129) (hfk_12_130) (hfk_12_131) (hfk_12_132) (hfk_12_133) (hfk_12_134) (hfk_12_135) (hfk_12_136) (hfk_12_137) hln_12 hrq_12 (lv_sub hl [0, 1, 2, 3, 4] rfl) hS (hD.sub (ws' := [(h0, .inr (13, z_12)), (qf109, .inl (cf109, 96, .inl f109)), (qf100, .inl (cf100, 48000, .inl f100)), (qf110, .inl (cf110, 96, .inl f110)), (qf111, .inl (cf111, 96, .inl f111)), (qf127, .inl (cf127, 30, .inl g127_192)), (qf107, .inl (cf107, 96, .inl f107)), (qf102, .inl (cf102, 2048, .inl f102)), (qf104, .inl (cf104, 8, .inl f104)), (qf118, .inl (cf118, 2100, .inl g912_1)), (qf119, .inl (cf119, 2100, .inl g912_2)), (qf105, .inl (cf105, 8, .inl f105)), (qf128, .inl (cf128, 31, .inl g128_192)), (qf103, .inl (cf103, 8, .inl f103)), (qf106, .inl (cf106, 8, .inl f106)), (qf108, .inl (cf108, 8, .inl f108)), (qf137, .inl (cf137, 6, .inl g137_192)), (qf126, .inl (cf126, 1501, .inl g126_192))]) [9, 0, 10, 1, 16, 2, 3, 12, 13, 14, 15, 17, 4, 5, 6, 7, 8, 11] (by decide) rfl) (hP.sub (ws' := [(h0, .inr (13, z_12)), (qf109, .inl (cf109, 96, .inl f109)), (qf100, .inl (cf100, 48000, .inl f100)), (qf110, .inl (cf110, 96, .inl f110)), (qf111, .inl (cf111, 96, .inl f111)), (qf127, .inl (cf127, 30, .inl g127_192)), (qf107, .inl (cf107, 96, .inl f107)), (qf102, .inl (cf102, 2048, .inl f102)), (qf104, .inl (cf104, 8, .inl f104)), (qf118, .inl (cf118, 2100, .inl g912_1)), (qf119, .inl (cf119, 2100, .inl g912_2)), (qf105, .inl (cf105, 8, .inl f105)), (qf128, .inl (cf128, 31, .inl g128_192)), (qf103, .inl (cf103, 8, .inl f103)), (qf106, .inl (cf106, 8, .inl f106)), (qf108, .inl (cf108, 8, .inl f108)), (qf137, .inl (cf137, 6, .inl g137_192)), (qf126, .inl (cf126, 1501, .inl g126_192))]) [9, 0, 10, 1, 16, 2, 3, 12, 13, 14, 15, 17, 4, 5, 6, 7, 8, 11] rfl) hsp
            · rw [if_neg c_3] at hsp
              refine lv_aload_n hx hb dX13_methodFits_105 rfl (lv_at hl 1 rfl) ?_
              refine lv_iload_n hx hb dX13_methodFits_106 rfl (lv_at hl 0 rfl) ?_
              obtain ⟨u14_0, hu_14, hsp⟩ := ox_bind hsp
              try dsimp only at hsp
              have hPc := hP.sub (ws' := [(h0, .inr (13, z97)), (qf100, .inl (cf100, 48000, .inl f100))]) [0, 2] rfl
              have hDc := hD.sub (ws' := [(h0, .inr (13, z97)), (qf100, .inl (cf100, 48000, .inl f100))]) [0, 2] (by decide) rfl
              have hKc := hK.sub (tys' := [(cf100, .int)]) [1] rfl
              have hFc := va_free (wc := [(h0, .inr (13, z97)), (qf100, .inl (cf100, 48000, .inl f100))]) hD hS hA [0, 2] rfl
              refine va_calli (va_runV (As := [.int l3_97]) (rest := []) ⟨hx, hb, hml, hown, hts⟩ (tm_code l dC dI H.size h0 z97 l3_97 qf100 x132_97 x134_97 cf100 f100 nf u14_0 hlh_97 hfh_97_100 hfh_97_132 hfh_97_134 hu_14) (cwV 1 hts gv_h9_65 rfl rfl rfl (by decide +kernel) ⟨Nat.le_of_ble_eq_true rfl, Nat.le_of_ble_eq_true rfl⟩) ⟨fun a U g mk q => by obtain ⟨q0, q1, qP, qK, qD⟩ := q; exact ⟨q0, q1, qP, va_K.moved (u := U) (U := U.calling g mk a) (Vm.Alike.refl U.vm) qK, qD⟩, va_recv hKc hPc (ci := 13) (q0 := 0) rfl rfl, fun U hU hW => ⟨rfl, by rw [hU], by rw [hU]; exact hPc, va_K.moved hW.alike hKc, hDc.weaken (fun _ _ _ _ => trivial)⟩⟩ rfl rfl hl.1 rfl (lv_room (Nat.le_of_ble_eq_true rfl)) dX13_methodFits_107 ⟨Nat.le_of_ble_eq_true rfl, Nat.le_of_ble_eq_true rfl⟩) hS (fun q _ h => hFc q h) hFc ?_
              clear hS
              intro r_27 u t H1 locs ht hvm hw hB hz1 hk1 hS
              obtain ⟨z_14, rfl⟩ : ∃ z, z = u := ⟨_, rfl⟩
              obtain ⟨hP1, hK1, hD1⟩ := hB
              rw [ht] at hP1
              have hK1 := va_K.moved hvm.symm hK1
              try dsimp only at hw
              have hPD := va_join (wr := [(qf109, .inl (cf109, 96, .inl f109)), (qf110, .inl (cf110, 96, .inl f110)), (qf111, .inl (cf111, 96, .inl f111)), (qf127, .inl (cf127, 30, .inl g127_97)), (qf107, .inl (cf107, 96, .inl f107)), (qf102, .inl (cf102, 2048, .inl f102)), (qf104, .inl (cf104, 8, .inl f104)), (qf118, .inl (cf118, 2100, .inl g118_97)), (qf119, .inl (cf119, 2100, .inl g119_97)), (qf105, .inl (cf105, 8, .inl f105)), (qf128, .inl (cf128, 31, .inl g128_97)), (qf103, .inl (cf103, 8, .inl f103)), (qf106, .inl (cf106, 8, .inl f106)), (qf108, .inl (cf108, 8, .inl f108)), (qf137, .inl (cf137, 6, .inl g137_97)), (qf126, .inl (cf126, 1501, .inl g126_97))]) (w1 := [(h0, .inr (13, z_14)), (qf100, .inl (cf100, 48000, .inl f100))]) hP hD [0, 2] [1, 3, 4, 5, 6, 7, 8, 9, 10, 11, 12, 13, 14, 15, 16, 17] rfl rfl (by decide) (by decide) hk1 hFc hP1 hD1
              clear hP hD
              obtain ⟨hP, hD⟩ := hPD
              replace hK := (hK.sub (tys' := [(cf109, .int), (cf110, .int), (cf111, .int), (cf127, .int), (cf107, .int), (cf102, .int), (cf104, .int), (cf118, .int), (cf119, .int), (cf105, .int), (cf128, .int), (cf103, .int), (cf106, .int), (cf108, .int), (cf137, .int), (cf126, .boolean)]) [0, 2, 3, 4, 5, 6, 7, 8, 9, 10, 11, 12, 13, 14, 15, 16] rfl).app hK1
              clear hPc hDc hKc hFc hP1 hK1 hD1 hz1 hk1 ht hvm
              generalize H1 = H at hP hS ⊢
              replace hP : va_P (dC, dI) vwCl [(qf109, .inl (cf109, 96, .inl f109)), (qf110, .inl (cf110, 96, .inl f110)), (qf111, .inl (cf111, 96, .inl f111)), (qf127, .inl (cf127, 30, .inl g127_97)), (qf107, .inl (cf107, 96, .inl f107)), (qf102, .inl (cf102, 2048, .inl f102)), (qf104, .inl (cf104, 8, .inl f104)), (qf118, .inl (cf118, 2100, .inl g118_97)), (qf119, .inl (cf119, 2100, .inl g119_97)), (qf105, .inl (cf105, 8, .inl f105)), (qf128, .inl (cf128, 31, .inl g128_97)), (qf103, .inl (cf103, 8, .inl f103)), (qf106, .inl (cf106, 8, .inl f106)), (qf108, .inl (cf108, 8, .inl f108)), (qf137, .inl (cf137, 6, .inl g137_97)), (qf126, .inl (cf126, 1501, .inl g126_97)), (h0, .inr (13, z_14)), (qf100, .inl (cf100, 48000, .inl f100))] H := hP
              replace hD : va_D A [(qf109, .inl (cf109, 96, .inl f109)), (qf110, .inl (cf110, 96, .inl f110)), (qf111, .inl (cf111, 96, .inl f111)), (qf127, .inl (cf127, 30, .inl g127_97)), (qf107, .inl (cf107, 96, .inl f107)), (qf102, .inl (cf102, 2048, .inl f102)), (qf104, .inl (cf104, 8, .inl f104)), (qf118, .inl (cf118, 2100, .inl g118_97)), (qf119, .inl (cf119, 2100, .inl g119_97)), (qf105, .inl (cf105, 8, .inl f105)), (qf128, .inl (cf128, 31, .inl g128_97)), (qf103, .inl (cf103, 8, .inl f103)), (qf106, .inl (cf106, 8, .inl f106)), (qf108, .inl (cf108, 8, .inl f108)), (qf137, .inl (cf137, 6, .inl g137_97)), (qf126, .inl (cf126, 1501, .inl g126_97)), (h0, .inr (13, z_14)), (qf100, .inl (cf100, 48000, .inl f100))] := hD
              replace hK : va_K (dC, dI) vwCl [(cf109, .int), (cf110, .int), (cf111, .int), (cf127, .int), (cf107, .int), (cf102, .int), (cf104, .int), (cf118, .int), (cf119, .int), (cf105, .int), (cf128, .int), (cf103, .int), (cf106, .int), (cf108, .int), (cf137, .int), (cf126, .boolean), (cf100, .int)] s := hK
              obtain ⟨hwa_14, hln_14, hre_14⟩ := hw
              have hfk_14_98 : z_14[98]? = some (.int v98) := (hre_14 98 ).trans (hfh_97_98)
              have hfk_14_100 : z_14[100]? = some (.ref qf100) := (hre_14 100 ).trans (hfh_97_100)
              have hfk_14_102 : z_14[102]? = some (.ref qf102) := (hre_14 102 ).trans (hfh_97_102)
              have hfk_14_103 : z_14[103]? = some (.ref qf103) := (hre_14 103 ).trans (hfh_97_103)
              have hfk_14_104 : z_14[104]? = some (.ref qf104) := (hre_14 104 ).trans (hfh_97_104)
              have hfk_14_105 : z_14[105]? = some (.ref qf105) := (hre_14 105 ).trans (hfh_97_105)
              have hfk_14_106 : z_14[106]? = some (.ref qf106) := (hre_14 106 ).trans (hfh_97_106)
              have hfk_14_107 : z_14[107]? = some (.ref qf107) := (hre_14 107 ).trans (hfh_97_107)
              have hfk_14_108 : z_14[108]? = some (.ref qf108) := (hre_14 108 ).trans (hfh_97_108)
              have hfk_14_109 : z_14[109]? = some (.ref qf109) := (hre_14 109 ).trans (hfh_97_109)
              have hfk_14_110 : z_14[110]? = some (.ref qf110) := (hre_14 110 ).trans (hfh_97_110)
              have hfk_14_111 : z_14[111]? = some (.ref qf111) := (hre_14 111 ).trans (hfh_97_111)
              have hfk_14_117 : z_14[117]? = some (.int x117_97) := (hre_14 117 ).trans (hfh_97_117)
              have hfk_14_118 : z_14[118]? = some (.ref qf118) := (hre_14 118 ).trans (hfh_97_118)
              have hfk_14_119 : z_14[119]? = some (.ref qf119) := (hre_14 119 ).trans (hfh_97_119)
              have hfk_14_120 : z_14[120]? = some (.int x120_97) := (hre_14 120 ).trans (hfh_97_120)
              have hfk_14_121 : z_14[121]? = some (.int x121_97) := (hre_14 121 ).trans (hfh_97_121)
              have hfk_14_122 : z_14[122]? = some (.int x122_97) := (hre_14 122 ).trans (hfh_97_122)
              have hfk_14_123 : z_14[123]? = some (.int x123_97) := (hre_14 123 ).trans (hfh_97_123)
              have hfk_14_124 : z_14[124]? = some (.int x124_97) := (hre_14 124 ).trans (hfh_97_124)
              have hfk_14_125 : z_14[125]? = some (.int x125_97) := (hre_14 125 ).trans (hfh_97_125)
              have hfk_14_126 : z_14[126]? = some (.ref qf126) := (hre_14 126 ).trans (hfh_97_126)
              have hfk_14_127 : z_14[127]? = some (.ref qf127) := (hre_14 127 ).trans (hfh_97_127)
              have hfk_14_128 : z_14[128]? = some (.ref qf128) := (hre_14 128 ).trans (hfh_97_128)
              have hfk_14_129 : z_14[129]? = some (.int x129_97) := (hre_14 129 ).trans (hfh_97_129)
              have hfk_14_130 : z_14[130]? = some (.int x130_97) := (hre_14 130 ).trans (hfh_97_130)
              have hfk_14_131 : z_14[131]? = some (.int x131_97) := (hre_14 131 ).trans (hfh_97_131)
              have hfk_14_132 : z_14[132]? = some (.int x132_97) := (hre_14 132 ).trans (hfh_97_132)
              have hfk_14_133 : z_14[133]? = some (.int x133_97) := (hre_14 133 ).trans (hfh_97_133)
              have hfk_14_134 : z_14[134]? = some (.int x134_97) := (hre_14 134 ).trans (hfh_97_134)
              have hfk_14_135 : z_14[135]? = some (.int x135_97) := (hre_14 135 ).trans (hfh_97_135)
              have hfk_14_136 : z_14[136]? = some (.int x136_97) := (hre_14 136 ).trans (hfh_97_136)
              have hfk_14_137 : z_14[137]? = some (.ref qf137) := (hre_14 137 ).trans (hfh_97_137)
              have hrq_14 : ∀ j : Nat, j ≠ 117 → j ≠ 120 → j ≠ 121 → j ≠ 122 → j ≠ 123 → j ≠ 124 → j ≠ 125 → j ≠ 129 → j ≠ 130 → j ≠ 131 → j ≠ 132 → j ≠ 133 → j ≠ 134 → j ≠ 135 → j ≠ 136 → z_14[j]? = zs[j]? := fun j g117 g120 g121 g122 g123 g124 g125 g129 g130 g131 g132 g133 g134 g135 g136 => (hre_14 j ).trans (hrh_97 j g117 g120 g121 g122 g123 g124 g125 g129 g130 g131 g132 g133 g134 g135 g136)
              obtain rfl := hwa_14
              obtain ⟨u15_0, hu_15, hsp⟩ := ox_bind hsp
              try dsimp only at hsp
              have hPc := hP.sub (ws' := []) [] rfl
              have hDc := hD.sub (ws' := []) [] (by decide) rfl
              have hKc := hK.sub (tys' := []) [] rfl
              have hFc := va_free (wc := []) hD hS hA [] rfl
              refine va_calli (va_runS (As := [.int u14_0]) (rest := []) ⟨hx, hb, hml, hown, hts⟩ (tm_isJump l dC dI H.size u14_0 nf u15_0 hu_15) (va_cwS 1 hts gv_h9_128 rfl rfl rfl (by decide +kernel) ⟨Nat.le_of_ble_eq_true rfl, Nat.le_of_ble_eq_true rfl⟩) ⟨fun a U g mk q => by obtain ⟨q0, q1, qP, qK, qD⟩ := q; exact ⟨q0, q1, qP, va_K.moved (u := U) (U := U.calling g mk a) (Vm.Alike.refl U.vm) qK, qD⟩, fun U hU hW => ⟨rfl, by rw [hU], by rw [hU]; exact hPc, va_K.moved hW.alike hKc, hDc.weaken (fun _ _ _ _ => trivial)⟩⟩ rfl rfl hl.1 rfl (lv_room (Nat.le_of_ble_eq_true rfl)) dX13_methodFits_110 ⟨Nat.le_of_ble_eq_true rfl, Nat.le_of_ble_eq_true rfl⟩) hS (fun q _ h => hFc q h) hFc ?_
              clear hS
              intro r_28 u t H1 locs ht hvm hw hB hz1 hk1 hS
              obtain ⟨⟩ := u
              obtain ⟨hP1, hK1, hD1⟩ := hB
              rw [ht] at hP1
              have hK1 := va_K.moved hvm.symm hK1
              try dsimp only at hw
              have hPD := va_join (wr := [(qf109, .inl (cf109, 96, .inl f109)), (qf110, .inl (cf110, 96, .inl f110)), (qf111, .inl (cf111, 96, .inl f111)), (qf127, .inl (cf127, 30, .inl g127_97)), (qf107, .inl (cf107, 96, .inl f107)), (qf102, .inl (cf102, 2048, .inl f102)), (qf104, .inl (cf104, 8, .inl f104)), (qf118, .inl (cf118, 2100, .inl g118_97)), (qf119, .inl (cf119, 2100, .inl g119_97)), (qf105, .inl (cf105, 8, .inl f105)), (qf128, .inl (cf128, 31, .inl g128_97)), (qf103, .inl (cf103, 8, .inl f103)), (qf106, .inl (cf106, 8, .inl f106)), (qf108, .inl (cf108, 8, .inl f108)), (qf137, .inl (cf137, 6, .inl g137_97)), (qf126, .inl (cf126, 1501, .inl g126_97)), (h0, .inr (13, z_14)), (qf100, .inl (cf100, 48000, .inl f100))]) (w1 := []) hP hD [] [0, 1, 2, 3, 4, 5, 6, 7, 8, 9, 10, 11, 12, 13, 14, 15, 16, 17] rfl rfl (by decide) (by decide) hk1 hFc hP1 hD1
              clear hP hD
              obtain ⟨hP, hD⟩ := hPD
              replace hK := (hK.sub (tys' := [(cf109, .int), (cf110, .int), (cf111, .int), (cf127, .int), (cf107, .int), (cf102, .int), (cf104, .int), (cf118, .int), (cf119, .int), (cf105, .int), (cf128, .int), (cf103, .int), (cf106, .int), (cf108, .int), (cf137, .int), (cf126, .boolean), (cf100, .int)]) [0, 1, 2, 3, 4, 5, 6, 7, 8, 9, 10, 11, 12, 13, 14, 15, 16] rfl).app hK1
              clear hPc hDc hKc hFc hP1 hK1 hD1 hz1 hk1 ht hvm
              generalize H1 = H at hP hS ⊢
              replace hP : va_P (dC, dI) vwCl [(qf109, .inl (cf109, 96, .inl f109)), (qf110, .inl (cf110, 96, .inl f110)), (qf111, .inl (cf111, 96, .inl f111)), (qf127, .inl (cf127, 30, .inl g127_97)), (qf107, .inl (cf107, 96, .inl f107)), (qf102, .inl (cf102, 2048, .inl f102)), (qf104, .inl (cf104, 8, .inl f104)), (qf118, .inl (cf118, 2100, .inl g118_97)), (qf119, .inl (cf119, 2100, .inl g119_97)), (qf105, .inl (cf105, 8, .inl f105)), (qf128, .inl (cf128, 31, .inl g128_97)), (qf103, .inl (cf103, 8, .inl f103)), (qf106, .inl (cf106, 8, .inl f106)), (qf108, .inl (cf108, 8, .inl f108)), (qf137, .inl (cf137, 6, .inl g137_97)), (qf126, .inl (cf126, 1501, .inl g126_97)), (h0, .inr (13, z_14)), (qf100, .inl (cf100, 48000, .inl f100))] H := hP
              replace hD : va_D A [(qf109, .inl (cf109, 96, .inl f109)), (qf110, .inl (cf110, 96, .inl f110)), (qf111, .inl (cf111, 96, .inl f111)), (qf127, .inl (cf127, 30, .inl g127_97)), (qf107, .inl (cf107, 96, .inl f107)), (qf102, .inl (cf102, 2048, .inl f102)), (qf104, .inl (cf104, 8, .inl f104)), (qf118, .inl (cf118, 2100, .inl g118_97)), (qf119, .inl (cf119, 2100, .inl g119_97)), (qf105, .inl (cf105, 8, .inl f105)), (qf128, .inl (cf128, 31, .inl g128_97)), (qf103, .inl (cf103, 8, .inl f103)), (qf106, .inl (cf106, 8, .inl f106)), (qf108, .inl (cf108, 8, .inl f108)), (qf137, .inl (cf137, 6, .inl g137_97)), (qf126, .inl (cf126, 1501, .inl g126_97)), (h0, .inr (13, z_14)), (qf100, .inl (cf100, 48000, .inl f100))] := hD
              replace hK : va_K (dC, dI) vwCl [(cf109, .int), (cf110, .int), (cf111, .int), (cf127, .int), (cf107, .int), (cf102, .int), (cf104, .int), (cf118, .int), (cf119, .int), (cf105, .int), (cf128, .int), (cf103, .int), (cf106, .int), (cf108, .int), (cf137, .int), (cf126, .boolean), (cf100, .int)] s := hK
              obtain ⟨rfl, hz_15⟩ := hw
              rcases hz_15 with rfl | rfl
              · rw [if_pos rfl] at hsp
                refine lv_if_ne (tgt := 119) hx hb dX13_methodFits_113 (by decide) (fun c_29 => (show False by revert c_29; decide).elim) (fun c_29 => ?_)
                refine lv_goto (tgt := 160) hx hb dX13_methodFits_116 (by decide) ?_
                refine lv_iload_n hx hb dX13_methodFits_160 rfl (lv_at hl 0 rfl) ?_
                refine lv_aload_n hx hb dX13_methodFits_161 rfl (lv_at hl 1 rfl) ?_
                refine lv_iload_n hx hb dX13_methodFits_162 rfl (lv_at hl 0 rfl) ?_
                obtain ⟨u16_0, hu_16, hsp⟩ := ox_bind hsp
                try dsimp only at hsp
                have hPc := hP.sub (ws' := [(h0, .inr (13, z_14)), (qf100, .inl (cf100, 48000, .inl f100))]) [16, 17] rfl
                have hDc := hD.sub (ws' := [(h0, .inr (13, z_14)), (qf100, .inl (cf100, 48000, .inl f100))]) [16, 17] (by decide) rfl
                have hKc := hK.sub (tys' := [(cf100, .int)]) [16] rfl
                have hFc := va_free (wc := [(h0, .inr (13, z_14)), (qf100, .inl (cf100, 48000, .inl f100))]) hD hS hA [16, 17] rfl
                refine va_calli (va_runV (As := [.int l3_97]) (rest := [.int l3_97]) ⟨hx, hb, hml, hown, hts⟩ (tm_code l dC dI H.size h0 z_14 l3_97 qf100 x132_97 x134_97 cf100 f100 nf u16_0 hln_14 hfk_14_100 hfk_14_132 hfk_14_134 hu_16) (cwV 1 hts gv_h9_65 rfl rfl rfl (by decide +kernel) ⟨Nat.le_of_ble_eq_true rfl, Nat.le_of_ble_eq_true rfl⟩) ⟨fun a U g mk q => by obtain ⟨q0, q1, qP, qK, qD⟩ := q; exact ⟨q0, q1, qP, va_K.moved (u := U) (U := U.calling g mk a) (Vm.Alike.refl U.vm) qK, qD⟩, va_recv hKc hPc (ci := 13) (q0 := 0) rfl rfl, fun U hU hW => ⟨rfl, by rw [hU], by rw [hU]; exact hPc, va_K.moved hW.alike hKc, hDc.weaken (fun _ _ _ _ => trivial)⟩⟩ rfl rfl hl.1 rfl (lv_room (Nat.le_of_ble_eq_true rfl)) dX13_methodFits_163 ⟨Nat.le_of_ble_eq_true rfl, Nat.le_of_ble_eq_true rfl⟩) hS (fun q _ h => hFc q h) hFc ?_
                clear hS
                intro r_30 u t H1 locs ht hvm hw hB hz1 hk1 hS
                obtain ⟨z_16, rfl⟩ : ∃ z, z = u := ⟨_, rfl⟩
                obtain ⟨hP1, hK1, hD1⟩ := hB
                rw [ht] at hP1
                have hK1 := va_K.moved hvm.symm hK1
                try dsimp only at hw
                have hPD := va_join (wr := [(qf109, .inl (cf109, 96, .inl f109)), (qf110, .inl (cf110, 96, .inl f110)), (qf111, .inl (cf111, 96, .inl f111)), (qf127, .inl (cf127, 30, .inl g127_97)), (qf107, .inl (cf107, 96, .inl f107)), (qf102, .inl (cf102, 2048, .inl f102)), (qf104, .inl (cf104, 8, .inl f104)), (qf118, .inl (cf118, 2100, .inl g118_97)), (qf119, .inl (cf119, 2100, .inl g119_97)), (qf105, .inl (cf105, 8, .inl f105)), (qf128, .inl (cf128, 31, .inl g128_97)), (qf103, .inl (cf103, 8, .inl f103)), (qf106, .inl (cf106, 8, .inl f106)), (qf108, .inl (cf108, 8, .inl f108)), (qf137, .inl (cf137, 6, .inl g137_97)), (qf126, .inl (cf126, 1501, .inl g126_97))]) (w1 := [(h0, .inr (13, z_16)), (qf100, .inl (cf100, 48000, .inl f100))]) hP hD [16, 17] [0, 1, 2, 3, 4, 5, 6, 7, 8, 9, 10, 11, 12, 13, 14, 15] rfl rfl (by decide) (by decide) hk1 hFc hP1 hD1
                clear hP hD
                obtain ⟨hP, hD⟩ := hPD
                replace hK := (hK.sub (tys' := [(cf109, .int), (cf110, .int), (cf111, .int), (cf127, .int), (cf107, .int), (cf102, .int), (cf104, .int), (cf118, .int), (cf119, .int), (cf105, .int), (cf128, .int), (cf103, .int), (cf106, .int), (cf108, .int), (cf137, .int), (cf126, .boolean)]) [0, 1, 2, 3, 4, 5, 6, 7, 8, 9, 10, 11, 12, 13, 14, 15] rfl).app hK1
                clear hPc hDc hKc hFc hP1 hK1 hD1 hz1 hk1 ht hvm
                generalize H1 = H at hP hS ⊢
                replace hP : va_P (dC, dI) vwCl [(qf109, .inl (cf109, 96, .inl f109)), (qf110, .inl (cf110, 96, .inl f110)), (qf111, .inl (cf111, 96, .inl f111)), (qf127, .inl (cf127, 30, .inl g127_97)), (qf107, .inl (cf107, 96, .inl f107)), (qf102, .inl (cf102, 2048, .inl f102)), (qf104, .inl (cf104, 8, .inl f104)), (qf118, .inl (cf118, 2100, .inl g118_97)), (qf119, .inl (cf119, 2100, .inl g119_97)), (qf105, .inl (cf105, 8, .inl f105)), (qf128, .inl (cf128, 31, .inl g128_97)), (qf103, .inl (cf103, 8, .inl f103)), (qf106, .inl (cf106, 8, .inl f106)), (qf108, .inl (cf108, 8, .inl f108)), (qf137, .inl (cf137, 6, .inl g137_97)), (qf126, .inl (cf126, 1501, .inl g126_97)), (h0, .inr (13, z_16)), (qf100, .inl (cf100, 48000, .inl f100))] H := hP
                replace hD : va_D A [(qf109, .inl (cf109, 96, .inl f109)), (qf110, .inl (cf110, 96, .inl f110)), (qf111, .inl (cf111, 96, .inl f111)), (qf127, .inl (cf127, 30, .inl g127_97)), (qf107, .inl (cf107, 96, .inl f107)), (qf102, .inl (cf102, 2048, .inl f102)), (qf104, .inl (cf104, 8, .inl f104)), (qf118, .inl (cf118, 2100, .inl g118_97)), (qf119, .inl (cf119, 2100, .inl g119_97)), (qf105, .inl (cf105, 8, .inl f105)), (qf128, .inl (cf128, 31, .inl g128_97)), (qf103, .inl (cf103, 8, .inl f103)), (qf106, .inl (cf106, 8, .inl f106)), (qf108, .inl (cf108, 8, .inl f108)), (qf137, .inl (cf137, 6, .inl g137_97)), (qf126, .inl (cf126, 1501, .inl g126_97)), (h0, .inr (13, z_16)), (qf100, .inl (cf100, 48000, .inl f100))] := hD
                replace hK : va_K (dC, dI) vwCl [(cf109, .int), (cf110, .int), (cf111, .int), (cf127, .int), (cf107, .int), (cf102, .int), (cf104, .int), (cf118, .int), (cf119, .int), (cf105, .int), (cf128, .int), (cf103, .int), (cf106, .int), (cf108, .int), (cf137, .int), (cf126, .boolean), (cf100, .int)] s := hK
                obtain ⟨hwa_16, hln_16, hre_16⟩ := hw
                have hfk_16_98 : z_16[98]? = some (.int v98) := (hre_16 98 ).trans (hfk_14_98)
                have hfk_16_100 : z_16[100]? = some (.ref qf100) := (hre_16 100 ).trans (hfk_14_100)
                have hfk_16_102 : z_16[102]? = some (.ref qf102) := (hre_16 102 ).trans (hfk_14_102)
                have hfk_16_103 : z_16[103]? = some (.ref qf103) := (hre_16 103 ).trans (hfk_14_103)
                have hfk_16_104 : z_16[104]? = some (.ref qf104) := (hre_16 104 ).trans (hfk_14_104)
                have hfk_16_105 : z_16[105]? = some (.ref qf105) := (hre_16 105 ).trans (hfk_14_105)
                have hfk_16_106 : z_16[106]? = some (.ref qf106) := (hre_16 106 ).trans (hfk_14_106)
                have hfk_16_107 : z_16[107]? = some (.ref qf107) := (hre_16 107 ).trans (hfk_14_107)
                have hfk_16_108 : z_16[108]? = some (.ref qf108) := (hre_16 108 ).trans (hfk_14_108)
                have hfk_16_109 : z_16[109]? = some (.ref qf109) := (hre_16 109 ).trans (hfk_14_109)
                have hfk_16_110 : z_16[110]? = some (.ref qf110) := (hre_16 110 ).trans (hfk_14_110)
                have hfk_16_111 : z_16[111]? = some (.ref qf111) := (hre_16 111 ).trans (hfk_14_111)
                have hfk_16_117 : z_16[117]? = some (.int x117_97) := (hre_16 117 ).trans (hfk_14_117)
                have hfk_16_118 : z_16[118]? = some (.ref qf118) := (hre_16 118 ).trans (hfk_14_118)
                have hfk_16_119 : z_16[119]? = some (.ref qf119) := (hre_16 119 ).trans (hfk_14_119)
                have hfk_16_120 : z_16[120]? = some (.int x120_97) := (hre_16 120 ).trans (hfk_14_120)
                have hfk_16_121 : z_16[121]? = some (.int x121_97) := (hre_16 121 ).trans (hfk_14_121)
                have hfk_16_122 : z_16[122]? = some (.int x122_97) := (hre_16 122 ).trans (hfk_14_122)
                have hfk_16_123 : z_16[123]? = some (.int x123_97) := (hre_16 123 ).trans (hfk_14_123)
                have hfk_16_124 : z_16[124]? = some (.int x124_97) := (hre_16 124 ).trans (hfk_14_124)
                have hfk_16_125 : z_16[125]? = some (.int x125_97) := (hre_16 125 ).trans (hfk_14_125)
                have hfk_16_126 : z_16[126]? = some (.ref qf126) := (hre_16 126 ).trans (hfk_14_126)
                have hfk_16_127 : z_16[127]? = some (.ref qf127) := (hre_16 127 ).trans (hfk_14_127)
                have hfk_16_128 : z_16[128]? = some (.ref qf128) := (hre_16 128 ).trans (hfk_14_128)
                have hfk_16_129 : z_16[129]? = some (.int x129_97) := (hre_16 129 ).trans (hfk_14_129)
                have hfk_16_130 : z_16[130]? = some (.int x130_97) := (hre_16 130 ).trans (hfk_14_130)
                have hfk_16_131 : z_16[131]? = some (.int x131_97) := (hre_16 131 ).trans (hfk_14_131)
                have hfk_16_132 : z_16[132]? = some (.int x132_97) := (hre_16 132 ).trans (hfk_14_132)
                have hfk_16_133 : z_16[133]? = some (.int x133_97) := (hre_16 133 ).trans (hfk_14_133)
                have hfk_16_134 : z_16[134]? = some (.int x134_97) := (hre_16 134 ).trans (hfk_14_134)
                have hfk_16_135 : z_16[135]? = some (.int x135_97) := (hre_16 135 ).trans (hfk_14_135)
                have hfk_16_136 : z_16[136]? = some (.int x136_97) := (hre_16 136 ).trans (hfk_14_136)
                have hfk_16_137 : z_16[137]? = some (.ref qf137) := (hre_16 137 ).trans (hfk_14_137)
                have hrq_16 : ∀ j : Nat, j ≠ 117 → j ≠ 120 → j ≠ 121 → j ≠ 122 → j ≠ 123 → j ≠ 124 → j ≠ 125 → j ≠ 129 → j ≠ 130 → j ≠ 131 → j ≠ 132 → j ≠ 133 → j ≠ 134 → j ≠ 135 → j ≠ 136 → z_16[j]? = zs[j]? := fun j g117 g120 g121 g122 g123 g124 g125 g129 g130 g131 g132 g133 g134 g135 g136 => (hre_16 j ).trans (hrq_14 j g117 g120 g121 g122 g123 g124 g125 g129 g130 g131 g132 g133 g134 g135 g136)
                obtain rfl := hwa_16
                obtain ⟨u17_0, hu_17, hsp⟩ := ox_bind hsp
                try dsimp only at hsp
                have hPc := hP.sub (ws' := []) [] rfl
                have hDc := hD.sub (ws' := []) [] (by decide) rfl
                have hKc := hK.sub (tys' := []) [] rfl
                have hFc := va_free (wc := []) hD hS hA [] rfl
                refine va_calli (va_runS (As := [.int u16_0]) (rest := [.int l3_97]) ⟨hx, hb, hml, hown, hts⟩ (tm_widthOf l dC dI H.size u16_0 nf u17_0 hu_17) (va_cwS 1 hts gv_h9_66 rfl rfl rfl (by decide +kernel) ⟨Nat.le_of_ble_eq_true rfl, Nat.le_of_ble_eq_true rfl⟩) ⟨fun a U g mk q => by obtain ⟨q0, q1, qP, qK, qD⟩ := q; exact ⟨q0, q1, qP, va_K.moved (u := U) (U := U.calling g mk a) (Vm.Alike.refl U.vm) qK, qD⟩, fun U hU hW => ⟨rfl, by rw [hU], by rw [hU]; exact hPc, va_K.moved hW.alike hKc, hDc.weaken (fun _ _ _ _ => trivial)⟩⟩ rfl rfl hl.1 rfl (lv_room (Nat.le_of_ble_eq_true rfl)) dX13_methodFits_166 ⟨Nat.le_of_ble_eq_true rfl, Nat.le_of_ble_eq_true rfl⟩) hS (fun q _ h => hFc q h) hFc ?_
                clear hS
                intro r_31 u t H1 locs ht hvm hw hB hz1 hk1 hS
                obtain ⟨⟩ := u
                obtain ⟨hP1, hK1, hD1⟩ := hB
                rw [ht] at hP1
                have hK1 := va_K.moved hvm.symm hK1
                try dsimp only at hw
                have hPD := va_join (wr := [(qf109, .inl (cf109, 96, .inl f109)), (qf110, .inl (cf110, 96, .inl f110)), (qf111, .inl (cf111, 96, .inl f111)), (qf127, .inl (cf127, 30, .inl g127_97)), (qf107, .inl (cf107, 96, .inl f107)), (qf102, .inl (cf102, 2048, .inl f102)), (qf104, .inl (cf104, 8, .inl f104)), (qf118, .inl (cf118, 2100, .inl g118_97)), (qf119, .inl (cf119, 2100, .inl g119_97)), (qf105, .inl (cf105, 8, .inl f105)), (qf128, .inl (cf128, 31, .inl g128_97)), (qf103, .inl (cf103, 8, .inl f103)), (qf106, .inl (cf106, 8, .inl f106)), (qf108, .inl (cf108, 8, .inl f108)), (qf137, .inl (cf137, 6, .inl g137_97)), (qf126, .inl (cf126, 1501, .inl g126_97)), (h0, .inr (13, z_16)), (qf100, .inl (cf100, 48000, .inl f100))]) (w1 := []) hP hD [] [0, 1, 2, 3, 4, 5, 6, 7, 8, 9, 10, 11, 12, 13, 14, 15, 16, 17] rfl rfl (by decide) (by decide) hk1 hFc hP1 hD1
                clear hP hD
                obtain ⟨hP, hD⟩ := hPD
                replace hK := (hK.sub (tys' := [(cf109, .int), (cf110, .int), (cf111, .int), (cf127, .int), (cf107, .int), (cf102, .int), (cf104, .int), (cf118, .int), (cf119, .int), (cf105, .int), (cf128, .int), (cf103, .int), (cf106, .int), (cf108, .int), (cf137, .int), (cf126, .boolean), (cf100, .int)]) [0, 1, 2, 3, 4, 5, 6, 7, 8, 9, 10, 11, 12, 13, 14, 15, 16] rfl).app hK1
                clear hPc hDc hKc hFc hP1 hK1 hD1 hz1 hk1 ht hvm
                generalize H1 = H at hP hS ⊢
                replace hP : va_P (dC, dI) vwCl [(qf109, .inl (cf109, 96, .inl f109)), (qf110, .inl (cf110, 96, .inl f110)), (qf111, .inl (cf111, 96, .inl f111)), (qf127, .inl (cf127, 30, .inl g127_97)), (qf107, .inl (cf107, 96, .inl f107)), (qf102, .inl (cf102, 2048, .inl f102)), (qf104, .inl (cf104, 8, .inl f104)), (qf118, .inl (cf118, 2100, .inl g118_97)), (qf119, .inl (cf119, 2100, .inl g119_97)), (qf105, .inl (cf105, 8, .inl f105)), (qf128, .inl (cf128, 31, .inl g128_97)), (qf103, .inl (cf103, 8, .inl f103)), (qf106, .inl (cf106, 8, .inl f106)), (qf108, .inl (cf108, 8, .inl f108)), (qf137, .inl (cf137, 6, .inl g137_97)), (qf126, .inl (cf126, 1501, .inl g126_97)), (h0, .inr (13, z_16)), (qf100, .inl (cf100, 48000, .inl f100))] H := hP
                replace hD : va_D A [(qf109, .inl (cf109, 96, .inl f109)), (qf110, .inl (cf110, 96, .inl f110)), (qf111, .inl (cf111, 96, .inl f111)), (qf127, .inl (cf127, 30, .inl g127_97)), (qf107, .inl (cf107, 96, .inl f107)), (qf102, .inl (cf102, 2048, .inl f102)), (qf104, .inl (cf104, 8, .inl f104)), (qf118, .inl (cf118, 2100, .inl g118_97)), (qf119, .inl (cf119, 2100, .inl g119_97)), (qf105, .inl (cf105, 8, .inl f105)), (qf128, .inl (cf128, 31, .inl g128_97)), (qf103, .inl (cf103, 8, .inl f103)), (qf106, .inl (cf106, 8, .inl f106)), (qf108, .inl (cf108, 8, .inl f108)), (qf137, .inl (cf137, 6, .inl g137_97)), (qf126, .inl (cf126, 1501, .inl g126_97)), (h0, .inr (13, z_16)), (qf100, .inl (cf100, 48000, .inl f100))] := hD
                replace hK : va_K (dC, dI) vwCl [(cf109, .int), (cf110, .int), (cf111, .int), (cf127, .int), (cf107, .int), (cf102, .int), (cf104, .int), (cf118, .int), (cf119, .int), (cf105, .int), (cf128, .int), (cf103, .int), (cf106, .int), (cf108, .int), (cf137, .int), (cf126, .boolean), (cf100, .int)] s := hK
                obtain rfl := hw
                refine lv_iadd hx hb dX13_methodFits_169 ?_
                refine lv_istore_n (lv' := [(3, .int (l3_97 + u17_0)), (0, .ref h0), (1, .int l1_97), (2, .int l2_97)]) hx hb dX13_methodFits_170 rfl hl (by decide) rfl (fun ls hl => ?_)
                refine lv_goto (tgt := 97) hx hb dX13_methodFits_171 (by decide) ?_
                exact ih_97 H locs ls z_16 l1_97 l2_97 (l3_97 + u17_0) g118_97 g119_97 g126_97 g127_97 g128_97 g137_97 x117_97 x120_97 x121_97 x122_97 x123_97 x124_97 x125_97 x129_97 x130_97 x131_97 x132_97 x133_97 x134_97 x135_97 x136_97 (hfk_16_98) (hfk_16_100) (hfk_16_102) (hfk_16_103) (hfk_16_104) (hfk_16_105) (hfk_16_106) (hfk_16_107) (hfk_16_108) (hfk_16_109) (hfk_16_110) (hfk_16_111) (hfk_16_117) (hfk_16_118) (hfk_16_119) (hfk_16_120) (hfk_16_121) (hfk_16_122) (hfk_16_123) (hfk_16_124) (hfk_16_125) (hfk_16_126) (hfk_16_127) (hfk_16_128) (hfk_16_129) (hfk_16_130) (hfk_16_131) (hfk_16_132) (hfk_16_133) (hfk_16_134) (hfk_16_135) (hfk_16_136) (hfk_16_137) hln_16 hrq_16 (lv_sub hl [0, 1, 2, 3] rfl) hS (hD.sub (ws' := [(h0, .inr (13, z_16)), (qf109, .inl (cf109, 96, .inl f109)), (qf100, .inl (cf100, 48000, .inl f100)), (qf110, .inl (cf110, 96, .inl f110)), (qf111, .inl (cf111, 96, .inl f111)), (qf127, .inl (cf127, 30, .inl g127_97)), (qf107, .inl (cf107, 96, .inl f107)), (qf102, .inl (cf102, 2048, .inl f102)), (qf104, .inl (cf104, 8, .inl f104)), (qf118, .inl (cf118, 2100, .inl g118_97)), (qf119, .inl (cf119, 2100, .inl g119_97)), (qf105, .inl (cf105, 8, .inl f105)), (qf128, .inl (cf128, 31, .inl g128_97)), (qf103, .inl (cf103, 8, .inl f103)), (qf106, .inl (cf106, 8, .inl f106)), (qf108, .inl (cf108, 8, .inl f108)), (qf137, .inl (cf137, 6, .inl g137_97)), (qf126, .inl (cf126, 1501, .inl g126_97))]) [16, 0, 17, 1, 2, 3, 4, 5, 6, 7, 8, 9, 10, 11, 12, 13, 14, 15] (by decide) rfl) (hP.sub (ws' := [(h0, .inr (13, z_16)), (qf109, .inl (cf109, 96, .inl f109)), (qf100, .inl (cf100, 48000, .inl f100)), (qf110, .inl (cf110, 96, .inl f110)), (qf111, .inl (cf111, 96, .inl f111)), (qf127, .inl (cf127, 30, .inl g127_97)), (qf107, .inl (cf107, 96, .inl f107)), (qf102, .inl (cf102, 2048, .inl f102)), (qf104, .inl (cf104, 8, .inl f104)), (qf118, .inl (cf118, 2100, .inl g118_97)), (qf119, .inl (cf119, 2100, .inl g119_97)), (qf105, .inl (cf105, 8, .inl f105)), (qf128, .inl (cf128, 31, .inl g128_97)), (qf103, .inl (cf103, 8, .inl f103)), (qf106, .inl (cf106, 8, .inl f106)), (qf108, .inl (cf108, 8, .inl f108)), (qf137, .inl (cf137, 6, .inl g137_97)), (qf126, .inl (cf126, 1501, .inl g126_97))]) [16, 0, 17, 1, 2, 3, 4, 5, 6, 7, 8, 9, 10, 11, 12, 13, 14, 15] rfl) hsp
              · rw [if_neg (by decide)] at hsp
                refine lv_if_ne (tgt := 119) hx hb dX13_methodFits_113 (by decide) (fun c_32 => ?_) (fun c_32 => (show False by revert c_32; decide).elim)
                refine lv_aload_n hx hb dX13_methodFits_119 rfl (lv_at hl 1 rfl) ?_
                refine lv_iload_n hx hb dX13_methodFits_120 rfl (lv_at hl 0 rfl) ?_
                obtain ⟨u18_0, hu_18, hsp⟩ := ox_bind hsp
                try dsimp only at hsp
                have hPc := hP.sub (ws' := [(h0, .inr (13, z_14)), (qf100, .inl (cf100, 48000, .inl f100))]) [16, 17] rfl
                have hDc := hD.sub (ws' := [(h0, .inr (13, z_14)), (qf100, .inl (cf100, 48000, .inl f100))]) [16, 17] (by decide) rfl
                have hKc := hK.sub (tys' := [(cf100, .int)]) [16] rfl
                have hFc := va_free (wc := [(h0, .inr (13, z_14)), (qf100, .inl (cf100, 48000, .inl f100))]) hD hS hA [16, 17] rfl
                refine va_calli (va_runV (As := [.int l3_97]) (rest := []) ⟨hx, hb, hml, hown, hts⟩ (tm_aimOf l dC dI H.size h0 z_14 l3_97 qf100 x132_97 x134_97 cf100 f100 nf u18_0 hln_14 hfk_14_100 hfk_14_132 hfk_14_134 hu_18) (cwV 1 hts gv_h9_129 rfl rfl rfl (by decide +kernel) ⟨Nat.le_of_ble_eq_true rfl, Nat.le_of_ble_eq_true rfl⟩) ⟨fun a U g mk q => by obtain ⟨q0, q1, qP, qK, qD⟩ := q; exact ⟨q0, q1, qP, va_K.moved (u := U) (U := U.calling g mk a) (Vm.Alike.refl U.vm) qK, qD⟩, va_recv hKc hPc (ci := 13) (q0 := 0) rfl rfl, fun U hU hW => ⟨rfl, by rw [hU], by rw [hU]; exact hPc, va_K.moved hW.alike hKc, hDc.weaken (fun _ _ _ _ => trivial)⟩⟩ rfl rfl hl.1 rfl (lv_room (Nat.le_of_ble_eq_true rfl)) dX13_methodFits_121 ⟨Nat.le_of_ble_eq_true rfl, Nat.le_of_ble_eq_true rfl⟩) hS (fun q _ h => hFc q h) hFc ?_
                clear hS
                intro r_33 u t H1 locs ht hvm hw hB hz1 hk1 hS
                obtain ⟨z_18, rfl⟩ : ∃ z, z = u := ⟨_, rfl⟩
                obtain ⟨hP1, hK1, hD1⟩ := hB
                rw [ht] at hP1
                have hK1 := va_K.moved hvm.symm hK1
                try dsimp only at hw
                have hPD := va_join (wr := [(qf109, .inl (cf109, 96, .inl f109)), (qf110, .inl (cf110, 96, .inl f110)), (qf111, .inl (cf111, 96, .inl f111)), (qf127, .inl (cf127, 30, .inl g127_97)), (qf107, .inl (cf107, 96, .inl f107)), (qf102, .inl (cf102, 2048, .inl f102)), (qf104, .inl (cf104, 8, .inl f104)), (qf118, .inl (cf118, 2100, .inl g118_97)), (qf119, .inl (cf119, 2100, .inl g119_97)), (qf105, .inl (cf105, 8, .inl f105)), (qf128, .inl (cf128, 31, .inl g128_97)), (qf103, .inl (cf103, 8, .inl f103)), (qf106, .inl (cf106, 8, .inl f106)), (qf108, .inl (cf108, 8, .inl f108)), (qf137, .inl (cf137, 6, .inl g137_97)), (qf126, .inl (cf126, 1501, .inl g126_97))]) (w1 := [(h0, .inr (13, z_18)), (qf100, .inl (cf100, 48000, .inl f100))]) hP hD [16, 17] [0, 1, 2, 3, 4, 5, 6, 7, 8, 9, 10, 11, 12, 13, 14, 15] rfl rfl (by decide) (by decide) hk1 hFc hP1 hD1
                clear hP hD
                obtain ⟨hP, hD⟩ := hPD
                replace hK := (hK.sub (tys' := [(cf109, .int), (cf110, .int), (cf111, .int), (cf127, .int), (cf107, .int), (cf102, .int), (cf104, .int), (cf118, .int), (cf119, .int), (cf105, .int), (cf128, .int), (cf103, .int), (cf106, .int), (cf108, .int), (cf137, .int), (cf126, .boolean)]) [0, 1, 2, 3, 4, 5, 6, 7, 8, 9, 10, 11, 12, 13, 14, 15] rfl).app hK1
                clear hPc hDc hKc hFc hP1 hK1 hD1 hz1 hk1 ht hvm
                generalize H1 = H at hP hS ⊢
                replace hP : va_P (dC, dI) vwCl [(qf109, .inl (cf109, 96, .inl f109)), (qf110, .inl (cf110, 96, .inl f110)), (qf111, .inl (cf111, 96, .inl f111)), (qf127, .inl (cf127, 30, .inl g127_97)), (qf107, .inl (cf107, 96, .inl f107)), (qf102, .inl (cf102, 2048, .inl f102)), (qf104, .inl (cf104, 8, .inl f104)), (qf118, .inl (cf118, 2100, .inl g118_97)), (qf119, .inl (cf119, 2100, .inl g119_97)), (qf105, .inl (cf105, 8, .inl f105)), (qf128, .inl (cf128, 31, .inl g128_97)), (qf103, .inl (cf103, 8, .inl f103)), (qf106, .inl (cf106, 8, .inl f106)), (qf108, .inl (cf108, 8, .inl f108)), (qf137, .inl (cf137, 6, .inl g137_97)), (qf126, .inl (cf126, 1501, .inl g126_97)), (h0, .inr (13, z_18)), (qf100, .inl (cf100, 48000, .inl f100))] H := hP
                replace hD : va_D A [(qf109, .inl (cf109, 96, .inl f109)), (qf110, .inl (cf110, 96, .inl f110)), (qf111, .inl (cf111, 96, .inl f111)), (qf127, .inl (cf127, 30, .inl g127_97)), (qf107, .inl (cf107, 96, .inl f107)), (qf102, .inl (cf102, 2048, .inl f102)), (qf104, .inl (cf104, 8, .inl f104)), (qf118, .inl (cf118, 2100, .inl g118_97)), (qf119, .inl (cf119, 2100, .inl g119_97)), (qf105, .inl (cf105, 8, .inl f105)), (qf128, .inl (cf128, 31, .inl g128_97)), (qf103, .inl (cf103, 8, .inl f103)), (qf106, .inl (cf106, 8, .inl f106)), (qf108, .inl (cf108, 8, .inl f108)), (qf137, .inl (cf137, 6, .inl g137_97)), (qf126, .inl (cf126, 1501, .inl g126_97)), (h0, .inr (13, z_18)), (qf100, .inl (cf100, 48000, .inl f100))] := hD
                replace hK : va_K (dC, dI) vwCl [(cf109, .int), (cf110, .int), (cf111, .int), (cf127, .int), (cf107, .int), (cf102, .int), (cf104, .int), (cf118, .int), (cf119, .int), (cf105, .int), (cf128, .int), (cf103, .int), (cf106, .int), (cf108, .int), (cf137, .int), (cf126, .boolean), (cf100, .int)] s := hK
                obtain ⟨hwa_18, hln_18, hre_18⟩ := hw
                have hfk_18_98 : z_18[98]? = some (.int v98) := (hre_18 98 ).trans (hfk_14_98)
                have hfk_18_100 : z_18[100]? = some (.ref qf100) := (hre_18 100 ).trans (hfk_14_100)
                have hfk_18_102 : z_18[102]? = some (.ref qf102) := (hre_18 102 ).trans (hfk_14_102)
                have hfk_18_103 : z_18[103]? = some (.ref qf103) := (hre_18 103 ).trans (hfk_14_103)
                have hfk_18_104 : z_18[104]? = some (.ref qf104) := (hre_18 104 ).trans (hfk_14_104)
                have hfk_18_105 : z_18[105]? = some (.ref qf105) := (hre_18 105 ).trans (hfk_14_105)
                have hfk_18_106 : z_18[106]? = some (.ref qf106) := (hre_18 106 ).trans (hfk_14_106)
                have hfk_18_107 : z_18[107]? = some (.ref qf107) := (hre_18 107 ).trans (hfk_14_107)
                have hfk_18_108 : z_18[108]? = some (.ref qf108) := (hre_18 108 ).trans (hfk_14_108)
                have hfk_18_109 : z_18[109]? = some (.ref qf109) := (hre_18 109 ).trans (hfk_14_109)
                have hfk_18_110 : z_18[110]? = some (.ref qf110) := (hre_18 110 ).trans (hfk_14_110)
                have hfk_18_111 : z_18[111]? = some (.ref qf111) := (hre_18 111 ).trans (hfk_14_111)
                have hfk_18_117 : z_18[117]? = some (.int x117_97) := (hre_18 117 ).trans (hfk_14_117)
                have hfk_18_118 : z_18[118]? = some (.ref qf118) := (hre_18 118 ).trans (hfk_14_118)
                have hfk_18_119 : z_18[119]? = some (.ref qf119) := (hre_18 119 ).trans (hfk_14_119)
                have hfk_18_120 : z_18[120]? = some (.int x120_97) := (hre_18 120 ).trans (hfk_14_120)
                have hfk_18_121 : z_18[121]? = some (.int x121_97) := (hre_18 121 ).trans (hfk_14_121)
                have hfk_18_122 : z_18[122]? = some (.int x122_97) := (hre_18 122 ).trans (hfk_14_122)
                have hfk_18_123 : z_18[123]? = some (.int x123_97) := (hre_18 123 ).trans (hfk_14_123)
                have hfk_18_124 : z_18[124]? = some (.int x124_97) := (hre_18 124 ).trans (hfk_14_124)
                have hfk_18_125 : z_18[125]? = some (.int x125_97) := (hre_18 125 ).trans (hfk_14_125)
                have hfk_18_126 : z_18[126]? = some (.ref qf126) := (hre_18 126 ).trans (hfk_14_126)
                have hfk_18_127 : z_18[127]? = some (.ref qf127) := (hre_18 127 ).trans (hfk_14_127)
                have hfk_18_128 : z_18[128]? = some (.ref qf128) := (hre_18 128 ).trans (hfk_14_128)
                have hfk_18_129 : z_18[129]? = some (.int x129_97) := (hre_18 129 ).trans (hfk_14_129)
                have hfk_18_130 : z_18[130]? = some (.int x130_97) := (hre_18 130 ).trans (hfk_14_130)
                have hfk_18_131 : z_18[131]? = some (.int x131_97) := (hre_18 131 ).trans (hfk_14_131)
                have hfk_18_132 : z_18[132]? = some (.int x132_97) := (hre_18 132 ).trans (hfk_14_132)
                have hfk_18_133 : z_18[133]? = some (.int x133_97) := (hre_18 133 ).trans (hfk_14_133)
                have hfk_18_134 : z_18[134]? = some (.int x134_97) := (hre_18 134 ).trans (hfk_14_134)
                have hfk_18_135 : z_18[135]? = some (.int x135_97) := (hre_18 135 ).trans (hfk_14_135)
                have hfk_18_136 : z_18[136]? = some (.int x136_97) := (hre_18 136 ).trans (hfk_14_136)
                have hfk_18_137 : z_18[137]? = some (.ref qf137) := (hre_18 137 ).trans (hfk_14_137)
                have hrq_18 : ∀ j : Nat, j ≠ 117 → j ≠ 120 → j ≠ 121 → j ≠ 122 → j ≠ 123 → j ≠ 124 → j ≠ 125 → j ≠ 129 → j ≠ 130 → j ≠ 131 → j ≠ 132 → j ≠ 133 → j ≠ 134 → j ≠ 135 → j ≠ 136 → z_18[j]? = zs[j]? := fun j g117 g120 g121 g122 g123 g124 g125 g129 g130 g131 g132 g133 g134 g135 g136 => (hre_18 j ).trans (hrq_14 j g117 g120 g121 g122 g123 g124 g125 g129 g130 g131 g132 g133 g134 g135 g136)
                obtain rfl := hwa_18
                refine lv_istore (lv' := [(4, .int u18_0), (3, .int l3_97), (0, .ref h0), (1, .int l1_97), (2, .int l2_97)]) hx hb dX13_methodFits_124 hl (by decide) rfl (fun ls hl => ?_)
                refine lv_iload hx hb dX13_methodFits_126 (lv_at hl 0 rfl) ?_
                refine lv_if_lt (tgt := 150) hx hb dX13_methodFits_128 (by decide) (fun c_34 => ?_) (fun c_34 => ?_)
                · rw [if_pos c_34] at hsp
                  refine lv_aload_n hx hb dX13_methodFits_150 rfl (lv_at hl 2 rfl) ?_
                  refine lv_bipush (v := 7) hx hb dX13_methodFits_151 (by decide) ?_
                  refine lv_iload_n hx hb dX13_methodFits_153 rfl (lv_at hl 3 rfl) ?_
                  refine lv_iload_n hx hb dX13_methodFits_154 rfl (lv_at hl 4 rfl) ?_
                  refine lv_iload_n hx hb dX13_methodFits_155 rfl (lv_at hl 1 rfl) ?_
                  obtain ⟨⟨u19_0, u19_1, u19_2, u19_3, u19_4⟩, hu_19, hsp⟩ := ox_bind hsp
                  try dsimp only at hsp
                  have hPc := hP.sub (ws' := [(h0, .inr (13, z_18))]) [16] rfl
                  have hDc := hD.sub (ws' := [(h0, .inr (13, z_18))]) [16] (by decide) rfl
                  have hKc := hK.sub (tys' := []) [] rfl
                  have hFc := va_free (wc := [(h0, .inr (13, z_18))]) hD hS hA [16] rfl
                  refine va_calli (va_runV (As := [.int 7, .int l1_97, .int l2_97, .int l3_97]) (rest := []) ⟨hx, hb, hml, hown, hts⟩ (tm_bad l dC dI H.size h0 z_18 7 l1_97 l2_97 l3_97 x122_97 x123_97 x124_97 x125_97 nf u19_0 u19_1 u19_2 u19_3 u19_4 hln_18 hfk_18_122 hfk_18_123 hfk_18_124 hfk_18_125 hu_19) (cwV 4 hts gv_h9_63 rfl rfl rfl (by decide +kernel) ⟨Nat.le_of_ble_eq_true rfl, Nat.le_of_ble_eq_true rfl⟩) ⟨fun a U g mk q => by obtain ⟨q0, q1, qP, qK, qD⟩ := q; exact ⟨q0, q1, qP, va_K.moved (u := U) (U := U.calling g mk a) (Vm.Alike.refl U.vm) qK, qD⟩, va_recv hKc hPc (ci := 13) (q0 := 0) rfl rfl, fun U hU hW => ⟨rfl, by rw [hU], by rw [hU]; exact hPc, va_K.moved hW.alike hKc, hDc.weaken (fun _ _ _ _ => trivial)⟩⟩ rfl rfl hl.1 rfl (lv_room (Nat.le_of_ble_eq_true rfl)) dX13_methodFits_156 ⟨Nat.le_of_ble_eq_true rfl, Nat.le_of_ble_eq_true rfl⟩) hS (fun q _ h => hFc q h) hFc ?_
                  clear hS
                  intro r_35 u t H1 locs ht hvm hw hB hz1 hk1 hS
                  obtain ⟨z_19, rfl⟩ : ∃ z, z = u := ⟨_, rfl⟩
                  obtain ⟨hP1, hK1, hD1⟩ := hB
                  rw [ht] at hP1
                  have hK1 := va_K.moved hvm.symm hK1
                  try dsimp only at hw
                  have hPD := va_join (wr := [(qf109, .inl (cf109, 96, .inl f109)), (qf110, .inl (cf110, 96, .inl f110)), (qf111, .inl (cf111, 96, .inl f111)), (qf127, .inl (cf127, 30, .inl g127_97)), (qf107, .inl (cf107, 96, .inl f107)), (qf102, .inl (cf102, 2048, .inl f102)), (qf104, .inl (cf104, 8, .inl f104)), (qf118, .inl (cf118, 2100, .inl g118_97)), (qf119, .inl (cf119, 2100, .inl g119_97)), (qf105, .inl (cf105, 8, .inl f105)), (qf128, .inl (cf128, 31, .inl g128_97)), (qf103, .inl (cf103, 8, .inl f103)), (qf106, .inl (cf106, 8, .inl f106)), (qf108, .inl (cf108, 8, .inl f108)), (qf137, .inl (cf137, 6, .inl g137_97)), (qf126, .inl (cf126, 1501, .inl g126_97)), (qf100, .inl (cf100, 48000, .inl f100))]) (w1 := [(h0, .inr (13, z_19))]) hP hD [16] [0, 1, 2, 3, 4, 5, 6, 7, 8, 9, 10, 11, 12, 13, 14, 15, 17] rfl rfl (by decide) (by decide) hk1 hFc hP1 hD1
                  clear hP hD
                  obtain ⟨hP, hD⟩ := hPD
                  replace hK := (hK.sub (tys' := [(cf109, .int), (cf110, .int), (cf111, .int), (cf127, .int), (cf107, .int), (cf102, .int), (cf104, .int), (cf118, .int), (cf119, .int), (cf105, .int), (cf128, .int), (cf103, .int), (cf106, .int), (cf108, .int), (cf137, .int), (cf126, .boolean), (cf100, .int)]) [0, 1, 2, 3, 4, 5, 6, 7, 8, 9, 10, 11, 12, 13, 14, 15, 16] rfl).app hK1
                  clear hPc hDc hKc hFc hP1 hK1 hD1 hz1 hk1 ht hvm
                  generalize H1 = H at hP hS ⊢
                  replace hP : va_P (dC, dI) vwCl [(qf109, .inl (cf109, 96, .inl f109)), (qf110, .inl (cf110, 96, .inl f110)), (qf111, .inl (cf111, 96, .inl f111)), (qf127, .inl (cf127, 30, .inl g127_97)), (qf107, .inl (cf107, 96, .inl f107)), (qf102, .inl (cf102, 2048, .inl f102)), (qf104, .inl (cf104, 8, .inl f104)), (qf118, .inl (cf118, 2100, .inl g118_97)), (qf119, .inl (cf119, 2100, .inl g119_97)), (qf105, .inl (cf105, 8, .inl f105)), (qf128, .inl (cf128, 31, .inl g128_97)), (qf103, .inl (cf103, 8, .inl f103)), (qf106, .inl (cf106, 8, .inl f106)), (qf108, .inl (cf108, 8, .inl f108)), (qf137, .inl (cf137, 6, .inl g137_97)), (qf126, .inl (cf126, 1501, .inl g126_97)), (qf100, .inl (cf100, 48000, .inl f100)), (h0, .inr (13, z_19))] H := hP
                  replace hD : va_D A [(qf109, .inl (cf109, 96, .inl f109)), (qf110, .inl (cf110, 96, .inl f110)), (qf111, .inl (cf111, 96, .inl f111)), (qf127, .inl (cf127, 30, .inl g127_97)), (qf107, .inl (cf107, 96, .inl f107)), (qf102, .inl (cf102, 2048, .inl f102)), (qf104, .inl (cf104, 8, .inl f104)), (qf118, .inl (cf118, 2100, .inl g118_97)), (qf119, .inl (cf119, 2100, .inl g119_97)), (qf105, .inl (cf105, 8, .inl f105)), (qf128, .inl (cf128, 31, .inl g128_97)), (qf103, .inl (cf103, 8, .inl f103)), (qf106, .inl (cf106, 8, .inl f106)), (qf108, .inl (cf108, 8, .inl f108)), (qf137, .inl (cf137, 6, .inl g137_97)), (qf126, .inl (cf126, 1501, .inl g126_97)), (qf100, .inl (cf100, 48000, .inl f100)), (h0, .inr (13, z_19))] := hD
                  replace hK : va_K (dC, dI) vwCl [(cf109, .int), (cf110, .int), (cf111, .int), (cf127, .int), (cf107, .int), (cf102, .int), (cf104, .int), (cf118, .int), (cf119, .int), (cf105, .int), (cf128, .int), (cf103, .int), (cf106, .int), (cf108, .int), (cf137, .int), (cf126, .boolean), (cf100, .int)] s := hK
                  obtain ⟨hwa_19, hln_19, hre_19, hch_19_122, hch_19_123, hch_19_124, hch_19_125⟩ := hw
                  have hfk_19_98 : z_19[98]? = some (.int v98) := (hre_19 98 (by decide) (by decide) (by decide) (by decide)).trans (hfk_18_98)
                  have hfk_19_100 : z_19[100]? = some (.ref qf100) := (hre_19 100 (by decide) (by decide) (by decide) (by decide)).trans (hfk_18_100)
                  have hfk_19_102 : z_19[102]? = some (.ref qf102) := (hre_19 102 (by decide) (by decide) (by decide) (by decide)).trans (hfk_18_102)
                  have hfk_19_103 : z_19[103]? = some (.ref qf103) := (hre_19 103 (by decide) (by decide) (by decide) (by decide)).trans (hfk_18_103)
                  have hfk_19_104 : z_19[104]? = some (.ref qf104) := (hre_19 104 (by decide) (by decide) (by decide) (by decide)).trans (hfk_18_104)
                  have hfk_19_105 : z_19[105]? = some (.ref qf105) := (hre_19 105 (by decide) (by decide) (by decide) (by decide)).trans (hfk_18_105)
                  have hfk_19_106 : z_19[106]? = some (.ref qf106) := (hre_19 106 (by decide) (by decide) (by decide) (by decide)).trans (hfk_18_106)
                  have hfk_19_107 : z_19[107]? = some (.ref qf107) := (hre_19 107 (by decide) (by decide) (by decide) (by decide)).trans (hfk_18_107)
                  have hfk_19_108 : z_19[108]? = some (.ref qf108) := (hre_19 108 (by decide) (by decide) (by decide) (by decide)).trans (hfk_18_108)
                  have hfk_19_109 : z_19[109]? = some (.ref qf109) := (hre_19 109 (by decide) (by decide) (by decide) (by decide)).trans (hfk_18_109)
                  have hfk_19_110 : z_19[110]? = some (.ref qf110) := (hre_19 110 (by decide) (by decide) (by decide) (by decide)).trans (hfk_18_110)
                  have hfk_19_111 : z_19[111]? = some (.ref qf111) := (hre_19 111 (by decide) (by decide) (by decide) (by decide)).trans (hfk_18_111)
                  have hfk_19_117 : z_19[117]? = some (.int x117_97) := (hre_19 117 (by decide) (by decide) (by decide) (by decide)).trans (hfk_18_117)
                  have hfk_19_118 : z_19[118]? = some (.ref qf118) := (hre_19 118 (by decide) (by decide) (by decide) (by decide)).trans (hfk_18_118)
                  have hfk_19_119 : z_19[119]? = some (.ref qf119) := (hre_19 119 (by decide) (by decide) (by decide) (by decide)).trans (hfk_18_119)
                  have hfk_19_120 : z_19[120]? = some (.int x120_97) := (hre_19 120 (by decide) (by decide) (by decide) (by decide)).trans (hfk_18_120)
                  have hfk_19_121 : z_19[121]? = some (.int x121_97) := (hre_19 121 (by decide) (by decide) (by decide) (by decide)).trans (hfk_18_121)
                  have hfk_19_126 : z_19[126]? = some (.ref qf126) := (hre_19 126 (by decide) (by decide) (by decide) (by decide)).trans (hfk_18_126)
                  have hfk_19_127 : z_19[127]? = some (.ref qf127) := (hre_19 127 (by decide) (by decide) (by decide) (by decide)).trans (hfk_18_127)
                  have hfk_19_128 : z_19[128]? = some (.ref qf128) := (hre_19 128 (by decide) (by decide) (by decide) (by decide)).trans (hfk_18_128)
                  have hfk_19_129 : z_19[129]? = some (.int x129_97) := (hre_19 129 (by decide) (by decide) (by decide) (by decide)).trans (hfk_18_129)
                  have hfk_19_130 : z_19[130]? = some (.int x130_97) := (hre_19 130 (by decide) (by decide) (by decide) (by decide)).trans (hfk_18_130)
                  have hfk_19_131 : z_19[131]? = some (.int x131_97) := (hre_19 131 (by decide) (by decide) (by decide) (by decide)).trans (hfk_18_131)
                  have hfk_19_132 : z_19[132]? = some (.int x132_97) := (hre_19 132 (by decide) (by decide) (by decide) (by decide)).trans (hfk_18_132)
                  have hfk_19_133 : z_19[133]? = some (.int x133_97) := (hre_19 133 (by decide) (by decide) (by decide) (by decide)).trans (hfk_18_133)
                  have hfk_19_134 : z_19[134]? = some (.int x134_97) := (hre_19 134 (by decide) (by decide) (by decide) (by decide)).trans (hfk_18_134)
                  have hfk_19_135 : z_19[135]? = some (.int x135_97) := (hre_19 135 (by decide) (by decide) (by decide) (by decide)).trans (hfk_18_135)
                  have hfk_19_136 : z_19[136]? = some (.int x136_97) := (hre_19 136 (by decide) (by decide) (by decide) (by decide)).trans (hfk_18_136)
                  have hfk_19_137 : z_19[137]? = some (.ref qf137) := (hre_19 137 (by decide) (by decide) (by decide) (by decide)).trans (hfk_18_137)
                  have hrq_19 : ∀ j : Nat, j ≠ 117 → j ≠ 120 → j ≠ 121 → j ≠ 122 → j ≠ 123 → j ≠ 124 → j ≠ 125 → j ≠ 129 → j ≠ 130 → j ≠ 131 → j ≠ 132 → j ≠ 133 → j ≠ 134 → j ≠ 135 → j ≠ 136 → z_19[j]? = zs[j]? := fun j g117 g120 g121 g122 g123 g124 g125 g129 g130 g131 g132 g133 g134 g135 g136 => (hre_19 j g122 g123 g124 g125).trans (hrq_18 j g117 g120 g121 g122 g123 g124 g125 g129 g130 g131 g132 g133 g134 g135 g136)
                  obtain ⟨rfl, hz_19⟩ := hwa_19
                  rcases hz_19 with rfl | rfl
                  · rw [if_pos rfl] at hsp
                    exact hret_159 (H, locs, ls, z_19, 0, g118_97, g119_97, g126_97, g127_97, g128_97, g137_97, x117_97, x120_97, x121_97, u19_1, u19_2, u19_3, u19_4, x129_97, x130_97, x131_97, x132_97, x133_97, x134_97, x135_97, x136_97) ⟨hS, hD.sub (ws' := [(h0, .inr (13, z_19)), (qf109, .inl (cf109, 96, .inl f109)), (qf100, .inl (cf100, 48000, .inl f100)), (qf110, .inl (cf110, 96, .inl f110)), (qf111, .inl (cf111, 96, .inl f111)), (qf127, .inl (cf127, 30, .inl g127_97)), (qf107, .inl (cf107, 96, .inl f107)), (qf102, .inl (cf102, 2048, .inl f102)), (qf104, .inl (cf104, 8, .inl f104)), (qf118, .inl (cf118, 2100, .inl g118_97)), (qf119, .inl (cf119, 2100, .inl g119_97)), (qf105, .inl (cf105, 8, .inl f105)), (qf128, .inl (cf128, 31, .inl g128_97)), (qf103, .inl (cf103, 8, .inl f103)), (qf106, .inl (cf106, 8, .inl f106)), (qf108, .inl (cf108, 8, .inl f108)), (qf137, .inl (cf137, 6, .inl g137_97)), (qf126, .inl (cf126, 1501, .inl g126_97))]) [17, 0, 16, 1, 2, 3, 4, 5, 6, 7, 8, 9, 10, 11, 12, 13, 14, 15] (by decide) rfl, hP.sub (ws' := [(h0, .inr (13, z_19)), (qf109, .inl (cf109, 96, .inl f109)), (qf100, .inl (cf100, 48000, .inl f100)), (qf110, .inl (cf110, 96, .inl f110)), (qf111, .inl (cf111, 96, .inl f111)), (qf127, .inl (cf127, 30, .inl g127_97)), (qf107, .inl (cf107, 96, .inl f107)), (qf102, .inl (cf102, 2048, .inl f102)), (qf104, .inl (cf104, 8, .inl f104)), (qf118, .inl (cf118, 2100, .inl g118_97)), (qf119, .inl (cf119, 2100, .inl g119_97)), (qf105, .inl (cf105, 8, .inl f105)), (qf128, .inl (cf128, 31, .inl g128_97)), (qf103, .inl (cf103, 8, .inl f103)), (qf106, .inl (cf106, 8, .inl f106)), (qf108, .inl (cf108, 8, .inl f108)), (qf137, .inl (cf137, 6, .inl g137_97)), (qf126, .inl (cf126, 1501, .inl g126_97))]) [17, 0, 16, 1, 2, 3, 4, 5, 6, 7, 8, 9, 10, 11, 12, 13, 14, 15] rfl, hfk_19_98, hfk_19_100, hfk_19_102, hfk_19_103, hfk_19_104, hfk_19_105, hfk_19_106, hfk_19_107, hfk_19_108, hfk_19_109, hfk_19_110, hfk_19_111, hfk_19_117, hfk_19_118, hfk_19_119, hfk_19_120, hfk_19_121, hch_19_122, hch_19_123, hch_19_124, hch_19_125, hfk_19_126, hfk_19_127, hfk_19_128, hfk_19_129, hfk_19_130, hfk_19_131, hfk_19_132, hfk_19_133, hfk_19_134, hfk_19_135, hfk_19_136, hfk_19_137, hln_19, hrq_19, Or.inl rfl, hsp⟩
                  · rw [if_neg (by decide)] at hsp
                    exact hret_159 (H, locs, ls, z_19, 1, g118_97, g119_97, g126_97, g127_97, g128_97, g137_97, x117_97, x120_97, x121_97, u19_1, u19_2, u19_3, u19_4, x129_97, x130_97, x131_97, x132_97, x133_97, x134_97, x135_97, x136_97) ⟨hS, hD.sub (ws' := [(h0, .inr (13, z_19)), (qf109, .inl (cf109, 96, .inl f109)), (qf100, .inl (cf100, 48000, .inl f100)), (qf110, .inl (cf110, 96, .inl f110)), (qf111, .inl (cf111, 96, .inl f111)), (qf127, .inl (cf127, 30, .inl g127_97)), (qf107, .inl (cf107, 96, .inl f107)), (qf102, .inl (cf102, 2048, .inl f102)), (qf104, .inl (cf104, 8, .inl f104)), (qf118, .inl (cf118, 2100, .inl g118_97)), (qf119, .inl (cf119, 2100, .inl g119_97)), (qf105, .inl (cf105, 8, .inl f105)), (qf128, .inl (cf128, 31, .inl g128_97)), (qf103, .inl (cf103, 8, .inl f103)), (qf106, .inl (cf106, 8, .inl f106)), (qf108, .inl (cf108, 8, .inl f108)), (qf137, .inl (cf137, 6, .inl g137_97)), (qf126, .inl (cf126, 1501, .inl g126_97))]) [17, 0, 16, 1, 2, 3, 4, 5, 6, 7, 8, 9, 10, 11, 12, 13, 14, 15] (by decide) rfl, hP.sub (ws' := [(h0, .inr (13, z_19)), (qf109, .inl (cf109, 96, .inl f109)), (qf100, .inl (cf100, 48000, .inl f100)), (qf110, .inl (cf110, 96, .inl f110)), (qf111, .inl (cf111, 96, .inl f111)), (qf127, .inl (cf127, 30, .inl g127_97)), (qf107, .inl (cf107, 96, .inl f107)), (qf102, .inl (cf102, 2048, .inl f102)), (qf104, .inl (cf104, 8, .inl f104)), (qf118, .inl (cf118, 2100, .inl g118_97)), (qf119, .inl (cf119, 2100, .inl g119_97)), (qf105, .inl (cf105, 8, .inl f105)), (qf128, .inl (cf128, 31, .inl g128_97)), (qf103, .inl (cf103, 8, .inl f103)), (qf106, .inl (cf106, 8, .inl f106)), (qf108, .inl (cf108, 8, .inl f108)), (qf137, .inl (cf137, 6, .inl g137_97)), (qf126, .inl (cf126, 1501, .inl g126_97))]) [17, 0, 16, 1, 2, 3, 4, 5, 6, 7, 8, 9, 10, 11, 12, 13, 14, 15] rfl, hfk_19_98, hfk_19_100, hfk_19_102, hfk_19_103, hfk_19_104, hfk_19_105, hfk_19_106, hfk_19_107, hfk_19_108, hfk_19_109, hfk_19_110, hfk_19_111, hfk_19_117, hfk_19_118, hfk_19_119, hfk_19_120, hfk_19_121, hch_19_122, hch_19_123, hch_19_124, hch_19_125, hfk_19_126, hfk_19_127, hfk_19_128, hfk_19_129, hfk_19_130, hfk_19_131, hfk_19_132, hfk_19_133, hfk_19_134, hfk_19_135, hfk_19_136, hfk_19_137, hln_19, hrq_19, Or.inr rfl, hsp⟩
                · rw [if_neg c_34] at hsp
                  refine lv_iload hx hb dX13_methodFits_131 (lv_at hl 0 rfl) ?_
                  refine lv_aload_n hx hb dX13_methodFits_133 rfl (lv_at hl 2 rfl) ?_
                  refine va_get (D := (dC, dI)) (ci := 13) (v := .int x135_97) (C := RX13) (T := TX13) (N := 155) hx hb hts uV_h9_X13 hown hK hP 16 rfl rfl 135 (by decide) (hts (.fieldLink RX13 970 "ClassMillModel" "codeSize" "I") mw_h9_546) (fun _ h9 => h9) hfk_18_135 dX13_methodFits_134 ?_
                  refine lv_icmp_ge (tgt := 150) hx hb dX13_methodFits_137 (by decide) (fun c_36 => ?_) (fun c_36 => ?_)
                  · rw [if_pos c_36] at hsp
                    refine lv_aload_n hx hb dX13_methodFits_150 rfl (lv_at hl 2 rfl) ?_
                    refine lv_bipush (v := 7) hx hb dX13_methodFits_151 (by decide) ?_
                    refine lv_iload_n hx hb dX13_methodFits_153 rfl (lv_at hl 3 rfl) ?_
                    refine lv_iload_n hx hb dX13_methodFits_154 rfl (lv_at hl 4 rfl) ?_
                    refine lv_iload_n hx hb dX13_methodFits_155 rfl (lv_at hl 1 rfl) ?_
                    obtain ⟨⟨u20_0, u20_1, u20_2, u20_3, u20_4⟩, hu_20, hsp⟩ := ox_bind hsp
                    try dsimp only at hsp
                    have hPc := hP.sub (ws' := [(h0, .inr (13, z_18))]) [16] rfl
                    have hDc := hD.sub (ws' := [(h0, .inr (13, z_18))]) [16] (by decide) rfl
                    have hKc := hK.sub (tys' := []) [] rfl
                    have hFc := va_free (wc := [(h0, .inr (13, z_18))]) hD hS hA [16] rfl
                    refine va_calli (va_runV (As := [.int 7, .int l1_97, .int l2_97, .int l3_97]) (rest := []) ⟨hx, hb, hml, hown, hts⟩ (tm_bad l dC dI H.size h0 z_18 7 l1_97 l2_97 l3_97 x122_97 x123_97 x124_97 x125_97 nf u20_0 u20_1 u20_2 u20_3 u20_4 hln_18 hfk_18_122 hfk_18_123 hfk_18_124 hfk_18_125 hu_20) (cwV 4 hts gv_h9_63 rfl rfl rfl (by decide +kernel) ⟨Nat.le_of_ble_eq_true rfl, Nat.le_of_ble_eq_true rfl⟩) ⟨fun a U g mk q => by obtain ⟨q0, q1, qP, qK, qD⟩ := q; exact ⟨q0, q1, qP, va_K.moved (u := U) (U := U.calling g mk a) (Vm.Alike.refl U.vm) qK, qD⟩, va_recv hKc hPc (ci := 13) (q0 := 0) rfl rfl, fun U hU hW => ⟨rfl, by rw [hU], by rw [hU]; exact hPc, va_K.moved hW.alike hKc, hDc.weaken (fun _ _ _ _ => trivial)⟩⟩ rfl rfl hl.1 rfl (lv_room (Nat.le_of_ble_eq_true rfl)) dX13_methodFits_156 ⟨Nat.le_of_ble_eq_true rfl, Nat.le_of_ble_eq_true rfl⟩) hS (fun q _ h => hFc q h) hFc ?_
                    clear hS
                    intro r_37 u t H1 locs ht hvm hw hB hz1 hk1 hS
                    obtain ⟨z_20, rfl⟩ : ∃ z, z = u := ⟨_, rfl⟩
                    obtain ⟨hP1, hK1, hD1⟩ := hB
                    rw [ht] at hP1
                    have hK1 := va_K.moved hvm.symm hK1
                    try dsimp only at hw
                    have hPD := va_join (wr := [(qf109, .inl (cf109, 96, .inl f109)), (qf110, .inl (cf110, 96, .inl f110)), (qf111, .inl (cf111, 96, .inl f111)), (qf127, .inl (cf127, 30, .inl g127_97)), (qf107, .inl (cf107, 96, .inl f107)), (qf102, .inl (cf102, 2048, .inl f102)), (qf104, .inl (cf104, 8, .inl f104)), (qf118, .inl (cf118, 2100, .inl g118_97)), (qf119, .inl (cf119, 2100, .inl g119_97)), (qf105, .inl (cf105, 8, .inl f105)), (qf128, .inl (cf128, 31, .inl g128_97)), (qf103, .inl (cf103, 8, .inl f103)), (qf106, .inl (cf106, 8, .inl f106)), (qf108, .inl (cf108, 8, .inl f108)), (qf137, .inl (cf137, 6, .inl g137_97)), (qf126, .inl (cf126, 1501, .inl g126_97)), (qf100, .inl (cf100, 48000, .inl f100))]) (w1 := [(h0, .inr (13, z_20))]) hP hD [16] [0, 1, 2, 3, 4, 5, 6, 7, 8, 9, 10, 11, 12, 13, 14, 15, 17] rfl rfl (by decide) (by decide) hk1 hFc hP1 hD1
                    clear hP hD
                    obtain ⟨hP, hD⟩ := hPD
                    replace hK := (hK.sub (tys' := [(cf109, .int), (cf110, .int), (cf111, .int), (cf127, .int), (cf107, .int), (cf102, .int), (cf104, .int), (cf118, .int), (cf119, .int), (cf105, .int), (cf128, .int), (cf103, .int), (cf106, .int), (cf108, .int), (cf137, .int), (cf126, .boolean), (cf100, .int)]) [0, 1, 2, 3, 4, 5, 6, 7, 8, 9, 10, 11, 12, 13, 14, 15, 16] rfl).app hK1
                    clear hPc hDc hKc hFc hP1 hK1 hD1 hz1 hk1 ht hvm
                    generalize H1 = H at hP hS ⊢
                    replace hP : va_P (dC, dI) vwCl [(qf109, .inl (cf109, 96, .inl f109)), (qf110, .inl (cf110, 96, .inl f110)), (qf111, .inl (cf111, 96, .inl f111)), (qf127, .inl (cf127, 30, .inl g127_97)), (qf107, .inl (cf107, 96, .inl f107)), (qf102, .inl (cf102, 2048, .inl f102)), (qf104, .inl (cf104, 8, .inl f104)), (qf118, .inl (cf118, 2100, .inl g118_97)), (qf119, .inl (cf119, 2100, .inl g119_97)), (qf105, .inl (cf105, 8, .inl f105)), (qf128, .inl (cf128, 31, .inl g128_97)), (qf103, .inl (cf103, 8, .inl f103)), (qf106, .inl (cf106, 8, .inl f106)), (qf108, .inl (cf108, 8, .inl f108)), (qf137, .inl (cf137, 6, .inl g137_97)), (qf126, .inl (cf126, 1501, .inl g126_97)), (qf100, .inl (cf100, 48000, .inl f100)), (h0, .inr (13, z_20))] H := hP
                    replace hD : va_D A [(qf109, .inl (cf109, 96, .inl f109)), (qf110, .inl (cf110, 96, .inl f110)), (qf111, .inl (cf111, 96, .inl f111)), (qf127, .inl (cf127, 30, .inl g127_97)), (qf107, .inl (cf107, 96, .inl f107)), (qf102, .inl (cf102, 2048, .inl f102)), (qf104, .inl (cf104, 8, .inl f104)), (qf118, .inl (cf118, 2100, .inl g118_97)), (qf119, .inl (cf119, 2100, .inl g119_97)), (qf105, .inl (cf105, 8, .inl f105)), (qf128, .inl (cf128, 31, .inl g128_97)), (qf103, .inl (cf103, 8, .inl f103)), (qf106, .inl (cf106, 8, .inl f106)), (qf108, .inl (cf108, 8, .inl f108)), (qf137, .inl (cf137, 6, .inl g137_97)), (qf126, .inl (cf126, 1501, .inl g126_97)), (qf100, .inl (cf100, 48000, .inl f100)), (h0, .inr (13, z_20))] := hD
                    replace hK : va_K (dC, dI) vwCl [(cf109, .int), (cf110, .int), (cf111, .int), (cf127, .int), (cf107, .int), (cf102, .int), (cf104, .int), (cf118, .int), (cf119, .int), (cf105, .int), (cf128, .int), (cf103, .int), (cf106, .int), (cf108, .int), (cf137, .int), (cf126, .boolean), (cf100, .int)] s := hK
                    obtain ⟨hwa_20, hln_20, hre_20, hch_20_122, hch_20_123, hch_20_124, hch_20_125⟩ := hw
                    have hfk_20_98 : z_20[98]? = some (.int v98) := (hre_20 98 (by decide) (by decide) (by decide) (by decide)).trans (hfk_18_98)
                    have hfk_20_100 : z_20[100]? = some (.ref qf100) := (hre_20 100 (by decide) (by decide) (by decide) (by decide)).trans (hfk_18_100)
                    have hfk_20_102 : z_20[102]? = some (.ref qf102) := (hre_20 102 (by decide) (by decide) (by decide) (by decide)).trans (hfk_18_102)
                    have hfk_20_103 : z_20[103]? = some (.ref qf103) := (hre_20 103 (by decide) (by decide) (by decide) (by decide)).trans (hfk_18_103)
                    have hfk_20_104 : z_20[104]? = some (.ref qf104) := (hre_20 104 (by decide) (by decide) (by decide) (by decide)).trans (hfk_18_104)
                    have hfk_20_105 : z_20[105]? = some (.ref qf105) := (hre_20 105 (by decide) (by decide) (by decide) (by decide)).trans (hfk_18_105)
                    have hfk_20_106 : z_20[106]? = some (.ref qf106) := (hre_20 106 (by decide) (by decide) (by decide) (by decide)).trans (hfk_18_106)
                    have hfk_20_107 : z_20[107]? = some (.ref qf107) := (hre_20 107 (by decide) (by decide) (by decide) (by decide)).trans (hfk_18_107)
                    have hfk_20_108 : z_20[108]? = some (.ref qf108) := (hre_20 108 (by decide) (by decide) (by decide) (by decide)).trans (hfk_18_108)
                    have hfk_20_109 : z_20[109]? = some (.ref qf109) := (hre_20 109 (by decide) (by decide) (by decide) (by decide)).trans (hfk_18_109)
                    have hfk_20_110 : z_20[110]? = some (.ref qf110) := (hre_20 110 (by decide) (by decide) (by decide) (by decide)).trans (hfk_18_110)
                    have hfk_20_111 : z_20[111]? = some (.ref qf111) := (hre_20 111 (by decide) (by decide) (by decide) (by decide)).trans (hfk_18_111)
                    have hfk_20_117 : z_20[117]? = some (.int x117_97) := (hre_20 117 (by decide) (by decide) (by decide) (by decide)).trans (hfk_18_117)
                    have hfk_20_118 : z_20[118]? = some (.ref qf118) := (hre_20 118 (by decide) (by decide) (by decide) (by decide)).trans (hfk_18_118)
                    have hfk_20_119 : z_20[119]? = some (.ref qf119) := (hre_20 119 (by decide) (by decide) (by decide) (by decide)).trans (hfk_18_119)
                    have hfk_20_120 : z_20[120]? = some (.int x120_97) := (hre_20 120 (by decide) (by decide) (by decide) (by decide)).trans (hfk_18_120)
                    have hfk_20_121 : z_20[121]? = some (.int x121_97) := (hre_20 121 (by decide) (by decide) (by decide) (by decide)).trans (hfk_18_121)
                    have hfk_20_126 : z_20[126]? = some (.ref qf126) := (hre_20 126 (by decide) (by decide) (by decide) (by decide)).trans (hfk_18_126)
                    have hfk_20_127 : z_20[127]? = some (.ref qf127) := (hre_20 127 (by decide) (by decide) (by decide) (by decide)).trans (hfk_18_127)
                    have hfk_20_128 : z_20[128]? = some (.ref qf128) := (hre_20 128 (by decide) (by decide) (by decide) (by decide)).trans (hfk_18_128)
                    have hfk_20_129 : z_20[129]? = some (.int x129_97) := (hre_20 129 (by decide) (by decide) (by decide) (by decide)).trans (hfk_18_129)
                    have hfk_20_130 : z_20[130]? = some (.int x130_97) := (hre_20 130 (by decide) (by decide) (by decide) (by decide)).trans (hfk_18_130)
                    have hfk_20_131 : z_20[131]? = some (.int x131_97) := (hre_20 131 (by decide) (by decide) (by decide) (by decide)).trans (hfk_18_131)
                    have hfk_20_132 : z_20[132]? = some (.int x132_97) := (hre_20 132 (by decide) (by decide) (by decide) (by decide)).trans (hfk_18_132)
                    have hfk_20_133 : z_20[133]? = some (.int x133_97) := (hre_20 133 (by decide) (by decide) (by decide) (by decide)).trans (hfk_18_133)
                    have hfk_20_134 : z_20[134]? = some (.int x134_97) := (hre_20 134 (by decide) (by decide) (by decide) (by decide)).trans (hfk_18_134)
                    have hfk_20_135 : z_20[135]? = some (.int x135_97) := (hre_20 135 (by decide) (by decide) (by decide) (by decide)).trans (hfk_18_135)
                    have hfk_20_136 : z_20[136]? = some (.int x136_97) := (hre_20 136 (by decide) (by decide) (by decide) (by decide)).trans (hfk_18_136)
                    have hfk_20_137 : z_20[137]? = some (.ref qf137) := (hre_20 137 (by decide) (by decide) (by decide) (by decide)).trans (hfk_18_137)
                    have hrq_20 : ∀ j : Nat, j ≠ 117 → j ≠ 120 → j ≠ 121 → j ≠ 122 → j ≠ 123 → j ≠ 124 → j ≠ 125 → j ≠ 129 → j ≠ 130 → j ≠ 131 → j ≠ 132 → j ≠ 133 → j ≠ 134 → j ≠ 135 → j ≠ 136 → z_20[j]? = zs[j]? := fun j g117 g120 g121 g122 g123 g124 g125 g129 g130 g131 g132 g133 g134 g135 g136 => (hre_20 j g122 g123 g124 g125).trans (hrq_18 j g117 g120 g121 g122 g123 g124 g125 g129 g130 g131 g132 g133 g134 g135 g136)
                    obtain ⟨rfl, hz_20⟩ := hwa_20
                    rcases hz_20 with rfl | rfl
                    · rw [if_pos rfl] at hsp
                      exact hret_159 (H, locs, ls, z_20, 0, g118_97, g119_97, g126_97, g127_97, g128_97, g137_97, x117_97, x120_97, x121_97, u20_1, u20_2, u20_3, u20_4, x129_97, x130_97, x131_97, x132_97, x133_97, x134_97, x135_97, x136_97) ⟨hS, hD.sub (ws' := [(h0, .inr (13, z_20)), (qf109, .inl (cf109, 96, .inl f109)), (qf100, .inl (cf100, 48000, .inl f100)), (qf110, .inl (cf110, 96, .inl f110)), (qf111, .inl (cf111, 96, .inl f111)), (qf127, .inl (cf127, 30, .inl g127_97)), (qf107, .inl (cf107, 96, .inl f107)), (qf102, .inl (cf102, 2048, .inl f102)), (qf104, .inl (cf104, 8, .inl f104)), (qf118, .inl (cf118, 2100, .inl g118_97)), (qf119, .inl (cf119, 2100, .inl g119_97)), (qf105, .inl (cf105, 8, .inl f105)), (qf128, .inl (cf128, 31, .inl g128_97)), (qf103, .inl (cf103, 8, .inl f103)), (qf106, .inl (cf106, 8, .inl f106)), (qf108, .inl (cf108, 8, .inl f108)), (qf137, .inl (cf137, 6, .inl g137_97)), (qf126, .inl (cf126, 1501, .inl g126_97))]) [17, 0, 16, 1, 2, 3, 4, 5, 6, 7, 8, 9, 10, 11, 12, 13, 14, 15] (by decide) rfl, hP.sub (ws' := [(h0, .inr (13, z_20)), (qf109, .inl (cf109, 96, .inl f109)), (qf100, .inl (cf100, 48000, .inl f100)), (qf110, .inl (cf110, 96, .inl f110)), (qf111, .inl (cf111, 96, .inl f111)), (qf127, .inl (cf127, 30, .inl g127_97)), (qf107, .inl (cf107, 96, .inl f107)), (qf102, .inl (cf102, 2048, .inl f102)), (qf104, .inl (cf104, 8, .inl f104)), (qf118, .inl (cf118, 2100, .inl g118_97)), (qf119, .inl (cf119, 2100, .inl g119_97)), (qf105, .inl (cf105, 8, .inl f105)), (qf128, .inl (cf128, 31, .inl g128_97)), (qf103, .inl (cf103, 8, .inl f103)), (qf106, .inl (cf106, 8, .inl f106)), (qf108, .inl (cf108, 8, .inl f108)), (qf137, .inl (cf137, 6, .inl g137_97)), (qf126, .inl (cf126, 1501, .inl g126_97))]) [17, 0, 16, 1, 2, 3, 4, 5, 6, 7, 8, 9, 10, 11, 12, 13, 14, 15] rfl, hfk_20_98, hfk_20_100, hfk_20_102, hfk_20_103, hfk_20_104, hfk_20_105, hfk_20_106, hfk_20_107, hfk_20_108, hfk_20_109, hfk_20_110, hfk_20_111, hfk_20_117, hfk_20_118, hfk_20_119, hfk_20_120, hfk_20_121, hch_20_122, hch_20_123, hch_20_124, hch_20_125, hfk_20_126, hfk_20_127, hfk_20_128, hfk_20_129, hfk_20_130, hfk_20_131, hfk_20_132, hfk_20_133, hfk_20_134, hfk_20_135, hfk_20_136, hfk_20_137, hln_20, hrq_20, Or.inl rfl, hsp⟩
                    · rw [if_neg (by decide)] at hsp
                      exact hret_159 (H, locs, ls, z_20, 1, g118_97, g119_97, g126_97, g127_97, g128_97, g137_97, x117_97, x120_97, x121_97, u20_1, u20_2, u20_3, u20_4, x129_97, x130_97, x131_97, x132_97, x133_97, x134_97, x135_97, x136_97) ⟨hS, hD.sub (ws' := [(h0, .inr (13, z_20)), (qf109, .inl (cf109, 96, .inl f109)), (qf100, .inl (cf100, 48000, .inl f100)), (qf110, .inl (cf110, 96, .inl f110)), (qf111, .inl (cf111, 96, .inl f111)), (qf127, .inl (cf127, 30, .inl g127_97)), (qf107, .inl (cf107, 96, .inl f107)), (qf102, .inl (cf102, 2048, .inl f102)), (qf104, .inl (cf104, 8, .inl f104)), (qf118, .inl (cf118, 2100, .inl g118_97)), (qf119, .inl (cf119, 2100, .inl g119_97)), (qf105, .inl (cf105, 8, .inl f105)), (qf128, .inl (cf128, 31, .inl g128_97)), (qf103, .inl (cf103, 8, .inl f103)), (qf106, .inl (cf106, 8, .inl f106)), (qf108, .inl (cf108, 8, .inl f108)), (qf137, .inl (cf137, 6, .inl g137_97)), (qf126, .inl (cf126, 1501, .inl g126_97))]) [17, 0, 16, 1, 2, 3, 4, 5, 6, 7, 8, 9, 10, 11, 12, 13, 14, 15] (by decide) rfl, hP.sub (ws' := [(h0, .inr (13, z_20)), (qf109, .inl (cf109, 96, .inl f109)), (qf100, .inl (cf100, 48000, .inl f100)), (qf110, .inl (cf110, 96, .inl f110)), (qf111, .inl (cf111, 96, .inl f111)), (qf127, .inl (cf127, 30, .inl g127_97)), (qf107, .inl (cf107, 96, .inl f107)), (qf102, .inl (cf102, 2048, .inl f102)), (qf104, .inl (cf104, 8, .inl f104)), (qf118, .inl (cf118, 2100, .inl g118_97)), (qf119, .inl (cf119, 2100, .inl g119_97)), (qf105, .inl (cf105, 8, .inl f105)), (qf128, .inl (cf128, 31, .inl g128_97)), (qf103, .inl (cf103, 8, .inl f103)), (qf106, .inl (cf106, 8, .inl f106)), (qf108, .inl (cf108, 8, .inl f108)), (qf137, .inl (cf137, 6, .inl g137_97)), (qf126, .inl (cf126, 1501, .inl g126_97))]) [17, 0, 16, 1, 2, 3, 4, 5, 6, 7, 8, 9, 10, 11, 12, 13, 14, 15] rfl, hfk_20_98, hfk_20_100, hfk_20_102, hfk_20_103, hfk_20_104, hfk_20_105, hfk_20_106, hfk_20_107, hfk_20_108, hfk_20_109, hfk_20_110, hfk_20_111, hfk_20_117, hfk_20_118, hfk_20_119, hfk_20_120, hfk_20_121, hch_20_122, hch_20_123, hch_20_124, hch_20_125, hfk_20_126, hfk_20_127, hfk_20_128, hfk_20_129, hfk_20_130, hfk_20_131, hfk_20_132, hfk_20_133, hfk_20_134, hfk_20_135, hfk_20_136, hfk_20_137, hln_20, hrq_20, Or.inr rfl, hsp⟩
                  · rw [if_neg c_36] at hsp
                    refine lv_aload_n hx hb dX13_methodFits_140 rfl (lv_at hl 2 rfl) ?_
                    refine va_get (D := (dC, dI)) (ci := 13) (v := .ref qf126) (C := RX13) (T := TX13) (N := 155) hx hb hts uV_h9_X13 hown hK hP 16 rfl rfl 126 (by decide) (hts (.fieldLink RX13 267 "ClassMillModel" "begins" "[Z") mw_h9_547) (fun _ h9 => h9) hfk_18_126 dX13_methodFits_141 ?_
                    refine lv_iload hx hb dX13_methodFits_144 (lv_at hl 0 rfl) ?_
                    obtain ⟨hi_38, hsp⟩ := ox_in hsp
                    refine va_zald hx hb hK hP 15 15 rfl rfl (i := u18_0) hi_38 dX13_methodFits_146 ?_
                    refine lv_if_ne (tgt := 160) hx hb dX13_methodFits_147 (by decide) (fun c_39 => ?_) (fun c_39 => ?_)
                    · rw [if_neg c_39] at hsp
                      refine lv_iload_n hx hb dX13_methodFits_160 rfl (lv_at hl 1 rfl) ?_
                      refine lv_aload_n hx hb dX13_methodFits_161 rfl (lv_at hl 2 rfl) ?_
                      refine lv_iload_n hx hb dX13_methodFits_162 rfl (lv_at hl 1 rfl) ?_
                      obtain ⟨u21_0, hu_21, hsp⟩ := ox_bind hsp
                      try dsimp only at hsp
                      have hPc := hP.sub (ws' := [(h0, .inr (13, z_18)), (qf100, .inl (cf100, 48000, .inl f100))]) [16, 17] rfl
                      have hDc := hD.sub (ws' := [(h0, .inr (13, z_18)), (qf100, .inl (cf100, 48000, .inl f100))]) [16, 17] (by decide) rfl
                      have hKc := hK.sub (tys' := [(cf100, .int)]) [16] rfl
                      have hFc := va_free (wc := [(h0, .inr (13, z_18)), (qf100, .inl (cf100, 48000, .inl f100))]) hD hS hA [16, 17] rfl
                      refine va_calli (va_runV (As := [.int l3_97]) (rest := [.int l3_97]) ⟨hx, hb, hml, hown, hts⟩ (tm_code l dC dI H.size h0 z_18 l3_97 qf100 x132_97 x134_97 cf100 f100 nf u21_0 hln_18 hfk_18_100 hfk_18_132 hfk_18_134 hu_21) (cwV 1 hts gv_h9_65 rfl rfl rfl (by decide +kernel) ⟨Nat.le_of_ble_eq_true rfl, Nat.le_of_ble_eq_true rfl⟩) ⟨fun a U g mk q => by obtain ⟨q0, q1, qP, qK, qD⟩ := q; exact ⟨q0, q1, qP, va_K.moved (u := U) (U := U.calling g mk a) (Vm.Alike.refl U.vm) qK, qD⟩, va_recv hKc hPc (ci := 13) (q0 := 0) rfl rfl, fun U hU hW => ⟨rfl, by rw [hU], by rw [hU]; exact hPc, va_K.moved hW.alike hKc, hDc.weaken (fun _ _ _ _ => trivial)⟩⟩ rfl rfl hl.1 rfl (lv_room (Nat.le_of_ble_eq_true rfl)) dX13_methodFits_163 ⟨Nat.le_of_ble_eq_true rfl, Nat.le_of_ble_eq_true rfl⟩) hS (fun q _ h => hFc q h) hFc ?_
                      clear hS
                      intro r_40 u t H1 locs ht hvm hw hB hz1 hk1 hS
                      obtain ⟨z_21, rfl⟩ : ∃ z, z = u := ⟨_, rfl⟩
                      obtain ⟨hP1, hK1, hD1⟩ := hB
                      rw [ht] at hP1
                      have hK1 := va_K.moved hvm.symm hK1
                      try dsimp only at hw
                      have hPD := va_join (wr := [(qf109, .inl (cf109, 96, .inl f109)), (qf110, .inl (cf110, 96, .inl f110)), (qf111, .inl (cf111, 96, .inl f111)), (qf127, .inl (cf127, 30, .inl g127_97)), (qf107, .inl (cf107, 96, .inl f107)), (qf102, .inl (cf102, 2048, .inl f102)), (qf104, .inl (cf104, 8, .inl f104)), (qf118, .inl (cf118, 2100, .inl g118_97)), (qf119, .inl (cf119, 2100, .inl g119_97)), (qf105, .inl (cf105, 8, .inl f105)), (qf128, .inl (cf128, 31, .inl g128_97)), (qf103, .inl (cf103, 8, .inl f103)), (qf106, .inl (cf106, 8, .inl f106)), (qf108, .inl (cf108, 8, .inl f108)), (qf137, .inl (cf137, 6, .inl g137_97)), (qf126, .inl (cf126, 1501, .inl g126_97))]) (w1 := [(h0, .inr (13, z_21)), (qf100, .inl (cf100, 48000, .inl f100))]) hP hD [16, 17] [0, 1, 2, 3, 4, 5, 6, 7, 8, 9, 10, 11, 12, 13, 14, 15] rfl rfl (by decide) (by decide) hk1 hFc hP1 hD1
                      clear hP hD
                      obtain ⟨hP, hD⟩ := hPD
                      replace hK := (hK.sub (tys' := [(cf109, .int), (cf110, .int), (cf111, .int), (cf127, .int), (cf107, .int), (cf102, .int), (cf104, .int), (cf118, .int), (cf119, .int), (cf105, .int), (cf128, .int), (cf103, .int), (cf106, .int), (cf108, .int), (cf137, .int), (cf126, .boolean)]) [0, 1, 2, 3, 4, 5, 6, 7, 8, 9, 10, 11, 12, 13, 14, 15] rfl).app hK1
                      clear hPc hDc hKc hFc hP1 hK1 hD1 hz1 hk1 ht hvm
                      generalize H1 = H at hP hS ⊢
                      replace hP : va_P (dC, dI) vwCl [(qf109, .inl (cf109, 96, .inl f109)), (qf110, .inl (cf110, 96, .inl f110)), (qf111, .inl (cf111, 96, .inl f111)), (qf127, .inl (cf127, 30, .inl g127_97)), (qf107, .inl (cf107, 96, .inl f107)), (qf102, .inl (cf102, 2048, .inl f102)), (qf104, .inl (cf104, 8, .inl f104)), (qf118, .inl (cf118, 2100, .inl g118_97)), (qf119, .inl (cf119, 2100, .inl g119_97)), (qf105, .inl (cf105, 8, .inl f105)), (qf128, .inl (cf128, 31, .inl g128_97)), (qf103, .inl (cf103, 8, .inl f103)), (qf106, .inl (cf106, 8, .inl f106)), (qf108, .inl (cf108, 8, .inl f108)), (qf137, .inl (cf137, 6, .inl g137_97)), (qf126, .inl (cf126, 1501, .inl g126_97)), (h0, .inr (13, z_21)), (qf100, .inl (cf100, 48000, .inl f100))] H := hP
                      replace hD : va_D A [(qf109, .inl (cf109, 96, .inl f109)), (qf110, .inl (cf110, 96, .inl f110)), (qf111, .inl (cf111, 96, .inl f111)), (qf127, .inl (cf127, 30, .inl g127_97)), (qf107, .inl (cf107, 96, .inl f107)), (qf102, .inl (cf102, 2048, .inl f102)), (qf104, .inl (cf104, 8, .inl f104)), (qf118, .inl (cf118, 2100, .inl g118_97)), (qf119, .inl (cf119, 2100, .inl g119_97)), (qf105, .inl (cf105, 8, .inl f105)), (qf128, .inl (cf128, 31, .inl g128_97)), (qf103, .inl (cf103, 8, .inl f103)), (qf106, .inl (cf106, 8, .inl f106)), (qf108, .inl (cf108, 8, .inl f108)), (qf137, .inl (cf137, 6, .inl g137_97)), (qf126, .inl (cf126, 1501, .inl g126_97)), (h0, .inr (13, z_21)), (qf100, .inl (cf100, 48000, .inl f100))] := hD
                      replace hK : va_K (dC, dI) vwCl [(cf109, .int), (cf110, .int), (cf111, .int), (cf127, .int), (cf107, .int), (cf102, .int), (cf104, .int), (cf118, .int), (cf119, .int), (cf105, .int), (cf128, .int), (cf103, .int), (cf106, .int), (cf108, .int), (cf137, .int), (cf126, .boolean), (cf100, .int)] s := hK
                      obtain ⟨hwa_21, hln_21, hre_21⟩ := hw
                      have hfk_21_98 : z_21[98]? = some (.int v98) := (hre_21 98 ).trans (hfk_18_98)
                      have hfk_21_100 : z_21[100]? = some (.ref qf100) := (hre_21 100 ).trans (hfk_18_100)
                      have hfk_21_102 : z_21[102]? = some (.ref qf102) := (hre_21 102 ).trans (hfk_18_102)
                      have hfk_21_103 : z_21[103]? = some (.ref qf103) := (hre_21 103 ).trans (hfk_18_103)
                      have hfk_21_104 : z_21[104]? = some (.ref qf104) := (hre_21 104 ).trans (hfk_18_104)
                      have hfk_21_105 : z_21[105]? = some (.ref qf105) := (hre_21 105 ).trans (hfk_18_105)
                      have hfk_21_106 : z_21[106]? = some (.ref qf106) := (hre_21 106 ).trans (hfk_18_106)
                      have hfk_21_107 : z_21[107]? = some (.ref qf107) := (hre_21 107 ).trans (hfk_18_107)
                      have hfk_21_108 : z_21[108]? = some (.ref qf108) := (hre_21 108 ).trans (hfk_18_108)
                      have hfk_21_109 : z_21[109]? = some (.ref qf109) := (hre_21 109 ).trans (hfk_18_109)
                      have hfk_21_110 : z_21[110]? = some (.ref qf110) := (hre_21 110 ).trans (hfk_18_110)
                      have hfk_21_111 : z_21[111]? = some (.ref qf111) := (hre_21 111 ).trans (hfk_18_111)
                      have hfk_21_117 : z_21[117]? = some (.int x117_97) := (hre_21 117 ).trans (hfk_18_117)
                      have hfk_21_118 : z_21[118]? = some (.ref qf118) := (hre_21 118 ).trans (hfk_18_118)
                      have hfk_21_119 : z_21[119]? = some (.ref qf119) := (hre_21 119 ).trans (hfk_18_119)
                      have hfk_21_120 : z_21[120]? = some (.int x120_97) := (hre_21 120 ).trans (hfk_18_120)
                      have hfk_21_121 : z_21[121]? = some (.int x121_97) := (hre_21 121 ).trans (hfk_18_121)
                      have hfk_21_122 : z_21[122]? = some (.int x122_97) := (hre_21 122 ).trans (hfk_18_122)
                      have hfk_21_123 : z_21[123]? = some (.int x123_97) := (hre_21 123 ).trans (hfk_18_123)
                      have hfk_21_124 : z_21[124]? = some (.int x124_97) := (hre_21 124 ).trans (hfk_18_124)
                      have hfk_21_125 : z_21[125]? = some (.int x125_97) := (hre_21 125 ).trans (hfk_18_125)
                      have hfk_21_126 : z_21[126]? = some (.ref qf126) := (hre_21 126 ).trans (hfk_18_126)
                      have hfk_21_127 : z_21[127]? = some (.ref qf127) := (hre_21 127 ).trans (hfk_18_127)
                      have hfk_21_128 : z_21[128]? = some (.ref qf128) := (hre_21 128 ).trans (hfk_18_128)
                      have hfk_21_129 : z_21[129]? = some (.int x129_97) := (hre_21 129 ).trans (hfk_18_129)
                      have hfk_21_130 : z_21[130]? = some (.int x130_97) := (hre_21 130 ).trans (hfk_18_130)
                      have hfk_21_131 : z_21[131]? = some (.int x131_97) := (hre_21 131 ).trans (hfk_18_131)
                      have hfk_21_132 : z_21[132]? = some (.int x132_97) := (hre_21 132 ).trans (hfk_18_132)
                      have hfk_21_133 : z_21[133]? = some (.int x133_97) := (hre_21 133 ).trans (hfk_18_133)
                      have hfk_21_134 : z_21[134]? = some (.int x134_97) := (hre_21 134 ).trans (hfk_18_134)
                      have hfk_21_135 : z_21[135]? = some (.int x135_97) := (hre_21 135 ).trans (hfk_18_135)
                      have hfk_21_136 : z_21[136]? = some (.int x136_97) := (hre_21 136 ).trans (hfk_18_136)
                      have hfk_21_137 : z_21[137]? = some (.ref qf137) := (hre_21 137 ).trans (hfk_18_137)
                      have hrq_21 : ∀ j : Nat, j ≠ 117 → j ≠ 120 → j ≠ 121 → j ≠ 122 → j ≠ 123 → j ≠ 124 → j ≠ 125 → j ≠ 129 → j ≠ 130 → j ≠ 131 → j ≠ 132 → j ≠ 133 → j ≠ 134 → j ≠ 135 → j ≠ 136 → z_21[j]? = zs[j]? := fun j g117 g120 g121 g122 g123 g124 g125 g129 g130 g131 g132 g133 g134 g135 g136 => (hre_21 j ).trans (hrq_18 j g117 g120 g121 g122 g123 g124 g125 g129 g130 g131 g132 g133 g134 g135 g136)
                      obtain rfl := hwa_21
                      obtain ⟨u22_0, hu_22, hsp⟩ := ox_bind hsp
                      try dsimp only at hsp
                      have hPc := hP.sub (ws' := []) [] rfl
                      have hDc := hD.sub (ws' := []) [] (by decide) rfl
                      have hKc := hK.sub (tys' := []) [] rfl
                      have hFc := va_free (wc := []) hD hS hA [] rfl
                      refine va_calli (va_runS (As := [.int u21_0]) (rest := [.int l3_97]) ⟨hx, hb, hml, hown, hts⟩ (tm_widthOf l dC dI H.size u21_0 nf u22_0 hu_22) (va_cwS 1 hts gv_h9_66 rfl rfl rfl (by decide +kernel) ⟨Nat.le_of_ble_eq_true rfl, Nat.le_of_ble_eq_true rfl⟩) ⟨fun a U g mk q => by obtain ⟨q0, q1, qP, qK, qD⟩ := q; exact ⟨q0, q1, qP, va_K.moved (u := U) (U := U.calling g mk a) (Vm.Alike.refl U.vm) qK, qD⟩, fun U hU hW => ⟨rfl, by rw [hU], by rw [hU]; exact hPc, va_K.moved hW.alike hKc, hDc.weaken (fun _ _ _ _ => trivial)⟩⟩ rfl rfl hl.1 rfl (lv_room (Nat.le_of_ble_eq_true rfl)) dX13_methodFits_166 ⟨Nat.le_of_ble_eq_true rfl, Nat.le_of_ble_eq_true rfl⟩) hS (fun q _ h => hFc q h) hFc ?_
                      clear hS
                      intro r_41 u t H1 locs ht hvm hw hB hz1 hk1 hS
                      obtain ⟨⟩ := u
                      obtain ⟨hP1, hK1, hD1⟩ := hB
                      rw [ht] at hP1
                      have hK1 := va_K.moved hvm.symm hK1
                      try dsimp only at hw
                      have hPD := va_join (wr := [(qf109, .inl (cf109, 96, .inl f109)), (qf110, .inl (cf110, 96, .inl f110)), (qf111, .inl (cf111, 96, .inl f111)), (qf127, .inl (cf127, 30, .inl g127_97)), (qf107, .inl (cf107, 96, .inl f107)), (qf102, .inl (cf102, 2048, .inl f102)), (qf104, .inl (cf104, 8, .inl f104)), (qf118, .inl (cf118, 2100, .inl g118_97)), (qf119, .inl (cf119, 2100, .inl g119_97)), (qf105, .inl (cf105, 8, .inl f105)), (qf128, .inl (cf128, 31, .inl g128_97)), (qf103, .inl (cf103, 8, .inl f103)), (qf106, .inl (cf106, 8, .inl f106)), (qf108, .inl (cf108, 8, .inl f108)), (qf137, .inl (cf137, 6, .inl g137_97)), (qf126, .inl (cf126, 1501, .inl g126_97)), (h0, .inr (13, z_21)), (qf100, .inl (cf100, 48000, .inl f100))]) (w1 := []) hP hD [] [0, 1, 2, 3, 4, 5, 6, 7, 8, 9, 10, 11, 12, 13, 14, 15, 16, 17] rfl rfl (by decide) (by decide) hk1 hFc hP1 hD1
                      clear hP hD
                      obtain ⟨hP, hD⟩ := hPD
                      replace hK := (hK.sub (tys' := [(cf109, .int), (cf110, .int), (cf111, .int), (cf127, .int), (cf107, .int), (cf102, .int), (cf104, .int), (cf118, .int), (cf119, .int), (cf105, .int), (cf128, .int), (cf103, .int), (cf106, .int), (cf108, .int), (cf137, .int), (cf126, .boolean), (cf100, .int)]) [0, 1, 2, 3, 4, 5, 6, 7, 8, 9, 10, 11, 12, 13, 14, 15, 16] rfl).app hK1
                      clear hPc hDc hKc hFc hP1 hK1 hD1 hz1 hk1 ht hvm
                      generalize H1 = H at hP hS ⊢
                      replace hP : va_P (dC, dI) vwCl [(qf109, .inl (cf109, 96, .inl f109)), (qf110, .inl (cf110, 96, .inl f110)), (qf111, .inl (cf111, 96, .inl f111)), (qf127, .inl (cf127, 30, .inl g127_97)), (qf107, .inl (cf107, 96, .inl f107)), (qf102, .inl (cf102, 2048, .inl f102)), (qf104, .inl (cf104, 8, .inl f104)), (qf118, .inl (cf118, 2100, .inl g118_97)), (qf119, .inl (cf119, 2100, .inl g119_97)), (qf105, .inl (cf105, 8, .inl f105)), (qf128, .inl (cf128, 31, .inl g128_97)), (qf103, .inl (cf103, 8, .inl f103)), (qf106, .inl (cf106, 8, .inl f106)), (qf108, .inl (cf108, 8, .inl f108)), (qf137, .inl (cf137, 6, .inl g137_97)), (qf126, .inl (cf126, 1501, .inl g126_97)), (h0, .inr (13, z_21)), (qf100, .inl (cf100, 48000, .inl f100))] H := hP
                      replace hD : va_D A [(qf109, .inl (cf109, 96, .inl f109)), (qf110, .inl (cf110, 96, .inl f110)), (qf111, .inl (cf111, 96, .inl f111)), (qf127, .inl (cf127, 30, .inl g127_97)), (qf107, .inl (cf107, 96, .inl f107)), (qf102, .inl (cf102, 2048, .inl f102)), (qf104, .inl (cf104, 8, .inl f104)), (qf118, .inl (cf118, 2100, .inl g118_97)), (qf119, .inl (cf119, 2100, .inl g119_97)), (qf105, .inl (cf105, 8, .inl f105)), (qf128, .inl (cf128, 31, .inl g128_97)), (qf103, .inl (cf103, 8, .inl f103)), (qf106, .inl (cf106, 8, .inl f106)), (qf108, .inl (cf108, 8, .inl f108)), (qf137, .inl (cf137, 6, .inl g137_97)), (qf126, .inl (cf126, 1501, .inl g126_97)), (h0, .inr (13, z_21)), (qf100, .inl (cf100, 48000, .inl f100))] := hD
                      replace hK : va_K (dC, dI) vwCl [(cf109, .int), (cf110, .int), (cf111, .int), (cf127, .int), (cf107, .int), (cf102, .int), (cf104, .int), (cf118, .int), (cf119, .int), (cf105, .int), (cf128, .int), (cf103, .int), (cf106, .int), (cf108, .int), (cf137, .int), (cf126, .boolean), (cf100, .int)] s := hK
                      obtain rfl := hw
                      refine lv_iadd hx hb dX13_methodFits_169 ?_
                      refine lv_istore_n (lv' := [(3, .int (l3_97 + u22_0)), (4, .int u18_0), (0, .ref h0), (1, .int l1_97), (2, .int l2_97)]) hx hb dX13_methodFits_170 rfl hl (by decide) rfl (fun ls hl => ?_)
                      refine lv_goto (tgt := 97) hx hb dX13_methodFits_171 (by decide) ?_
                      exact ih_97 H locs ls z_21 l1_97 l2_97 (l3_97 + u22_0) g118_97 g119_97 g126_97 g127_97 g128_97 g137_97 x117_97 x120_97 x121_97 x122_97 x123_97 x124_97 x125_97 x129_97 x130_97 x131_97 x132_97 x133_97 x134_97 x135_97 x136_97 (hfk_21_98) (hfk_21_100) (hfk_21_102) (hfk_21_103) (hfk_21_104) (hfk_21_105) (hfk_21_106) (hfk_21_107) (hfk_21_108) (hfk_21_109) (hfk_21_110) (hfk_21_111) (hfk_21_117) (hfk_21_118) (hfk_21_119) (hfk_21_120) (hfk_21_121) (hfk_21_122) (hfk_21_123) (hfk_21_124) (hfk_21_125) (hfk_21_126) (hfk_21_127) (hfk_21_128) (hfk_21_129) (hfk_21_130) (hfk_21_131) (hfk_21_132) (hfk_21_133) (hfk_21_134) (hfk_21_135) (hfk_21_136) (hfk_21_137) hln_21 hrq_21 (lv_sub hl [0, 2, 3, 4] rfl) hS (hD.sub (ws' := [(h0, .inr (13, z_21)), (qf109, .inl (cf109, 96, .inl f109)), (qf100, .inl (cf100, 48000, .inl f100)), (qf110, .inl (cf110, 96, .inl f110)), (qf111, .inl (cf111, 96, .inl f111)), (qf127, .inl (cf127, 30, .inl g127_97)), (qf107, .inl (cf107, 96, .inl f107)), (qf102, .inl (cf102, 2048, .inl f102)), (qf104, .inl (cf104, 8, .inl f104)), (qf118, .inl (cf118, 2100, .inl g118_97)), (qf119, .inl (cf119, 2100, .inl g119_97)), (qf105, .inl (cf105, 8, .inl f105)), (qf128, .inl (cf128, 31, .inl g128_97)), (qf103, .inl (cf103, 8, .inl f103)), (qf106, .inl (cf106, 8, .inl f106)), (qf108, .inl (cf108, 8, .inl f108)), (qf137, .inl (cf137, 6, .inl g137_97)), (qf126, .inl (cf126, 1501, .inl g126_97))]) [16, 0, 17, 1, 2, 3, 4, 5, 6, 7, 8, 9, 10, 11, 12, 13, 14, 15] (by decide) rfl) (hP.sub (ws' := [(h0, .inr (13, z_21)), (qf109, .inl (cf109, 96, .inl f109)), (qf100, .inl (cf100, 48000, .inl f100)), (qf110, .inl (cf110, 96, .inl f110)), (qf111, .inl (cf111, 96, .inl f111)), (qf127, .inl (cf127, 30, .inl g127_97)), (qf107, .inl (cf107, 96, .inl f107)), (qf102, .inl (cf102, 2048, .inl f102)), (qf104, .inl (cf104, 8, .inl f104)), (qf118, .inl (cf118, 2100, .inl g118_97)), (qf119, .inl (cf119, 2100, .inl g119_97)), (qf105, .inl (cf105, 8, .inl f105)), (qf128, .inl (cf128, 31, .inl g128_97)), (qf103, .inl (cf103, 8, .inl f103)), (qf106, .inl (cf106, 8, .inl f106)), (qf108, .inl (cf108, 8, .inl f108)), (qf137, .inl (cf137, 6, .inl g137_97)), (qf126, .inl (cf126, 1501, .inl g126_97))]) [16, 0, 17, 1, 2, 3, 4, 5, 6, 7, 8, 9, 10, 11, 12, 13, 14, 15] rfl) hsp
                    · rw [if_pos c_39] at hsp
                      refine lv_aload_n hx hb dX13_methodFits_150 rfl (lv_at hl 2 rfl) ?_
                      refine lv_bipush (v := 7) hx hb dX13_methodFits_151 (by decide) ?_
                      refine lv_iload_n hx hb dX13_methodFits_153 rfl (lv_at hl 3 rfl) ?_
                      refine lv_iload_n hx hb dX13_methodFits_154 rfl (lv_at hl 4 rfl) ?_
                      refine lv_iload_n hx hb dX13_methodFits_155 rfl (lv_at hl 1 rfl) ?_
                      obtain ⟨⟨u23_0, u23_1, u23_2, u23_3, u23_4⟩, hu_23, hsp⟩ := ox_bind hsp
                      try dsimp only at hsp
                      have hPc := hP.sub (ws' := [(h0, .inr (13, z_18))]) [16] rfl
                      have hDc := hD.sub (ws' := [(h0, .inr (13, z_18))]) [16] (by decide) rfl
                      have hKc := hK.sub (tys' := []) [] rfl
                      have hFc := va_free (wc := [(h0, .inr (13, z_18))]) hD hS hA [16] rfl
                      refine va_calli (va_runV (As := [.int 7, .int l1_97, .int l2_97, .int l3_97]) (rest := []) ⟨hx, hb, hml, hown, hts⟩ (tm_bad l dC dI H.size h0 z_18 7 l1_97 l2_97 l3_97 x122_97 x123_97 x124_97 x125_97 nf u23_0 u23_1 u23_2 u23_3 u23_4 hln_18 hfk_18_122 hfk_18_123 hfk_18_124 hfk_18_125 hu_23) (cwV 4 hts gv_h9_63 rfl rfl rfl (by decide +kernel) ⟨Nat.le_of_ble_eq_true rfl, Nat.le_of_ble_eq_true rfl⟩) ⟨fun a U g mk q => by obtain ⟨q0, q1, qP, qK, qD⟩ := q; exact ⟨q0, q1, qP, va_K.moved (u := U) (U := U.calling g mk a) (Vm.Alike.refl U.vm) qK, qD⟩, va_recv hKc hPc (ci := 13) (q0 := 0) rfl rfl, fun U hU hW => ⟨rfl, by rw [hU], by rw [hU]; exact hPc, va_K.moved hW.alike hKc, hDc.weaken (fun _ _ _ _ => trivial)⟩⟩ rfl rfl hl.1 rfl (lv_room (Nat.le_of_ble_eq_true rfl)) dX13_methodFits_156 ⟨Nat.le_of_ble_eq_true rfl, Nat.le_of_ble_eq_true rfl⟩) hS (fun q _ h => hFc q h) hFc ?_
                      clear hS
                      intro r_42 u t H1 locs ht hvm hw hB hz1 hk1 hS
                      obtain ⟨z_23, rfl⟩ : ∃ z, z = u := ⟨_, rfl⟩
                      obtain ⟨hP1, hK1, hD1⟩ := hB
                      rw [ht] at hP1
                      have hK1 := va_K.moved hvm.symm hK1
                      try dsimp only at hw
                      have hPD := va_join (wr := [(qf109, .inl (cf109, 96, .inl f109)), (qf110, .inl (cf110, 96, .inl f110)), (qf111, .inl (cf111, 96, .inl f111)), (qf127, .inl (cf127, 30, .inl g127_97)), (qf107, .inl (cf107, 96, .inl f107)), (qf102, .inl (cf102, 2048, .inl f102)), (qf104, .inl (cf104, 8, .inl f104)), (qf118, .inl (cf118, 2100, .inl g118_97)), (qf119, .inl (cf119, 2100, .inl g119_97)), (qf105, .inl (cf105, 8, .inl f105)), (qf128, .inl (cf128, 31, .inl g128_97)), (qf103, .inl (cf103, 8, .inl f103)), (qf106, .inl (cf106, 8, .inl f106)), (qf108, .inl (cf108, 8, .inl f108)), (qf137, .inl (cf137, 6, .inl g137_97)), (qf126, .inl (cf126, 1501, .inl g126_97)), (qf100, .inl (cf100, 48000, .inl f100))]) (w1 := [(h0, .inr (13, z_23))]) hP hD [16] [0, 1, 2, 3, 4, 5, 6, 7, 8, 9, 10, 11, 12, 13, 14, 15, 17] rfl rfl (by decide) (by decide) hk1 hFc hP1 hD1
                      clear hP hD
                      obtain ⟨hP, hD⟩ := hPD
                      replace hK := (hK.sub (tys' := [(cf109, .int), (cf110, .int), (cf111, .int), (cf127, .int), (cf107, .int), (cf102, .int), (cf104, .int), (cf118, .int), (cf119, .int), (cf105, .int), (cf128, .int), (cf103, .int), (cf106, .int), (cf108, .int), (cf137, .int), (cf126, .boolean), (cf100, .int)]) [0, 1, 2, 3, 4, 5, 6, 7, 8, 9, 10, 11, 12, 13, 14, 15, 16] rfl).app hK1
                      clear hPc hDc hKc hFc hP1 hK1 hD1 hz1 hk1 ht hvm
                      generalize H1 = H at hP hS ⊢
                      replace hP : va_P (dC, dI) vwCl [(qf109, .inl (cf109, 96, .inl f109)), (qf110, .inl (cf110, 96, .inl f110)), (qf111, .inl (cf111, 96, .inl f111)), (qf127, .inl (cf127, 30, .inl g127_97)), (qf107, .inl (cf107, 96, .inl f107)), (qf102, .inl (cf102, 2048, .inl f102)), (qf104, .inl (cf104, 8, .inl f104)), (qf118, .inl (cf118, 2100, .inl g118_97)), (qf119, .inl (cf119, 2100, .inl g119_97)), (qf105, .inl (cf105, 8, .inl f105)), (qf128, .inl (cf128, 31, .inl g128_97)), (qf103, .inl (cf103, 8, .inl f103)), (qf106, .inl (cf106, 8, .inl f106)), (qf108, .inl (cf108, 8, .inl f108)), (qf137, .inl (cf137, 6, .inl g137_97)), (qf126, .inl (cf126, 1501, .inl g126_97)), (qf100, .inl (cf100, 48000, .inl f100)), (h0, .inr (13, z_23))] H := hP
                      replace hD : va_D A [(qf109, .inl (cf109, 96, .inl f109)), (qf110, .inl (cf110, 96, .inl f110)), (qf111, .inl (cf111, 96, .inl f111)), (qf127, .inl (cf127, 30, .inl g127_97)), (qf107, .inl (cf107, 96, .inl f107)), (qf102, .inl (cf102, 2048, .inl f102)), (qf104, .inl (cf104, 8, .inl f104)), (qf118, .inl (cf118, 2100, .inl g118_97)), (qf119, .inl (cf119, 2100, .inl g119_97)), (qf105, .inl (cf105, 8, .inl f105)), (qf128, .inl (cf128, 31, .inl g128_97)), (qf103, .inl (cf103, 8, .inl f103)), (qf106, .inl (cf106, 8, .inl f106)), (qf108, .inl (cf108, 8, .inl f108)), (qf137, .inl (cf137, 6, .inl g137_97)), (qf126, .inl (cf126, 1501, .inl g126_97)), (qf100, .inl (cf100, 48000, .inl f100)), (h0, .inr (13, z_23))] := hD
                      replace hK : va_K (dC, dI) vwCl [(cf109, .int), (cf110, .int), (cf111, .int), (cf127, .int), (cf107, .int), (cf102, .int), (cf104, .int), (cf118, .int), (cf119, .int), (cf105, .int), (cf128, .int), (cf103, .int), (cf106, .int), (cf108, .int), (cf137, .int), (cf126, .boolean), (cf100, .int)] s := hK
                      obtain ⟨hwa_23, hln_23, hre_23, hch_23_122, hch_23_123, hch_23_124, hch_23_125⟩ := hw
                      have hfk_23_98 : z_23[98]? = some (.int v98) := (hre_23 98 (by decide) (by decide) (by decide) (by decide)).trans (hfk_18_98)
                      have hfk_23_100 : z_23[100]? = some (.ref qf100) := (hre_23 100 (by decide) (by decide) (by decide) (by decide)).trans (hfk_18_100)
                      have hfk_23_102 : z_23[102]? = some (.ref qf102) := (hre_23 102 (by decide) (by decide) (by decide) (by decide)).trans (hfk_18_102)
                      have hfk_23_103 : z_23[103]? = some (.ref qf103) := (hre_23 103 (by decide) (by decide) (by decide) (by decide)).trans (hfk_18_103)
                      have hfk_23_104 : z_23[104]? = some (.ref qf104) := (hre_23 104 (by decide) (by decide) (by decide) (by decide)).trans (hfk_18_104)
                      have hfk_23_105 : z_23[105]? = some (.ref qf105) := (hre_23 105 (by decide) (by decide) (by decide) (by decide)).trans (hfk_18_105)
                      have hfk_23_106 : z_23[106]? = some (.ref qf106) := (hre_23 106 (by decide) (by decide) (by decide) (by decide)).trans (hfk_18_106)
                      have hfk_23_107 : z_23[107]? = some (.ref qf107) := (hre_23 107 (by decide) (by decide) (by decide) (by decide)).trans (hfk_18_107)
                      have hfk_23_108 : z_23[108]? = some (.ref qf108) := (hre_23 108 (by decide) (by decide) (by decide) (by decide)).trans (hfk_18_108)
                      have hfk_23_109 : z_23[109]? = some (.ref qf109) := (hre_23 109 (by decide) (by decide) (by decide) (by decide)).trans (hfk_18_109)
                      have hfk_23_110 : z_23[110]? = some (.ref qf110) := (hre_23 110 (by decide) (by decide) (by decide) (by decide)).trans (hfk_18_110)
                      have hfk_23_111 : z_23[111]? = some (.ref qf111) := (hre_23 111 (by decide) (by decide) (by decide) (by decide)).trans (hfk_18_111)
                      have hfk_23_117 : z_23[117]? = some (.int x117_97) := (hre_23 117 (by decide) (by decide) (by decide) (by decide)).trans (hfk_18_117)
                      have hfk_23_118 : z_23[118]? = some (.ref qf118) := (hre_23 118 (by decide) (by decide) (by decide) (by decide)).trans (hfk_18_118)
                      have hfk_23_119 : z_23[119]? = some (.ref qf119) := (hre_23 119 (by decide) (by decide) (by decide) (by decide)).trans (hfk_18_119)
                      have hfk_23_120 : z_23[120]? = some (.int x120_97) := (hre_23 120 (by decide) (by decide) (by decide) (by decide)).trans (hfk_18_120)
                      have hfk_23_121 : z_23[121]? = some (.int x121_97) := (hre_23 121 (by decide) (by decide) (by decide) (by decide)).trans (hfk_18_121)
                      have hfk_23_126 : z_23[126]? = some (.ref qf126) := (hre_23 126 (by decide) (by decide) (by decide) (by decide)).trans (hfk_18_126)
                      have hfk_23_127 : z_23[127]? = some (.ref qf127) := (hre_23 127 (by decide) (by decide) (by decide) (by decide)).trans (hfk_18_127)
                      have hfk_23_128 : z_23[128]? = some (.ref qf128) := (hre_23 128 (by decide) (by decide) (by decide) (by decide)).trans (hfk_18_128)
                      have hfk_23_129 : z_23[129]? = some (.int x129_97) := (hre_23 129 (by decide) (by decide) (by decide) (by decide)).trans (hfk_18_129)
                      have hfk_23_130 : z_23[130]? = some (.int x130_97) := (hre_23 130 (by decide) (by decide) (by decide) (by decide)).trans (hfk_18_130)
                      have hfk_23_131 : z_23[131]? = some (.int x131_97) := (hre_23 131 (by decide) (by decide) (by decide) (by decide)).trans (hfk_18_131)
                      have hfk_23_132 : z_23[132]? = some (.int x132_97) := (hre_23 132 (by decide) (by decide) (by decide) (by decide)).trans (hfk_18_132)
                      have hfk_23_133 : z_23[133]? = some (.int x133_97) := (hre_23 133 (by decide) (by decide) (by decide) (by decide)).trans (hfk_18_133)
                      have hfk_23_134 : z_23[134]? = some (.int x134_97) := (hre_23 134 (by decide) (by decide) (by decide) (by decide)).trans (hfk_18_134)
                      have hfk_23_135 : z_23[135]? = some (.int x135_97) := (hre_23 135 (by decide) (by decide) (by decide) (by decide)).trans (hfk_18_135)
                      have hfk_23_136 : z_23[136]? = some (.int x136_97) := (hre_23 136 (by decide) (by decide) (by decide) (by decide)).trans (hfk_18_136)
                      have hfk_23_137 : z_23[137]? = some (.ref qf137) := (hre_23 137 (by decide) (by decide) (by decide) (by decide)).trans (hfk_18_137)
                      have hrq_23 : ∀ j : Nat, j ≠ 117 → j ≠ 120 → j ≠ 121 → j ≠ 122 → j ≠ 123 → j ≠ 124 → j ≠ 125 → j ≠ 129 → j ≠ 130 → j ≠ 131 → j ≠ 132 → j ≠ 133 → j ≠ 134 → j ≠ 135 → j ≠ 136 → z_23[j]? = zs[j]? := fun j g117 g120 g121 g122 g123 g124 g125 g129 g130 g131 g132 g133 g134 g135 g136 => (hre_23 j g122 g123 g124 g125).trans (hrq_18 j g117 g120 g121 g122 g123 g124 g125 g129 g130 g131 g132 g133 g134 g135 g136)
                      obtain ⟨rfl, hz_23⟩ := hwa_23
                      rcases hz_23 with rfl | rfl
                      · rw [if_pos rfl] at hsp
                        exact hret_159 (H, locs, ls, z_23, 0, g118_97, g119_97, g126_97, g127_97, g128_97, g137_97, x117_97, x120_97, x121_97, u23_1, u23_2, u23_3, u23_4, x129_97, x130_97, x131_97, x132_97, x133_97, x134_97, x135_97, x136_97) ⟨hS, hD.sub (ws' := [(h0, .inr (13, z_23)), (qf109, .inl (cf109, 96, .inl f109)), (qf100, .inl (cf100, 48000, .inl f100)), (qf110, .inl (cf110, 96, .inl f110)), (qf111, .inl (cf111, 96, .inl f111)), (qf127, .inl (cf127, 30, .inl g127_97)), (qf107, .inl (cf107, 96, .inl f107)), (qf102, .inl (cf102, 2048, .inl f102)), (qf104, .inl (cf104, 8, .inl f104)), (qf118, .inl (cf118, 2100, .inl g118_97)), (qf119, .inl (cf119, 2100, .inl g119_97)), (qf105, .inl (cf105, 8, .inl f105)), (qf128, .inl (cf128, 31, .inl g128_97)), (qf103, .inl (cf103, 8, .inl f103)), (qf106, .inl (cf106, 8, .inl f106)), (qf108, .inl (cf108, 8, .inl f108)), (qf137, .inl (cf137, 6, .inl g137_97)), (qf126, .inl (cf126, 1501, .inl g126_97))]) [17, 0, 16, 1, 2, 3, 4, 5, 6, 7, 8, 9, 10, 11, 12, 13, 14, 15] (by decide) rfl, hP.sub (ws' := [(h0, .inr (13, z_23)), (qf109, .inl (cf109, 96, .inl f109)), (qf100, .inl (cf100, 48000, .inl f100)), (qf110, .inl (cf110, 96, .inl f110)), (qf111, .inl (cf111, 96, .inl f111)), (qf127, .inl (cf127, 30, .inl g127_97)), (qf107, .inl (cf107, 96, .inl f107)), (qf102, .inl (cf102, 2048, .inl f102)), (qf104, .inl (cf104, 8, .inl f104)), (qf118, .inl (cf118, 2100, .inl g118_97)), (qf119, .inl (cf119, 2100, .inl g119_97)), (qf105, .inl (cf105, 8, .inl f105)), (qf128, .inl (cf128, 31, .inl g128_97)), (qf103, .inl (cf103, 8, .inl f103)), (qf106, .inl (cf106, 8, .inl f106)), (qf108, .inl (cf108, 8, .inl f108)), (qf137, .inl (cf137, 6, .inl g137_97)), (qf126, .inl (cf126, 1501, .inl g126_97))]) [17, 0, 16, 1, 2, 3, 4, 5, 6, 7, 8, 9, 10, 11, 12, 13, 14, 15] rfl, hfk_23_98, hfk_23_100, hfk_23_102, hfk_23_103, hfk_23_104, hfk_23_105, hfk_23_106, hfk_23_107, hfk_23_108, hfk_23_109, hfk_23_110, hfk_23_111, hfk_23_117, hfk_23_118, hfk_23_119, hfk_23_120, hfk_23_121, hch_23_122, hch_23_123, hch_23_124, hch_23_125, hfk_23_126, hfk_23_127, hfk_23_128, hfk_23_129, hfk_23_130, hfk_23_131, hfk_23_132, hfk_23_133, hfk_23_134, hfk_23_135, hfk_23_136, hfk_23_137, hln_23, hrq_23, Or.inl rfl, hsp⟩
                      · rw [if_neg (by decide)] at hsp
                        exact hret_159 (H, locs, ls, z_23, 1, g118_97, g119_97, g126_97, g127_97, g128_97, g137_97, x117_97, x120_97, x121_97, u23_1, u23_2, u23_3, u23_4, x129_97, x130_97, x131_97, x132_97, x133_97, x134_97, x135_97, x136_97) ⟨hS, hD.sub (ws' := [(h0, .inr (13, z_23)), (qf109, .inl (cf109, 96, .inl f109)), (qf100, .inl (cf100, 48000, .inl f100)), (qf110, .inl (cf110, 96, .inl f110)), (qf111, .inl (cf111, 96, .inl f111)), (qf127, .inl (cf127, 30, .inl g127_97)), (qf107, .inl (cf107, 96, .inl f107)), (qf102, .inl (cf102, 2048, .inl f102)), (qf104, .inl (cf104, 8, .inl f104)), (qf118, .inl (cf118, 2100, .inl g118_97)), (qf119, .inl (cf119, 2100, .inl g119_97)), (qf105, .inl (cf105, 8, .inl f105)), (qf128, .inl (cf128, 31, .inl g128_97)), (qf103, .inl (cf103, 8, .inl f103)), (qf106, .inl (cf106, 8, .inl f106)), (qf108, .inl (cf108, 8, .inl f108)), (qf137, .inl (cf137, 6, .inl g137_97)), (qf126, .inl (cf126, 1501, .inl g126_97))]) [17, 0, 16, 1, 2, 3, 4, 5, 6, 7, 8, 9, 10, 11, 12, 13, 14, 15] (by decide) rfl, hP.sub (ws' := [(h0, .inr (13, z_23)), (qf109, .inl (cf109, 96, .inl f109)), (qf100, .inl (cf100, 48000, .inl f100)), (qf110, .inl (cf110, 96, .inl f110)), (qf111, .inl (cf111, 96, .inl f111)), (qf127, .inl (cf127, 30, .inl g127_97)), (qf107, .inl (cf107, 96, .inl f107)), (qf102, .inl (cf102, 2048, .inl f102)), (qf104, .inl (cf104, 8, .inl f104)), (qf118, .inl (cf118, 2100, .inl g118_97)), (qf119, .inl (cf119, 2100, .inl g119_97)), (qf105, .inl (cf105, 8, .inl f105)), (qf128, .inl (cf128, 31, .inl g128_97)), (qf103, .inl (cf103, 8, .inl f103)), (qf106, .inl (cf106, 8, .inl f106)), (qf108, .inl (cf108, 8, .inl f108)), (qf137, .inl (cf137, 6, .inl g137_97)), (qf126, .inl (cf126, 1501, .inl g126_97))]) [17, 0, 16, 1, 2, 3, 4, 5, 6, 7, 8, 9, 10, 11, 12, 13, 14, 15] rfl, hfk_23_98, hfk_23_100, hfk_23_102, hfk_23_103, hfk_23_104, hfk_23_105, hfk_23_106, hfk_23_107, hfk_23_108, hfk_23_109, hfk_23_110, hfk_23_111, hfk_23_117, hfk_23_118, hfk_23_119, hfk_23_120, hfk_23_121, hch_23_122, hch_23_123, hch_23_124, hch_23_125, hfk_23_126, hfk_23_127, hfk_23_128, hfk_23_129, hfk_23_130, hfk_23_131, hfk_23_132, hfk_23_133, hfk_23_134, hfk_23_135, hfk_23_136, hfk_23_137, hln_23, hrq_23, Or.inr rfl, hsp⟩
        · rw [if_neg c_2] at hsp
          refine lv_aload_n hx hb dX13_methodFits_38 rfl (lv_at hl 1 rfl) ?_
          refine lv_iload_n hx hb dX13_methodFits_39 rfl (lv_at hl 0 rfl) ?_
          obtain ⟨u24_0, hu_24, hsp⟩ := ox_bind hsp
          try dsimp only at hsp
          have hPc := hP.sub (ws' := [(h0, .inr (13, z30)), (qf100, .inl (cf100, 48000, .inl f100))]) [0, 2] rfl
          have hDc := hD.sub (ws' := [(h0, .inr (13, z30)), (qf100, .inl (cf100, 48000, .inl f100))]) [0, 2] (by decide) rfl
          have hKc := hK.sub (tys' := [(cf100, .int)]) [1] rfl
          have hFc := va_free (wc := [(h0, .inr (13, z30)), (qf100, .inl (cf100, 48000, .inl f100))]) hD hS hA [0, 2] rfl
          refine va_calli (va_runV (As := [.int l3_30]) (rest := []) ⟨hx, hb, hml, hown, hts⟩ (tm_code l dC dI H.size h0 z30 l3_30 qf100 x132_30 x134_30 cf100 f100 nf u24_0 hlh_30 hfh_30_100 hfh_30_132 hfh_30_134 hu_24) (cwV 1 hts gv_h9_65 rfl rfl rfl (by decide +kernel) ⟨Nat.le_of_ble_eq_true rfl, Nat.le_of_ble_eq_true rfl⟩) ⟨fun a U g mk q => by obtain ⟨q0, q1, qP, qK, qD⟩ := q; exact ⟨q0, q1, qP, va_K.moved (u := U) (U := U.calling g mk a) (Vm.Alike.refl U.vm) qK, qD⟩, va_recv hKc hPc (ci := 13) (q0 := 0) rfl rfl, fun U hU hW => ⟨rfl, by rw [hU], by rw [hU]; exact hPc, va_K.moved hW.alike hKc, hDc.weaken (fun _ _ _ _ => trivial)⟩⟩ rfl rfl hl.1 rfl (lv_room (Nat.le_of_ble_eq_true rfl)) dX13_methodFits_40 ⟨Nat.le_of_ble_eq_true rfl, Nat.le_of_ble_eq_true rfl⟩) hS (fun q _ h => hFc q h) hFc ?_
          clear hS
          intro r_43 u t H1 locs ht hvm hw hB hz1 hk1 hS
          obtain ⟨z_24, rfl⟩ : ∃ z, z = u := ⟨_, rfl⟩
          obtain ⟨hP1, hK1, hD1⟩ := hB
          rw [ht] at hP1
          have hK1 := va_K.moved hvm.symm hK1
          try dsimp only at hw
          have hPD := va_join (wr := [(qf109, .inl (cf109, 96, .inl f109)), (qf110, .inl (cf110, 96, .inl f110)), (qf111, .inl (cf111, 96, .inl f111)), (qf127, .inl (cf127, 30, .inl g127_30)), (qf107, .inl (cf107, 96, .inl f107)), (qf102, .inl (cf102, 2048, .inl f102)), (qf104, .inl (cf104, 8, .inl f104)), (qf118, .inl (cf118, 2100, .inl g118_30)), (qf119, .inl (cf119, 2100, .inl g119_30)), (qf105, .inl (cf105, 8, .inl f105)), (qf128, .inl (cf128, 31, .inl g128_30)), (qf103, .inl (cf103, 8, .inl f103)), (qf106, .inl (cf106, 8, .inl f106)), (qf108, .inl (cf108, 8, .inl f108)), (qf137, .inl (cf137, 6, .inl g137_30)), (qf126, .inl (cf126, 1501, .inl g126_30))]) (w1 := [(h0, .inr (13, z_24)), (qf100, .inl (cf100, 48000, .inl f100))]) hP hD [0, 2] [1, 3, 4, 5, 6, 7, 8, 9, 10, 11, 12, 13, 14, 15, 16, 17] rfl rfl (by decide) (by decide) hk1 hFc hP1 hD1
          clear hP hD
          obtain ⟨hP, hD⟩ := hPD
          replace hK := (hK.sub (tys' := [(cf109, .int), (cf110, .int), (cf111, .int), (cf127, .int), (cf107, .int), (cf102, .int), (cf104, .int), (cf118, .int), (cf119, .int), (cf105, .int), (cf128, .int), (cf103, .int), (cf106, .int), (cf108, .int), (cf137, .int), (cf126, .boolean)]) [0, 2, 3, 4, 5, 6, 7, 8, 9, 10, 11, 12, 13, 14, 15, 16] rfl).app hK1
          clear hPc hDc hKc hFc hP1 hK1 hD1 hz1 hk1 ht hvm
          generalize H1 = H at hP hS ⊢
          replace hP : va_P (dC, dI) vwCl [(qf109, .inl (cf109, 96, .inl f109)), (qf110, .inl (cf110, 96, .inl f110)), (qf111, .inl (cf111, 96, .inl f111)), (qf127, .inl (cf127, 30, .inl g127_30)), (qf107, .inl (cf107, 96, .inl f107)), (qf102, .inl (cf102, 2048, .inl f102)), (qf104, .inl (cf104, 8, .inl f104)), (qf118, .inl (cf118, 2100, .inl g118_30)), (qf119, .inl (cf119, 2100, .inl g119_30)), (qf105, .inl (cf105, 8, .inl f105)), (qf128, .inl (cf128, 31, .inl g128_30)), (qf103, .inl (cf103, 8, .inl f103)), (qf106, .inl (cf106, 8, .inl f106)), (qf108, .inl (cf108, 8, .inl f108)), (qf137, .inl (cf137, 6, .inl g137_30)), (qf126, .inl (cf126, 1501, .inl g126_30)), (h0, .inr (13, z_24)), (qf100, .inl (cf100, 48000, .inl f100))] H := hP
          replace hD : va_D A [(qf109, .inl (cf109, 96, .inl f109)), (qf110, .inl (cf110, 96, .inl f110)), (qf111, .inl (cf111, 96, .inl f111)), (qf127, .inl (cf127, 30, .inl g127_30)), (qf107, .inl (cf107, 96, .inl f107)), (qf102, .inl (cf102, 2048, .inl f102)), (qf104, .inl (cf104, 8, .inl f104)), (qf118, .inl (cf118, 2100, .inl g118_30)), (qf119, .inl (cf119, 2100, .inl g119_30)), (qf105, .inl (cf105, 8, .inl f105)), (qf128, .inl (cf128, 31, .inl g128_30)), (qf103, .inl (cf103, 8, .inl f103)), (qf106, .inl (cf106, 8, .inl f106)), (qf108, .inl (cf108, 8, .inl f108)), (qf137, .inl (cf137, 6, .inl g137_30)), (qf126, .inl (cf126, 1501, .inl g126_30)), (h0, .inr (13, z_24)), (qf100, .inl (cf100, 48000, .inl f100))] := hD
          replace hK : va_K (dC, dI) vwCl [(cf109, .int), (cf110, .int), (cf111, .int), (cf127, .int), (cf107, .int), (cf102, .int), (cf104, .int), (cf118, .int), (cf119, .int), (cf105, .int), (cf128, .int), (cf103, .int), (cf106, .int), (cf108, .int), (cf137, .int), (cf126, .boolean), (cf100, .int)] s := hK
          obtain ⟨hwa_24, hln_24, hre_24⟩ := hw
          have hfk_24_98 : z_24[98]? = some (.int v98) := (hre_24 98 ).trans (hfh_30_98)
          have hfk_24_100 : z_24[100]? = some (.ref qf100) := (hre_24 100 ).trans (hfh_30_100)
          have hfk_24_102 : z_24[102]? = some (.ref qf102) := (hre_24 102 ).trans (hfh_30_102)
          have hfk_24_103 : z_24[103]? = some (.ref qf103) := (hre_24 103 ).trans (hfh_30_103)
          have hfk_24_104 : z_24[104]? = some (.ref qf104) := (hre_24 104 ).trans (hfh_30_104)
          have hfk_24_105 : z_24[105]? = some (.ref qf105) := (hre_24 105 ).trans (hfh_30_105)
          have hfk_24_106 : z_24[106]? = some (.ref qf106) := (hre_24 106 ).trans (hfh_30_106)
          have hfk_24_107 : z_24[107]? = some (.ref qf107) := (hre_24 107 ).trans (hfh_30_107)
          have hfk_24_108 : z_24[108]? = some (.ref qf108) := (hre_24 108 ).trans (hfh_30_108)
          have hfk_24_109 : z_24[109]? = some (.ref qf109) := (hre_24 109 ).trans (hfh_30_109)
          have hfk_24_110 : z_24[110]? = some (.ref qf110) := (hre_24 110 ).trans (hfh_30_110)
          have hfk_24_111 : z_24[111]? = some (.ref qf111) := (hre_24 111 ).trans (hfh_30_111)
          have hfk_24_117 : z_24[117]? = some (.int x117_30) := (hre_24 117 ).trans (hfh_30_117)
          have hfk_24_118 : z_24[118]? = some (.ref qf118) := (hre_24 118 ).trans (hfh_30_118)
          have hfk_24_119 : z_24[119]? = some (.ref qf119) := (hre_24 119 ).trans (hfh_30_119)
          have hfk_24_120 : z_24[120]? = some (.int x120_30) := (hre_24 120 ).trans (hfh_30_120)
          have hfk_24_121 : z_24[121]? = some (.int x121_30) := (hre_24 121 ).trans (hfh_30_121)
          have hfk_24_122 : z_24[122]? = some (.int x122_30) := (hre_24 122 ).trans (hfh_30_122)
          have hfk_24_123 : z_24[123]? = some (.int x123_30) := (hre_24 123 ).trans (hfh_30_123)
          have hfk_24_124 : z_24[124]? = some (.int x124_30) := (hre_24 124 ).trans (hfh_30_124)
          have hfk_24_125 : z_24[125]? = some (.int x125_30) := (hre_24 125 ).trans (hfh_30_125)
          have hfk_24_126 : z_24[126]? = some (.ref qf126) := (hre_24 126 ).trans (hfh_30_126)
          have hfk_24_127 : z_24[127]? = some (.ref qf127) := (hre_24 127 ).trans (hfh_30_127)
          have hfk_24_128 : z_24[128]? = some (.ref qf128) := (hre_24 128 ).trans (hfh_30_128)
          have hfk_24_129 : z_24[129]? = some (.int x129_30) := (hre_24 129 ).trans (hfh_30_129)
          have hfk_24_130 : z_24[130]? = some (.int x130_30) := (hre_24 130 ).trans (hfh_30_130)
          have hfk_24_131 : z_24[131]? = some (.int x131_30) := (hre_24 131 ).trans (hfh_30_131)
          have hfk_24_132 : z_24[132]? = some (.int x132_30) := (hre_24 132 ).trans (hfh_30_132)
          have hfk_24_133 : z_24[133]? = some (.int x133_30) := (hre_24 133 ).trans (hfh_30_133)
          have hfk_24_134 : z_24[134]? = some (.int x134_30) := (hre_24 134 ).trans (hfh_30_134)
          have hfk_24_135 : z_24[135]? = some (.int x135_30) := (hre_24 135 ).trans (hfh_30_135)
          have hfk_24_136 : z_24[136]? = some (.int x136_30) := (hre_24 136 ).trans (hfh_30_136)
          have hfk_24_137 : z_24[137]? = some (.ref qf137) := (hre_24 137 ).trans (hfh_30_137)
          have hrq_24 : ∀ j : Nat, j ≠ 117 → j ≠ 120 → j ≠ 121 → j ≠ 122 → j ≠ 123 → j ≠ 124 → j ≠ 125 → j ≠ 129 → j ≠ 130 → j ≠ 131 → j ≠ 132 → j ≠ 133 → j ≠ 134 → j ≠ 135 → j ≠ 136 → z_24[j]? = zs[j]? := fun j g117 g120 g121 g122 g123 g124 g125 g129 g130 g131 g132 g133 g134 g135 g136 => (hre_24 j ).trans (hrh_30 j g117 g120 g121 g122 g123 g124 g125 g129 g130 g131 g132 g133 g134 g135 g136)
          obtain rfl := hwa_24
          obtain ⟨u25_0, hu_25, hsp⟩ := ox_bind hsp
          try dsimp only at hsp
          have hPc := hP.sub (ws' := []) [] rfl
          have hDc := hD.sub (ws' := []) [] (by decide) rfl
          have hKc := hK.sub (tys' := []) [] rfl
          have hFc := va_free (wc := []) hD hS hA [] rfl
          refine va_calli (va_runS (As := [.int u24_0]) (rest := []) ⟨hx, hb, hml, hown, hts⟩ (tm_widthOf l dC dI H.size u24_0 nf u25_0 hu_25) (va_cwS 1 hts gv_h9_66 rfl rfl rfl (by decide +kernel) ⟨Nat.le_of_ble_eq_true rfl, Nat.le_of_ble_eq_true rfl⟩) ⟨fun a U g mk q => by obtain ⟨q0, q1, qP, qK, qD⟩ := q; exact ⟨q0, q1, qP, va_K.moved (u := U) (U := U.calling g mk a) (Vm.Alike.refl U.vm) qK, qD⟩, fun U hU hW => ⟨rfl, by rw [hU], by rw [hU]; exact hPc, va_K.moved hW.alike hKc, hDc.weaken (fun _ _ _ _ => trivial)⟩⟩ rfl rfl hl.1 rfl (lv_room (Nat.le_of_ble_eq_true rfl)) dX13_methodFits_43 ⟨Nat.le_of_ble_eq_true rfl, Nat.le_of_ble_eq_true rfl⟩) hS (fun q _ h => hFc q h) hFc ?_
          clear hS
          intro r_44 u t H1 locs ht hvm hw hB hz1 hk1 hS
          obtain ⟨⟩ := u
          obtain ⟨hP1, hK1, hD1⟩ := hB
          rw [ht] at hP1
          have hK1 := va_K.moved hvm.symm hK1
          try dsimp only at hw
          have hPD := va_join (wr := [(qf109, .inl (cf109, 96, .inl f109)), (qf110, .inl (cf110, 96, .inl f110)), (qf111, .inl (cf111, 96, .inl f111)), (qf127, .inl (cf127, 30, .inl g127_30)), (qf107, .inl (cf107, 96, .inl f107)), (qf102, .inl (cf102, 2048, .inl f102)), (qf104, .inl (cf104, 8, .inl f104)), (qf118, .inl (cf118, 2100, .inl g118_30)), (qf119, .inl (cf119, 2100, .inl g119_30)), (qf105, .inl (cf105, 8, .inl f105)), (qf128, .inl (cf128, 31, .inl g128_30)), (qf103, .inl (cf103, 8, .inl f103)), (qf106, .inl (cf106, 8, .inl f106)), (qf108, .inl (cf108, 8, .inl f108)), (qf137, .inl (cf137, 6, .inl g137_30)), (qf126, .inl (cf126, 1501, .inl g126_30)), (h0, .inr (13, z_24)), (qf100, .inl (cf100, 48000, .inl f100))]) (w1 := []) hP hD [] [0, 1, 2, 3, 4, 5, 6, 7, 8, 9, 10, 11, 12, 13, 14, 15, 16, 17] rfl rfl (by decide) (by decide) hk1 hFc hP1 hD1
          clear hP hD
          obtain ⟨hP, hD⟩ := hPD
          replace hK := (hK.sub (tys' := [(cf109, .int), (cf110, .int), (cf111, .int), (cf127, .int), (cf107, .int), (cf102, .int), (cf104, .int), (cf118, .int), (cf119, .int), (cf105, .int), (cf128, .int), (cf103, .int), (cf106, .int), (cf108, .int), (cf137, .int), (cf126, .boolean), (cf100, .int)]) [0, 1, 2, 3, 4, 5, 6, 7, 8, 9, 10, 11, 12, 13, 14, 15, 16] rfl).app hK1
          clear hPc hDc hKc hFc hP1 hK1 hD1 hz1 hk1 ht hvm
          generalize H1 = H at hP hS ⊢
          replace hP : va_P (dC, dI) vwCl [(qf109, .inl (cf109, 96, .inl f109)), (qf110, .inl (cf110, 96, .inl f110)), (qf111, .inl (cf111, 96, .inl f111)), (qf127, .inl (cf127, 30, .inl g127_30)), (qf107, .inl (cf107, 96, .inl f107)), (qf102, .inl (cf102, 2048, .inl f102)), (qf104, .inl (cf104, 8, .inl f104)), (qf118, .inl (cf118, 2100, .inl g118_30)), (qf119, .inl (cf119, 2100, .inl g119_30)), (qf105, .inl (cf105, 8, .inl f105)), (qf128, .inl (cf128, 31, .inl g128_30)), (qf103, .inl (cf103, 8, .inl f103)), (qf106, .inl (cf106, 8, .inl f106)), (qf108, .inl (cf108, 8, .inl f108)), (qf137, .inl (cf137, 6, .inl g137_30)), (qf126, .inl (cf126, 1501, .inl g126_30)), (h0, .inr (13, z_24)), (qf100, .inl (cf100, 48000, .inl f100))] H := hP
          replace hD : va_D A [(qf109, .inl (cf109, 96, .inl f109)), (qf110, .inl (cf110, 96, .inl f110)), (qf111, .inl (cf111, 96, .inl f111)), (qf127, .inl (cf127, 30, .inl g127_30)), (qf107, .inl (cf107, 96, .inl f107)), (qf102, .inl (cf102, 2048, .inl f102)), (qf104, .inl (cf104, 8, .inl f104)), (qf118, .inl (cf118, 2100, .inl g118_30)), (qf119, .inl (cf119, 2100, .inl g119_30)), (qf105, .inl (cf105, 8, .inl f105)), (qf128, .inl (cf128, 31, .inl g128_30)), (qf103, .inl (cf103, 8, .inl f103)), (qf106, .inl (cf106, 8, .inl f106)), (qf108, .inl (cf108, 8, .inl f108)), (qf137, .inl (cf137, 6, .inl g137_30)), (qf126, .inl (cf126, 1501, .inl g126_30)), (h0, .inr (13, z_24)), (qf100, .inl (cf100, 48000, .inl f100))] := hD
          replace hK : va_K (dC, dI) vwCl [(cf109, .int), (cf110, .int), (cf111, .int), (cf127, .int), (cf107, .int), (cf102, .int), (cf104, .int), (cf118, .int), (cf119, .int), (cf105, .int), (cf128, .int), (cf103, .int), (cf106, .int), (cf108, .int), (cf137, .int), (cf126, .boolean), (cf100, .int)] s := hK
          obtain rfl := hw
          refine lv_istore (lv' := [(4, .int u25_0), (3, .int l3_30), (0, .ref h0), (1, .int l1_30), (2, .int l2_30)]) hx hb dX13_methodFits_46 hl (by decide) rfl (fun ls hl => ?_)
          refine lv_iload hx hb dX13_methodFits_48 (lv_at hl 0 rfl) ?_
          refine lv_if_eq (tgt := 64) hx hb dX13_methodFits_50 (by decide) (fun c_45 => ?_) (fun c_45 => ?_)
          · rw [if_pos c_45] at hsp
            refine lv_aload_n hx hb dX13_methodFits_64 rfl (lv_at hl 2 rfl) ?_
            refine lv_bipush (v := 6) hx hb dX13_methodFits_65 (by decide) ?_
            refine lv_iload_n hx hb dX13_methodFits_67 rfl (lv_at hl 3 rfl) ?_
            refine lv_iload_n hx hb dX13_methodFits_68 rfl (lv_at hl 4 rfl) ?_
            refine lv_iload_n hx hb dX13_methodFits_69 rfl (lv_at hl 1 rfl) ?_
            obtain ⟨⟨u26_0, u26_1, u26_2, u26_3, u26_4⟩, hu_26, hsp⟩ := ox_bind hsp
            try dsimp only at hsp
            have hPc := hP.sub (ws' := [(h0, .inr (13, z_24))]) [16] rfl
            have hDc := hD.sub (ws' := [(h0, .inr (13, z_24))]) [16] (by decide) rfl
            have hKc := hK.sub (tys' := []) [] rfl
            have hFc := va_free (wc := [(h0, .inr (13, z_24))]) hD hS hA [16] rfl
            refine va_calli (va_runV (As := [.int 6, .int l1_30, .int l2_30, .int l3_30]) (rest := []) ⟨hx, hb, hml, hown, hts⟩ (tm_bad l dC dI H.size h0 z_24 6 l1_30 l2_30 l3_30 x122_30 x123_30 x124_30 x125_30 nf u26_0 u26_1 u26_2 u26_3 u26_4 hln_24 hfk_24_122 hfk_24_123 hfk_24_124 hfk_24_125 hu_26) (cwV 4 hts gv_h9_63 rfl rfl rfl (by decide +kernel) ⟨Nat.le_of_ble_eq_true rfl, Nat.le_of_ble_eq_true rfl⟩) ⟨fun a U g mk q => by obtain ⟨q0, q1, qP, qK, qD⟩ := q; exact ⟨q0, q1, qP, va_K.moved (u := U) (U := U.calling g mk a) (Vm.Alike.refl U.vm) qK, qD⟩, va_recv hKc hPc (ci := 13) (q0 := 0) rfl rfl, fun U hU hW => ⟨rfl, by rw [hU], by rw [hU]; exact hPc, va_K.moved hW.alike hKc, hDc.weaken (fun _ _ _ _ => trivial)⟩⟩ rfl rfl hl.1 rfl (lv_room (Nat.le_of_ble_eq_true rfl)) dX13_methodFits_70 ⟨Nat.le_of_ble_eq_true rfl, Nat.le_of_ble_eq_true rfl⟩) hS (fun q _ h => hFc q h) hFc ?_
            clear hS
            intro r_46 u t H1 locs ht hvm hw hB hz1 hk1 hS
            obtain ⟨z_26, rfl⟩ : ∃ z, z = u := ⟨_, rfl⟩
            obtain ⟨hP1, hK1, hD1⟩ := hB
            rw [ht] at hP1
            have hK1 := va_K.moved hvm.symm hK1
            try dsimp only at hw
            have hPD := va_join (wr := [(qf109, .inl (cf109, 96, .inl f109)), (qf110, .inl (cf110, 96, .inl f110)), (qf111, .inl (cf111, 96, .inl f111)), (qf127, .inl (cf127, 30, .inl g127_30)), (qf107, .inl (cf107, 96, .inl f107)), (qf102, .inl (cf102, 2048, .inl f102)), (qf104, .inl (cf104, 8, .inl f104)), (qf118, .inl (cf118, 2100, .inl g118_30)), (qf119, .inl (cf119, 2100, .inl g119_30)), (qf105, .inl (cf105, 8, .inl f105)), (qf128, .inl (cf128, 31, .inl g128_30)), (qf103, .inl (cf103, 8, .inl f103)), (qf106, .inl (cf106, 8, .inl f106)), (qf108, .inl (cf108, 8, .inl f108)), (qf137, .inl (cf137, 6, .inl g137_30)), (qf126, .inl (cf126, 1501, .inl g126_30)), (qf100, .inl (cf100, 48000, .inl f100))]) (w1 := [(h0, .inr (13, z_26))]) hP hD [16] [0, 1, 2, 3, 4, 5, 6, 7, 8, 9, 10, 11, 12, 13, 14, 15, 17] rfl rfl (by decide) (by decide) hk1 hFc hP1 hD1
            clear hP hD
            obtain ⟨hP, hD⟩ := hPD
            replace hK := (hK.sub (tys' := [(cf109, .int), (cf110, .int), (cf111, .int), (cf127, .int), (cf107, .int), (cf102, .int), (cf104, .int), (cf118, .int), (cf119, .int), (cf105, .int), (cf128, .int), (cf103, .int), (cf106, .int), (cf108, .int), (cf137, .int), (cf126, .boolean), (cf100, .int)]) [0, 1, 2, 3, 4, 5, 6, 7, 8, 9, 10, 11, 12, 13, 14, 15, 16] rfl).app hK1
            clear hPc hDc hKc hFc hP1 hK1 hD1 hz1 hk1 ht hvm
            generalize H1 = H at hP hS ⊢
            replace hP : va_P (dC, dI) vwCl [(qf109, .inl (cf109, 96, .inl f109)), (qf110, .inl (cf110, 96, .inl f110)), (qf111, .inl (cf111, 96, .inl f111)), (qf127, .inl (cf127, 30, .inl g127_30)), (qf107, .inl (cf107, 96, .inl f107)), (qf102, .inl (cf102, 2048, .inl f102)), (qf104, .inl (cf104, 8, .inl f104)), (qf118, .inl (cf118, 2100, .inl g118_30)), (qf119, .inl (cf119, 2100, .inl g119_30)), (qf105, .inl (cf105, 8, .inl f105)), (qf128, .inl (cf128, 31, .inl g128_30)), (qf103, .inl (cf103, 8, .inl f103)), (qf106, .inl (cf106, 8, .inl f106)), (qf108, .inl (cf108, 8, .inl f108)), (qf137, .inl (cf137, 6, .inl g137_30)), (qf126, .inl (cf126, 1501, .inl g126_30)), (qf100, .inl (cf100, 48000, .inl f100)), (h0, .inr (13, z_26))] H := hP
            replace hD : va_D A [(qf109, .inl (cf109, 96, .inl f109)), (qf110, .inl (cf110, 96, .inl f110)), (qf111, .inl (cf111, 96, .inl f111)), (qf127, .inl (cf127, 30, .inl g127_30)), (qf107, .inl (cf107, 96, .inl f107)), (qf102, .inl (cf102, 2048, .inl f102)), (qf104, .inl (cf104, 8, .inl f104)), (qf118, .inl (cf118, 2100, .inl g118_30)), (qf119, .inl (cf119, 2100, .inl g119_30)), (qf105, .inl (cf105, 8, .inl f105)), (qf128, .inl (cf128, 31, .inl g128_30)), (qf103, .inl (cf103, 8, .inl f103)), (qf106, .inl (cf106, 8, .inl f106)), (qf108, .inl (cf108, 8, .inl f108)), (qf137, .inl (cf137, 6, .inl g137_30)), (qf126, .inl (cf126, 1501, .inl g126_30)), (qf100, .inl (cf100, 48000, .inl f100)), (h0, .inr (13, z_26))] := hD
            replace hK : va_K (dC, dI) vwCl [(cf109, .int), (cf110, .int), (cf111, .int), (cf127, .int), (cf107, .int), (cf102, .int), (cf104, .int), (cf118, .int), (cf119, .int), (cf105, .int), (cf128, .int), (cf103, .int), (cf106, .int), (cf108, .int), (cf137, .int), (cf126, .boolean), (cf100, .int)] s := hK
            obtain ⟨hwa_26, hln_26, hre_26, hch_26_122, hch_26_123, hch_26_124, hch_26_125⟩ := hw
            have hfk_26_98 : z_26[98]? = some (.int v98) := (hre_26 98 (by decide) (by decide) (by decide) (by decide)).trans (hfk_24_98)
            have hfk_26_100 : z_26[100]? = some (.ref qf100) := (hre_26 100 (by decide) (by decide) (by decide) (by decide)).trans (hfk_24_100)
            have hfk_26_102 : z_26[102]? = some (.ref qf102) := (hre_26 102 (by decide) (by decide) (by decide) (by decide)).trans (hfk_24_102)
            have hfk_26_103 : z_26[103]? = some (.ref qf103) := (hre_26 103 (by decide) (by decide) (by decide) (by decide)).trans (hfk_24_103)
            have hfk_26_104 : z_26[104]? = some (.ref qf104) := (hre_26 104 (by decide) (by decide) (by decide) (by decide)).trans (hfk_24_104)
            have hfk_26_105 : z_26[105]? = some (.ref qf105) := (hre_26 105 (by decide) (by decide) (by decide) (by decide)).trans (hfk_24_105)
            have hfk_26_106 : z_26[106]? = some (.ref qf106) := (hre_26 106 (by decide) (by decide) (by decide) (by decide)).trans (hfk_24_106)
            have hfk_26_107 : z_26[107]? = some (.ref qf107) := (hre_26 107 (by decide) (by decide) (by decide) (by decide)).trans (hfk_24_107)
            have hfk_26_108 : z_26[108]? = some (.ref qf108) := (hre_26 108 (by decide) (by decide) (by decide) (by decide)).trans (hfk_24_108)
            have hfk_26_109 : z_26[109]? = some (.ref qf109) := (hre_26 109 (by decide) (by decide) (by decide) (by decide)).trans (hfk_24_109)
            have hfk_26_110 : z_26[110]? = some (.ref qf110) := (hre_26 110 (by decide) (by decide) (by decide) (by decide)).trans (hfk_24_110)
            have hfk_26_111 : z_26[111]? = some (.ref qf111) := (hre_26 111 (by decide) (by decide) (by decide) (by decide)).trans (hfk_24_111)
            have hfk_26_117 : z_26[117]? = some (.int x117_30) := (hre_26 117 (by decide) (by decide) (by decide) (by decide)).trans (hfk_24_117)
            have hfk_26_118 : z_26[118]? = some (.ref qf118) := (hre_26 118 (by decide) (by decide) (by decide) (by decide)).trans (hfk_24_118)
            have hfk_26_119 : z_26[119]? = some (.ref qf119) := (hre_26 119 (by decide) (by decide) (by decide) (by decide)).trans (hfk_24_119)
            have hfk_26_120 : z_26[120]? = some (.int x120_30) := (hre_26 120 (by decide) (by decide) (by decide) (by decide)).trans (hfk_24_120)
            have hfk_26_121 : z_26[121]? = some (.int x121_30) := (hre_26 121 (by decide) (by decide) (by decide) (by decide)).trans (hfk_24_121)
            have hfk_26_126 : z_26[126]? = some (.ref qf126) := (hre_26 126 (by decide) (by decide) (by decide) (by decide)).trans (hfk_24_126)
            have hfk_26_127 : z_26[127]? = some (.ref qf127) := (hre_26 127 (by decide) (by decide) (by decide) (by decide)).trans (hfk_24_127)
            have hfk_26_128 : z_26[128]? = some (.ref qf128) := (hre_26 128 (by decide) (by decide) (by decide) (by decide)).trans (hfk_24_128)
            have hfk_26_129 : z_26[129]? = some (.int x129_30) := (hre_26 129 (by decide) (by decide) (by decide) (by decide)).trans (hfk_24_129)
            have hfk_26_130 : z_26[130]? = some (.int x130_30) := (hre_26 130 (by decide) (by decide) (by decide) (by decide)).trans (hfk_24_130)
            have hfk_26_131 : z_26[131]? = some (.int x131_30) := (hre_26 131 (by decide) (by decide) (by decide) (by decide)).trans (hfk_24_131)
            have hfk_26_132 : z_26[132]? = some (.int x132_30) := (hre_26 132 (by decide) (by decide) (by decide) (by decide)).trans (hfk_24_132)
            have hfk_26_133 : z_26[133]? = some (.int x133_30) := (hre_26 133 (by decide) (by decide) (by decide) (by decide)).trans (hfk_24_133)
            have hfk_26_134 : z_26[134]? = some (.int x134_30) := (hre_26 134 (by decide) (by decide) (by decide) (by decide)).trans (hfk_24_134)
            have hfk_26_135 : z_26[135]? = some (.int x135_30) := (hre_26 135 (by decide) (by decide) (by decide) (by decide)).trans (hfk_24_135)
            have hfk_26_136 : z_26[136]? = some (.int x136_30) := (hre_26 136 (by decide) (by decide) (by decide) (by decide)).trans (hfk_24_136)
            have hfk_26_137 : z_26[137]? = some (.ref qf137) := (hre_26 137 (by decide) (by decide) (by decide) (by decide)).trans (hfk_24_137)
            have hrq_26 : ∀ j : Nat, j ≠ 117 → j ≠ 120 → j ≠ 121 → j ≠ 122 → j ≠ 123 → j ≠ 124 → j ≠ 125 → j ≠ 129 → j ≠ 130 → j ≠ 131 → j ≠ 132 → j ≠ 133 → j ≠ 134 → j ≠ 135 → j ≠ 136 → z_26[j]? = zs[j]? := fun j g117 g120 g121 g122 g123 g124 g125 g129 g130 g131 g132 g133 g134 g135 g136 => (hre_26 j g122 g123 g124 g125).trans (hrq_24 j g117 g120 g121 g122 g123 g124 g125 g129 g130 g131 g132 g133 g134 g135 g136)
            obtain ⟨rfl, hz_26⟩ := hwa_26
            rcases hz_26 with rfl | rfl
            · rw [if_pos rfl] at hsp
              exact hret_73 (H, locs, ls, z_26, 0, g118_30, g119_30, g126_30, g127_30, g128_30, g137_30, x117_30, x120_30, x121_30, u26_1, u26_2, u26_3, u26_4, x129_30, x130_30, x131_30, x132_30, x133_30, x134_30, x135_30, x136_30) ⟨hS, hD.sub (ws' := [(h0, .inr (13, z_26)), (qf109, .inl (cf109, 96, .inl f109)), (qf100, .inl (cf100, 48000, .inl f100)), (qf110, .inl (cf110, 96, .inl f110)), (qf111, .inl (cf111, 96, .inl f111)), (qf127, .inl (cf127, 30, .inl g127_30)), (qf107, .inl (cf107, 96, .inl f107)), (qf102, .inl (cf102, 2048, .inl f102)), (qf104, .inl (cf104, 8, .inl f104)), (qf118, .inl (cf118, 2100, .inl g118_30)), (qf119, .inl (cf119, 2100, .inl g119_30)), (qf105, .inl (cf105, 8, .inl f105)), (qf128, .inl (cf128, 31, .inl g128_30)), (qf103, .inl (cf103, 8, .inl f103)), (qf106, .inl (cf106, 8, .inl f106)), (qf108, .inl (cf108, 8, .inl f108)), (qf137, .inl (cf137, 6, .inl g137_30)), (qf126, .inl (cf126, 1501, .inl g126_30))]) [17, 0, 16, 1, 2, 3, 4, 5, 6, 7, 8, 9, 10, 11, 12, 13, 14, 15] (by decide) rfl, hP.sub (ws' := [(h0, .inr (13, z_26)), (qf109, .inl (cf109, 96, .inl f109)), (qf100, .inl (cf100, 48000, .inl f100)), (qf110, .inl (cf110, 96, .inl f110)), (qf111, .inl (cf111, 96, .inl f111)), (qf127, .inl (cf127, 30, .inl g127_30)), (qf107, .inl (cf107, 96, .inl f107)), (qf102, .inl (cf102, 2048, .inl f102)), (qf104, .inl (cf104, 8, .inl f104)), (qf118, .inl (cf118, 2100, .inl g118_30)), (qf119, .inl (cf119, 2100, .inl g119_30)), (qf105, .inl (cf105, 8, .inl f105)), (qf128, .inl (cf128, 31, .inl g128_30)), (qf103, .inl (cf103, 8, .inl f103)), (qf106, .inl (cf106, 8, .inl f106)), (qf108, .inl (cf108, 8, .inl f108)), (qf137, .inl (cf137, 6, .inl g137_30)), (qf126, .inl (cf126, 1501, .inl g126_30))]) [17, 0, 16, 1, 2, 3, 4, 5, 6, 7, 8, 9, 10, 11, 12, 13, 14, 15] rfl, hfk_26_98, hfk_26_100, hfk_26_102, hfk_26_103, hfk_26_104, hfk_26_105, hfk_26_106, hfk_26_107, hfk_26_108, hfk_26_109, hfk_26_110, hfk_26_111, hfk_26_117, hfk_26_118, hfk_26_119, hfk_26_120, hfk_26_121, hch_26_122, hch_26_123, hch_26_124, hch_26_125, hfk_26_126, hfk_26_127, hfk_26_128, hfk_26_129, hfk_26_130, hfk_26_131, hfk_26_132, hfk_26_133, hfk_26_134, hfk_26_135, hfk_26_136, hfk_26_137, hln_26, hrq_26, Or.inl rfl, hsp⟩
            · rw [if_neg (by decide)] at hsp
              exact hret_73 (H, locs, ls, z_26, 1, g118_30, g119_30, g126_30, g127_30, g128_30, g137_30, x117_30, x120_30, x121_30, u26_1, u26_2, u26_3, u26_4, x129_30, x130_30, x131_30, x132_30, x133_30, x134_30, x135_30, x136_30) ⟨hS, hD.sub (ws' := [(h0, .inr (13, z_26)), (qf109, .inl (cf109, 96, .inl f109)), (qf100, .inl (cf100, 48000, .inl f100)), (qf110, .inl (cf110, 96, .inl f110)), (qf111, .inl (cf111, 96, .inl f111)), (qf127, .inl (cf127, 30, .inl g127_30)), (qf107, .inl (cf107, 96, .inl f107)), (qf102, .inl (cf102, 2048, .inl f102)), (qf104, .inl (cf104, 8, .inl f104)), (qf118, .inl (cf118, 2100, .inl g118_30)), (qf119, .inl (cf119, 2100, .inl g119_30)), (qf105, .inl (cf105, 8, .inl f105)), (qf128, .inl (cf128, 31, .inl g128_30)), (qf103, .inl (cf103, 8, .inl f103)), (qf106, .inl (cf106, 8, .inl f106)), (qf108, .inl (cf108, 8, .inl f108)), (qf137, .inl (cf137, 6, .inl g137_30)), (qf126, .inl (cf126, 1501, .inl g126_30))]) [17, 0, 16, 1, 2, 3, 4, 5, 6, 7, 8, 9, 10, 11, 12, 13, 14, 15] (by decide) rfl, hP.sub (ws' := [(h0, .inr (13, z_26)), (qf109, .inl (cf109, 96, .inl f109)), (qf100, .inl (cf100, 48000, .inl f100)), (qf110, .inl (cf110, 96, .inl f110)), (qf111, .inl (cf111, 96, .inl f111)), (qf127, .inl (cf127, 30, .inl g127_30)), (qf107, .inl (cf107, 96, .inl f107)), (qf102, .inl (cf102, 2048, .inl f102)), (qf104, .inl (cf104, 8, .inl f104)), (qf118, .inl (cf118, 2100, .inl g118_30)), (qf119, .inl (cf119, 2100, .inl g119_30)), (qf105, .inl (cf105, 8, .inl f105)), (qf128, .inl (cf128, 31, .inl g128_30)), (qf103, .inl (cf103, 8, .inl f103)), (qf106, .inl (cf106, 8, .inl f106)), (qf108, .inl (cf108, 8, .inl f108)), (qf137, .inl (cf137, 6, .inl g137_30)), (qf126, .inl (cf126, 1501, .inl g126_30))]) [17, 0, 16, 1, 2, 3, 4, 5, 6, 7, 8, 9, 10, 11, 12, 13, 14, 15] rfl, hfk_26_98, hfk_26_100, hfk_26_102, hfk_26_103, hfk_26_104, hfk_26_105, hfk_26_106, hfk_26_107, hfk_26_108, hfk_26_109, hfk_26_110, hfk_26_111, hfk_26_117, hfk_26_118, hfk_26_119, hfk_26_120, hfk_26_121, hch_26_122, hch_26_123, hch_26_124, hch_26_125, hfk_26_126, hfk_26_127, hfk_26_128, hfk_26_129, hfk_26_130, hfk_26_131, hfk_26_132, hfk_26_133, hfk_26_134, hfk_26_135, hfk_26_136, hfk_26_137, hln_26, hrq_26, Or.inr rfl, hsp⟩
          · rw [if_neg c_45] at hsp
            refine lv_iload_n hx hb dX13_methodFits_53 rfl (lv_at hl 1 rfl) ?_
            refine lv_iload hx hb dX13_methodFits_54 (lv_at hl 0 rfl) ?_
            refine lv_iadd hx hb dX13_methodFits_56 ?_
            refine lv_aload_n hx hb dX13_methodFits_57 rfl (lv_at hl 2 rfl) ?_
            refine va_get (D := (dC, dI)) (ci := 13) (v := .int x135_30) (C := RX13) (T := TX13) (N := 155) hx hb hts uV_h9_X13 hown hK hP 16 rfl rfl 135 (by decide) (hts (.fieldLink RX13 970 "ClassMillModel" "codeSize" "I") mw_h9_546) (fun _ h9 => h9) hfk_24_135 dX13_methodFits_58 ?_
            refine lv_icmp_le (tgt := 74) hx hb dX13_methodFits_61 (by decide) (fun c_47 => ?_) (fun c_47 => ?_)
            · rw [if_pos c_47] at hsp
              refine lv_aload_n hx hb dX13_methodFits_74 rfl (lv_at hl 2 rfl) ?_
              refine va_get (D := (dC, dI)) (ci := 13) (v := .ref qf126) (C := RX13) (T := TX13) (N := 155) hx hb hts uV_h9_X13 hown hK hP 16 rfl rfl 126 (by decide) (hts (.fieldLink RX13 267 "ClassMillModel" "begins" "[Z") mw_h9_547) (fun _ h9 => h9) hfk_24_126 dX13_methodFits_75 ?_
              refine lv_iload_n hx hb dX13_methodFits_78 rfl (lv_at hl 1 rfl) ?_
              refine lv_iconst (v := 1) hx hb dX13_methodFits_79 (by decide) ?_
              obtain ⟨hi_48, hsp⟩ := ox_in hsp
              refine va_zast hx hb hK hP hD hS 15 15 rfl rfl (i := l3_30) (x := 1) hi_48 dX13_methodFits_80 ?_
              clear hP hD hS
              intro H locs hP hD hS
              replace hP : va_P (dC, dI) vwCl [(qf109, .inl (cf109, 96, .inl f109)), (qf110, .inl (cf110, 96, .inl f110)), (qf111, .inl (cf111, 96, .inl f111)), (qf127, .inl (cf127, 30, .inl g127_30)), (qf107, .inl (cf107, 96, .inl f107)), (qf102, .inl (cf102, 2048, .inl f102)), (qf104, .inl (cf104, 8, .inl f104)), (qf118, .inl (cf118, 2100, .inl g118_30)), (qf119, .inl (cf119, 2100, .inl g119_30)), (qf105, .inl (cf105, 8, .inl f105)), (qf128, .inl (cf128, 31, .inl g128_30)), (qf103, .inl (cf103, 8, .inl f103)), (qf106, .inl (cf106, 8, .inl f106)), (qf108, .inl (cf108, 8, .inl f108)), (qf137, .inl (cf137, 6, .inl g137_30)), (qf126, .inl (cf126, 1501, .inl (upd g126_30 (l3_30 : Int32).toNatClampNeg (vp_nar .boolean 1)))), (h0, .inr (13, z_24)), (qf100, .inl (cf100, 48000, .inl f100))] H := hP
              replace hD : va_D A [(qf109, .inl (cf109, 96, .inl f109)), (qf110, .inl (cf110, 96, .inl f110)), (qf111, .inl (cf111, 96, .inl f111)), (qf127, .inl (cf127, 30, .inl g127_30)), (qf107, .inl (cf107, 96, .inl f107)), (qf102, .inl (cf102, 2048, .inl f102)), (qf104, .inl (cf104, 8, .inl f104)), (qf118, .inl (cf118, 2100, .inl g118_30)), (qf119, .inl (cf119, 2100, .inl g119_30)), (qf105, .inl (cf105, 8, .inl f105)), (qf128, .inl (cf128, 31, .inl g128_30)), (qf103, .inl (cf103, 8, .inl f103)), (qf106, .inl (cf106, 8, .inl f106)), (qf108, .inl (cf108, 8, .inl f108)), (qf137, .inl (cf137, 6, .inl g137_30)), (qf126, .inl (cf126, 1501, .inl (upd g126_30 (l3_30 : Int32).toNatClampNeg (vp_nar .boolean 1)))), (h0, .inr (13, z_24)), (qf100, .inl (cf100, 48000, .inl f100))] := hD
              refine lv_iload_n hx hb dX13_methodFits_81 rfl (lv_at hl 1 rfl) ?_
              refine lv_aload_n hx hb dX13_methodFits_82 rfl (lv_at hl 2 rfl) ?_
              refine lv_iload_n hx hb dX13_methodFits_83 rfl (lv_at hl 1 rfl) ?_
              obtain ⟨u27_0, hu_27, hsp⟩ := ox_bind hsp
              try dsimp only at hsp
              have hPc := hP.sub (ws' := [(h0, .inr (13, z_24)), (qf100, .inl (cf100, 48000, .inl f100))]) [16, 17] rfl
              have hDc := hD.sub (ws' := [(h0, .inr (13, z_24)), (qf100, .inl (cf100, 48000, .inl f100))]) [16, 17] (by decide) rfl
              have hKc := hK.sub (tys' := [(cf100, .int)]) [16] rfl
              have hFc := va_free (wc := [(h0, .inr (13, z_24)), (qf100, .inl (cf100, 48000, .inl f100))]) hD hS hA [16, 17] rfl
              refine va_calli (va_runV (As := [.int l3_30]) (rest := [.int l3_30]) ⟨hx, hb, hml, hown, hts⟩ (tm_code l dC dI H.size h0 z_24 l3_30 qf100 x132_30 x134_30 cf100 f100 nf u27_0 hln_24 hfk_24_100 hfk_24_132 hfk_24_134 hu_27) (cwV 1 hts gv_h9_65 rfl rfl rfl (by decide +kernel) ⟨Nat.le_of_ble_eq_true rfl, Nat.le_of_ble_eq_true rfl⟩) ⟨fun a U g mk q => by obtain ⟨q0, q1, qP, qK, qD⟩ := q; exact ⟨q0, q1, qP, va_K.moved (u := U) (U := U.calling g mk a) (Vm.Alike.refl U.vm) qK, qD⟩, va_recv hKc hPc (ci := 13) (q0 := 0) rfl rfl, fun U hU hW => ⟨rfl, by rw [hU], by rw [hU]; exact hPc, va_K.moved hW.alike hKc, hDc.weaken (fun _ _ _ _ => trivial)⟩⟩ rfl rfl hl.1 rfl (lv_room (Nat.le_of_ble_eq_true rfl)) dX13_methodFits_84 ⟨Nat.le_of_ble_eq_true rfl, Nat.le_of_ble_eq_true rfl⟩) hS (fun q _ h => hFc q h) hFc ?_
              clear hS
              intro r_49 u t H1 locs ht hvm hw hB hz1 hk1 hS
              obtain ⟨z_27, rfl⟩ : ∃ z, z = u := ⟨_, rfl⟩
              obtain ⟨hP1, hK1, hD1⟩ := hB
              rw [ht] at hP1
              have hK1 := va_K.moved hvm.symm hK1
              try dsimp only at hw
              have hPD := va_join (wr := [(qf109, .inl (cf109, 96, .inl f109)), (qf110, .inl (cf110, 96, .inl f110)), (qf111, .inl (cf111, 96, .inl f111)), (qf127, .inl (cf127, 30, .inl g127_30)), (qf107, .inl (cf107, 96, .inl f107)), (qf102, .inl (cf102, 2048, .inl f102)), (qf104, .inl (cf104, 8, .inl f104)), (qf118, .inl (cf118, 2100, .inl g118_30)), (qf119, .inl (cf119, 2100, .inl g119_30)), (qf105, .inl (cf105, 8, .inl f105)), (qf128, .inl (cf128, 31, .inl g128_30)), (qf103, .inl (cf103, 8, .inl f103)), (qf106, .inl (cf106, 8, .inl f106)), (qf108, .inl (cf108, 8, .inl f108)), (qf137, .inl (cf137, 6, .inl g137_30)), (qf126, .inl (cf126, 1501, .inl (upd g126_30 (l3_30 : Int32).toNatClampNeg (vp_nar .boolean 1))))]) (w1 := [(h0, .inr (13, z_27)), (qf100, .inl (cf100, 48000, .inl f100))]) hP hD [16, 17] [0, 1, 2, 3, 4, 5, 6, 7, 8, 9, 10, 11, 12, 13, 14, 15] rfl rfl (by decide) (by decide) hk1 hFc hP1 hD1
              clear hP hD
              obtain ⟨hP, hD⟩ := hPD
              replace hK := (hK.sub (tys' := [(cf109, .int), (cf110, .int), (cf111, .int), (cf127, .int), (cf107, .int), (cf102, .int), (cf104, .int), (cf118, .int), (cf119, .int), (cf105, .int), (cf128, .int), (cf103, .int), (cf106, .int), (cf108, .int), (cf137, .int), (cf126, .boolean)]) [0, 1, 2, 3, 4, 5, 6, 7, 8, 9, 10, 11, 12, 13, 14, 15] rfl).app hK1
              clear hPc hDc hKc hFc hP1 hK1 hD1 hz1 hk1 ht hvm
              generalize H1 = H at hP hS ⊢
              replace hP : va_P (dC, dI) vwCl [(qf109, .inl (cf109, 96, .inl f109)), (qf110, .inl (cf110, 96, .inl f110)), (qf111, .inl (cf111, 96, .inl f111)), (qf127, .inl (cf127, 30, .inl g127_30)), (qf107, .inl (cf107, 96, .inl f107)), (qf102, .inl (cf102, 2048, .inl f102)), (qf104, .inl (cf104, 8, .inl f104)), (qf118, .inl (cf118, 2100, .inl g118_30)), (qf119, .inl (cf119, 2100, .inl g119_30)), (qf105, .inl (cf105, 8, .inl f105)), (qf128, .inl (cf128, 31, .inl g128_30)), (qf103, .inl (cf103, 8, .inl f103)), (qf106, .inl (cf106, 8, .inl f106)), (qf108, .inl (cf108, 8, .inl f108)), (qf137, .inl (cf137, 6, .inl g137_30)), (qf126, .inl (cf126, 1501, .inl (upd g126_30 (l3_30 : Int32).toNatClampNeg (vp_nar .boolean 1)))), (h0, .inr (13, z_27)), (qf100, .inl (cf100, 48000, .inl f100))] H := hP
              replace hD : va_D A [(qf109, .inl (cf109, 96, .inl f109)), (qf110, .inl (cf110, 96, .inl f110)), (qf111, .inl (cf111, 96, .inl f111)), (qf127, .inl (cf127, 30, .inl g127_30)), (qf107, .inl (cf107, 96, .inl f107)), (qf102, .inl (cf102, 2048, .inl f102)), (qf104, .inl (cf104, 8, .inl f104)), (qf118, .inl (cf118, 2100, .inl g118_30)), (qf119, .inl (cf119, 2100, .inl g119_30)), (qf105, .inl (cf105, 8, .inl f105)), (qf128, .inl (cf128, 31, .inl g128_30)), (qf103, .inl (cf103, 8, .inl f103)), (qf106, .inl (cf106, 8, .inl f106)), (qf108, .inl (cf108, 8, .inl f108)), (qf137, .inl (cf137, 6, .inl g137_30)), (qf126, .inl (cf126, 1501, .inl (upd g126_30 (l3_30 : Int32).toNatClampNeg (vp_nar .boolean 1)))), (h0, .inr (13, z_27)), (qf100, .inl (cf100, 48000, .inl f100))] := hD
              replace hK : va_K (dC, dI) vwCl [(cf109, .int), (cf110, .int), (cf111, .int), (cf127, .int), (cf107, .int), (cf102, .int), (cf104, .int), (cf118, .int), (cf119, .int), (cf105, .int), (cf128, .int), (cf103, .int), (cf106, .int), (cf108, .int), (cf137, .int), (cf126, .boolean), (cf100, .int)] s := hK
              obtain ⟨hwa_27, hln_27, hre_27⟩ := hw
              have hfk_27_98 : z_27[98]? = some (.int v98) := (hre_27 98 ).trans (hfk_24_98)
              have hfk_27_100 : z_27[100]? = some (.ref qf100) := (hre_27 100 ).trans (hfk_24_100)
              have hfk_27_102 : z_27[102]? = some (.ref qf102) := (hre_27 102 ).trans (hfk_24_102)
              have hfk_27_103 : z_27[103]? = some (.ref qf103) := (hre_27 103 ).trans (hfk_24_103)
              have hfk_27_104 : z_27[104]? = some (.ref qf104) := (hre_27 104 ).trans (hfk_24_104)
              have hfk_27_105 : z_27[105]? = some (.ref qf105) := (hre_27 105 ).trans (hfk_24_105)
              have hfk_27_106 : z_27[106]? = some (.ref qf106) := (hre_27 106 ).trans (hfk_24_106)
              have hfk_27_107 : z_27[107]? = some (.ref qf107) := (hre_27 107 ).trans (hfk_24_107)
              have hfk_27_108 : z_27[108]? = some (.ref qf108) := (hre_27 108 ).trans (hfk_24_108)
              have hfk_27_109 : z_27[109]? = some (.ref qf109) := (hre_27 109 ).trans (hfk_24_109)
              have hfk_27_110 : z_27[110]? = some (.ref qf110) := (hre_27 110 ).trans (hfk_24_110)
              have hfk_27_111 : z_27[111]? = some (.ref qf111) := (hre_27 111 ).trans (hfk_24_111)
              have hfk_27_117 : z_27[117]? = some (.int x117_30) := (hre_27 117 ).trans (hfk_24_117)
              have hfk_27_118 : z_27[118]? = some (.ref qf118) := (hre_27 118 ).trans (hfk_24_118)
              have hfk_27_119 : z_27[119]? = some (.ref qf119) := (hre_27 119 ).trans (hfk_24_119)
              have hfk_27_120 : z_27[120]? = some (.int x120_30) := (hre_27 120 ).trans (hfk_24_120)
              have hfk_27_121 : z_27[121]? = some (.int x121_30) := (hre_27 121 ).trans (hfk_24_121)
              have hfk_27_122 : z_27[122]? = some (.int x122_30) := (hre_27 122 ).trans (hfk_24_122)
              have hfk_27_123 : z_27[123]? = some (.int x123_30) := (hre_27 123 ).trans (hfk_24_123)
              have hfk_27_124 : z_27[124]? = some (.int x124_30) := (hre_27 124 ).trans (hfk_24_124)
              have hfk_27_125 : z_27[125]? = some (.int x125_30) := (hre_27 125 ).trans (hfk_24_125)
              have hfk_27_126 : z_27[126]? = some (.ref qf126) := (hre_27 126 ).trans (hfk_24_126)
              have hfk_27_127 : z_27[127]? = some (.ref qf127) := (hre_27 127 ).trans (hfk_24_127)
              have hfk_27_128 : z_27[128]? = some (.ref qf128) := (hre_27 128 ).trans (hfk_24_128)
              have hfk_27_129 : z_27[129]? = some (.int x129_30) := (hre_27 129 ).trans (hfk_24_129)
              have hfk_27_130 : z_27[130]? = some (.int x130_30) := (hre_27 130 ).trans (hfk_24_130)
              have hfk_27_131 : z_27[131]? = some (.int x131_30) := (hre_27 131 ).trans (hfk_24_131)
              have hfk_27_132 : z_27[132]? = some (.int x132_30) := (hre_27 132 ).trans (hfk_24_132)
              have hfk_27_133 : z_27[133]? = some (.int x133_30) := (hre_27 133 ).trans (hfk_24_133)
              have hfk_27_134 : z_27[134]? = some (.int x134_30) := (hre_27 134 ).trans (hfk_24_134)
              have hfk_27_135 : z_27[135]? = some (.int x135_30) := (hre_27 135 ).trans (hfk_24_135)
              have hfk_27_136 : z_27[136]? = some (.int x136_30) := (hre_27 136 ).trans (hfk_24_136)
              have hfk_27_137 : z_27[137]? = some (.ref qf137) := (hre_27 137 ).trans (hfk_24_137)
              have hrq_27 : ∀ j : Nat, j ≠ 117 → j ≠ 120 → j ≠ 121 → j ≠ 122 → j ≠ 123 → j ≠ 124 → j ≠ 125 → j ≠ 129 → j ≠ 130 → j ≠ 131 → j ≠ 132 → j ≠ 133 → j ≠ 134 → j ≠ 135 → j ≠ 136 → z_27[j]? = zs[j]? := fun j g117 g120 g121 g122 g123 g124 g125 g129 g130 g131 g132 g133 g134 g135 g136 => (hre_27 j ).trans (hrq_24 j g117 g120 g121 g122 g123 g124 g125 g129 g130 g131 g132 g133 g134 g135 g136)
              obtain rfl := hwa_27
              obtain ⟨u28_0, hu_28, hsp⟩ := ox_bind hsp
              try dsimp only at hsp
              have hPc := hP.sub (ws' := []) [] rfl
              have hDc := hD.sub (ws' := []) [] (by decide) rfl
              have hKc := hK.sub (tys' := []) [] rfl
              have hFc := va_free (wc := []) hD hS hA [] rfl
              refine va_calli (va_runS (As := [.int u27_0]) (rest := [.int l3_30]) ⟨hx, hb, hml, hown, hts⟩ (tm_widthOf l dC dI H.size u27_0 nf u28_0 hu_28) (va_cwS 1 hts gv_h9_66 rfl rfl rfl (by decide +kernel) ⟨Nat.le_of_ble_eq_true rfl, Nat.le_of_ble_eq_true rfl⟩) ⟨fun a U g mk q => by obtain ⟨q0, q1, qP, qK, qD⟩ := q; exact ⟨q0, q1, qP, va_K.moved (u := U) (U := U.calling g mk a) (Vm.Alike.refl U.vm) qK, qD⟩, fun U hU hW => ⟨rfl, by rw [hU], by rw [hU]; exact hPc, va_K.moved hW.alike hKc, hDc.weaken (fun _ _ _ _ => trivial)⟩⟩ rfl rfl hl.1 rfl (lv_room (Nat.le_of_ble_eq_true rfl)) dX13_methodFits_87 ⟨Nat.le_of_ble_eq_true rfl, Nat.le_of_ble_eq_true rfl⟩) hS (fun q _ h => hFc q h) hFc ?_
              clear hS
              intro r_50 u t H1 locs ht hvm hw hB hz1 hk1 hS
              obtain ⟨⟩ := u
              obtain ⟨hP1, hK1, hD1⟩ := hB
              rw [ht] at hP1
              have hK1 := va_K.moved hvm.symm hK1
              try dsimp only at hw
              have hPD := va_join (wr := [(qf109, .inl (cf109, 96, .inl f109)), (qf110, .inl (cf110, 96, .inl f110)), (qf111, .inl (cf111, 96, .inl f111)), (qf127, .inl (cf127, 30, .inl g127_30)), (qf107, .inl (cf107, 96, .inl f107)), (qf102, .inl (cf102, 2048, .inl f102)), (qf104, .inl (cf104, 8, .inl f104)), (qf118, .inl (cf118, 2100, .inl g118_30)), (qf119, .inl (cf119, 2100, .inl g119_30)), (qf105, .inl (cf105, 8, .inl f105)), (qf128, .inl (cf128, 31, .inl g128_30)), (qf103, .inl (cf103, 8, .inl f103)), (qf106, .inl (cf106, 8, .inl f106)), (qf108, .inl (cf108, 8, .inl f108)), (qf137, .inl (cf137, 6, .inl g137_30)), (qf126, .inl (cf126, 1501, .inl (upd g126_30 (l3_30 : Int32).toNatClampNeg (vp_nar .boolean 1)))), (h0, .inr (13, z_27)), (qf100, .inl (cf100, 48000, .inl f100))]) (w1 := []) hP hD [] [0, 1, 2, 3, 4, 5, 6, 7, 8, 9, 10, 11, 12, 13, 14, 15, 16, 17] rfl rfl (by decide) (by decide) hk1 hFc hP1 hD1
              clear hP hD
              obtain ⟨hP, hD⟩ := hPD
              replace hK := (hK.sub (tys' := [(cf109, .int), (cf110, .int), (cf111, .int), (cf127, .int), (cf107, .int), (cf102, .int), (cf104, .int), (cf118, .int), (cf119, .int), (cf105, .int), (cf128, .int), (cf103, .int), (cf106, .int), (cf108, .int), (cf137, .int), (cf126, .boolean), (cf100, .int)]) [0, 1, 2, 3, 4, 5, 6, 7, 8, 9, 10, 11, 12, 13, 14, 15, 16] rfl).app hK1
              clear hPc hDc hKc hFc hP1 hK1 hD1 hz1 hk1 ht hvm
              generalize H1 = H at hP hS ⊢
              replace hP : va_P (dC, dI) vwCl [(qf109, .inl (cf109, 96, .inl f109)), (qf110, .inl (cf110, 96, .inl f110)), (qf111, .inl (cf111, 96, .inl f111)), (qf127, .inl (cf127, 30, .inl g127_30)), (qf107, .inl (cf107, 96, .inl f107)), (qf102, .inl (cf102, 2048, .inl f102)), (qf104, .inl (cf104, 8, .inl f104)), (qf118, .inl (cf118, 2100, .inl g118_30)), (qf119, .inl (cf119, 2100, .inl g119_30)), (qf105, .inl (cf105, 8, .inl f105)), (qf128, .inl (cf128, 31, .inl g128_30)), (qf103, .inl (cf103, 8, .inl f103)), (qf106, .inl (cf106, 8, .inl f106)), (qf108, .inl (cf108, 8, .inl f108)), (qf137, .inl (cf137, 6, .inl g137_30)), (qf126, .inl (cf126, 1501, .inl (upd g126_30 (l3_30 : Int32).toNatClampNeg (vp_nar .boolean 1)))), (h0, .inr (13, z_27)), (qf100, .inl (cf100, 48000, .inl f100))] H := hP
              replace hD : va_D A [(qf109, .inl (cf109, 96, .inl f109)), (qf110, .inl (cf110, 96, .inl f110)), (qf111, .inl (cf111, 96, .inl f111)), (qf127, .inl (cf127, 30, .inl g127_30)), (qf107, .inl (cf107, 96, .inl f107)), (qf102, .inl (cf102, 2048, .inl f102)), (qf104, .inl (cf104, 8, .inl f104)), (qf118, .inl (cf118, 2100, .inl g118_30)), (qf119, .inl (cf119, 2100, .inl g119_30)), (qf105, .inl (cf105, 8, .inl f105)), (qf128, .inl (cf128, 31, .inl g128_30)), (qf103, .inl (cf103, 8, .inl f103)), (qf106, .inl (cf106, 8, .inl f106)), (qf108, .inl (cf108, 8, .inl f108)), (qf137, .inl (cf137, 6, .inl g137_30)), (qf126, .inl (cf126, 1501, .inl (upd g126_30 (l3_30 : Int32).toNatClampNeg (vp_nar .boolean 1)))), (h0, .inr (13, z_27)), (qf100, .inl (cf100, 48000, .inl f100))] := hD
              replace hK : va_K (dC, dI) vwCl [(cf109, .int), (cf110, .int), (cf111, .int), (cf127, .int), (cf107, .int), (cf102, .int), (cf104, .int), (cf118, .int), (cf119, .int), (cf105, .int), (cf128, .int), (cf103, .int), (cf106, .int), (cf108, .int), (cf137, .int), (cf126, .boolean), (cf100, .int)] s := hK
              obtain rfl := hw
              refine lv_iadd hx hb dX13_methodFits_90 ?_
              refine lv_istore_n (lv' := [(3, .int (l3_30 + u28_0)), (4, .int u25_0), (0, .ref h0), (1, .int l1_30), (2, .int l2_30)]) hx hb dX13_methodFits_91 rfl hl (by decide) rfl (fun ls hl => ?_)
              refine lv_goto (tgt := 30) hx hb dX13_methodFits_92 (by decide) ?_
              exact ih_30 H locs ls z_27 l1_30 l2_30 (l3_30 + u28_0) g118_30 g119_30 (upd g126_30 (l3_30 : Int32).toNatClampNeg (vp_nar .boolean 1)) g127_30 g128_30 g137_30 x117_30 x120_30 x121_30 x122_30 x123_30 x124_30 x125_30 x129_30 x130_30 x131_30 x132_30 x133_30 x134_30 x135_30 x136_30 (hfk_27_98) (hfk_27_100) (hfk_27_102) (hfk_27_103) (hfk_27_104) (hfk_27_105) (hfk_27_106) (hfk_27_107) (hfk_27_108) (hfk_27_109) (hfk_27_110) (hfk_27_111) (hfk_27_117) (hfk_27_118) (hfk_27_119) (hfk_27_120) (hfk_27_121) (hfk_27_122) (hfk_27_123) (hfk_27_124) (hfk_27_125) (hfk_27_126) (hfk_27_127) (hfk_27_128) (hfk_27_129) (hfk_27_130) (hfk_27_131) (hfk_27_132) (hfk_27_133) (hfk_27_134) (hfk_27_135) (hfk_27_136) (hfk_27_137) hln_27 hrq_27 (lv_sub hl [0, 2, 3, 4] rfl) hS (hD.sub (ws' := [(h0, .inr (13, z_27)), (qf109, .inl (cf109, 96, .inl f109)), (qf100, .inl (cf100, 48000, .inl f100)), (qf110, .inl (cf110, 96, .inl f110)), (qf111, .inl (cf111, 96, .inl f111)), (qf127, .inl (cf127, 30, .inl g127_30)), (qf107, .inl (cf107, 96, .inl f107)), (qf102, .inl (cf102, 2048, .inl f102)), (qf104, .inl (cf104, 8, .inl f104)), (qf118, .inl (cf118, 2100, .inl g118_30)), (qf119, .inl (cf119, 2100, .inl g119_30)), (qf105, .inl (cf105, 8, .inl f105)), (qf128, .inl (cf128, 31, .inl g128_30)), (qf103, .inl (cf103, 8, .inl f103)), (qf106, .inl (cf106, 8, .inl f106)), (qf108, .inl (cf108, 8, .inl f108)), (qf137, .inl (cf137, 6, .inl g137_30)), (qf126, .inl (cf126, 1501, .inl (upd g126_30 (l3_30 : Int32).toNatClampNeg (vp_nar .boolean 1))))]) [16, 0, 17, 1, 2, 3, 4, 5, 6, 7, 8, 9, 10, 11, 12, 13, 14, 15] (by decide) rfl) (hP.sub (ws' := [(h0, .inr (13, z_27)), (qf109, .inl (cf109, 96, .inl f109)), (qf100, .inl (cf100, 48000, .inl f100)), (qf110, .inl (cf110, 96, .inl f110)), (qf111, .inl (cf111, 96, .inl f111)), (qf127, .inl (cf127, 30, .inl g127_30)), (qf107, .inl (cf107, 96, .inl f107)), (qf102, .inl (cf102, 2048, .inl f102)), (qf104, .inl (cf104, 8, .inl f104)), (qf118, .inl (cf118, 2100, .inl g118_30)), (qf119, .inl (cf119, 2100, .inl g119_30)), (qf105, .inl (cf105, 8, .inl f105)), (qf128, .inl (cf128, 31, .inl g128_30)), (qf103, .inl (cf103, 8, .inl f103)), (qf106, .inl (cf106, 8, .inl f106)), (qf108, .inl (cf108, 8, .inl f108)), (qf137, .inl (cf137, 6, .inl g137_30)), (qf126, .inl (cf126, 1501, .inl (upd g126_30 (l3_30 : Int32).toNatClampNeg (vp_nar .boolean 1))))]) [16, 0, 17, 1, 2, 3, 4, 5, 6, 7, 8, 9, 10, 11, 12, 13, 14, 15] rfl) hsp
            · rw [if_neg c_47] at hsp
              refine lv_aload_n hx hb dX13_methodFits_64 rfl (lv_at hl 2 rfl) ?_
              refine lv_bipush (v := 6) hx hb dX13_methodFits_65 (by decide) ?_
              refine lv_iload_n hx hb dX13_methodFits_67 rfl (lv_at hl 3 rfl) ?_
              refine lv_iload_n hx hb dX13_methodFits_68 rfl (lv_at hl 4 rfl) ?_
              refine lv_iload_n hx hb dX13_methodFits_69 rfl (lv_at hl 1 rfl) ?_
              obtain ⟨⟨u29_0, u29_1, u29_2, u29_3, u29_4⟩, hu_29, hsp⟩ := ox_bind hsp
              try dsimp only at hsp
              have hPc := hP.sub (ws' := [(h0, .inr (13, z_24))]) [16] rfl
              have hDc := hD.sub (ws' := [(h0, .inr (13, z_24))]) [16] (by decide) rfl
              have hKc := hK.sub (tys' := []) [] rfl
              have hFc := va_free (wc := [(h0, .inr (13, z_24))]) hD hS hA [16] rfl
              refine va_calli (va_runV (As := [.int 6, .int l1_30, .int l2_30, .int l3_30]) (rest := []) ⟨hx, hb, hml, hown, hts⟩ (tm_bad l dC dI H.size h0 z_24 6 l1_30 l2_30 l3_30 x122_30 x123_30 x124_30 x125_30 nf u29_0 u29_1 u29_2 u29_3 u29_4 hln_24 hfk_24_122 hfk_24_123 hfk_24_124 hfk_24_125 hu_29) (cwV 4 hts gv_h9_63 rfl rfl rfl (by decide +kernel) ⟨Nat.le_of_ble_eq_true rfl, Nat.le_of_ble_eq_true rfl⟩) ⟨fun a U g mk q => by obtain ⟨q0, q1, qP, qK, qD⟩ := q; exact ⟨q0, q1, qP, va_K.moved (u := U) (U := U.calling g mk a) (Vm.Alike.refl U.vm) qK, qD⟩, va_recv hKc hPc (ci := 13) (q0 := 0) rfl rfl, fun U hU hW => ⟨rfl, by rw [hU], by rw [hU]; exact hPc, va_K.moved hW.alike hKc, hDc.weaken (fun _ _ _ _ => trivial)⟩⟩ rfl rfl hl.1 rfl (lv_room (Nat.le_of_ble_eq_true rfl)) dX13_methodFits_70 ⟨Nat.le_of_ble_eq_true rfl, Nat.le_of_ble_eq_true rfl⟩) hS (fun q _ h => hFc q h) hFc ?_
              clear hS
              intro r_51 u t H1 locs ht hvm hw hB hz1 hk1 hS
              obtain ⟨z_29, rfl⟩ : ∃ z, z = u := ⟨_, rfl⟩
              obtain ⟨hP1, hK1, hD1⟩ := hB
              rw [ht] at hP1
              have hK1 := va_K.moved hvm.symm hK1
              try dsimp only at hw
              have hPD := va_join (wr := [(qf109, .inl (cf109, 96, .inl f109)), (qf110, .inl (cf110, 96, .inl f110)), (qf111, .inl (cf111, 96, .inl f111)), (qf127, .inl (cf127, 30, .inl g127_30)), (qf107, .inl (cf107, 96, .inl f107)), (qf102, .inl (cf102, 2048, .inl f102)), (qf104, .inl (cf104, 8, .inl f104)), (qf118, .inl (cf118, 2100, .inl g118_30)), (qf119, .inl (cf119, 2100, .inl g119_30)), (qf105, .inl (cf105, 8, .inl f105)), (qf128, .inl (cf128, 31, .inl g128_30)), (qf103, .inl (cf103, 8, .inl f103)), (qf106, .inl (cf106, 8, .inl f106)), (qf108, .inl (cf108, 8, .inl f108)), (qf137, .inl (cf137, 6, .inl g137_30)), (qf126, .inl (cf126, 1501, .inl g126_30)), (qf100, .inl (cf100, 48000, .inl f100))]) (w1 := [(h0, .inr (13, z_29))]) hP hD [16] [0, 1, 2, 3, 4, 5, 6, 7, 8, 9, 10, 11, 12, 13, 14, 15, 17] rfl rfl (by decide) (by decide) hk1 hFc hP1 hD1
              clear hP hD
              obtain ⟨hP, hD⟩ := hPD
              replace hK := (hK.sub (tys' := [(cf109, .int), (cf110, .int), (cf111, .int), (cf127, .int), (cf107, .int), (cf102, .int), (cf104, .int), (cf118, .int), (cf119, .int), (cf105, .int), (cf128, .int), (cf103, .int), (cf106, .int), (cf108, .int), (cf137, .int), (cf126, .boolean), (cf100, .int)]) [0, 1, 2, 3, 4, 5, 6, 7, 8, 9, 10, 11, 12, 13, 14, 15, 16] rfl).app hK1
              clear hPc hDc hKc hFc hP1 hK1 hD1 hz1 hk1 ht hvm
              generalize H1 = H at hP hS ⊢
              replace hP : va_P (dC, dI) vwCl [(qf109, .inl (cf109, 96, .inl f109)), (qf110, .inl (cf110, 96, .inl f110)), (qf111, .inl (cf111, 96, .inl f111)), (qf127, .inl (cf127, 30, .inl g127_30)), (qf107, .inl (cf107, 96, .inl f107)), (qf102, .inl (cf102, 2048, .inl f102)), (qf104, .inl (cf104, 8, .inl f104)), (qf118, .inl (cf118, 2100, .inl g118_30)), (qf119, .inl (cf119, 2100, .inl g119_30)), (qf105, .inl (cf105, 8, .inl f105)), (qf128, .inl (cf128, 31, .inl g128_30)), (qf103, .inl (cf103, 8, .inl f103)), (qf106, .inl (cf106, 8, .inl f106)), (qf108, .inl (cf108, 8, .inl f108)), (qf137, .inl (cf137, 6, .inl g137_30)), (qf126, .inl (cf126, 1501, .inl g126_30)), (qf100, .inl (cf100, 48000, .inl f100)), (h0, .inr (13, z_29))] H := hP
              replace hD : va_D A [(qf109, .inl (cf109, 96, .inl f109)), (qf110, .inl (cf110, 96, .inl f110)), (qf111, .inl (cf111, 96, .inl f111)), (qf127, .inl (cf127, 30, .inl g127_30)), (qf107, .inl (cf107, 96, .inl f107)), (qf102, .inl (cf102, 2048, .inl f102)), (qf104, .inl (cf104, 8, .inl f104)), (qf118, .inl (cf118, 2100, .inl g118_30)), (qf119, .inl (cf119, 2100, .inl g119_30)), (qf105, .inl (cf105, 8, .inl f105)), (qf128, .inl (cf128, 31, .inl g128_30)), (qf103, .inl (cf103, 8, .inl f103)), (qf106, .inl (cf106, 8, .inl f106)), (qf108, .inl (cf108, 8, .inl f108)), (qf137, .inl (cf137, 6, .inl g137_30)), (qf126, .inl (cf126, 1501, .inl g126_30)), (qf100, .inl (cf100, 48000, .inl f100)), (h0, .inr (13, z_29))] := hD
              replace hK : va_K (dC, dI) vwCl [(cf109, .int), (cf110, .int), (cf111, .int), (cf127, .int), (cf107, .int), (cf102, .int), (cf104, .int), (cf118, .int), (cf119, .int), (cf105, .int), (cf128, .int), (cf103, .int), (cf106, .int), (cf108, .int), (cf137, .int), (cf126, .boolean), (cf100, .int)] s := hK
              obtain ⟨hwa_29, hln_29, hre_29, hch_29_122, hch_29_123, hch_29_124, hch_29_125⟩ := hw
              have hfk_29_98 : z_29[98]? = some (.int v98) := (hre_29 98 (by decide) (by decide) (by decide) (by decide)).trans (hfk_24_98)
              have hfk_29_100 : z_29[100]? = some (.ref qf100) := (hre_29 100 (by decide) (by decide) (by decide) (by decide)).trans (hfk_24_100)
              have hfk_29_102 : z_29[102]? = some (.ref qf102) := (hre_29 102 (by decide) (by decide) (by decide) (by decide)).trans (hfk_24_102)
              have hfk_29_103 : z_29[103]? = some (.ref qf103) := (hre_29 103 (by decide) (by decide) (by decide) (by decide)).trans (hfk_24_103)
              have hfk_29_104 : z_29[104]? = some (.ref qf104) := (hre_29 104 (by decide) (by decide) (by decide) (by decide)).trans (hfk_24_104)
              have hfk_29_105 : z_29[105]? = some (.ref qf105) := (hre_29 105 (by decide) (by decide) (by decide) (by decide)).trans (hfk_24_105)
              have hfk_29_106 : z_29[106]? = some (.ref qf106) := (hre_29 106 (by decide) (by decide) (by decide) (by decide)).trans (hfk_24_106)
              have hfk_29_107 : z_29[107]? = some (.ref qf107) := (hre_29 107 (by decide) (by decide) (by decide) (by decide)).trans (hfk_24_107)
              have hfk_29_108 : z_29[108]? = some (.ref qf108) := (hre_29 108 (by decide) (by decide) (by decide) (by decide)).trans (hfk_24_108)
              have hfk_29_109 : z_29[109]? = some (.ref qf109) := (hre_29 109 (by decide) (by decide) (by decide) (by decide)).trans (hfk_24_109)
              have hfk_29_110 : z_29[110]? = some (.ref qf110) := (hre_29 110 (by decide) (by decide) (by decide) (by decide)).trans (hfk_24_110)
              have hfk_29_111 : z_29[111]? = some (.ref qf111) := (hre_29 111 (by decide) (by decide) (by decide) (by decide)).trans (hfk_24_111)
              have hfk_29_117 : z_29[117]? = some (.int x117_30) := (hre_29 117 (by decide) (by decide) (by decide) (by decide)).trans (hfk_24_117)
              have hfk_29_118 : z_29[118]? = some (.ref qf118) := (hre_29 118 (by decide) (by decide) (by decide) (by decide)).trans (hfk_24_118)
              have hfk_29_119 : z_29[119]? = some (.ref qf119) := (hre_29 119 (by decide) (by decide) (by decide) (by decide)).trans (hfk_24_119)
              have hfk_29_120 : z_29[120]? = some (.int x120_30) := (hre_29 120 (by decide) (by decide) (by decide) (by decide)).trans (hfk_24_120)
              have hfk_29_121 : z_29[121]? = some (.int x121_30) := (hre_29 121 (by decide) (by decide) (by decide) (by decide)).trans (hfk_24_121)
              have hfk_29_126 : z_29[126]? = some (.ref qf126) := (hre_29 126 (by decide) (by decide) (by decide) (by decide)).trans (hfk_24_126)
              have hfk_29_127 : z_29[127]? = some (.ref qf127) := (hre_29 127 (by decide) (by decide) (by decide) (by decide)).trans (hfk_24_127)
              have hfk_29_128 : z_29[128]? = some (.ref qf128) := (hre_29 128 (by decide) (by decide) (by decide) (by decide)).trans (hfk_24_128)
              have hfk_29_129 : z_29[129]? = some (.int x129_30) := (hre_29 129 (by decide) (by decide) (by decide) (by decide)).trans (hfk_24_129)
              have hfk_29_130 : z_29[130]? = some (.int x130_30) := (hre_29 130 (by decide) (by decide) (by decide) (by decide)).trans (hfk_24_130)
              have hfk_29_131 : z_29[131]? = some (.int x131_30) := (hre_29 131 (by decide) (by decide) (by decide) (by decide)).trans (hfk_24_131)
              have hfk_29_132 : z_29[132]? = some (.int x132_30) := (hre_29 132 (by decide) (by decide) (by decide) (by decide)).trans (hfk_24_132)
              have hfk_29_133 : z_29[133]? = some (.int x133_30) := (hre_29 133 (by decide) (by decide) (by decide) (by decide)).trans (hfk_24_133)
              have hfk_29_134 : z_29[134]? = some (.int x134_30) := (hre_29 134 (by decide) (by decide) (by decide) (by decide)).trans (hfk_24_134)
              have hfk_29_135 : z_29[135]? = some (.int x135_30) := (hre_29 135 (by decide) (by decide) (by decide) (by decide)).trans (hfk_24_135)
              have hfk_29_136 : z_29[136]? = some (.int x136_30) := (hre_29 136 (by decide) (by decide) (by decide) (by decide)).trans (hfk_24_136)
              have hfk_29_137 : z_29[137]? = some (.ref qf137) := (hre_29 137 (by decide) (by decide) (by decide) (by decide)).trans (hfk_24_137)
              have hrq_29 : ∀ j : Nat, j ≠ 117 → j ≠ 120 → j ≠ 121 → j ≠ 122 → j ≠ 123 → j ≠ 124 → j ≠ 125 → j ≠ 129 → j ≠ 130 → j ≠ 131 → j ≠ 132 → j ≠ 133 → j ≠ 134 → j ≠ 135 → j ≠ 136 → z_29[j]? = zs[j]? := fun j g117 g120 g121 g122 g123 g124 g125 g129 g130 g131 g132 g133 g134 g135 g136 => (hre_29 j g122 g123 g124 g125).trans (hrq_24 j g117 g120 g121 g122 g123 g124 g125 g129 g130 g131 g132 g133 g134 g135 g136)
              obtain ⟨rfl, hz_29⟩ := hwa_29
              rcases hz_29 with rfl | rfl
              · rw [if_pos rfl] at hsp
                exact hret_73 (H, locs, ls, z_29, 0, g118_30, g119_30, g126_30, g127_30, g128_30, g137_30, x117_30, x120_30, x121_30, u29_1, u29_2, u29_3, u29_4, x129_30, x130_30, x131_30, x132_30, x133_30, x134_30, x135_30, x136_30) ⟨hS, hD.sub (ws' := [(h0, .inr (13, z_29)), (qf109, .inl (cf109, 96, .inl f109)), (qf100, .inl (cf100, 48000, .inl f100)), (qf110, .inl (cf110, 96, .inl f110)), (qf111, .inl (cf111, 96, .inl f111)), (qf127, .inl (cf127, 30, .inl g127_30)), (qf107, .inl (cf107, 96, .inl f107)), (qf102, .inl (cf102, 2048, .inl f102)), (qf104, .inl (cf104, 8, .inl f104)), (qf118, .inl (cf118, 2100, .inl g118_30)), (qf119, .inl (cf119, 2100, .inl g119_30)), (qf105, .inl (cf105, 8, .inl f105)), (qf128, .inl (cf128, 31, .inl g128_30)), (qf103, .inl (cf103, 8, .inl f103)), (qf106, .inl (cf106, 8, .inl f106)), (qf108, .inl (cf108, 8, .inl f108)), (qf137, .inl (cf137, 6, .inl g137_30)), (qf126, .inl (cf126, 1501, .inl g126_30))]) [17, 0, 16, 1, 2, 3, 4, 5, 6, 7, 8, 9, 10, 11, 12, 13, 14, 15] (by decide) rfl, hP.sub (ws' := [(h0, .inr (13, z_29)), (qf109, .inl (cf109, 96, .inl f109)), (qf100, .inl (cf100, 48000, .inl f100)), (qf110, .inl (cf110, 96, .inl f110)), (qf111, .inl (cf111, 96, .inl f111)), (qf127, .inl (cf127, 30, .inl g127_30)), (qf107, .inl (cf107, 96, .inl f107)), (qf102, .inl (cf102, 2048, .inl f102)), (qf104, .inl (cf104, 8, .inl f104)), (qf118, .inl (cf118, 2100, .inl g118_30)), (qf119, .inl (cf119, 2100, .inl g119_30)), (qf105, .inl (cf105, 8, .inl f105)), (qf128, .inl (cf128, 31, .inl g128_30)), (qf103, .inl (cf103, 8, .inl f103)), (qf106, .inl (cf106, 8, .inl f106)), (qf108, .inl (cf108, 8, .inl f108)), (qf137, .inl (cf137, 6, .inl g137_30)), (qf126, .inl (cf126, 1501, .inl g126_30))]) [17, 0, 16, 1, 2, 3, 4, 5, 6, 7, 8, 9, 10, 11, 12, 13, 14, 15] rfl, hfk_29_98, hfk_29_100, hfk_29_102, hfk_29_103, hfk_29_104, hfk_29_105, hfk_29_106, hfk_29_107, hfk_29_108, hfk_29_109, hfk_29_110, hfk_29_111, hfk_29_117, hfk_29_118, hfk_29_119, hfk_29_120, hfk_29_121, hch_29_122, hch_29_123, hch_29_124, hch_29_125, hfk_29_126, hfk_29_127, hfk_29_128, hfk_29_129, hfk_29_130, hfk_29_131, hfk_29_132, hfk_29_133, hfk_29_134, hfk_29_135, hfk_29_136, hfk_29_137, hln_29, hrq_29, Or.inl rfl, hsp⟩
              · rw [if_neg (by decide)] at hsp
                exact hret_73 (H, locs, ls, z_29, 1, g118_30, g119_30, g126_30, g127_30, g128_30, g137_30, x117_30, x120_30, x121_30, u29_1, u29_2, u29_3, u29_4, x129_30, x130_30, x131_30, x132_30, x133_30, x134_30, x135_30, x136_30) ⟨hS, hD.sub (ws' := [(h0, .inr (13, z_29)), (qf109, .inl (cf109, 96, .inl f109)), (qf100, .inl (cf100, 48000, .inl f100)), (qf110, .inl (cf110, 96, .inl f110)), (qf111, .inl (cf111, 96, .inl f111)), (qf127, .inl (cf127, 30, .inl g127_30)), (qf107, .inl (cf107, 96, .inl f107)), (qf102, .inl (cf102, 2048, .inl f102)), (qf104, .inl (cf104, 8, .inl f104)), (qf118, .inl (cf118, 2100, .inl g118_30)), (qf119, .inl (cf119, 2100, .inl g119_30)), (qf105, .inl (cf105, 8, .inl f105)), (qf128, .inl (cf128, 31, .inl g128_30)), (qf103, .inl (cf103, 8, .inl f103)), (qf106, .inl (cf106, 8, .inl f106)), (qf108, .inl (cf108, 8, .inl f108)), (qf137, .inl (cf137, 6, .inl g137_30)), (qf126, .inl (cf126, 1501, .inl g126_30))]) [17, 0, 16, 1, 2, 3, 4, 5, 6, 7, 8, 9, 10, 11, 12, 13, 14, 15] (by decide) rfl, hP.sub (ws' := [(h0, .inr (13, z_29)), (qf109, .inl (cf109, 96, .inl f109)), (qf100, .inl (cf100, 48000, .inl f100)), (qf110, .inl (cf110, 96, .inl f110)), (qf111, .inl (cf111, 96, .inl f111)), (qf127, .inl (cf127, 30, .inl g127_30)), (qf107, .inl (cf107, 96, .inl f107)), (qf102, .inl (cf102, 2048, .inl f102)), (qf104, .inl (cf104, 8, .inl f104)), (qf118, .inl (cf118, 2100, .inl g118_30)), (qf119, .inl (cf119, 2100, .inl g119_30)), (qf105, .inl (cf105, 8, .inl f105)), (qf128, .inl (cf128, 31, .inl g128_30)), (qf103, .inl (cf103, 8, .inl f103)), (qf106, .inl (cf106, 8, .inl f106)), (qf108, .inl (cf108, 8, .inl f108)), (qf137, .inl (cf137, 6, .inl g137_30)), (qf126, .inl (cf126, 1501, .inl g126_30))]) [17, 0, 16, 1, 2, 3, 4, 5, 6, 7, 8, 9, 10, 11, 12, 13, 14, 15] rfl, hfk_29_98, hfk_29_100, hfk_29_102, hfk_29_103, hfk_29_104, hfk_29_105, hfk_29_106, hfk_29_107, hfk_29_108, hfk_29_109, hfk_29_110, hfk_29_111, hfk_29_117, hfk_29_118, hfk_29_119, hfk_29_120, hfk_29_121, hch_29_122, hch_29_123, hch_29_124, hch_29_125, hfk_29_126, hfk_29_127, hfk_29_128, hfk_29_129, hfk_29_130, hfk_29_131, hfk_29_132, hfk_29_133, hfk_29_134, hfk_29_135, hfk_29_136, hfk_29_137, hln_29, hrq_29, Or.inr rfl, hsp⟩
    · rw [if_neg c_1] at hsp
      refine lv_aload_n hx hb dX13_methodFits_15 rfl (lv_at hl 1 rfl) ?_
      refine va_get (D := (dC, dI)) (ci := 13) (v := .ref qf126) (C := RX13) (T := TX13) (N := 155) hx hb hts uV_h9_X13 hown hK hP 0 rfl rfl 126 (by decide) (hts (.fieldLink RX13 267 "ClassMillModel" "begins" "[Z") mw_h9_547) (fun _ h9 => h9) hfh_8_126 dX13_methodFits_16 ?_
      refine lv_iload_n hx hb dX13_methodFits_19 rfl (lv_at hl 0 rfl) ?_
      refine lv_iconst (v := 0) hx hb dX13_methodFits_20 (by decide) ?_
      obtain ⟨hi_52, hsp⟩ := ox_in hsp
      refine va_zast hx hb hK hP hD hS 17 16 rfl rfl (i := l3_8) (x := 0) hi_52 dX13_methodFits_21 ?_
      clear hP hD hS
      intro H locs hP hD hS
      replace hP : va_P (dC, dI) vwCl [(h0, .inr (13, z8)), (qf109, .inl (cf109, 96, .inl f109)), (qf100, .inl (cf100, 48000, .inl f100)), (qf110, .inl (cf110, 96, .inl f110)), (qf111, .inl (cf111, 96, .inl f111)), (qf127, .inl (cf127, 30, .inl g127_8)), (qf107, .inl (cf107, 96, .inl f107)), (qf102, .inl (cf102, 2048, .inl f102)), (qf104, .inl (cf104, 8, .inl f104)), (qf118, .inl (cf118, 2100, .inl g118_8)), (qf119, .inl (cf119, 2100, .inl g119_8)), (qf105, .inl (cf105, 8, .inl f105)), (qf128, .inl (cf128, 31, .inl g128_8)), (qf103, .inl (cf103, 8, .inl f103)), (qf106, .inl (cf106, 8, .inl f106)), (qf108, .inl (cf108, 8, .inl f108)), (qf137, .inl (cf137, 6, .inl g137_8)), (qf126, .inl (cf126, 1501, .inl (upd g126_8 (l3_8 : Int32).toNatClampNeg (vp_nar .boolean 0))))] H := hP
      replace hD : va_D A [(h0, .inr (13, z8)), (qf109, .inl (cf109, 96, .inl f109)), (qf100, .inl (cf100, 48000, .inl f100)), (qf110, .inl (cf110, 96, .inl f110)), (qf111, .inl (cf111, 96, .inl f111)), (qf127, .inl (cf127, 30, .inl g127_8)), (qf107, .inl (cf107, 96, .inl f107)), (qf102, .inl (cf102, 2048, .inl f102)), (qf104, .inl (cf104, 8, .inl f104)), (qf118, .inl (cf118, 2100, .inl g118_8)), (qf119, .inl (cf119, 2100, .inl g119_8)), (qf105, .inl (cf105, 8, .inl f105)), (qf128, .inl (cf128, 31, .inl g128_8)), (qf103, .inl (cf103, 8, .inl f103)), (qf106, .inl (cf106, 8, .inl f106)), (qf108, .inl (cf108, 8, .inl f108)), (qf137, .inl (cf137, 6, .inl g137_8)), (qf126, .inl (cf126, 1501, .inl (upd g126_8 (l3_8 : Int32).toNatClampNeg (vp_nar .boolean 0))))] := hD
      refine lv_iinc (v := (l3_8 + 1)) (lv' := [(3, .int (l3_8 + 1)), (0, .ref h0), (1, .int l1_8), (2, .int l2_8)]) hx hb dX13_methodFits_22 hl (k := 0) rfl rfl (by decide) rfl (fun ls hl => ?_)
      refine lv_goto (tgt := 8) hx hb dX13_methodFits_25 (by decide) ?_
      exact ih_8 H locs ls z8 l1_8 l2_8 (l3_8 + 1) g118_8 g119_8 (upd g126_8 (l3_8 : Int32).toNatClampNeg (vp_nar .boolean 0)) g127_8 g128_8 g137_8 x117_8 x120_8 x121_8 x122_8 x123_8 x124_8 x125_8 x129_8 x130_8 x131_8 x132_8 x133_8 x134_8 x135_8 x136_8 (hfh_8_98) (hfh_8_100) (hfh_8_102) (hfh_8_103) (hfh_8_104) (hfh_8_105) (hfh_8_106) (hfh_8_107) (hfh_8_108) (hfh_8_109) (hfh_8_110) (hfh_8_111) (hfh_8_117) (hfh_8_118) (hfh_8_119) (hfh_8_120) (hfh_8_121) (hfh_8_122) (hfh_8_123) (hfh_8_124) (hfh_8_125) (hfh_8_126) (hfh_8_127) (hfh_8_128) (hfh_8_129) (hfh_8_130) (hfh_8_131) (hfh_8_132) (hfh_8_133) (hfh_8_134) (hfh_8_135) (hfh_8_136) (hfh_8_137) hlh_8 hrh_8 (lv_sub hl [0, 1, 2, 3] rfl) hS (hD.sub (ws' := [(h0, .inr (13, z8)), (qf109, .inl (cf109, 96, .inl f109)), (qf100, .inl (cf100, 48000, .inl f100)), (qf110, .inl (cf110, 96, .inl f110)), (qf111, .inl (cf111, 96, .inl f111)), (qf127, .inl (cf127, 30, .inl g127_8)), (qf107, .inl (cf107, 96, .inl f107)), (qf102, .inl (cf102, 2048, .inl f102)), (qf104, .inl (cf104, 8, .inl f104)), (qf118, .inl (cf118, 2100, .inl g118_8)), (qf119, .inl (cf119, 2100, .inl g119_8)), (qf105, .inl (cf105, 8, .inl f105)), (qf128, .inl (cf128, 31, .inl g128_8)), (qf103, .inl (cf103, 8, .inl f103)), (qf106, .inl (cf106, 8, .inl f106)), (qf108, .inl (cf108, 8, .inl f108)), (qf137, .inl (cf137, 6, .inl g137_8)), (qf126, .inl (cf126, 1501, .inl (upd g126_8 (l3_8 : Int32).toNatClampNeg (vp_nar .boolean 0))))]) [0, 1, 2, 3, 4, 5, 6, 7, 8, 9, 10, 11, 12, 13, 14, 15, 16, 17] (by decide) rfl) (hP.sub (ws' := [(h0, .inr (13, z8)), (qf109, .inl (cf109, 96, .inl f109)), (qf100, .inl (cf100, 48000, .inl f100)), (qf110, .inl (cf110, 96, .inl f110)), (qf111, .inl (cf111, 96, .inl f111)), (qf127, .inl (cf127, 30, .inl g127_8)), (qf107, .inl (cf107, 96, .inl f107)), (qf102, .inl (cf102, 2048, .inl f102)), (qf104, .inl (cf104, 8, .inl f104)), (qf118, .inl (cf118, 2100, .inl g118_8)), (qf119, .inl (cf119, 2100, .inl g119_8)), (qf105, .inl (cf105, 8, .inl f105)), (qf128, .inl (cf128, 31, .inl g128_8)), (qf103, .inl (cf103, 8, .inl f103)), (qf106, .inl (cf106, 8, .inl f106)), (qf108, .inl (cf108, 8, .inl f108)), (qf137, .inl (cf137, 6, .inl g137_8)), (qf126, .inl (cf126, 1501, .inl (upd g126_8 (l3_8 : Int32).toNatClampNeg (vp_nar .boolean 0))))]) [0, 1, 2, 3, 4, 5, 6, 7, 8, 9, 10, 11, 12, 13, 14, 15, 16, 17] rfl) hsp
def lp_vm_verify_67 (nf n : Nat) (v98 : Int32) (v120 : Int32) (v121 : Int32) (v123 : Int32) (v124 : Int32) (v125 : Int32) (v129 : Int32) (v130 : Int32) (v131 : Int32) (v132 : Int32) (v133 : Int32) (v134 : Int32) (v135 : Int32) (v136 : Int32) (f105 : Nat → Int32) (f102 : Nat → Int32) (f100 : Nat → Int32) (f104 : Nat → Int32) (f106 : Nat → Int32) (f107 : Nat → Int32) (f109 : Nat → Int32) (f118 : Nat → Int32) (f119 : Nat → Int32) (f108 : Nat → Int32) (f110 : Nat → Int32) (f111 : Nat → Int32) (f127 : Nat → Int32) (f128 : Nat → Int32) (f103 : Nat → Int32) (f137 : Nat → Int32) (f126 : Nat → Int32) (nS477 : Nat) (fS477 : Nat → Int32) (kk_50 : Int32 → Int32 → (Nat → Int32) → (Nat → Int32) → (Nat → Int32) → (Nat → Int32) → (Nat → Int32) → (Nat → Int32) → Int32 → Int32 → Int32 → Int32 → Int32 → Int32 → Int32 → Int32 → Int32 → Int32 → Int32 → Int32 → Int32 → Int32 → Int32 → Int32 → Option (Int32 × (Nat → Int32) × (Nat → Int32) × (Nat → Int32) × (Nat → Int32) × (Nat → Int32) × (Nat → Int32) × Int32 × Int32 × Int32 × Int32 × Int32 × Int32 × Int32 × Int32 × Int32 × Int32 × Int32 × Int32 × Int32 × Int32 × Int32 × Int32)) (l1_67 : Int32) (l2_67 : Int32) (l3_67 : Int32) (g118_67 : Nat → Int32) (g119_67 : Nat → Int32) (g126_67 : Nat → Int32) (g127_67 : Nat → Int32) (g128_67 : Nat → Int32) (g137_67 : Nat → Int32) (x117_67 : Int32) (x120_67 : Int32) (x121_67 : Int32) (x122_67 : Int32) (x123_67 : Int32) (x124_67 : Int32) (x125_67 : Int32) (x129_67 : Int32) (x130_67 : Int32) (x131_67 : Int32) (x132_67 : Int32) (x133_67 : Int32) (x134_67 : Int32) (x135_67 : Int32) (x136_67 : Int32) (x99_67 : Int32) : Option (Int32 × (Nat → Int32) × (Nat → Int32) × (Nat → Int32) × (Nat → Int32) × (Nat → Int32) × (Nat → Int32) × Int32 × Int32 × Int32 × Int32 × Int32 × Int32 × Int32 × Int32 × Int32 × Int32 × Int32 × Int32 × Int32 × Int32 × Int32 × Int32) := match n with
  | 0 => none
  | n + 1 => (if (l2_67 - 8) < 0 then none else if 8 ≤ ((l2_67 - 8) : Int32).toNatClampNeg then none else (if (f108 ((l2_67 - 8) : Int32).toNatClampNeg) ≤ l3_67 then (kk_50 l1_67 (l2_67 + 1) g118_67 g119_67 g126_67 g127_67 g128_67 g137_67 x117_67 x120_67 x121_67 x122_67 x123_67 x124_67 x125_67 x129_67 x130_67 x131_67 x132_67 x133_67 x134_67 x135_67 x136_67 x99_67) else (if l1_67 = 0 then (kk_50 l1_67 (l2_67 + 1) g118_67 g119_67 g126_67 g127_67 g128_67 g137_67 x117_67 x120_67 x121_67 x122_67 x123_67 x124_67 x125_67 x129_67 x130_67 x131_67 x132_67 x133_67 x134_67 x135_67 x136_67 x99_67) else ((sp_vm_methodFits nf l2_67 l3_67 v98 x117_67 x120_67 x121_67 x122_67 x123_67 x124_67 x125_67 x131_67 x136_67 f109 f100 f110 f111 g127_67 f107 f102 f104 g118_67 g119_67 f105 g128_67 f103 f106 f108 g137_67 g126_67 nS477 fS477).bind (fun p1 => (if p1.1 = 0 then (lp_vm_verify_67 nf n v98 v120 v121 v123 v124 v125 v129 v130 v131 v132 v133 v134 v135 v136 f105 f102 f100 f104 f106 f107 f109 f118 f119 f108 f110 f111 f127 f128 f103 f137 f126 nS477 fS477 kk_50 0 l2_67 (l3_67 + 1) p1.2.1 p1.2.2.1 p1.2.2.2.1 p1.2.2.2.2.1 p1.2.2.2.2.2.1 p1.2.2.2.2.2.2.1 p1.2.2.2.2.2.2.2.1 p1.2.2.2.2.2.2.2.2.1 p1.2.2.2.2.2.2.2.2.2.1 p1.2.2.2.2.2.2.2.2.2.2.1 p1.2.2.2.2.2.2.2.2.2.2.2.1 p1.2.2.2.2.2.2.2.2.2.2.2.2.1 p1.2.2.2.2.2.2.2.2.2.2.2.2.2.1 p1.2.2.2.2.2.2.2.2.2.2.2.2.2.2.1 p1.2.2.2.2.2.2.2.2.2.2.2.2.2.2.2.1 p1.2.2.2.2.2.2.2.2.2.2.2.2.2.2.2.2.1 p1.2.2.2.2.2.2.2.2.2.2.2.2.2.2.2.2.2.1 p1.2.2.2.2.2.2.2.2.2.2.2.2.2.2.2.2.2.2.1 p1.2.2.2.2.2.2.2.2.2.2.2.2.2.2.2.2.2.2.2.1 p1.2.2.2.2.2.2.2.2.2.2.2.2.2.2.2.2.2.2.2.2.1 p1.2.2.2.2.2.2.2.2.2.2.2.2.2.2.2.2.2.2.2.2.2 x99_67) else (lp_vm_verify_67 nf n v98 v120 v121 v123 v124 v125 v129 v130 v131 v132 v133 v134 v135 v136 f105 f102 f100 f104 f106 f107 f109 f118 f119 f108 f110 f111 f127 f128 f103 f137 f126 nS477 fS477 kk_50 1 l2_67 (l3_67 + 1) p1.2.1 p1.2.2.1 p1.2.2.2.1 p1.2.2.2.2.1 p1.2.2.2.2.2.1 p1.2.2.2.2.2.2.1 p1.2.2.2.2.2.2.2.1 p1.2.2.2.2.2.2.2.2.1 p1.2.2.2.2.2.2.2.2.2.1 p1.2.2.2.2.2.2.2.2.2.2.1 p1.2.2.2.2.2.2.2.2.2.2.2.1 p1.2.2.2.2.2.2.2.2.2.2.2.2.1 p1.2.2.2.2.2.2.2.2.2.2.2.2.2.1 p1.2.2.2.2.2.2.2.2.2.2.2.2.2.2.1 p1.2.2.2.2.2.2.2.2.2.2.2.2.2.2.2.1 p1.2.2.2.2.2.2.2.2.2.2.2.2.2.2.2.2.1 p1.2.2.2.2.2.2.2.2.2.2.2.2.2.2.2.2.2.1 p1.2.2.2.2.2.2.2.2.2.2.2.2.2.2.2.2.2.2.1 p1.2.2.2.2.2.2.2.2.2.2.2.2.2.2.2.2.2.2.2.1 p1.2.2.2.2.2.2.2.2.2.2.2.2.2.2.2.2.2.2.2.2.1 p1.2.2.2.2.2.2.2.2.2.2.2.2.2.2.2.2.2.2.2.2.2 x99_67)))))))
def lp_vm_verify_50 (nf n : Nat) (v98 : Int32) (v120 : Int32) (v121 : Int32) (v123 : Int32) (v124 : Int32) (v125 : Int32) (v129 : Int32) (v130 : Int32) (v131 : Int32) (v132 : Int32) (v133 : Int32) (v134 : Int32) (v135 : Int32) (v136 : Int32) (f105 : Nat → Int32) (f102 : Nat → Int32) (f100 : Nat → Int32) (f104 : Nat → Int32) (f106 : Nat → Int32) (f107 : Nat → Int32) (f109 : Nat → Int32) (f118 : Nat → Int32) (f119 : Nat → Int32) (f108 : Nat → Int32) (f110 : Nat → Int32) (f111 : Nat → Int32) (f127 : Nat → Int32) (f128 : Nat → Int32) (f103 : Nat → Int32) (f137 : Nat → Int32) (f126 : Nat → Int32) (nS477 : Nat) (fS477 : Nat → Int32)  (l1_50 : Int32) (l2_50 : Int32) (g118_50 : Nat → Int32) (g119_50 : Nat → Int32) (g126_50 : Nat → Int32) (g127_50 : Nat → Int32) (g128_50 : Nat → Int32) (g137_50 : Nat → Int32) (x117_50 : Int32) (x120_50 : Int32) (x121_50 : Int32) (x122_50 : Int32) (x123_50 : Int32) (x124_50 : Int32) (x125_50 : Int32) (x129_50 : Int32) (x130_50 : Int32) (x131_50 : Int32) (x132_50 : Int32) (x133_50 : Int32) (x134_50 : Int32) (x135_50 : Int32) (x136_50 : Int32) (x99_50 : Int32) : Option (Int32 × (Nat → Int32) × (Nat → Int32) × (Nat → Int32) × (Nat → Int32) × (Nat → Int32) × (Nat → Int32) × Int32 × Int32 × Int32 × Int32 × Int32 × Int32 × Int32 × Int32 × Int32 × Int32 × Int32 × Int32 × Int32 × Int32 × Int32 × Int32) := match n with
  | 0 => none
  | n + 1 => (if (8 + v98) ≤ l2_50 then (if l1_50 = 0 then (some (x122_50, g118_50, g119_50, g126_50, g127_50, g128_50, g137_50, x117_50, x120_50, x121_50, x122_50, x123_50, x124_50, x125_50, x129_50, x130_50, x131_50, x132_50, x133_50, x134_50, x135_50, x136_50, 0)) else if l1_50 = 1 then (some (x122_50, g118_50, g119_50, g126_50, g127_50, g128_50, g137_50, x117_50, x120_50, x121_50, x122_50, x123_50, x124_50, x125_50, x129_50, x130_50, x131_50, x132_50, x133_50, x134_50, x135_50, x136_50, 1)) else none) else (if l1_50 = 0 then (if l1_50 = 0 then (some (x122_50, g118_50, g119_50, g126_50, g127_50, g128_50, g137_50, x117_50, x120_50, x121_50, x122_50, x123_50, x124_50, x125_50, x129_50, x130_50, x131_50, x132_50, x133_50, x134_50, x135_50, x136_50, 0)) else if l1_50 = 1 then (some (x122_50, g118_50, g119_50, g126_50, g127_50, g128_50, g137_50, x117_50, x120_50, x121_50, x122_50, x123_50, x124_50, x125_50, x129_50, x130_50, x131_50, x132_50, x133_50, x134_50, x135_50, x136_50, 1)) else none) else (lp_vm_verify_67 nf nf v98 v120 v121 v123 v124 v125 v129 v130 v131 v132 v133 v134 v135 v136 f105 f102 f100 f104 f106 f107 f109 f118 f119 f108 f110 f111 f127 f128 f103 f137 f126 nS477 fS477 (lp_vm_verify_50 nf n v98 v120 v121 v123 v124 v125 v129 v130 v131 v132 v133 v134 v135 v136 f105 f102 f100 f104 f106 f107 f109 f118 f119 f108 f110 f111 f127 f128 f103 f137 f126 nS477 fS477) l1_50 l2_50 0 g118_50 g119_50 g126_50 g127_50 g128_50 g137_50 x117_50 x120_50 x121_50 x122_50 x123_50 x124_50 x125_50 x129_50 x130_50 x131_50 x132_50 x133_50 x134_50 x135_50 x136_50 x99_50)))
def jn_vm_verify_47 (nf : Nat) (v98 : Int32) (v120 : Int32) (v121 : Int32) (v123 : Int32) (v124 : Int32) (v125 : Int32) (v129 : Int32) (v130 : Int32) (v131 : Int32) (v132 : Int32) (v133 : Int32) (v134 : Int32) (v135 : Int32) (v136 : Int32) (f105 : Nat → Int32) (f102 : Nat → Int32) (f100 : Nat → Int32) (f104 : Nat → Int32) (f106 : Nat → Int32) (f107 : Nat → Int32) (f109 : Nat → Int32) (f118 : Nat → Int32) (f119 : Nat → Int32) (f108 : Nat → Int32) (f110 : Nat → Int32) (f111 : Nat → Int32) (f127 : Nat → Int32) (f128 : Nat → Int32) (f103 : Nat → Int32) (f137 : Nat → Int32) (f126 : Nat → Int32) (nS477 : Nat) (fS477 : Nat → Int32)  (l1_47 : Int32) (g118_47 : Nat → Int32) (g119_47 : Nat → Int32) (g126_47 : Nat → Int32) (g127_47 : Nat → Int32) (g128_47 : Nat → Int32) (g137_47 : Nat → Int32) (x117_47 : Int32) (x120_47 : Int32) (x121_47 : Int32) (x122_47 : Int32) (x123_47 : Int32) (x124_47 : Int32) (x125_47 : Int32) (x129_47 : Int32) (x130_47 : Int32) (x131_47 : Int32) (x132_47 : Int32) (x133_47 : Int32) (x134_47 : Int32) (x135_47 : Int32) (x136_47 : Int32) (x99_47 : Int32) : Option (Int32 × (Nat → Int32) × (Nat → Int32) × (Nat → Int32) × (Nat → Int32) × (Nat → Int32) × (Nat → Int32) × Int32 × Int32 × Int32 × Int32 × Int32 × Int32 × Int32 × Int32 × Int32 × Int32 × Int32 × Int32 × Int32 × Int32 × Int32 × Int32) := (lp_vm_verify_50 nf nf v98 v120 v121 v123 v124 v125 v129 v130 v131 v132 v133 v134 v135 v136 f105 f102 f100 f104 f106 f107 f109 f118 f119 f108 f110 f111 f127 f128 f103 f137 f126 nS477 fS477  l1_47 8 g118_47 g119_47 g126_47 g127_47 g128_47 g137_47 x117_47 x120_47 x121_47 x122_47 x123_47 x124_47 x125_47 x129_47 x130_47 x131_47 x132_47 x133_47 x134_47 x135_47 x136_47 x99_47)
def lp_vm_verify_20 (nf n : Nat) (v98 : Int32) (v120 : Int32) (v121 : Int32) (v123 : Int32) (v124 : Int32) (v125 : Int32) (v129 : Int32) (v130 : Int32) (v131 : Int32) (v132 : Int32) (v133 : Int32) (v134 : Int32) (v135 : Int32) (v136 : Int32) (f105 : Nat → Int32) (f102 : Nat → Int32) (f100 : Nat → Int32) (f104 : Nat → Int32) (f106 : Nat → Int32) (f107 : Nat → Int32) (f109 : Nat → Int32) (f118 : Nat → Int32) (f119 : Nat → Int32) (f108 : Nat → Int32) (f110 : Nat → Int32) (f111 : Nat → Int32) (f127 : Nat → Int32) (f128 : Nat → Int32) (f103 : Nat → Int32) (f137 : Nat → Int32) (f126 : Nat → Int32) (nS477 : Nat) (fS477 : Nat → Int32)  (l1_20 : Int32) (l2_20 : Int32) (g118_20 : Nat → Int32) (g119_20 : Nat → Int32) (g126_20 : Nat → Int32) (g127_20 : Nat → Int32) (g128_20 : Nat → Int32) (g137_20 : Nat → Int32) (x117_20 : Int32) (x120_20 : Int32) (x121_20 : Int32) (x122_20 : Int32) (x123_20 : Int32) (x124_20 : Int32) (x125_20 : Int32) (x129_20 : Int32) (x130_20 : Int32) (x131_20 : Int32) (x132_20 : Int32) (x133_20 : Int32) (x134_20 : Int32) (x135_20 : Int32) (x136_20 : Int32) (x99_20 : Int32) : Option (Int32 × (Nat → Int32) × (Nat → Int32) × (Nat → Int32) × (Nat → Int32) × (Nat → Int32) × (Nat → Int32) × Int32 × Int32 × Int32 × Int32 × Int32 × Int32 × Int32 × Int32 × Int32 × Int32 × Int32 × Int32 × Int32 × Int32 × Int32 × Int32) := match n with
  | 0 => none
  | n + 1 => (if (8 + v98) ≤ l2_20 then (jn_vm_verify_47 nf v98 v120 v121 v123 v124 v125 v129 v130 v131 v132 v133 v134 v135 v136 f105 f102 f100 f104 f106 f107 f109 f118 f119 f108 f110 f111 f127 f128 f103 f137 f126 nS477 fS477  l1_20 g118_20 g119_20 g126_20 g127_20 g128_20 g137_20 x117_20 x120_20 x121_20 x122_20 x123_20 x124_20 x125_20 x129_20 x130_20 x131_20 x132_20 x133_20 x134_20 x135_20 x136_20 x99_20) else (if l1_20 = 0 then (jn_vm_verify_47 nf v98 v120 v121 v123 v124 v125 v129 v130 v131 v132 v133 v134 v135 v136 f105 f102 f100 f104 f106 f107 f109 f118 f119 f108 f110 f111 f127 f128 f103 f137 f126 nS477 fS477  l1_20 g118_20 g119_20 g126_20 g127_20 g128_20 g137_20 x117_20 x120_20 x121_20 x122_20 x123_20 x124_20 x125_20 x129_20 x130_20 x131_20 x132_20 x133_20 x134_20 x135_20 x136_20 x99_20) else ((sp_vm_classFits nf l2_20 v98 x117_20 x120_20 x121_20 x122_20 x123_20 x124_20 x125_20 f105 f102 f100 f104 f106 f107 f109 g118_20 g119_20 f108 nS477 fS477).bind (fun p1 => (if p1.1 = 0 then (lp_vm_verify_20 nf n v98 v120 v121 v123 v124 v125 v129 v130 v131 v132 v133 v134 v135 v136 f105 f102 f100 f104 f106 f107 f109 f118 f119 f108 f110 f111 f127 f128 f103 f137 f126 nS477 fS477 0 (l2_20 + 1) p1.2.1 p1.2.2.1 g126_20 g127_20 g128_20 g137_20 p1.2.2.2.1 p1.2.2.2.2.1 p1.2.2.2.2.2.1 p1.2.2.2.2.2.2.1 p1.2.2.2.2.2.2.2.1 p1.2.2.2.2.2.2.2.2.1 p1.2.2.2.2.2.2.2.2.2 x129_20 x130_20 x131_20 x132_20 x133_20 x134_20 x135_20 x136_20 x99_20) else (lp_vm_verify_20 nf n v98 v120 v121 v123 v124 v125 v129 v130 v131 v132 v133 v134 v135 v136 f105 f102 f100 f104 f106 f107 f109 f118 f119 f108 f110 f111 f127 f128 f103 f137 f126 nS477 fS477 1 (l2_20 + 1) p1.2.1 p1.2.2.1 g126_20 g127_20 g128_20 g137_20 p1.2.2.2.1 p1.2.2.2.2.1 p1.2.2.2.2.2.1 p1.2.2.2.2.2.2.1 p1.2.2.2.2.2.2.2.1 p1.2.2.2.2.2.2.2.2.1 p1.2.2.2.2.2.2.2.2.2 x129_20 x130_20 x131_20 x132_20 x133_20 x134_20 x135_20 x136_20 x99_20))))))
def sp_vm_verify (nf : Nat) (v98 : Int32) (v120 : Int32) (v121 : Int32) (v123 : Int32) (v124 : Int32) (v125 : Int32) (v129 : Int32) (v130 : Int32) (v131 : Int32) (v132 : Int32) (v133 : Int32) (v134 : Int32) (v135 : Int32) (v136 : Int32) (f105 : Nat → Int32) (f102 : Nat → Int32) (f100 : Nat → Int32) (f104 : Nat → Int32) (f106 : Nat → Int32) (f107 : Nat → Int32) (f109 : Nat → Int32) (f118 : Nat → Int32) (f119 : Nat → Int32) (f108 : Nat → Int32) (f110 : Nat → Int32) (f111 : Nat → Int32) (f127 : Nat → Int32) (f128 : Nat → Int32) (f103 : Nat → Int32) (f137 : Nat → Int32) (f126 : Nat → Int32) (nS477 : Nat) (fS477 : Nat → Int32) : Option (Int32 × (Nat → Int32) × (Nat → Int32) × (Nat → Int32) × (Nat → Int32) × (Nat → Int32) × (Nat → Int32) × Int32 × Int32 × Int32 × Int32 × Int32 × Int32 × Int32 × Int32 × Int32 × Int32 × Int32 × Int32 × Int32 × Int32 × Int32 × Int32) := (lp_vm_verify_20 nf nf v98 v120 v121 v123 v124 v125 v129 v130 v131 v132 v133 v134 v135 v136 f105 f102 f100 f104 f106 f107 f109 f118 f119 f108 f110 f111 f127 f128 f103 f137 f126 nS477 fS477  1 8 f118 f119 f126 f127 f128 f137 0 v120 v121 0 v123 v124 v125 v129 v130 v131 v132 v133 v134 v135 v136 0)

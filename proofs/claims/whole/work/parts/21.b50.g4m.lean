set_option maxHeartbeats 4000000 in
set_option maxRecDepth 100000 in
/-- ClassMillModel.verify -/
theorem vm_verify (l : Launch) (dC : Nat → ClassId) (dI : Nat → Nat → Nat) (sz : Nat) (h0 : Nat) (zs : (List Value)) (v98 : Int32) (v99 : Int32) (qf100 : Nat) (qf102 : Nat) (qf103 : Nat) (qf104 : Nat) (qf105 : Nat) (qf106 : Nat) (qf107 : Nat) (qf108 : Nat) (qf109 : Nat) (qf110 : Nat) (qf111 : Nat) (v117 : Int32) (qf118 : Nat) (qf119 : Nat) (v120 : Int32) (v121 : Int32) (v122 : Int32) (v123 : Int32) (v124 : Int32) (v125 : Int32) (qf126 : Nat) (qf127 : Nat) (qf128 : Nat) (v129 : Int32) (v130 : Int32) (v131 : Int32) (v132 : Int32) (v133 : Int32) (v134 : Int32) (v135 : Int32) (v136 : Int32) (qf137 : Nat) (cf105 : ClassId) (f105 : (Nat → Int32)) (cf102 : ClassId) (f102 : (Nat → Int32)) (cf100 : ClassId) (f100 : (Nat → Int32)) (cf104 : ClassId) (f104 : (Nat → Int32)) (cf106 : ClassId) (f106 : (Nat → Int32)) (cf107 : ClassId) (f107 : (Nat → Int32)) (cf109 : ClassId) (f109 : (Nat → Int32)) (cf118 : ClassId) (f118 : (Nat → Int32)) (cf119 : ClassId) (f119 : (Nat → Int32)) (cf108 : ClassId) (f108 : (Nat → Int32)) (cf110 : ClassId) (f110 : (Nat → Int32)) (cf111 : ClassId) (f111 : (Nat → Int32)) (cf127 : ClassId) (f127 : (Nat → Int32)) (cf128 : ClassId) (f128 : (Nat → Int32)) (cf103 : ClassId) (f103 : (Nat → Int32)) (cf137 : ClassId) (f137 : (Nat → Int32)) (cf126 : ClassId) (f126 : (Nat → Int32)) (nS477 : Nat) (fS477 : (Nat → Int32)) (hS477 : Nat) (qS477 : Nat) (tS477 : String) (nf : Nat) (r0 : Int32) (o118 : (Nat → Int32)) (o119 : (Nat → Int32)) (o126 : (Nat → Int32)) (o127 : (Nat → Int32)) (o128 : (Nat → Int32)) (o137 : (Nat → Int32)) (w117 : Int32) (w120 : Int32) (w121 : Int32) (w122 : Int32) (w123 : Int32) (w124 : Int32) (w125 : Int32) (w129 : Int32) (w130 : Int32) (w131 : Int32) (w132 : Int32) (w133 : Int32) (w134 : Int32) (w135 : Int32) (w136 : Int32) (w99 : Int32) (hlen : zs.length = 155) (hf98 : zs[98]? = some (.int v98)) (hf99 : zs[99]? = some (.int v99)) (hf100 : zs[100]? = some (.ref qf100)) (hf102 : zs[102]? = some (.ref qf102)) (hf103 : zs[103]? = some (.ref qf103)) (hf104 : zs[104]? = some (.ref qf104)) (hf105 : zs[105]? = some (.ref qf105)) (hf106 : zs[106]? = some (.ref qf106)) (hf107 : zs[107]? = some (.ref qf107)) (hf108 : zs[108]? = some (.ref qf108)) (hf109 : zs[109]? = some (.ref qf109)) (hf110 : zs[110]? = some (.ref qf110)) (hf111 : zs[111]? = some (.ref qf111)) (hf117 : zs[117]? = some (.int v117)) (hf118 : zs[118]? = some (.ref qf118)) (hf119 : zs[119]? = some (.ref qf119)) (hf120 : zs[120]? = some (.int v120)) (hf121 : zs[121]? = some (.int v121)) (hf122 : zs[122]? = some (.int v122)) (hf123 : zs[123]? = some (.int v123)) (hf124 : zs[124]? = some (.int v124)) (hf125 : zs[125]? = some (.int v125)) (hf126 : zs[126]? = some (.ref qf126)) (hf127 : zs[127]? = some (.ref qf127)) (hf128 : zs[128]? = some (.ref qf128)) (hf129 : zs[129]? = some (.int v129)) (hf130 : zs[130]? = some (.int v130)) (hf131 : zs[131]? = some (.int v131)) (hf132 : zs[132]? = some (.int v132)) (hf133 : zs[133]? = some (.int v133)) (hf134 : zs[134]? = some (.int v134)) (hf135 : zs[135]? = some (.int v135)) (hf136 : zs[136]? = some (.int v136)) (hf137 : zs[137]? = some (.ref qf137)) (hsp : sp_vm_verify nf v98 v120 v121 v123 v124 v125 v129 v130 v131 v132 v133 v134 v135 v136 f105 f102 f100 f104 f106 f107 f109 f118 f119 f108 f110 f111 f127 f128 f103 f137 f126 nS477 fS477 = some (r0, o118, o119, o126, o127, o128, o137, w117, w120, w121, w122, w123, w124, w125, w129, w130, w131, w132, w133, w134, w135, w136, w99)) : Met l yX13_verify (.code yX13_verify cX13_verify 4 (some .int) :: VS_h9) ({ frames := 15, cells := 0, slots := 0, locals := 356 }) (va_Pc [.ref h0] (fun U => U.heap.size = sz ∧ va_P (dC, dI) vwCl [(h0, .inr (13, zs)), (qf105, .inl (cf105, 8, .inl f105)), (qf102, .inl (cf102, 2048, .inl f102)), (qf100, .inl (cf100, 48000, .inl f100)), (qf104, .inl (cf104, 8, .inl f104)), (qf106, .inl (cf106, 8, .inl f106)), (qf107, .inl (cf107, 96, .inl f107)), (qf109, .inl (cf109, 96, .inl f109)), (qf118, .inl (cf118, 2100, .inl f118)), (qf119, .inl (cf119, 2100, .inl f119)), (qf108, .inl (cf108, 8, .inl f108)), (qf110, .inl (cf110, 96, .inl f110)), (qf111, .inl (cf111, 96, .inl f111)), (qf127, .inl (cf127, 30, .inl f127)), (qf128, .inl (cf128, 31, .inl f128)), (qf103, .inl (cf103, 8, .inl f103)), (qf137, .inl (cf137, 6, .inl f137)), (qf126, .inl (cf126, 1501, .inl f126))] U.heap ∧ va_K (dC, dI) vwCl [(cf105, .int), (cf102, .int), (cf100, .int), (cf104, .int), (cf106, .int), (cf107, .int), (cf109, .int), (cf118, .int), (cf119, .int), (cf108, .int), (cf110, .int), (cf111, .int), (cf127, .int), (cf128, .int), (cf103, .int), (cf137, .int), (cf126, .boolean)] U ∧ va_D (fun _ => True) [(h0, .inr (13, zs)), (qf105, .inl (cf105, 8, .inl f105)), (qf102, .inl (cf102, 2048, .inl f102)), (qf100, .inl (cf100, 48000, .inl f100)), (qf104, .inl (cf104, 8, .inl f104)), (qf106, .inl (cf106, 8, .inl f106)), (qf107, .inl (cf107, 96, .inl f107)), (qf109, .inl (cf109, 96, .inl f109)), (qf118, .inl (cf118, 2100, .inl f118)), (qf119, .inl (cf119, 2100, .inl f119)), (qf108, .inl (cf108, 8, .inl f108)), (qf110, .inl (cf110, 96, .inl f110)), (qf111, .inl (cf111, 96, .inl f111)), (qf127, .inl (cf127, 30, .inl f127)), (qf128, .inl (cf128, 31, .inl f128)), (qf103, .inl (cf103, 8, .inl f103)), (qf137, .inl (cf137, 6, .inl f137)), (qf126, .inl (cf126, 1501, .inl f126))] ∧ pz_W nS477 fS477 hS477 qS477 (va_A [(h0, .inr (13, zs)), (qf105, .inl (cf105, 8, .inl f105)), (qf102, .inl (cf102, 2048, .inl f102)), (qf100, .inl (cf100, 48000, .inl f100)), (qf104, .inl (cf104, 8, .inl f104)), (qf106, .inl (cf106, 8, .inl f106)), (qf107, .inl (cf107, 96, .inl f107)), (qf109, .inl (cf109, 96, .inl f109)), (qf118, .inl (cf118, 2100, .inl f118)), (qf119, .inl (cf119, 2100, .inl f119)), (qf108, .inl (cf108, 8, .inl f108)), (qf110, .inl (cf110, 96, .inl f110)), (qf111, .inl (cf111, 96, .inl f111)), (qf127, .inl (cf127, 30, .inl f127)), (qf128, .inl (cf128, 31, .inl f128)), (qf103, .inl (cf103, 8, .inl f103)), (qf137, .inl (cf137, 6, .inl f137)), (qf126, .inl (cf126, 1501, .inl f126))] sz) U U.heap ∧ vk_R RX13 477 tS477 hS477 U)) (va_Qi (fun (r : Int32) (u : (List Value)) => match u with | (zo1) => r0 = r ∧ zo1.length = 155 ∧ (∀ j : Nat, j ≠ 117 → j ≠ 120 → j ≠ 121 → j ≠ 122 → j ≠ 123 → j ≠ 124 → j ≠ 125 → j ≠ 129 → j ≠ 130 → j ≠ 131 → j ≠ 132 → j ≠ 133 → j ≠ 134 → j ≠ 135 → j ≠ 136 → j ≠ 99 → zo1[j]? = zs[j]?) ∧ zo1[117]? = some (.int w117) ∧ zo1[120]? = some (.int w120) ∧ zo1[121]? = some (.int w121) ∧ zo1[122]? = some (.int w122) ∧ zo1[123]? = some (.int w123) ∧ zo1[124]? = some (.int w124) ∧ zo1[125]? = some (.int w125) ∧ zo1[129]? = some (.int w129) ∧ zo1[130]? = some (.int w130) ∧ zo1[131]? = some (.int w131) ∧ zo1[132]? = some (.int w132) ∧ zo1[133]? = some (.int w133) ∧ zo1[134]? = some (.int w134) ∧ zo1[135]? = some (.int w135) ∧ zo1[136]? = some (.int w136) ∧ zo1[99]? = some (.int w99)) (fun (u : (List Value)) (t : State) => match u with | (zo1) => va_P (dC, dI) vwCl [(h0, .inr (13, zo1)), (qf105, .inl (cf105, 8, .inl f105)), (qf102, .inl (cf102, 2048, .inl f102)), (qf100, .inl (cf100, 48000, .inl f100)), (qf104, .inl (cf104, 8, .inl f104)), (qf106, .inl (cf106, 8, .inl f106)), (qf107, .inl (cf107, 96, .inl f107)), (qf109, .inl (cf109, 96, .inl f109)), (qf118, .inl (cf118, 2100, .inl o118)), (qf119, .inl (cf119, 2100, .inl o119)), (qf108, .inl (cf108, 8, .inl f108)), (qf110, .inl (cf110, 96, .inl f110)), (qf111, .inl (cf111, 96, .inl f111)), (qf127, .inl (cf127, 30, .inl o127)), (qf128, .inl (cf128, 31, .inl o128)), (qf103, .inl (cf103, 8, .inl f103)), (qf137, .inl (cf137, 6, .inl o137)), (qf126, .inl (cf126, 1501, .inl o126))] t.heap ∧ va_K (dC, dI) vwCl [(cf105, .int), (cf102, .int), (cf100, .int), (cf104, .int), (cf106, .int), (cf107, .int), (cf109, .int), (cf118, .int), (cf119, .int), (cf108, .int), (cf110, .int), (cf111, .int), (cf127, .int), (cf128, .int), (cf103, .int), (cf137, .int), (cf126, .boolean)] t ∧ va_D (va_A [(h0, .inr (13, zs)), (qf105, .inl (cf105, 8, .inl f105)), (qf102, .inl (cf102, 2048, .inl f102)), (qf100, .inl (cf100, 48000, .inl f100)), (qf104, .inl (cf104, 8, .inl f104)), (qf106, .inl (cf106, 8, .inl f106)), (qf107, .inl (cf107, 96, .inl f107)), (qf109, .inl (cf109, 96, .inl f109)), (qf118, .inl (cf118, 2100, .inl f118)), (qf119, .inl (cf119, 2100, .inl f119)), (qf108, .inl (cf108, 8, .inl f108)), (qf110, .inl (cf110, 96, .inl f110)), (qf111, .inl (cf111, 96, .inl f111)), (qf127, .inl (cf127, 30, .inl f127)), (qf128, .inl (cf128, 31, .inl f128)), (qf103, .inl (cf103, 8, .inl f103)), (qf137, .inl (cf137, 6, .inl f137)), (qf126, .inl (cf126, 1501, .inl f126))] sz) [(h0, .inr (13, zo1)), (qf105, .inl (cf105, 8, .inl f105)), (qf102, .inl (cf102, 2048, .inl f102)), (qf100, .inl (cf100, 48000, .inl f100)), (qf104, .inl (cf104, 8, .inl f104)), (qf106, .inl (cf106, 8, .inl f106)), (qf107, .inl (cf107, 96, .inl f107)), (qf109, .inl (cf109, 96, .inl f109)), (qf118, .inl (cf118, 2100, .inl o118)), (qf119, .inl (cf119, 2100, .inl o119)), (qf108, .inl (cf108, 8, .inl f108)), (qf110, .inl (cf110, 96, .inl f110)), (qf111, .inl (cf111, 96, .inl f111)), (qf127, .inl (cf127, 30, .inl o127)), (qf128, .inl (cf128, 31, .inl o128)), (qf103, .inl (cf103, 8, .inl f103)), (qf137, .inl (cf137, 6, .inl o137)), (qf126, .inl (cf126, 1501, .inl o126))]) (va_A [(h0, .inr (13, zs)), (qf105, .inl (cf105, 8, .inl f105)), (qf102, .inl (cf102, 2048, .inl f102)), (qf100, .inl (cf100, 48000, .inl f100)), (qf104, .inl (cf104, 8, .inl f104)), (qf106, .inl (cf106, 8, .inl f106)), (qf107, .inl (cf107, 96, .inl f107)), (qf109, .inl (cf109, 96, .inl f109)), (qf118, .inl (cf118, 2100, .inl f118)), (qf119, .inl (cf119, 2100, .inl f119)), (qf108, .inl (cf108, 8, .inl f108)), (qf110, .inl (cf110, 96, .inl f110)), (qf111, .inl (cf111, 96, .inl f111)), (qf127, .inl (cf127, 30, .inl f127)), (qf128, .inl (cf128, 31, .inl f128)), (qf103, .inl (cf103, 8, .inl f103)), (qf137, .inl (cf137, 6, .inl f137)), (qf126, .inl (cf126, 1501, .inl f126))] sz)) 0 0 (va_A [(h0, .inr (13, zs)), (qf105, .inl (cf105, 8, .inl f105)), (qf102, .inl (cf102, 2048, .inl f102)), (qf100, .inl (cf100, 48000, .inl f100)), (qf104, .inl (cf104, 8, .inl f104)), (qf106, .inl (cf106, 8, .inl f106)), (qf107, .inl (cf107, 96, .inl f107)), (qf109, .inl (cf109, 96, .inl f109)), (qf118, .inl (cf118, 2100, .inl f118)), (qf119, .inl (cf119, 2100, .inl f119)), (qf108, .inl (cf108, 8, .inl f108)), (qf110, .inl (cf110, 96, .inl f110)), (qf111, .inl (cf111, 96, .inl f111)), (qf127, .inl (cf127, 30, .inl f127)), (qf128, .inl (cf128, 31, .inl f128)), (qf103, .inl (cf103, 8, .inl f103)), (qf137, .inl (cf137, 6, .inl f137)), (qf126, .inl (cf126, 1501, .inl f126))] sz) := by
  refine Met.ofW (cc := cX13_verify) (maxL := 4) (ret := (some .int)) (by decide) rfl ?_
  intro p e s m args below meth c s₁ B hml hv
  obtain ⟨rfl, hsz, hP, hK, hD0, hZWS477, hZRS477⟩ := hv
  have hx := B.exec
  have hb := B.bytes
  have hr := B.returns
  have hts := atoms_spec (ws := (.code yX13_verify cX13_verify 4 (some .int) :: VS_h9)) B.pre
  replace hts := fun w (h : w ∈ VS_h9) => hts w (List.mem_cons_of_mem _ h)
  have hown : s.vm.findClass RX13 = some m.cls := findClass_of_methodNamed B.named
  have hlocks := B.notSynchronized
  subst hsz
  have hD := hD0.self (sz := s.heap.size)
  generalize hAe : va_A [(h0, .inr (13, zs)), (qf105, .inl (cf105, 8, .inl f105)), (qf102, .inl (cf102, 2048, .inl f102)), (qf100, .inl (cf100, 48000, .inl f100)), (qf104, .inl (cf104, 8, .inl f104)), (qf106, .inl (cf106, 8, .inl f106)), (qf107, .inl (cf107, 96, .inl f107)), (qf109, .inl (cf109, 96, .inl f109)), (qf118, .inl (cf118, 2100, .inl f118)), (qf119, .inl (cf119, 2100, .inl f119)), (qf108, .inl (cf108, 8, .inl f108)), (qf110, .inl (cf110, 96, .inl f110)), (qf111, .inl (cf111, 96, .inl f111)), (qf127, .inl (cf127, 30, .inl f127)), (qf128, .inl (cf128, 31, .inl f128)), (qf103, .inl (cf103, 8, .inl f103)), (qf137, .inl (cf137, 6, .inl f137)), (qf126, .inl (cf126, 1501, .inl f126))] s.heap.size = A at hD hZWS477 ⊢
  have hA : ∀ q : Nat, s.heap.size ≤ q → A q := fun q h => by rw [← hAe]; exact Or.inr h
  have hP : va_P (dC, dI) vwCl [(h0, .inr (13, zs)), (qf105, .inl (cf105, 8, .inl f105)), (qf102, .inl (cf102, 2048, .inl f102)), (qf100, .inl (cf100, 48000, .inl f100)), (qf104, .inl (cf104, 8, .inl f104)), (qf106, .inl (cf106, 8, .inl f106)), (qf107, .inl (cf107, 96, .inl f107)), (qf109, .inl (cf109, 96, .inl f109)), (qf118, .inl (cf118, 2100, .inl f118)), (qf119, .inl (cf119, 2100, .inl f119)), (qf108, .inl (cf108, 8, .inl f108)), (qf110, .inl (cf110, 96, .inl f110)), (qf111, .inl (cf111, 96, .inl f111)), (qf127, .inl (cf127, 30, .inl f127)), (qf128, .inl (cf128, 31, .inl f128)), (qf103, .inl (cf103, 8, .inl f103)), (qf137, .inl (cf137, 6, .inl f137)), (qf126, .inl (cf126, 1501, .inl f126))] s.heap := hP
  have hl := lv_entry ([.ref h0]) (n := 4) (Nat.le_of_ble_eq_true rfl)
  rw [lg_entry_eq]
  generalize (lg_sl ([.ref h0]) ++ List.replicate (4 - (lg_sl ([.ref h0])).length) Slot.unset).toArray = ls at hl ⊢
  have hl : lv_has ls 4 [(0, .ref h0)] := hl
  obtain ⟨H, hH⟩ : ∃ H : Heap, s.heap = H := ⟨_, rfl⟩
  rw [hH] at hP ⊢
  have hS : va_S A s.heap H [] := by rw [← hH]; exact va_S.rf
  obtain ⟨locs, hlo⟩ : ∃ locs : List Loc, locs = [] := ⟨_, rfl⟩
  rw [← hlo] at hS ⊢
  have hrs0 : ∀ j : Nat, j ≠ 117 → j ≠ 120 → j ≠ 121 → j ≠ 122 → j ≠ 123 → j ≠ 124 → j ≠ 125 → j ≠ 129 → j ≠ 130 → j ≠ 131 → j ≠ 132 → j ≠ 133 → j ≠ 134 → j ≠ 135 → j ≠ 136 → j ≠ 99 → zs[j]? = zs[j]? := fun _ _ _ _ _ _ _ _ _ _ _ _ _ _ _ _ _  => rfl
  unfold sp_vm_verify at hsp
  refine jn_use (α := Heap × List Loc × Array Slot × List Value × Int32 × (Nat → Int32) × (Nat → Int32) × (Nat → Int32) × (Nat → Int32) × (Nat → Int32) × (Nat → Int32) × Int32 × Int32 × Int32 × Int32 × Int32 × Int32 × Int32 × Int32 × Int32 × Int32 × Int32 × Int32 × Int32 × Int32 × Int32 × Int32) (fun x9 => x9.1) (fun x9 => x9.2.1) (fun x9 => F0 m 47 x9.2.2.1 []) (fun x9 => match x9 with | (H, locs, ls, z47, l1_47, g118_47, g119_47, g126_47, g127_47, g128_47, g137_47, x117_47, x120_47, x121_47, x122_47, x123_47, x124_47, x125_47, x129_47, x130_47, x131_47, x132_47, x133_47, x134_47, x135_47, x136_47, x99_47) => lv_has ls 4 [(0, .ref h0), (1, .int l1_47)] ∧ va_S A s.heap H locs ∧ va_D A [(h0, .inr (13, z47)), (qf105, .inl (cf105, 8, .inl f105)), (qf102, .inl (cf102, 2048, .inl f102)), (qf100, .inl (cf100, 48000, .inl f100)), (qf104, .inl (cf104, 8, .inl f104)), (qf106, .inl (cf106, 8, .inl f106)), (qf107, .inl (cf107, 96, .inl f107)), (qf109, .inl (cf109, 96, .inl f109)), (qf118, .inl (cf118, 2100, .inl g118_47)), (qf119, .inl (cf119, 2100, .inl g119_47)), (qf108, .inl (cf108, 8, .inl f108)), (qf110, .inl (cf110, 96, .inl f110)), (qf111, .inl (cf111, 96, .inl f111)), (qf127, .inl (cf127, 30, .inl g127_47)), (qf128, .inl (cf128, 31, .inl g128_47)), (qf103, .inl (cf103, 8, .inl f103)), (qf137, .inl (cf137, 6, .inl g137_47)), (qf126, .inl (cf126, 1501, .inl g126_47))] ∧ va_P (dC, dI) vwCl [(h0, .inr (13, z47)), (qf105, .inl (cf105, 8, .inl f105)), (qf102, .inl (cf102, 2048, .inl f102)), (qf100, .inl (cf100, 48000, .inl f100)), (qf104, .inl (cf104, 8, .inl f104)), (qf106, .inl (cf106, 8, .inl f106)), (qf107, .inl (cf107, 96, .inl f107)), (qf109, .inl (cf109, 96, .inl f109)), (qf118, .inl (cf118, 2100, .inl g118_47)), (qf119, .inl (cf119, 2100, .inl g119_47)), (qf108, .inl (cf108, 8, .inl f108)), (qf110, .inl (cf110, 96, .inl f110)), (qf111, .inl (cf111, 96, .inl f111)), (qf127, .inl (cf127, 30, .inl g127_47)), (qf128, .inl (cf128, 31, .inl g128_47)), (qf103, .inl (cf103, 8, .inl f103)), (qf137, .inl (cf137, 6, .inl g137_47)), (qf126, .inl (cf126, 1501, .inl g126_47))] H ∧ z47[98]? = some (.int v98) ∧ z47[99]? = some (.int x99_47) ∧ z47[100]? = some (.ref qf100) ∧ z47[102]? = some (.ref qf102) ∧ z47[103]? = some (.ref qf103) ∧ z47[104]? = some (.ref qf104) ∧ z47[105]? = some (.ref qf105) ∧ z47[106]? = some (.ref qf106) ∧ z47[107]? = some (.ref qf107) ∧ z47[108]? = some (.ref qf108) ∧ z47[109]? = some (.ref qf109) ∧ z47[110]? = some (.ref qf110) ∧ z47[111]? = some (.ref qf111) ∧ z47[117]? = some (.int x117_47) ∧ z47[118]? = some (.ref qf118) ∧ z47[119]? = some (.ref qf119) ∧ z47[120]? = some (.int x120_47) ∧ z47[121]? = some (.int x121_47) ∧ z47[122]? = some (.int x122_47) ∧ z47[123]? = some (.int x123_47) ∧ z47[124]? = some (.int x124_47) ∧ z47[125]? = some (.int x125_47) ∧ z47[126]? = some (.ref qf126) ∧ z47[127]? = some (.ref qf127) ∧ z47[128]? = some (.ref qf128) ∧ z47[129]? = some (.int x129_47) ∧ z47[130]? = some (.int x130_47) ∧ z47[131]? = some (.int x131_47) ∧ z47[132]? = some (.int x132_47) ∧ z47[133]? = some (.int x133_47) ∧ z47[134]? = some (.int x134_47) ∧ z47[135]? = some (.int x135_47) ∧ z47[136]? = some (.int x136_47) ∧ z47[137]? = some (.ref qf137) ∧ z47.length = 155 ∧ (∀ j : Nat, j ≠ 117 → j ≠ 120 → j ≠ 121 → j ≠ 122 → j ≠ 123 → j ≠ 124 → j ≠ 125 → j ≠ 129 → j ≠ 130 → j ≠ 131 → j ≠ 132 → j ≠ 133 → j ≠ 134 → j ≠ 135 → j ≠ 136 → j ≠ 99 → z47[j]? = zs[j]?) ∧ jn_vm_verify_47 nf v98 v120 v121 v123 v124 v125 v129 v130 v131 v132 v133 v134 v135 v136 f105 f102 f100 f104 f106 f107 f109 f118 f119 f108 f110 f111 f127 f128 f103 f137 f126 nS477 fS477 l1_47 g118_47 g119_47 g126_47 g127_47 g128_47 g137_47 x117_47 x120_47 x121_47 x122_47 x123_47 x124_47 x125_47 x129_47 x130_47 x131_47 x132_47 x133_47 x134_47 x135_47 x136_47 x99_47 = some (r0, o118, o119, o126, o127, o128, o137, w117, w120, w121, w122, w123, w124, w125, w129, w130, w131, w132, w133, w134, w135, w136, w99)) ?_ ?_
  · intro x9 hJ9
    obtain ⟨H, locs, ls, z47, l1_47, g118_47, g119_47, g126_47, g127_47, g128_47, g137_47, x117_47, x120_47, x121_47, x122_47, x123_47, x124_47, x125_47, x129_47, x130_47, x131_47, x132_47, x133_47, x134_47, x135_47, x136_47, x99_47⟩ := x9
    obtain ⟨hl, hS, hD, hP, hfh_47_98, hfh_47_99, hfh_47_100, hfh_47_102, hfh_47_103, hfh_47_104, hfh_47_105, hfh_47_106, hfh_47_107, hfh_47_108, hfh_47_109, hfh_47_110, hfh_47_111, hfh_47_117, hfh_47_118, hfh_47_119, hfh_47_120, hfh_47_121, hfh_47_122, hfh_47_123, hfh_47_124, hfh_47_125, hfh_47_126, hfh_47_127, hfh_47_128, hfh_47_129, hfh_47_130, hfh_47_131, hfh_47_132, hfh_47_133, hfh_47_134, hfh_47_135, hfh_47_136, hfh_47_137, hlh_47, hrh_47, hsp⟩ := hJ9
    replace hl : lv_has ls 4 [(0, .ref h0), (1, .int l1_47)] := hl
    replace hS : va_S A s.heap H locs := hS
    replace hD : va_D A [(h0, .inr (13, z47)), (qf105, .inl (cf105, 8, .inl f105)), (qf102, .inl (cf102, 2048, .inl f102)), (qf100, .inl (cf100, 48000, .inl f100)), (qf104, .inl (cf104, 8, .inl f104)), (qf106, .inl (cf106, 8, .inl f106)), (qf107, .inl (cf107, 96, .inl f107)), (qf109, .inl (cf109, 96, .inl f109)), (qf118, .inl (cf118, 2100, .inl g118_47)), (qf119, .inl (cf119, 2100, .inl g119_47)), (qf108, .inl (cf108, 8, .inl f108)), (qf110, .inl (cf110, 96, .inl f110)), (qf111, .inl (cf111, 96, .inl f111)), (qf127, .inl (cf127, 30, .inl g127_47)), (qf128, .inl (cf128, 31, .inl g128_47)), (qf103, .inl (cf103, 8, .inl f103)), (qf137, .inl (cf137, 6, .inl g137_47)), (qf126, .inl (cf126, 1501, .inl g126_47))] := hD
    replace hP : va_P (dC, dI) vwCl [(h0, .inr (13, z47)), (qf105, .inl (cf105, 8, .inl f105)), (qf102, .inl (cf102, 2048, .inl f102)), (qf100, .inl (cf100, 48000, .inl f100)), (qf104, .inl (cf104, 8, .inl f104)), (qf106, .inl (cf106, 8, .inl f106)), (qf107, .inl (cf107, 96, .inl f107)), (qf109, .inl (cf109, 96, .inl f109)), (qf118, .inl (cf118, 2100, .inl g118_47)), (qf119, .inl (cf119, 2100, .inl g119_47)), (qf108, .inl (cf108, 8, .inl f108)), (qf110, .inl (cf110, 96, .inl f110)), (qf111, .inl (cf111, 96, .inl f111)), (qf127, .inl (cf127, 30, .inl g127_47)), (qf128, .inl (cf128, 31, .inl g128_47)), (qf103, .inl (cf103, 8, .inl f103)), (qf137, .inl (cf137, 6, .inl g137_47)), (qf126, .inl (cf126, 1501, .inl g126_47))] H := hP
    replace hsp : jn_vm_verify_47 nf v98 v120 v121 v123 v124 v125 v129 v130 v131 v132 v133 v134 v135 v136 f105 f102 f100 f104 f106 f107 f109 f118 f119 f108 f110 f111 f127 f128 f103 f137 f126 nS477 fS477 l1_47 g118_47 g119_47 g126_47 g127_47 g128_47 g137_47 x117_47 x120_47 x121_47 x122_47 x123_47 x124_47 x125_47 x129_47 x130_47 x131_47 x132_47 x133_47 x134_47 x135_47 x136_47 x99_47 = some (r0, o118, o119, o126, o127, o128, o137, w117, w120, w121, w122, w123, w124, w125, w129, w130, w131, w132, w133, w134, w135, w136, w99) := hsp
    show W _ _ _ _ _ _ _ _ _ _ H locs _ _ _ (F0 m 47 ls [])
    unfold jn_vm_verify_47 at hsp
    try dsimp only at hsp
    refine lv_bipush (v := 8) hx hb dX13_verify_47 (by decide) ?_
    refine lv_istore_n (lv' := [(2, .int 8), (0, .ref h0), (1, .int l1_47)]) hx hb dX13_verify_49 rfl hl (by decide) rfl (fun ls hl => ?_)
    replace hl : lv_has ls 4 [(2, .int 8), (0, .ref h0), (1, .int l1_47)] := lv_sub hl [0, 1, 2] rfl
    replace hP := hP.sub (ws' := [(h0, .inr (13, z47)), (qf105, .inl (cf105, 8, .inl f105)), (qf102, .inl (cf102, 2048, .inl f102)), (qf100, .inl (cf100, 48000, .inl f100)), (qf104, .inl (cf104, 8, .inl f104)), (qf106, .inl (cf106, 8, .inl f106)), (qf107, .inl (cf107, 96, .inl f107)), (qf109, .inl (cf109, 96, .inl f109)), (qf118, .inl (cf118, 2100, .inl g118_47)), (qf119, .inl (cf119, 2100, .inl g119_47)), (qf108, .inl (cf108, 8, .inl f108)), (qf110, .inl (cf110, 96, .inl f110)), (qf111, .inl (cf111, 96, .inl f111)), (qf127, .inl (cf127, 30, .inl g127_47)), (qf128, .inl (cf128, 31, .inl g128_47)), (qf103, .inl (cf103, 8, .inl f103)), (qf137, .inl (cf137, 6, .inl g137_47)), (qf126, .inl (cf126, 1501, .inl g126_47))]) [0, 1, 2, 3, 4, 5, 6, 7, 8, 9, 10, 11, 12, 13, 14, 15, 16, 17] rfl
    replace hD := hD.sub (ws' := [(h0, .inr (13, z47)), (qf105, .inl (cf105, 8, .inl f105)), (qf102, .inl (cf102, 2048, .inl f102)), (qf100, .inl (cf100, 48000, .inl f100)), (qf104, .inl (cf104, 8, .inl f104)), (qf106, .inl (cf106, 8, .inl f106)), (qf107, .inl (cf107, 96, .inl f107)), (qf109, .inl (cf109, 96, .inl f109)), (qf118, .inl (cf118, 2100, .inl g118_47)), (qf119, .inl (cf119, 2100, .inl g119_47)), (qf108, .inl (cf108, 8, .inl f108)), (qf110, .inl (cf110, 96, .inl f110)), (qf111, .inl (cf111, 96, .inl f111)), (qf127, .inl (cf127, 30, .inl g127_47)), (qf128, .inl (cf128, 31, .inl g128_47)), (qf103, .inl (cf103, 8, .inl f103)), (qf137, .inl (cf137, 6, .inl g137_47)), (qf126, .inl (cf126, 1501, .inl g126_47))]) [0, 1, 2, 3, 4, 5, 6, 7, 8, 9, 10, 11, 12, 13, 14, 15, 16, 17] (by decide) rfl
    replace hK := hK.sub (tys' := [(cf105, .int), (cf102, .int), (cf100, .int), (cf104, .int), (cf106, .int), (cf107, .int), (cf109, .int), (cf118, .int), (cf119, .int), (cf108, .int), (cf110, .int), (cf111, .int), (cf127, .int), (cf128, .int), (cf103, .int), (cf137, .int), (cf126, .boolean)]) [0, 1, 2, 3, 4, 5, 6, 7, 8, 9, 10, 11, 12, 13, 14, 15, 16] rfl
    obtain ⟨n_50, hn_50⟩ : ∃ z : Nat, z = nf := ⟨_, rfl⟩
    obtain ⟨l1_50, el1_50⟩ : ∃ z : Int32, z = l1_47 := ⟨_, rfl⟩
    obtain ⟨l2_50, el2_50⟩ : ∃ z : Int32, z = 8 := ⟨_, rfl⟩
    obtain ⟨g118_50, eg118_50⟩ : ∃ z : Nat → Int32, z = g118_47 := ⟨_, rfl⟩
    obtain ⟨g119_50, eg119_50⟩ : ∃ z : Nat → Int32, z = g119_47 := ⟨_, rfl⟩
    obtain ⟨g126_50, eg126_50⟩ : ∃ z : Nat → Int32, z = g126_47 := ⟨_, rfl⟩
    obtain ⟨g127_50, eg127_50⟩ : ∃ z : Nat → Int32, z = g127_47 := ⟨_, rfl⟩
    obtain ⟨g128_50, eg128_50⟩ : ∃ z : Nat → Int32, z = g128_47 := ⟨_, rfl⟩
    obtain ⟨g137_50, eg137_50⟩ : ∃ z : Nat → Int32, z = g137_47 := ⟨_, rfl⟩
    obtain ⟨x117_50, ex117_50⟩ : ∃ z : Int32, z = x117_47 := ⟨_, rfl⟩
    obtain ⟨x120_50, ex120_50⟩ : ∃ z : Int32, z = x120_47 := ⟨_, rfl⟩
    obtain ⟨x121_50, ex121_50⟩ : ∃ z : Int32, z = x121_47 := ⟨_, rfl⟩
    obtain ⟨x122_50, ex122_50⟩ : ∃ z : Int32, z = x122_47 := ⟨_, rfl⟩
    obtain ⟨x123_50, ex123_50⟩ : ∃ z : Int32, z = x123_47 := ⟨_, rfl⟩
    obtain ⟨x124_50, ex124_50⟩ : ∃ z : Int32, z = x124_47 := ⟨_, rfl⟩
    obtain ⟨x125_50, ex125_50⟩ : ∃ z : Int32, z = x125_47 := ⟨_, rfl⟩
    obtain ⟨x129_50, ex129_50⟩ : ∃ z : Int32, z = x129_47 := ⟨_, rfl⟩
    obtain ⟨x130_50, ex130_50⟩ : ∃ z : Int32, z = x130_47 := ⟨_, rfl⟩
    obtain ⟨x131_50, ex131_50⟩ : ∃ z : Int32, z = x131_47 := ⟨_, rfl⟩
    obtain ⟨x132_50, ex132_50⟩ : ∃ z : Int32, z = x132_47 := ⟨_, rfl⟩
    obtain ⟨x133_50, ex133_50⟩ : ∃ z : Int32, z = x133_47 := ⟨_, rfl⟩
    obtain ⟨x134_50, ex134_50⟩ : ∃ z : Int32, z = x134_47 := ⟨_, rfl⟩
    obtain ⟨x135_50, ex135_50⟩ : ∃ z : Int32, z = x135_47 := ⟨_, rfl⟩
    obtain ⟨x136_50, ex136_50⟩ : ∃ z : Int32, z = x136_47 := ⟨_, rfl⟩
    obtain ⟨x99_50, ex99_50⟩ : ∃ z : Int32, z = x99_47 := ⟨_, rfl⟩
    replace hsp : lp_vm_verify_50 nf n_50 v98 v120 v121 v123 v124 v125 v129 v130 v131 v132 v133 v134 v135 v136 f105 f102 f100 f104 f106 f107 f109 f118 f119 f108 f110 f111 f127 f128 f103 f137 f126 nS477 fS477 l1_50 l2_50 g118_50 g119_50 g126_50 g127_50 g128_50 g137_50 x117_50 x120_50 x121_50 x122_50 x123_50 x124_50 x125_50 x129_50 x130_50 x131_50 x132_50 x133_50 x134_50 x135_50 x136_50 x99_50 = some (r0, o118, o119, o126, o127, o128, o137, w117, w120, w121, w122, w123, w124, w125, w129, w130, w131, w132, w133, w134, w135, w136, w99) := by rw [hn_50, el1_50, el2_50, eg118_50, eg119_50, eg126_50, eg127_50, eg128_50, eg137_50, ex117_50, ex120_50, ex121_50, ex122_50, ex123_50, ex124_50, ex125_50, ex129_50, ex130_50, ex131_50, ex132_50, ex133_50, ex134_50, ex135_50, ex136_50, ex99_50]; exact hsp
    replace hl : lv_has ls 4 [(2, .int l2_50), (0, .ref h0), (1, .int l1_50)] := by rw [el1_50, el2_50]; exact hl
    obtain ⟨z50, ez50⟩ : ∃ z : List Value, z = z47 := ⟨_, rfl⟩
    have hfh_50_98 : z50[98]? = some (.int v98) := by rw [ez50]; exact hfh_47_98
    have hfh_50_99 : z50[99]? = some (.int x99_50) := by rw [ez50, ex99_50]; exact hfh_47_99
    have hfh_50_100 : z50[100]? = some (.ref qf100) := by rw [ez50]; exact hfh_47_100
    have hfh_50_102 : z50[102]? = some (.ref qf102) := by rw [ez50]; exact hfh_47_102
    have hfh_50_103 : z50[103]? = some (.ref qf103) := by rw [ez50]; exact hfh_47_103
    have hfh_50_104 : z50[104]? = some (.ref qf104) := by rw [ez50]; exact hfh_47_104
    have hfh_50_105 : z50[105]? = some (.ref qf105) := by rw [ez50]; exact hfh_47_105
    have hfh_50_106 : z50[106]? = some (.ref qf106) := by rw [ez50]; exact hfh_47_106
    have hfh_50_107 : z50[107]? = some (.ref qf107) := by rw [ez50]; exact hfh_47_107
    have hfh_50_108 : z50[108]? = some (.ref qf108) := by rw [ez50]; exact hfh_47_108
    have hfh_50_109 : z50[109]? = some (.ref qf109) := by rw [ez50]; exact hfh_47_109
    have hfh_50_110 : z50[110]? = some (.ref qf110) := by rw [ez50]; exact hfh_47_110
    have hfh_50_111 : z50[111]? = some (.ref qf111) := by rw [ez50]; exact hfh_47_111
    have hfh_50_117 : z50[117]? = some (.int x117_50) := by rw [ez50, ex117_50]; exact hfh_47_117
    have hfh_50_118 : z50[118]? = some (.ref qf118) := by rw [ez50]; exact hfh_47_118
    have hfh_50_119 : z50[119]? = some (.ref qf119) := by rw [ez50]; exact hfh_47_119
    have hfh_50_120 : z50[120]? = some (.int x120_50) := by rw [ez50, ex120_50]; exact hfh_47_120
    have hfh_50_121 : z50[121]? = some (.int x121_50) := by rw [ez50, ex121_50]; exact hfh_47_121
    have hfh_50_122 : z50[122]? = some (.int x122_50) := by rw [ez50, ex122_50]; exact hfh_47_122
    have hfh_50_123 : z50[123]? = some (.int x123_50) := by rw [ez50, ex123_50]; exact hfh_47_123
    have hfh_50_124 : z50[124]? = some (.int x124_50) := by rw [ez50, ex124_50]; exact hfh_47_124
    have hfh_50_125 : z50[125]? = some (.int x125_50) := by rw [ez50, ex125_50]; exact hfh_47_125
    have hfh_50_126 : z50[126]? = some (.ref qf126) := by rw [ez50]; exact hfh_47_126
    have hfh_50_127 : z50[127]? = some (.ref qf127) := by rw [ez50]; exact hfh_47_127
    have hfh_50_128 : z50[128]? = some (.ref qf128) := by rw [ez50]; exact hfh_47_128
    have hfh_50_129 : z50[129]? = some (.int x129_50) := by rw [ez50, ex129_50]; exact hfh_47_129
    have hfh_50_130 : z50[130]? = some (.int x130_50) := by rw [ez50, ex130_50]; exact hfh_47_130
    have hfh_50_131 : z50[131]? = some (.int x131_50) := by rw [ez50, ex131_50]; exact hfh_47_131
    have hfh_50_132 : z50[132]? = some (.int x132_50) := by rw [ez50, ex132_50]; exact hfh_47_132
    have hfh_50_133 : z50[133]? = some (.int x133_50) := by rw [ez50, ex133_50]; exact hfh_47_133
    have hfh_50_134 : z50[134]? = some (.int x134_50) := by rw [ez50, ex134_50]; exact hfh_47_134
    have hfh_50_135 : z50[135]? = some (.int x135_50) := by rw [ez50, ex135_50]; exact hfh_47_135
    have hfh_50_136 : z50[136]? = some (.int x136_50) := by rw [ez50, ex136_50]; exact hfh_47_136
    have hfh_50_137 : z50[137]? = some (.ref qf137) := by rw [ez50]; exact hfh_47_137
    have hlh_50 : z50.length = 155 := by rw [ez50]; exact hlh_47
    have hrh_50 : ∀ j : Nat, j ≠ 117 → j ≠ 120 → j ≠ 121 → j ≠ 122 → j ≠ 123 → j ≠ 124 → j ≠ 125 → j ≠ 129 → j ≠ 130 → j ≠ 131 → j ≠ 132 → j ≠ 133 → j ≠ 134 → j ≠ 135 → j ≠ 136 → j ≠ 99 → z50[j]? = zs[j]? := by rw [ez50]; exact hrh_47
    replace hP : va_P (dC, dI) vwCl [(h0, .inr (13, z50)), (qf105, .inl (cf105, 8, .inl f105)), (qf102, .inl (cf102, 2048, .inl f102)), (qf100, .inl (cf100, 48000, .inl f100)), (qf104, .inl (cf104, 8, .inl f104)), (qf106, .inl (cf106, 8, .inl f106)), (qf107, .inl (cf107, 96, .inl f107)), (qf109, .inl (cf109, 96, .inl f109)), (qf118, .inl (cf118, 2100, .inl g118_50)), (qf119, .inl (cf119, 2100, .inl g119_50)), (qf108, .inl (cf108, 8, .inl f108)), (qf110, .inl (cf110, 96, .inl f110)), (qf111, .inl (cf111, 96, .inl f111)), (qf127, .inl (cf127, 30, .inl g127_50)), (qf128, .inl (cf128, 31, .inl g128_50)), (qf103, .inl (cf103, 8, .inl f103)), (qf137, .inl (cf137, 6, .inl g137_50)), (qf126, .inl (cf126, 1501, .inl g126_50))] H := by rw [ez50, eg118_50, eg119_50, eg126_50, eg127_50, eg128_50, eg137_50]; exact hP
    replace hD : va_D A [(h0, .inr (13, z50)), (qf105, .inl (cf105, 8, .inl f105)), (qf102, .inl (cf102, 2048, .inl f102)), (qf100, .inl (cf100, 48000, .inl f100)), (qf104, .inl (cf104, 8, .inl f104)), (qf106, .inl (cf106, 8, .inl f106)), (qf107, .inl (cf107, 96, .inl f107)), (qf109, .inl (cf109, 96, .inl f109)), (qf118, .inl (cf118, 2100, .inl g118_50)), (qf119, .inl (cf119, 2100, .inl g119_50)), (qf108, .inl (cf108, 8, .inl f108)), (qf110, .inl (cf110, 96, .inl f110)), (qf111, .inl (cf111, 96, .inl f111)), (qf127, .inl (cf127, 30, .inl g127_50)), (qf128, .inl (cf128, 31, .inl g128_50)), (qf103, .inl (cf103, 8, .inl f103)), (qf137, .inl (cf137, 6, .inl g137_50)), (qf126, .inl (cf126, 1501, .inl g126_50))] := by rw [ez50, eg118_50, eg119_50, eg126_50, eg127_50, eg128_50, eg137_50]; exact hD
    clear hn_50 ez50 el1_50 el2_50 eg118_50 eg119_50 eg126_50 eg127_50 eg128_50 eg137_50 ex117_50 ex120_50 ex121_50 ex122_50 ex123_50 ex124_50 ex125_50 ex129_50 ex130_50 ex131_50 ex132_50 ex133_50 ex134_50 ex135_50 ex136_50 ex99_50
    try clear hlo
    try clear hH
    revert hsp
    revert hP
    revert hD
    revert hS
    revert hl
    revert hrh_50
    revert hlh_50
    revert hfh_50_137
    revert hfh_50_136
    revert hfh_50_135
    revert hfh_50_134
    revert hfh_50_133
    revert hfh_50_132
    revert hfh_50_131
    revert hfh_50_130
    revert hfh_50_129
    revert hfh_50_128
    revert hfh_50_127
    revert hfh_50_126
    revert hfh_50_125
    revert hfh_50_124
    revert hfh_50_123
    revert hfh_50_122
    revert hfh_50_121
    revert hfh_50_120
    revert hfh_50_119
    revert hfh_50_118
    revert hfh_50_117
    revert hfh_50_111
    revert hfh_50_110
    revert hfh_50_109
    revert hfh_50_108
    revert hfh_50_107
    revert hfh_50_106
    revert hfh_50_105
    revert hfh_50_104
    revert hfh_50_103
    revert hfh_50_102
    revert hfh_50_100
    revert hfh_50_99
    revert hfh_50_98
    revert x99_50
    revert x136_50
    revert x135_50
    revert x134_50
    revert x133_50
    revert x132_50
    revert x131_50
    revert x130_50
    revert x129_50
    revert x125_50
    revert x124_50
    revert x123_50
    revert x122_50
    revert x121_50
    revert x120_50
    revert x117_50
    revert g137_50
    revert g128_50
    revert g127_50
    revert g126_50
    revert g119_50
    revert g118_50
    revert l2_50
    revert l1_50
    revert z50
    revert ls
    revert locs
    revert H
    induction n_50 with
    | zero => intro H locs ls z50 l1_50 l2_50 g118_50 g119_50 g126_50 g127_50 g128_50 g137_50 x117_50 x120_50 x121_50 x122_50 x123_50 x124_50 x125_50 x129_50 x130_50 x131_50 x132_50 x133_50 x134_50 x135_50 x136_50 x99_50 hfh_50_98 hfh_50_99 hfh_50_100 hfh_50_102 hfh_50_103 hfh_50_104 hfh_50_105 hfh_50_106 hfh_50_107 hfh_50_108 hfh_50_109 hfh_50_110 hfh_50_111 hfh_50_117 hfh_50_118 hfh_50_119 hfh_50_120 hfh_50_121 hfh_50_122 hfh_50_123 hfh_50_124 hfh_50_125 hfh_50_126 hfh_50_127 hfh_50_128 hfh_50_129 hfh_50_130 hfh_50_131 hfh_50_132 hfh_50_133 hfh_50_134 hfh_50_135 hfh_50_136 hfh_50_137 hlh_50 hrh_50 hl hS hD hP hsp; unfold lp_vm_verify_50 at hsp; cases hsp
    | succ n_50 ih_50 =>
      intro H locs ls z50 l1_50 l2_50 g118_50 g119_50 g126_50 g127_50 g128_50 g137_50 x117_50 x120_50 x121_50 x122_50 x123_50 x124_50 x125_50 x129_50 x130_50 x131_50 x132_50 x133_50 x134_50 x135_50 x136_50 x99_50 hfh_50_98 hfh_50_99 hfh_50_100 hfh_50_102 hfh_50_103 hfh_50_104 hfh_50_105 hfh_50_106 hfh_50_107 hfh_50_108 hfh_50_109 hfh_50_110 hfh_50_111 hfh_50_117 hfh_50_118 hfh_50_119 hfh_50_120 hfh_50_121 hfh_50_122 hfh_50_123 hfh_50_124 hfh_50_125 hfh_50_126 hfh_50_127 hfh_50_128 hfh_50_129 hfh_50_130 hfh_50_131 hfh_50_132 hfh_50_133 hfh_50_134 hfh_50_135 hfh_50_136 hfh_50_137 hlh_50 hrh_50 hl hS hD hP hsp
      unfold lp_vm_verify_50 at hsp
      try dsimp only at hsp
      refine lv_iload_n hx hb dX13_verify_50 rfl (lv_at hl 0 rfl) ?_
      refine lv_bipush (v := 8) hx hb dX13_verify_51 (by decide) ?_
      refine lv_aload_n hx hb dX13_verify_53 rfl (lv_at hl 1 rfl) ?_
      refine va_get (D := (dC, dI)) (ci := 13) (v := .int v98) (C := RX13) (T := TX13) (N := 155) hx hb hts uV_h9_X13 hown hK hP 0 rfl rfl 98 (by decide) (hts (.fieldLink RX13 833 "ClassMillModel" "there" "I") mw_h9_276) (fun _ h9 => h9) hfh_50_98 dX13_verify_54 ?_
      refine lv_iadd hx hb dX13_verify_57 ?_
      refine lv_icmp_ge (tgt := 103) hx hb dX13_verify_58 (by decide) (fun c_10 => ?_) (fun c_10 => ?_)
      · rw [if_pos c_10] at hsp
        refine lv_aload_n hx hb dX13_verify_103 rfl (lv_at hl 1 rfl) ?_
        refine lv_iload_n hx hb dX13_verify_104 rfl (lv_at hl 2 rfl) ?_
        rcases ox_01 hsp with ⟨rfl, hsp⟩ | ⟨rfl, hsp⟩
        · skip
          refine va_put (D := (dC, dI)) (ci := 13) (v := .int 0) (ty := .boolean) (C := RX13) (T := TX13) (N := 155) hx hb hts uV_h9_X13 tyX13 tyX13_ok nmX13 hown hK hP hD hS 0 rfl rfl 99 (by decide) (hts (.fieldLink RX13 855 "ClassMillModel" "verified" "Z") mw_h9_363) (fun _ h9 => h9) rfl (by decide +kernel) rfl rfl (by rw [hlh_50]; decide) dX13_verify_105 ?_
          clear hP hD hS
          intro H locs hP hD hS
          obtain ⟨fs_11, efs_11⟩ : ∃ zf : List Value, zf = z50.set 99 (.int 0) := ⟨_, rfl⟩
          rw [← efs_11] at hP hD
          have hlfs_11 : fs_11.length = 155 := by rw [efs_11, List.length_set]; exact hlh_50
          have hfs_11_98 : fs_11[98]? = some (.int v98) := by rw [efs_11, List.getElem?_set_ne (by decide)]; exact hfh_50_98
          have hfs_11_100 : fs_11[100]? = some (.ref qf100) := by rw [efs_11, List.getElem?_set_ne (by decide)]; exact hfh_50_100
          have hfs_11_102 : fs_11[102]? = some (.ref qf102) := by rw [efs_11, List.getElem?_set_ne (by decide)]; exact hfh_50_102
          have hfs_11_103 : fs_11[103]? = some (.ref qf103) := by rw [efs_11, List.getElem?_set_ne (by decide)]; exact hfh_50_103
          have hfs_11_104 : fs_11[104]? = some (.ref qf104) := by rw [efs_11, List.getElem?_set_ne (by decide)]; exact hfh_50_104
          have hfs_11_105 : fs_11[105]? = some (.ref qf105) := by rw [efs_11, List.getElem?_set_ne (by decide)]; exact hfh_50_105
          have hfs_11_106 : fs_11[106]? = some (.ref qf106) := by rw [efs_11, List.getElem?_set_ne (by decide)]; exact hfh_50_106
          have hfs_11_107 : fs_11[107]? = some (.ref qf107) := by rw [efs_11, List.getElem?_set_ne (by decide)]; exact hfh_50_107
          have hfs_11_108 : fs_11[108]? = some (.ref qf108) := by rw [efs_11, List.getElem?_set_ne (by decide)]; exact hfh_50_108
          have hfs_11_109 : fs_11[109]? = some (.ref qf109) := by rw [efs_11, List.getElem?_set_ne (by decide)]; exact hfh_50_109
          have hfs_11_110 : fs_11[110]? = some (.ref qf110) := by rw [efs_11, List.getElem?_set_ne (by decide)]; exact hfh_50_110
          have hfs_11_111 : fs_11[111]? = some (.ref qf111) := by rw [efs_11, List.getElem?_set_ne (by decide)]; exact hfh_50_111
          have hfs_11_117 : fs_11[117]? = some (.int x117_50) := by rw [efs_11, List.getElem?_set_ne (by decide)]; exact hfh_50_117
          have hfs_11_118 : fs_11[118]? = some (.ref qf118) := by rw [efs_11, List.getElem?_set_ne (by decide)]; exact hfh_50_118
          have hfs_11_119 : fs_11[119]? = some (.ref qf119) := by rw [efs_11, List.getElem?_set_ne (by decide)]; exact hfh_50_119
          have hfs_11_120 : fs_11[120]? = some (.int x120_50) := by rw [efs_11, List.getElem?_set_ne (by decide)]; exact hfh_50_120
          have hfs_11_121 : fs_11[121]? = some (.int x121_50) := by rw [efs_11, List.getElem?_set_ne (by decide)]; exact hfh_50_121
          have hfs_11_122 : fs_11[122]? = some (.int x122_50) := by rw [efs_11, List.getElem?_set_ne (by decide)]; exact hfh_50_122
          have hfs_11_123 : fs_11[123]? = some (.int x123_50) := by rw [efs_11, List.getElem?_set_ne (by decide)]; exact hfh_50_123
          have hfs_11_124 : fs_11[124]? = some (.int x124_50) := by rw [efs_11, List.getElem?_set_ne (by decide)]; exact hfh_50_124
          have hfs_11_125 : fs_11[125]? = some (.int x125_50) := by rw [efs_11, List.getElem?_set_ne (by decide)]; exact hfh_50_125
          have hfs_11_126 : fs_11[126]? = some (.ref qf126) := by rw [efs_11, List.getElem?_set_ne (by decide)]; exact hfh_50_126
          have hfs_11_127 : fs_11[127]? = some (.ref qf127) := by rw [efs_11, List.getElem?_set_ne (by decide)]; exact hfh_50_127
          have hfs_11_128 : fs_11[128]? = some (.ref qf128) := by rw [efs_11, List.getElem?_set_ne (by decide)]; exact hfh_50_128
          have hfs_11_129 : fs_11[129]? = some (.int x129_50) := by rw [efs_11, List.getElem?_set_ne (by decide)]; exact hfh_50_129
          have hfs_11_130 : fs_11[130]? = some (.int x130_50) := by rw [efs_11, List.getElem?_set_ne (by decide)]; exact hfh_50_130
          have hfs_11_131 : fs_11[131]? = some (.int x131_50) := by rw [efs_11, List.getElem?_set_ne (by decide)]; exact hfh_50_131
          have hfs_11_132 : fs_11[132]? = some (.int x132_50) := by rw [efs_11, List.getElem?_set_ne (by decide)]; exact hfh_50_132
          have hfs_11_133 : fs_11[133]? = some (.int x133_50) := by rw [efs_11, List.getElem?_set_ne (by decide)]; exact hfh_50_133
          have hfs_11_134 : fs_11[134]? = some (.int x134_50) := by rw [efs_11, List.getElem?_set_ne (by decide)]; exact hfh_50_134
          have hfs_11_135 : fs_11[135]? = some (.int x135_50) := by rw [efs_11, List.getElem?_set_ne (by decide)]; exact hfh_50_135
          have hfs_11_136 : fs_11[136]? = some (.int x136_50) := by rw [efs_11, List.getElem?_set_ne (by decide)]; exact hfh_50_136
          have hfs_11_137 : fs_11[137]? = some (.ref qf137) := by rw [efs_11, List.getElem?_set_ne (by decide)]; exact hfh_50_137
          have hfs_11_99 : fs_11[99]? = some (.int 0) := by rw [efs_11, List.getElem?_set_self (by rw [hlh_50]; decide)]
          replace hP : va_P (dC, dI) vwCl [(h0, .inr (13, fs_11)), (qf105, .inl (cf105, 8, .inl f105)), (qf102, .inl (cf102, 2048, .inl f102)), (qf100, .inl (cf100, 48000, .inl f100)), (qf104, .inl (cf104, 8, .inl f104)), (qf106, .inl (cf106, 8, .inl f106)), (qf107, .inl (cf107, 96, .inl f107)), (qf109, .inl (cf109, 96, .inl f109)), (qf118, .inl (cf118, 2100, .inl g118_50)), (qf119, .inl (cf119, 2100, .inl g119_50)), (qf108, .inl (cf108, 8, .inl f108)), (qf110, .inl (cf110, 96, .inl f110)), (qf111, .inl (cf111, 96, .inl f111)), (qf127, .inl (cf127, 30, .inl g127_50)), (qf128, .inl (cf128, 31, .inl g128_50)), (qf103, .inl (cf103, 8, .inl f103)), (qf137, .inl (cf137, 6, .inl g137_50)), (qf126, .inl (cf126, 1501, .inl g126_50))] H := hP
          replace hD : va_D A [(h0, .inr (13, fs_11)), (qf105, .inl (cf105, 8, .inl f105)), (qf102, .inl (cf102, 2048, .inl f102)), (qf100, .inl (cf100, 48000, .inl f100)), (qf104, .inl (cf104, 8, .inl f104)), (qf106, .inl (cf106, 8, .inl f106)), (qf107, .inl (cf107, 96, .inl f107)), (qf109, .inl (cf109, 96, .inl f109)), (qf118, .inl (cf118, 2100, .inl g118_50)), (qf119, .inl (cf119, 2100, .inl g119_50)), (qf108, .inl (cf108, 8, .inl f108)), (qf110, .inl (cf110, 96, .inl f110)), (qf111, .inl (cf111, 96, .inl f111)), (qf127, .inl (cf127, 30, .inl g127_50)), (qf128, .inl (cf128, 31, .inl g128_50)), (qf103, .inl (cf103, 8, .inl f103)), (qf137, .inl (cf137, 6, .inl g137_50)), (qf126, .inl (cf126, 1501, .inl g126_50))] := hD
          have hrs_12 : ∀ j : Nat, j ≠ 117 → j ≠ 120 → j ≠ 121 → j ≠ 122 → j ≠ 123 → j ≠ 124 → j ≠ 125 → j ≠ 129 → j ≠ 130 → j ≠ 131 → j ≠ 132 → j ≠ 133 → j ≠ 134 → j ≠ 135 → j ≠ 136 → j ≠ 99 → fs_11[j]? = zs[j]? := fun j g117 g120 g121 g122 g123 g124 g125 g129 g130 g131 g132 g133 g134 g135 g136 g99 => ((congrArg (fun z : List Value => z[j]?) efs_11).trans (List.getElem?_set_ne (Ne.symm g99))).trans (hrh_50 j g117 g120 g121 g122 g123 g124 g125 g129 g130 g131 g132 g133 g134 g135 g136 g99)
          refine lv_aload_n hx hb dX13_verify_108 rfl (lv_at hl 1 rfl) ?_
          refine va_get (D := (dC, dI)) (ci := 13) (v := .int x122_50) (C := RX13) (T := TX13) (N := 155) hx hb hts uV_h9_X13 hown hK hP 0 rfl rfl 122 (by decide) (hts (.fieldLink RX13 901 "ClassMillModel" "why" "I") mw_h9_648) (fun _ h9 => h9) hfs_11_122 dX13_verify_109 ?_
          have hr0 := Option.some.inj hsp
          clear hsp
          obtain ⟨hq0, hr1⟩ := Prod.mk.inj hr0
          clear hr0
          obtain ⟨hq1, hr2⟩ := Prod.mk.inj hr1
          clear hr1
          obtain ⟨hq2, hr3⟩ := Prod.mk.inj hr2
          clear hr2
          obtain ⟨hq3, hr4⟩ := Prod.mk.inj hr3
          clear hr3
          obtain ⟨hq4, hr5⟩ := Prod.mk.inj hr4
          clear hr4
          obtain ⟨hq5, hr6⟩ := Prod.mk.inj hr5
          clear hr5
          obtain ⟨hq6, hr7⟩ := Prod.mk.inj hr6
          clear hr6
          obtain ⟨hq7, hr8⟩ := Prod.mk.inj hr7
          clear hr7
          obtain ⟨hq8, hr9⟩ := Prod.mk.inj hr8
          clear hr8
          obtain ⟨hq9, hr10⟩ := Prod.mk.inj hr9
          clear hr9
          obtain ⟨hq10, hr11⟩ := Prod.mk.inj hr10
          clear hr10
          obtain ⟨hq11, hr12⟩ := Prod.mk.inj hr11
          clear hr11
          obtain ⟨hq12, hr13⟩ := Prod.mk.inj hr12
          clear hr12
          obtain ⟨hq13, hr14⟩ := Prod.mk.inj hr13
          clear hr13
          obtain ⟨hq14, hr15⟩ := Prod.mk.inj hr14
          clear hr14
          obtain ⟨hq15, hr16⟩ := Prod.mk.inj hr15
          clear hr15
          obtain ⟨hq16, hr17⟩ := Prod.mk.inj hr16
          clear hr16
          obtain ⟨hq17, hr18⟩ := Prod.mk.inj hr17
          clear hr17
          obtain ⟨hq18, hr19⟩ := Prod.mk.inj hr18
          clear hr18
          obtain ⟨hq19, hr20⟩ := Prod.mk.inj hr19
          clear hr19
          obtain ⟨hq20, hr21⟩ := Prod.mk.inj hr20
          clear hr20
          obtain ⟨hq21, hr22⟩ := Prod.mk.inj hr21
          clear hr21
          subst hq0
          subst hq1
          subst hq2
          subst hq3
          subst hq4
          subst hq5
          subst hq6
          subst hq7
          subst hq8
          subst hq9
          subst hq10
          subst hq11
          subst hq12
          subst hq13
          subst hq14
          subst hq15
          subst hq16
          subst hq17
          subst hq18
          subst hq19
          subst hq20
          subst hq21
          subst hr22
          have hP9 := hP.sub (ws' := [(h0, .inr (13, fs_11)), (qf105, .inl (cf105, 8, .inl f105)), (qf102, .inl (cf102, 2048, .inl f102)), (qf100, .inl (cf100, 48000, .inl f100)), (qf104, .inl (cf104, 8, .inl f104)), (qf106, .inl (cf106, 8, .inl f106)), (qf107, .inl (cf107, 96, .inl f107)), (qf109, .inl (cf109, 96, .inl f109)), (qf118, .inl (cf118, 2100, .inl g118_50)), (qf119, .inl (cf119, 2100, .inl g119_50)), (qf108, .inl (cf108, 8, .inl f108)), (qf110, .inl (cf110, 96, .inl f110)), (qf111, .inl (cf111, 96, .inl f111)), (qf127, .inl (cf127, 30, .inl g127_50)), (qf128, .inl (cf128, 31, .inl g128_50)), (qf103, .inl (cf103, 8, .inl f103)), (qf137, .inl (cf137, 6, .inl g137_50)), (qf126, .inl (cf126, 1501, .inl g126_50))]) [0, 1, 2, 3, 4, 5, 6, 7, 8, 9, 10, 11, 12, 13, 14, 15, 16, 17] rfl
          have hD9 := hD.sub (ws' := [(h0, .inr (13, fs_11)), (qf105, .inl (cf105, 8, .inl f105)), (qf102, .inl (cf102, 2048, .inl f102)), (qf100, .inl (cf100, 48000, .inl f100)), (qf104, .inl (cf104, 8, .inl f104)), (qf106, .inl (cf106, 8, .inl f106)), (qf107, .inl (cf107, 96, .inl f107)), (qf109, .inl (cf109, 96, .inl f109)), (qf118, .inl (cf118, 2100, .inl g118_50)), (qf119, .inl (cf119, 2100, .inl g119_50)), (qf108, .inl (cf108, 8, .inl f108)), (qf110, .inl (cf110, 96, .inl f110)), (qf111, .inl (cf111, 96, .inl f111)), (qf127, .inl (cf127, 30, .inl g127_50)), (qf128, .inl (cf128, 31, .inl g128_50)), (qf103, .inl (cf103, 8, .inl f103)), (qf137, .inl (cf137, 6, .inl g137_50)), (qf126, .inl (cf126, 1501, .inl g126_50))]) [0, 1, 2, 3, 4, 5, 6, 7, 8, 9, 10, 11, 12, 13, 14, 15, 16, 17] (by decide) rfl
          have hK9 := hK.sub (tys' := [(cf105, .int), (cf102, .int), (cf100, .int), (cf104, .int), (cf106, .int), (cf107, .int), (cf109, .int), (cf118, .int), (cf119, .int), (cf108, .int), (cf110, .int), (cf111, .int), (cf127, .int), (cf128, .int), (cf103, .int), (cf137, .int), (cf126, .boolean)]) [0, 1, 2, 3, 4, 5, 6, 7, 8, 9, 10, 11, 12, 13, 14, 15, 16] rfl
          exact W.iret hx hb hr (fun t ht hW => ⟨⟨(x122_50), (fs_11), rfl, ⟨rfl, hlfs_11, hrs_12, hfs_11_117, hfs_11_120, hfs_11_121, hfs_11_122, hfs_11_123, hfs_11_124, hfs_11_125, hfs_11_129, hfs_11_130, hfs_11_131, hfs_11_132, hfs_11_133, hfs_11_134, hfs_11_135, hfs_11_136, hfs_11_99⟩, by rw [ht]; exact hP9, va_K.moved hW.alike hK9, hD9⟩, hS.F ht⟩) hS.2.2 dX13_verify_112
        · skip
          refine va_put (D := (dC, dI)) (ci := 13) (v := .int 1) (ty := .boolean) (C := RX13) (T := TX13) (N := 155) hx hb hts uV_h9_X13 tyX13 tyX13_ok nmX13 hown hK hP hD hS 0 rfl rfl 99 (by decide) (hts (.fieldLink RX13 855 "ClassMillModel" "verified" "Z") mw_h9_363) (fun _ h9 => h9) rfl (by decide +kernel) rfl rfl (by rw [hlh_50]; decide) dX13_verify_105 ?_
          clear hP hD hS
          intro H locs hP hD hS
          obtain ⟨fs_13, efs_13⟩ : ∃ zf : List Value, zf = z50.set 99 (.int 1) := ⟨_, rfl⟩
          rw [← efs_13] at hP hD
          have hlfs_13 : fs_13.length = 155 := by rw [efs_13, List.length_set]; exact hlh_50
          have hfs_13_98 : fs_13[98]? = some (.int v98) := by rw [efs_13, List.getElem?_set_ne (by decide)]; exact hfh_50_98
          have hfs_13_100 : fs_13[100]? = some (.ref qf100) := by rw [efs_13, List.getElem?_set_ne (by decide)]; exact hfh_50_100
          have hfs_13_102 : fs_13[102]? = some (.ref qf102) := by rw [efs_13, List.getElem?_set_ne (by decide)]; exact hfh_50_102
          have hfs_13_103 : fs_13[103]? = some (.ref qf103) := by rw [efs_13, List.getElem?_set_ne (by decide)]; exact hfh_50_103
          have hfs_13_104 : fs_13[104]? = some (.ref qf104) := by rw [efs_13, List.getElem?_set_ne (by decide)]; exact hfh_50_104
          have hfs_13_105 : fs_13[105]? = some (.ref qf105) := by rw [efs_13, List.getElem?_set_ne (by decide)]; exact hfh_50_105
          have hfs_13_106 : fs_13[106]? = some (.ref qf106) := by rw [efs_13, List.getElem?_set_ne (by decide)]; exact hfh_50_106
          have hfs_13_107 : fs_13[107]? = some (.ref qf107) := by rw [efs_13, List.getElem?_set_ne (by decide)]; exact hfh_50_107
          have hfs_13_108 : fs_13[108]? = some (.ref qf108) := by rw [efs_13, List.getElem?_set_ne (by decide)]; exact hfh_50_108
          have hfs_13_109 : fs_13[109]? = some (.ref qf109) := by rw [efs_13, List.getElem?_set_ne (by decide)]; exact hfh_50_109
          have hfs_13_110 : fs_13[110]? = some (.ref qf110) := by rw [efs_13, List.getElem?_set_ne (by decide)]; exact hfh_50_110
          have hfs_13_111 : fs_13[111]? = some (.ref qf111) := by rw [efs_13, List.getElem?_set_ne (by decide)]; exact hfh_50_111
          have hfs_13_117 : fs_13[117]? = some (.int x117_50) := by rw [efs_13, List.getElem?_set_ne (by decide)]; exact hfh_50_117
          have hfs_13_118 : fs_13[118]? = some (.ref qf118) := by rw [efs_13, List.getElem?_set_ne (by decide)]; exact hfh_50_118
          have hfs_13_119 : fs_13[119]? = some (.ref qf119) := by rw [efs_13, List.getElem?_set_ne (by decide)]; exact hfh_50_119
          have hfs_13_120 : fs_13[120]? = some (.int x120_50) := by rw [efs_13, List.getElem?_set_ne (by decide)]; exact hfh_50_120
          have hfs_13_121 : fs_13[121]? = some (.int x121_50) := by rw [efs_13, List.getElem?_set_ne (by decide)]; exact hfh_50_121
          have hfs_13_122 : fs_13[122]? = some (.int x122_50) := by rw [efs_13, List.getElem?_set_ne (by decide)]; exact hfh_50_122
          have hfs_13_123 : fs_13[123]? = some (.int x123_50) := by rw [efs_13, List.getElem?_set_ne (by decide)]; exact hfh_50_123
          have hfs_13_124 : fs_13[124]? = some (.int x124_50) := by rw [efs_13, List.getElem?_set_ne (by decide)]; exact hfh_50_124
          have hfs_13_125 : fs_13[125]? = some (.int x125_50) := by rw [efs_13, List.getElem?_set_ne (by decide)]; exact hfh_50_125
          have hfs_13_126 : fs_13[126]? = some (.ref qf126) := by rw [efs_13, List.getElem?_set_ne (by decide)]; exact hfh_50_126
          have hfs_13_127 : fs_13[127]? = some (.ref qf127) := by rw [efs_13, List.getElem?_set_ne (by decide)]; exact hfh_50_127
          have hfs_13_128 : fs_13[128]? = some (.ref qf128) := by rw [efs_13, List.getElem?_set_ne (by decide)]; exact hfh_50_128
          have hfs_13_129 : fs_13[129]? = some (.int x129_50) := by rw [efs_13, List.getElem?_set_ne (by decide)]; exact hfh_50_129
          have hfs_13_130 : fs_13[130]? = some (.int x130_50) := by rw [efs_13, List.getElem?_set_ne (by decide)]; exact hfh_50_130
          have hfs_13_131 : fs_13[131]? = some (.int x131_50) := by rw [efs_13, List.getElem?_set_ne (by decide)]; exact hfh_50_131
          have hfs_13_132 : fs_13[132]? = some (.int x132_50) := by rw [efs_13, List.getElem?_set_ne (by decide)]; exact hfh_50_132
          have hfs_13_133 : fs_13[133]? = some (.int x133_50) := by rw [efs_13, List.getElem?_set_ne (by decide)]; exact hfh_50_133
          have hfs_13_134 : fs_13[134]? = some (.int x134_50) := by rw [efs_13, List.getElem?_set_ne (by decide)]; exact hfh_50_134
          have hfs_13_135 : fs_13[135]? = some (.int x135_50) := by rw [efs_13, List.getElem?_set_ne (by decide)]; exact hfh_50_135
          have hfs_13_136 : fs_13[136]? = some (.int x136_50) := by rw [efs_13, List.getElem?_set_ne (by decide)]; exact hfh_50_136
          have hfs_13_137 : fs_13[137]? = some (.ref qf137) := by rw [efs_13, List.getElem?_set_ne (by decide)]; exact hfh_50_137
          have hfs_13_99 : fs_13[99]? = some (.int 1) := by rw [efs_13, List.getElem?_set_self (by rw [hlh_50]; decide)]
          replace hP : va_P (dC, dI) vwCl [(h0, .inr (13, fs_13)), (qf105, .inl (cf105, 8, .inl f105)), (qf102, .inl (cf102, 2048, .inl f102)), (qf100, .inl (cf100, 48000, .inl f100)), (qf104, .inl (cf104, 8, .inl f104)), (qf106, .inl (cf106, 8, .inl f106)), (qf107, .inl (cf107, 96, .inl f107)), (qf109, .inl (cf109, 96, .inl f109)), (qf118, .inl (cf118, 2100, .inl g118_50)), (qf119, .inl (cf119, 2100, .inl g119_50)), (qf108, .inl (cf108, 8, .inl f108)), (qf110, .inl (cf110, 96, .inl f110)), (qf111, .inl (cf111, 96, .inl f111)), (qf127, .inl (cf127, 30, .inl g127_50)), (qf128, .inl (cf128, 31, .inl g128_50)), (qf103, .inl (cf103, 8, .inl f103)), (qf137, .inl (cf137, 6, .inl g137_50)), (qf126, .inl (cf126, 1501, .inl g126_50))] H := hP
          replace hD : va_D A [(h0, .inr (13, fs_13)), (qf105, .inl (cf105, 8, .inl f105)), (qf102, .inl (cf102, 2048, .inl f102)), (qf100, .inl (cf100, 48000, .inl f100)), (qf104, .inl (cf104, 8, .inl f104)), (qf106, .inl (cf106, 8, .inl f106)), (qf107, .inl (cf107, 96, .inl f107)), (qf109, .inl (cf109, 96, .inl f109)), (qf118, .inl (cf118, 2100, .inl g118_50)), (qf119, .inl (cf119, 2100, .inl g119_50)), (qf108, .inl (cf108, 8, .inl f108)), (qf110, .inl (cf110, 96, .inl f110)), (qf111, .inl (cf111, 96, .inl f111)), (qf127, .inl (cf127, 30, .inl g127_50)), (qf128, .inl (cf128, 31, .inl g128_50)), (qf103, .inl (cf103, 8, .inl f103)), (qf137, .inl (cf137, 6, .inl g137_50)), (qf126, .inl (cf126, 1501, .inl g126_50))] := hD
          have hrs_14 : ∀ j : Nat, j ≠ 117 → j ≠ 120 → j ≠ 121 → j ≠ 122 → j ≠ 123 → j ≠ 124 → j ≠ 125 → j ≠ 129 → j ≠ 130 → j ≠ 131 → j ≠ 132 → j ≠ 133 → j ≠ 134 → j ≠ 135 → j ≠ 136 → j ≠ 99 → fs_13[j]? = zs[j]? := fun j g117 g120 g121 g122 g123 g124 g125 g129 g130 g131 g132 g133 g134 g135 g136 g99 => ((congrArg (fun z : List Value => z[j]?) efs_13).trans (List.getElem?_set_ne (Ne.symm g99))).trans (hrh_50 j g117 g120 g121 g122 g123 g124 g125 g129 g130 g131 g132 g133 g134 g135 g136 g99)
          refine lv_aload_n hx hb dX13_verify_108 rfl (lv_at hl 1 rfl) ?_
          refine va_get (D := (dC, dI)) (ci := 13) (v := .int x122_50) (C := RX13) (T := TX13) (N := 155) hx hb hts uV_h9_X13 hown hK hP 0 rfl rfl 122 (by decide) (hts (.fieldLink RX13 901 "ClassMillModel" "why" "I") mw_h9_648) (fun _ h9 => h9) hfs_13_122 dX13_verify_109 ?_
          have hr0 := Option.some.inj hsp
          clear hsp
          obtain ⟨hq0, hr1⟩ := Prod.mk.inj hr0
          clear hr0
          obtain ⟨hq1, hr2⟩ := Prod.mk.inj hr1
          clear hr1
          obtain ⟨hq2, hr3⟩ := Prod.mk.inj hr2
          clear hr2
          obtain ⟨hq3, hr4⟩ := Prod.mk.inj hr3
          clear hr3
          obtain ⟨hq4, hr5⟩ := Prod.mk.inj hr4
          clear hr4
          obtain ⟨hq5, hr6⟩ := Prod.mk.inj hr5
          clear hr5
          obtain ⟨hq6, hr7⟩ := Prod.mk.inj hr6
          clear hr6
          obtain ⟨hq7, hr8⟩ := Prod.mk.inj hr7
          clear hr7
          obtain ⟨hq8, hr9⟩ := Prod.mk.inj hr8
          clear hr8
          obtain ⟨hq9, hr10⟩ := Prod.mk.inj hr9
          clear hr9
          obtain ⟨hq10, hr11⟩ := Prod.mk.inj hr10
          clear hr10
          obtain ⟨hq11, hr12⟩ := Prod.mk.inj hr11
          clear hr11
          obtain ⟨hq12, hr13⟩ := Prod.mk.inj hr12
          clear hr12
          obtain ⟨hq13, hr14⟩ := Prod.mk.inj hr13
          clear hr13
          obtain ⟨hq14, hr15⟩ := Prod.mk.inj hr14
          clear hr14
          obtain ⟨hq15, hr16⟩ := Prod.mk.inj hr15
          clear hr15
          obtain ⟨hq16, hr17⟩ := Prod.mk.inj hr16
          clear hr16
          obtain ⟨hq17, hr18⟩ := Prod.mk.inj hr17
          clear hr17
          obtain ⟨hq18, hr19⟩ := Prod.mk.inj hr18
          clear hr18
          obtain ⟨hq19, hr20⟩ := Prod.mk.inj hr19
          clear hr19
          obtain ⟨hq20, hr21⟩ := Prod.mk.inj hr20
          clear hr20
          obtain ⟨hq21, hr22⟩ := Prod.mk.inj hr21
          clear hr21
          subst hq0
          subst hq1
          subst hq2
          subst hq3
          subst hq4
          subst hq5
          subst hq6
          subst hq7
          subst hq8
          subst hq9
          subst hq10
          subst hq11
          subst hq12
          subst hq13
          subst hq14
          subst hq15
          subst hq16
          subst hq17
          subst hq18
          subst hq19
          subst hq20
          subst hq21
          subst hr22
          have hP9 := hP.sub (ws' := [(h0, .inr (13, fs_13)), (qf105, .inl (cf105, 8, .inl f105)), (qf102, .inl (cf102, 2048, .inl f102)), (qf100, .inl (cf100, 48000, .inl f100)), (qf104, .inl (cf104, 8, .inl f104)), (qf106, .inl (cf106, 8, .inl f106)), (qf107, .inl (cf107, 96, .inl f107)), (qf109, .inl (cf109, 96, .inl f109)), (qf118, .inl (cf118, 2100, .inl g118_50)), (qf119, .inl (cf119, 2100, .inl g119_50)), (qf108, .inl (cf108, 8, .inl f108)), (qf110, .inl (cf110, 96, .inl f110)), (qf111, .inl (cf111, 96, .inl f111)), (qf127, .inl (cf127, 30, .inl g127_50)), (qf128, .inl (cf128, 31, .inl g128_50)), (qf103, .inl (cf103, 8, .inl f103)), (qf137, .inl (cf137, 6, .inl g137_50)), (qf126, .inl (cf126, 1501, .inl g126_50))]) [0, 1, 2, 3, 4, 5, 6, 7, 8, 9, 10, 11, 12, 13, 14, 15, 16, 17] rfl
          have hD9 := hD.sub (ws' := [(h0, .inr (13, fs_13)), (qf105, .inl (cf105, 8, .inl f105)), (qf102, .inl (cf102, 2048, .inl f102)), (qf100, .inl (cf100, 48000, .inl f100)), (qf104, .inl (cf104, 8, .inl f104)), (qf106, .inl (cf106, 8, .inl f106)), (qf107, .inl (cf107, 96, .inl f107)), (qf109, .inl (cf109, 96, .inl f109)), (qf118, .inl (cf118, 2100, .inl g118_50)), (qf119, .inl (cf119, 2100, .inl g119_50)), (qf108, .inl (cf108, 8, .inl f108)), (qf110, .inl (cf110, 96, .inl f110)), (qf111, .inl (cf111, 96, .inl f111)), (qf127, .inl (cf127, 30, .inl g127_50)), (qf128, .inl (cf128, 31, .inl g128_50)), (qf103, .inl (cf103, 8, .inl f103)), (qf137, .inl (cf137, 6, .inl g137_50)), (qf126, .inl (cf126, 1501, .inl g126_50))]) [0, 1, 2, 3, 4, 5, 6, 7, 8, 9, 10, 11, 12, 13, 14, 15, 16, 17] (by decide) rfl
          have hK9 := hK.sub (tys' := [(cf105, .int), (cf102, .int), (cf100, .int), (cf104, .int), (cf106, .int), (cf107, .int), (cf109, .int), (cf118, .int), (cf119, .int), (cf108, .int), (cf110, .int), (cf111, .int), (cf127, .int), (cf128, .int), (cf103, .int), (cf137, .int), (cf126, .boolean)]) [0, 1, 2, 3, 4, 5, 6, 7, 8, 9, 10, 11, 12, 13, 14, 15, 16] rfl
          exact W.iret hx hb hr (fun t ht hW => ⟨⟨(x122_50), (fs_13), rfl, ⟨rfl, hlfs_13, hrs_14, hfs_13_117, hfs_13_120, hfs_13_121, hfs_13_122, hfs_13_123, hfs_13_124, hfs_13_125, hfs_13_129, hfs_13_130, hfs_13_131, hfs_13_132, hfs_13_133, hfs_13_134, hfs_13_135, hfs_13_136, hfs_13_99⟩, by rw [ht]; exact hP9, va_K.moved hW.alike hK9, hD9⟩, hS.F ht⟩) hS.2.2 dX13_verify_112
      · rw [if_neg c_10] at hsp
        refine lv_iload_n hx hb dX13_verify_61 rfl (lv_at hl 2 rfl) ?_
        refine lv_if_eq (tgt := 103) hx hb dX13_verify_62 (by decide) (fun c_15 => ?_) (fun c_15 => ?_)
        · rw [if_pos c_15] at hsp
          refine lv_aload_n hx hb dX13_verify_103 rfl (lv_at hl 1 rfl) ?_
          refine lv_iload_n hx hb dX13_verify_104 rfl (lv_at hl 2 rfl) ?_
          rcases ox_01 hsp with ⟨rfl, hsp⟩ | ⟨rfl, hsp⟩
          · skip
            refine va_put (D := (dC, dI)) (ci := 13) (v := .int 0) (ty := .boolean) (C := RX13) (T := TX13) (N := 155) hx hb hts uV_h9_X13 tyX13 tyX13_ok nmX13 hown hK hP hD hS 0 rfl rfl 99 (by decide) (hts (.fieldLink RX13 855 "ClassMillModel" "verified" "Z") mw_h9_363) (fun _ h9 => h9) rfl (by decide +kernel) rfl rfl (by rw [hlh_50]; decide) dX13_verify_105 ?_
            clear hP hD hS
            intro H locs hP hD hS
            obtain ⟨fs_16, efs_16⟩ : ∃ zf : List Value, zf = z50.set 99 (.int 0) := ⟨_, rfl⟩
            rw [← efs_16] at hP hD
            have hlfs_16 : fs_16.length = 155 := by rw [efs_16, List.length_set]; exact hlh_50
            have hfs_16_98 : fs_16[98]? = some (.int v98) := by rw [efs_16, List.getElem?_set_ne (by decide)]; exact hfh_50_98
            have hfs_16_100 : fs_16[100]? = some (.ref qf100) := by rw [efs_16, List.getElem?_set_ne (by decide)]; exact hfh_50_100
            have hfs_16_102 : fs_16[102]? = some (.ref qf102) := by rw [efs_16, List.getElem?_set_ne (by decide)]; exact hfh_50_102
            have hfs_16_103 : fs_16[103]? = some (.ref qf103) := by rw [efs_16, List.getElem?_set_ne (by decide)]; exact hfh_50_103
            have hfs_16_104 : fs_16[104]? = some (.ref qf104) := by rw [efs_16, List.getElem?_set_ne (by decide)]; exact hfh_50_104
            have hfs_16_105 : fs_16[105]? = some (.ref qf105) := by rw [efs_16, List.getElem?_set_ne (by decide)]; exact hfh_50_105
            have hfs_16_106 : fs_16[106]? = some (.ref qf106) := by rw [efs_16, List.getElem?_set_ne (by decide)]; exact hfh_50_106
            have hfs_16_107 : fs_16[107]? = some (.ref qf107) := by rw [efs_16, List.getElem?_set_ne (by decide)]; exact hfh_50_107
            have hfs_16_108 : fs_16[108]? = some (.ref qf108) := by rw [efs_16, List.getElem?_set_ne (by decide)]; exact hfh_50_108
            have hfs_16_109 : fs_16[109]? = some (.ref qf109) := by rw [efs_16, List.getElem?_set_ne (by decide)]; exact hfh_50_109
            have hfs_16_110 : fs_16[110]? = some (.ref qf110) := by rw [efs_16, List.getElem?_set_ne (by decide)]; exact hfh_50_110
            have hfs_16_111 : fs_16[111]? = some (.ref qf111) := by rw [efs_16, List.getElem?_set_ne (by decide)]; exact hfh_50_111
            have hfs_16_117 : fs_16[117]? = some (.int x117_50) := by rw [efs_16, List.getElem?_set_ne (by decide)]; exact hfh_50_117
            have hfs_16_118 : fs_16[118]? = some (.ref qf118) := by rw [efs_16, List.getElem?_set_ne (by decide)]; exact hfh_50_118
            have hfs_16_119 : fs_16[119]? = some (.ref qf119) := by rw [efs_16, List.getElem?_set_ne (by decide)]; exact hfh_50_119
            have hfs_16_120 : fs_16[120]? = some (.int x120_50) := by rw [efs_16, List.getElem?_set_ne (by decide)]; exact hfh_50_120
            have hfs_16_121 : fs_16[121]? = some (.int x121_50) := by rw [efs_16, List.getElem?_set_ne (by decide)]; exact hfh_50_121
            have hfs_16_122 : fs_16[122]? = some (.int x122_50) := by rw [efs_16, List.getElem?_set_ne (by decide)]; exact hfh_50_122
            have hfs_16_123 : fs_16[123]? = some (.int x123_50) := by rw [efs_16, List.getElem?_set_ne (by decide)]; exact hfh_50_123
            have hfs_16_124 : fs_16[124]? = some (.int x124_50) := by rw [efs_16, List.getElem?_set_ne (by decide)]; exact hfh_50_124
            have hfs_16_125 : fs_16[125]? = some (.int x125_50) := by rw [efs_16, List.getElem?_set_ne (by decide)]; exact hfh_50_125
            have hfs_16_126 : fs_16[126]? = some (.ref qf126) := by rw [efs_16, List.getElem?_set_ne (by decide)]; exact hfh_50_126
            have hfs_16_127 : fs_16[127]? = some (.ref qf127) := by rw [efs_16, List.getElem?_set_ne (by decide)]; exact hfh_50_127
            have hfs_16_128 : fs_16[128]? = some (.ref qf128) := by rw [efs_16, List.getElem?_set_ne (by decide)]; exact hfh_50_128
            have hfs_16_129 : fs_16[129]? = some (.int x129_50) := by rw [efs_16, List.getElem?_set_ne (by decide)]; exact hfh_50_129
            have hfs_16_130 : fs_16[130]? = some (.int x130_50) := by rw [efs_16, List.getElem?_set_ne (by decide)]; exact hfh_50_130
            have hfs_16_131 : fs_16[131]? = some (.int x131_50) := by rw [efs_16, List.getElem?_set_ne (by decide)]; exact hfh_50_131
            have hfs_16_132 : fs_16[132]? = some (.int x132_50) := by rw [efs_16, List.getElem?_set_ne (by decide)]; exact hfh_50_132
            have hfs_16_133 : fs_16[133]? = some (.int x133_50) := by rw [efs_16, List.getElem?_set_ne (by decide)]; exact hfh_50_133
            have hfs_16_134 : fs_16[134]? = some (.int x134_50) := by rw [efs_16, List.getElem?_set_ne (by decide)]; exact hfh_50_134
            have hfs_16_135 : fs_16[135]? = some (.int x135_50) := by rw [efs_16, List.getElem?_set_ne (by decide)]; exact hfh_50_135
            have hfs_16_136 : fs_16[136]? = some (.int x136_50) := by rw [efs_16, List.getElem?_set_ne (by decide)]; exact hfh_50_136
            have hfs_16_137 : fs_16[137]? = some (.ref qf137) := by rw [efs_16, List.getElem?_set_ne (by decide)]; exact hfh_50_137
            have hfs_16_99 : fs_16[99]? = some (.int 0) := by rw [efs_16, List.getElem?_set_self (by rw [hlh_50]; decide)]
            replace hP : va_P (dC, dI) vwCl [(h0, .inr (13, fs_16)), (qf105, .inl (cf105, 8, .inl f105)), (qf102, .inl (cf102, 2048, .inl f102)), (qf100, .inl (cf100, 48000, .inl f100)), (qf104, .inl (cf104, 8, .inl f104)), (qf106, .inl (cf106, 8, .inl f106)), (qf107, .inl (cf107, 96, .inl f107)), (qf109, .inl (cf109, 96, .inl f109)), (qf118, .inl (cf118, 2100, .inl g118_50)), (qf119, .inl (cf119, 2100, .inl g119_50)), (qf108, .inl (cf108, 8, .inl f108)), (qf110, .inl (cf110, 96, .inl f110)), (qf111, .inl (cf111, 96, .inl f111)), (qf127, .inl (cf127, 30, .inl g127_50)), (qf128, .inl (cf128, 31, .inl g128_50)), (qf103, .inl (cf103, 8, .inl f103)), (qf137, .inl (cf137, 6, .inl g137_50)), (qf126, .inl (cf126, 1501, .inl g126_50))] H := hP
            replace hD : va_D A [(h0, .inr (13, fs_16)), (qf105, .inl (cf105, 8, .inl f105)), (qf102, .inl (cf102, 2048, .inl f102)), (qf100, .inl (cf100, 48000, .inl f100)), (qf104, .inl (cf104, 8, .inl f104)), (qf106, .inl (cf106, 8, .inl f106)), (qf107, .inl (cf107, 96, .inl f107)), (qf109, .inl (cf109, 96, .inl f109)), (qf118, .inl (cf118, 2100, .inl g118_50)), (qf119, .inl (cf119, 2100, .inl g119_50)), (qf108, .inl (cf108, 8, .inl f108)), (qf110, .inl (cf110, 96, .inl f110)), (qf111, .inl (cf111, 96, .inl f111)), (qf127, .inl (cf127, 30, .inl g127_50)), (qf128, .inl (cf128, 31, .inl g128_50)), (qf103, .inl (cf103, 8, .inl f103)), (qf137, .inl (cf137, 6, .inl g137_50)), (qf126, .inl (cf126, 1501, .inl g126_50))] := hD
            have hrs_17 : ∀ j : Nat, j ≠ 117 → j ≠ 120 → j ≠ 121 → j ≠ 122 → j ≠ 123 → j ≠ 124 → j ≠ 125 → j ≠ 129 → j ≠ 130 → j ≠ 131 → j ≠ 132 → j ≠ 133 → j ≠ 134 → j ≠ 135 → j ≠ 136 → j ≠ 99 → fs_16[j]? = zs[j]? := fun j g117 g120 g121 g122 g123 g124 g125 g129 g130 g131 g132 g133 g134 g135 g136 g99 => ((congrArg (fun z : List Value => z[j]?) efs_16).trans (List.getElem?_set_ne (Ne.symm g99))).trans (hrh_50 j g117 g120 g121 g122 g123 g124 g125 g129 g130 g131 g132 g133 g134 g135 g136 g99)
            refine lv_aload_n hx hb dX13_verify_108 rfl (lv_at hl 1 rfl) ?_
            refine va_get (D := (dC, dI)) (ci := 13) (v := .int x122_50) (C := RX13) (T := TX13) (N := 155) hx hb hts uV_h9_X13 hown hK hP 0 rfl rfl 122 (by decide) (hts (.fieldLink RX13 901 "ClassMillModel" "why" "I") mw_h9_648) (fun _ h9 => h9) hfs_16_122 dX13_verify_109 ?_
            have hr0 := Option.some.inj hsp
            clear hsp
            obtain ⟨hq0, hr1⟩ := Prod.mk.inj hr0
            clear hr0
            obtain ⟨hq1, hr2⟩ := Prod.mk.inj hr1
            clear hr1
            obtain ⟨hq2, hr3⟩ := Prod.mk.inj hr2
            clear hr2
            obtain ⟨hq3, hr4⟩ := Prod.mk.inj hr3
            clear hr3
            obtain ⟨hq4, hr5⟩ := Prod.mk.inj hr4
            clear hr4
            obtain ⟨hq5, hr6⟩ := Prod.mk.inj hr5
            clear hr5
            obtain ⟨hq6, hr7⟩ := Prod.mk.inj hr6
            clear hr6
            obtain ⟨hq7, hr8⟩ := Prod.mk.inj hr7
            clear hr7
            obtain ⟨hq8, hr9⟩ := Prod.mk.inj hr8
            clear hr8
            obtain ⟨hq9, hr10⟩ := Prod.mk.inj hr9
            clear hr9
            obtain ⟨hq10, hr11⟩ := Prod.mk.inj hr10
            clear hr10
            obtain ⟨hq11, hr12⟩ := Prod.mk.inj hr11
            clear hr11
            obtain ⟨hq12, hr13⟩ := Prod.mk.inj hr12
            clear hr12
            obtain ⟨hq13, hr14⟩ := Prod.mk.inj hr13
            clear hr13
            obtain ⟨hq14, hr15⟩ := Prod.mk.inj hr14
            clear hr14
            obtain ⟨hq15, hr16⟩ := Prod.mk.inj hr15
            clear hr15
            obtain ⟨hq16, hr17⟩ := Prod.mk.inj hr16
            clear hr16
            obtain ⟨hq17, hr18⟩ := Prod.mk.inj hr17
            clear hr17
            obtain ⟨hq18, hr19⟩ := Prod.mk.inj hr18
            clear hr18
            obtain ⟨hq19, hr20⟩ := Prod.mk.inj hr19
            clear hr19
            obtain ⟨hq20, hr21⟩ := Prod.mk.inj hr20
            clear hr20
            obtain ⟨hq21, hr22⟩ := Prod.mk.inj hr21
            clear hr21
            subst hq0
            subst hq1
            subst hq2
            subst hq3
            subst hq4
            subst hq5
            subst hq6
            subst hq7
            subst hq8
            subst hq9
            subst hq10
            subst hq11
            subst hq12
            subst hq13
            subst hq14
            subst hq15
            subst hq16
            subst hq17
            subst hq18
            subst hq19
            subst hq20
            subst hq21
            subst hr22
            have hP9 := hP.sub (ws' := [(h0, .inr (13, fs_16)), (qf105, .inl (cf105, 8, .inl f105)), (qf102, .inl (cf102, 2048, .inl f102)), (qf100, .inl (cf100, 48000, .inl f100)), (qf104, .inl (cf104, 8, .inl f104)), (qf106, .inl (cf106, 8, .inl f106)), (qf107, .inl (cf107, 96, .inl f107)), (qf109, .inl (cf109, 96, .inl f109)), (qf118, .inl (cf118, 2100, .inl g118_50)), (qf119, .inl (cf119, 2100, .inl g119_50)), (qf108, .inl (cf108, 8, .inl f108)), (qf110, .inl (cf110, 96, .inl f110)), (qf111, .inl (cf111, 96, .inl f111)), (qf127, .inl (cf127, 30, .inl g127_50)), (qf128, .inl (cf128, 31, .inl g128_50)), (qf103, .inl (cf103, 8, .inl f103)), (qf137, .inl (cf137, 6, .inl g137_50)), (qf126, .inl (cf126, 1501, .inl g126_50))]) [0, 1, 2, 3, 4, 5, 6, 7, 8, 9, 10, 11, 12, 13, 14, 15, 16, 17] rfl
            have hD9 := hD.sub (ws' := [(h0, .inr (13, fs_16)), (qf105, .inl (cf105, 8, .inl f105)), (qf102, .inl (cf102, 2048, .inl f102)), (qf100, .inl (cf100, 48000, .inl f100)), (qf104, .inl (cf104, 8, .inl f104)), (qf106, .inl (cf106, 8, .inl f106)), (qf107, .inl (cf107, 96, .inl f107)), (qf109, .inl (cf109, 96, .inl f109)), (qf118, .inl (cf118, 2100, .inl g118_50)), (qf119, .inl (cf119, 2100, .inl g119_50)), (qf108, .inl (cf108, 8, .inl f108)), (qf110, .inl (cf110, 96, .inl f110)), (qf111, .inl (cf111, 96, .inl f111)), (qf127, .inl (cf127, 30, .inl g127_50)), (qf128, .inl (cf128, 31, .inl g128_50)), (qf103, .inl (cf103, 8, .inl f103)), (qf137, .inl (cf137, 6, .inl g137_50)), (qf126, .inl (cf126, 1501, .inl g126_50))]) [0, 1, 2, 3, 4, 5, 6, 7, 8, 9, 10, 11, 12, 13, 14, 15, 16, 17] (by decide) rfl
            have hK9 := hK.sub (tys' := [(cf105, .int), (cf102, .int), (cf100, .int), (cf104, .int), (cf106, .int), (cf107, .int), (cf109, .int), (cf118, .int), (cf119, .int), (cf108, .int), (cf110, .int), (cf111, .int), (cf127, .int), (cf128, .int), (cf103, .int), (cf137, .int), (cf126, .boolean)]) [0, 1, 2, 3, 4, 5, 6, 7, 8, 9, 10, 11, 12, 13, 14, 15, 16] rfl
            exact W.iret hx hb hr (fun t ht hW => ⟨⟨(x122_50), (fs_16), rfl, ⟨rfl, hlfs_16, hrs_17, hfs_16_117, hfs_16_120, hfs_16_121, hfs_16_122, hfs_16_123, hfs_16_124, hfs_16_125, hfs_16_129, hfs_16_130, hfs_16_131, hfs_16_132, hfs_16_133, hfs_16_134, hfs_16_135, hfs_16_136, hfs_16_99⟩, by rw [ht]; exact hP9, va_K.moved hW.alike hK9, hD9⟩, hS.F ht⟩) hS.2.2 dX13_verify_112
          · skip
            refine va_put (D := (dC, dI)) (ci := 13) (v := .int 1) (ty := .boolean) (C := RX13) (T := TX13) (N := 155) hx hb hts uV_h9_X13 tyX13 tyX13_ok nmX13 hown hK hP hD hS 0 rfl rfl 99 (by decide) (hts (.fieldLink RX13 855 "ClassMillModel" "verified" "Z") mw_h9_363) (fun _ h9 => h9) rfl (by decide +kernel) rfl rfl (by rw [hlh_50]; decide) dX13_verify_105 ?_
            clear hP hD hS
            intro H locs hP hD hS
            obtain ⟨fs_18, efs_18⟩ : ∃ zf : List Value, zf = z50.set 99 (.int 1) := ⟨_, rfl⟩
            rw [← efs_18] at hP hD
            have hlfs_18 : fs_18.length = 155 := by rw [efs_18, List.length_set]; exact hlh_50
            have hfs_18_98 : fs_18[98]? = some (.int v98) := by rw [efs_18, List.getElem?_set_ne (by decide)]; exact hfh_50_98
            have hfs_18_100 : fs_18[100]? = some (.ref qf100) := by rw [efs_18, List.getElem?_set_ne (by decide)]; exact hfh_50_100
            have hfs_18_102 : fs_18[102]? = some (.ref qf102) := by rw [efs_18, List.getElem?_set_ne (by decide)]; exact hfh_50_102
            have hfs_18_103 : fs_18[103]? = some (.ref qf103) := by rw [efs_18, List.getElem?_set_ne (by decide)]; exact hfh_50_103
            have hfs_18_104 : fs_18[104]? = some (.ref qf104) := by rw [efs_18, List.getElem?_set_ne (by decide)]; exact hfh_50_104
            have hfs_18_105 : fs_18[105]? = some (.ref qf105) := by rw [efs_18, List.getElem?_set_ne (by decide)]; exact hfh_50_105
            have hfs_18_106 : fs_18[106]? = some (.ref qf106) := by rw [efs_18, List.getElem?_set_ne (by decide)]; exact hfh_50_106
            have hfs_18_107 : fs_18[107]? = some (.ref qf107) := by rw [efs_18, List.getElem?_set_ne (by decide)]; exact hfh_50_107
            have hfs_18_108 : fs_18[108]? = some (.ref qf108) := by rw [efs_18, List.getElem?_set_ne (by decide)]; exact hfh_50_108
            have hfs_18_109 : fs_18[109]? = some (.ref qf109) := by rw [efs_18, List.getElem?_set_ne (by decide)]; exact hfh_50_109
            have hfs_18_110 : fs_18[110]? = some (.ref qf110) := by rw [efs_18, List.getElem?_set_ne (by decide)]; exact hfh_50_110
            have hfs_18_111 : fs_18[111]? = some (.ref qf111) := by rw [efs_18, List.getElem?_set_ne (by decide)]; exact hfh_50_111
            have hfs_18_117 : fs_18[117]? = some (.int x117_50) := by rw [efs_18, List.getElem?_set_ne (by decide)]; exact hfh_50_117
            have hfs_18_118 : fs_18[118]? = some (.ref qf118) := by rw [efs_18, List.getElem?_set_ne (by decide)]; exact hfh_50_118
            have hfs_18_119 : fs_18[119]? = some (.ref qf119) := by rw [efs_18, List.getElem?_set_ne (by decide)]; exact hfh_50_119
            have hfs_18_120 : fs_18[120]? = some (.int x120_50) := by rw [efs_18, List.getElem?_set_ne (by decide)]; exact hfh_50_120
            have hfs_18_121 : fs_18[121]? = some (.int x121_50) := by rw [efs_18, List.getElem?_set_ne (by decide)]; exact hfh_50_121
            have hfs_18_122 : fs_18[122]? = some (.int x122_50) := by rw [efs_18, List.getElem?_set_ne (by decide)]; exact hfh_50_122
            have hfs_18_123 : fs_18[123]? = some (.int x123_50) := by rw [efs_18, List.getElem?_set_ne (by decide)]; exact hfh_50_123
            have hfs_18_124 : fs_18[124]? = some (.int x124_50) := by rw [efs_18, List.getElem?_set_ne (by decide)]; exact hfh_50_124
            have hfs_18_125 : fs_18[125]? = some (.int x125_50) := by rw [efs_18, List.getElem?_set_ne (by decide)]; exact hfh_50_125
            have hfs_18_126 : fs_18[126]? = some (.ref qf126) := by rw [efs_18, List.getElem?_set_ne (by decide)]; exact hfh_50_126
            have hfs_18_127 : fs_18[127]? = some (.ref qf127) := by rw [efs_18, List.getElem?_set_ne (by decide)]; exact hfh_50_127
            have hfs_18_128 : fs_18[128]? = some (.ref qf128) := by rw [efs_18, List.getElem?_set_ne (by decide)]; exact hfh_50_128
            have hfs_18_129 : fs_18[129]? = some (.int x129_50) := by rw [efs_18, List.getElem?_set_ne (by decide)]; exact hfh_50_129
            have hfs_18_130 : fs_18[130]? = some (.int x130_50) := by rw [efs_18, List.getElem?_set_ne (by decide)]; exact hfh_50_130
            have hfs_18_131 : fs_18[131]? = some (.int x131_50) := by rw [efs_18, List.getElem?_set_ne (by decide)]; exact hfh_50_131
            have hfs_18_132 : fs_18[132]? = some (.int x132_50) := by rw [efs_18, List.getElem?_set_ne (by decide)]; exact hfh_50_132
            have hfs_18_133 : fs_18[133]? = some (.int x133_50) := by rw [efs_18, List.getElem?_set_ne (by decide)]; exact hfh_50_133
            have hfs_18_134 : fs_18[134]? = some (.int x134_50) := by rw [efs_18, List.getElem?_set_ne (by decide)]; exact hfh_50_134
            have hfs_18_135 : fs_18[135]? = some (.int x135_50) := by rw [efs_18, List.getElem?_set_ne (by decide)]; exact hfh_50_135
            have hfs_18_136 : fs_18[136]? = some (.int x136_50) := by rw [efs_18, List.getElem?_set_ne (by decide)]; exact hfh_50_136
            have hfs_18_137 : fs_18[137]? = some (.ref qf137) := by rw [efs_18, List.getElem?_set_ne (by decide)]; exact hfh_50_137
            have hfs_18_99 : fs_18[99]? = some (.int 1) := by rw [efs_18, List.getElem?_set_self (by rw [hlh_50]; decide)]
            replace hP : va_P (dC, dI) vwCl [(h0, .inr (13, fs_18)), (qf105, .inl (cf105, 8, .inl f105)), (qf102, .inl (cf102, 2048, .inl f102)), (qf100, .inl (cf100, 48000, .inl f100)), (qf104, .inl (cf104, 8, .inl f104)), (qf106, .inl (cf106, 8, .inl f106)), (qf107, .inl (cf107, 96, .inl f107)), (qf109, .inl (cf109, 96, .inl f109)), (qf118, .inl (cf118, 2100, .inl g118_50)), (qf119, .inl (cf119, 2100, .inl g119_50)), (qf108, .inl (cf108, 8, .inl f108)), (qf110, .inl (cf110, 96, .inl f110)), (qf111, .inl (cf111, 96, .inl f111)), (qf127, .inl (cf127, 30, .inl g127_50)), (qf128, .inl (cf128, 31, .inl g128_50)), (qf103, .inl (cf103, 8, .inl f103)), (qf137, .inl (cf137, 6, .inl g137_50)), (qf126, .inl (cf126, 1501, .inl g126_50))] H := hP
            replace hD : va_D A [(h0, .inr (13, fs_18)), (qf105, .inl (cf105, 8, .inl f105)), (qf102, .inl (cf102, 2048, .inl f102)), (qf100, .inl (cf100, 48000, .inl f100)), (qf104, .inl (cf104, 8, .inl f104)), (qf106, .inl (cf106, 8, .inl f106)), (qf107, .inl (cf107, 96, .inl f107)), (qf109, .inl (cf109, 96, .inl f109)), (qf118, .inl (cf118, 2100, .inl g118_50)), (qf119, .inl (cf119, 2100, .inl g119_50)), (qf108, .inl (cf108, 8, .inl f108)), (qf110, .inl (cf110, 96, .inl f110)), (qf111, .inl (cf111, 96, .inl f111)), (qf127, .inl (cf127, 30, .inl g127_50)), (qf128, .inl (cf128, 31, .inl g128_50)), (qf103, .inl (cf103, 8, .inl f103)), (qf137, .inl (cf137, 6, .inl g137_50)), (qf126, .inl (cf126, 1501, .inl g126_50))] := hD
            have hrs_19 : ∀ j : Nat, j ≠ 117 → j ≠ 120 → j ≠ 121 → j ≠ 122 → j ≠ 123 → j ≠ 124 → j ≠ 125 → j ≠ 129 → j ≠ 130 → j ≠ 131 → j ≠ 132 → j ≠ 133 → j ≠ 134 → j ≠ 135 → j ≠ 136 → j ≠ 99 → fs_18[j]? = zs[j]? := fun j g117 g120 g121 g122 g123 g124 g125 g129 g130 g131 g132 g133 g134 g135 g136 g99 => ((congrArg (fun z : List Value => z[j]?) efs_18).trans (List.getElem?_set_ne (Ne.symm g99))).trans (hrh_50 j g117 g120 g121 g122 g123 g124 g125 g129 g130 g131 g132 g133 g134 g135 g136 g99)
            refine lv_aload_n hx hb dX13_verify_108 rfl (lv_at hl 1 rfl) ?_
            refine va_get (D := (dC, dI)) (ci := 13) (v := .int x122_50) (C := RX13) (T := TX13) (N := 155) hx hb hts uV_h9_X13 hown hK hP 0 rfl rfl 122 (by decide) (hts (.fieldLink RX13 901 "ClassMillModel" "why" "I") mw_h9_648) (fun _ h9 => h9) hfs_18_122 dX13_verify_109 ?_
            have hr0 := Option.some.inj hsp
            clear hsp
            obtain ⟨hq0, hr1⟩ := Prod.mk.inj hr0
            clear hr0
            obtain ⟨hq1, hr2⟩ := Prod.mk.inj hr1
            clear hr1
            obtain ⟨hq2, hr3⟩ := Prod.mk.inj hr2
            clear hr2
            obtain ⟨hq3, hr4⟩ := Prod.mk.inj hr3
            clear hr3
            obtain ⟨hq4, hr5⟩ := Prod.mk.inj hr4
            clear hr4
            obtain ⟨hq5, hr6⟩ := Prod.mk.inj hr5
            clear hr5
            obtain ⟨hq6, hr7⟩ := Prod.mk.inj hr6
            clear hr6
            obtain ⟨hq7, hr8⟩ := Prod.mk.inj hr7
            clear hr7
            obtain ⟨hq8, hr9⟩ := Prod.mk.inj hr8
            clear hr8
            obtain ⟨hq9, hr10⟩ := Prod.mk.inj hr9
            clear hr9
            obtain ⟨hq10, hr11⟩ := Prod.mk.inj hr10
            clear hr10
            obtain ⟨hq11, hr12⟩ := Prod.mk.inj hr11
            clear hr11
            obtain ⟨hq12, hr13⟩ := Prod.mk.inj hr12
            clear hr12
            obtain ⟨hq13, hr14⟩ := Prod.mk.inj hr13
            clear hr13
            obtain ⟨hq14, hr15⟩ := Prod.mk.inj hr14
            clear hr14
            obtain ⟨hq15, hr16⟩ := Prod.mk.inj hr15
            clear hr15
            obtain ⟨hq16, hr17⟩ := Prod.mk.inj hr16
            clear hr16
            obtain ⟨hq17, hr18⟩ := Prod.mk.inj hr17
            clear hr17
            obtain ⟨hq18, hr19⟩ := Prod.mk.inj hr18
            clear hr18
            obtain ⟨hq19, hr20⟩ := Prod.mk.inj hr19
            clear hr19
            obtain ⟨hq20, hr21⟩ := Prod.mk.inj hr20
            clear hr20
            obtain ⟨hq21, hr22⟩ := Prod.mk.inj hr21
            clear hr21
            subst hq0
            subst hq1
            subst hq2
            subst hq3
            subst hq4
            subst hq5
            subst hq6
            subst hq7
            subst hq8
            subst hq9
            subst hq10
            subst hq11
            subst hq12
            subst hq13
            subst hq14
            subst hq15
            subst hq16
            subst hq17
            subst hq18
            subst hq19
            subst hq20
            subst hq21
            subst hr22
            have hP9 := hP.sub (ws' := [(h0, .inr (13, fs_18)), (qf105, .inl (cf105, 8, .inl f105)), (qf102, .inl (cf102, 2048, .inl f102)), (qf100, .inl (cf100, 48000, .inl f100)), (qf104, .inl (cf104, 8, .inl f104)), (qf106, .inl (cf106, 8, .inl f106)), (qf107, .inl (cf107, 96, .inl f107)), (qf109, .inl (cf109, 96, .inl f109)), (qf118, .inl (cf118, 2100, .inl g118_50)), (qf119, .inl (cf119, 2100, .inl g119_50)), (qf108, .inl (cf108, 8, .inl f108)), (qf110, .inl (cf110, 96, .inl f110)), (qf111, .inl (cf111, 96, .inl f111)), (qf127, .inl (cf127, 30, .inl g127_50)), (qf128, .inl (cf128, 31, .inl g128_50)), (qf103, .inl (cf103, 8, .inl f103)), (qf137, .inl (cf137, 6, .inl g137_50)), (qf126, .inl (cf126, 1501, .inl g126_50))]) [0, 1, 2, 3, 4, 5, 6, 7, 8, 9, 10, 11, 12, 13, 14, 15, 16, 17] rfl
            have hD9 := hD.sub (ws' := [(h0, .inr (13, fs_18)), (qf105, .inl (cf105, 8, .inl f105)), (qf102, .inl (cf102, 2048, .inl f102)), (qf100, .inl (cf100, 48000, .inl f100)), (qf104, .inl (cf104, 8, .inl f104)), (qf106, .inl (cf106, 8, .inl f106)), (qf107, .inl (cf107, 96, .inl f107)), (qf109, .inl (cf109, 96, .inl f109)), (qf118, .inl (cf118, 2100, .inl g118_50)), (qf119, .inl (cf119, 2100, .inl g119_50)), (qf108, .inl (cf108, 8, .inl f108)), (qf110, .inl (cf110, 96, .inl f110)), (qf111, .inl (cf111, 96, .inl f111)), (qf127, .inl (cf127, 30, .inl g127_50)), (qf128, .inl (cf128, 31, .inl g128_50)), (qf103, .inl (cf103, 8, .inl f103)), (qf137, .inl (cf137, 6, .inl g137_50)), (qf126, .inl (cf126, 1501, .inl g126_50))]) [0, 1, 2, 3, 4, 5, 6, 7, 8, 9, 10, 11, 12, 13, 14, 15, 16, 17] (by decide) rfl
            have hK9 := hK.sub (tys' := [(cf105, .int), (cf102, .int), (cf100, .int), (cf104, .int), (cf106, .int), (cf107, .int), (cf109, .int), (cf118, .int), (cf119, .int), (cf108, .int), (cf110, .int), (cf111, .int), (cf127, .int), (cf128, .int), (cf103, .int), (cf137, .int), (cf126, .boolean)]) [0, 1, 2, 3, 4, 5, 6, 7, 8, 9, 10, 11, 12, 13, 14, 15, 16] rfl
            exact W.iret hx hb hr (fun t ht hW => ⟨⟨(x122_50), (fs_18), rfl, ⟨rfl, hlfs_18, hrs_19, hfs_18_117, hfs_18_120, hfs_18_121, hfs_18_122, hfs_18_123, hfs_18_124, hfs_18_125, hfs_18_129, hfs_18_130, hfs_18_131, hfs_18_132, hfs_18_133, hfs_18_134, hfs_18_135, hfs_18_136, hfs_18_99⟩, by rw [ht]; exact hP9, va_K.moved hW.alike hK9, hD9⟩, hS.F ht⟩) hS.2.2 dX13_verify_112
        · rw [if_neg c_15] at hsp
          refine lv_iconst (v := 0) hx hb dX13_verify_65 (by decide) ?_
          refine lv_istore_n (lv' := [(3, .int 0), (2, .int l2_50), (0, .ref h0), (1, .int l1_50)]) hx hb dX13_verify_66 rfl hl (by decide) rfl (fun ls hl => ?_)
          replace hl : lv_has ls 4 [(3, .int 0), (2, .int l2_50), (0, .ref h0), (1, .int l1_50)] := lv_sub hl [0, 1, 2, 3] rfl
          replace hP := hP.sub (ws' := [(h0, .inr (13, z50)), (qf105, .inl (cf105, 8, .inl f105)), (qf102, .inl (cf102, 2048, .inl f102)), (qf100, .inl (cf100, 48000, .inl f100)), (qf104, .inl (cf104, 8, .inl f104)), (qf106, .inl (cf106, 8, .inl f106)), (qf107, .inl (cf107, 96, .inl f107)), (qf109, .inl (cf109, 96, .inl f109)), (qf118, .inl (cf118, 2100, .inl g118_50)), (qf119, .inl (cf119, 2100, .inl g119_50)), (qf108, .inl (cf108, 8, .inl f108)), (qf110, .inl (cf110, 96, .inl f110)), (qf111, .inl (cf111, 96, .inl f111)), (qf127, .inl (cf127, 30, .inl g127_50)), (qf128, .inl (cf128, 31, .inl g128_50)), (qf103, .inl (cf103, 8, .inl f103)), (qf137, .inl (cf137, 6, .inl g137_50)), (qf126, .inl (cf126, 1501, .inl g126_50))]) [0, 1, 2, 3, 4, 5, 6, 7, 8, 9, 10, 11, 12, 13, 14, 15, 16, 17] rfl
          replace hD := hD.sub (ws' := [(h0, .inr (13, z50)), (qf105, .inl (cf105, 8, .inl f105)), (qf102, .inl (cf102, 2048, .inl f102)), (qf100, .inl (cf100, 48000, .inl f100)), (qf104, .inl (cf104, 8, .inl f104)), (qf106, .inl (cf106, 8, .inl f106)), (qf107, .inl (cf107, 96, .inl f107)), (qf109, .inl (cf109, 96, .inl f109)), (qf118, .inl (cf118, 2100, .inl g118_50)), (qf119, .inl (cf119, 2100, .inl g119_50)), (qf108, .inl (cf108, 8, .inl f108)), (qf110, .inl (cf110, 96, .inl f110)), (qf111, .inl (cf111, 96, .inl f111)), (qf127, .inl (cf127, 30, .inl g127_50)), (qf128, .inl (cf128, 31, .inl g128_50)), (qf103, .inl (cf103, 8, .inl f103)), (qf137, .inl (cf137, 6, .inl g137_50)), (qf126, .inl (cf126, 1501, .inl g126_50))]) [0, 1, 2, 3, 4, 5, 6, 7, 8, 9, 10, 11, 12, 13, 14, 15, 16, 17] (by decide) rfl
          replace hK := hK.sub (tys' := [(cf105, .int), (cf102, .int), (cf100, .int), (cf104, .int), (cf106, .int), (cf107, .int), (cf109, .int), (cf118, .int), (cf119, .int), (cf108, .int), (cf110, .int), (cf111, .int), (cf127, .int), (cf128, .int), (cf103, .int), (cf137, .int), (cf126, .boolean)]) [0, 1, 2, 3, 4, 5, 6, 7, 8, 9, 10, 11, 12, 13, 14, 15, 16] rfl
          obtain ⟨n_67, hn_67⟩ : ∃ z : Nat, z = nf := ⟨_, rfl⟩
          obtain ⟨l1_67, el1_67⟩ : ∃ z : Int32, z = l1_50 := ⟨_, rfl⟩
          obtain ⟨l2_67, el2_67⟩ : ∃ z : Int32, z = l2_50 := ⟨_, rfl⟩
          obtain ⟨l3_67, el3_67⟩ : ∃ z : Int32, z = 0 := ⟨_, rfl⟩
          obtain ⟨g118_67, eg118_67⟩ : ∃ z : Nat → Int32, z = g118_50 := ⟨_, rfl⟩
          obtain ⟨g119_67, eg119_67⟩ : ∃ z : Nat → Int32, z = g119_50 := ⟨_, rfl⟩
          obtain ⟨g126_67, eg126_67⟩ : ∃ z : Nat → Int32, z = g126_50 := ⟨_, rfl⟩
          obtain ⟨g127_67, eg127_67⟩ : ∃ z : Nat → Int32, z = g127_50 := ⟨_, rfl⟩
          obtain ⟨g128_67, eg128_67⟩ : ∃ z : Nat → Int32, z = g128_50 := ⟨_, rfl⟩
          obtain ⟨g137_67, eg137_67⟩ : ∃ z : Nat → Int32, z = g137_50 := ⟨_, rfl⟩
          obtain ⟨x117_67, ex117_67⟩ : ∃ z : Int32, z = x117_50 := ⟨_, rfl⟩
          obtain ⟨x120_67, ex120_67⟩ : ∃ z : Int32, z = x120_50 := ⟨_, rfl⟩
          obtain ⟨x121_67, ex121_67⟩ : ∃ z : Int32, z = x121_50 := ⟨_, rfl⟩
          obtain ⟨x122_67, ex122_67⟩ : ∃ z : Int32, z = x122_50 := ⟨_, rfl⟩
          obtain ⟨x123_67, ex123_67⟩ : ∃ z : Int32, z = x123_50 := ⟨_, rfl⟩
          obtain ⟨x124_67, ex124_67⟩ : ∃ z : Int32, z = x124_50 := ⟨_, rfl⟩
          obtain ⟨x125_67, ex125_67⟩ : ∃ z : Int32, z = x125_50 := ⟨_, rfl⟩
          obtain ⟨x129_67, ex129_67⟩ : ∃ z : Int32, z = x129_50 := ⟨_, rfl⟩
          obtain ⟨x130_67, ex130_67⟩ : ∃ z : Int32, z = x130_50 := ⟨_, rfl⟩
          obtain ⟨x131_67, ex131_67⟩ : ∃ z : Int32, z = x131_50 := ⟨_, rfl⟩
          obtain ⟨x132_67, ex132_67⟩ : ∃ z : Int32, z = x132_50 := ⟨_, rfl⟩
          obtain ⟨x133_67, ex133_67⟩ : ∃ z : Int32, z = x133_50 := ⟨_, rfl⟩
          obtain ⟨x134_67, ex134_67⟩ : ∃ z : Int32, z = x134_50 := ⟨_, rfl⟩
          obtain ⟨x135_67, ex135_67⟩ : ∃ z : Int32, z = x135_50 := ⟨_, rfl⟩
          obtain ⟨x136_67, ex136_67⟩ : ∃ z : Int32, z = x136_50 := ⟨_, rfl⟩
          obtain ⟨x99_67, ex99_67⟩ : ∃ z : Int32, z = x99_50 := ⟨_, rfl⟩
          replace hsp : lp_vm_verify_67 nf n_67 v98 v120 v121 v123 v124 v125 v129 v130 v131 v132 v133 v134 v135 v136 f105 f102 f100 f104 f106 f107 f109 f118 f119 f108 f110 f111 f127 f128 f103 f137 f126 nS477 fS477 (lp_vm_verify_50 nf n_50 v98 v120 v121 v123 v124 v125 v129 v130 v131 v132 v133 v134 v135 v136 f105 f102 f100 f104 f106 f107 f109 f118 f119 f108 f110 f111 f127 f128 f103 f137 f126 nS477 fS477) l1_67 l2_67 l3_67 g118_67 g119_67 g126_67 g127_67 g128_67 g137_67 x117_67 x120_67 x121_67 x122_67 x123_67 x124_67 x125_67 x129_67 x130_67 x131_67 x132_67 x133_67 x134_67 x135_67 x136_67 x99_67 = some (r0, o118, o119, o126, o127, o128, o137, w117, w120, w121, w122, w123, w124, w125, w129, w130, w131, w132, w133, w134, w135, w136, w99) := by rw [hn_67, el1_67, el2_67, el3_67, eg118_67, eg119_67, eg126_67, eg127_67, eg128_67, eg137_67, ex117_67, ex120_67, ex121_67, ex122_67, ex123_67, ex124_67, ex125_67, ex129_67, ex130_67, ex131_67, ex132_67, ex133_67, ex134_67, ex135_67, ex136_67, ex99_67]; exact hsp
          replace hl : lv_has ls 4 [(3, .int l3_67), (2, .int l2_67), (0, .ref h0), (1, .int l1_67)] := by rw [el1_67, el2_67, el3_67]; exact hl
          obtain ⟨z67, ez67⟩ : ∃ z : List Value, z = z50 := ⟨_, rfl⟩
          have hfh_67_98 : z67[98]? = some (.int v98) := by rw [ez67]; exact hfh_50_98
          have hfh_67_99 : z67[99]? = some (.int x99_67) := by rw [ez67, ex99_67]; exact hfh_50_99
          have hfh_67_100 : z67[100]? = some (.ref qf100) := by rw [ez67]; exact hfh_50_100
          have hfh_67_102 : z67[102]? = some (.ref qf102) := by rw [ez67]; exact hfh_50_102
          have hfh_67_103 : z67[103]? = some (.ref qf103) := by rw [ez67]; exact hfh_50_103
          have hfh_67_104 : z67[104]? = some (.ref qf104) := by rw [ez67]; exact hfh_50_104
          have hfh_67_105 : z67[105]? = some (.ref qf105) := by rw [ez67]; exact hfh_50_105
          have hfh_67_106 : z67[106]? = some (.ref qf106) := by rw [ez67]; exact hfh_50_106
          have hfh_67_107 : z67[107]? = some (.ref qf107) := by rw [ez67]; exact hfh_50_107
          have hfh_67_108 : z67[108]? = some (.ref qf108) := by rw [ez67]; exact hfh_50_108
          have hfh_67_109 : z67[109]? = some (.ref qf109) := by rw [ez67]; exact hfh_50_109
          have hfh_67_110 : z67[110]? = some (.ref qf110) := by rw [ez67]; exact hfh_50_110
          have hfh_67_111 : z67[111]? = some (.ref qf111) := by rw [ez67]; exact hfh_50_111
          have hfh_67_117 : z67[117]? = some (.int x117_67) := by rw [ez67, ex117_67]; exact hfh_50_117
          have hfh_67_118 : z67[118]? = some (.ref qf118) := by rw [ez67]; exact hfh_50_118
          have hfh_67_119 : z67[119]? = some (.ref qf119) := by rw [ez67]; exact hfh_50_119
          have hfh_67_120 : z67[120]? = some (.int x120_67) := by rw [ez67, ex120_67]; exact hfh_50_120
          have hfh_67_121 : z67[121]? = some (.int x121_67) := by rw [ez67, ex121_67]; exact hfh_50_121
          have hfh_67_122 : z67[122]? = some (.int x122_67) := by rw [ez67, ex122_67]; exact hfh_50_122
          have hfh_67_123 : z67[123]? = some (.int x123_67) := by rw [ez67, ex123_67]; exact hfh_50_123
          have hfh_67_124 : z67[124]? = some (.int x124_67) := by rw [ez67, ex124_67]; exact hfh_50_124
          have hfh_67_125 : z67[125]? = some (.int x125_67) := by rw [ez67, ex125_67]; exact hfh_50_125
          have hfh_67_126 : z67[126]? = some (.ref qf126) := by rw [ez67]; exact hfh_50_126
          have hfh_67_127 : z67[127]? = some (.ref qf127) := by rw [ez67]; exact hfh_50_127
          have hfh_67_128 : z67[128]? = some (.ref qf128) := by rw [ez67]; exact hfh_50_128
          have hfh_67_129 : z67[129]? = some (.int x129_67) := by rw [ez67, ex129_67]; exact hfh_50_129
          have hfh_67_130 : z67[130]? = some (.int x130_67) := by rw [ez67, ex130_67]; exact hfh_50_130
          have hfh_67_131 : z67[131]? = some (.int x131_67) := by rw [ez67, ex131_67]; exact hfh_50_131
          have hfh_67_132 : z67[132]? = some (.int x132_67) := by rw [ez67, ex132_67]; exact hfh_50_132
          have hfh_67_133 : z67[133]? = some (.int x133_67) := by rw [ez67, ex133_67]; exact hfh_50_133
          have hfh_67_134 : z67[134]? = some (.int x134_67) := by rw [ez67, ex134_67]; exact hfh_50_134
          have hfh_67_135 : z67[135]? = some (.int x135_67) := by rw [ez67, ex135_67]; exact hfh_50_135
          have hfh_67_136 : z67[136]? = some (.int x136_67) := by rw [ez67, ex136_67]; exact hfh_50_136
          have hfh_67_137 : z67[137]? = some (.ref qf137) := by rw [ez67]; exact hfh_50_137
          have hlh_67 : z67.length = 155 := by rw [ez67]; exact hlh_50
          have hrh_67 : ∀ j : Nat, j ≠ 117 → j ≠ 120 → j ≠ 121 → j ≠ 122 → j ≠ 123 → j ≠ 124 → j ≠ 125 → j ≠ 129 → j ≠ 130 → j ≠ 131 → j ≠ 132 → j ≠ 133 → j ≠ 134 → j ≠ 135 → j ≠ 136 → j ≠ 99 → z67[j]? = zs[j]? := by rw [ez67]; exact hrh_50
          replace hP : va_P (dC, dI) vwCl [(h0, .inr (13, z67)), (qf105, .inl (cf105, 8, .inl f105)), (qf102, .inl (cf102, 2048, .inl f102)), (qf100, .inl (cf100, 48000, .inl f100)), (qf104, .inl (cf104, 8, .inl f104)), (qf106, .inl (cf106, 8, .inl f106)), (qf107, .inl (cf107, 96, .inl f107)), (qf109, .inl (cf109, 96, .inl f109)), (qf118, .inl (cf118, 2100, .inl g118_67)), (qf119, .inl (cf119, 2100, .inl g119_67)), (qf108, .inl (cf108, 8, .inl f108)), (qf110, .inl (cf110, 96, .inl f110)), (qf111, .inl (cf111, 96, .inl f111)), (qf127, .inl (cf127, 30, .inl g127_67)), (qf128, .inl (cf128, 31, .inl g128_67)), (qf103, .inl (cf103, 8, .inl f103)), (qf137, .inl (cf137, 6, .inl g137_67)), (qf126, .inl (cf126, 1501, .inl g126_67))] H := by rw [ez67, eg118_67, eg119_67, eg126_67, eg127_67, eg128_67, eg137_67]; exact hP
          replace hD : va_D A [(h0, .inr (13, z67)), (qf105, .inl (cf105, 8, .inl f105)), (qf102, .inl (cf102, 2048, .inl f102)), (qf100, .inl (cf100, 48000, .inl f100)), (qf104, .inl (cf104, 8, .inl f104)), (qf106, .inl (cf106, 8, .inl f106)), (qf107, .inl (cf107, 96, .inl f107)), (qf109, .inl (cf109, 96, .inl f109)), (qf118, .inl (cf118, 2100, .inl g118_67)), (qf119, .inl (cf119, 2100, .inl g119_67)), (qf108, .inl (cf108, 8, .inl f108)), (qf110, .inl (cf110, 96, .inl f110)), (qf111, .inl (cf111, 96, .inl f111)), (qf127, .inl (cf127, 30, .inl g127_67)), (qf128, .inl (cf128, 31, .inl g128_67)), (qf103, .inl (cf103, 8, .inl f103)), (qf137, .inl (cf137, 6, .inl g137_67)), (qf126, .inl (cf126, 1501, .inl g126_67))] := by rw [ez67, eg118_67, eg119_67, eg126_67, eg127_67, eg128_67, eg137_67]; exact hD
          clear hn_67 ez67 el1_67 el2_67 el3_67 eg118_67 eg119_67 eg126_67 eg127_67 eg128_67 eg137_67 ex117_67 ex120_67 ex121_67 ex122_67 ex123_67 ex124_67 ex125_67 ex129_67 ex130_67 ex131_67 ex132_67 ex133_67 ex134_67 ex135_67 ex136_67 ex99_67
          try clear hlo
          try clear hH
          revert hsp
          revert hP
          revert hD
          revert hS
          revert hl
          revert hrh_67
          revert hlh_67
          revert hfh_67_137
          revert hfh_67_136
          revert hfh_67_135
          revert hfh_67_134
          revert hfh_67_133
          revert hfh_67_132
          revert hfh_67_131
          revert hfh_67_130
          revert hfh_67_129
          revert hfh_67_128
          revert hfh_67_127
          revert hfh_67_126
          revert hfh_67_125
          revert hfh_67_124
          revert hfh_67_123
          revert hfh_67_122
          revert hfh_67_121
          revert hfh_67_120
          revert hfh_67_119
          revert hfh_67_118
          revert hfh_67_117
          revert hfh_67_111
          revert hfh_67_110
          revert hfh_67_109
          revert hfh_67_108
          revert hfh_67_107
          revert hfh_67_106
          revert hfh_67_105
          revert hfh_67_104
          revert hfh_67_103
          revert hfh_67_102
          revert hfh_67_100
          revert hfh_67_99
          revert hfh_67_98
          revert x99_67
          revert x136_67
          revert x135_67
          revert x134_67
          revert x133_67
          revert x132_67
          revert x131_67
          revert x130_67
          revert x129_67
          revert x125_67
          revert x124_67
          revert x123_67
          revert x122_67
          revert x121_67
          revert x120_67
          revert x117_67
          revert g137_67
          revert g128_67
          revert g127_67
          revert g126_67
          revert g119_67
          revert g118_67
          revert l3_67
          revert l2_67
          revert l1_67
          revert z67
          revert ls
          revert locs
          revert H
          induction n_67 with
          | zero => intro H locs ls z67 l1_67 l2_67 l3_67 g118_67 g119_67 g126_67 g127_67 g128_67 g137_67 x117_67 x120_67 x121_67 x122_67 x123_67 x124_67 x125_67 x129_67 x130_67 x131_67 x132_67 x133_67 x134_67 x135_67 x136_67 x99_67 hfh_67_98 hfh_67_99 hfh_67_100 hfh_67_102 hfh_67_103 hfh_67_104 hfh_67_105 hfh_67_106 hfh_67_107 hfh_67_108 hfh_67_109 hfh_67_110 hfh_67_111 hfh_67_117 hfh_67_118 hfh_67_119 hfh_67_120 hfh_67_121 hfh_67_122 hfh_67_123 hfh_67_124 hfh_67_125 hfh_67_126 hfh_67_127 hfh_67_128 hfh_67_129 hfh_67_130 hfh_67_131 hfh_67_132 hfh_67_133 hfh_67_134 hfh_67_135 hfh_67_136 hfh_67_137 hlh_67 hrh_67 hl hS hD hP hsp; unfold lp_vm_verify_67 at hsp; cases hsp
          | succ n_67 ih_67 =>
            intro H locs ls z67 l1_67 l2_67 l3_67 g118_67 g119_67 g126_67 g127_67 g128_67 g137_67 x117_67 x120_67 x121_67 x122_67 x123_67 x124_67 x125_67 x129_67 x130_67 x131_67 x132_67 x133_67 x134_67 x135_67 x136_67 x99_67 hfh_67_98 hfh_67_99 hfh_67_100 hfh_67_102 hfh_67_103 hfh_67_104 hfh_67_105 hfh_67_106 hfh_67_107 hfh_67_108 hfh_67_109 hfh_67_110 hfh_67_111 hfh_67_117 hfh_67_118 hfh_67_119 hfh_67_120 hfh_67_121 hfh_67_122 hfh_67_123 hfh_67_124 hfh_67_125 hfh_67_126 hfh_67_127 hfh_67_128 hfh_67_129 hfh_67_130 hfh_67_131 hfh_67_132 hfh_67_133 hfh_67_134 hfh_67_135 hfh_67_136 hfh_67_137 hlh_67 hrh_67 hl hS hD hP hsp
            unfold lp_vm_verify_67 at hsp
            try dsimp only at hsp
            refine lv_iload_n hx hb dX13_verify_67 rfl (lv_at hl 0 rfl) ?_
            refine lv_aload_n hx hb dX13_verify_68 rfl (lv_at hl 2 rfl) ?_
            refine va_get (D := (dC, dI)) (ci := 13) (v := .ref qf108) (C := RX13) (T := TX13) (N := 155) hx hb hts uV_h9_X13 hown hK hP 0 rfl rfl 108 (by decide) (hts (.fieldLink RX13 233 "ClassMillModel" "methodMany" "[I") mw_h9_281) (fun _ h9 => h9) hfh_67_108 dX13_verify_69 ?_
            refine lv_iload_n hx hb dX13_verify_72 rfl (lv_at hl 1 rfl) ?_
            refine lv_bipush (v := 8) hx hb dX13_verify_73 (by decide) ?_
            refine lv_isub hx hb dX13_verify_75 ?_
            obtain ⟨hi_20, hsp⟩ := ox_in hsp
            refine va_iald hx hb hK hP 10 9 rfl rfl (i := (l2_67 - 8)) hi_20 dX13_verify_76 ?_
            refine lv_icmp_ge (tgt := 97) hx hb dX13_verify_77 (by decide) (fun c_21 => ?_) (fun c_21 => ?_)
            · rw [if_pos c_21] at hsp
              refine lv_iinc (v := (l2_67 + 1)) (lv' := [(2, .int (l2_67 + 1)), (3, .int l3_67), (0, .ref h0), (1, .int l1_67)]) hx hb dX13_verify_97 hl (k := 1) rfl rfl (by decide) rfl (fun ls hl => ?_)
              refine lv_goto (tgt := 50) hx hb dX13_verify_100 (by decide) ?_
              exact ih_50 H locs ls z67 l1_67 (l2_67 + 1) g118_67 g119_67 g126_67 g127_67 g128_67 g137_67 x117_67 x120_67 x121_67 x122_67 x123_67 x124_67 x125_67 x129_67 x130_67 x131_67 x132_67 x133_67 x134_67 x135_67 x136_67 x99_67 (hfh_67_98) (hfh_67_99) (hfh_67_100) (hfh_67_102) (hfh_67_103) (hfh_67_104) (hfh_67_105) (hfh_67_106) (hfh_67_107) (hfh_67_108) (hfh_67_109) (hfh_67_110) (hfh_67_111) (hfh_67_117) (hfh_67_118) (hfh_67_119) (hfh_67_120) (hfh_67_121) (hfh_67_122) (hfh_67_123) (hfh_67_124) (hfh_67_125) (hfh_67_126) (hfh_67_127) (hfh_67_128) (hfh_67_129) (hfh_67_130) (hfh_67_131) (hfh_67_132) (hfh_67_133) (hfh_67_134) (hfh_67_135) (hfh_67_136) (hfh_67_137) hlh_67 hrh_67 (lv_sub hl [0, 2, 3] rfl) hS (hD.sub (ws' := [(h0, .inr (13, z67)), (qf105, .inl (cf105, 8, .inl f105)), (qf102, .inl (cf102, 2048, .inl f102)), (qf100, .inl (cf100, 48000, .inl f100)), (qf104, .inl (cf104, 8, .inl f104)), (qf106, .inl (cf106, 8, .inl f106)), (qf107, .inl (cf107, 96, .inl f107)), (qf109, .inl (cf109, 96, .inl f109)), (qf118, .inl (cf118, 2100, .inl g118_67)), (qf119, .inl (cf119, 2100, .inl g119_67)), (qf108, .inl (cf108, 8, .inl f108)), (qf110, .inl (cf110, 96, .inl f110)), (qf111, .inl (cf111, 96, .inl f111)), (qf127, .inl (cf127, 30, .inl g127_67)), (qf128, .inl (cf128, 31, .inl g128_67)), (qf103, .inl (cf103, 8, .inl f103)), (qf137, .inl (cf137, 6, .inl g137_67)), (qf126, .inl (cf126, 1501, .inl g126_67))]) [0, 1, 2, 3, 4, 5, 6, 7, 8, 9, 10, 11, 12, 13, 14, 15, 16, 17] (by decide) rfl) (hP.sub (ws' := [(h0, .inr (13, z67)), (qf105, .inl (cf105, 8, .inl f105)), (qf102, .inl (cf102, 2048, .inl f102)), (qf100, .inl (cf100, 48000, .inl f100)), (qf104, .inl (cf104, 8, .inl f104)), (qf106, .inl (cf106, 8, .inl f106)), (qf107, .inl (cf107, 96, .inl f107)), (qf109, .inl (cf109, 96, .inl f109)), (qf118, .inl (cf118, 2100, .inl g118_67)), (qf119, .inl (cf119, 2100, .inl g119_67)), (qf108, .inl (cf108, 8, .inl f108)), (qf110, .inl (cf110, 96, .inl f110)), (qf111, .inl (cf111, 96, .inl f111)), (qf127, .inl (cf127, 30, .inl g127_67)), (qf128, .inl (cf128, 31, .inl g128_67)), (qf103, .inl (cf103, 8, .inl f103)), (qf137, .inl (cf137, 6, .inl g137_67)), (qf126, .inl (cf126, 1501, .inl g126_67))]) [0, 1, 2, 3, 4, 5, 6, 7, 8, 9, 10, 11, 12, 13, 14, 15, 16, 17] rfl) hsp
            · rw [if_neg c_21] at hsp
              refine lv_iload_n hx hb dX13_verify_80 rfl (lv_at hl 3 rfl) ?_
              refine lv_if_eq (tgt := 97) hx hb dX13_verify_81 (by decide) (fun c_22 => ?_) (fun c_22 => ?_)
              · rw [if_pos c_22] at hsp
                refine lv_iinc (v := (l2_67 + 1)) (lv' := [(2, .int (l2_67 + 1)), (3, .int l3_67), (0, .ref h0), (1, .int l1_67)]) hx hb dX13_verify_97 hl (k := 1) rfl rfl (by decide) rfl (fun ls hl => ?_)
                refine lv_goto (tgt := 50) hx hb dX13_verify_100 (by decide) ?_
                exact ih_50 H locs ls z67 l1_67 (l2_67 + 1) g118_67 g119_67 g126_67 g127_67 g128_67 g137_67 x117_67 x120_67 x121_67 x122_67 x123_67 x124_67 x125_67 x129_67 x130_67 x131_67 x132_67 x133_67 x134_67 x135_67 x136_67 x99_67 (hfh_67_98) (hfh_67_99) (hfh_67_100) (hfh_67_102) (hfh_67_103) (hfh_67_104) (hfh_67_105) (hfh_67_106) (hfh_67_107) (hfh_67_108) (hfh_67_109) (hfh_67_110) (hfh_67_111) (hfh_67_117) (hfh_67_118) (hfh_67_119) (hfh_67_120) (hfh_67_121) (hfh_67_122) (hfh_67_123) (hfh_67_124) (hfh_67_125) (hfh_67_126) (hfh_67_127) (hfh_67_128) (hfh_67_129) (hfh_67_130) (hfh_67_131) (hfh_67_132) (hfh_67_133) (hfh_67_134) (hfh_67_135) (hfh_67_136) (hfh_67_137) hlh_67 hrh_67 (lv_sub hl [0, 2, 3] rfl) hS (hD.sub (ws' := [(h0, .inr (13, z67)), (qf105, .inl (cf105, 8, .inl f105)), (qf102, .inl (cf102, 2048, .inl f102)), (qf100, .inl (cf100, 48000, .inl f100)), (qf104, .inl (cf104, 8, .inl f104)), (qf106, .inl (cf106, 8, .inl f106)), (qf107, .inl (cf107, 96, .inl f107)), (qf109, .inl (cf109, 96, .inl f109)), (qf118, .inl (cf118, 2100, .inl g118_67)), (qf119, .inl (cf119, 2100, .inl g119_67)), (qf108, .inl (cf108, 8, .inl f108)), (qf110, .inl (cf110, 96, .inl f110)), (qf111, .inl (cf111, 96, .inl f111)), (qf127, .inl (cf127, 30, .inl g127_67)), (qf128, .inl (cf128, 31, .inl g128_67)), (qf103, .inl (cf103, 8, .inl f103)), (qf137, .inl (cf137, 6, .inl g137_67)), (qf126, .inl (cf126, 1501, .inl g126_67))]) [0, 1, 2, 3, 4, 5, 6, 7, 8, 9, 10, 11, 12, 13, 14, 15, 16, 17] (by decide) rfl) (hP.sub (ws' := [(h0, .inr (13, z67)), (qf105, .inl (cf105, 8, .inl f105)), (qf102, .inl (cf102, 2048, .inl f102)), (qf100, .inl (cf100, 48000, .inl f100)), (qf104, .inl (cf104, 8, .inl f104)), (qf106, .inl (cf106, 8, .inl f106)), (qf107, .inl (cf107, 96, .inl f107)), (qf109, .inl (cf109, 96, .inl f109)), (qf118, .inl (cf118, 2100, .inl g118_67)), (qf119, .inl (cf119, 2100, .inl g119_67)), (qf108, .inl (cf108, 8, .inl f108)), (qf110, .inl (cf110, 96, .inl f110)), (qf111, .inl (cf111, 96, .inl f111)), (qf127, .inl (cf127, 30, .inl g127_67)), (qf128, .inl (cf128, 31, .inl g128_67)), (qf103, .inl (cf103, 8, .inl f103)), (qf137, .inl (cf137, 6, .inl g137_67)), (qf126, .inl (cf126, 1501, .inl g126_67))]) [0, 1, 2, 3, 4, 5, 6, 7, 8, 9, 10, 11, 12, 13, 14, 15, 16, 17] rfl) hsp
              · rw [if_neg c_22] at hsp
                refine lv_aload_n hx hb dX13_verify_84 rfl (lv_at hl 2 rfl) ?_
                refine lv_iload_n hx hb dX13_verify_85 rfl (lv_at hl 1 rfl) ?_
                refine lv_iload_n hx hb dX13_verify_86 rfl (lv_at hl 0 rfl) ?_
                obtain ⟨⟨u2_0, g902_1, g902_2, g902_3, g902_4, g902_5, g902_6, u2_7, u2_8, u2_9, u2_10, u2_11, u2_12, u2_13, u2_14, u2_15, u2_16, u2_17, u2_18, u2_19, u2_20, u2_21⟩, hu_2, hsp⟩ := ox_bind hsp
                try dsimp only at hsp
                have hPc := hP.sub (ws' := [(h0, .inr (13, z67)), (qf109, .inl (cf109, 96, .inl f109)), (qf100, .inl (cf100, 48000, .inl f100)), (qf110, .inl (cf110, 96, .inl f110)), (qf111, .inl (cf111, 96, .inl f111)), (qf127, .inl (cf127, 30, .inl g127_67)), (qf107, .inl (cf107, 96, .inl f107)), (qf102, .inl (cf102, 2048, .inl f102)), (qf104, .inl (cf104, 8, .inl f104)), (qf118, .inl (cf118, 2100, .inl g118_67)), (qf119, .inl (cf119, 2100, .inl g119_67)), (qf105, .inl (cf105, 8, .inl f105)), (qf128, .inl (cf128, 31, .inl g128_67)), (qf103, .inl (cf103, 8, .inl f103)), (qf106, .inl (cf106, 8, .inl f106)), (qf108, .inl (cf108, 8, .inl f108)), (qf137, .inl (cf137, 6, .inl g137_67)), (qf126, .inl (cf126, 1501, .inl g126_67))]) [0, 7, 3, 11, 12, 13, 6, 2, 4, 8, 9, 1, 14, 15, 5, 10, 16, 17] rfl
                have hDc := hD.sub (ws' := [(h0, .inr (13, z67)), (qf109, .inl (cf109, 96, .inl f109)), (qf100, .inl (cf100, 48000, .inl f100)), (qf110, .inl (cf110, 96, .inl f110)), (qf111, .inl (cf111, 96, .inl f111)), (qf127, .inl (cf127, 30, .inl g127_67)), (qf107, .inl (cf107, 96, .inl f107)), (qf102, .inl (cf102, 2048, .inl f102)), (qf104, .inl (cf104, 8, .inl f104)), (qf118, .inl (cf118, 2100, .inl g118_67)), (qf119, .inl (cf119, 2100, .inl g119_67)), (qf105, .inl (cf105, 8, .inl f105)), (qf128, .inl (cf128, 31, .inl g128_67)), (qf103, .inl (cf103, 8, .inl f103)), (qf106, .inl (cf106, 8, .inl f106)), (qf108, .inl (cf108, 8, .inl f108)), (qf137, .inl (cf137, 6, .inl g137_67)), (qf126, .inl (cf126, 1501, .inl g126_67))]) [0, 7, 3, 11, 12, 13, 6, 2, 4, 8, 9, 1, 14, 15, 5, 10, 16, 17] (by decide) rfl
                have hKc := hK.sub (tys' := [(cf109, .int), (cf100, .int), (cf110, .int), (cf111, .int), (cf127, .int), (cf107, .int), (cf102, .int), (cf104, .int), (cf118, .int), (cf119, .int), (cf105, .int), (cf128, .int), (cf103, .int), (cf106, .int), (cf108, .int), (cf137, .int), (cf126, .boolean)]) [6, 2, 10, 11, 12, 5, 1, 3, 7, 8, 0, 13, 14, 4, 9, 15, 16] rfl
                have hFc := va_free (wc := [(h0, .inr (13, z67)), (qf109, .inl (cf109, 96, .inl f109)), (qf100, .inl (cf100, 48000, .inl f100)), (qf110, .inl (cf110, 96, .inl f110)), (qf111, .inl (cf111, 96, .inl f111)), (qf127, .inl (cf127, 30, .inl g127_67)), (qf107, .inl (cf107, 96, .inl f107)), (qf102, .inl (cf102, 2048, .inl f102)), (qf104, .inl (cf104, 8, .inl f104)), (qf118, .inl (cf118, 2100, .inl g118_67)), (qf119, .inl (cf119, 2100, .inl g119_67)), (qf105, .inl (cf105, 8, .inl f105)), (qf128, .inl (cf128, 31, .inl g128_67)), (qf103, .inl (cf103, 8, .inl f103)), (qf106, .inl (cf106, 8, .inl f106)), (qf108, .inl (cf108, 8, .inl f108)), (qf137, .inl (cf137, 6, .inl g137_67)), (qf126, .inl (cf126, 1501, .inl g126_67))]) hD hS hA [0, 7, 3, 11, 12, 13, 6, 2, 4, 8, 9, 1, 14, 15, 5, 10, 16, 17] rfl
                refine va_calli (va_runV (As := [.int l2_67, .int l3_67]) (rest := []) ⟨hx, hb, hml, hown, hts⟩ (vm_methodFits l dC dI H.size h0 z67 l2_67 l3_67 v98 qf100 qf102 qf103 qf104 qf105 qf106 qf107 qf108 qf109 qf110 qf111 x117_67 qf118 qf119 x120_67 x121_67 x122_67 x123_67 x124_67 x125_67 qf126 qf127 qf128 x129_67 x130_67 x131_67 x132_67 x133_67 x134_67 x135_67 x136_67 qf137 cf109 f109 cf100 f100 cf110 f110 cf111 f111 cf127 g127_67 cf107 f107 cf102 f102 cf104 f104 cf118 g118_67 cf119 g119_67 cf105 f105 cf128 g128_67 cf103 f103 cf106 f106 cf108 f108 cf137 g137_67 cf126 g126_67 nS477 fS477 hS477 qS477 tS477 nf u2_0 g902_1 g902_2 g902_3 g902_4 g902_5 g902_6 u2_7 u2_8 u2_9 u2_10 u2_11 u2_12 u2_13 u2_14 u2_15 u2_16 u2_17 u2_18 u2_19 u2_20 u2_21 hlh_67 hfh_67_98 hfh_67_100 hfh_67_102 hfh_67_103 hfh_67_104 hfh_67_105 hfh_67_106 hfh_67_107 hfh_67_108 hfh_67_109 hfh_67_110 hfh_67_111 hfh_67_117 hfh_67_118 hfh_67_119 hfh_67_120 hfh_67_121 hfh_67_122 hfh_67_123 hfh_67_124 hfh_67_125 hfh_67_126 hfh_67_127 hfh_67_128 hfh_67_129 hfh_67_130 hfh_67_131 hfh_67_132 hfh_67_133 hfh_67_134 hfh_67_135 hfh_67_136 hfh_67_137 hu_2) (cwV 2 hts gv_h9_134 rfl rfl rfl (by decide +kernel) ⟨Nat.le_of_ble_eq_true rfl, Nat.le_of_ble_eq_true rfl⟩) ⟨fun a U g mk q => by obtain ⟨q0, q1, qP, qK, qD, qhZWS477, qhZRS477⟩ := q; exact ⟨q0, q1, qP, va_K.moved (u := U) (U := U.calling g mk a) (Vm.Alike.refl U.vm) qK, qD, pz_W.moved (u := U) (U := U.calling g mk a) (Vm.Alike.refl U.vm) qhZWS477, vk_R.same rfl qhZRS477⟩, va_recv hKc hPc (ci := 13) (q0 := 0) rfl rfl, fun U hU hW => ⟨rfl, by rw [hU], by rw [hU]; exact hPc, va_K.moved hW.alike hKc, hDc.weaken (fun _ _ _ _ => trivial), by rw [hU]; exact ((pz_W.moved hW.alike hZWS477).kept hS.2.1).narrow hFc, vk_R.warm hW hZRS477⟩⟩ rfl rfl hl.1 rfl (lv_room (Nat.le_of_ble_eq_true rfl)) dX13_verify_87 ⟨Nat.le_of_ble_eq_true rfl, Nat.le_of_ble_eq_true rfl⟩) hS (fun q _ h => hFc q h) hFc ?_
                clear hS
                intro r_23 u t H1 locs ht hvm hw hB hz1 hk1 hS
                obtain ⟨z_2, rfl⟩ : ∃ z, z = u := ⟨_, rfl⟩
                obtain ⟨hP1, hK1, hD1⟩ := hB
                rw [ht] at hP1
                have hK1 := va_K.moved hvm.symm hK1
                try dsimp only at hw
                have hPD := va_join (wr := []) (w1 := [(h0, .inr (13, z_2)), (qf109, .inl (cf109, 96, .inl f109)), (qf100, .inl (cf100, 48000, .inl f100)), (qf110, .inl (cf110, 96, .inl f110)), (qf111, .inl (cf111, 96, .inl f111)), (qf127, .inl (cf127, 30, .inl g902_4)), (qf107, .inl (cf107, 96, .inl f107)), (qf102, .inl (cf102, 2048, .inl f102)), (qf104, .inl (cf104, 8, .inl f104)), (qf118, .inl (cf118, 2100, .inl g902_1)), (qf119, .inl (cf119, 2100, .inl g902_2)), (qf105, .inl (cf105, 8, .inl f105)), (qf128, .inl (cf128, 31, .inl g902_5)), (qf103, .inl (cf103, 8, .inl f103)), (qf106, .inl (cf106, 8, .inl f106)), (qf108, .inl (cf108, 8, .inl f108)), (qf137, .inl (cf137, 6, .inl g902_6)), (qf126, .inl (cf126, 1501, .inl g902_3))]) hP hD [0, 7, 3, 11, 12, 13, 6, 2, 4, 8, 9, 1, 14, 15, 5, 10, 16, 17] [] rfl rfl (by decide) (by decide) hk1 hFc hP1 hD1
                clear hP hD
                obtain ⟨hP, hD⟩ := hPD
                replace hK := (hK.sub (tys' := []) [] rfl).app hK1
                clear hPc hDc hKc hFc hP1 hK1 hD1 hz1 hk1 ht hvm
                generalize H1 = H at hP hS ⊢
                replace hP : va_P (dC, dI) vwCl [(h0, .inr (13, z_2)), (qf109, .inl (cf109, 96, .inl f109)), (qf100, .inl (cf100, 48000, .inl f100)), (qf110, .inl (cf110, 96, .inl f110)), (qf111, .inl (cf111, 96, .inl f111)), (qf127, .inl (cf127, 30, .inl g902_4)), (qf107, .inl (cf107, 96, .inl f107)), (qf102, .inl (cf102, 2048, .inl f102)), (qf104, .inl (cf104, 8, .inl f104)), (qf118, .inl (cf118, 2100, .inl g902_1)), (qf119, .inl (cf119, 2100, .inl g902_2)), (qf105, .inl (cf105, 8, .inl f105)), (qf128, .inl (cf128, 31, .inl g902_5)), (qf103, .inl (cf103, 8, .inl f103)), (qf106, .inl (cf106, 8, .inl f106)), (qf108, .inl (cf108, 8, .inl f108)), (qf137, .inl (cf137, 6, .inl g902_6)), (qf126, .inl (cf126, 1501, .inl g902_3))] H := hP
                replace hD : va_D A [(h0, .inr (13, z_2)), (qf109, .inl (cf109, 96, .inl f109)), (qf100, .inl (cf100, 48000, .inl f100)), (qf110, .inl (cf110, 96, .inl f110)), (qf111, .inl (cf111, 96, .inl f111)), (qf127, .inl (cf127, 30, .inl g902_4)), (qf107, .inl (cf107, 96, .inl f107)), (qf102, .inl (cf102, 2048, .inl f102)), (qf104, .inl (cf104, 8, .inl f104)), (qf118, .inl (cf118, 2100, .inl g902_1)), (qf119, .inl (cf119, 2100, .inl g902_2)), (qf105, .inl (cf105, 8, .inl f105)), (qf128, .inl (cf128, 31, .inl g902_5)), (qf103, .inl (cf103, 8, .inl f103)), (qf106, .inl (cf106, 8, .inl f106)), (qf108, .inl (cf108, 8, .inl f108)), (qf137, .inl (cf137, 6, .inl g902_6)), (qf126, .inl (cf126, 1501, .inl g902_3))] := hD
                replace hK : va_K (dC, dI) vwCl [(cf109, .int), (cf100, .int), (cf110, .int), (cf111, .int), (cf127, .int), (cf107, .int), (cf102, .int), (cf104, .int), (cf118, .int), (cf119, .int), (cf105, .int), (cf128, .int), (cf103, .int), (cf106, .int), (cf108, .int), (cf137, .int), (cf126, .boolean)] s := hK
                obtain ⟨hwa_2, hln_2, hre_2, hch_2_117, hch_2_120, hch_2_121, hch_2_122, hch_2_123, hch_2_124, hch_2_125, hch_2_129, hch_2_130, hch_2_131, hch_2_132, hch_2_133, hch_2_134, hch_2_135, hch_2_136⟩ := hw
                have hfk_2_98 : z_2[98]? = some (.int v98) := (hre_2 98 (by decide) (by decide) (by decide) (by decide) (by decide) (by decide) (by decide) (by decide) (by decide) (by decide) (by decide) (by decide) (by decide) (by decide) (by decide)).trans (hfh_67_98)
                have hfk_2_99 : z_2[99]? = some (.int x99_67) := (hre_2 99 (by decide) (by decide) (by decide) (by decide) (by decide) (by decide) (by decide) (by decide) (by decide) (by decide) (by decide) (by decide) (by decide) (by decide) (by decide)).trans (hfh_67_99)
                have hfk_2_100 : z_2[100]? = some (.ref qf100) := (hre_2 100 (by decide) (by decide) (by decide) (by decide) (by decide) (by decide) (by decide) (by decide) (by decide) (by decide) (by decide) (by decide) (by decide) (by decide) (by decide)).trans (hfh_67_100)
                have hfk_2_102 : z_2[102]? = some (.ref qf102) := (hre_2 102 (by decide) (by decide) (by decide) (by decide) (by decide) (by decide) (by decide) (by decide) (by decide) (by decide) (by decide) (by decide) (by decide) (by decide) (by decide)).trans (hfh_67_102)
                have hfk_2_103 : z_2[103]? = some (.ref qf103) := (hre_2 103 (by decide) (by decide) (by decide) (by decide) (by decide) (by decide) (by decide) (by decide) (by decide) (by decide) (by decide) (by decide) (by decide) (by decide) (by decide)).trans (hfh_67_103)
                have hfk_2_104 : z_2[104]? = some (.ref qf104) := (hre_2 104 (by decide) (by decide) (by decide) (by decide) (by decide) (by decide) (by decide) (by decide) (by decide) (by decide) (by decide) (by decide) (by decide) (by decide) (by decide)).trans (hfh_67_104)
                have hfk_2_105 : z_2[105]? = some (.ref qf105) := (hre_2 105 (by decide) (by decide) (by decide) (by decide) (by decide) (by decide) (by decide) (by decide) (by decide) (by decide) (by decide) (by decide) (by decide) (by decide) (by decide)).trans (hfh_67_105)
                have hfk_2_106 : z_2[106]? = some (.ref qf106) := (hre_2 106 (by decide) (by decide) (by decide) (by decide) (by decide) (by decide) (by decide) (by decide) (by decide) (by decide) (by decide) (by decide) (by decide) (by decide) (by decide)).trans (hfh_67_106)
                have hfk_2_107 : z_2[107]? = some (.ref qf107) := (hre_2 107 (by decide) (by decide) (by decide) (by decide) (by decide) (by decide) (by decide) (by decide) (by decide) (by decide) (by decide) (by decide) (by decide) (by decide) (by decide)).trans (hfh_67_107)
                have hfk_2_108 : z_2[108]? = some (.ref qf108) := (hre_2 108 (by decide) (by decide) (by decide) (by decide) (by decide) (by decide) (by decide) (by decide) (by decide) (by decide) (by decide) (by decide) (by decide) (by decide) (by decide)).trans (hfh_67_108)
                have hfk_2_109 : z_2[109]? = some (.ref qf109) := (hre_2 109 (by decide) (by decide) (by decide) (by decide) (by decide) (by decide) (by decide) (by decide) (by decide) (by decide) (by decide) (by decide) (by decide) (by decide) (by decide)).trans (hfh_67_109)
                have hfk_2_110 : z_2[110]? = some (.ref qf110) := (hre_2 110 (by decide) (by decide) (by decide) (by decide) (by decide) (by decide) (by decide) (by decide) (by decide) (by decide) (by decide) (by decide) (by decide) (by decide) (by decide)).trans (hfh_67_110)
                have hfk_2_111 : z_2[111]? = some (.ref qf111) := (hre_2 111 (by decide) (by decide) (by decide) (by decide) (by decide) (by decide) (by decide) (by decide) (by decide) (by decide) (by decide) (by decide) (by decide) (by decide) (by decide)).trans (hfh_67_111)
                have hfk_2_118 : z_2[118]? = some (.ref qf118) := (hre_2 118 (by decide) (by decide) (by decide) (by decide) (by decide) (by decide) (by decide) (by decide) (by decide) (by decide) (by decide) (by decide) (by decide) (by decide) (by decide)).trans (hfh_67_118)
                have hfk_2_119 : z_2[119]? = some (.ref qf119) := (hre_2 119 (by decide) (by decide) (by decide) (by decide) (by decide) (by decide) (by decide) (by decide) (by decide) (by decide) (by decide) (by decide) (by decide) (by decide) (by decide)).trans (hfh_67_119)
                have hfk_2_126 : z_2[126]? = some (.ref qf126) := (hre_2 126 (by decide) (by decide) (by decide) (by decide) (by decide) (by decide) (by decide) (by decide) (by decide) (by decide) (by decide) (by decide) (by decide) (by decide) (by decide)).trans (hfh_67_126)
                have hfk_2_127 : z_2[127]? = some (.ref qf127) := (hre_2 127 (by decide) (by decide) (by decide) (by decide) (by decide) (by decide) (by decide) (by decide) (by decide) (by decide) (by decide) (by decide) (by decide) (by decide) (by decide)).trans (hfh_67_127)
                have hfk_2_128 : z_2[128]? = some (.ref qf128) := (hre_2 128 (by decide) (by decide) (by decide) (by decide) (by decide) (by decide) (by decide) (by decide) (by decide) (by decide) (by decide) (by decide) (by decide) (by decide) (by decide)).trans (hfh_67_128)
                have hfk_2_137 : z_2[137]? = some (.ref qf137) := (hre_2 137 (by decide) (by decide) (by decide) (by decide) (by decide) (by decide) (by decide) (by decide) (by decide) (by decide) (by decide) (by decide) (by decide) (by decide) (by decide)).trans (hfh_67_137)
                have hrq_2 : ∀ j : Nat, j ≠ 117 → j ≠ 120 → j ≠ 121 → j ≠ 122 → j ≠ 123 → j ≠ 124 → j ≠ 125 → j ≠ 129 → j ≠ 130 → j ≠ 131 → j ≠ 132 → j ≠ 133 → j ≠ 134 → j ≠ 135 → j ≠ 136 → j ≠ 99 → z_2[j]? = zs[j]? := fun j g117 g120 g121 g122 g123 g124 g125 g129 g130 g131 g132 g133 g134 g135 g136 g99 => (hre_2 j g117 g120 g121 g122 g123 g124 g125 g129 g130 g131 g132 g133 g134 g135 g136).trans (hrh_67 j g117 g120 g121 g122 g123 g124 g125 g129 g130 g131 g132 g133 g134 g135 g136 g99)
                obtain ⟨rfl, hz_2⟩ := hwa_2
                rcases hz_2 with rfl | rfl
                · rw [if_pos rfl] at hsp
                  refine lv_istore_n (lv' := [(1, .int 0), (3, .int l3_67), (2, .int l2_67), (0, .ref h0)]) hx hb dX13_verify_90 rfl hl (by decide) rfl (fun ls hl => ?_)
                  refine lv_iinc (v := (l3_67 + 1)) (lv' := [(3, .int (l3_67 + 1)), (1, .int 0), (2, .int l2_67), (0, .ref h0)]) hx hb dX13_verify_91 hl (k := 1) rfl rfl (by decide) rfl (fun ls hl => ?_)
                  refine lv_goto (tgt := 67) hx hb dX13_verify_94 (by decide) ?_
                  exact ih_67 H locs ls z_2 0 l2_67 (l3_67 + 1) g902_1 g902_2 g902_3 g902_4 g902_5 g902_6 u2_7 u2_8 u2_9 u2_10 u2_11 u2_12 u2_13 u2_14 u2_15 u2_16 u2_17 u2_18 u2_19 u2_20 u2_21 x99_67 (hfk_2_98) (hfk_2_99) (hfk_2_100) (hfk_2_102) (hfk_2_103) (hfk_2_104) (hfk_2_105) (hfk_2_106) (hfk_2_107) (hfk_2_108) (hfk_2_109) (hfk_2_110) (hfk_2_111) (hch_2_117) (hfk_2_118) (hfk_2_119) (hch_2_120) (hch_2_121) (hch_2_122) (hch_2_123) (hch_2_124) (hch_2_125) (hfk_2_126) (hfk_2_127) (hfk_2_128) (hch_2_129) (hch_2_130) (hch_2_131) (hch_2_132) (hch_2_133) (hch_2_134) (hch_2_135) (hch_2_136) (hfk_2_137) hln_2 hrq_2 (lv_sub hl [0, 2, 3, 1] rfl) hS (hD.sub (ws' := [(h0, .inr (13, z_2)), (qf105, .inl (cf105, 8, .inl f105)), (qf102, .inl (cf102, 2048, .inl f102)), (qf100, .inl (cf100, 48000, .inl f100)), (qf104, .inl (cf104, 8, .inl f104)), (qf106, .inl (cf106, 8, .inl f106)), (qf107, .inl (cf107, 96, .inl f107)), (qf109, .inl (cf109, 96, .inl f109)), (qf118, .inl (cf118, 2100, .inl g902_1)), (qf119, .inl (cf119, 2100, .inl g902_2)), (qf108, .inl (cf108, 8, .inl f108)), (qf110, .inl (cf110, 96, .inl f110)), (qf111, .inl (cf111, 96, .inl f111)), (qf127, .inl (cf127, 30, .inl g902_4)), (qf128, .inl (cf128, 31, .inl g902_5)), (qf103, .inl (cf103, 8, .inl f103)), (qf137, .inl (cf137, 6, .inl g902_6)), (qf126, .inl (cf126, 1501, .inl g902_3))]) [0, 11, 7, 2, 8, 14, 6, 1, 9, 10, 15, 3, 4, 5, 12, 13, 16, 17] (by decide) rfl) (hP.sub (ws' := [(h0, .inr (13, z_2)), (qf105, .inl (cf105, 8, .inl f105)), (qf102, .inl (cf102, 2048, .inl f102)), (qf100, .inl (cf100, 48000, .inl f100)), (qf104, .inl (cf104, 8, .inl f104)), (qf106, .inl (cf106, 8, .inl f106)), (qf107, .inl (cf107, 96, .inl f107)), (qf109, .inl (cf109, 96, .inl f109)), (qf118, .inl (cf118, 2100, .inl g902_1)), (qf119, .inl (cf119, 2100, .inl g902_2)), (qf108, .inl (cf108, 8, .inl f108)), (qf110, .inl (cf110, 96, .inl f110)), (qf111, .inl (cf111, 96, .inl f111)), (qf127, .inl (cf127, 30, .inl g902_4)), (qf128, .inl (cf128, 31, .inl g902_5)), (qf103, .inl (cf103, 8, .inl f103)), (qf137, .inl (cf137, 6, .inl g902_6)), (qf126, .inl (cf126, 1501, .inl g902_3))]) [0, 11, 7, 2, 8, 14, 6, 1, 9, 10, 15, 3, 4, 5, 12, 13, 16, 17] rfl) hsp
                · rw [if_neg (by decide)] at hsp
                  refine lv_istore_n (lv' := [(1, .int 1), (3, .int l3_67), (2, .int l2_67), (0, .ref h0)]) hx hb dX13_verify_90 rfl hl (by decide) rfl (fun ls hl => ?_)
                  refine lv_iinc (v := (l3_67 + 1)) (lv' := [(3, .int (l3_67 + 1)), (1, .int 1), (2, .int l2_67), (0, .ref h0)]) hx hb dX13_verify_91 hl (k := 1) rfl rfl (by decide) rfl (fun ls hl => ?_)
                  refine lv_goto (tgt := 67) hx hb dX13_verify_94 (by decide) ?_
                  exact ih_67 H locs ls z_2 1 l2_67 (l3_67 + 1) g902_1 g902_2 g902_3 g902_4 g902_5 g902_6 u2_7 u2_8 u2_9 u2_10 u2_11 u2_12 u2_13 u2_14 u2_15 u2_16 u2_17 u2_18 u2_19 u2_20 u2_21 x99_67 (hfk_2_98) (hfk_2_99) (hfk_2_100) (hfk_2_102) (hfk_2_103) (hfk_2_104) (hfk_2_105) (hfk_2_106) (hfk_2_107) (hfk_2_108) (hfk_2_109) (hfk_2_110) (hfk_2_111) (hch_2_117) (hfk_2_118) (hfk_2_119) (hch_2_120) (hch_2_121) (hch_2_122) (hch_2_123) (hch_2_124) (hch_2_125) (hfk_2_126) (hfk_2_127) (hfk_2_128) (hch_2_129) (hch_2_130) (hch_2_131) (hch_2_132) (hch_2_133) (hch_2_134) (hch_2_135) (hch_2_136) (hfk_2_137) hln_2 hrq_2 (lv_sub hl [0, 2, 3, 1] rfl) hS (hD.sub (ws' := [(h0, .inr (13, z_2)), (qf105, .inl (cf105, 8, .inl f105)), (qf102, .inl (cf102, 2048, .inl f102)), (qf100, .inl (cf100, 48000, .inl f100)), (qf104, .inl (cf104, 8, .inl f104)), (qf106, .inl (cf106, 8, .inl f106)), (qf107, .inl (cf107, 96, .inl f107)), (qf109, .inl (cf109, 96, .inl f109)), (qf118, .inl (cf118, 2100, .inl g902_1)), (qf119, .inl (cf119, 2100, .inl g902_2)), (qf108, .inl (cf108, 8, .inl f108)), (qf110, .inl (cf110, 96, .inl f110)), (qf111, .inl (cf111, 96, .inl f111)), (qf127, .inl (cf127, 30, .inl g902_4)), (qf128, .inl (cf128, 31, .inl g902_5)), (qf103, .inl (cf103, 8, .inl f103)), (qf137, .inl (cf137, 6, .inl g902_6)), (qf126, .inl (cf126, 1501, .inl g902_3))]) [0, 11, 7, 2, 8, 14, 6, 1, 9, 10, 15, 3, 4, 5, 12, 13, 16, 17] (by decide) rfl) (hP.sub (ws' := [(h0, .inr (13, z_2)), (qf105, .inl (cf105, 8, .inl f105)), (qf102, .inl (cf102, 2048, .inl f102)), (qf100, .inl (cf100, 48000, .inl f100)), (qf104, .inl (cf104, 8, .inl f104)), (qf106, .inl (cf106, 8, .inl f106)), (qf107, .inl (cf107, 96, .inl f107)), (qf109, .inl (cf109, 96, .inl f109)), (qf118, .inl (cf118, 2100, .inl g902_1)), (qf119, .inl (cf119, 2100, .inl g902_2)), (qf108, .inl (cf108, 8, .inl f108)), (qf110, .inl (cf110, 96, .inl f110)), (qf111, .inl (cf111, 96, .inl f111)), (qf127, .inl (cf127, 30, .inl g902_4)), (qf128, .inl (cf128, 31, .inl g902_5)), (qf103, .inl (cf103, 8, .inl f103)), (qf137, .inl (cf137, 6, .inl g902_6)), (qf126, .inl (cf126, 1501, .inl g902_3))]) [0, 11, 7, 2, 8, 14, 6, 1, 9, 10, 15, 3, 4, 5, 12, 13, 16, 17] rfl) hsp
  intro hj_47
  refine lv_aload_n hx hb dX13_verify_0 rfl (lv_at hl 0 rfl) ?_
  refine lv_iconst (v := 0) hx hb dX13_verify_1 (by decide) ?_
  refine va_put (D := (dC, dI)) (ci := 13) (v := .int 0) (ty := .boolean) (C := RX13) (T := TX13) (N := 155) hx hb hts uV_h9_X13 tyX13 tyX13_ok nmX13 hown hK hP hD hS 0 rfl rfl 99 (by decide) (hts (.fieldLink RX13 855 "ClassMillModel" "verified" "Z") mw_h9_363) (fun _ h9 => h9) rfl (by decide +kernel) rfl rfl (by rw [hlen]; decide) dX13_verify_2 ?_
  clear hP hD hS
  intro H locs hP hD hS
  obtain ⟨fs_1, efs_1⟩ : ∃ zf : List Value, zf = zs.set 99 (.int 0) := ⟨_, rfl⟩
  rw [← efs_1] at hP hD
  have hlfs_1 : fs_1.length = 155 := by rw [efs_1, List.length_set]; exact hlen
  have hfs_1_98 : fs_1[98]? = some (.int v98) := by rw [efs_1, List.getElem?_set_ne (by decide)]; exact hf98
  have hfs_1_100 : fs_1[100]? = some (.ref qf100) := by rw [efs_1, List.getElem?_set_ne (by decide)]; exact hf100
  have hfs_1_102 : fs_1[102]? = some (.ref qf102) := by rw [efs_1, List.getElem?_set_ne (by decide)]; exact hf102
  have hfs_1_103 : fs_1[103]? = some (.ref qf103) := by rw [efs_1, List.getElem?_set_ne (by decide)]; exact hf103
  have hfs_1_104 : fs_1[104]? = some (.ref qf104) := by rw [efs_1, List.getElem?_set_ne (by decide)]; exact hf104
  have hfs_1_105 : fs_1[105]? = some (.ref qf105) := by rw [efs_1, List.getElem?_set_ne (by decide)]; exact hf105
  have hfs_1_106 : fs_1[106]? = some (.ref qf106) := by rw [efs_1, List.getElem?_set_ne (by decide)]; exact hf106
  have hfs_1_107 : fs_1[107]? = some (.ref qf107) := by rw [efs_1, List.getElem?_set_ne (by decide)]; exact hf107
  have hfs_1_108 : fs_1[108]? = some (.ref qf108) := by rw [efs_1, List.getElem?_set_ne (by decide)]; exact hf108
  have hfs_1_109 : fs_1[109]? = some (.ref qf109) := by rw [efs_1, List.getElem?_set_ne (by decide)]; exact hf109
  have hfs_1_110 : fs_1[110]? = some (.ref qf110) := by rw [efs_1, List.getElem?_set_ne (by decide)]; exact hf110
  have hfs_1_111 : fs_1[111]? = some (.ref qf111) := by rw [efs_1, List.getElem?_set_ne (by decide)]; exact hf111
  have hfs_1_117 : fs_1[117]? = some (.int v117) := by rw [efs_1, List.getElem?_set_ne (by decide)]; exact hf117
  have hfs_1_118 : fs_1[118]? = some (.ref qf118) := by rw [efs_1, List.getElem?_set_ne (by decide)]; exact hf118
  have hfs_1_119 : fs_1[119]? = some (.ref qf119) := by rw [efs_1, List.getElem?_set_ne (by decide)]; exact hf119
  have hfs_1_120 : fs_1[120]? = some (.int v120) := by rw [efs_1, List.getElem?_set_ne (by decide)]; exact hf120
  have hfs_1_121 : fs_1[121]? = some (.int v121) := by rw [efs_1, List.getElem?_set_ne (by decide)]; exact hf121
  have hfs_1_122 : fs_1[122]? = some (.int v122) := by rw [efs_1, List.getElem?_set_ne (by decide)]; exact hf122
  have hfs_1_123 : fs_1[123]? = some (.int v123) := by rw [efs_1, List.getElem?_set_ne (by decide)]; exact hf123
  have hfs_1_124 : fs_1[124]? = some (.int v124) := by rw [efs_1, List.getElem?_set_ne (by decide)]; exact hf124
  have hfs_1_125 : fs_1[125]? = some (.int v125) := by rw [efs_1, List.getElem?_set_ne (by decide)]; exact hf125
  have hfs_1_126 : fs_1[126]? = some (.ref qf126) := by rw [efs_1, List.getElem?_set_ne (by decide)]; exact hf126
  have hfs_1_127 : fs_1[127]? = some (.ref qf127) := by rw [efs_1, List.getElem?_set_ne (by decide)]; exact hf127
  have hfs_1_128 : fs_1[128]? = some (.ref qf128) := by rw [efs_1, List.getElem?_set_ne (by decide)]; exact hf128
  have hfs_1_129 : fs_1[129]? = some (.int v129) := by rw [efs_1, List.getElem?_set_ne (by decide)]; exact hf129
  have hfs_1_130 : fs_1[130]? = some (.int v130) := by rw [efs_1, List.getElem?_set_ne (by decide)]; exact hf130
  have hfs_1_131 : fs_1[131]? = some (.int v131) := by rw [efs_1, List.getElem?_set_ne (by decide)]; exact hf131
  have hfs_1_132 : fs_1[132]? = some (.int v132) := by rw [efs_1, List.getElem?_set_ne (by decide)]; exact hf132
  have hfs_1_133 : fs_1[133]? = some (.int v133) := by rw [efs_1, List.getElem?_set_ne (by decide)]; exact hf133
  have hfs_1_134 : fs_1[134]? = some (.int v134) := by rw [efs_1, List.getElem?_set_ne (by decide)]; exact hf134
  have hfs_1_135 : fs_1[135]? = some (.int v135) := by rw [efs_1, List.getElem?_set_ne (by decide)]; exact hf135
  have hfs_1_136 : fs_1[136]? = some (.int v136) := by rw [efs_1, List.getElem?_set_ne (by decide)]; exact hf136
  have hfs_1_137 : fs_1[137]? = some (.ref qf137) := by rw [efs_1, List.getElem?_set_ne (by decide)]; exact hf137
  have hfs_1_99 : fs_1[99]? = some (.int 0) := by rw [efs_1, List.getElem?_set_self (by rw [hlen]; decide)]
  replace hP : va_P (dC, dI) vwCl [(h0, .inr (13, fs_1)), (qf105, .inl (cf105, 8, .inl f105)), (qf102, .inl (cf102, 2048, .inl f102)), (qf100, .inl (cf100, 48000, .inl f100)), (qf104, .inl (cf104, 8, .inl f104)), (qf106, .inl (cf106, 8, .inl f106)), (qf107, .inl (cf107, 96, .inl f107)), (qf109, .inl (cf109, 96, .inl f109)), (qf118, .inl (cf118, 2100, .inl f118)), (qf119, .inl (cf119, 2100, .inl f119)), (qf108, .inl (cf108, 8, .inl f108)), (qf110, .inl (cf110, 96, .inl f110)), (qf111, .inl (cf111, 96, .inl f111)), (qf127, .inl (cf127, 30, .inl f127)), (qf128, .inl (cf128, 31, .inl f128)), (qf103, .inl (cf103, 8, .inl f103)), (qf137, .inl (cf137, 6, .inl f137)), (qf126, .inl (cf126, 1501, .inl f126))] H := hP
  replace hD : va_D A [(h0, .inr (13, fs_1)), (qf105, .inl (cf105, 8, .inl f105)), (qf102, .inl (cf102, 2048, .inl f102)), (qf100, .inl (cf100, 48000, .inl f100)), (qf104, .inl (cf104, 8, .inl f104)), (qf106, .inl (cf106, 8, .inl f106)), (qf107, .inl (cf107, 96, .inl f107)), (qf109, .inl (cf109, 96, .inl f109)), (qf118, .inl (cf118, 2100, .inl f118)), (qf119, .inl (cf119, 2100, .inl f119)), (qf108, .inl (cf108, 8, .inl f108)), (qf110, .inl (cf110, 96, .inl f110)), (qf111, .inl (cf111, 96, .inl f111)), (qf127, .inl (cf127, 30, .inl f127)), (qf128, .inl (cf128, 31, .inl f128)), (qf103, .inl (cf103, 8, .inl f103)), (qf137, .inl (cf137, 6, .inl f137)), (qf126, .inl (cf126, 1501, .inl f126))] := hD
  have hrs_2 : ∀ j : Nat, j ≠ 117 → j ≠ 120 → j ≠ 121 → j ≠ 122 → j ≠ 123 → j ≠ 124 → j ≠ 125 → j ≠ 129 → j ≠ 130 → j ≠ 131 → j ≠ 132 → j ≠ 133 → j ≠ 134 → j ≠ 135 → j ≠ 136 → j ≠ 99 → fs_1[j]? = zs[j]? := fun j g117 g120 g121 g122 g123 g124 g125 g129 g130 g131 g132 g133 g134 g135 g136 g99 => ((congrArg (fun z : List Value => z[j]?) efs_1).trans (List.getElem?_set_ne (Ne.symm g99))).trans (hrs0 j g117 g120 g121 g122 g123 g124 g125 g129 g130 g131 g132 g133 g134 g135 g136 g99)
  refine lv_aload_n hx hb dX13_verify_5 rfl (lv_at hl 0 rfl) ?_
  refine lv_iconst (v := 0) hx hb dX13_verify_6 (by decide) ?_
  refine va_put (D := (dC, dI)) (ci := 13) (v := .int 0) (ty := .int) (C := RX13) (T := TX13) (N := 155) hx hb hts uV_h9_X13 tyX13 tyX13_ok nmX13 hown hK hP hD hS 0 rfl rfl 122 (by decide) (hts (.fieldLink RX13 901 "ClassMillModel" "why" "I") mw_h9_648) (fun _ h9 => h9) rfl (by decide +kernel) rfl rfl (by rw [hlfs_1]; decide) dX13_verify_7 ?_
  clear hP hD hS
  intro H locs hP hD hS
  obtain ⟨fs_3, efs_3⟩ : ∃ zf : List Value, zf = fs_1.set 122 (.int 0) := ⟨_, rfl⟩
  rw [← efs_3] at hP hD
  have hlfs_3 : fs_3.length = 155 := by rw [efs_3, List.length_set]; exact hlfs_1
  have hfs_3_98 : fs_3[98]? = some (.int v98) := by rw [efs_3, List.getElem?_set_ne (by decide)]; exact hfs_1_98
  have hfs_3_100 : fs_3[100]? = some (.ref qf100) := by rw [efs_3, List.getElem?_set_ne (by decide)]; exact hfs_1_100
  have hfs_3_102 : fs_3[102]? = some (.ref qf102) := by rw [efs_3, List.getElem?_set_ne (by decide)]; exact hfs_1_102
  have hfs_3_103 : fs_3[103]? = some (.ref qf103) := by rw [efs_3, List.getElem?_set_ne (by decide)]; exact hfs_1_103
  have hfs_3_104 : fs_3[104]? = some (.ref qf104) := by rw [efs_3, List.getElem?_set_ne (by decide)]; exact hfs_1_104
  have hfs_3_105 : fs_3[105]? = some (.ref qf105) := by rw [efs_3, List.getElem?_set_ne (by decide)]; exact hfs_1_105
  have hfs_3_106 : fs_3[106]? = some (.ref qf106) := by rw [efs_3, List.getElem?_set_ne (by decide)]; exact hfs_1_106
  have hfs_3_107 : fs_3[107]? = some (.ref qf107) := by rw [efs_3, List.getElem?_set_ne (by decide)]; exact hfs_1_107
  have hfs_3_108 : fs_3[108]? = some (.ref qf108) := by rw [efs_3, List.getElem?_set_ne (by decide)]; exact hfs_1_108
  have hfs_3_109 : fs_3[109]? = some (.ref qf109) := by rw [efs_3, List.getElem?_set_ne (by decide)]; exact hfs_1_109
  have hfs_3_110 : fs_3[110]? = some (.ref qf110) := by rw [efs_3, List.getElem?_set_ne (by decide)]; exact hfs_1_110
  have hfs_3_111 : fs_3[111]? = some (.ref qf111) := by rw [efs_3, List.getElem?_set_ne (by decide)]; exact hfs_1_111
  have hfs_3_117 : fs_3[117]? = some (.int v117) := by rw [efs_3, List.getElem?_set_ne (by decide)]; exact hfs_1_117
  have hfs_3_118 : fs_3[118]? = some (.ref qf118) := by rw [efs_3, List.getElem?_set_ne (by decide)]; exact hfs_1_118
  have hfs_3_119 : fs_3[119]? = some (.ref qf119) := by rw [efs_3, List.getElem?_set_ne (by decide)]; exact hfs_1_119
  have hfs_3_120 : fs_3[120]? = some (.int v120) := by rw [efs_3, List.getElem?_set_ne (by decide)]; exact hfs_1_120
  have hfs_3_121 : fs_3[121]? = some (.int v121) := by rw [efs_3, List.getElem?_set_ne (by decide)]; exact hfs_1_121
  have hfs_3_123 : fs_3[123]? = some (.int v123) := by rw [efs_3, List.getElem?_set_ne (by decide)]; exact hfs_1_123
  have hfs_3_124 : fs_3[124]? = some (.int v124) := by rw [efs_3, List.getElem?_set_ne (by decide)]; exact hfs_1_124
  have hfs_3_125 : fs_3[125]? = some (.int v125) := by rw [efs_3, List.getElem?_set_ne (by decide)]; exact hfs_1_125
  have hfs_3_126 : fs_3[126]? = some (.ref qf126) := by rw [efs_3, List.getElem?_set_ne (by decide)]; exact hfs_1_126
  have hfs_3_127 : fs_3[127]? = some (.ref qf127) := by rw [efs_3, List.getElem?_set_ne (by decide)]; exact hfs_1_127
  have hfs_3_128 : fs_3[128]? = some (.ref qf128) := by rw [efs_3, List.getElem?_set_ne (by decide)]; exact hfs_1_128
  have hfs_3_129 : fs_3[129]? = some (.int v129) := by rw [efs_3, List.getElem?_set_ne (by decide)]; exact hfs_1_129
  have hfs_3_130 : fs_3[130]? = some (.int v130) := by rw [efs_3, List.getElem?_set_ne (by decide)]; exact hfs_1_130
  have hfs_3_131 : fs_3[131]? = some (.int v131) := by rw [efs_3, List.getElem?_set_ne (by decide)]; exact hfs_1_131
  have hfs_3_132 : fs_3[132]? = some (.int v132) := by rw [efs_3, List.getElem?_set_ne (by decide)]; exact hfs_1_132
  have hfs_3_133 : fs_3[133]? = some (.int v133) := by rw [efs_3, List.getElem?_set_ne (by decide)]; exact hfs_1_133
  have hfs_3_134 : fs_3[134]? = some (.int v134) := by rw [efs_3, List.getElem?_set_ne (by decide)]; exact hfs_1_134
  have hfs_3_135 : fs_3[135]? = some (.int v135) := by rw [efs_3, List.getElem?_set_ne (by decide)]; exact hfs_1_135
  have hfs_3_136 : fs_3[136]? = some (.int v136) := by rw [efs_3, List.getElem?_set_ne (by decide)]; exact hfs_1_136
  have hfs_3_137 : fs_3[137]? = some (.ref qf137) := by rw [efs_3, List.getElem?_set_ne (by decide)]; exact hfs_1_137
  have hfs_3_99 : fs_3[99]? = some (.int 0) := by rw [efs_3, List.getElem?_set_ne (by decide)]; exact hfs_1_99
  have hfs_3_122 : fs_3[122]? = some (.int 0) := by rw [efs_3, List.getElem?_set_self (by rw [hlfs_1]; decide)]
  replace hP : va_P (dC, dI) vwCl [(h0, .inr (13, fs_3)), (qf105, .inl (cf105, 8, .inl f105)), (qf102, .inl (cf102, 2048, .inl f102)), (qf100, .inl (cf100, 48000, .inl f100)), (qf104, .inl (cf104, 8, .inl f104)), (qf106, .inl (cf106, 8, .inl f106)), (qf107, .inl (cf107, 96, .inl f107)), (qf109, .inl (cf109, 96, .inl f109)), (qf118, .inl (cf118, 2100, .inl f118)), (qf119, .inl (cf119, 2100, .inl f119)), (qf108, .inl (cf108, 8, .inl f108)), (qf110, .inl (cf110, 96, .inl f110)), (qf111, .inl (cf111, 96, .inl f111)), (qf127, .inl (cf127, 30, .inl f127)), (qf128, .inl (cf128, 31, .inl f128)), (qf103, .inl (cf103, 8, .inl f103)), (qf137, .inl (cf137, 6, .inl f137)), (qf126, .inl (cf126, 1501, .inl f126))] H := hP
  replace hD : va_D A [(h0, .inr (13, fs_3)), (qf105, .inl (cf105, 8, .inl f105)), (qf102, .inl (cf102, 2048, .inl f102)), (qf100, .inl (cf100, 48000, .inl f100)), (qf104, .inl (cf104, 8, .inl f104)), (qf106, .inl (cf106, 8, .inl f106)), (qf107, .inl (cf107, 96, .inl f107)), (qf109, .inl (cf109, 96, .inl f109)), (qf118, .inl (cf118, 2100, .inl f118)), (qf119, .inl (cf119, 2100, .inl f119)), (qf108, .inl (cf108, 8, .inl f108)), (qf110, .inl (cf110, 96, .inl f110)), (qf111, .inl (cf111, 96, .inl f111)), (qf127, .inl (cf127, 30, .inl f127)), (qf128, .inl (cf128, 31, .inl f128)), (qf103, .inl (cf103, 8, .inl f103)), (qf137, .inl (cf137, 6, .inl f137)), (qf126, .inl (cf126, 1501, .inl f126))] := hD
  have hrs_4 : ∀ j : Nat, j ≠ 117 → j ≠ 120 → j ≠ 121 → j ≠ 122 → j ≠ 123 → j ≠ 124 → j ≠ 125 → j ≠ 129 → j ≠ 130 → j ≠ 131 → j ≠ 132 → j ≠ 133 → j ≠ 134 → j ≠ 135 → j ≠ 136 → j ≠ 99 → fs_3[j]? = zs[j]? := fun j g117 g120 g121 g122 g123 g124 g125 g129 g130 g131 g132 g133 g134 g135 g136 g99 => ((congrArg (fun z : List Value => z[j]?) efs_3).trans (List.getElem?_set_ne (Ne.symm g122))).trans (hrs_2 j g117 g120 g121 g122 g123 g124 g125 g129 g130 g131 g132 g133 g134 g135 g136 g99)
  refine lv_aload_n hx hb dX13_verify_10 rfl (lv_at hl 0 rfl) ?_
  refine lv_iconst (v := 0) hx hb dX13_verify_11 (by decide) ?_
  refine va_put (D := (dC, dI)) (ci := 13) (v := .int 0) (ty := .int) (C := RX13) (T := TX13) (N := 155) hx hb hts uV_h9_X13 tyX13 tyX13_ok nmX13 hown hK hP hD hS 0 rfl rfl 117 (by decide) (hts (.fieldLink RX13 876 "ClassMillModel" "others" "I") mw_h9_490) (fun _ h9 => h9) rfl (by decide +kernel) rfl rfl (by rw [hlfs_3]; decide) dX13_verify_12 ?_
  clear hP hD hS
  intro H locs hP hD hS
  obtain ⟨fs_5, efs_5⟩ : ∃ zf : List Value, zf = fs_3.set 117 (.int 0) := ⟨_, rfl⟩
  rw [← efs_5] at hP hD
  have hlfs_5 : fs_5.length = 155 := by rw [efs_5, List.length_set]; exact hlfs_3
  have hfs_5_98 : fs_5[98]? = some (.int v98) := by rw [efs_5, List.getElem?_set_ne (by decide)]; exact hfs_3_98
  have hfs_5_100 : fs_5[100]? = some (.ref qf100) := by rw [efs_5, List.getElem?_set_ne (by decide)]; exact hfs_3_100
  have hfs_5_102 : fs_5[102]? = some (.ref qf102) := by rw [efs_5, List.getElem?_set_ne (by decide)]; exact hfs_3_102
  have hfs_5_103 : fs_5[103]? = some (.ref qf103) := by rw [efs_5, List.getElem?_set_ne (by decide)]; exact hfs_3_103
  have hfs_5_104 : fs_5[104]? = some (.ref qf104) := by rw [efs_5, List.getElem?_set_ne (by decide)]; exact hfs_3_104
  have hfs_5_105 : fs_5[105]? = some (.ref qf105) := by rw [efs_5, List.getElem?_set_ne (by decide)]; exact hfs_3_105
  have hfs_5_106 : fs_5[106]? = some (.ref qf106) := by rw [efs_5, List.getElem?_set_ne (by decide)]; exact hfs_3_106
  have hfs_5_107 : fs_5[107]? = some (.ref qf107) := by rw [efs_5, List.getElem?_set_ne (by decide)]; exact hfs_3_107
  have hfs_5_108 : fs_5[108]? = some (.ref qf108) := by rw [efs_5, List.getElem?_set_ne (by decide)]; exact hfs_3_108
  have hfs_5_109 : fs_5[109]? = some (.ref qf109) := by rw [efs_5, List.getElem?_set_ne (by decide)]; exact hfs_3_109
  have hfs_5_110 : fs_5[110]? = some (.ref qf110) := by rw [efs_5, List.getElem?_set_ne (by decide)]; exact hfs_3_110
  have hfs_5_111 : fs_5[111]? = some (.ref qf111) := by rw [efs_5, List.getElem?_set_ne (by decide)]; exact hfs_3_111
  have hfs_5_118 : fs_5[118]? = some (.ref qf118) := by rw [efs_5, List.getElem?_set_ne (by decide)]; exact hfs_3_118
  have hfs_5_119 : fs_5[119]? = some (.ref qf119) := by rw [efs_5, List.getElem?_set_ne (by decide)]; exact hfs_3_119
  have hfs_5_120 : fs_5[120]? = some (.int v120) := by rw [efs_5, List.getElem?_set_ne (by decide)]; exact hfs_3_120
  have hfs_5_121 : fs_5[121]? = some (.int v121) := by rw [efs_5, List.getElem?_set_ne (by decide)]; exact hfs_3_121
  have hfs_5_123 : fs_5[123]? = some (.int v123) := by rw [efs_5, List.getElem?_set_ne (by decide)]; exact hfs_3_123
  have hfs_5_124 : fs_5[124]? = some (.int v124) := by rw [efs_5, List.getElem?_set_ne (by decide)]; exact hfs_3_124
  have hfs_5_125 : fs_5[125]? = some (.int v125) := by rw [efs_5, List.getElem?_set_ne (by decide)]; exact hfs_3_125
  have hfs_5_126 : fs_5[126]? = some (.ref qf126) := by rw [efs_5, List.getElem?_set_ne (by decide)]; exact hfs_3_126
  have hfs_5_127 : fs_5[127]? = some (.ref qf127) := by rw [efs_5, List.getElem?_set_ne (by decide)]; exact hfs_3_127
  have hfs_5_128 : fs_5[128]? = some (.ref qf128) := by rw [efs_5, List.getElem?_set_ne (by decide)]; exact hfs_3_128
  have hfs_5_129 : fs_5[129]? = some (.int v129) := by rw [efs_5, List.getElem?_set_ne (by decide)]; exact hfs_3_129
  have hfs_5_130 : fs_5[130]? = some (.int v130) := by rw [efs_5, List.getElem?_set_ne (by decide)]; exact hfs_3_130
  have hfs_5_131 : fs_5[131]? = some (.int v131) := by rw [efs_5, List.getElem?_set_ne (by decide)]; exact hfs_3_131
  have hfs_5_132 : fs_5[132]? = some (.int v132) := by rw [efs_5, List.getElem?_set_ne (by decide)]; exact hfs_3_132
  have hfs_5_133 : fs_5[133]? = some (.int v133) := by rw [efs_5, List.getElem?_set_ne (by decide)]; exact hfs_3_133
  have hfs_5_134 : fs_5[134]? = some (.int v134) := by rw [efs_5, List.getElem?_set_ne (by decide)]; exact hfs_3_134
  have hfs_5_135 : fs_5[135]? = some (.int v135) := by rw [efs_5, List.getElem?_set_ne (by decide)]; exact hfs_3_135
  have hfs_5_136 : fs_5[136]? = some (.int v136) := by rw [efs_5, List.getElem?_set_ne (by decide)]; exact hfs_3_136
  have hfs_5_137 : fs_5[137]? = some (.ref qf137) := by rw [efs_5, List.getElem?_set_ne (by decide)]; exact hfs_3_137
  have hfs_5_99 : fs_5[99]? = some (.int 0) := by rw [efs_5, List.getElem?_set_ne (by decide)]; exact hfs_3_99
  have hfs_5_122 : fs_5[122]? = some (.int 0) := by rw [efs_5, List.getElem?_set_ne (by decide)]; exact hfs_3_122
  have hfs_5_117 : fs_5[117]? = some (.int 0) := by rw [efs_5, List.getElem?_set_self (by rw [hlfs_3]; decide)]
  replace hP : va_P (dC, dI) vwCl [(h0, .inr (13, fs_5)), (qf105, .inl (cf105, 8, .inl f105)), (qf102, .inl (cf102, 2048, .inl f102)), (qf100, .inl (cf100, 48000, .inl f100)), (qf104, .inl (cf104, 8, .inl f104)), (qf106, .inl (cf106, 8, .inl f106)), (qf107, .inl (cf107, 96, .inl f107)), (qf109, .inl (cf109, 96, .inl f109)), (qf118, .inl (cf118, 2100, .inl f118)), (qf119, .inl (cf119, 2100, .inl f119)), (qf108, .inl (cf108, 8, .inl f108)), (qf110, .inl (cf110, 96, .inl f110)), (qf111, .inl (cf111, 96, .inl f111)), (qf127, .inl (cf127, 30, .inl f127)), (qf128, .inl (cf128, 31, .inl f128)), (qf103, .inl (cf103, 8, .inl f103)), (qf137, .inl (cf137, 6, .inl f137)), (qf126, .inl (cf126, 1501, .inl f126))] H := hP
  replace hD : va_D A [(h0, .inr (13, fs_5)), (qf105, .inl (cf105, 8, .inl f105)), (qf102, .inl (cf102, 2048, .inl f102)), (qf100, .inl (cf100, 48000, .inl f100)), (qf104, .inl (cf104, 8, .inl f104)), (qf106, .inl (cf106, 8, .inl f106)), (qf107, .inl (cf107, 96, .inl f107)), (qf109, .inl (cf109, 96, .inl f109)), (qf118, .inl (cf118, 2100, .inl f118)), (qf119, .inl (cf119, 2100, .inl f119)), (qf108, .inl (cf108, 8, .inl f108)), (qf110, .inl (cf110, 96, .inl f110)), (qf111, .inl (cf111, 96, .inl f111)), (qf127, .inl (cf127, 30, .inl f127)), (qf128, .inl (cf128, 31, .inl f128)), (qf103, .inl (cf103, 8, .inl f103)), (qf137, .inl (cf137, 6, .inl f137)), (qf126, .inl (cf126, 1501, .inl f126))] := hD
  have hrs_6 : ∀ j : Nat, j ≠ 117 → j ≠ 120 → j ≠ 121 → j ≠ 122 → j ≠ 123 → j ≠ 124 → j ≠ 125 → j ≠ 129 → j ≠ 130 → j ≠ 131 → j ≠ 132 → j ≠ 133 → j ≠ 134 → j ≠ 135 → j ≠ 136 → j ≠ 99 → fs_5[j]? = zs[j]? := fun j g117 g120 g121 g122 g123 g124 g125 g129 g130 g131 g132 g133 g134 g135 g136 g99 => ((congrArg (fun z : List Value => z[j]?) efs_5).trans (List.getElem?_set_ne (Ne.symm g117))).trans (hrs_4 j g117 g120 g121 g122 g123 g124 g125 g129 g130 g131 g132 g133 g134 g135 g136 g99)
  refine lv_iconst (v := 1) hx hb dX13_verify_15 (by decide) ?_
  refine lv_istore_n (lv' := [(1, .int 1), (0, .ref h0)]) hx hb dX13_verify_16 rfl hl (by decide) rfl (fun ls hl => ?_)
  refine lv_bipush (v := 8) hx hb dX13_verify_17 (by decide) ?_
  refine lv_istore_n (lv' := [(2, .int 8), (1, .int 1), (0, .ref h0)]) hx hb dX13_verify_19 rfl hl (by decide) rfl (fun ls hl => ?_)
  replace hl : lv_has ls 4 [(2, .int 8), (1, .int 1), (0, .ref h0)] := lv_sub hl [0, 1, 2] rfl
  replace hP := hP.sub (ws' := [(h0, .inr (13, fs_5)), (qf105, .inl (cf105, 8, .inl f105)), (qf102, .inl (cf102, 2048, .inl f102)), (qf100, .inl (cf100, 48000, .inl f100)), (qf104, .inl (cf104, 8, .inl f104)), (qf106, .inl (cf106, 8, .inl f106)), (qf107, .inl (cf107, 96, .inl f107)), (qf109, .inl (cf109, 96, .inl f109)), (qf118, .inl (cf118, 2100, .inl f118)), (qf119, .inl (cf119, 2100, .inl f119)), (qf108, .inl (cf108, 8, .inl f108)), (qf110, .inl (cf110, 96, .inl f110)), (qf111, .inl (cf111, 96, .inl f111)), (qf127, .inl (cf127, 30, .inl f127)), (qf128, .inl (cf128, 31, .inl f128)), (qf103, .inl (cf103, 8, .inl f103)), (qf137, .inl (cf137, 6, .inl f137)), (qf126, .inl (cf126, 1501, .inl f126))]) [0, 1, 2, 3, 4, 5, 6, 7, 8, 9, 10, 11, 12, 13, 14, 15, 16, 17] rfl
  replace hD := hD.sub (ws' := [(h0, .inr (13, fs_5)), (qf105, .inl (cf105, 8, .inl f105)), (qf102, .inl (cf102, 2048, .inl f102)), (qf100, .inl (cf100, 48000, .inl f100)), (qf104, .inl (cf104, 8, .inl f104)), (qf106, .inl (cf106, 8, .inl f106)), (qf107, .inl (cf107, 96, .inl f107)), (qf109, .inl (cf109, 96, .inl f109)), (qf118, .inl (cf118, 2100, .inl f118)), (qf119, .inl (cf119, 2100, .inl f119)), (qf108, .inl (cf108, 8, .inl f108)), (qf110, .inl (cf110, 96, .inl f110)), (qf111, .inl (cf111, 96, .inl f111)), (qf127, .inl (cf127, 30, .inl f127)), (qf128, .inl (cf128, 31, .inl f128)), (qf103, .inl (cf103, 8, .inl f103)), (qf137, .inl (cf137, 6, .inl f137)), (qf126, .inl (cf126, 1501, .inl f126))]) [0, 1, 2, 3, 4, 5, 6, 7, 8, 9, 10, 11, 12, 13, 14, 15, 16, 17] (by decide) rfl
  replace hK := hK.sub (tys' := [(cf105, .int), (cf102, .int), (cf100, .int), (cf104, .int), (cf106, .int), (cf107, .int), (cf109, .int), (cf118, .int), (cf119, .int), (cf108, .int), (cf110, .int), (cf111, .int), (cf127, .int), (cf128, .int), (cf103, .int), (cf137, .int), (cf126, .boolean)]) [0, 1, 2, 3, 4, 5, 6, 7, 8, 9, 10, 11, 12, 13, 14, 15, 16] rfl
  obtain ⟨n_20, hn_20⟩ : ∃ z : Nat, z = nf := ⟨_, rfl⟩
  obtain ⟨l1_20, el1_20⟩ : ∃ z : Int32, z = 1 := ⟨_, rfl⟩
  obtain ⟨l2_20, el2_20⟩ : ∃ z : Int32, z = 8 := ⟨_, rfl⟩
  obtain ⟨g118_20, eg118_20⟩ : ∃ z : Nat → Int32, z = f118 := ⟨_, rfl⟩
  obtain ⟨g119_20, eg119_20⟩ : ∃ z : Nat → Int32, z = f119 := ⟨_, rfl⟩
  obtain ⟨g126_20, eg126_20⟩ : ∃ z : Nat → Int32, z = f126 := ⟨_, rfl⟩
  obtain ⟨g127_20, eg127_20⟩ : ∃ z : Nat → Int32, z = f127 := ⟨_, rfl⟩
  obtain ⟨g128_20, eg128_20⟩ : ∃ z : Nat → Int32, z = f128 := ⟨_, rfl⟩
  obtain ⟨g137_20, eg137_20⟩ : ∃ z : Nat → Int32, z = f137 := ⟨_, rfl⟩
  obtain ⟨x117_20, ex117_20⟩ : ∃ z : Int32, z = 0 := ⟨_, rfl⟩
  obtain ⟨x120_20, ex120_20⟩ : ∃ z : Int32, z = v120 := ⟨_, rfl⟩
  obtain ⟨x121_20, ex121_20⟩ : ∃ z : Int32, z = v121 := ⟨_, rfl⟩
  obtain ⟨x122_20, ex122_20⟩ : ∃ z : Int32, z = 0 := ⟨_, rfl⟩
  obtain ⟨x123_20, ex123_20⟩ : ∃ z : Int32, z = v123 := ⟨_, rfl⟩
  obtain ⟨x124_20, ex124_20⟩ : ∃ z : Int32, z = v124 := ⟨_, rfl⟩
  obtain ⟨x125_20, ex125_20⟩ : ∃ z : Int32, z = v125 := ⟨_, rfl⟩
  obtain ⟨x129_20, ex129_20⟩ : ∃ z : Int32, z = v129 := ⟨_, rfl⟩
  obtain ⟨x130_20, ex130_20⟩ : ∃ z : Int32, z = v130 := ⟨_, rfl⟩
  obtain ⟨x131_20, ex131_20⟩ : ∃ z : Int32, z = v131 := ⟨_, rfl⟩
  obtain ⟨x132_20, ex132_20⟩ : ∃ z : Int32, z = v132 := ⟨_, rfl⟩
  obtain ⟨x133_20, ex133_20⟩ : ∃ z : Int32, z = v133 := ⟨_, rfl⟩
  obtain ⟨x134_20, ex134_20⟩ : ∃ z : Int32, z = v134 := ⟨_, rfl⟩
  obtain ⟨x135_20, ex135_20⟩ : ∃ z : Int32, z = v135 := ⟨_, rfl⟩
  obtain ⟨x136_20, ex136_20⟩ : ∃ z : Int32, z = v136 := ⟨_, rfl⟩
  obtain ⟨x99_20, ex99_20⟩ : ∃ z : Int32, z = 0 := ⟨_, rfl⟩
  replace hsp : lp_vm_verify_20 nf n_20 v98 v120 v121 v123 v124 v125 v129 v130 v131 v132 v133 v134 v135 v136 f105 f102 f100 f104 f106 f107 f109 f118 f119 f108 f110 f111 f127 f128 f103 f137 f126 nS477 fS477 l1_20 l2_20 g118_20 g119_20 g126_20 g127_20 g128_20 g137_20 x117_20 x120_20 x121_20 x122_20 x123_20 x124_20 x125_20 x129_20 x130_20 x131_20 x132_20 x133_20 x134_20 x135_20 x136_20 x99_20 = some (r0, o118, o119, o126, o127, o128, o137, w117, w120, w121, w122, w123, w124, w125, w129, w130, w131, w132, w133, w134, w135, w136, w99) := by rw [hn_20, el1_20, el2_20, eg118_20, eg119_20, eg126_20, eg127_20, eg128_20, eg137_20, ex117_20, ex120_20, ex121_20, ex122_20, ex123_20, ex124_20, ex125_20, ex129_20, ex130_20, ex131_20, ex132_20, ex133_20, ex134_20, ex135_20, ex136_20, ex99_20]; exact hsp
  replace hl : lv_has ls 4 [(2, .int l2_20), (1, .int l1_20), (0, .ref h0)] := by rw [el1_20, el2_20]; exact hl
  obtain ⟨z20, ez20⟩ : ∃ z : List Value, z = fs_5 := ⟨_, rfl⟩
  have hfh_20_98 : z20[98]? = some (.int v98) := by rw [ez20]; exact hfs_5_98
  have hfh_20_99 : z20[99]? = some (.int x99_20) := by rw [ez20, ex99_20]; exact hfs_5_99
  have hfh_20_100 : z20[100]? = some (.ref qf100) := by rw [ez20]; exact hfs_5_100
  have hfh_20_102 : z20[102]? = some (.ref qf102) := by rw [ez20]; exact hfs_5_102
  have hfh_20_103 : z20[103]? = some (.ref qf103) := by rw [ez20]; exact hfs_5_103
  have hfh_20_104 : z20[104]? = some (.ref qf104) := by rw [ez20]; exact hfs_5_104
  have hfh_20_105 : z20[105]? = some (.ref qf105) := by rw [ez20]; exact hfs_5_105
  have hfh_20_106 : z20[106]? = some (.ref qf106) := by rw [ez20]; exact hfs_5_106
  have hfh_20_107 : z20[107]? = some (.ref qf107) := by rw [ez20]; exact hfs_5_107
  have hfh_20_108 : z20[108]? = some (.ref qf108) := by rw [ez20]; exact hfs_5_108
  have hfh_20_109 : z20[109]? = some (.ref qf109) := by rw [ez20]; exact hfs_5_109
  have hfh_20_110 : z20[110]? = some (.ref qf110) := by rw [ez20]; exact hfs_5_110
  have hfh_20_111 : z20[111]? = some (.ref qf111) := by rw [ez20]; exact hfs_5_111
  have hfh_20_117 : z20[117]? = some (.int x117_20) := by rw [ez20, ex117_20]; exact hfs_5_117
  have hfh_20_118 : z20[118]? = some (.ref qf118) := by rw [ez20]; exact hfs_5_118
  have hfh_20_119 : z20[119]? = some (.ref qf119) := by rw [ez20]; exact hfs_5_119
  have hfh_20_120 : z20[120]? = some (.int x120_20) := by rw [ez20, ex120_20]; exact hfs_5_120
  have hfh_20_121 : z20[121]? = some (.int x121_20) := by rw [ez20, ex121_20]; exact hfs_5_121
  have hfh_20_122 : z20[122]? = some (.int x122_20) := by rw [ez20, ex122_20]; exact hfs_5_122
  have hfh_20_123 : z20[123]? = some (.int x123_20) := by rw [ez20, ex123_20]; exact hfs_5_123
  have hfh_20_124 : z20[124]? = some (.int x124_20) := by rw [ez20, ex124_20]; exact hfs_5_124
  have hfh_20_125 : z20[125]? = some (.int x125_20) := by rw [ez20, ex125_20]; exact hfs_5_125
  have hfh_20_126 : z20[126]? = some (.ref qf126) := by rw [ez20]; exact hfs_5_126
  have hfh_20_127 : z20[127]? = some (.ref qf127) := by rw [ez20]; exact hfs_5_127
  have hfh_20_128 : z20[128]? = some (.ref qf128) := by rw [ez20]; exact hfs_5_128
  have hfh_20_129 : z20[129]? = some (.int x129_20) := by rw [ez20, ex129_20]; exact hfs_5_129
  have hfh_20_130 : z20[130]? = some (.int x130_20) := by rw [ez20, ex130_20]; exact hfs_5_130
  have hfh_20_131 : z20[131]? = some (.int x131_20) := by rw [ez20, ex131_20]; exact hfs_5_131
  have hfh_20_132 : z20[132]? = some (.int x132_20) := by rw [ez20, ex132_20]; exact hfs_5_132
  have hfh_20_133 : z20[133]? = some (.int x133_20) := by rw [ez20, ex133_20]; exact hfs_5_133
  have hfh_20_134 : z20[134]? = some (.int x134_20) := by rw [ez20, ex134_20]; exact hfs_5_134
  have hfh_20_135 : z20[135]? = some (.int x135_20) := by rw [ez20, ex135_20]; exact hfs_5_135
  have hfh_20_136 : z20[136]? = some (.int x136_20) := by rw [ez20, ex136_20]; exact hfs_5_136
  have hfh_20_137 : z20[137]? = some (.ref qf137) := by rw [ez20]; exact hfs_5_137
  have hlh_20 : z20.length = 155 := by rw [ez20]; exact hlfs_5
  have hrh_20 : ∀ j : Nat, j ≠ 117 → j ≠ 120 → j ≠ 121 → j ≠ 122 → j ≠ 123 → j ≠ 124 → j ≠ 125 → j ≠ 129 → j ≠ 130 → j ≠ 131 → j ≠ 132 → j ≠ 133 → j ≠ 134 → j ≠ 135 → j ≠ 136 → j ≠ 99 → z20[j]? = zs[j]? := by rw [ez20]; exact hrs_6
  replace hP : va_P (dC, dI) vwCl [(h0, .inr (13, z20)), (qf105, .inl (cf105, 8, .inl f105)), (qf102, .inl (cf102, 2048, .inl f102)), (qf100, .inl (cf100, 48000, .inl f100)), (qf104, .inl (cf104, 8, .inl f104)), (qf106, .inl (cf106, 8, .inl f106)), (qf107, .inl (cf107, 96, .inl f107)), (qf109, .inl (cf109, 96, .inl f109)), (qf118, .inl (cf118, 2100, .inl g118_20)), (qf119, .inl (cf119, 2100, .inl g119_20)), (qf108, .inl (cf108, 8, .inl f108)), (qf110, .inl (cf110, 96, .inl f110)), (qf111, .inl (cf111, 96, .inl f111)), (qf127, .inl (cf127, 30, .inl g127_20)), (qf128, .inl (cf128, 31, .inl g128_20)), (qf103, .inl (cf103, 8, .inl f103)), (qf137, .inl (cf137, 6, .inl g137_20)), (qf126, .inl (cf126, 1501, .inl g126_20))] H := by rw [ez20, eg118_20, eg119_20, eg126_20, eg127_20, eg128_20, eg137_20]; exact hP
  replace hD : va_D A [(h0, .inr (13, z20)), (qf105, .inl (cf105, 8, .inl f105)), (qf102, .inl (cf102, 2048, .inl f102)), (qf100, .inl (cf100, 48000, .inl f100)), (qf104, .inl (cf104, 8, .inl f104)), (qf106, .inl (cf106, 8, .inl f106)), (qf107, .inl (cf107, 96, .inl f107)), (qf109, .inl (cf109, 96, .inl f109)), (qf118, .inl (cf118, 2100, .inl g118_20)), (qf119, .inl (cf119, 2100, .inl g119_20)), (qf108, .inl (cf108, 8, .inl f108)), (qf110, .inl (cf110, 96, .inl f110)), (qf111, .inl (cf111, 96, .inl f111)), (qf127, .inl (cf127, 30, .inl g127_20)), (qf128, .inl (cf128, 31, .inl g128_20)), (qf103, .inl (cf103, 8, .inl f103)), (qf137, .inl (cf137, 6, .inl g137_20)), (qf126, .inl (cf126, 1501, .inl g126_20))] := by rw [ez20, eg118_20, eg119_20, eg126_20, eg127_20, eg128_20, eg137_20]; exact hD
  clear hn_20 ez20 el1_20 el2_20 eg118_20 eg119_20 eg126_20 eg127_20 eg128_20 eg137_20 ex117_20 ex120_20 ex121_20 ex122_20 ex123_20 ex124_20 ex125_20 ex129_20 ex130_20 ex131_20 ex132_20 ex133_20 ex134_20 ex135_20 ex136_20 ex99_20
  try clear hlo
  try clear hH
  revert hsp
  revert hP
  revert hD
  revert hS
  revert hl
  revert hrh_20
  revert hlh_20
  revert hfh_20_137
  revert hfh_20_136
  revert hfh_20_135
  revert hfh_20_134
  revert hfh_20_133
  revert hfh_20_132
  revert hfh_20_131
  revert hfh_20_130
  revert hfh_20_129
  revert hfh_20_128
  revert hfh_20_127
  revert hfh_20_126
  revert hfh_20_125
  revert hfh_20_124
  revert hfh_20_123
  revert hfh_20_122
  revert hfh_20_121
  revert hfh_20_120
  revert hfh_20_119
  revert hfh_20_118
  revert hfh_20_117
  revert hfh_20_111
  revert hfh_20_110
  revert hfh_20_109
  revert hfh_20_108
  revert hfh_20_107
  revert hfh_20_106
  revert hfh_20_105
  revert hfh_20_104
  revert hfh_20_103
  revert hfh_20_102
  revert hfh_20_100
  revert hfh_20_99
  revert hfh_20_98
  revert x99_20
  revert x136_20
  revert x135_20
  revert x134_20
  revert x133_20
  revert x132_20
  revert x131_20
  revert x130_20
  revert x129_20
  revert x125_20
  revert x124_20
  revert x123_20
  revert x122_20
  revert x121_20
  revert x120_20
  revert x117_20
  revert g137_20
  revert g128_20
  revert g127_20
  revert g126_20
  revert g119_20
  revert g118_20
  revert l2_20
  revert l1_20
  revert z20
  revert ls
  revert locs
  revert H
  induction n_20 with
  | zero => intro H locs ls z20 l1_20 l2_20 g118_20 g119_20 g126_20 g127_20 g128_20 g137_20 x117_20 x120_20 x121_20 x122_20 x123_20 x124_20 x125_20 x129_20 x130_20 x131_20 x132_20 x133_20 x134_20 x135_20 x136_20 x99_20 hfh_20_98 hfh_20_99 hfh_20_100 hfh_20_102 hfh_20_103 hfh_20_104 hfh_20_105 hfh_20_106 hfh_20_107 hfh_20_108 hfh_20_109 hfh_20_110 hfh_20_111 hfh_20_117 hfh_20_118 hfh_20_119 hfh_20_120 hfh_20_121 hfh_20_122 hfh_20_123 hfh_20_124 hfh_20_125 hfh_20_126 hfh_20_127 hfh_20_128 hfh_20_129 hfh_20_130 hfh_20_131 hfh_20_132 hfh_20_133 hfh_20_134 hfh_20_135 hfh_20_136 hfh_20_137 hlh_20 hrh_20 hl hS hD hP hsp; unfold lp_vm_verify_20 at hsp; cases hsp
  | succ n_20 ih_20 =>
    intro H locs ls z20 l1_20 l2_20 g118_20 g119_20 g126_20 g127_20 g128_20 g137_20 x117_20 x120_20 x121_20 x122_20 x123_20 x124_20 x125_20 x129_20 x130_20 x131_20 x132_20 x133_20 x134_20 x135_20 x136_20 x99_20 hfh_20_98 hfh_20_99 hfh_20_100 hfh_20_102 hfh_20_103 hfh_20_104 hfh_20_105 hfh_20_106 hfh_20_107 hfh_20_108 hfh_20_109 hfh_20_110 hfh_20_111 hfh_20_117 hfh_20_118 hfh_20_119 hfh_20_120 hfh_20_121 hfh_20_122 hfh_20_123 hfh_20_124 hfh_20_125 hfh_20_126 hfh_20_127 hfh_20_128 hfh_20_129 hfh_20_130 hfh_20_131 hfh_20_132 hfh_20_133 hfh_20_134 hfh_20_135 hfh_20_136 hfh_20_137 hlh_20 hrh_20 hl hS hD hP hsp
    unfold lp_vm_verify_20 at hsp
    try dsimp only at hsp
    refine lv_iload_n hx hb dX13_verify_20 rfl (lv_at hl 0 rfl) ?_
    refine lv_bipush (v := 8) hx hb dX13_verify_21 (by decide) ?_
    refine lv_aload_n hx hb dX13_verify_23 rfl (lv_at hl 2 rfl) ?_
    refine va_get (D := (dC, dI)) (ci := 13) (v := .int v98) (C := RX13) (T := TX13) (N := 155) hx hb hts uV_h9_X13 hown hK hP 0 rfl rfl 98 (by decide) (hts (.fieldLink RX13 833 "ClassMillModel" "there" "I") mw_h9_276) (fun _ h9 => h9) hfh_20_98 dX13_verify_24 ?_
    refine lv_iadd hx hb dX13_verify_27 ?_
    refine lv_icmp_ge (tgt := 47) hx hb dX13_verify_28 (by decide) (fun c_7 => ?_) (fun c_7 => ?_)
    · rw [if_pos c_7] at hsp
      exact hj_47 (H, locs, ls, z20, l1_20, g118_20, g119_20, g126_20, g127_20, g128_20, g137_20, x117_20, x120_20, x121_20, x122_20, x123_20, x124_20, x125_20, x129_20, x130_20, x131_20, x132_20, x133_20, x134_20, x135_20, x136_20, x99_20) ⟨lv_sub hl [2, 1] rfl, hS, hD.sub (ws' := [(h0, .inr (13, z20)), (qf105, .inl (cf105, 8, .inl f105)), (qf102, .inl (cf102, 2048, .inl f102)), (qf100, .inl (cf100, 48000, .inl f100)), (qf104, .inl (cf104, 8, .inl f104)), (qf106, .inl (cf106, 8, .inl f106)), (qf107, .inl (cf107, 96, .inl f107)), (qf109, .inl (cf109, 96, .inl f109)), (qf118, .inl (cf118, 2100, .inl g118_20)), (qf119, .inl (cf119, 2100, .inl g119_20)), (qf108, .inl (cf108, 8, .inl f108)), (qf110, .inl (cf110, 96, .inl f110)), (qf111, .inl (cf111, 96, .inl f111)), (qf127, .inl (cf127, 30, .inl g127_20)), (qf128, .inl (cf128, 31, .inl g128_20)), (qf103, .inl (cf103, 8, .inl f103)), (qf137, .inl (cf137, 6, .inl g137_20)), (qf126, .inl (cf126, 1501, .inl g126_20))]) [0, 1, 2, 3, 4, 5, 6, 7, 8, 9, 10, 11, 12, 13, 14, 15, 16, 17] (by decide) rfl, hP.sub (ws' := [(h0, .inr (13, z20)), (qf105, .inl (cf105, 8, .inl f105)), (qf102, .inl (cf102, 2048, .inl f102)), (qf100, .inl (cf100, 48000, .inl f100)), (qf104, .inl (cf104, 8, .inl f104)), (qf106, .inl (cf106, 8, .inl f106)), (qf107, .inl (cf107, 96, .inl f107)), (qf109, .inl (cf109, 96, .inl f109)), (qf118, .inl (cf118, 2100, .inl g118_20)), (qf119, .inl (cf119, 2100, .inl g119_20)), (qf108, .inl (cf108, 8, .inl f108)), (qf110, .inl (cf110, 96, .inl f110)), (qf111, .inl (cf111, 96, .inl f111)), (qf127, .inl (cf127, 30, .inl g127_20)), (qf128, .inl (cf128, 31, .inl g128_20)), (qf103, .inl (cf103, 8, .inl f103)), (qf137, .inl (cf137, 6, .inl g137_20)), (qf126, .inl (cf126, 1501, .inl g126_20))]) [0, 1, 2, 3, 4, 5, 6, 7, 8, 9, 10, 11, 12, 13, 14, 15, 16, 17] rfl, hfh_20_98, hfh_20_99, hfh_20_100, hfh_20_102, hfh_20_103, hfh_20_104, hfh_20_105, hfh_20_106, hfh_20_107, hfh_20_108, hfh_20_109, hfh_20_110, hfh_20_111, hfh_20_117, hfh_20_118, hfh_20_119, hfh_20_120, hfh_20_121, hfh_20_122, hfh_20_123, hfh_20_124, hfh_20_125, hfh_20_126, hfh_20_127, hfh_20_128, hfh_20_129, hfh_20_130, hfh_20_131, hfh_20_132, hfh_20_133, hfh_20_134, hfh_20_135, hfh_20_136, hfh_20_137, hlh_20, hrh_20, hsp⟩
    · rw [if_neg c_7] at hsp
      refine lv_iload_n hx hb dX13_verify_31 rfl (lv_at hl 1 rfl) ?_
      refine lv_if_eq (tgt := 47) hx hb dX13_verify_32 (by decide) (fun c_8 => ?_) (fun c_8 => ?_)
      · rw [if_pos c_8] at hsp
        exact hj_47 (H, locs, ls, z20, l1_20, g118_20, g119_20, g126_20, g127_20, g128_20, g137_20, x117_20, x120_20, x121_20, x122_20, x123_20, x124_20, x125_20, x129_20, x130_20, x131_20, x132_20, x133_20, x134_20, x135_20, x136_20, x99_20) ⟨lv_sub hl [2, 1] rfl, hS, hD.sub (ws' := [(h0, .inr (13, z20)), (qf105, .inl (cf105, 8, .inl f105)), (qf102, .inl (cf102, 2048, .inl f102)), (qf100, .inl (cf100, 48000, .inl f100)), (qf104, .inl (cf104, 8, .inl f104)), (qf106, .inl (cf106, 8, .inl f106)), (qf107, .inl (cf107, 96, .inl f107)), (qf109, .inl (cf109, 96, .inl f109)), (qf118, .inl (cf118, 2100, .inl g118_20)), (qf119, .inl (cf119, 2100, .inl g119_20)), (qf108, .inl (cf108, 8, .inl f108)), (qf110, .inl (cf110, 96, .inl f110)), (qf111, .inl (cf111, 96, .inl f111)), (qf127, .inl (cf127, 30, .inl g127_20)), (qf128, .inl (cf128, 31, .inl g128_20)), (qf103, .inl (cf103, 8, .inl f103)), (qf137, .inl (cf137, 6, .inl g137_20)), (qf126, .inl (cf126, 1501, .inl g126_20))]) [0, 1, 2, 3, 4, 5, 6, 7, 8, 9, 10, 11, 12, 13, 14, 15, 16, 17] (by decide) rfl, hP.sub (ws' := [(h0, .inr (13, z20)), (qf105, .inl (cf105, 8, .inl f105)), (qf102, .inl (cf102, 2048, .inl f102)), (qf100, .inl (cf100, 48000, .inl f100)), (qf104, .inl (cf104, 8, .inl f104)), (qf106, .inl (cf106, 8, .inl f106)), (qf107, .inl (cf107, 96, .inl f107)), (qf109, .inl (cf109, 96, .inl f109)), (qf118, .inl (cf118, 2100, .inl g118_20)), (qf119, .inl (cf119, 2100, .inl g119_20)), (qf108, .inl (cf108, 8, .inl f108)), (qf110, .inl (cf110, 96, .inl f110)), (qf111, .inl (cf111, 96, .inl f111)), (qf127, .inl (cf127, 30, .inl g127_20)), (qf128, .inl (cf128, 31, .inl g128_20)), (qf103, .inl (cf103, 8, .inl f103)), (qf137, .inl (cf137, 6, .inl g137_20)), (qf126, .inl (cf126, 1501, .inl g126_20))]) [0, 1, 2, 3, 4, 5, 6, 7, 8, 9, 10, 11, 12, 13, 14, 15, 16, 17] rfl, hfh_20_98, hfh_20_99, hfh_20_100, hfh_20_102, hfh_20_103, hfh_20_104, hfh_20_105, hfh_20_106, hfh_20_107, hfh_20_108, hfh_20_109, hfh_20_110, hfh_20_111, hfh_20_117, hfh_20_118, hfh_20_119, hfh_20_120, hfh_20_121, hfh_20_122, hfh_20_123, hfh_20_124, hfh_20_125, hfh_20_126, hfh_20_127, hfh_20_128, hfh_20_129, hfh_20_130, hfh_20_131, hfh_20_132, hfh_20_133, hfh_20_134, hfh_20_135, hfh_20_136, hfh_20_137, hlh_20, hrh_20, hsp⟩
      · rw [if_neg c_8] at hsp
        refine lv_aload_n hx hb dX13_verify_35 rfl (lv_at hl 2 rfl) ?_
        refine lv_iload_n hx hb dX13_verify_36 rfl (lv_at hl 0 rfl) ?_
        obtain ⟨⟨u1_0, g901_1, g901_2, u1_3, u1_4, u1_5, u1_6, u1_7, u1_8, u1_9⟩, hu_1, hsp⟩ := ox_bind hsp
        try dsimp only at hsp
        have hPc := hP.sub (ws' := [(h0, .inr (13, z20)), (qf105, .inl (cf105, 8, .inl f105)), (qf102, .inl (cf102, 2048, .inl f102)), (qf100, .inl (cf100, 48000, .inl f100)), (qf104, .inl (cf104, 8, .inl f104)), (qf106, .inl (cf106, 8, .inl f106)), (qf107, .inl (cf107, 96, .inl f107)), (qf109, .inl (cf109, 96, .inl f109)), (qf118, .inl (cf118, 2100, .inl g118_20)), (qf119, .inl (cf119, 2100, .inl g119_20)), (qf108, .inl (cf108, 8, .inl f108))]) [0, 1, 2, 3, 4, 5, 6, 7, 8, 9, 10] rfl
        have hDc := hD.sub (ws' := [(h0, .inr (13, z20)), (qf105, .inl (cf105, 8, .inl f105)), (qf102, .inl (cf102, 2048, .inl f102)), (qf100, .inl (cf100, 48000, .inl f100)), (qf104, .inl (cf104, 8, .inl f104)), (qf106, .inl (cf106, 8, .inl f106)), (qf107, .inl (cf107, 96, .inl f107)), (qf109, .inl (cf109, 96, .inl f109)), (qf118, .inl (cf118, 2100, .inl g118_20)), (qf119, .inl (cf119, 2100, .inl g119_20)), (qf108, .inl (cf108, 8, .inl f108))]) [0, 1, 2, 3, 4, 5, 6, 7, 8, 9, 10] (by decide) rfl
        have hKc := hK.sub (tys' := [(cf105, .int), (cf102, .int), (cf100, .int), (cf104, .int), (cf106, .int), (cf107, .int), (cf109, .int), (cf118, .int), (cf119, .int), (cf108, .int)]) [0, 1, 2, 3, 4, 5, 6, 7, 8, 9] rfl
        have hFc := va_free (wc := [(h0, .inr (13, z20)), (qf105, .inl (cf105, 8, .inl f105)), (qf102, .inl (cf102, 2048, .inl f102)), (qf100, .inl (cf100, 48000, .inl f100)), (qf104, .inl (cf104, 8, .inl f104)), (qf106, .inl (cf106, 8, .inl f106)), (qf107, .inl (cf107, 96, .inl f107)), (qf109, .inl (cf109, 96, .inl f109)), (qf118, .inl (cf118, 2100, .inl g118_20)), (qf119, .inl (cf119, 2100, .inl g119_20)), (qf108, .inl (cf108, 8, .inl f108))]) hD hS hA [0, 1, 2, 3, 4, 5, 6, 7, 8, 9, 10] rfl
        refine va_calli (va_runV (As := [.int l2_20]) (rest := []) ⟨hx, hb, hml, hown, hts⟩ (vm_classFits l dC dI H.size h0 z20 l2_20 v98 qf100 qf102 qf104 qf105 qf106 qf107 qf108 qf109 x117_20 qf118 qf119 x120_20 x121_20 x122_20 x123_20 x124_20 x125_20 cf105 f105 cf102 f102 cf100 f100 cf104 f104 cf106 f106 cf107 f107 cf109 f109 cf118 g118_20 cf119 g119_20 cf108 f108 nS477 fS477 hS477 qS477 tS477 nf u1_0 g901_1 g901_2 u1_3 u1_4 u1_5 u1_6 u1_7 u1_8 u1_9 hlh_20 hfh_20_98 hfh_20_100 hfh_20_102 hfh_20_104 hfh_20_105 hfh_20_106 hfh_20_107 hfh_20_108 hfh_20_109 hfh_20_117 hfh_20_118 hfh_20_119 hfh_20_120 hfh_20_121 hfh_20_122 hfh_20_123 hfh_20_124 hfh_20_125 hu_1) (cwV 1 hts gv_h9_120 rfl rfl rfl (by decide +kernel) ⟨Nat.le_of_ble_eq_true rfl, Nat.le_of_ble_eq_true rfl⟩) ⟨fun a U g mk q => by obtain ⟨q0, q1, qP, qK, qD, qhZWS477, qhZRS477⟩ := q; exact ⟨q0, q1, qP, va_K.moved (u := U) (U := U.calling g mk a) (Vm.Alike.refl U.vm) qK, qD, pz_W.moved (u := U) (U := U.calling g mk a) (Vm.Alike.refl U.vm) qhZWS477, vk_R.same rfl qhZRS477⟩, va_recv hKc hPc (ci := 13) (q0 := 0) rfl rfl, fun U hU hW => ⟨rfl, by rw [hU], by rw [hU]; exact hPc, va_K.moved hW.alike hKc, hDc.weaken (fun _ _ _ _ => trivial), by rw [hU]; exact ((pz_W.moved hW.alike hZWS477).kept hS.2.1).narrow hFc, vk_R.warm hW hZRS477⟩⟩ rfl rfl hl.1 rfl (lv_room (Nat.le_of_ble_eq_true rfl)) dX13_verify_37 ⟨Nat.le_of_ble_eq_true rfl, Nat.le_of_ble_eq_true rfl⟩) hS (fun q _ h => hFc q h) hFc ?_
        clear hS
        intro r_9 u t H1 locs ht hvm hw hB hz1 hk1 hS
        obtain ⟨z_1, rfl⟩ : ∃ z, z = u := ⟨_, rfl⟩
        obtain ⟨hP1, hK1, hD1⟩ := hB
        rw [ht] at hP1
        have hK1 := va_K.moved hvm.symm hK1
        try dsimp only at hw
        have hPD := va_join (wr := [(qf110, .inl (cf110, 96, .inl f110)), (qf111, .inl (cf111, 96, .inl f111)), (qf127, .inl (cf127, 30, .inl g127_20)), (qf128, .inl (cf128, 31, .inl g128_20)), (qf103, .inl (cf103, 8, .inl f103)), (qf137, .inl (cf137, 6, .inl g137_20)), (qf126, .inl (cf126, 1501, .inl g126_20))]) (w1 := [(h0, .inr (13, z_1)), (qf105, .inl (cf105, 8, .inl f105)), (qf102, .inl (cf102, 2048, .inl f102)), (qf100, .inl (cf100, 48000, .inl f100)), (qf104, .inl (cf104, 8, .inl f104)), (qf106, .inl (cf106, 8, .inl f106)), (qf107, .inl (cf107, 96, .inl f107)), (qf109, .inl (cf109, 96, .inl f109)), (qf118, .inl (cf118, 2100, .inl g901_1)), (qf119, .inl (cf119, 2100, .inl g901_2)), (qf108, .inl (cf108, 8, .inl f108))]) hP hD [0, 1, 2, 3, 4, 5, 6, 7, 8, 9, 10] [11, 12, 13, 14, 15, 16, 17] rfl rfl (by decide) (by decide) hk1 hFc hP1 hD1
        clear hP hD
        obtain ⟨hP, hD⟩ := hPD
        replace hK := (hK.sub (tys' := [(cf110, .int), (cf111, .int), (cf127, .int), (cf128, .int), (cf103, .int), (cf137, .int), (cf126, .boolean)]) [10, 11, 12, 13, 14, 15, 16] rfl).app hK1
        clear hPc hDc hKc hFc hP1 hK1 hD1 hz1 hk1 ht hvm
        generalize H1 = H at hP hS ⊢
        replace hP : va_P (dC, dI) vwCl [(qf110, .inl (cf110, 96, .inl f110)), (qf111, .inl (cf111, 96, .inl f111)), (qf127, .inl (cf127, 30, .inl g127_20)), (qf128, .inl (cf128, 31, .inl g128_20)), (qf103, .inl (cf103, 8, .inl f103)), (qf137, .inl (cf137, 6, .inl g137_20)), (qf126, .inl (cf126, 1501, .inl g126_20)), (h0, .inr (13, z_1)), (qf105, .inl (cf105, 8, .inl f105)), (qf102, .inl (cf102, 2048, .inl f102)), (qf100, .inl (cf100, 48000, .inl f100)), (qf104, .inl (cf104, 8, .inl f104)), (qf106, .inl (cf106, 8, .inl f106)), (qf107, .inl (cf107, 96, .inl f107)), (qf109, .inl (cf109, 96, .inl f109)), (qf118, .inl (cf118, 2100, .inl g901_1)), (qf119, .inl (cf119, 2100, .inl g901_2)), (qf108, .inl (cf108, 8, .inl f108))] H := hP
        replace hD : va_D A [(qf110, .inl (cf110, 96, .inl f110)), (qf111, .inl (cf111, 96, .inl f111)), (qf127, .inl (cf127, 30, .inl g127_20)), (qf128, .inl (cf128, 31, .inl g128_20)), (qf103, .inl (cf103, 8, .inl f103)), (qf137, .inl (cf137, 6, .inl g137_20)), (qf126, .inl (cf126, 1501, .inl g126_20)), (h0, .inr (13, z_1)), (qf105, .inl (cf105, 8, .inl f105)), (qf102, .inl (cf102, 2048, .inl f102)), (qf100, .inl (cf100, 48000, .inl f100)), (qf104, .inl (cf104, 8, .inl f104)), (qf106, .inl (cf106, 8, .inl f106)), (qf107, .inl (cf107, 96, .inl f107)), (qf109, .inl (cf109, 96, .inl f109)), (qf118, .inl (cf118, 2100, .inl g901_1)), (qf119, .inl (cf119, 2100, .inl g901_2)), (qf108, .inl (cf108, 8, .inl f108))] := hD
        replace hK : va_K (dC, dI) vwCl [(cf110, .int), (cf111, .int), (cf127, .int), (cf128, .int), (cf103, .int), (cf137, .int), (cf126, .boolean), (cf105, .int), (cf102, .int), (cf100, .int), (cf104, .int), (cf106, .int), (cf107, .int), (cf109, .int), (cf118, .int), (cf119, .int), (cf108, .int)] s := hK
        obtain ⟨hwa_1, hln_1, hre_1, hch_1_117, hch_1_120, hch_1_121, hch_1_122, hch_1_123, hch_1_124, hch_1_125⟩ := hw
        have hfk_1_98 : z_1[98]? = some (.int v98) := (hre_1 98 (by decide) (by decide) (by decide) (by decide) (by decide) (by decide) (by decide)).trans (hfh_20_98)
        have hfk_1_99 : z_1[99]? = some (.int x99_20) := (hre_1 99 (by decide) (by decide) (by decide) (by decide) (by decide) (by decide) (by decide)).trans (hfh_20_99)
        have hfk_1_100 : z_1[100]? = some (.ref qf100) := (hre_1 100 (by decide) (by decide) (by decide) (by decide) (by decide) (by decide) (by decide)).trans (hfh_20_100)
        have hfk_1_102 : z_1[102]? = some (.ref qf102) := (hre_1 102 (by decide) (by decide) (by decide) (by decide) (by decide) (by decide) (by decide)).trans (hfh_20_102)
        have hfk_1_103 : z_1[103]? = some (.ref qf103) := (hre_1 103 (by decide) (by decide) (by decide) (by decide) (by decide) (by decide) (by decide)).trans (hfh_20_103)
        have hfk_1_104 : z_1[104]? = some (.ref qf104) := (hre_1 104 (by decide) (by decide) (by decide) (by decide) (by decide) (by decide) (by decide)).trans (hfh_20_104)
        have hfk_1_105 : z_1[105]? = some (.ref qf105) := (hre_1 105 (by decide) (by decide) (by decide) (by decide) (by decide) (by decide) (by decide)).trans (hfh_20_105)
        have hfk_1_106 : z_1[106]? = some (.ref qf106) := (hre_1 106 (by decide) (by decide) (by decide) (by decide) (by decide) (by decide) (by decide)).trans (hfh_20_106)
        have hfk_1_107 : z_1[107]? = some (.ref qf107) := (hre_1 107 (by decide) (by decide) (by decide) (by decide) (by decide) (by decide) (by decide)).trans (hfh_20_107)
        have hfk_1_108 : z_1[108]? = some (.ref qf108) := (hre_1 108 (by decide) (by decide) (by decide) (by decide) (by decide) (by decide) (by decide)).trans (hfh_20_108)
        have hfk_1_109 : z_1[109]? = some (.ref qf109) := (hre_1 109 (by decide) (by decide) (by decide) (by decide) (by decide) (by decide) (by decide)).trans (hfh_20_109)
        have hfk_1_110 : z_1[110]? = some (.ref qf110) := (hre_1 110 (by decide) (by decide) (by decide) (by decide) (by decide) (by decide) (by decide)).trans (hfh_20_110)
        have hfk_1_111 : z_1[111]? = some (.ref qf111) := (hre_1 111 (by decide) (by decide) (by decide) (by decide) (by decide) (by decide) (by decide)).trans (hfh_20_111)
        have hfk_1_118 : z_1[118]? = some (.ref qf118) := (hre_1 118 (by decide) (by decide) (by decide) (by decide) (by decide) (by decide) (by decide)).trans (hfh_20_118)
        have hfk_1_119 : z_1[119]? = some (.ref qf119) := (hre_1 119 (by decide) (by decide) (by decide) (by decide) (by decide) (by decide) (by decide)).trans (hfh_20_119)
        have hfk_1_126 : z_1[126]? = some (.ref qf126) := (hre_1 126 (by decide) (by decide) (by decide) (by decide) (by decide) (by decide) (by decide)).trans (hfh_20_126)
        have hfk_1_127 : z_1[127]? = some (.ref qf127) := (hre_1 127 (by decide) (by decide) (by decide) (by decide) (by decide) (by decide) (by decide)).trans (hfh_20_127)
        have hfk_1_128 : z_1[128]? = some (.ref qf128) := (hre_1 128 (by decide) (by decide) (by decide) (by decide) (by decide) (by decide) (by decide)).trans (hfh_20_128)
        have hfk_1_129 : z_1[129]? = some (.int x129_20) := (hre_1 129 (by decide) (by decide) (by decide) (by decide) (by decide) (by decide) (by decide)).trans (hfh_20_129)
        have hfk_1_130 : z_1[130]? = some (.int x130_20) := (hre_1 130 (by decide) (by decide) (by decide) (by decide) (by decide) (by decide) (by decide)).trans (hfh_20_130)
        have hfk_1_131 : z_1[131]? = some (.int x131_20) := (hre_1 131 (by decide) (by decide) (by decide) (by decide) (by decide) (by decide) (by decide)).trans (hfh_20_131)
        have hfk_1_132 : z_1[132]? = some (.int x132_20) := (hre_1 132 (by decide) (by decide) (by decide) (by decide) (by decide) (by decide) (by decide)).trans (hfh_20_132)
        have hfk_1_133 : z_1[133]? = some (.int x133_20) := (hre_1 133 (by decide) (by decide) (by decide) (by decide) (by decide) (by decide) (by decide)).trans (hfh_20_133)
        have hfk_1_134 : z_1[134]? = some (.int x134_20) := (hre_1 134 (by decide) (by decide) (by decide) (by decide) (by decide) (by decide) (by decide)).trans (hfh_20_134)
        have hfk_1_135 : z_1[135]? = some (.int x135_20) := (hre_1 135 (by decide) (by decide) (by decide) (by decide) (by decide) (by decide) (by decide)).trans (hfh_20_135)
        have hfk_1_136 : z_1[136]? = some (.int x136_20) := (hre_1 136 (by decide) (by decide) (by decide) (by decide) (by decide) (by decide) (by decide)).trans (hfh_20_136)
        have hfk_1_137 : z_1[137]? = some (.ref qf137) := (hre_1 137 (by decide) (by decide) (by decide) (by decide) (by decide) (by decide) (by decide)).trans (hfh_20_137)
        have hrq_1 : ∀ j : Nat, j ≠ 117 → j ≠ 120 → j ≠ 121 → j ≠ 122 → j ≠ 123 → j ≠ 124 → j ≠ 125 → j ≠ 129 → j ≠ 130 → j ≠ 131 → j ≠ 132 → j ≠ 133 → j ≠ 134 → j ≠ 135 → j ≠ 136 → j ≠ 99 → z_1[j]? = zs[j]? := fun j g117 g120 g121 g122 g123 g124 g125 g129 g130 g131 g132 g133 g134 g135 g136 g99 => (hre_1 j g117 g120 g121 g122 g123 g124 g125).trans (hrh_20 j g117 g120 g121 g122 g123 g124 g125 g129 g130 g131 g132 g133 g134 g135 g136 g99)
        obtain ⟨rfl, hz_1⟩ := hwa_1
        rcases hz_1 with rfl | rfl
        · rw [if_pos rfl] at hsp
          refine lv_istore_n (lv' := [(1, .int 0), (2, .int l2_20), (0, .ref h0)]) hx hb dX13_verify_40 rfl hl (by decide) rfl (fun ls hl => ?_)
          refine lv_iinc (v := (l2_20 + 1)) (lv' := [(2, .int (l2_20 + 1)), (1, .int 0), (0, .ref h0)]) hx hb dX13_verify_41 hl (k := 1) rfl rfl (by decide) rfl (fun ls hl => ?_)
          refine lv_goto (tgt := 20) hx hb dX13_verify_44 (by decide) ?_
          exact ih_20 H locs ls z_1 0 (l2_20 + 1) g901_1 g901_2 g126_20 g127_20 g128_20 g137_20 u1_3 u1_4 u1_5 u1_6 u1_7 u1_8 u1_9 x129_20 x130_20 x131_20 x132_20 x133_20 x134_20 x135_20 x136_20 x99_20 (hfk_1_98) (hfk_1_99) (hfk_1_100) (hfk_1_102) (hfk_1_103) (hfk_1_104) (hfk_1_105) (hfk_1_106) (hfk_1_107) (hfk_1_108) (hfk_1_109) (hfk_1_110) (hfk_1_111) (hch_1_117) (hfk_1_118) (hfk_1_119) (hch_1_120) (hch_1_121) (hch_1_122) (hch_1_123) (hch_1_124) (hch_1_125) (hfk_1_126) (hfk_1_127) (hfk_1_128) (hfk_1_129) (hfk_1_130) (hfk_1_131) (hfk_1_132) (hfk_1_133) (hfk_1_134) (hfk_1_135) (hfk_1_136) (hfk_1_137) hln_1 hrq_1 (lv_sub hl [0, 1, 2] rfl) hS (hD.sub (ws' := [(h0, .inr (13, z_1)), (qf105, .inl (cf105, 8, .inl f105)), (qf102, .inl (cf102, 2048, .inl f102)), (qf100, .inl (cf100, 48000, .inl f100)), (qf104, .inl (cf104, 8, .inl f104)), (qf106, .inl (cf106, 8, .inl f106)), (qf107, .inl (cf107, 96, .inl f107)), (qf109, .inl (cf109, 96, .inl f109)), (qf118, .inl (cf118, 2100, .inl g901_1)), (qf119, .inl (cf119, 2100, .inl g901_2)), (qf108, .inl (cf108, 8, .inl f108)), (qf110, .inl (cf110, 96, .inl f110)), (qf111, .inl (cf111, 96, .inl f111)), (qf127, .inl (cf127, 30, .inl g127_20)), (qf128, .inl (cf128, 31, .inl g128_20)), (qf103, .inl (cf103, 8, .inl f103)), (qf137, .inl (cf137, 6, .inl g137_20)), (qf126, .inl (cf126, 1501, .inl g126_20))]) [7, 8, 9, 10, 11, 12, 13, 14, 15, 16, 17, 0, 1, 2, 3, 4, 5, 6] (by decide) rfl) (hP.sub (ws' := [(h0, .inr (13, z_1)), (qf105, .inl (cf105, 8, .inl f105)), (qf102, .inl (cf102, 2048, .inl f102)), (qf100, .inl (cf100, 48000, .inl f100)), (qf104, .inl (cf104, 8, .inl f104)), (qf106, .inl (cf106, 8, .inl f106)), (qf107, .inl (cf107, 96, .inl f107)), (qf109, .inl (cf109, 96, .inl f109)), (qf118, .inl (cf118, 2100, .inl g901_1)), (qf119, .inl (cf119, 2100, .inl g901_2)), (qf108, .inl (cf108, 8, .inl f108)), (qf110, .inl (cf110, 96, .inl f110)), (qf111, .inl (cf111, 96, .inl f111)), (qf127, .inl (cf127, 30, .inl g127_20)), (qf128, .inl (cf128, 31, .inl g128_20)), (qf103, .inl (cf103, 8, .inl f103)), (qf137, .inl (cf137, 6, .inl g137_20)), (qf126, .inl (cf126, 1501, .inl g126_20))]) [7, 8, 9, 10, 11, 12, 13, 14, 15, 16, 17, 0, 1, 2, 3, 4, 5, 6] rfl) hsp
        · rw [if_neg (by decide)] at hsp
          refine lv_istore_n (lv' := [(1, .int 1), (2, .int l2_20), (0, .ref h0)]) hx hb dX13_verify_40 rfl hl (by decide) rfl (fun ls hl => ?_)
          refine lv_iinc (v := (l2_20 + 1)) (lv' := [(2, .int (l2_20 + 1)), (1, .int 1), (0, .ref h0)]) hx hb dX13_verify_41 hl (k := 1) rfl rfl (by decide) rfl (fun ls hl => ?_)
          refine lv_goto (tgt := 20) hx hb dX13_verify_44 (by decide) ?_
          exact ih_20 H locs ls z_1 1 (l2_20 + 1) g901_1 g901_2 g126_20 g127_20 g128_20 g137_20 u1_3 u1_4 u1_5 u1_6 u1_7 u1_8 u1_9 x129_20 x130_20 x131_20 x132_20 x133_20 x134_20 x135_20 x136_20 x99_20 (hfk_1_98) (hfk_1_99) (hfk_1_100) (hfk_1_102) (hfk_1_103) (hfk_1_104) (hfk_1_105) (hfk_1_106) (hfk_1_107) (hfk_1_108) (hfk_1_109) (hfk_1_110) (hfk_1_111) (hch_1_117) (hfk_1_118) (hfk_1_119) (hch_1_120) (hch_1_121) (hch_1_122) (hch_1_123) (hch_1_124) (hch_1_125) (hfk_1_126) (hfk_1_127) (hfk_1_128) (hfk_1_129) (hfk_1_130) (hfk_1_131) (hfk_1_132) (hfk_1_133) (hfk_1_134) (hfk_1_135) (hfk_1_136) (hfk_1_137) hln_1 hrq_1 (lv_sub hl [0, 1, 2] rfl) hS (hD.sub (ws' := [(h0, .inr (13, z_1)), (qf105, .inl (cf105, 8, .inl f105)), (qf102, .inl (cf102, 2048, .inl f102)), (qf100, .inl (cf100, 48000, .inl f100)), (qf104, .inl (cf104, 8, .inl f104)), (qf106, .inl (cf106, 8, .inl f106)), (qf107, .inl (cf107, 96, .inl f107)), (qf109, .inl (cf109, 96, .inl f109)), (qf118, .inl (cf118, 2100, .inl g901_1)), (qf119, .inl (cf119, 2100, .inl g901_2)), (qf108, .inl (cf108, 8, .inl f108)), (qf110, .inl (cf110, 96, .inl f110)), (qf111, .inl (cf111, 96, .inl f111)), (qf127, .inl (cf127, 30, .inl g127_20)), (qf128, .inl (cf128, 31, .inl g128_20)), (qf103, .inl (cf103, 8, .inl f103)), (qf137, .inl (cf137, 6, .inl g137_20)), (qf126, .inl (cf126, 1501, .inl g126_20))]) [7, 8, 9, 10, 11, 12, 13, 14, 15, 16, 17, 0, 1, 2, 3, 4, 5, 6] (by decide) rfl) (hP.sub (ws' := [(h0, .inr (13, z_1)), (qf105, .inl (cf105, 8, .inl f105)), (qf102, .inl (cf102, 2048, .inl f102)), (qf100, .inl (cf100, 48000, .inl f100)), (qf104, .inl (cf104, 8, .inl f104)), (qf106, .inl (cf106, 8, .inl f106)), (qf107, .inl (cf107, 96, .inl f107)), (qf109, .inl (cf109, 96, .inl f109)), (qf118, .inl (cf118, 2100, .inl g901_1)), (qf119, .inl (cf119, 2100, .inl g901_2)), (qf108, .inl (cf108, 8, .inl f108)), (qf110, .inl (cf110, 96, .inl f110)), (qf111, .inl (cf111, 96, .inl f111)), (qf127, .inl (cf127, 30, .inl g127_20)), (qf128, .inl (cf128, 31, .inl g128_20)), (qf103, .inl (cf103, 8, .inl f103)), (qf137, .inl (cf137, 6, .inl g137_20)), (qf126, .inl (cf126, 1501, .inl g126_20))]) [7, 8, 9, 10, 11, 12, 13, 14, 15, 16, 17, 0, 1, 2, 3, 4, 5, 6] rfl) hsp

set_option maxHeartbeats 4000000 in
set_option maxRecDepth 100000 in
/-- ClassMillModel.wanted -/
theorem vm_wanted (l : Launch) (dC : Nat → ClassId) (dI : Nat → Nat → Nat) (sz : Nat) (h0 : Nat) (zs : (List Value)) (a1 : Int32) (v98 : Int32) (qf100 : Nat) (qf102 : Nat) (qf104 : Nat) (qf105 : Nat) (v117 : Int32) (qf118 : Nat) (qf119 : Nat) (v120 : Int32) (qf127 : Nat) (qf128 : Nat) (v129 : Int32) (v130 : Int32) (v131 : Int32) (v132 : Int32) (v134 : Int32) (v136 : Int32) (qf137 : Nat) (cf100 : ClassId) (f100 : (Nat → Int32)) (cf128 : ClassId) (f128 : (Nat → Int32)) (cf127 : ClassId) (f127 : (Nat → Int32)) (cf104 : ClassId) (f104 : (Nat → Int32)) (cf102 : ClassId) (f102 : (Nat → Int32)) (cf118 : ClassId) (f118 : (Nat → Int32)) (cf119 : ClassId) (f119 : (Nat → Int32)) (cf105 : ClassId) (f105 : (Nat → Int32)) (cf137 : ClassId) (f137 : (Nat → Int32)) (nS477 : Nat) (fS477 : (Nat → Int32)) (hS477 : Nat) (qS477 : Nat) (tS477 : String) (nf : Nat) (r0 : Int32) (o118 : (Nat → Int32)) (o119 : (Nat → Int32)) (o127 : (Nat → Int32)) (o128 : (Nat → Int32)) (o137 : (Nat → Int32)) (w117 : Int32) (w120 : Int32) (w131 : Int32) (hlen : zs.length = 155) (hf98 : zs[98]? = some (.int v98)) (hf100 : zs[100]? = some (.ref qf100)) (hf102 : zs[102]? = some (.ref qf102)) (hf104 : zs[104]? = some (.ref qf104)) (hf105 : zs[105]? = some (.ref qf105)) (hf117 : zs[117]? = some (.int v117)) (hf118 : zs[118]? = some (.ref qf118)) (hf119 : zs[119]? = some (.ref qf119)) (hf120 : zs[120]? = some (.int v120)) (hf127 : zs[127]? = some (.ref qf127)) (hf128 : zs[128]? = some (.ref qf128)) (hf129 : zs[129]? = some (.int v129)) (hf130 : zs[130]? = some (.int v130)) (hf131 : zs[131]? = some (.int v131)) (hf132 : zs[132]? = some (.int v132)) (hf134 : zs[134]? = some (.int v134)) (hf136 : zs[136]? = some (.int v136)) (hf137 : zs[137]? = some (.ref qf137)) (hsp : sp_vm_wanted nf a1 v98 v117 v120 v129 v130 v131 v132 v134 v136 f100 f128 f127 f104 f102 f118 f119 f105 f137 nS477 fS477 = some (r0, o118, o119, o127, o128, o137, w117, w120, w131)) : Met l yX13_wanted (.code yX13_wanted cX13_wanted 5 (some .boolean) :: VS_h9) ({ frames := 12, cells := 0, slots := 0, locals := 276 }) (va_Pc [.ref h0, .int a1] (fun U => U.heap.size = sz ∧ va_P (dC, dI) vwCl [(h0, .inr (13, zs)), (qf100, .inl (cf100, 48000, .inl f100)), (qf128, .inl (cf128, 31, .inl f128)), (qf127, .inl (cf127, 30, .inl f127)), (qf104, .inl (cf104, 8, .inl f104)), (qf102, .inl (cf102, 2048, .inl f102)), (qf118, .inl (cf118, 2100, .inl f118)), (qf119, .inl (cf119, 2100, .inl f119)), (qf105, .inl (cf105, 8, .inl f105)), (qf137, .inl (cf137, 6, .inl f137))] U.heap ∧ va_K (dC, dI) vwCl [(cf100, .int), (cf128, .int), (cf127, .int), (cf104, .int), (cf102, .int), (cf118, .int), (cf119, .int), (cf105, .int), (cf137, .int)] U ∧ va_D (fun _ => True) [(h0, .inr (13, zs)), (qf100, .inl (cf100, 48000, .inl f100)), (qf128, .inl (cf128, 31, .inl f128)), (qf127, .inl (cf127, 30, .inl f127)), (qf104, .inl (cf104, 8, .inl f104)), (qf102, .inl (cf102, 2048, .inl f102)), (qf118, .inl (cf118, 2100, .inl f118)), (qf119, .inl (cf119, 2100, .inl f119)), (qf105, .inl (cf105, 8, .inl f105)), (qf137, .inl (cf137, 6, .inl f137))] ∧ pz_W nS477 fS477 hS477 qS477 (va_A [(h0, .inr (13, zs)), (qf100, .inl (cf100, 48000, .inl f100)), (qf128, .inl (cf128, 31, .inl f128)), (qf127, .inl (cf127, 30, .inl f127)), (qf104, .inl (cf104, 8, .inl f104)), (qf102, .inl (cf102, 2048, .inl f102)), (qf118, .inl (cf118, 2100, .inl f118)), (qf119, .inl (cf119, 2100, .inl f119)), (qf105, .inl (cf105, 8, .inl f105)), (qf137, .inl (cf137, 6, .inl f137))] sz) U U.heap ∧ vk_R RX13 477 tS477 hS477 U)) (va_Qi (fun (r : Int32) (u : (List Value)) => match u with | (zo1) => (r0 = r ∧ (r0 = 0 ∨ r0 = 1)) ∧ zo1.length = 155 ∧ (∀ j : Nat, j ≠ 117 → j ≠ 120 → j ≠ 131 → zo1[j]? = zs[j]?) ∧ zo1[117]? = some (.int w117) ∧ zo1[120]? = some (.int w120) ∧ zo1[131]? = some (.int w131)) (fun (u : (List Value)) (t : State) => match u with | (zo1) => va_P (dC, dI) vwCl [(h0, .inr (13, zo1)), (qf100, .inl (cf100, 48000, .inl f100)), (qf128, .inl (cf128, 31, .inl o128)), (qf127, .inl (cf127, 30, .inl o127)), (qf104, .inl (cf104, 8, .inl f104)), (qf102, .inl (cf102, 2048, .inl f102)), (qf118, .inl (cf118, 2100, .inl o118)), (qf119, .inl (cf119, 2100, .inl o119)), (qf105, .inl (cf105, 8, .inl f105)), (qf137, .inl (cf137, 6, .inl o137))] t.heap ∧ va_K (dC, dI) vwCl [(cf100, .int), (cf128, .int), (cf127, .int), (cf104, .int), (cf102, .int), (cf118, .int), (cf119, .int), (cf105, .int), (cf137, .int)] t ∧ va_D (va_A [(h0, .inr (13, zs)), (qf100, .inl (cf100, 48000, .inl f100)), (qf128, .inl (cf128, 31, .inl f128)), (qf127, .inl (cf127, 30, .inl f127)), (qf104, .inl (cf104, 8, .inl f104)), (qf102, .inl (cf102, 2048, .inl f102)), (qf118, .inl (cf118, 2100, .inl f118)), (qf119, .inl (cf119, 2100, .inl f119)), (qf105, .inl (cf105, 8, .inl f105)), (qf137, .inl (cf137, 6, .inl f137))] sz) [(h0, .inr (13, zo1)), (qf100, .inl (cf100, 48000, .inl f100)), (qf128, .inl (cf128, 31, .inl o128)), (qf127, .inl (cf127, 30, .inl o127)), (qf104, .inl (cf104, 8, .inl f104)), (qf102, .inl (cf102, 2048, .inl f102)), (qf118, .inl (cf118, 2100, .inl o118)), (qf119, .inl (cf119, 2100, .inl o119)), (qf105, .inl (cf105, 8, .inl f105)), (qf137, .inl (cf137, 6, .inl o137))]) (va_A [(h0, .inr (13, zs)), (qf100, .inl (cf100, 48000, .inl f100)), (qf128, .inl (cf128, 31, .inl f128)), (qf127, .inl (cf127, 30, .inl f127)), (qf104, .inl (cf104, 8, .inl f104)), (qf102, .inl (cf102, 2048, .inl f102)), (qf118, .inl (cf118, 2100, .inl f118)), (qf119, .inl (cf119, 2100, .inl f119)), (qf105, .inl (cf105, 8, .inl f105)), (qf137, .inl (cf137, 6, .inl f137))] sz)) 0 0 (va_A [(h0, .inr (13, zs)), (qf100, .inl (cf100, 48000, .inl f100)), (qf128, .inl (cf128, 31, .inl f128)), (qf127, .inl (cf127, 30, .inl f127)), (qf104, .inl (cf104, 8, .inl f104)), (qf102, .inl (cf102, 2048, .inl f102)), (qf118, .inl (cf118, 2100, .inl f118)), (qf119, .inl (cf119, 2100, .inl f119)), (qf105, .inl (cf105, 8, .inl f105)), (qf137, .inl (cf137, 6, .inl f137))] sz) := by
  refine Met.ofW (cc := cX13_wanted) (maxL := 5) (ret := (some .boolean)) (by decide) rfl ?_
  intro p e s m args below meth c s₁ B hml hv
  obtain ⟨rfl, hsz, hP, hK, hD0, hZWS477, hZRS477⟩ := hv
  have hx := B.exec
  have hb := B.bytes
  have hr := B.returns
  have hts := atoms_spec (ws := (.code yX13_wanted cX13_wanted 5 (some .boolean) :: VS_h9)) B.pre
  replace hts := fun w (h : w ∈ VS_h9) => hts w (List.mem_cons_of_mem _ h)
  have hown : s.vm.findClass RX13 = some m.cls := findClass_of_methodNamed B.named
  have hlocks := B.notSynchronized
  subst hsz
  have hD := hD0.self (sz := s.heap.size)
  generalize hAe : va_A [(h0, .inr (13, zs)), (qf100, .inl (cf100, 48000, .inl f100)), (qf128, .inl (cf128, 31, .inl f128)), (qf127, .inl (cf127, 30, .inl f127)), (qf104, .inl (cf104, 8, .inl f104)), (qf102, .inl (cf102, 2048, .inl f102)), (qf118, .inl (cf118, 2100, .inl f118)), (qf119, .inl (cf119, 2100, .inl f119)), (qf105, .inl (cf105, 8, .inl f105)), (qf137, .inl (cf137, 6, .inl f137))] s.heap.size = A at hD hZWS477 ⊢
  have hA : ∀ q : Nat, s.heap.size ≤ q → A q := fun q h => by rw [← hAe]; exact Or.inr h
  have hP : va_P (dC, dI) vwCl [(h0, .inr (13, zs)), (qf100, .inl (cf100, 48000, .inl f100)), (qf128, .inl (cf128, 31, .inl f128)), (qf127, .inl (cf127, 30, .inl f127)), (qf104, .inl (cf104, 8, .inl f104)), (qf102, .inl (cf102, 2048, .inl f102)), (qf118, .inl (cf118, 2100, .inl f118)), (qf119, .inl (cf119, 2100, .inl f119)), (qf105, .inl (cf105, 8, .inl f105)), (qf137, .inl (cf137, 6, .inl f137))] s.heap := hP
  have hl := lv_entry ([.ref h0, .int a1]) (n := 5) (Nat.le_of_ble_eq_true rfl)
  rw [lg_entry_eq]
  generalize (lg_sl ([.ref h0, .int a1]) ++ List.replicate (5 - (lg_sl ([.ref h0, .int a1])).length) Slot.unset).toArray = ls at hl ⊢
  have hl : lv_has ls 5 [(0, .ref h0), (1, .int a1)] := hl
  obtain ⟨H, hH⟩ : ∃ H : Heap, s.heap = H := ⟨_, rfl⟩
  rw [hH] at hP ⊢
  have hS : va_S A s.heap H [] := by rw [← hH]; exact va_S.rf
  obtain ⟨locs, hlo⟩ : ∃ locs : List Loc, locs = [] := ⟨_, rfl⟩
  rw [← hlo] at hS ⊢
  have hrs0 : ∀ j : Nat, j ≠ 117 → j ≠ 120 → j ≠ 131 → zs[j]? = zs[j]? := fun _ _ _ _  => rfl
  unfold sp_vm_wanted at hsp
  refine jn_use (α := Heap × List Loc × Array Slot × List Value × Int32 × (Nat → Int32) × (Nat → Int32) × (Nat → Int32) × (Nat → Int32) × (Nat → Int32) × Int32 × Int32 × Int32) (fun x9 => x9.1) (fun x9 => x9.2.1) (fun x9 => F0 m 813 x9.2.2.1 [.int (x9.2.2.2.2.1)]) (fun x9 => match x9 with | (H, locs, ls, z813, rr_813, g118_813, g119_813, g127_813, g128_813, g137_813, x117_813, x120_813, x131_813) => va_S A s.heap H locs ∧ va_D A [(h0, .inr (13, z813)), (qf100, .inl (cf100, 48000, .inl f100)), (qf128, .inl (cf128, 31, .inl g128_813)), (qf127, .inl (cf127, 30, .inl g127_813)), (qf104, .inl (cf104, 8, .inl f104)), (qf102, .inl (cf102, 2048, .inl f102)), (qf118, .inl (cf118, 2100, .inl g118_813)), (qf119, .inl (cf119, 2100, .inl g119_813)), (qf105, .inl (cf105, 8, .inl f105)), (qf137, .inl (cf137, 6, .inl g137_813))] ∧ va_P (dC, dI) vwCl [(h0, .inr (13, z813)), (qf100, .inl (cf100, 48000, .inl f100)), (qf128, .inl (cf128, 31, .inl g128_813)), (qf127, .inl (cf127, 30, .inl g127_813)), (qf104, .inl (cf104, 8, .inl f104)), (qf102, .inl (cf102, 2048, .inl f102)), (qf118, .inl (cf118, 2100, .inl g118_813)), (qf119, .inl (cf119, 2100, .inl g119_813)), (qf105, .inl (cf105, 8, .inl f105)), (qf137, .inl (cf137, 6, .inl g137_813))] H ∧ z813[98]? = some (.int v98) ∧ z813[100]? = some (.ref qf100) ∧ z813[102]? = some (.ref qf102) ∧ z813[104]? = some (.ref qf104) ∧ z813[105]? = some (.ref qf105) ∧ z813[117]? = some (.int x117_813) ∧ z813[118]? = some (.ref qf118) ∧ z813[119]? = some (.ref qf119) ∧ z813[120]? = some (.int x120_813) ∧ z813[127]? = some (.ref qf127) ∧ z813[128]? = some (.ref qf128) ∧ z813[129]? = some (.int v129) ∧ z813[130]? = some (.int v130) ∧ z813[131]? = some (.int x131_813) ∧ z813[132]? = some (.int v132) ∧ z813[134]? = some (.int v134) ∧ z813[136]? = some (.int v136) ∧ z813[137]? = some (.ref qf137) ∧ z813.length = 155 ∧ (∀ j : Nat, j ≠ 117 → j ≠ 120 → j ≠ 131 → z813[j]? = zs[j]?) ∧ (rr_813 = 0 ∨ rr_813 = 1) ∧ some (rr_813, g118_813, g119_813, g127_813, g128_813, g137_813, x117_813, x120_813, x131_813) = some (r0, o118, o119, o127, o128, o137, w117, w120, w131)) ?_ ?_
  · intro x9 hJ9
    obtain ⟨H, locs, ls, z813, rr_813, g118_813, g119_813, g127_813, g128_813, g137_813, x117_813, x120_813, x131_813⟩ := x9
    obtain ⟨hS, hD, hP, hfh_813_98, hfh_813_100, hfh_813_102, hfh_813_104, hfh_813_105, hfh_813_117, hfh_813_118, hfh_813_119, hfh_813_120, hfh_813_127, hfh_813_128, hfh_813_129, hfh_813_130, hfh_813_131, hfh_813_132, hfh_813_134, hfh_813_136, hfh_813_137, hlh_813, hrh_813, hz9, hsp⟩ := hJ9
    replace hS : va_S A s.heap H locs := hS
    replace hD : va_D A [(h0, .inr (13, z813)), (qf100, .inl (cf100, 48000, .inl f100)), (qf128, .inl (cf128, 31, .inl g128_813)), (qf127, .inl (cf127, 30, .inl g127_813)), (qf104, .inl (cf104, 8, .inl f104)), (qf102, .inl (cf102, 2048, .inl f102)), (qf118, .inl (cf118, 2100, .inl g118_813)), (qf119, .inl (cf119, 2100, .inl g119_813)), (qf105, .inl (cf105, 8, .inl f105)), (qf137, .inl (cf137, 6, .inl g137_813))] := hD
    replace hP : va_P (dC, dI) vwCl [(h0, .inr (13, z813)), (qf100, .inl (cf100, 48000, .inl f100)), (qf128, .inl (cf128, 31, .inl g128_813)), (qf127, .inl (cf127, 30, .inl g127_813)), (qf104, .inl (cf104, 8, .inl f104)), (qf102, .inl (cf102, 2048, .inl f102)), (qf118, .inl (cf118, 2100, .inl g118_813)), (qf119, .inl (cf119, 2100, .inl g119_813)), (qf105, .inl (cf105, 8, .inl f105)), (qf137, .inl (cf137, 6, .inl g137_813))] H := hP
    replace hsp : some (rr_813, g118_813, g119_813, g127_813, g128_813, g137_813, x117_813, x120_813, x131_813) = some (r0, o118, o119, o127, o128, o137, w117, w120, w131) := hsp
    show W _ _ _ _ _ _ _ _ _ _ H locs _ _ _ (F0 m 813 ls [.int rr_813])
    rcases hz9 with rfl | rfl
    · skip
      have hr0 := Option.some.inj hsp
      clear hsp
      obtain ⟨hq0, hr1⟩ := Prod.mk.inj hr0
      clear hr0
      obtain ⟨hq1, hr2⟩ := Prod.mk.inj hr1
      clear hr1
      obtain ⟨hq2, hr3⟩ := Prod.mk.inj hr2
      clear hr2
      obtain ⟨hq3, hr4⟩ := Prod.mk.inj hr3
      clear hr3
      obtain ⟨hq4, hr5⟩ := Prod.mk.inj hr4
      clear hr4
      obtain ⟨hq5, hr6⟩ := Prod.mk.inj hr5
      clear hr5
      obtain ⟨hq6, hr7⟩ := Prod.mk.inj hr6
      clear hr6
      obtain ⟨hq7, hr8⟩ := Prod.mk.inj hr7
      clear hr7
      subst hq0
      subst hq1
      subst hq2
      subst hq3
      subst hq4
      subst hq5
      subst hq6
      subst hq7
      subst hr8
      have hP9 := hP.sub (ws' := [(h0, .inr (13, z813)), (qf100, .inl (cf100, 48000, .inl f100)), (qf128, .inl (cf128, 31, .inl g128_813)), (qf127, .inl (cf127, 30, .inl g127_813)), (qf104, .inl (cf104, 8, .inl f104)), (qf102, .inl (cf102, 2048, .inl f102)), (qf118, .inl (cf118, 2100, .inl g118_813)), (qf119, .inl (cf119, 2100, .inl g119_813)), (qf105, .inl (cf105, 8, .inl f105)), (qf137, .inl (cf137, 6, .inl g137_813))]) [0, 1, 2, 3, 4, 5, 6, 7, 8, 9] rfl
      have hD9 := hD.sub (ws' := [(h0, .inr (13, z813)), (qf100, .inl (cf100, 48000, .inl f100)), (qf128, .inl (cf128, 31, .inl g128_813)), (qf127, .inl (cf127, 30, .inl g127_813)), (qf104, .inl (cf104, 8, .inl f104)), (qf102, .inl (cf102, 2048, .inl f102)), (qf118, .inl (cf118, 2100, .inl g118_813)), (qf119, .inl (cf119, 2100, .inl g119_813)), (qf105, .inl (cf105, 8, .inl f105)), (qf137, .inl (cf137, 6, .inl g137_813))]) [0, 1, 2, 3, 4, 5, 6, 7, 8, 9] (by decide) rfl
      have hK9 := hK.sub (tys' := [(cf100, .int), (cf128, .int), (cf127, .int), (cf104, .int), (cf102, .int), (cf118, .int), (cf119, .int), (cf105, .int), (cf137, .int)]) [0, 1, 2, 3, 4, 5, 6, 7, 8] rfl
      exact W.zret hx hb hr (by decide) (fun t ht hW => ⟨⟨(0), (z813), rfl, ⟨⟨rfl, Or.inl rfl⟩, hlh_813, hrh_813, hfh_813_117, hfh_813_120, hfh_813_131⟩, by rw [ht]; exact hP9, va_K.moved hW.alike hK9, hD9⟩, hS.F ht⟩) hS.2.2 dX13_wanted_813
    · skip
      have hr0 := Option.some.inj hsp
      clear hsp
      obtain ⟨hq0, hr1⟩ := Prod.mk.inj hr0
      clear hr0
      obtain ⟨hq1, hr2⟩ := Prod.mk.inj hr1
      clear hr1
      obtain ⟨hq2, hr3⟩ := Prod.mk.inj hr2
      clear hr2
      obtain ⟨hq3, hr4⟩ := Prod.mk.inj hr3
      clear hr3
      obtain ⟨hq4, hr5⟩ := Prod.mk.inj hr4
      clear hr4
      obtain ⟨hq5, hr6⟩ := Prod.mk.inj hr5
      clear hr5
      obtain ⟨hq6, hr7⟩ := Prod.mk.inj hr6
      clear hr6
      obtain ⟨hq7, hr8⟩ := Prod.mk.inj hr7
      clear hr7
      subst hq0
      subst hq1
      subst hq2
      subst hq3
      subst hq4
      subst hq5
      subst hq6
      subst hq7
      subst hr8
      have hP9 := hP.sub (ws' := [(h0, .inr (13, z813)), (qf100, .inl (cf100, 48000, .inl f100)), (qf128, .inl (cf128, 31, .inl g128_813)), (qf127, .inl (cf127, 30, .inl g127_813)), (qf104, .inl (cf104, 8, .inl f104)), (qf102, .inl (cf102, 2048, .inl f102)), (qf118, .inl (cf118, 2100, .inl g118_813)), (qf119, .inl (cf119, 2100, .inl g119_813)), (qf105, .inl (cf105, 8, .inl f105)), (qf137, .inl (cf137, 6, .inl g137_813))]) [0, 1, 2, 3, 4, 5, 6, 7, 8, 9] rfl
      have hD9 := hD.sub (ws' := [(h0, .inr (13, z813)), (qf100, .inl (cf100, 48000, .inl f100)), (qf128, .inl (cf128, 31, .inl g128_813)), (qf127, .inl (cf127, 30, .inl g127_813)), (qf104, .inl (cf104, 8, .inl f104)), (qf102, .inl (cf102, 2048, .inl f102)), (qf118, .inl (cf118, 2100, .inl g118_813)), (qf119, .inl (cf119, 2100, .inl g119_813)), (qf105, .inl (cf105, 8, .inl f105)), (qf137, .inl (cf137, 6, .inl g137_813))]) [0, 1, 2, 3, 4, 5, 6, 7, 8, 9] (by decide) rfl
      have hK9 := hK.sub (tys' := [(cf100, .int), (cf128, .int), (cf127, .int), (cf104, .int), (cf102, .int), (cf118, .int), (cf119, .int), (cf105, .int), (cf137, .int)]) [0, 1, 2, 3, 4, 5, 6, 7, 8] rfl
      exact W.zret hx hb hr (by decide) (fun t ht hW => ⟨⟨(1), (z813), rfl, ⟨⟨rfl, Or.inr rfl⟩, hlh_813, hrh_813, hfh_813_117, hfh_813_120, hfh_813_131⟩, by rw [ht]; exact hP9, va_K.moved hW.alike hK9, hD9⟩, hS.F ht⟩) hS.2.2 dX13_wanted_813
  intro hret_813
  refine jn_use (α := Heap × List Loc × Array Slot × List Value × Int32 × (Nat → Int32) × (Nat → Int32) × (Nat → Int32) × (Nat → Int32) × (Nat → Int32) × Int32 × Int32 × Int32) (fun x9 => x9.1) (fun x9 => x9.2.1) (fun x9 => F0 m 819 x9.2.2.1 [.int (x9.2.2.2.2.1)]) (fun x9 => match x9 with | (H, locs, ls, z819, rr_819, g118_819, g119_819, g127_819, g128_819, g137_819, x117_819, x120_819, x131_819) => va_S A s.heap H locs ∧ va_D A [(h0, .inr (13, z819)), (qf100, .inl (cf100, 48000, .inl f100)), (qf128, .inl (cf128, 31, .inl g128_819)), (qf127, .inl (cf127, 30, .inl g127_819)), (qf104, .inl (cf104, 8, .inl f104)), (qf102, .inl (cf102, 2048, .inl f102)), (qf118, .inl (cf118, 2100, .inl g118_819)), (qf119, .inl (cf119, 2100, .inl g119_819)), (qf105, .inl (cf105, 8, .inl f105)), (qf137, .inl (cf137, 6, .inl g137_819))] ∧ va_P (dC, dI) vwCl [(h0, .inr (13, z819)), (qf100, .inl (cf100, 48000, .inl f100)), (qf128, .inl (cf128, 31, .inl g128_819)), (qf127, .inl (cf127, 30, .inl g127_819)), (qf104, .inl (cf104, 8, .inl f104)), (qf102, .inl (cf102, 2048, .inl f102)), (qf118, .inl (cf118, 2100, .inl g118_819)), (qf119, .inl (cf119, 2100, .inl g119_819)), (qf105, .inl (cf105, 8, .inl f105)), (qf137, .inl (cf137, 6, .inl g137_819))] H ∧ z819[98]? = some (.int v98) ∧ z819[100]? = some (.ref qf100) ∧ z819[102]? = some (.ref qf102) ∧ z819[104]? = some (.ref qf104) ∧ z819[105]? = some (.ref qf105) ∧ z819[117]? = some (.int x117_819) ∧ z819[118]? = some (.ref qf118) ∧ z819[119]? = some (.ref qf119) ∧ z819[120]? = some (.int x120_819) ∧ z819[127]? = some (.ref qf127) ∧ z819[128]? = some (.ref qf128) ∧ z819[129]? = some (.int v129) ∧ z819[130]? = some (.int v130) ∧ z819[131]? = some (.int x131_819) ∧ z819[132]? = some (.int v132) ∧ z819[134]? = some (.int v134) ∧ z819[136]? = some (.int v136) ∧ z819[137]? = some (.ref qf137) ∧ z819.length = 155 ∧ (∀ j : Nat, j ≠ 117 → j ≠ 120 → j ≠ 131 → z819[j]? = zs[j]?) ∧ (rr_819 = 0 ∨ rr_819 = 1) ∧ some (rr_819, g118_819, g119_819, g127_819, g128_819, g137_819, x117_819, x120_819, x131_819) = some (r0, o118, o119, o127, o128, o137, w117, w120, w131)) ?_ ?_
  · intro x9 hJ9
    obtain ⟨H, locs, ls, z819, rr_819, g118_819, g119_819, g127_819, g128_819, g137_819, x117_819, x120_819, x131_819⟩ := x9
    obtain ⟨hS, hD, hP, hfh_819_98, hfh_819_100, hfh_819_102, hfh_819_104, hfh_819_105, hfh_819_117, hfh_819_118, hfh_819_119, hfh_819_120, hfh_819_127, hfh_819_128, hfh_819_129, hfh_819_130, hfh_819_131, hfh_819_132, hfh_819_134, hfh_819_136, hfh_819_137, hlh_819, hrh_819, hz9, hsp⟩ := hJ9
    replace hS : va_S A s.heap H locs := hS
    replace hD : va_D A [(h0, .inr (13, z819)), (qf100, .inl (cf100, 48000, .inl f100)), (qf128, .inl (cf128, 31, .inl g128_819)), (qf127, .inl (cf127, 30, .inl g127_819)), (qf104, .inl (cf104, 8, .inl f104)), (qf102, .inl (cf102, 2048, .inl f102)), (qf118, .inl (cf118, 2100, .inl g118_819)), (qf119, .inl (cf119, 2100, .inl g119_819)), (qf105, .inl (cf105, 8, .inl f105)), (qf137, .inl (cf137, 6, .inl g137_819))] := hD
    replace hP : va_P (dC, dI) vwCl [(h0, .inr (13, z819)), (qf100, .inl (cf100, 48000, .inl f100)), (qf128, .inl (cf128, 31, .inl g128_819)), (qf127, .inl (cf127, 30, .inl g127_819)), (qf104, .inl (cf104, 8, .inl f104)), (qf102, .inl (cf102, 2048, .inl f102)), (qf118, .inl (cf118, 2100, .inl g118_819)), (qf119, .inl (cf119, 2100, .inl g119_819)), (qf105, .inl (cf105, 8, .inl f105)), (qf137, .inl (cf137, 6, .inl g137_819))] H := hP
    replace hsp : some (rr_819, g118_819, g119_819, g127_819, g128_819, g137_819, x117_819, x120_819, x131_819) = some (r0, o118, o119, o127, o128, o137, w117, w120, w131) := hsp
    show W _ _ _ _ _ _ _ _ _ _ H locs _ _ _ (F0 m 819 ls [.int rr_819])
    rcases hz9 with rfl | rfl
    · skip
      have hr0 := Option.some.inj hsp
      clear hsp
      obtain ⟨hq0, hr1⟩ := Prod.mk.inj hr0
      clear hr0
      obtain ⟨hq1, hr2⟩ := Prod.mk.inj hr1
      clear hr1
      obtain ⟨hq2, hr3⟩ := Prod.mk.inj hr2
      clear hr2
      obtain ⟨hq3, hr4⟩ := Prod.mk.inj hr3
      clear hr3
      obtain ⟨hq4, hr5⟩ := Prod.mk.inj hr4
      clear hr4
      obtain ⟨hq5, hr6⟩ := Prod.mk.inj hr5
      clear hr5
      obtain ⟨hq6, hr7⟩ := Prod.mk.inj hr6
      clear hr6
      obtain ⟨hq7, hr8⟩ := Prod.mk.inj hr7
      clear hr7
      subst hq0
      subst hq1
      subst hq2
      subst hq3
      subst hq4
      subst hq5
      subst hq6
      subst hq7
      subst hr8
      have hP9 := hP.sub (ws' := [(h0, .inr (13, z819)), (qf100, .inl (cf100, 48000, .inl f100)), (qf128, .inl (cf128, 31, .inl g128_819)), (qf127, .inl (cf127, 30, .inl g127_819)), (qf104, .inl (cf104, 8, .inl f104)), (qf102, .inl (cf102, 2048, .inl f102)), (qf118, .inl (cf118, 2100, .inl g118_819)), (qf119, .inl (cf119, 2100, .inl g119_819)), (qf105, .inl (cf105, 8, .inl f105)), (qf137, .inl (cf137, 6, .inl g137_819))]) [0, 1, 2, 3, 4, 5, 6, 7, 8, 9] rfl
      have hD9 := hD.sub (ws' := [(h0, .inr (13, z819)), (qf100, .inl (cf100, 48000, .inl f100)), (qf128, .inl (cf128, 31, .inl g128_819)), (qf127, .inl (cf127, 30, .inl g127_819)), (qf104, .inl (cf104, 8, .inl f104)), (qf102, .inl (cf102, 2048, .inl f102)), (qf118, .inl (cf118, 2100, .inl g118_819)), (qf119, .inl (cf119, 2100, .inl g119_819)), (qf105, .inl (cf105, 8, .inl f105)), (qf137, .inl (cf137, 6, .inl g137_819))]) [0, 1, 2, 3, 4, 5, 6, 7, 8, 9] (by decide) rfl
      have hK9 := hK.sub (tys' := [(cf100, .int), (cf128, .int), (cf127, .int), (cf104, .int), (cf102, .int), (cf118, .int), (cf119, .int), (cf105, .int), (cf137, .int)]) [0, 1, 2, 3, 4, 5, 6, 7, 8] rfl
      exact W.zret hx hb hr (by decide) (fun t ht hW => ⟨⟨(0), (z819), rfl, ⟨⟨rfl, Or.inl rfl⟩, hlh_819, hrh_819, hfh_819_117, hfh_819_120, hfh_819_131⟩, by rw [ht]; exact hP9, va_K.moved hW.alike hK9, hD9⟩, hS.F ht⟩) hS.2.2 dX13_wanted_819
    · skip
      have hr0 := Option.some.inj hsp
      clear hsp
      obtain ⟨hq0, hr1⟩ := Prod.mk.inj hr0
      clear hr0
      obtain ⟨hq1, hr2⟩ := Prod.mk.inj hr1
      clear hr1
      obtain ⟨hq2, hr3⟩ := Prod.mk.inj hr2
      clear hr2
      obtain ⟨hq3, hr4⟩ := Prod.mk.inj hr3
      clear hr3
      obtain ⟨hq4, hr5⟩ := Prod.mk.inj hr4
      clear hr4
      obtain ⟨hq5, hr6⟩ := Prod.mk.inj hr5
      clear hr5
      obtain ⟨hq6, hr7⟩ := Prod.mk.inj hr6
      clear hr6
      obtain ⟨hq7, hr8⟩ := Prod.mk.inj hr7
      clear hr7
      subst hq0
      subst hq1
      subst hq2
      subst hq3
      subst hq4
      subst hq5
      subst hq6
      subst hq7
      subst hr8
      have hP9 := hP.sub (ws' := [(h0, .inr (13, z819)), (qf100, .inl (cf100, 48000, .inl f100)), (qf128, .inl (cf128, 31, .inl g128_819)), (qf127, .inl (cf127, 30, .inl g127_819)), (qf104, .inl (cf104, 8, .inl f104)), (qf102, .inl (cf102, 2048, .inl f102)), (qf118, .inl (cf118, 2100, .inl g118_819)), (qf119, .inl (cf119, 2100, .inl g119_819)), (qf105, .inl (cf105, 8, .inl f105)), (qf137, .inl (cf137, 6, .inl g137_819))]) [0, 1, 2, 3, 4, 5, 6, 7, 8, 9] rfl
      have hD9 := hD.sub (ws' := [(h0, .inr (13, z819)), (qf100, .inl (cf100, 48000, .inl f100)), (qf128, .inl (cf128, 31, .inl g128_819)), (qf127, .inl (cf127, 30, .inl g127_819)), (qf104, .inl (cf104, 8, .inl f104)), (qf102, .inl (cf102, 2048, .inl f102)), (qf118, .inl (cf118, 2100, .inl g118_819)), (qf119, .inl (cf119, 2100, .inl g119_819)), (qf105, .inl (cf105, 8, .inl f105)), (qf137, .inl (cf137, 6, .inl g137_819))]) [0, 1, 2, 3, 4, 5, 6, 7, 8, 9] (by decide) rfl
      have hK9 := hK.sub (tys' := [(cf100, .int), (cf128, .int), (cf127, .int), (cf104, .int), (cf102, .int), (cf118, .int), (cf119, .int), (cf105, .int), (cf137, .int)]) [0, 1, 2, 3, 4, 5, 6, 7, 8] rfl
      exact W.zret hx hb hr (by decide) (fun t ht hW => ⟨⟨(1), (z819), rfl, ⟨⟨rfl, Or.inr rfl⟩, hlh_819, hrh_819, hfh_819_117, hfh_819_120, hfh_819_131⟩, by rw [ht]; exact hP9, va_K.moved hW.alike hK9, hD9⟩, hS.F ht⟩) hS.2.2 dX13_wanted_819
  intro hret_819
  refine jn_use (α := Heap × List Loc × Array Slot × List Value × Int32 × (Nat → Int32) × (Nat → Int32) × (Nat → Int32) × (Nat → Int32) × (Nat → Int32) × Int32 × Int32 × Int32) (fun x9 => x9.1) (fun x9 => x9.2.1) (fun x9 => F0 m 825 x9.2.2.1 [.int (x9.2.2.2.2.1)]) (fun x9 => match x9 with | (H, locs, ls, z825, rr_825, g118_825, g119_825, g127_825, g128_825, g137_825, x117_825, x120_825, x131_825) => va_S A s.heap H locs ∧ va_D A [(h0, .inr (13, z825)), (qf100, .inl (cf100, 48000, .inl f100)), (qf128, .inl (cf128, 31, .inl g128_825)), (qf127, .inl (cf127, 30, .inl g127_825)), (qf104, .inl (cf104, 8, .inl f104)), (qf102, .inl (cf102, 2048, .inl f102)), (qf118, .inl (cf118, 2100, .inl g118_825)), (qf119, .inl (cf119, 2100, .inl g119_825)), (qf105, .inl (cf105, 8, .inl f105)), (qf137, .inl (cf137, 6, .inl g137_825))] ∧ va_P (dC, dI) vwCl [(h0, .inr (13, z825)), (qf100, .inl (cf100, 48000, .inl f100)), (qf128, .inl (cf128, 31, .inl g128_825)), (qf127, .inl (cf127, 30, .inl g127_825)), (qf104, .inl (cf104, 8, .inl f104)), (qf102, .inl (cf102, 2048, .inl f102)), (qf118, .inl (cf118, 2100, .inl g118_825)), (qf119, .inl (cf119, 2100, .inl g119_825)), (qf105, .inl (cf105, 8, .inl f105)), (qf137, .inl (cf137, 6, .inl g137_825))] H ∧ z825[98]? = some (.int v98) ∧ z825[100]? = some (.ref qf100) ∧ z825[102]? = some (.ref qf102) ∧ z825[104]? = some (.ref qf104) ∧ z825[105]? = some (.ref qf105) ∧ z825[117]? = some (.int x117_825) ∧ z825[118]? = some (.ref qf118) ∧ z825[119]? = some (.ref qf119) ∧ z825[120]? = some (.int x120_825) ∧ z825[127]? = some (.ref qf127) ∧ z825[128]? = some (.ref qf128) ∧ z825[129]? = some (.int v129) ∧ z825[130]? = some (.int v130) ∧ z825[131]? = some (.int x131_825) ∧ z825[132]? = some (.int v132) ∧ z825[134]? = some (.int v134) ∧ z825[136]? = some (.int v136) ∧ z825[137]? = some (.ref qf137) ∧ z825.length = 155 ∧ (∀ j : Nat, j ≠ 117 → j ≠ 120 → j ≠ 131 → z825[j]? = zs[j]?) ∧ (rr_825 = 0 ∨ rr_825 = 1) ∧ some (rr_825, g118_825, g119_825, g127_825, g128_825, g137_825, x117_825, x120_825, x131_825) = some (r0, o118, o119, o127, o128, o137, w117, w120, w131)) ?_ ?_
  · intro x9 hJ9
    obtain ⟨H, locs, ls, z825, rr_825, g118_825, g119_825, g127_825, g128_825, g137_825, x117_825, x120_825, x131_825⟩ := x9
    obtain ⟨hS, hD, hP, hfh_825_98, hfh_825_100, hfh_825_102, hfh_825_104, hfh_825_105, hfh_825_117, hfh_825_118, hfh_825_119, hfh_825_120, hfh_825_127, hfh_825_128, hfh_825_129, hfh_825_130, hfh_825_131, hfh_825_132, hfh_825_134, hfh_825_136, hfh_825_137, hlh_825, hrh_825, hz9, hsp⟩ := hJ9
    replace hS : va_S A s.heap H locs := hS
    replace hD : va_D A [(h0, .inr (13, z825)), (qf100, .inl (cf100, 48000, .inl f100)), (qf128, .inl (cf128, 31, .inl g128_825)), (qf127, .inl (cf127, 30, .inl g127_825)), (qf104, .inl (cf104, 8, .inl f104)), (qf102, .inl (cf102, 2048, .inl f102)), (qf118, .inl (cf118, 2100, .inl g118_825)), (qf119, .inl (cf119, 2100, .inl g119_825)), (qf105, .inl (cf105, 8, .inl f105)), (qf137, .inl (cf137, 6, .inl g137_825))] := hD
    replace hP : va_P (dC, dI) vwCl [(h0, .inr (13, z825)), (qf100, .inl (cf100, 48000, .inl f100)), (qf128, .inl (cf128, 31, .inl g128_825)), (qf127, .inl (cf127, 30, .inl g127_825)), (qf104, .inl (cf104, 8, .inl f104)), (qf102, .inl (cf102, 2048, .inl f102)), (qf118, .inl (cf118, 2100, .inl g118_825)), (qf119, .inl (cf119, 2100, .inl g119_825)), (qf105, .inl (cf105, 8, .inl f105)), (qf137, .inl (cf137, 6, .inl g137_825))] H := hP
    replace hsp : some (rr_825, g118_825, g119_825, g127_825, g128_825, g137_825, x117_825, x120_825, x131_825) = some (r0, o118, o119, o127, o128, o137, w117, w120, w131) := hsp
    show W _ _ _ _ _ _ _ _ _ _ H locs _ _ _ (F0 m 825 ls [.int rr_825])
    rcases hz9 with rfl | rfl
    · skip
      have hr0 := Option.some.inj hsp
      clear hsp
      obtain ⟨hq0, hr1⟩ := Prod.mk.inj hr0
      clear hr0
      obtain ⟨hq1, hr2⟩ := Prod.mk.inj hr1
      clear hr1
      obtain ⟨hq2, hr3⟩ := Prod.mk.inj hr2
      clear hr2
      obtain ⟨hq3, hr4⟩ := Prod.mk.inj hr3
      clear hr3
      obtain ⟨hq4, hr5⟩ := Prod.mk.inj hr4
      clear hr4
      obtain ⟨hq5, hr6⟩ := Prod.mk.inj hr5
      clear hr5
      obtain ⟨hq6, hr7⟩ := Prod.mk.inj hr6
      clear hr6
      obtain ⟨hq7, hr8⟩ := Prod.mk.inj hr7
      clear hr7
      subst hq0
      subst hq1
      subst hq2
      subst hq3
      subst hq4
      subst hq5
      subst hq6
      subst hq7
      subst hr8
      have hP9 := hP.sub (ws' := [(h0, .inr (13, z825)), (qf100, .inl (cf100, 48000, .inl f100)), (qf128, .inl (cf128, 31, .inl g128_825)), (qf127, .inl (cf127, 30, .inl g127_825)), (qf104, .inl (cf104, 8, .inl f104)), (qf102, .inl (cf102, 2048, .inl f102)), (qf118, .inl (cf118, 2100, .inl g118_825)), (qf119, .inl (cf119, 2100, .inl g119_825)), (qf105, .inl (cf105, 8, .inl f105)), (qf137, .inl (cf137, 6, .inl g137_825))]) [0, 1, 2, 3, 4, 5, 6, 7, 8, 9] rfl
      have hD9 := hD.sub (ws' := [(h0, .inr (13, z825)), (qf100, .inl (cf100, 48000, .inl f100)), (qf128, .inl (cf128, 31, .inl g128_825)), (qf127, .inl (cf127, 30, .inl g127_825)), (qf104, .inl (cf104, 8, .inl f104)), (qf102, .inl (cf102, 2048, .inl f102)), (qf118, .inl (cf118, 2100, .inl g118_825)), (qf119, .inl (cf119, 2100, .inl g119_825)), (qf105, .inl (cf105, 8, .inl f105)), (qf137, .inl (cf137, 6, .inl g137_825))]) [0, 1, 2, 3, 4, 5, 6, 7, 8, 9] (by decide) rfl
      have hK9 := hK.sub (tys' := [(cf100, .int), (cf128, .int), (cf127, .int), (cf104, .int), (cf102, .int), (cf118, .int), (cf119, .int), (cf105, .int), (cf137, .int)]) [0, 1, 2, 3, 4, 5, 6, 7, 8] rfl
      exact W.zret hx hb hr (by decide) (fun t ht hW => ⟨⟨(0), (z825), rfl, ⟨⟨rfl, Or.inl rfl⟩, hlh_825, hrh_825, hfh_825_117, hfh_825_120, hfh_825_131⟩, by rw [ht]; exact hP9, va_K.moved hW.alike hK9, hD9⟩, hS.F ht⟩) hS.2.2 dX13_wanted_825
    · skip
      have hr0 := Option.some.inj hsp
      clear hsp
      obtain ⟨hq0, hr1⟩ := Prod.mk.inj hr0
      clear hr0
      obtain ⟨hq1, hr2⟩ := Prod.mk.inj hr1
      clear hr1
      obtain ⟨hq2, hr3⟩ := Prod.mk.inj hr2
      clear hr2
      obtain ⟨hq3, hr4⟩ := Prod.mk.inj hr3
      clear hr3
      obtain ⟨hq4, hr5⟩ := Prod.mk.inj hr4
      clear hr4
      obtain ⟨hq5, hr6⟩ := Prod.mk.inj hr5
      clear hr5
      obtain ⟨hq6, hr7⟩ := Prod.mk.inj hr6
      clear hr6
      obtain ⟨hq7, hr8⟩ := Prod.mk.inj hr7
      clear hr7
      subst hq0
      subst hq1
      subst hq2
      subst hq3
      subst hq4
      subst hq5
      subst hq6
      subst hq7
      subst hr8
      have hP9 := hP.sub (ws' := [(h0, .inr (13, z825)), (qf100, .inl (cf100, 48000, .inl f100)), (qf128, .inl (cf128, 31, .inl g128_825)), (qf127, .inl (cf127, 30, .inl g127_825)), (qf104, .inl (cf104, 8, .inl f104)), (qf102, .inl (cf102, 2048, .inl f102)), (qf118, .inl (cf118, 2100, .inl g118_825)), (qf119, .inl (cf119, 2100, .inl g119_825)), (qf105, .inl (cf105, 8, .inl f105)), (qf137, .inl (cf137, 6, .inl g137_825))]) [0, 1, 2, 3, 4, 5, 6, 7, 8, 9] rfl
      have hD9 := hD.sub (ws' := [(h0, .inr (13, z825)), (qf100, .inl (cf100, 48000, .inl f100)), (qf128, .inl (cf128, 31, .inl g128_825)), (qf127, .inl (cf127, 30, .inl g127_825)), (qf104, .inl (cf104, 8, .inl f104)), (qf102, .inl (cf102, 2048, .inl f102)), (qf118, .inl (cf118, 2100, .inl g118_825)), (qf119, .inl (cf119, 2100, .inl g119_825)), (qf105, .inl (cf105, 8, .inl f105)), (qf137, .inl (cf137, 6, .inl g137_825))]) [0, 1, 2, 3, 4, 5, 6, 7, 8, 9] (by decide) rfl
      have hK9 := hK.sub (tys' := [(cf100, .int), (cf128, .int), (cf127, .int), (cf104, .int), (cf102, .int), (cf118, .int), (cf119, .int), (cf105, .int), (cf137, .int)]) [0, 1, 2, 3, 4, 5, 6, 7, 8] rfl
      exact W.zret hx hb hr (by decide) (fun t ht hW => ⟨⟨(1), (z825), rfl, ⟨⟨rfl, Or.inr rfl⟩, hlh_825, hrh_825, hfh_825_117, hfh_825_120, hfh_825_131⟩, by rw [ht]; exact hP9, va_K.moved hW.alike hK9, hD9⟩, hS.F ht⟩) hS.2.2 dX13_wanted_825
  intro hret_825
  refine jn_use (α := Heap × List Loc × Array Slot × List Value × Int32 × (Nat → Int32) × (Nat → Int32) × (Nat → Int32) × (Nat → Int32) × (Nat → Int32) × Int32 × Int32 × Int32) (fun x9 => x9.1) (fun x9 => x9.2.1) (fun x9 => F0 m 857 x9.2.2.1 [.int (x9.2.2.2.2.1)]) (fun x9 => match x9 with | (H, locs, ls, z857, rr_857, g118_857, g119_857, g127_857, g128_857, g137_857, x117_857, x120_857, x131_857) => va_S A s.heap H locs ∧ va_D A [(h0, .inr (13, z857)), (qf100, .inl (cf100, 48000, .inl f100)), (qf128, .inl (cf128, 31, .inl g128_857)), (qf127, .inl (cf127, 30, .inl g127_857)), (qf104, .inl (cf104, 8, .inl f104)), (qf102, .inl (cf102, 2048, .inl f102)), (qf118, .inl (cf118, 2100, .inl g118_857)), (qf119, .inl (cf119, 2100, .inl g119_857)), (qf105, .inl (cf105, 8, .inl f105)), (qf137, .inl (cf137, 6, .inl g137_857))] ∧ va_P (dC, dI) vwCl [(h0, .inr (13, z857)), (qf100, .inl (cf100, 48000, .inl f100)), (qf128, .inl (cf128, 31, .inl g128_857)), (qf127, .inl (cf127, 30, .inl g127_857)), (qf104, .inl (cf104, 8, .inl f104)), (qf102, .inl (cf102, 2048, .inl f102)), (qf118, .inl (cf118, 2100, .inl g118_857)), (qf119, .inl (cf119, 2100, .inl g119_857)), (qf105, .inl (cf105, 8, .inl f105)), (qf137, .inl (cf137, 6, .inl g137_857))] H ∧ z857[98]? = some (.int v98) ∧ z857[100]? = some (.ref qf100) ∧ z857[102]? = some (.ref qf102) ∧ z857[104]? = some (.ref qf104) ∧ z857[105]? = some (.ref qf105) ∧ z857[117]? = some (.int x117_857) ∧ z857[118]? = some (.ref qf118) ∧ z857[119]? = some (.ref qf119) ∧ z857[120]? = some (.int x120_857) ∧ z857[127]? = some (.ref qf127) ∧ z857[128]? = some (.ref qf128) ∧ z857[129]? = some (.int v129) ∧ z857[130]? = some (.int v130) ∧ z857[131]? = some (.int x131_857) ∧ z857[132]? = some (.int v132) ∧ z857[134]? = some (.int v134) ∧ z857[136]? = some (.int v136) ∧ z857[137]? = some (.ref qf137) ∧ z857.length = 155 ∧ (∀ j : Nat, j ≠ 117 → j ≠ 120 → j ≠ 131 → z857[j]? = zs[j]?) ∧ (rr_857 = 0 ∨ rr_857 = 1) ∧ some (rr_857, g118_857, g119_857, g127_857, g128_857, g137_857, x117_857, x120_857, x131_857) = some (r0, o118, o119, o127, o128, o137, w117, w120, w131)) ?_ ?_
  · intro x9 hJ9
    obtain ⟨H, locs, ls, z857, rr_857, g118_857, g119_857, g127_857, g128_857, g137_857, x117_857, x120_857, x131_857⟩ := x9
    obtain ⟨hS, hD, hP, hfh_857_98, hfh_857_100, hfh_857_102, hfh_857_104, hfh_857_105, hfh_857_117, hfh_857_118, hfh_857_119, hfh_857_120, hfh_857_127, hfh_857_128, hfh_857_129, hfh_857_130, hfh_857_131, hfh_857_132, hfh_857_134, hfh_857_136, hfh_857_137, hlh_857, hrh_857, hz9, hsp⟩ := hJ9
    replace hS : va_S A s.heap H locs := hS
    replace hD : va_D A [(h0, .inr (13, z857)), (qf100, .inl (cf100, 48000, .inl f100)), (qf128, .inl (cf128, 31, .inl g128_857)), (qf127, .inl (cf127, 30, .inl g127_857)), (qf104, .inl (cf104, 8, .inl f104)), (qf102, .inl (cf102, 2048, .inl f102)), (qf118, .inl (cf118, 2100, .inl g118_857)), (qf119, .inl (cf119, 2100, .inl g119_857)), (qf105, .inl (cf105, 8, .inl f105)), (qf137, .inl (cf137, 6, .inl g137_857))] := hD
    replace hP : va_P (dC, dI) vwCl [(h0, .inr (13, z857)), (qf100, .inl (cf100, 48000, .inl f100)), (qf128, .inl (cf128, 31, .inl g128_857)), (qf127, .inl (cf127, 30, .inl g127_857)), (qf104, .inl (cf104, 8, .inl f104)), (qf102, .inl (cf102, 2048, .inl f102)), (qf118, .inl (cf118, 2100, .inl g118_857)), (qf119, .inl (cf119, 2100, .inl g119_857)), (qf105, .inl (cf105, 8, .inl f105)), (qf137, .inl (cf137, 6, .inl g137_857))] H := hP
    replace hsp : some (rr_857, g118_857, g119_857, g127_857, g128_857, g137_857, x117_857, x120_857, x131_857) = some (r0, o118, o119, o127, o128, o137, w117, w120, w131) := hsp
    show W _ _ _ _ _ _ _ _ _ _ H locs _ _ _ (F0 m 857 ls [.int rr_857])
    rcases hz9 with rfl | rfl
    · skip
      have hr0 := Option.some.inj hsp
      clear hsp
      obtain ⟨hq0, hr1⟩ := Prod.mk.inj hr0
      clear hr0
      obtain ⟨hq1, hr2⟩ := Prod.mk.inj hr1
      clear hr1
      obtain ⟨hq2, hr3⟩ := Prod.mk.inj hr2
      clear hr2
      obtain ⟨hq3, hr4⟩ := Prod.mk.inj hr3
      clear hr3
      obtain ⟨hq4, hr5⟩ := Prod.mk.inj hr4
      clear hr4
      obtain ⟨hq5, hr6⟩ := Prod.mk.inj hr5
      clear hr5
      obtain ⟨hq6, hr7⟩ := Prod.mk.inj hr6
      clear hr6
      obtain ⟨hq7, hr8⟩ := Prod.mk.inj hr7
      clear hr7
      subst hq0
      subst hq1
      subst hq2
      subst hq3
      subst hq4
      subst hq5
      subst hq6
      subst hq7
      subst hr8
      have hP9 := hP.sub (ws' := [(h0, .inr (13, z857)), (qf100, .inl (cf100, 48000, .inl f100)), (qf128, .inl (cf128, 31, .inl g128_857)), (qf127, .inl (cf127, 30, .inl g127_857)), (qf104, .inl (cf104, 8, .inl f104)), (qf102, .inl (cf102, 2048, .inl f102)), (qf118, .inl (cf118, 2100, .inl g118_857)), (qf119, .inl (cf119, 2100, .inl g119_857)), (qf105, .inl (cf105, 8, .inl f105)), (qf137, .inl (cf137, 6, .inl g137_857))]) [0, 1, 2, 3, 4, 5, 6, 7, 8, 9] rfl
      have hD9 := hD.sub (ws' := [(h0, .inr (13, z857)), (qf100, .inl (cf100, 48000, .inl f100)), (qf128, .inl (cf128, 31, .inl g128_857)), (qf127, .inl (cf127, 30, .inl g127_857)), (qf104, .inl (cf104, 8, .inl f104)), (qf102, .inl (cf102, 2048, .inl f102)), (qf118, .inl (cf118, 2100, .inl g118_857)), (qf119, .inl (cf119, 2100, .inl g119_857)), (qf105, .inl (cf105, 8, .inl f105)), (qf137, .inl (cf137, 6, .inl g137_857))]) [0, 1, 2, 3, 4, 5, 6, 7, 8, 9] (by decide) rfl
      have hK9 := hK.sub (tys' := [(cf100, .int), (cf128, .int), (cf127, .int), (cf104, .int), (cf102, .int), (cf118, .int), (cf119, .int), (cf105, .int), (cf137, .int)]) [0, 1, 2, 3, 4, 5, 6, 7, 8] rfl
      exact W.zret hx hb hr (by decide) (fun t ht hW => ⟨⟨(0), (z857), rfl, ⟨⟨rfl, Or.inl rfl⟩, hlh_857, hrh_857, hfh_857_117, hfh_857_120, hfh_857_131⟩, by rw [ht]; exact hP9, va_K.moved hW.alike hK9, hD9⟩, hS.F ht⟩) hS.2.2 dX13_wanted_857
    · skip
      have hr0 := Option.some.inj hsp
      clear hsp
      obtain ⟨hq0, hr1⟩ := Prod.mk.inj hr0
      clear hr0
      obtain ⟨hq1, hr2⟩ := Prod.mk.inj hr1
      clear hr1
      obtain ⟨hq2, hr3⟩ := Prod.mk.inj hr2
      clear hr2
      obtain ⟨hq3, hr4⟩ := Prod.mk.inj hr3
      clear hr3
      obtain ⟨hq4, hr5⟩ := Prod.mk.inj hr4
      clear hr4
      obtain ⟨hq5, hr6⟩ := Prod.mk.inj hr5
      clear hr5
      obtain ⟨hq6, hr7⟩ := Prod.mk.inj hr6
      clear hr6
      obtain ⟨hq7, hr8⟩ := Prod.mk.inj hr7
      clear hr7
      subst hq0
      subst hq1
      subst hq2
      subst hq3
      subst hq4
      subst hq5
      subst hq6
      subst hq7
      subst hr8
      have hP9 := hP.sub (ws' := [(h0, .inr (13, z857)), (qf100, .inl (cf100, 48000, .inl f100)), (qf128, .inl (cf128, 31, .inl g128_857)), (qf127, .inl (cf127, 30, .inl g127_857)), (qf104, .inl (cf104, 8, .inl f104)), (qf102, .inl (cf102, 2048, .inl f102)), (qf118, .inl (cf118, 2100, .inl g118_857)), (qf119, .inl (cf119, 2100, .inl g119_857)), (qf105, .inl (cf105, 8, .inl f105)), (qf137, .inl (cf137, 6, .inl g137_857))]) [0, 1, 2, 3, 4, 5, 6, 7, 8, 9] rfl
      have hD9 := hD.sub (ws' := [(h0, .inr (13, z857)), (qf100, .inl (cf100, 48000, .inl f100)), (qf128, .inl (cf128, 31, .inl g128_857)), (qf127, .inl (cf127, 30, .inl g127_857)), (qf104, .inl (cf104, 8, .inl f104)), (qf102, .inl (cf102, 2048, .inl f102)), (qf118, .inl (cf118, 2100, .inl g118_857)), (qf119, .inl (cf119, 2100, .inl g119_857)), (qf105, .inl (cf105, 8, .inl f105)), (qf137, .inl (cf137, 6, .inl g137_857))]) [0, 1, 2, 3, 4, 5, 6, 7, 8, 9] (by decide) rfl
      have hK9 := hK.sub (tys' := [(cf100, .int), (cf128, .int), (cf127, .int), (cf104, .int), (cf102, .int), (cf118, .int), (cf119, .int), (cf105, .int), (cf137, .int)]) [0, 1, 2, 3, 4, 5, 6, 7, 8] rfl
      exact W.zret hx hb hr (by decide) (fun t ht hW => ⟨⟨(1), (z857), rfl, ⟨⟨rfl, Or.inr rfl⟩, hlh_857, hrh_857, hfh_857_117, hfh_857_120, hfh_857_131⟩, by rw [ht]; exact hP9, va_K.moved hW.alike hK9, hD9⟩, hS.F ht⟩) hS.2.2 dX13_wanted_857
  intro hret_857
  refine jn_use (α := Heap × List Loc × Array Slot × List Value × Int32 × (Nat → Int32) × (Nat → Int32) × (Nat → Int32) × (Nat → Int32) × (Nat → Int32) × Int32 × Int32 × Int32) (fun x9 => x9.1) (fun x9 => x9.2.1) (fun x9 => F0 m 894 x9.2.2.1 [.int (x9.2.2.2.2.1)]) (fun x9 => match x9 with | (H, locs, ls, z894, rr_894, g118_894, g119_894, g127_894, g128_894, g137_894, x117_894, x120_894, x131_894) => va_S A s.heap H locs ∧ va_D A [(h0, .inr (13, z894)), (qf100, .inl (cf100, 48000, .inl f100)), (qf128, .inl (cf128, 31, .inl g128_894)), (qf127, .inl (cf127, 30, .inl g127_894)), (qf104, .inl (cf104, 8, .inl f104)), (qf102, .inl (cf102, 2048, .inl f102)), (qf118, .inl (cf118, 2100, .inl g118_894)), (qf119, .inl (cf119, 2100, .inl g119_894)), (qf105, .inl (cf105, 8, .inl f105)), (qf137, .inl (cf137, 6, .inl g137_894))] ∧ va_P (dC, dI) vwCl [(h0, .inr (13, z894)), (qf100, .inl (cf100, 48000, .inl f100)), (qf128, .inl (cf128, 31, .inl g128_894)), (qf127, .inl (cf127, 30, .inl g127_894)), (qf104, .inl (cf104, 8, .inl f104)), (qf102, .inl (cf102, 2048, .inl f102)), (qf118, .inl (cf118, 2100, .inl g118_894)), (qf119, .inl (cf119, 2100, .inl g119_894)), (qf105, .inl (cf105, 8, .inl f105)), (qf137, .inl (cf137, 6, .inl g137_894))] H ∧ z894[98]? = some (.int v98) ∧ z894[100]? = some (.ref qf100) ∧ z894[102]? = some (.ref qf102) ∧ z894[104]? = some (.ref qf104) ∧ z894[105]? = some (.ref qf105) ∧ z894[117]? = some (.int x117_894) ∧ z894[118]? = some (.ref qf118) ∧ z894[119]? = some (.ref qf119) ∧ z894[120]? = some (.int x120_894) ∧ z894[127]? = some (.ref qf127) ∧ z894[128]? = some (.ref qf128) ∧ z894[129]? = some (.int v129) ∧ z894[130]? = some (.int v130) ∧ z894[131]? = some (.int x131_894) ∧ z894[132]? = some (.int v132) ∧ z894[134]? = some (.int v134) ∧ z894[136]? = some (.int v136) ∧ z894[137]? = some (.ref qf137) ∧ z894.length = 155 ∧ (∀ j : Nat, j ≠ 117 → j ≠ 120 → j ≠ 131 → z894[j]? = zs[j]?) ∧ (rr_894 = 0 ∨ rr_894 = 1) ∧ some (rr_894, g118_894, g119_894, g127_894, g128_894, g137_894, x117_894, x120_894, x131_894) = some (r0, o118, o119, o127, o128, o137, w117, w120, w131)) ?_ ?_
  · intro x9 hJ9
    obtain ⟨H, locs, ls, z894, rr_894, g118_894, g119_894, g127_894, g128_894, g137_894, x117_894, x120_894, x131_894⟩ := x9
    obtain ⟨hS, hD, hP, hfh_894_98, hfh_894_100, hfh_894_102, hfh_894_104, hfh_894_105, hfh_894_117, hfh_894_118, hfh_894_119, hfh_894_120, hfh_894_127, hfh_894_128, hfh_894_129, hfh_894_130, hfh_894_131, hfh_894_132, hfh_894_134, hfh_894_136, hfh_894_137, hlh_894, hrh_894, hz9, hsp⟩ := hJ9
    replace hS : va_S A s.heap H locs := hS
    replace hD : va_D A [(h0, .inr (13, z894)), (qf100, .inl (cf100, 48000, .inl f100)), (qf128, .inl (cf128, 31, .inl g128_894)), (qf127, .inl (cf127, 30, .inl g127_894)), (qf104, .inl (cf104, 8, .inl f104)), (qf102, .inl (cf102, 2048, .inl f102)), (qf118, .inl (cf118, 2100, .inl g118_894)), (qf119, .inl (cf119, 2100, .inl g119_894)), (qf105, .inl (cf105, 8, .inl f105)), (qf137, .inl (cf137, 6, .inl g137_894))] := hD
    replace hP : va_P (dC, dI) vwCl [(h0, .inr (13, z894)), (qf100, .inl (cf100, 48000, .inl f100)), (qf128, .inl (cf128, 31, .inl g128_894)), (qf127, .inl (cf127, 30, .inl g127_894)), (qf104, .inl (cf104, 8, .inl f104)), (qf102, .inl (cf102, 2048, .inl f102)), (qf118, .inl (cf118, 2100, .inl g118_894)), (qf119, .inl (cf119, 2100, .inl g119_894)), (qf105, .inl (cf105, 8, .inl f105)), (qf137, .inl (cf137, 6, .inl g137_894))] H := hP
    replace hsp : some (rr_894, g118_894, g119_894, g127_894, g128_894, g137_894, x117_894, x120_894, x131_894) = some (r0, o118, o119, o127, o128, o137, w117, w120, w131) := hsp
    show W _ _ _ _ _ _ _ _ _ _ H locs _ _ _ (F0 m 894 ls [.int rr_894])
    rcases hz9 with rfl | rfl
    · skip
      have hr0 := Option.some.inj hsp
      clear hsp
      obtain ⟨hq0, hr1⟩ := Prod.mk.inj hr0
      clear hr0
      obtain ⟨hq1, hr2⟩ := Prod.mk.inj hr1
      clear hr1
      obtain ⟨hq2, hr3⟩ := Prod.mk.inj hr2
      clear hr2
      obtain ⟨hq3, hr4⟩ := Prod.mk.inj hr3
      clear hr3
      obtain ⟨hq4, hr5⟩ := Prod.mk.inj hr4
      clear hr4
      obtain ⟨hq5, hr6⟩ := Prod.mk.inj hr5
      clear hr5
      obtain ⟨hq6, hr7⟩ := Prod.mk.inj hr6
      clear hr6
      obtain ⟨hq7, hr8⟩ := Prod.mk.inj hr7
      clear hr7
      subst hq0
      subst hq1
      subst hq2
      subst hq3
      subst hq4
      subst hq5
      subst hq6
      subst hq7
      subst hr8
      have hP9 := hP.sub (ws' := [(h0, .inr (13, z894)), (qf100, .inl (cf100, 48000, .inl f100)), (qf128, .inl (cf128, 31, .inl g128_894)), (qf127, .inl (cf127, 30, .inl g127_894)), (qf104, .inl (cf104, 8, .inl f104)), (qf102, .inl (cf102, 2048, .inl f102)), (qf118, .inl (cf118, 2100, .inl g118_894)), (qf119, .inl (cf119, 2100, .inl g119_894)), (qf105, .inl (cf105, 8, .inl f105)), (qf137, .inl (cf137, 6, .inl g137_894))]) [0, 1, 2, 3, 4, 5, 6, 7, 8, 9] rfl
      have hD9 := hD.sub (ws' := [(h0, .inr (13, z894)), (qf100, .inl (cf100, 48000, .inl f100)), (qf128, .inl (cf128, 31, .inl g128_894)), (qf127, .inl (cf127, 30, .inl g127_894)), (qf104, .inl (cf104, 8, .inl f104)), (qf102, .inl (cf102, 2048, .inl f102)), (qf118, .inl (cf118, 2100, .inl g118_894)), (qf119, .inl (cf119, 2100, .inl g119_894)), (qf105, .inl (cf105, 8, .inl f105)), (qf137, .inl (cf137, 6, .inl g137_894))]) [0, 1, 2, 3, 4, 5, 6, 7, 8, 9] (by decide) rfl
      have hK9 := hK.sub (tys' := [(cf100, .int), (cf128, .int), (cf127, .int), (cf104, .int), (cf102, .int), (cf118, .int), (cf119, .int), (cf105, .int), (cf137, .int)]) [0, 1, 2, 3, 4, 5, 6, 7, 8] rfl
      exact W.zret hx hb hr (by decide) (fun t ht hW => ⟨⟨(0), (z894), rfl, ⟨⟨rfl, Or.inl rfl⟩, hlh_894, hrh_894, hfh_894_117, hfh_894_120, hfh_894_131⟩, by rw [ht]; exact hP9, va_K.moved hW.alike hK9, hD9⟩, hS.F ht⟩) hS.2.2 dX13_wanted_894
    · skip
      have hr0 := Option.some.inj hsp
      clear hsp
      obtain ⟨hq0, hr1⟩ := Prod.mk.inj hr0
      clear hr0
      obtain ⟨hq1, hr2⟩ := Prod.mk.inj hr1
      clear hr1
      obtain ⟨hq2, hr3⟩ := Prod.mk.inj hr2
      clear hr2
      obtain ⟨hq3, hr4⟩ := Prod.mk.inj hr3
      clear hr3
      obtain ⟨hq4, hr5⟩ := Prod.mk.inj hr4
      clear hr4
      obtain ⟨hq5, hr6⟩ := Prod.mk.inj hr5
      clear hr5
      obtain ⟨hq6, hr7⟩ := Prod.mk.inj hr6
      clear hr6
      obtain ⟨hq7, hr8⟩ := Prod.mk.inj hr7
      clear hr7
      subst hq0
      subst hq1
      subst hq2
      subst hq3
      subst hq4
      subst hq5
      subst hq6
      subst hq7
      subst hr8
      have hP9 := hP.sub (ws' := [(h0, .inr (13, z894)), (qf100, .inl (cf100, 48000, .inl f100)), (qf128, .inl (cf128, 31, .inl g128_894)), (qf127, .inl (cf127, 30, .inl g127_894)), (qf104, .inl (cf104, 8, .inl f104)), (qf102, .inl (cf102, 2048, .inl f102)), (qf118, .inl (cf118, 2100, .inl g118_894)), (qf119, .inl (cf119, 2100, .inl g119_894)), (qf105, .inl (cf105, 8, .inl f105)), (qf137, .inl (cf137, 6, .inl g137_894))]) [0, 1, 2, 3, 4, 5, 6, 7, 8, 9] rfl
      have hD9 := hD.sub (ws' := [(h0, .inr (13, z894)), (qf100, .inl (cf100, 48000, .inl f100)), (qf128, .inl (cf128, 31, .inl g128_894)), (qf127, .inl (cf127, 30, .inl g127_894)), (qf104, .inl (cf104, 8, .inl f104)), (qf102, .inl (cf102, 2048, .inl f102)), (qf118, .inl (cf118, 2100, .inl g118_894)), (qf119, .inl (cf119, 2100, .inl g119_894)), (qf105, .inl (cf105, 8, .inl f105)), (qf137, .inl (cf137, 6, .inl g137_894))]) [0, 1, 2, 3, 4, 5, 6, 7, 8, 9] (by decide) rfl
      have hK9 := hK.sub (tys' := [(cf100, .int), (cf128, .int), (cf127, .int), (cf104, .int), (cf102, .int), (cf118, .int), (cf119, .int), (cf105, .int), (cf137, .int)]) [0, 1, 2, 3, 4, 5, 6, 7, 8] rfl
      exact W.zret hx hb hr (by decide) (fun t ht hW => ⟨⟨(1), (z894), rfl, ⟨⟨rfl, Or.inr rfl⟩, hlh_894, hrh_894, hfh_894_117, hfh_894_120, hfh_894_131⟩, by rw [ht]; exact hP9, va_K.moved hW.alike hK9, hD9⟩, hS.F ht⟩) hS.2.2 dX13_wanted_894
  intro hret_894
  refine jn_use (α := Heap × List Loc × Array Slot × List Value × Int32 × (Nat → Int32) × (Nat → Int32) × (Nat → Int32) × (Nat → Int32) × (Nat → Int32) × Int32 × Int32 × Int32) (fun x9 => x9.1) (fun x9 => x9.2.1) (fun x9 => F0 m 912 x9.2.2.1 [.int (x9.2.2.2.2.1)]) (fun x9 => match x9 with | (H, locs, ls, z912, rr_912, g118_912, g119_912, g127_912, g128_912, g137_912, x117_912, x120_912, x131_912) => va_S A s.heap H locs ∧ va_D A [(h0, .inr (13, z912)), (qf100, .inl (cf100, 48000, .inl f100)), (qf128, .inl (cf128, 31, .inl g128_912)), (qf127, .inl (cf127, 30, .inl g127_912)), (qf104, .inl (cf104, 8, .inl f104)), (qf102, .inl (cf102, 2048, .inl f102)), (qf118, .inl (cf118, 2100, .inl g118_912)), (qf119, .inl (cf119, 2100, .inl g119_912)), (qf105, .inl (cf105, 8, .inl f105)), (qf137, .inl (cf137, 6, .inl g137_912))] ∧ va_P (dC, dI) vwCl [(h0, .inr (13, z912)), (qf100, .inl (cf100, 48000, .inl f100)), (qf128, .inl (cf128, 31, .inl g128_912)), (qf127, .inl (cf127, 30, .inl g127_912)), (qf104, .inl (cf104, 8, .inl f104)), (qf102, .inl (cf102, 2048, .inl f102)), (qf118, .inl (cf118, 2100, .inl g118_912)), (qf119, .inl (cf119, 2100, .inl g119_912)), (qf105, .inl (cf105, 8, .inl f105)), (qf137, .inl (cf137, 6, .inl g137_912))] H ∧ z912[98]? = some (.int v98) ∧ z912[100]? = some (.ref qf100) ∧ z912[102]? = some (.ref qf102) ∧ z912[104]? = some (.ref qf104) ∧ z912[105]? = some (.ref qf105) ∧ z912[117]? = some (.int x117_912) ∧ z912[118]? = some (.ref qf118) ∧ z912[119]? = some (.ref qf119) ∧ z912[120]? = some (.int x120_912) ∧ z912[127]? = some (.ref qf127) ∧ z912[128]? = some (.ref qf128) ∧ z912[129]? = some (.int v129) ∧ z912[130]? = some (.int v130) ∧ z912[131]? = some (.int x131_912) ∧ z912[132]? = some (.int v132) ∧ z912[134]? = some (.int v134) ∧ z912[136]? = some (.int v136) ∧ z912[137]? = some (.ref qf137) ∧ z912.length = 155 ∧ (∀ j : Nat, j ≠ 117 → j ≠ 120 → j ≠ 131 → z912[j]? = zs[j]?) ∧ (rr_912 = 0 ∨ rr_912 = 1) ∧ some (rr_912, g118_912, g119_912, g127_912, g128_912, g137_912, x117_912, x120_912, x131_912) = some (r0, o118, o119, o127, o128, o137, w117, w120, w131)) ?_ ?_
  · intro x9 hJ9
    obtain ⟨H, locs, ls, z912, rr_912, g118_912, g119_912, g127_912, g128_912, g137_912, x117_912, x120_912, x131_912⟩ := x9
    obtain ⟨hS, hD, hP, hfh_912_98, hfh_912_100, hfh_912_102, hfh_912_104, hfh_912_105, hfh_912_117, hfh_912_118, hfh_912_119, hfh_912_120, hfh_912_127, hfh_912_128, hfh_912_129, hfh_912_130, hfh_912_131, hfh_912_132, hfh_912_134, hfh_912_136, hfh_912_137, hlh_912, hrh_912, hz9, hsp⟩ := hJ9
    replace hS : va_S A s.heap H locs := hS
    replace hD : va_D A [(h0, .inr (13, z912)), (qf100, .inl (cf100, 48000, .inl f100)), (qf128, .inl (cf128, 31, .inl g128_912)), (qf127, .inl (cf127, 30, .inl g127_912)), (qf104, .inl (cf104, 8, .inl f104)), (qf102, .inl (cf102, 2048, .inl f102)), (qf118, .inl (cf118, 2100, .inl g118_912)), (qf119, .inl (cf119, 2100, .inl g119_912)), (qf105, .inl (cf105, 8, .inl f105)), (qf137, .inl (cf137, 6, .inl g137_912))] := hD
    replace hP : va_P (dC, dI) vwCl [(h0, .inr (13, z912)), (qf100, .inl (cf100, 48000, .inl f100)), (qf128, .inl (cf128, 31, .inl g128_912)), (qf127, .inl (cf127, 30, .inl g127_912)), (qf104, .inl (cf104, 8, .inl f104)), (qf102, .inl (cf102, 2048, .inl f102)), (qf118, .inl (cf118, 2100, .inl g118_912)), (qf119, .inl (cf119, 2100, .inl g119_912)), (qf105, .inl (cf105, 8, .inl f105)), (qf137, .inl (cf137, 6, .inl g137_912))] H := hP
    replace hsp : some (rr_912, g118_912, g119_912, g127_912, g128_912, g137_912, x117_912, x120_912, x131_912) = some (r0, o118, o119, o127, o128, o137, w117, w120, w131) := hsp
    show W _ _ _ _ _ _ _ _ _ _ H locs _ _ _ (F0 m 912 ls [.int rr_912])
    rcases hz9 with rfl | rfl
    · skip
      have hr0 := Option.some.inj hsp
      clear hsp
      obtain ⟨hq0, hr1⟩ := Prod.mk.inj hr0
      clear hr0
      obtain ⟨hq1, hr2⟩ := Prod.mk.inj hr1
      clear hr1
      obtain ⟨hq2, hr3⟩ := Prod.mk.inj hr2
      clear hr2
      obtain ⟨hq3, hr4⟩ := Prod.mk.inj hr3
      clear hr3
      obtain ⟨hq4, hr5⟩ := Prod.mk.inj hr4
      clear hr4
      obtain ⟨hq5, hr6⟩ := Prod.mk.inj hr5
      clear hr5
      obtain ⟨hq6, hr7⟩ := Prod.mk.inj hr6
      clear hr6
      obtain ⟨hq7, hr8⟩ := Prod.mk.inj hr7
      clear hr7
      subst hq0
      subst hq1
      subst hq2
      subst hq3
      subst hq4
      subst hq5
      subst hq6
      subst hq7
      subst hr8
      have hP9 := hP.sub (ws' := [(h0, .inr (13, z912)), (qf100, .inl (cf100, 48000, .inl f100)), (qf128, .inl (cf128, 31, .inl g128_912)), (qf127, .inl (cf127, 30, .inl g127_912)), (qf104, .inl (cf104, 8, .inl f104)), (qf102, .inl (cf102, 2048, .inl f102)), (qf118, .inl (cf118, 2100, .inl g118_912)), (qf119, .inl (cf119, 2100, .inl g119_912)), (qf105, .inl (cf105, 8, .inl f105)), (qf137, .inl (cf137, 6, .inl g137_912))]) [0, 1, 2, 3, 4, 5, 6, 7, 8, 9] rfl
      have hD9 := hD.sub (ws' := [(h0, .inr (13, z912)), (qf100, .inl (cf100, 48000, .inl f100)), (qf128, .inl (cf128, 31, .inl g128_912)), (qf127, .inl (cf127, 30, .inl g127_912)), (qf104, .inl (cf104, 8, .inl f104)), (qf102, .inl (cf102, 2048, .inl f102)), (qf118, .inl (cf118, 2100, .inl g118_912)), (qf119, .inl (cf119, 2100, .inl g119_912)), (qf105, .inl (cf105, 8, .inl f105)), (qf137, .inl (cf137, 6, .inl g137_912))]) [0, 1, 2, 3, 4, 5, 6, 7, 8, 9] (by decide) rfl
      have hK9 := hK.sub (tys' := [(cf100, .int), (cf128, .int), (cf127, .int), (cf104, .int), (cf102, .int), (cf118, .int), (cf119, .int), (cf105, .int), (cf137, .int)]) [0, 1, 2, 3, 4, 5, 6, 7, 8] rfl
      exact W.zret hx hb hr (by decide) (fun t ht hW => ⟨⟨(0), (z912), rfl, ⟨⟨rfl, Or.inl rfl⟩, hlh_912, hrh_912, hfh_912_117, hfh_912_120, hfh_912_131⟩, by rw [ht]; exact hP9, va_K.moved hW.alike hK9, hD9⟩, hS.F ht⟩) hS.2.2 dX13_wanted_912
    · skip
      have hr0 := Option.some.inj hsp
      clear hsp
      obtain ⟨hq0, hr1⟩ := Prod.mk.inj hr0
      clear hr0
      obtain ⟨hq1, hr2⟩ := Prod.mk.inj hr1
      clear hr1
      obtain ⟨hq2, hr3⟩ := Prod.mk.inj hr2
      clear hr2
      obtain ⟨hq3, hr4⟩ := Prod.mk.inj hr3
      clear hr3
      obtain ⟨hq4, hr5⟩ := Prod.mk.inj hr4
      clear hr4
      obtain ⟨hq5, hr6⟩ := Prod.mk.inj hr5
      clear hr5
      obtain ⟨hq6, hr7⟩ := Prod.mk.inj hr6
      clear hr6
      obtain ⟨hq7, hr8⟩ := Prod.mk.inj hr7
      clear hr7
      subst hq0
      subst hq1
      subst hq2
      subst hq3
      subst hq4
      subst hq5
      subst hq6
      subst hq7
      subst hr8
      have hP9 := hP.sub (ws' := [(h0, .inr (13, z912)), (qf100, .inl (cf100, 48000, .inl f100)), (qf128, .inl (cf128, 31, .inl g128_912)), (qf127, .inl (cf127, 30, .inl g127_912)), (qf104, .inl (cf104, 8, .inl f104)), (qf102, .inl (cf102, 2048, .inl f102)), (qf118, .inl (cf118, 2100, .inl g118_912)), (qf119, .inl (cf119, 2100, .inl g119_912)), (qf105, .inl (cf105, 8, .inl f105)), (qf137, .inl (cf137, 6, .inl g137_912))]) [0, 1, 2, 3, 4, 5, 6, 7, 8, 9] rfl
      have hD9 := hD.sub (ws' := [(h0, .inr (13, z912)), (qf100, .inl (cf100, 48000, .inl f100)), (qf128, .inl (cf128, 31, .inl g128_912)), (qf127, .inl (cf127, 30, .inl g127_912)), (qf104, .inl (cf104, 8, .inl f104)), (qf102, .inl (cf102, 2048, .inl f102)), (qf118, .inl (cf118, 2100, .inl g118_912)), (qf119, .inl (cf119, 2100, .inl g119_912)), (qf105, .inl (cf105, 8, .inl f105)), (qf137, .inl (cf137, 6, .inl g137_912))]) [0, 1, 2, 3, 4, 5, 6, 7, 8, 9] (by decide) rfl
      have hK9 := hK.sub (tys' := [(cf100, .int), (cf128, .int), (cf127, .int), (cf104, .int), (cf102, .int), (cf118, .int), (cf119, .int), (cf105, .int), (cf137, .int)]) [0, 1, 2, 3, 4, 5, 6, 7, 8] rfl
      exact W.zret hx hb hr (by decide) (fun t ht hW => ⟨⟨(1), (z912), rfl, ⟨⟨rfl, Or.inr rfl⟩, hlh_912, hrh_912, hfh_912_117, hfh_912_120, hfh_912_131⟩, by rw [ht]; exact hP9, va_K.moved hW.alike hK9, hD9⟩, hS.F ht⟩) hS.2.2 dX13_wanted_912
  intro hret_912
  refine jn_use (α := Heap × List Loc × Array Slot × List Value × Int32 × (Nat → Int32) × (Nat → Int32) × (Nat → Int32) × (Nat → Int32) × (Nat → Int32) × Int32 × Int32 × Int32) (fun x9 => x9.1) (fun x9 => x9.2.1) (fun x9 => F0 m 921 x9.2.2.1 [.int (x9.2.2.2.2.1)]) (fun x9 => match x9 with | (H, locs, ls, z921, rr_921, g118_921, g119_921, g127_921, g128_921, g137_921, x117_921, x120_921, x131_921) => va_S A s.heap H locs ∧ va_D A [(h0, .inr (13, z921)), (qf100, .inl (cf100, 48000, .inl f100)), (qf128, .inl (cf128, 31, .inl g128_921)), (qf127, .inl (cf127, 30, .inl g127_921)), (qf104, .inl (cf104, 8, .inl f104)), (qf102, .inl (cf102, 2048, .inl f102)), (qf118, .inl (cf118, 2100, .inl g118_921)), (qf119, .inl (cf119, 2100, .inl g119_921)), (qf105, .inl (cf105, 8, .inl f105)), (qf137, .inl (cf137, 6, .inl g137_921))] ∧ va_P (dC, dI) vwCl [(h0, .inr (13, z921)), (qf100, .inl (cf100, 48000, .inl f100)), (qf128, .inl (cf128, 31, .inl g128_921)), (qf127, .inl (cf127, 30, .inl g127_921)), (qf104, .inl (cf104, 8, .inl f104)), (qf102, .inl (cf102, 2048, .inl f102)), (qf118, .inl (cf118, 2100, .inl g118_921)), (qf119, .inl (cf119, 2100, .inl g119_921)), (qf105, .inl (cf105, 8, .inl f105)), (qf137, .inl (cf137, 6, .inl g137_921))] H ∧ z921[98]? = some (.int v98) ∧ z921[100]? = some (.ref qf100) ∧ z921[102]? = some (.ref qf102) ∧ z921[104]? = some (.ref qf104) ∧ z921[105]? = some (.ref qf105) ∧ z921[117]? = some (.int x117_921) ∧ z921[118]? = some (.ref qf118) ∧ z921[119]? = some (.ref qf119) ∧ z921[120]? = some (.int x120_921) ∧ z921[127]? = some (.ref qf127) ∧ z921[128]? = some (.ref qf128) ∧ z921[129]? = some (.int v129) ∧ z921[130]? = some (.int v130) ∧ z921[131]? = some (.int x131_921) ∧ z921[132]? = some (.int v132) ∧ z921[134]? = some (.int v134) ∧ z921[136]? = some (.int v136) ∧ z921[137]? = some (.ref qf137) ∧ z921.length = 155 ∧ (∀ j : Nat, j ≠ 117 → j ≠ 120 → j ≠ 131 → z921[j]? = zs[j]?) ∧ (rr_921 = 0 ∨ rr_921 = 1) ∧ some (rr_921, g118_921, g119_921, g127_921, g128_921, g137_921, x117_921, x120_921, x131_921) = some (r0, o118, o119, o127, o128, o137, w117, w120, w131)) ?_ ?_
  · intro x9 hJ9
    obtain ⟨H, locs, ls, z921, rr_921, g118_921, g119_921, g127_921, g128_921, g137_921, x117_921, x120_921, x131_921⟩ := x9
    obtain ⟨hS, hD, hP, hfh_921_98, hfh_921_100, hfh_921_102, hfh_921_104, hfh_921_105, hfh_921_117, hfh_921_118, hfh_921_119, hfh_921_120, hfh_921_127, hfh_921_128, hfh_921_129, hfh_921_130, hfh_921_131, hfh_921_132, hfh_921_134, hfh_921_136, hfh_921_137, hlh_921, hrh_921, hz9, hsp⟩ := hJ9
    replace hS : va_S A s.heap H locs := hS
    replace hD : va_D A [(h0, .inr (13, z921)), (qf100, .inl (cf100, 48000, .inl f100)), (qf128, .inl (cf128, 31, .inl g128_921)), (qf127, .inl (cf127, 30, .inl g127_921)), (qf104, .inl (cf104, 8, .inl f104)), (qf102, .inl (cf102, 2048, .inl f102)), (qf118, .inl (cf118, 2100, .inl g118_921)), (qf119, .inl (cf119, 2100, .inl g119_921)), (qf105, .inl (cf105, 8, .inl f105)), (qf137, .inl (cf137, 6, .inl g137_921))] := hD
    replace hP : va_P (dC, dI) vwCl [(h0, .inr (13, z921)), (qf100, .inl (cf100, 48000, .inl f100)), (qf128, .inl (cf128, 31, .inl g128_921)), (qf127, .inl (cf127, 30, .inl g127_921)), (qf104, .inl (cf104, 8, .inl f104)), (qf102, .inl (cf102, 2048, .inl f102)), (qf118, .inl (cf118, 2100, .inl g118_921)), (qf119, .inl (cf119, 2100, .inl g119_921)), (qf105, .inl (cf105, 8, .inl f105)), (qf137, .inl (cf137, 6, .inl g137_921))] H := hP
    replace hsp : some (rr_921, g118_921, g119_921, g127_921, g128_921, g137_921, x117_921, x120_921, x131_921) = some (r0, o118, o119, o127, o128, o137, w117, w120, w131) := hsp
    show W _ _ _ _ _ _ _ _ _ _ H locs _ _ _ (F0 m 921 ls [.int rr_921])
    rcases hz9 with rfl | rfl
    · skip
      have hr0 := Option.some.inj hsp
      clear hsp
      obtain ⟨hq0, hr1⟩ := Prod.mk.inj hr0
      clear hr0
      obtain ⟨hq1, hr2⟩ := Prod.mk.inj hr1
      clear hr1
      obtain ⟨hq2, hr3⟩ := Prod.mk.inj hr2
      clear hr2
      obtain ⟨hq3, hr4⟩ := Prod.mk.inj hr3
      clear hr3
      obtain ⟨hq4, hr5⟩ := Prod.mk.inj hr4
      clear hr4
      obtain ⟨hq5, hr6⟩ := Prod.mk.inj hr5
      clear hr5
      obtain ⟨hq6, hr7⟩ := Prod.mk.inj hr6
      clear hr6
      obtain ⟨hq7, hr8⟩ := Prod.mk.inj hr7
      clear hr7
      subst hq0
      subst hq1
      subst hq2
      subst hq3
      subst hq4
      subst hq5
      subst hq6
      subst hq7
      subst hr8
      have hP9 := hP.sub (ws' := [(h0, .inr (13, z921)), (qf100, .inl (cf100, 48000, .inl f100)), (qf128, .inl (cf128, 31, .inl g128_921)), (qf127, .inl (cf127, 30, .inl g127_921)), (qf104, .inl (cf104, 8, .inl f104)), (qf102, .inl (cf102, 2048, .inl f102)), (qf118, .inl (cf118, 2100, .inl g118_921)), (qf119, .inl (cf119, 2100, .inl g119_921)), (qf105, .inl (cf105, 8, .inl f105)), (qf137, .inl (cf137, 6, .inl g137_921))]) [0, 1, 2, 3, 4, 5, 6, 7, 8, 9] rfl
      have hD9 := hD.sub (ws' := [(h0, .inr (13, z921)), (qf100, .inl (cf100, 48000, .inl f100)), (qf128, .inl (cf128, 31, .inl g128_921)), (qf127, .inl (cf127, 30, .inl g127_921)), (qf104, .inl (cf104, 8, .inl f104)), (qf102, .inl (cf102, 2048, .inl f102)), (qf118, .inl (cf118, 2100, .inl g118_921)), (qf119, .inl (cf119, 2100, .inl g119_921)), (qf105, .inl (cf105, 8, .inl f105)), (qf137, .inl (cf137, 6, .inl g137_921))]) [0, 1, 2, 3, 4, 5, 6, 7, 8, 9] (by decide) rfl
      have hK9 := hK.sub (tys' := [(cf100, .int), (cf128, .int), (cf127, .int), (cf104, .int), (cf102, .int), (cf118, .int), (cf119, .int), (cf105, .int), (cf137, .int)]) [0, 1, 2, 3, 4, 5, 6, 7, 8] rfl
      exact W.zret hx hb hr (by decide) (fun t ht hW => ⟨⟨(0), (z921), rfl, ⟨⟨rfl, Or.inl rfl⟩, hlh_921, hrh_921, hfh_921_117, hfh_921_120, hfh_921_131⟩, by rw [ht]; exact hP9, va_K.moved hW.alike hK9, hD9⟩, hS.F ht⟩) hS.2.2 dX13_wanted_921
    · skip
      have hr0 := Option.some.inj hsp
      clear hsp
      obtain ⟨hq0, hr1⟩ := Prod.mk.inj hr0
      clear hr0
      obtain ⟨hq1, hr2⟩ := Prod.mk.inj hr1
      clear hr1
      obtain ⟨hq2, hr3⟩ := Prod.mk.inj hr2
      clear hr2
      obtain ⟨hq3, hr4⟩ := Prod.mk.inj hr3
      clear hr3
      obtain ⟨hq4, hr5⟩ := Prod.mk.inj hr4
      clear hr4
      obtain ⟨hq5, hr6⟩ := Prod.mk.inj hr5
      clear hr5
      obtain ⟨hq6, hr7⟩ := Prod.mk.inj hr6
      clear hr6
      obtain ⟨hq7, hr8⟩ := Prod.mk.inj hr7
      clear hr7
      subst hq0
      subst hq1
      subst hq2
      subst hq3
      subst hq4
      subst hq5
      subst hq6
      subst hq7
      subst hr8
      have hP9 := hP.sub (ws' := [(h0, .inr (13, z921)), (qf100, .inl (cf100, 48000, .inl f100)), (qf128, .inl (cf128, 31, .inl g128_921)), (qf127, .inl (cf127, 30, .inl g127_921)), (qf104, .inl (cf104, 8, .inl f104)), (qf102, .inl (cf102, 2048, .inl f102)), (qf118, .inl (cf118, 2100, .inl g118_921)), (qf119, .inl (cf119, 2100, .inl g119_921)), (qf105, .inl (cf105, 8, .inl f105)), (qf137, .inl (cf137, 6, .inl g137_921))]) [0, 1, 2, 3, 4, 5, 6, 7, 8, 9] rfl
      have hD9 := hD.sub (ws' := [(h0, .inr (13, z921)), (qf100, .inl (cf100, 48000, .inl f100)), (qf128, .inl (cf128, 31, .inl g128_921)), (qf127, .inl (cf127, 30, .inl g127_921)), (qf104, .inl (cf104, 8, .inl f104)), (qf102, .inl (cf102, 2048, .inl f102)), (qf118, .inl (cf118, 2100, .inl g118_921)), (qf119, .inl (cf119, 2100, .inl g119_921)), (qf105, .inl (cf105, 8, .inl f105)), (qf137, .inl (cf137, 6, .inl g137_921))]) [0, 1, 2, 3, 4, 5, 6, 7, 8, 9] (by decide) rfl
      have hK9 := hK.sub (tys' := [(cf100, .int), (cf128, .int), (cf127, .int), (cf104, .int), (cf102, .int), (cf118, .int), (cf119, .int), (cf105, .int), (cf137, .int)]) [0, 1, 2, 3, 4, 5, 6, 7, 8] rfl
      exact W.zret hx hb hr (by decide) (fun t ht hW => ⟨⟨(1), (z921), rfl, ⟨⟨rfl, Or.inr rfl⟩, hlh_921, hrh_921, hfh_921_117, hfh_921_120, hfh_921_131⟩, by rw [ht]; exact hP9, va_K.moved hW.alike hK9, hD9⟩, hS.F ht⟩) hS.2.2 dX13_wanted_921
  intro hret_921
  refine jn_use (α := Heap × List Loc × Array Slot × List Value × Int32 × (Nat → Int32) × (Nat → Int32) × (Nat → Int32) × (Nat → Int32) × (Nat → Int32) × Int32 × Int32 × Int32) (fun x9 => x9.1) (fun x9 => x9.2.1) (fun x9 => F0 m 943 x9.2.2.1 [.int (x9.2.2.2.2.1)]) (fun x9 => match x9 with | (H, locs, ls, z943, rr_943, g118_943, g119_943, g127_943, g128_943, g137_943, x117_943, x120_943, x131_943) => va_S A s.heap H locs ∧ va_D A [(h0, .inr (13, z943)), (qf100, .inl (cf100, 48000, .inl f100)), (qf128, .inl (cf128, 31, .inl g128_943)), (qf127, .inl (cf127, 30, .inl g127_943)), (qf104, .inl (cf104, 8, .inl f104)), (qf102, .inl (cf102, 2048, .inl f102)), (qf118, .inl (cf118, 2100, .inl g118_943)), (qf119, .inl (cf119, 2100, .inl g119_943)), (qf105, .inl (cf105, 8, .inl f105)), (qf137, .inl (cf137, 6, .inl g137_943))] ∧ va_P (dC, dI) vwCl [(h0, .inr (13, z943)), (qf100, .inl (cf100, 48000, .inl f100)), (qf128, .inl (cf128, 31, .inl g128_943)), (qf127, .inl (cf127, 30, .inl g127_943)), (qf104, .inl (cf104, 8, .inl f104)), (qf102, .inl (cf102, 2048, .inl f102)), (qf118, .inl (cf118, 2100, .inl g118_943)), (qf119, .inl (cf119, 2100, .inl g119_943)), (qf105, .inl (cf105, 8, .inl f105)), (qf137, .inl (cf137, 6, .inl g137_943))] H ∧ z943[98]? = some (.int v98) ∧ z943[100]? = some (.ref qf100) ∧ z943[102]? = some (.ref qf102) ∧ z943[104]? = some (.ref qf104) ∧ z943[105]? = some (.ref qf105) ∧ z943[117]? = some (.int x117_943) ∧ z943[118]? = some (.ref qf118) ∧ z943[119]? = some (.ref qf119) ∧ z943[120]? = some (.int x120_943) ∧ z943[127]? = some (.ref qf127) ∧ z943[128]? = some (.ref qf128) ∧ z943[129]? = some (.int v129) ∧ z943[130]? = some (.int v130) ∧ z943[131]? = some (.int x131_943) ∧ z943[132]? = some (.int v132) ∧ z943[134]? = some (.int v134) ∧ z943[136]? = some (.int v136) ∧ z943[137]? = some (.ref qf137) ∧ z943.length = 155 ∧ (∀ j : Nat, j ≠ 117 → j ≠ 120 → j ≠ 131 → z943[j]? = zs[j]?) ∧ (rr_943 = 0 ∨ rr_943 = 1) ∧ some (rr_943, g118_943, g119_943, g127_943, g128_943, g137_943, x117_943, x120_943, x131_943) = some (r0, o118, o119, o127, o128, o137, w117, w120, w131)) ?_ ?_
  · intro x9 hJ9
    obtain ⟨H, locs, ls, z943, rr_943, g118_943, g119_943, g127_943, g128_943, g137_943, x117_943, x120_943, x131_943⟩ := x9
    obtain ⟨hS, hD, hP, hfh_943_98, hfh_943_100, hfh_943_102, hfh_943_104, hfh_943_105, hfh_943_117, hfh_943_118, hfh_943_119, hfh_943_120, hfh_943_127, hfh_943_128, hfh_943_129, hfh_943_130, hfh_943_131, hfh_943_132, hfh_943_134, hfh_943_136, hfh_943_137, hlh_943, hrh_943, hz9, hsp⟩ := hJ9
    replace hS : va_S A s.heap H locs := hS
    replace hD : va_D A [(h0, .inr (13, z943)), (qf100, .inl (cf100, 48000, .inl f100)), (qf128, .inl (cf128, 31, .inl g128_943)), (qf127, .inl (cf127, 30, .inl g127_943)), (qf104, .inl (cf104, 8, .inl f104)), (qf102, .inl (cf102, 2048, .inl f102)), (qf118, .inl (cf118, 2100, .inl g118_943)), (qf119, .inl (cf119, 2100, .inl g119_943)), (qf105, .inl (cf105, 8, .inl f105)), (qf137, .inl (cf137, 6, .inl g137_943))] := hD
    replace hP : va_P (dC, dI) vwCl [(h0, .inr (13, z943)), (qf100, .inl (cf100, 48000, .inl f100)), (qf128, .inl (cf128, 31, .inl g128_943)), (qf127, .inl (cf127, 30, .inl g127_943)), (qf104, .inl (cf104, 8, .inl f104)), (qf102, .inl (cf102, 2048, .inl f102)), (qf118, .inl (cf118, 2100, .inl g118_943)), (qf119, .inl (cf119, 2100, .inl g119_943)), (qf105, .inl (cf105, 8, .inl f105)), (qf137, .inl (cf137, 6, .inl g137_943))] H := hP
    replace hsp : some (rr_943, g118_943, g119_943, g127_943, g128_943, g137_943, x117_943, x120_943, x131_943) = some (r0, o118, o119, o127, o128, o137, w117, w120, w131) := hsp
    show W _ _ _ _ _ _ _ _ _ _ H locs _ _ _ (F0 m 943 ls [.int rr_943])
    rcases hz9 with rfl | rfl
    · skip
      have hr0 := Option.some.inj hsp
      clear hsp
      obtain ⟨hq0, hr1⟩ := Prod.mk.inj hr0
      clear hr0
      obtain ⟨hq1, hr2⟩ := Prod.mk.inj hr1
      clear hr1
      obtain ⟨hq2, hr3⟩ := Prod.mk.inj hr2
      clear hr2
      obtain ⟨hq3, hr4⟩ := Prod.mk.inj hr3
      clear hr3
      obtain ⟨hq4, hr5⟩ := Prod.mk.inj hr4
      clear hr4
      obtain ⟨hq5, hr6⟩ := Prod.mk.inj hr5
      clear hr5
      obtain ⟨hq6, hr7⟩ := Prod.mk.inj hr6
      clear hr6
      obtain ⟨hq7, hr8⟩ := Prod.mk.inj hr7
      clear hr7
      subst hq0
      subst hq1
      subst hq2
      subst hq3
      subst hq4
      subst hq5
      subst hq6
      subst hq7
      subst hr8
      have hP9 := hP.sub (ws' := [(h0, .inr (13, z943)), (qf100, .inl (cf100, 48000, .inl f100)), (qf128, .inl (cf128, 31, .inl g128_943)), (qf127, .inl (cf127, 30, .inl g127_943)), (qf104, .inl (cf104, 8, .inl f104)), (qf102, .inl (cf102, 2048, .inl f102)), (qf118, .inl (cf118, 2100, .inl g118_943)), (qf119, .inl (cf119, 2100, .inl g119_943)), (qf105, .inl (cf105, 8, .inl f105)), (qf137, .inl (cf137, 6, .inl g137_943))]) [0, 1, 2, 3, 4, 5, 6, 7, 8, 9] rfl
      have hD9 := hD.sub (ws' := [(h0, .inr (13, z943)), (qf100, .inl (cf100, 48000, .inl f100)), (qf128, .inl (cf128, 31, .inl g128_943)), (qf127, .inl (cf127, 30, .inl g127_943)), (qf104, .inl (cf104, 8, .inl f104)), (qf102, .inl (cf102, 2048, .inl f102)), (qf118, .inl (cf118, 2100, .inl g118_943)), (qf119, .inl (cf119, 2100, .inl g119_943)), (qf105, .inl (cf105, 8, .inl f105)), (qf137, .inl (cf137, 6, .inl g137_943))]) [0, 1, 2, 3, 4, 5, 6, 7, 8, 9] (by decide) rfl
      have hK9 := hK.sub (tys' := [(cf100, .int), (cf128, .int), (cf127, .int), (cf104, .int), (cf102, .int), (cf118, .int), (cf119, .int), (cf105, .int), (cf137, .int)]) [0, 1, 2, 3, 4, 5, 6, 7, 8] rfl
      exact W.zret hx hb hr (by decide) (fun t ht hW => ⟨⟨(0), (z943), rfl, ⟨⟨rfl, Or.inl rfl⟩, hlh_943, hrh_943, hfh_943_117, hfh_943_120, hfh_943_131⟩, by rw [ht]; exact hP9, va_K.moved hW.alike hK9, hD9⟩, hS.F ht⟩) hS.2.2 dX13_wanted_943
    · skip
      have hr0 := Option.some.inj hsp
      clear hsp
      obtain ⟨hq0, hr1⟩ := Prod.mk.inj hr0
      clear hr0
      obtain ⟨hq1, hr2⟩ := Prod.mk.inj hr1
      clear hr1
      obtain ⟨hq2, hr3⟩ := Prod.mk.inj hr2
      clear hr2
      obtain ⟨hq3, hr4⟩ := Prod.mk.inj hr3
      clear hr3
      obtain ⟨hq4, hr5⟩ := Prod.mk.inj hr4
      clear hr4
      obtain ⟨hq5, hr6⟩ := Prod.mk.inj hr5
      clear hr5
      obtain ⟨hq6, hr7⟩ := Prod.mk.inj hr6
      clear hr6
      obtain ⟨hq7, hr8⟩ := Prod.mk.inj hr7
      clear hr7
      subst hq0
      subst hq1
      subst hq2
      subst hq3
      subst hq4
      subst hq5
      subst hq6
      subst hq7
      subst hr8
      have hP9 := hP.sub (ws' := [(h0, .inr (13, z943)), (qf100, .inl (cf100, 48000, .inl f100)), (qf128, .inl (cf128, 31, .inl g128_943)), (qf127, .inl (cf127, 30, .inl g127_943)), (qf104, .inl (cf104, 8, .inl f104)), (qf102, .inl (cf102, 2048, .inl f102)), (qf118, .inl (cf118, 2100, .inl g118_943)), (qf119, .inl (cf119, 2100, .inl g119_943)), (qf105, .inl (cf105, 8, .inl f105)), (qf137, .inl (cf137, 6, .inl g137_943))]) [0, 1, 2, 3, 4, 5, 6, 7, 8, 9] rfl
      have hD9 := hD.sub (ws' := [(h0, .inr (13, z943)), (qf100, .inl (cf100, 48000, .inl f100)), (qf128, .inl (cf128, 31, .inl g128_943)), (qf127, .inl (cf127, 30, .inl g127_943)), (qf104, .inl (cf104, 8, .inl f104)), (qf102, .inl (cf102, 2048, .inl f102)), (qf118, .inl (cf118, 2100, .inl g118_943)), (qf119, .inl (cf119, 2100, .inl g119_943)), (qf105, .inl (cf105, 8, .inl f105)), (qf137, .inl (cf137, 6, .inl g137_943))]) [0, 1, 2, 3, 4, 5, 6, 7, 8, 9] (by decide) rfl
      have hK9 := hK.sub (tys' := [(cf100, .int), (cf128, .int), (cf127, .int), (cf104, .int), (cf102, .int), (cf118, .int), (cf119, .int), (cf105, .int), (cf137, .int)]) [0, 1, 2, 3, 4, 5, 6, 7, 8] rfl
      exact W.zret hx hb hr (by decide) (fun t ht hW => ⟨⟨(1), (z943), rfl, ⟨⟨rfl, Or.inr rfl⟩, hlh_943, hrh_943, hfh_943_117, hfh_943_120, hfh_943_131⟩, by rw [ht]; exact hP9, va_K.moved hW.alike hK9, hD9⟩, hS.F ht⟩) hS.2.2 dX13_wanted_943
  intro hret_943
  refine jn_use (α := Heap × List Loc × Array Slot × List Value × Int32 × (Nat → Int32) × (Nat → Int32) × (Nat → Int32) × (Nat → Int32) × (Nat → Int32) × Int32 × Int32 × Int32) (fun x9 => x9.1) (fun x9 => x9.2.1) (fun x9 => F0 m 953 x9.2.2.1 [.int (x9.2.2.2.2.1)]) (fun x9 => match x9 with | (H, locs, ls, z953, rr_953, g118_953, g119_953, g127_953, g128_953, g137_953, x117_953, x120_953, x131_953) => va_S A s.heap H locs ∧ va_D A [(h0, .inr (13, z953)), (qf100, .inl (cf100, 48000, .inl f100)), (qf128, .inl (cf128, 31, .inl g128_953)), (qf127, .inl (cf127, 30, .inl g127_953)), (qf104, .inl (cf104, 8, .inl f104)), (qf102, .inl (cf102, 2048, .inl f102)), (qf118, .inl (cf118, 2100, .inl g118_953)), (qf119, .inl (cf119, 2100, .inl g119_953)), (qf105, .inl (cf105, 8, .inl f105)), (qf137, .inl (cf137, 6, .inl g137_953))] ∧ va_P (dC, dI) vwCl [(h0, .inr (13, z953)), (qf100, .inl (cf100, 48000, .inl f100)), (qf128, .inl (cf128, 31, .inl g128_953)), (qf127, .inl (cf127, 30, .inl g127_953)), (qf104, .inl (cf104, 8, .inl f104)), (qf102, .inl (cf102, 2048, .inl f102)), (qf118, .inl (cf118, 2100, .inl g118_953)), (qf119, .inl (cf119, 2100, .inl g119_953)), (qf105, .inl (cf105, 8, .inl f105)), (qf137, .inl (cf137, 6, .inl g137_953))] H ∧ z953[98]? = some (.int v98) ∧ z953[100]? = some (.ref qf100) ∧ z953[102]? = some (.ref qf102) ∧ z953[104]? = some (.ref qf104) ∧ z953[105]? = some (.ref qf105) ∧ z953[117]? = some (.int x117_953) ∧ z953[118]? = some (.ref qf118) ∧ z953[119]? = some (.ref qf119) ∧ z953[120]? = some (.int x120_953) ∧ z953[127]? = some (.ref qf127) ∧ z953[128]? = some (.ref qf128) ∧ z953[129]? = some (.int v129) ∧ z953[130]? = some (.int v130) ∧ z953[131]? = some (.int x131_953) ∧ z953[132]? = some (.int v132) ∧ z953[134]? = some (.int v134) ∧ z953[136]? = some (.int v136) ∧ z953[137]? = some (.ref qf137) ∧ z953.length = 155 ∧ (∀ j : Nat, j ≠ 117 → j ≠ 120 → j ≠ 131 → z953[j]? = zs[j]?) ∧ (rr_953 = 0 ∨ rr_953 = 1) ∧ some (rr_953, g118_953, g119_953, g127_953, g128_953, g137_953, x117_953, x120_953, x131_953) = some (r0, o118, o119, o127, o128, o137, w117, w120, w131)) ?_ ?_
  · intro x9 hJ9
    obtain ⟨H, locs, ls, z953, rr_953, g118_953, g119_953, g127_953, g128_953, g137_953, x117_953, x120_953, x131_953⟩ := x9
    obtain ⟨hS, hD, hP, hfh_953_98, hfh_953_100, hfh_953_102, hfh_953_104, hfh_953_105, hfh_953_117, hfh_953_118, hfh_953_119, hfh_953_120, hfh_953_127, hfh_953_128, hfh_953_129, hfh_953_130, hfh_953_131, hfh_953_132, hfh_953_134, hfh_953_136, hfh_953_137, hlh_953, hrh_953, hz9, hsp⟩ := hJ9
    replace hS : va_S A s.heap H locs := hS
    replace hD : va_D A [(h0, .inr (13, z953)), (qf100, .inl (cf100, 48000, .inl f100)), (qf128, .inl (cf128, 31, .inl g128_953)), (qf127, .inl (cf127, 30, .inl g127_953)), (qf104, .inl (cf104, 8, .inl f104)), (qf102, .inl (cf102, 2048, .inl f102)), (qf118, .inl (cf118, 2100, .inl g118_953)), (qf119, .inl (cf119, 2100, .inl g119_953)), (qf105, .inl (cf105, 8, .inl f105)), (qf137, .inl (cf137, 6, .inl g137_953))] := hD
    replace hP : va_P (dC, dI) vwCl [(h0, .inr (13, z953)), (qf100, .inl (cf100, 48000, .inl f100)), (qf128, .inl (cf128, 31, .inl g128_953)), (qf127, .inl (cf127, 30, .inl g127_953)), (qf104, .inl (cf104, 8, .inl f104)), (qf102, .inl (cf102, 2048, .inl f102)), (qf118, .inl (cf118, 2100, .inl g118_953)), (qf119, .inl (cf119, 2100, .inl g119_953)), (qf105, .inl (cf105, 8, .inl f105)), (qf137, .inl (cf137, 6, .inl g137_953))] H := hP
    replace hsp : some (rr_953, g118_953, g119_953, g127_953, g128_953, g137_953, x117_953, x120_953, x131_953) = some (r0, o118, o119, o127, o128, o137, w117, w120, w131) := hsp
    show W _ _ _ _ _ _ _ _ _ _ H locs _ _ _ (F0 m 953 ls [.int rr_953])
    rcases hz9 with rfl | rfl
    · skip
      have hr0 := Option.some.inj hsp
      clear hsp
      obtain ⟨hq0, hr1⟩ := Prod.mk.inj hr0
      clear hr0
      obtain ⟨hq1, hr2⟩ := Prod.mk.inj hr1
      clear hr1
      obtain ⟨hq2, hr3⟩ := Prod.mk.inj hr2
      clear hr2
      obtain ⟨hq3, hr4⟩ := Prod.mk.inj hr3
      clear hr3
      obtain ⟨hq4, hr5⟩ := Prod.mk.inj hr4
      clear hr4
      obtain ⟨hq5, hr6⟩ := Prod.mk.inj hr5
      clear hr5
      obtain ⟨hq6, hr7⟩ := Prod.mk.inj hr6
      clear hr6
      obtain ⟨hq7, hr8⟩ := Prod.mk.inj hr7
      clear hr7
      subst hq0
      subst hq1
      subst hq2
      subst hq3
      subst hq4
      subst hq5
      subst hq6
      subst hq7
      subst hr8
      have hP9 := hP.sub (ws' := [(h0, .inr (13, z953)), (qf100, .inl (cf100, 48000, .inl f100)), (qf128, .inl (cf128, 31, .inl g128_953)), (qf127, .inl (cf127, 30, .inl g127_953)), (qf104, .inl (cf104, 8, .inl f104)), (qf102, .inl (cf102, 2048, .inl f102)), (qf118, .inl (cf118, 2100, .inl g118_953)), (qf119, .inl (cf119, 2100, .inl g119_953)), (qf105, .inl (cf105, 8, .inl f105)), (qf137, .inl (cf137, 6, .inl g137_953))]) [0, 1, 2, 3, 4, 5, 6, 7, 8, 9] rfl
      have hD9 := hD.sub (ws' := [(h0, .inr (13, z953)), (qf100, .inl (cf100, 48000, .inl f100)), (qf128, .inl (cf128, 31, .inl g128_953)), (qf127, .inl (cf127, 30, .inl g127_953)), (qf104, .inl (cf104, 8, .inl f104)), (qf102, .inl (cf102, 2048, .inl f102)), (qf118, .inl (cf118, 2100, .inl g118_953)), (qf119, .inl (cf119, 2100, .inl g119_953)), (qf105, .inl (cf105, 8, .inl f105)), (qf137, .inl (cf137, 6, .inl g137_953))]) [0, 1, 2, 3, 4, 5, 6, 7, 8, 9] (by decide) rfl
      have hK9 := hK.sub (tys' := [(cf100, .int), (cf128, .int), (cf127, .int), (cf104, .int), (cf102, .int), (cf118, .int), (cf119, .int), (cf105, .int), (cf137, .int)]) [0, 1, 2, 3, 4, 5, 6, 7, 8] rfl
      exact W.zret hx hb hr (by decide) (fun t ht hW => ⟨⟨(0), (z953), rfl, ⟨⟨rfl, Or.inl rfl⟩, hlh_953, hrh_953, hfh_953_117, hfh_953_120, hfh_953_131⟩, by rw [ht]; exact hP9, va_K.moved hW.alike hK9, hD9⟩, hS.F ht⟩) hS.2.2 dX13_wanted_953
    · skip
      have hr0 := Option.some.inj hsp
      clear hsp
      obtain ⟨hq0, hr1⟩ := Prod.mk.inj hr0
      clear hr0
      obtain ⟨hq1, hr2⟩ := Prod.mk.inj hr1
      clear hr1
      obtain ⟨hq2, hr3⟩ := Prod.mk.inj hr2
      clear hr2
      obtain ⟨hq3, hr4⟩ := Prod.mk.inj hr3
      clear hr3
      obtain ⟨hq4, hr5⟩ := Prod.mk.inj hr4
      clear hr4
      obtain ⟨hq5, hr6⟩ := Prod.mk.inj hr5
      clear hr5
      obtain ⟨hq6, hr7⟩ := Prod.mk.inj hr6
      clear hr6
      obtain ⟨hq7, hr8⟩ := Prod.mk.inj hr7
      clear hr7
      subst hq0
      subst hq1
      subst hq2
      subst hq3
      subst hq4
      subst hq5
      subst hq6
      subst hq7
      subst hr8
      have hP9 := hP.sub (ws' := [(h0, .inr (13, z953)), (qf100, .inl (cf100, 48000, .inl f100)), (qf128, .inl (cf128, 31, .inl g128_953)), (qf127, .inl (cf127, 30, .inl g127_953)), (qf104, .inl (cf104, 8, .inl f104)), (qf102, .inl (cf102, 2048, .inl f102)), (qf118, .inl (cf118, 2100, .inl g118_953)), (qf119, .inl (cf119, 2100, .inl g119_953)), (qf105, .inl (cf105, 8, .inl f105)), (qf137, .inl (cf137, 6, .inl g137_953))]) [0, 1, 2, 3, 4, 5, 6, 7, 8, 9] rfl
      have hD9 := hD.sub (ws' := [(h0, .inr (13, z953)), (qf100, .inl (cf100, 48000, .inl f100)), (qf128, .inl (cf128, 31, .inl g128_953)), (qf127, .inl (cf127, 30, .inl g127_953)), (qf104, .inl (cf104, 8, .inl f104)), (qf102, .inl (cf102, 2048, .inl f102)), (qf118, .inl (cf118, 2100, .inl g118_953)), (qf119, .inl (cf119, 2100, .inl g119_953)), (qf105, .inl (cf105, 8, .inl f105)), (qf137, .inl (cf137, 6, .inl g137_953))]) [0, 1, 2, 3, 4, 5, 6, 7, 8, 9] (by decide) rfl
      have hK9 := hK.sub (tys' := [(cf100, .int), (cf128, .int), (cf127, .int), (cf104, .int), (cf102, .int), (cf118, .int), (cf119, .int), (cf105, .int), (cf137, .int)]) [0, 1, 2, 3, 4, 5, 6, 7, 8] rfl
      exact W.zret hx hb hr (by decide) (fun t ht hW => ⟨⟨(1), (z953), rfl, ⟨⟨rfl, Or.inr rfl⟩, hlh_953, hrh_953, hfh_953_117, hfh_953_120, hfh_953_131⟩, by rw [ht]; exact hP9, va_K.moved hW.alike hK9, hD9⟩, hS.F ht⟩) hS.2.2 dX13_wanted_953
  intro hret_953
  refine jn_use (α := Heap × List Loc × Array Slot × List Value × Int32 × (Nat → Int32) × (Nat → Int32) × (Nat → Int32) × (Nat → Int32) × (Nat → Int32) × Int32 × Int32 × Int32) (fun x9 => x9.1) (fun x9 => x9.2.1) (fun x9 => F0 m 963 x9.2.2.1 [.int (x9.2.2.2.2.1)]) (fun x9 => match x9 with | (H, locs, ls, z963, rr_963, g118_963, g119_963, g127_963, g128_963, g137_963, x117_963, x120_963, x131_963) => va_S A s.heap H locs ∧ va_D A [(h0, .inr (13, z963)), (qf100, .inl (cf100, 48000, .inl f100)), (qf128, .inl (cf128, 31, .inl g128_963)), (qf127, .inl (cf127, 30, .inl g127_963)), (qf104, .inl (cf104, 8, .inl f104)), (qf102, .inl (cf102, 2048, .inl f102)), (qf118, .inl (cf118, 2100, .inl g118_963)), (qf119, .inl (cf119, 2100, .inl g119_963)), (qf105, .inl (cf105, 8, .inl f105)), (qf137, .inl (cf137, 6, .inl g137_963))] ∧ va_P (dC, dI) vwCl [(h0, .inr (13, z963)), (qf100, .inl (cf100, 48000, .inl f100)), (qf128, .inl (cf128, 31, .inl g128_963)), (qf127, .inl (cf127, 30, .inl g127_963)), (qf104, .inl (cf104, 8, .inl f104)), (qf102, .inl (cf102, 2048, .inl f102)), (qf118, .inl (cf118, 2100, .inl g118_963)), (qf119, .inl (cf119, 2100, .inl g119_963)), (qf105, .inl (cf105, 8, .inl f105)), (qf137, .inl (cf137, 6, .inl g137_963))] H ∧ z963[98]? = some (.int v98) ∧ z963[100]? = some (.ref qf100) ∧ z963[102]? = some (.ref qf102) ∧ z963[104]? = some (.ref qf104) ∧ z963[105]? = some (.ref qf105) ∧ z963[117]? = some (.int x117_963) ∧ z963[118]? = some (.ref qf118) ∧ z963[119]? = some (.ref qf119) ∧ z963[120]? = some (.int x120_963) ∧ z963[127]? = some (.ref qf127) ∧ z963[128]? = some (.ref qf128) ∧ z963[129]? = some (.int v129) ∧ z963[130]? = some (.int v130) ∧ z963[131]? = some (.int x131_963) ∧ z963[132]? = some (.int v132) ∧ z963[134]? = some (.int v134) ∧ z963[136]? = some (.int v136) ∧ z963[137]? = some (.ref qf137) ∧ z963.length = 155 ∧ (∀ j : Nat, j ≠ 117 → j ≠ 120 → j ≠ 131 → z963[j]? = zs[j]?) ∧ (rr_963 = 0 ∨ rr_963 = 1) ∧ some (rr_963, g118_963, g119_963, g127_963, g128_963, g137_963, x117_963, x120_963, x131_963) = some (r0, o118, o119, o127, o128, o137, w117, w120, w131)) ?_ ?_
  · intro x9 hJ9
    obtain ⟨H, locs, ls, z963, rr_963, g118_963, g119_963, g127_963, g128_963, g137_963, x117_963, x120_963, x131_963⟩ := x9
    obtain ⟨hS, hD, hP, hfh_963_98, hfh_963_100, hfh_963_102, hfh_963_104, hfh_963_105, hfh_963_117, hfh_963_118, hfh_963_119, hfh_963_120, hfh_963_127, hfh_963_128, hfh_963_129, hfh_963_130, hfh_963_131, hfh_963_132, hfh_963_134, hfh_963_136, hfh_963_137, hlh_963, hrh_963, hz9, hsp⟩ := hJ9
    replace hS : va_S A s.heap H locs := hS
    replace hD : va_D A [(h0, .inr (13, z963)), (qf100, .inl (cf100, 48000, .inl f100)), (qf128, .inl (cf128, 31, .inl g128_963)), (qf127, .inl (cf127, 30, .inl g127_963)), (qf104, .inl (cf104, 8, .inl f104)), (qf102, .inl (cf102, 2048, .inl f102)), (qf118, .inl (cf118, 2100, .inl g118_963)), (qf119, .inl (cf119, 2100, .inl g119_963)), (qf105, .inl (cf105, 8, .inl f105)), (qf137, .inl (cf137, 6, .inl g137_963))] := hD
    replace hP : va_P (dC, dI) vwCl [(h0, .inr (13, z963)), (qf100, .inl (cf100, 48000, .inl f100)), (qf128, .inl (cf128, 31, .inl g128_963)), (qf127, .inl (cf127, 30, .inl g127_963)), (qf104, .inl (cf104, 8, .inl f104)), (qf102, .inl (cf102, 2048, .inl f102)), (qf118, .inl (cf118, 2100, .inl g118_963)), (qf119, .inl (cf119, 2100, .inl g119_963)), (qf105, .inl (cf105, 8, .inl f105)), (qf137, .inl (cf137, 6, .inl g137_963))] H := hP
    replace hsp : some (rr_963, g118_963, g119_963, g127_963, g128_963, g137_963, x117_963, x120_963, x131_963) = some (r0, o118, o119, o127, o128, o137, w117, w120, w131) := hsp
    show W _ _ _ _ _ _ _ _ _ _ H locs _ _ _ (F0 m 963 ls [.int rr_963])
    rcases hz9 with rfl | rfl
    · skip
      have hr0 := Option.some.inj hsp
      clear hsp
      obtain ⟨hq0, hr1⟩ := Prod.mk.inj hr0
      clear hr0
      obtain ⟨hq1, hr2⟩ := Prod.mk.inj hr1
      clear hr1
      obtain ⟨hq2, hr3⟩ := Prod.mk.inj hr2
      clear hr2
      obtain ⟨hq3, hr4⟩ := Prod.mk.inj hr3
      clear hr3
      obtain ⟨hq4, hr5⟩ := Prod.mk.inj hr4
      clear hr4
      obtain ⟨hq5, hr6⟩ := Prod.mk.inj hr5
      clear hr5
      obtain ⟨hq6, hr7⟩ := Prod.mk.inj hr6
      clear hr6
      obtain ⟨hq7, hr8⟩ := Prod.mk.inj hr7
      clear hr7
      subst hq0
      subst hq1
      subst hq2
      subst hq3
      subst hq4
      subst hq5
      subst hq6
      subst hq7
      subst hr8
      have hP9 := hP.sub (ws' := [(h0, .inr (13, z963)), (qf100, .inl (cf100, 48000, .inl f100)), (qf128, .inl (cf128, 31, .inl g128_963)), (qf127, .inl (cf127, 30, .inl g127_963)), (qf104, .inl (cf104, 8, .inl f104)), (qf102, .inl (cf102, 2048, .inl f102)), (qf118, .inl (cf118, 2100, .inl g118_963)), (qf119, .inl (cf119, 2100, .inl g119_963)), (qf105, .inl (cf105, 8, .inl f105)), (qf137, .inl (cf137, 6, .inl g137_963))]) [0, 1, 2, 3, 4, 5, 6, 7, 8, 9] rfl
      have hD9 := hD.sub (ws' := [(h0, .inr (13, z963)), (qf100, .inl (cf100, 48000, .inl f100)), (qf128, .inl (cf128, 31, .inl g128_963)), (qf127, .inl (cf127, 30, .inl g127_963)), (qf104, .inl (cf104, 8, .inl f104)), (qf102, .inl (cf102, 2048, .inl f102)), (qf118, .inl (cf118, 2100, .inl g118_963)), (qf119, .inl (cf119, 2100, .inl g119_963)), (qf105, .inl (cf105, 8, .inl f105)), (qf137, .inl (cf137, 6, .inl g137_963))]) [0, 1, 2, 3, 4, 5, 6, 7, 8, 9] (by decide) rfl
      have hK9 := hK.sub (tys' := [(cf100, .int), (cf128, .int), (cf127, .int), (cf104, .int), (cf102, .int), (cf118, .int), (cf119, .int), (cf105, .int), (cf137, .int)]) [0, 1, 2, 3, 4, 5, 6, 7, 8] rfl
      exact W.zret hx hb hr (by decide) (fun t ht hW => ⟨⟨(0), (z963), rfl, ⟨⟨rfl, Or.inl rfl⟩, hlh_963, hrh_963, hfh_963_117, hfh_963_120, hfh_963_131⟩, by rw [ht]; exact hP9, va_K.moved hW.alike hK9, hD9⟩, hS.F ht⟩) hS.2.2 dX13_wanted_963
    · skip
      have hr0 := Option.some.inj hsp
      clear hsp
      obtain ⟨hq0, hr1⟩ := Prod.mk.inj hr0
      clear hr0
      obtain ⟨hq1, hr2⟩ := Prod.mk.inj hr1
      clear hr1
      obtain ⟨hq2, hr3⟩ := Prod.mk.inj hr2
      clear hr2
      obtain ⟨hq3, hr4⟩ := Prod.mk.inj hr3
      clear hr3
      obtain ⟨hq4, hr5⟩ := Prod.mk.inj hr4
      clear hr4
      obtain ⟨hq5, hr6⟩ := Prod.mk.inj hr5
      clear hr5
      obtain ⟨hq6, hr7⟩ := Prod.mk.inj hr6
      clear hr6
      obtain ⟨hq7, hr8⟩ := Prod.mk.inj hr7
      clear hr7
      subst hq0
      subst hq1
      subst hq2
      subst hq3
      subst hq4
      subst hq5
      subst hq6
      subst hq7
      subst hr8
      have hP9 := hP.sub (ws' := [(h0, .inr (13, z963)), (qf100, .inl (cf100, 48000, .inl f100)), (qf128, .inl (cf128, 31, .inl g128_963)), (qf127, .inl (cf127, 30, .inl g127_963)), (qf104, .inl (cf104, 8, .inl f104)), (qf102, .inl (cf102, 2048, .inl f102)), (qf118, .inl (cf118, 2100, .inl g118_963)), (qf119, .inl (cf119, 2100, .inl g119_963)), (qf105, .inl (cf105, 8, .inl f105)), (qf137, .inl (cf137, 6, .inl g137_963))]) [0, 1, 2, 3, 4, 5, 6, 7, 8, 9] rfl
      have hD9 := hD.sub (ws' := [(h0, .inr (13, z963)), (qf100, .inl (cf100, 48000, .inl f100)), (qf128, .inl (cf128, 31, .inl g128_963)), (qf127, .inl (cf127, 30, .inl g127_963)), (qf104, .inl (cf104, 8, .inl f104)), (qf102, .inl (cf102, 2048, .inl f102)), (qf118, .inl (cf118, 2100, .inl g118_963)), (qf119, .inl (cf119, 2100, .inl g119_963)), (qf105, .inl (cf105, 8, .inl f105)), (qf137, .inl (cf137, 6, .inl g137_963))]) [0, 1, 2, 3, 4, 5, 6, 7, 8, 9] (by decide) rfl
      have hK9 := hK.sub (tys' := [(cf100, .int), (cf128, .int), (cf127, .int), (cf104, .int), (cf102, .int), (cf118, .int), (cf119, .int), (cf105, .int), (cf137, .int)]) [0, 1, 2, 3, 4, 5, 6, 7, 8] rfl
      exact W.zret hx hb hr (by decide) (fun t ht hW => ⟨⟨(1), (z963), rfl, ⟨⟨rfl, Or.inr rfl⟩, hlh_963, hrh_963, hfh_963_117, hfh_963_120, hfh_963_131⟩, by rw [ht]; exact hP9, va_K.moved hW.alike hK9, hD9⟩, hS.F ht⟩) hS.2.2 dX13_wanted_963
  intro hret_963
  refine jn_use (α := Heap × List Loc × Array Slot × List Value × Int32 × (Nat → Int32) × (Nat → Int32) × (Nat → Int32) × (Nat → Int32) × (Nat → Int32) × Int32 × Int32 × Int32) (fun x9 => x9.1) (fun x9 => x9.2.1) (fun x9 => F0 m 995 x9.2.2.1 [.int (x9.2.2.2.2.1)]) (fun x9 => match x9 with | (H, locs, ls, z995, rr_995, g118_995, g119_995, g127_995, g128_995, g137_995, x117_995, x120_995, x131_995) => va_S A s.heap H locs ∧ va_D A [(h0, .inr (13, z995)), (qf100, .inl (cf100, 48000, .inl f100)), (qf128, .inl (cf128, 31, .inl g128_995)), (qf127, .inl (cf127, 30, .inl g127_995)), (qf104, .inl (cf104, 8, .inl f104)), (qf102, .inl (cf102, 2048, .inl f102)), (qf118, .inl (cf118, 2100, .inl g118_995)), (qf119, .inl (cf119, 2100, .inl g119_995)), (qf105, .inl (cf105, 8, .inl f105)), (qf137, .inl (cf137, 6, .inl g137_995))] ∧ va_P (dC, dI) vwCl [(h0, .inr (13, z995)), (qf100, .inl (cf100, 48000, .inl f100)), (qf128, .inl (cf128, 31, .inl g128_995)), (qf127, .inl (cf127, 30, .inl g127_995)), (qf104, .inl (cf104, 8, .inl f104)), (qf102, .inl (cf102, 2048, .inl f102)), (qf118, .inl (cf118, 2100, .inl g118_995)), (qf119, .inl (cf119, 2100, .inl g119_995)), (qf105, .inl (cf105, 8, .inl f105)), (qf137, .inl (cf137, 6, .inl g137_995))] H ∧ z995[98]? = some (.int v98) ∧ z995[100]? = some (.ref qf100) ∧ z995[102]? = some (.ref qf102) ∧ z995[104]? = some (.ref qf104) ∧ z995[105]? = some (.ref qf105) ∧ z995[117]? = some (.int x117_995) ∧ z995[118]? = some (.ref qf118) ∧ z995[119]? = some (.ref qf119) ∧ z995[120]? = some (.int x120_995) ∧ z995[127]? = some (.ref qf127) ∧ z995[128]? = some (.ref qf128) ∧ z995[129]? = some (.int v129) ∧ z995[130]? = some (.int v130) ∧ z995[131]? = some (.int x131_995) ∧ z995[132]? = some (.int v132) ∧ z995[134]? = some (.int v134) ∧ z995[136]? = some (.int v136) ∧ z995[137]? = some (.ref qf137) ∧ z995.length = 155 ∧ (∀ j : Nat, j ≠ 117 → j ≠ 120 → j ≠ 131 → z995[j]? = zs[j]?) ∧ (rr_995 = 0 ∨ rr_995 = 1) ∧ some (rr_995, g118_995, g119_995, g127_995, g128_995, g137_995, x117_995, x120_995, x131_995) = some (r0, o118, o119, o127, o128, o137, w117, w120, w131)) ?_ ?_
  · intro x9 hJ9
    obtain ⟨H, locs, ls, z995, rr_995, g118_995, g119_995, g127_995, g128_995, g137_995, x117_995, x120_995, x131_995⟩ := x9
    obtain ⟨hS, hD, hP, hfh_995_98, hfh_995_100, hfh_995_102, hfh_995_104, hfh_995_105, hfh_995_117, hfh_995_118, hfh_995_119, hfh_995_120, hfh_995_127, hfh_995_128, hfh_995_129, hfh_995_130, hfh_995_131, hfh_995_132, hfh_995_134, hfh_995_136, hfh_995_137, hlh_995, hrh_995, hz9, hsp⟩ := hJ9
    replace hS : va_S A s.heap H locs := hS
    replace hD : va_D A [(h0, .inr (13, z995)), (qf100, .inl (cf100, 48000, .inl f100)), (qf128, .inl (cf128, 31, .inl g128_995)), (qf127, .inl (cf127, 30, .inl g127_995)), (qf104, .inl (cf104, 8, .inl f104)), (qf102, .inl (cf102, 2048, .inl f102)), (qf118, .inl (cf118, 2100, .inl g118_995)), (qf119, .inl (cf119, 2100, .inl g119_995)), (qf105, .inl (cf105, 8, .inl f105)), (qf137, .inl (cf137, 6, .inl g137_995))] := hD
    replace hP : va_P (dC, dI) vwCl [(h0, .inr (13, z995)), (qf100, .inl (cf100, 48000, .inl f100)), (qf128, .inl (cf128, 31, .inl g128_995)), (qf127, .inl (cf127, 30, .inl g127_995)), (qf104, .inl (cf104, 8, .inl f104)), (qf102, .inl (cf102, 2048, .inl f102)), (qf118, .inl (cf118, 2100, .inl g118_995)), (qf119, .inl (cf119, 2100, .inl g119_995)), (qf105, .inl (cf105, 8, .inl f105)), (qf137, .inl (cf137, 6, .inl g137_995))] H := hP
    replace hsp : some (rr_995, g118_995, g119_995, g127_995, g128_995, g137_995, x117_995, x120_995, x131_995) = some (r0, o118, o119, o127, o128, o137, w117, w120, w131) := hsp
    show W _ _ _ _ _ _ _ _ _ _ H locs _ _ _ (F0 m 995 ls [.int rr_995])
    rcases hz9 with rfl | rfl
    · skip
      have hr0 := Option.some.inj hsp
      clear hsp
      obtain ⟨hq0, hr1⟩ := Prod.mk.inj hr0
      clear hr0
      obtain ⟨hq1, hr2⟩ := Prod.mk.inj hr1
      clear hr1
      obtain ⟨hq2, hr3⟩ := Prod.mk.inj hr2
      clear hr2
      obtain ⟨hq3, hr4⟩ := Prod.mk.inj hr3
      clear hr3
      obtain ⟨hq4, hr5⟩ := Prod.mk.inj hr4
      clear hr4
      obtain ⟨hq5, hr6⟩ := Prod.mk.inj hr5
      clear hr5
      obtain ⟨hq6, hr7⟩ := Prod.mk.inj hr6
      clear hr6
      obtain ⟨hq7, hr8⟩ := Prod.mk.inj hr7
      clear hr7
      subst hq0
      subst hq1
      subst hq2
      subst hq3
      subst hq4
      subst hq5
      subst hq6
      subst hq7
      subst hr8
      have hP9 := hP.sub (ws' := [(h0, .inr (13, z995)), (qf100, .inl (cf100, 48000, .inl f100)), (qf128, .inl (cf128, 31, .inl g128_995)), (qf127, .inl (cf127, 30, .inl g127_995)), (qf104, .inl (cf104, 8, .inl f104)), (qf102, .inl (cf102, 2048, .inl f102)), (qf118, .inl (cf118, 2100, .inl g118_995)), (qf119, .inl (cf119, 2100, .inl g119_995)), (qf105, .inl (cf105, 8, .inl f105)), (qf137, .inl (cf137, 6, .inl g137_995))]) [0, 1, 2, 3, 4, 5, 6, 7, 8, 9] rfl
      have hD9 := hD.sub (ws' := [(h0, .inr (13, z995)), (qf100, .inl (cf100, 48000, .inl f100)), (qf128, .inl (cf128, 31, .inl g128_995)), (qf127, .inl (cf127, 30, .inl g127_995)), (qf104, .inl (cf104, 8, .inl f104)), (qf102, .inl (cf102, 2048, .inl f102)), (qf118, .inl (cf118, 2100, .inl g118_995)), (qf119, .inl (cf119, 2100, .inl g119_995)), (qf105, .inl (cf105, 8, .inl f105)), (qf137, .inl (cf137, 6, .inl g137_995))]) [0, 1, 2, 3, 4, 5, 6, 7, 8, 9] (by decide) rfl
      have hK9 := hK.sub (tys' := [(cf100, .int), (cf128, .int), (cf127, .int), (cf104, .int), (cf102, .int), (cf118, .int), (cf119, .int), (cf105, .int), (cf137, .int)]) [0, 1, 2, 3, 4, 5, 6, 7, 8] rfl
      exact W.zret hx hb hr (by decide) (fun t ht hW => ⟨⟨(0), (z995), rfl, ⟨⟨rfl, Or.inl rfl⟩, hlh_995, hrh_995, hfh_995_117, hfh_995_120, hfh_995_131⟩, by rw [ht]; exact hP9, va_K.moved hW.alike hK9, hD9⟩, hS.F ht⟩) hS.2.2 dX13_wanted_995
    · skip
      have hr0 := Option.some.inj hsp
      clear hsp
      obtain ⟨hq0, hr1⟩ := Prod.mk.inj hr0
      clear hr0
      obtain ⟨hq1, hr2⟩ := Prod.mk.inj hr1
      clear hr1
      obtain ⟨hq2, hr3⟩ := Prod.mk.inj hr2
      clear hr2
      obtain ⟨hq3, hr4⟩ := Prod.mk.inj hr3
      clear hr3
      obtain ⟨hq4, hr5⟩ := Prod.mk.inj hr4
      clear hr4
      obtain ⟨hq5, hr6⟩ := Prod.mk.inj hr5
      clear hr5
      obtain ⟨hq6, hr7⟩ := Prod.mk.inj hr6
      clear hr6
      obtain ⟨hq7, hr8⟩ := Prod.mk.inj hr7
      clear hr7
      subst hq0
      subst hq1
      subst hq2
      subst hq3
      subst hq4
      subst hq5
      subst hq6
      subst hq7
      subst hr8
      have hP9 := hP.sub (ws' := [(h0, .inr (13, z995)), (qf100, .inl (cf100, 48000, .inl f100)), (qf128, .inl (cf128, 31, .inl g128_995)), (qf127, .inl (cf127, 30, .inl g127_995)), (qf104, .inl (cf104, 8, .inl f104)), (qf102, .inl (cf102, 2048, .inl f102)), (qf118, .inl (cf118, 2100, .inl g118_995)), (qf119, .inl (cf119, 2100, .inl g119_995)), (qf105, .inl (cf105, 8, .inl f105)), (qf137, .inl (cf137, 6, .inl g137_995))]) [0, 1, 2, 3, 4, 5, 6, 7, 8, 9] rfl
      have hD9 := hD.sub (ws' := [(h0, .inr (13, z995)), (qf100, .inl (cf100, 48000, .inl f100)), (qf128, .inl (cf128, 31, .inl g128_995)), (qf127, .inl (cf127, 30, .inl g127_995)), (qf104, .inl (cf104, 8, .inl f104)), (qf102, .inl (cf102, 2048, .inl f102)), (qf118, .inl (cf118, 2100, .inl g118_995)), (qf119, .inl (cf119, 2100, .inl g119_995)), (qf105, .inl (cf105, 8, .inl f105)), (qf137, .inl (cf137, 6, .inl g137_995))]) [0, 1, 2, 3, 4, 5, 6, 7, 8, 9] (by decide) rfl
      have hK9 := hK.sub (tys' := [(cf100, .int), (cf128, .int), (cf127, .int), (cf104, .int), (cf102, .int), (cf118, .int), (cf119, .int), (cf105, .int), (cf137, .int)]) [0, 1, 2, 3, 4, 5, 6, 7, 8] rfl
      exact W.zret hx hb hr (by decide) (fun t ht hW => ⟨⟨(1), (z995), rfl, ⟨⟨rfl, Or.inr rfl⟩, hlh_995, hrh_995, hfh_995_117, hfh_995_120, hfh_995_131⟩, by rw [ht]; exact hP9, va_K.moved hW.alike hK9, hD9⟩, hS.F ht⟩) hS.2.2 dX13_wanted_995
  intro hret_995
  refine jn_use (α := Heap × List Loc × Array Slot × List Value × Int32 × (Nat → Int32) × (Nat → Int32) × (Nat → Int32) × (Nat → Int32) × (Nat → Int32) × Int32 × Int32 × Int32) (fun x9 => x9.1) (fun x9 => x9.2.1) (fun x9 => F0 m 1005 x9.2.2.1 [.int (x9.2.2.2.2.1)]) (fun x9 => match x9 with | (H, locs, ls, z1005, rr_1005, g118_1005, g119_1005, g127_1005, g128_1005, g137_1005, x117_1005, x120_1005, x131_1005) => va_S A s.heap H locs ∧ va_D A [(h0, .inr (13, z1005)), (qf100, .inl (cf100, 48000, .inl f100)), (qf128, .inl (cf128, 31, .inl g128_1005)), (qf127, .inl (cf127, 30, .inl g127_1005)), (qf104, .inl (cf104, 8, .inl f104)), (qf102, .inl (cf102, 2048, .inl f102)), (qf118, .inl (cf118, 2100, .inl g118_1005)), (qf119, .inl (cf119, 2100, .inl g119_1005)), (qf105, .inl (cf105, 8, .inl f105)), (qf137, .inl (cf137, 6, .inl g137_1005))] ∧ va_P (dC, dI) vwCl [(h0, .inr (13, z1005)), (qf100, .inl (cf100, 48000, .inl f100)), (qf128, .inl (cf128, 31, .inl g128_1005)), (qf127, .inl (cf127, 30, .inl g127_1005)), (qf104, .inl (cf104, 8, .inl f104)), (qf102, .inl (cf102, 2048, .inl f102)), (qf118, .inl (cf118, 2100, .inl g118_1005)), (qf119, .inl (cf119, 2100, .inl g119_1005)), (qf105, .inl (cf105, 8, .inl f105)), (qf137, .inl (cf137, 6, .inl g137_1005))] H ∧ z1005[98]? = some (.int v98) ∧ z1005[100]? = some (.ref qf100) ∧ z1005[102]? = some (.ref qf102) ∧ z1005[104]? = some (.ref qf104) ∧ z1005[105]? = some (.ref qf105) ∧ z1005[117]? = some (.int x117_1005) ∧ z1005[118]? = some (.ref qf118) ∧ z1005[119]? = some (.ref qf119) ∧ z1005[120]? = some (.int x120_1005) ∧ z1005[127]? = some (.ref qf127) ∧ z1005[128]? = some (.ref qf128) ∧ z1005[129]? = some (.int v129) ∧ z1005[130]? = some (.int v130) ∧ z1005[131]? = some (.int x131_1005) ∧ z1005[132]? = some (.int v132) ∧ z1005[134]? = some (.int v134) ∧ z1005[136]? = some (.int v136) ∧ z1005[137]? = some (.ref qf137) ∧ z1005.length = 155 ∧ (∀ j : Nat, j ≠ 117 → j ≠ 120 → j ≠ 131 → z1005[j]? = zs[j]?) ∧ (rr_1005 = 0 ∨ rr_1005 = 1) ∧ some (rr_1005, g118_1005, g119_1005, g127_1005, g128_1005, g137_1005, x117_1005, x120_1005, x131_1005) = some (r0, o118, o119, o127, o128, o137, w117, w120, w131)) ?_ ?_
  · intro x9 hJ9
    obtain ⟨H, locs, ls, z1005, rr_1005, g118_1005, g119_1005, g127_1005, g128_1005, g137_1005, x117_1005, x120_1005, x131_1005⟩ := x9
    obtain ⟨hS, hD, hP, hfh_1005_98, hfh_1005_100, hfh_1005_102, hfh_1005_104, hfh_1005_105, hfh_1005_117, hfh_1005_118, hfh_1005_119, hfh_1005_120, hfh_1005_127, hfh_1005_128, hfh_1005_129, hfh_1005_130, hfh_1005_131, hfh_1005_132, hfh_1005_134, hfh_1005_136, hfh_1005_137, hlh_1005, hrh_1005, hz9, hsp⟩ := hJ9
    replace hS : va_S A s.heap H locs := hS
    replace hD : va_D A [(h0, .inr (13, z1005)), (qf100, .inl (cf100, 48000, .inl f100)), (qf128, .inl (cf128, 31, .inl g128_1005)), (qf127, .inl (cf127, 30, .inl g127_1005)), (qf104, .inl (cf104, 8, .inl f104)), (qf102, .inl (cf102, 2048, .inl f102)), (qf118, .inl (cf118, 2100, .inl g118_1005)), (qf119, .inl (cf119, 2100, .inl g119_1005)), (qf105, .inl (cf105, 8, .inl f105)), (qf137, .inl (cf137, 6, .inl g137_1005))] := hD
    replace hP : va_P (dC, dI) vwCl [(h0, .inr (13, z1005)), (qf100, .inl (cf100, 48000, .inl f100)), (qf128, .inl (cf128, 31, .inl g128_1005)), (qf127, .inl (cf127, 30, .inl g127_1005)), (qf104, .inl (cf104, 8, .inl f104)), (qf102, .inl (cf102, 2048, .inl f102)), (qf118, .inl (cf118, 2100, .inl g118_1005)), (qf119, .inl (cf119, 2100, .inl g119_1005)), (qf105, .inl (cf105, 8, .inl f105)), (qf137, .inl (cf137, 6, .inl g137_1005))] H := hP
    replace hsp : some (rr_1005, g118_1005, g119_1005, g127_1005, g128_1005, g137_1005, x117_1005, x120_1005, x131_1005) = some (r0, o118, o119, o127, o128, o137, w117, w120, w131) := hsp
    show W _ _ _ _ _ _ _ _ _ _ H locs _ _ _ (F0 m 1005 ls [.int rr_1005])
    rcases hz9 with rfl | rfl
    · skip
      have hr0 := Option.some.inj hsp
      clear hsp
      obtain ⟨hq0, hr1⟩ := Prod.mk.inj hr0
      clear hr0
      obtain ⟨hq1, hr2⟩ := Prod.mk.inj hr1
      clear hr1
      obtain ⟨hq2, hr3⟩ := Prod.mk.inj hr2
      clear hr2
      obtain ⟨hq3, hr4⟩ := Prod.mk.inj hr3
      clear hr3
      obtain ⟨hq4, hr5⟩ := Prod.mk.inj hr4
      clear hr4
      obtain ⟨hq5, hr6⟩ := Prod.mk.inj hr5
      clear hr5
      obtain ⟨hq6, hr7⟩ := Prod.mk.inj hr6
      clear hr6
      obtain ⟨hq7, hr8⟩ := Prod.mk.inj hr7
      clear hr7
      subst hq0
      subst hq1
      subst hq2
      subst hq3
      subst hq4
      subst hq5
      subst hq6
      subst hq7
      subst hr8
      have hP9 := hP.sub (ws' := [(h0, .inr (13, z1005)), (qf100, .inl (cf100, 48000, .inl f100)), (qf128, .inl (cf128, 31, .inl g128_1005)), (qf127, .inl (cf127, 30, .inl g127_1005)), (qf104, .inl (cf104, 8, .inl f104)), (qf102, .inl (cf102, 2048, .inl f102)), (qf118, .inl (cf118, 2100, .inl g118_1005)), (qf119, .inl (cf119, 2100, .inl g119_1005)), (qf105, .inl (cf105, 8, .inl f105)), (qf137, .inl (cf137, 6, .inl g137_1005))]) [0, 1, 2, 3, 4, 5, 6, 7, 8, 9] rfl
      have hD9 := hD.sub (ws' := [(h0, .inr (13, z1005)), (qf100, .inl (cf100, 48000, .inl f100)), (qf128, .inl (cf128, 31, .inl g128_1005)), (qf127, .inl (cf127, 30, .inl g127_1005)), (qf104, .inl (cf104, 8, .inl f104)), (qf102, .inl (cf102, 2048, .inl f102)), (qf118, .inl (cf118, 2100, .inl g118_1005)), (qf119, .inl (cf119, 2100, .inl g119_1005)), (qf105, .inl (cf105, 8, .inl f105)), (qf137, .inl (cf137, 6, .inl g137_1005))]) [0, 1, 2, 3, 4, 5, 6, 7, 8, 9] (by decide) rfl
      have hK9 := hK.sub (tys' := [(cf100, .int), (cf128, .int), (cf127, .int), (cf104, .int), (cf102, .int), (cf118, .int), (cf119, .int), (cf105, .int), (cf137, .int)]) [0, 1, 2, 3, 4, 5, 6, 7, 8] rfl
      exact W.zret hx hb hr (by decide) (fun t ht hW => ⟨⟨(0), (z1005), rfl, ⟨⟨rfl, Or.inl rfl⟩, hlh_1005, hrh_1005, hfh_1005_117, hfh_1005_120, hfh_1005_131⟩, by rw [ht]; exact hP9, va_K.moved hW.alike hK9, hD9⟩, hS.F ht⟩) hS.2.2 dX13_wanted_1005
    · skip
      have hr0 := Option.some.inj hsp
      clear hsp
      obtain ⟨hq0, hr1⟩ := Prod.mk.inj hr0
      clear hr0
      obtain ⟨hq1, hr2⟩ := Prod.mk.inj hr1
      clear hr1
      obtain ⟨hq2, hr3⟩ := Prod.mk.inj hr2
      clear hr2
      obtain ⟨hq3, hr4⟩ := Prod.mk.inj hr3
      clear hr3
      obtain ⟨hq4, hr5⟩ := Prod.mk.inj hr4
      clear hr4
      obtain ⟨hq5, hr6⟩ := Prod.mk.inj hr5
      clear hr5
      obtain ⟨hq6, hr7⟩ := Prod.mk.inj hr6
      clear hr6
      obtain ⟨hq7, hr8⟩ := Prod.mk.inj hr7
      clear hr7
      subst hq0
      subst hq1
      subst hq2
      subst hq3
      subst hq4
      subst hq5
      subst hq6
      subst hq7
      subst hr8
      have hP9 := hP.sub (ws' := [(h0, .inr (13, z1005)), (qf100, .inl (cf100, 48000, .inl f100)), (qf128, .inl (cf128, 31, .inl g128_1005)), (qf127, .inl (cf127, 30, .inl g127_1005)), (qf104, .inl (cf104, 8, .inl f104)), (qf102, .inl (cf102, 2048, .inl f102)), (qf118, .inl (cf118, 2100, .inl g118_1005)), (qf119, .inl (cf119, 2100, .inl g119_1005)), (qf105, .inl (cf105, 8, .inl f105)), (qf137, .inl (cf137, 6, .inl g137_1005))]) [0, 1, 2, 3, 4, 5, 6, 7, 8, 9] rfl
      have hD9 := hD.sub (ws' := [(h0, .inr (13, z1005)), (qf100, .inl (cf100, 48000, .inl f100)), (qf128, .inl (cf128, 31, .inl g128_1005)), (qf127, .inl (cf127, 30, .inl g127_1005)), (qf104, .inl (cf104, 8, .inl f104)), (qf102, .inl (cf102, 2048, .inl f102)), (qf118, .inl (cf118, 2100, .inl g118_1005)), (qf119, .inl (cf119, 2100, .inl g119_1005)), (qf105, .inl (cf105, 8, .inl f105)), (qf137, .inl (cf137, 6, .inl g137_1005))]) [0, 1, 2, 3, 4, 5, 6, 7, 8, 9] (by decide) rfl
      have hK9 := hK.sub (tys' := [(cf100, .int), (cf128, .int), (cf127, .int), (cf104, .int), (cf102, .int), (cf118, .int), (cf119, .int), (cf105, .int), (cf137, .int)]) [0, 1, 2, 3, 4, 5, 6, 7, 8] rfl
      exact W.zret hx hb hr (by decide) (fun t ht hW => ⟨⟨(1), (z1005), rfl, ⟨⟨rfl, Or.inr rfl⟩, hlh_1005, hrh_1005, hfh_1005_117, hfh_1005_120, hfh_1005_131⟩, by rw [ht]; exact hP9, va_K.moved hW.alike hK9, hD9⟩, hS.F ht⟩) hS.2.2 dX13_wanted_1005
  intro hret_1005
  refine jn_use (α := Heap × List Loc × Array Slot × List Value × Int32 × (Nat → Int32) × (Nat → Int32) × (Nat → Int32) × (Nat → Int32) × (Nat → Int32) × Int32 × Int32 × Int32) (fun x9 => x9.1) (fun x9 => x9.2.1) (fun x9 => F0 m 1023 x9.2.2.1 [.int (x9.2.2.2.2.1)]) (fun x9 => match x9 with | (H, locs, ls, z1023, rr_1023, g118_1023, g119_1023, g127_1023, g128_1023, g137_1023, x117_1023, x120_1023, x131_1023) => va_S A s.heap H locs ∧ va_D A [(h0, .inr (13, z1023)), (qf100, .inl (cf100, 48000, .inl f100)), (qf128, .inl (cf128, 31, .inl g128_1023)), (qf127, .inl (cf127, 30, .inl g127_1023)), (qf104, .inl (cf104, 8, .inl f104)), (qf102, .inl (cf102, 2048, .inl f102)), (qf118, .inl (cf118, 2100, .inl g118_1023)), (qf119, .inl (cf119, 2100, .inl g119_1023)), (qf105, .inl (cf105, 8, .inl f105)), (qf137, .inl (cf137, 6, .inl g137_1023))] ∧ va_P (dC, dI) vwCl [(h0, .inr (13, z1023)), (qf100, .inl (cf100, 48000, .inl f100)), (qf128, .inl (cf128, 31, .inl g128_1023)), (qf127, .inl (cf127, 30, .inl g127_1023)), (qf104, .inl (cf104, 8, .inl f104)), (qf102, .inl (cf102, 2048, .inl f102)), (qf118, .inl (cf118, 2100, .inl g118_1023)), (qf119, .inl (cf119, 2100, .inl g119_1023)), (qf105, .inl (cf105, 8, .inl f105)), (qf137, .inl (cf137, 6, .inl g137_1023))] H ∧ z1023[98]? = some (.int v98) ∧ z1023[100]? = some (.ref qf100) ∧ z1023[102]? = some (.ref qf102) ∧ z1023[104]? = some (.ref qf104) ∧ z1023[105]? = some (.ref qf105) ∧ z1023[117]? = some (.int x117_1023) ∧ z1023[118]? = some (.ref qf118) ∧ z1023[119]? = some (.ref qf119) ∧ z1023[120]? = some (.int x120_1023) ∧ z1023[127]? = some (.ref qf127) ∧ z1023[128]? = some (.ref qf128) ∧ z1023[129]? = some (.int v129) ∧ z1023[130]? = some (.int v130) ∧ z1023[131]? = some (.int x131_1023) ∧ z1023[132]? = some (.int v132) ∧ z1023[134]? = some (.int v134) ∧ z1023[136]? = some (.int v136) ∧ z1023[137]? = some (.ref qf137) ∧ z1023.length = 155 ∧ (∀ j : Nat, j ≠ 117 → j ≠ 120 → j ≠ 131 → z1023[j]? = zs[j]?) ∧ (rr_1023 = 0 ∨ rr_1023 = 1) ∧ some (rr_1023, g118_1023, g119_1023, g127_1023, g128_1023, g137_1023, x117_1023, x120_1023, x131_1023) = some (r0, o118, o119, o127, o128, o137, w117, w120, w131)) ?_ ?_
  · intro x9 hJ9
    obtain ⟨H, locs, ls, z1023, rr_1023, g118_1023, g119_1023, g127_1023, g128_1023, g137_1023, x117_1023, x120_1023, x131_1023⟩ := x9
    obtain ⟨hS, hD, hP, hfh_1023_98, hfh_1023_100, hfh_1023_102, hfh_1023_104, hfh_1023_105, hfh_1023_117, hfh_1023_118, hfh_1023_119, hfh_1023_120, hfh_1023_127, hfh_1023_128, hfh_1023_129, hfh_1023_130, hfh_1023_131, hfh_1023_132, hfh_1023_134, hfh_1023_136, hfh_1023_137, hlh_1023, hrh_1023, hz9, hsp⟩ := hJ9
    replace hS : va_S A s.heap H locs := hS
    replace hD : va_D A [(h0, .inr (13, z1023)), (qf100, .inl (cf100, 48000, .inl f100)), (qf128, .inl (cf128, 31, .inl g128_1023)), (qf127, .inl (cf127, 30, .inl g127_1023)), (qf104, .inl (cf104, 8, .inl f104)), (qf102, .inl (cf102, 2048, .inl f102)), (qf118, .inl (cf118, 2100, .inl g118_1023)), (qf119, .inl (cf119, 2100, .inl g119_1023)), (qf105, .inl (cf105, 8, .inl f105)), (qf137, .inl (cf137, 6, .inl g137_1023))] := hD
    replace hP : va_P (dC, dI) vwCl [(h0, .inr (13, z1023)), (qf100, .inl (cf100, 48000, .inl f100)), (qf128, .inl (cf128, 31, .inl g128_1023)), (qf127, .inl (cf127, 30, .inl g127_1023)), (qf104, .inl (cf104, 8, .inl f104)), (qf102, .inl (cf102, 2048, .inl f102)), (qf118, .inl (cf118, 2100, .inl g118_1023)), (qf119, .inl (cf119, 2100, .inl g119_1023)), (qf105, .inl (cf105, 8, .inl f105)), (qf137, .inl (cf137, 6, .inl g137_1023))] H := hP
    replace hsp : some (rr_1023, g118_1023, g119_1023, g127_1023, g128_1023, g137_1023, x117_1023, x120_1023, x131_1023) = some (r0, o118, o119, o127, o128, o137, w117, w120, w131) := hsp
    show W _ _ _ _ _ _ _ _ _ _ H locs _ _ _ (F0 m 1023 ls [.int rr_1023])
    rcases hz9 with rfl | rfl
    · skip
      have hr0 := Option.some.inj hsp
      clear hsp
      obtain ⟨hq0, hr1⟩ := Prod.mk.inj hr0
      clear hr0
      obtain ⟨hq1, hr2⟩ := Prod.mk.inj hr1
      clear hr1
      obtain ⟨hq2, hr3⟩ := Prod.mk.inj hr2
      clear hr2
      obtain ⟨hq3, hr4⟩ := Prod.mk.inj hr3
      clear hr3
      obtain ⟨hq4, hr5⟩ := Prod.mk.inj hr4
      clear hr4
      obtain ⟨hq5, hr6⟩ := Prod.mk.inj hr5
      clear hr5
      obtain ⟨hq6, hr7⟩ := Prod.mk.inj hr6
      clear hr6
      obtain ⟨hq7, hr8⟩ := Prod.mk.inj hr7
      clear hr7
      subst hq0
      subst hq1
      subst hq2
      subst hq3
      subst hq4
      subst hq5
      subst hq6
      subst hq7
      subst hr8
      have hP9 := hP.sub (ws' := [(h0, .inr (13, z1023)), (qf100, .inl (cf100, 48000, .inl f100)), (qf128, .inl (cf128, 31, .inl g128_1023)), (qf127, .inl (cf127, 30, .inl g127_1023)), (qf104, .inl (cf104, 8, .inl f104)), (qf102, .inl (cf102, 2048, .inl f102)), (qf118, .inl (cf118, 2100, .inl g118_1023)), (qf119, .inl (cf119, 2100, .inl g119_1023)), (qf105, .inl (cf105, 8, .inl f105)), (qf137, .inl (cf137, 6, .inl g137_1023))]) [0, 1, 2, 3, 4, 5, 6, 7, 8, 9] rfl
      have hD9 := hD.sub (ws' := [(h0, .inr (13, z1023)), (qf100, .inl (cf100, 48000, .inl f100)), (qf128, .inl (cf128, 31, .inl g128_1023)), (qf127, .inl (cf127, 30, .inl g127_1023)), (qf104, .inl (cf104, 8, .inl f104)), (qf102, .inl (cf102, 2048, .inl f102)), (qf118, .inl (cf118, 2100, .inl g118_1023)), (qf119, .inl (cf119, 2100, .inl g119_1023)), (qf105, .inl (cf105, 8, .inl f105)), (qf137, .inl (cf137, 6, .inl g137_1023))]) [0, 1, 2, 3, 4, 5, 6, 7, 8, 9] (by decide) rfl
      have hK9 := hK.sub (tys' := [(cf100, .int), (cf128, .int), (cf127, .int), (cf104, .int), (cf102, .int), (cf118, .int), (cf119, .int), (cf105, .int), (cf137, .int)]) [0, 1, 2, 3, 4, 5, 6, 7, 8] rfl
      exact W.zret hx hb hr (by decide) (fun t ht hW => ⟨⟨(0), (z1023), rfl, ⟨⟨rfl, Or.inl rfl⟩, hlh_1023, hrh_1023, hfh_1023_117, hfh_1023_120, hfh_1023_131⟩, by rw [ht]; exact hP9, va_K.moved hW.alike hK9, hD9⟩, hS.F ht⟩) hS.2.2 dX13_wanted_1023
    · skip
      have hr0 := Option.some.inj hsp
      clear hsp
      obtain ⟨hq0, hr1⟩ := Prod.mk.inj hr0
      clear hr0
      obtain ⟨hq1, hr2⟩ := Prod.mk.inj hr1
      clear hr1
      obtain ⟨hq2, hr3⟩ := Prod.mk.inj hr2
      clear hr2
      obtain ⟨hq3, hr4⟩ := Prod.mk.inj hr3
      clear hr3
      obtain ⟨hq4, hr5⟩ := Prod.mk.inj hr4
      clear hr4
      obtain ⟨hq5, hr6⟩ := Prod.mk.inj hr5
      clear hr5
      obtain ⟨hq6, hr7⟩ := Prod.mk.inj hr6
      clear hr6
      obtain ⟨hq7, hr8⟩ := Prod.mk.inj hr7
      clear hr7
      subst hq0
      subst hq1
      subst hq2
      subst hq3
      subst hq4
      subst hq5
      subst hq6
      subst hq7
      subst hr8
      have hP9 := hP.sub (ws' := [(h0, .inr (13, z1023)), (qf100, .inl (cf100, 48000, .inl f100)), (qf128, .inl (cf128, 31, .inl g128_1023)), (qf127, .inl (cf127, 30, .inl g127_1023)), (qf104, .inl (cf104, 8, .inl f104)), (qf102, .inl (cf102, 2048, .inl f102)), (qf118, .inl (cf118, 2100, .inl g118_1023)), (qf119, .inl (cf119, 2100, .inl g119_1023)), (qf105, .inl (cf105, 8, .inl f105)), (qf137, .inl (cf137, 6, .inl g137_1023))]) [0, 1, 2, 3, 4, 5, 6, 7, 8, 9] rfl
      have hD9 := hD.sub (ws' := [(h0, .inr (13, z1023)), (qf100, .inl (cf100, 48000, .inl f100)), (qf128, .inl (cf128, 31, .inl g128_1023)), (qf127, .inl (cf127, 30, .inl g127_1023)), (qf104, .inl (cf104, 8, .inl f104)), (qf102, .inl (cf102, 2048, .inl f102)), (qf118, .inl (cf118, 2100, .inl g118_1023)), (qf119, .inl (cf119, 2100, .inl g119_1023)), (qf105, .inl (cf105, 8, .inl f105)), (qf137, .inl (cf137, 6, .inl g137_1023))]) [0, 1, 2, 3, 4, 5, 6, 7, 8, 9] (by decide) rfl
      have hK9 := hK.sub (tys' := [(cf100, .int), (cf128, .int), (cf127, .int), (cf104, .int), (cf102, .int), (cf118, .int), (cf119, .int), (cf105, .int), (cf137, .int)]) [0, 1, 2, 3, 4, 5, 6, 7, 8] rfl
      exact W.zret hx hb hr (by decide) (fun t ht hW => ⟨⟨(1), (z1023), rfl, ⟨⟨rfl, Or.inr rfl⟩, hlh_1023, hrh_1023, hfh_1023_117, hfh_1023_120, hfh_1023_131⟩, by rw [ht]; exact hP9, va_K.moved hW.alike hK9, hD9⟩, hS.F ht⟩) hS.2.2 dX13_wanted_1023
  intro hret_1023
  refine jn_use (α := Heap × List Loc × Array Slot × List Value × Int32 × (Nat → Int32) × (Nat → Int32) × (Nat → Int32) × (Nat → Int32) × (Nat → Int32) × Int32 × Int32 × Int32) (fun x9 => x9.1) (fun x9 => x9.2.1) (fun x9 => F0 m 1054 x9.2.2.1 [.int (x9.2.2.2.2.1)]) (fun x9 => match x9 with | (H, locs, ls, z1054, rr_1054, g118_1054, g119_1054, g127_1054, g128_1054, g137_1054, x117_1054, x120_1054, x131_1054) => va_S A s.heap H locs ∧ va_D A [(h0, .inr (13, z1054)), (qf100, .inl (cf100, 48000, .inl f100)), (qf128, .inl (cf128, 31, .inl g128_1054)), (qf127, .inl (cf127, 30, .inl g127_1054)), (qf104, .inl (cf104, 8, .inl f104)), (qf102, .inl (cf102, 2048, .inl f102)), (qf118, .inl (cf118, 2100, .inl g118_1054)), (qf119, .inl (cf119, 2100, .inl g119_1054)), (qf105, .inl (cf105, 8, .inl f105)), (qf137, .inl (cf137, 6, .inl g137_1054))] ∧ va_P (dC, dI) vwCl [(h0, .inr (13, z1054)), (qf100, .inl (cf100, 48000, .inl f100)), (qf128, .inl (cf128, 31, .inl g128_1054)), (qf127, .inl (cf127, 30, .inl g127_1054)), (qf104, .inl (cf104, 8, .inl f104)), (qf102, .inl (cf102, 2048, .inl f102)), (qf118, .inl (cf118, 2100, .inl g118_1054)), (qf119, .inl (cf119, 2100, .inl g119_1054)), (qf105, .inl (cf105, 8, .inl f105)), (qf137, .inl (cf137, 6, .inl g137_1054))] H ∧ z1054[98]? = some (.int v98) ∧ z1054[100]? = some (.ref qf100) ∧ z1054[102]? = some (.ref qf102) ∧ z1054[104]? = some (.ref qf104) ∧ z1054[105]? = some (.ref qf105) ∧ z1054[117]? = some (.int x117_1054) ∧ z1054[118]? = some (.ref qf118) ∧ z1054[119]? = some (.ref qf119) ∧ z1054[120]? = some (.int x120_1054) ∧ z1054[127]? = some (.ref qf127) ∧ z1054[128]? = some (.ref qf128) ∧ z1054[129]? = some (.int v129) ∧ z1054[130]? = some (.int v130) ∧ z1054[131]? = some (.int x131_1054) ∧ z1054[132]? = some (.int v132) ∧ z1054[134]? = some (.int v134) ∧ z1054[136]? = some (.int v136) ∧ z1054[137]? = some (.ref qf137) ∧ z1054.length = 155 ∧ (∀ j : Nat, j ≠ 117 → j ≠ 120 → j ≠ 131 → z1054[j]? = zs[j]?) ∧ (rr_1054 = 0 ∨ rr_1054 = 1) ∧ some (rr_1054, g118_1054, g119_1054, g127_1054, g128_1054, g137_1054, x117_1054, x120_1054, x131_1054) = some (r0, o118, o119, o127, o128, o137, w117, w120, w131)) ?_ ?_
  · intro x9 hJ9
    obtain ⟨H, locs, ls, z1054, rr_1054, g118_1054, g119_1054, g127_1054, g128_1054, g137_1054, x117_1054, x120_1054, x131_1054⟩ := x9
    obtain ⟨hS, hD, hP, hfh_1054_98, hfh_1054_100, hfh_1054_102, hfh_1054_104, hfh_1054_105, hfh_1054_117, hfh_1054_118, hfh_1054_119, hfh_1054_120, hfh_1054_127, hfh_1054_128, hfh_1054_129, hfh_1054_130, hfh_1054_131, hfh_1054_132, hfh_1054_134, hfh_1054_136, hfh_1054_137, hlh_1054, hrh_1054, hz9, hsp⟩ := hJ9
    replace hS : va_S A s.heap H locs := hS
    replace hD : va_D A [(h0, .inr (13, z1054)), (qf100, .inl (cf100, 48000, .inl f100)), (qf128, .inl (cf128, 31, .inl g128_1054)), (qf127, .inl (cf127, 30, .inl g127_1054)), (qf104, .inl (cf104, 8, .inl f104)), (qf102, .inl (cf102, 2048, .inl f102)), (qf118, .inl (cf118, 2100, .inl g118_1054)), (qf119, .inl (cf119, 2100, .inl g119_1054)), (qf105, .inl (cf105, 8, .inl f105)), (qf137, .inl (cf137, 6, .inl g137_1054))] := hD
    replace hP : va_P (dC, dI) vwCl [(h0, .inr (13, z1054)), (qf100, .inl (cf100, 48000, .inl f100)), (qf128, .inl (cf128, 31, .inl g128_1054)), (qf127, .inl (cf127, 30, .inl g127_1054)), (qf104, .inl (cf104, 8, .inl f104)), (qf102, .inl (cf102, 2048, .inl f102)), (qf118, .inl (cf118, 2100, .inl g118_1054)), (qf119, .inl (cf119, 2100, .inl g119_1054)), (qf105, .inl (cf105, 8, .inl f105)), (qf137, .inl (cf137, 6, .inl g137_1054))] H := hP
    replace hsp : some (rr_1054, g118_1054, g119_1054, g127_1054, g128_1054, g137_1054, x117_1054, x120_1054, x131_1054) = some (r0, o118, o119, o127, o128, o137, w117, w120, w131) := hsp
    show W _ _ _ _ _ _ _ _ _ _ H locs _ _ _ (F0 m 1054 ls [.int rr_1054])
    rcases hz9 with rfl | rfl
    · skip
      have hr0 := Option.some.inj hsp
      clear hsp
      obtain ⟨hq0, hr1⟩ := Prod.mk.inj hr0
      clear hr0
      obtain ⟨hq1, hr2⟩ := Prod.mk.inj hr1
      clear hr1
      obtain ⟨hq2, hr3⟩ := Prod.mk.inj hr2
      clear hr2
      obtain ⟨hq3, hr4⟩ := Prod.mk.inj hr3
      clear hr3
      obtain ⟨hq4, hr5⟩ := Prod.mk.inj hr4
      clear hr4
      obtain ⟨hq5, hr6⟩ := Prod.mk.inj hr5
      clear hr5
      obtain ⟨hq6, hr7⟩ := Prod.mk.inj hr6
      clear hr6
      obtain ⟨hq7, hr8⟩ := Prod.mk.inj hr7
      clear hr7
      subst hq0
      subst hq1
      subst hq2
      subst hq3
      subst hq4
      subst hq5
      subst hq6
      subst hq7
      subst hr8
      have hP9 := hP.sub (ws' := [(h0, .inr (13, z1054)), (qf100, .inl (cf100, 48000, .inl f100)), (qf128, .inl (cf128, 31, .inl g128_1054)), (qf127, .inl (cf127, 30, .inl g127_1054)), (qf104, .inl (cf104, 8, .inl f104)), (qf102, .inl (cf102, 2048, .inl f102)), (qf118, .inl (cf118, 2100, .inl g118_1054)), (qf119, .inl (cf119, 2100, .inl g119_1054)), (qf105, .inl (cf105, 8, .inl f105)), (qf137, .inl (cf137, 6, .inl g137_1054))]) [0, 1, 2, 3, 4, 5, 6, 7, 8, 9] rfl
      have hD9 := hD.sub (ws' := [(h0, .inr (13, z1054)), (qf100, .inl (cf100, 48000, .inl f100)), (qf128, .inl (cf128, 31, .inl g128_1054)), (qf127, .inl (cf127, 30, .inl g127_1054)), (qf104, .inl (cf104, 8, .inl f104)), (qf102, .inl (cf102, 2048, .inl f102)), (qf118, .inl (cf118, 2100, .inl g118_1054)), (qf119, .inl (cf119, 2100, .inl g119_1054)), (qf105, .inl (cf105, 8, .inl f105)), (qf137, .inl (cf137, 6, .inl g137_1054))]) [0, 1, 2, 3, 4, 5, 6, 7, 8, 9] (by decide) rfl
      have hK9 := hK.sub (tys' := [(cf100, .int), (cf128, .int), (cf127, .int), (cf104, .int), (cf102, .int), (cf118, .int), (cf119, .int), (cf105, .int), (cf137, .int)]) [0, 1, 2, 3, 4, 5, 6, 7, 8] rfl
      exact W.zret hx hb hr (by decide) (fun t ht hW => ⟨⟨(0), (z1054), rfl, ⟨⟨rfl, Or.inl rfl⟩, hlh_1054, hrh_1054, hfh_1054_117, hfh_1054_120, hfh_1054_131⟩, by rw [ht]; exact hP9, va_K.moved hW.alike hK9, hD9⟩, hS.F ht⟩) hS.2.2 dX13_wanted_1054
    · skip
      have hr0 := Option.some.inj hsp
      clear hsp
      obtain ⟨hq0, hr1⟩ := Prod.mk.inj hr0
      clear hr0
      obtain ⟨hq1, hr2⟩ := Prod.mk.inj hr1
      clear hr1
      obtain ⟨hq2, hr3⟩ := Prod.mk.inj hr2
      clear hr2
      obtain ⟨hq3, hr4⟩ := Prod.mk.inj hr3
      clear hr3
      obtain ⟨hq4, hr5⟩ := Prod.mk.inj hr4
      clear hr4
      obtain ⟨hq5, hr6⟩ := Prod.mk.inj hr5
      clear hr5
      obtain ⟨hq6, hr7⟩ := Prod.mk.inj hr6
      clear hr6
      obtain ⟨hq7, hr8⟩ := Prod.mk.inj hr7
      clear hr7
      subst hq0
      subst hq1
      subst hq2
      subst hq3
      subst hq4
      subst hq5
      subst hq6
      subst hq7
      subst hr8
      have hP9 := hP.sub (ws' := [(h0, .inr (13, z1054)), (qf100, .inl (cf100, 48000, .inl f100)), (qf128, .inl (cf128, 31, .inl g128_1054)), (qf127, .inl (cf127, 30, .inl g127_1054)), (qf104, .inl (cf104, 8, .inl f104)), (qf102, .inl (cf102, 2048, .inl f102)), (qf118, .inl (cf118, 2100, .inl g118_1054)), (qf119, .inl (cf119, 2100, .inl g119_1054)), (qf105, .inl (cf105, 8, .inl f105)), (qf137, .inl (cf137, 6, .inl g137_1054))]) [0, 1, 2, 3, 4, 5, 6, 7, 8, 9] rfl
      have hD9 := hD.sub (ws' := [(h0, .inr (13, z1054)), (qf100, .inl (cf100, 48000, .inl f100)), (qf128, .inl (cf128, 31, .inl g128_1054)), (qf127, .inl (cf127, 30, .inl g127_1054)), (qf104, .inl (cf104, 8, .inl f104)), (qf102, .inl (cf102, 2048, .inl f102)), (qf118, .inl (cf118, 2100, .inl g118_1054)), (qf119, .inl (cf119, 2100, .inl g119_1054)), (qf105, .inl (cf105, 8, .inl f105)), (qf137, .inl (cf137, 6, .inl g137_1054))]) [0, 1, 2, 3, 4, 5, 6, 7, 8, 9] (by decide) rfl
      have hK9 := hK.sub (tys' := [(cf100, .int), (cf128, .int), (cf127, .int), (cf104, .int), (cf102, .int), (cf118, .int), (cf119, .int), (cf105, .int), (cf137, .int)]) [0, 1, 2, 3, 4, 5, 6, 7, 8] rfl
      exact W.zret hx hb hr (by decide) (fun t ht hW => ⟨⟨(1), (z1054), rfl, ⟨⟨rfl, Or.inr rfl⟩, hlh_1054, hrh_1054, hfh_1054_117, hfh_1054_120, hfh_1054_131⟩, by rw [ht]; exact hP9, va_K.moved hW.alike hK9, hD9⟩, hS.F ht⟩) hS.2.2 dX13_wanted_1054
  intro hret_1054
  refine jn_use (α := Heap × List Loc × Array Slot × List Value × Int32 × (Nat → Int32) × (Nat → Int32) × (Nat → Int32) × (Nat → Int32) × (Nat → Int32) × Int32 × Int32 × Int32) (fun x9 => x9.1) (fun x9 => x9.2.1) (fun x9 => F0 m 1064 x9.2.2.1 [.int (x9.2.2.2.2.1)]) (fun x9 => match x9 with | (H, locs, ls, z1064, rr_1064, g118_1064, g119_1064, g127_1064, g128_1064, g137_1064, x117_1064, x120_1064, x131_1064) => va_S A s.heap H locs ∧ va_D A [(h0, .inr (13, z1064)), (qf100, .inl (cf100, 48000, .inl f100)), (qf128, .inl (cf128, 31, .inl g128_1064)), (qf127, .inl (cf127, 30, .inl g127_1064)), (qf104, .inl (cf104, 8, .inl f104)), (qf102, .inl (cf102, 2048, .inl f102)), (qf118, .inl (cf118, 2100, .inl g118_1064)), (qf119, .inl (cf119, 2100, .inl g119_1064)), (qf105, .inl (cf105, 8, .inl f105)), (qf137, .inl (cf137, 6, .inl g137_1064))] ∧ va_P (dC, dI) vwCl [(h0, .inr (13, z1064)), (qf100, .inl (cf100, 48000, .inl f100)), (qf128, .inl (cf128, 31, .inl g128_1064)), (qf127, .inl (cf127, 30, .inl g127_1064)), (qf104, .inl (cf104, 8, .inl f104)), (qf102, .inl (cf102, 2048, .inl f102)), (qf118, .inl (cf118, 2100, .inl g118_1064)), (qf119, .inl (cf119, 2100, .inl g119_1064)), (qf105, .inl (cf105, 8, .inl f105)), (qf137, .inl (cf137, 6, .inl g137_1064))] H ∧ z1064[98]? = some (.int v98) ∧ z1064[100]? = some (.ref qf100) ∧ z1064[102]? = some (.ref qf102) ∧ z1064[104]? = some (.ref qf104) ∧ z1064[105]? = some (.ref qf105) ∧ z1064[117]? = some (.int x117_1064) ∧ z1064[118]? = some (.ref qf118) ∧ z1064[119]? = some (.ref qf119) ∧ z1064[120]? = some (.int x120_1064) ∧ z1064[127]? = some (.ref qf127) ∧ z1064[128]? = some (.ref qf128) ∧ z1064[129]? = some (.int v129) ∧ z1064[130]? = some (.int v130) ∧ z1064[131]? = some (.int x131_1064) ∧ z1064[132]? = some (.int v132) ∧ z1064[134]? = some (.int v134) ∧ z1064[136]? = some (.int v136) ∧ z1064[137]? = some (.ref qf137) ∧ z1064.length = 155 ∧ (∀ j : Nat, j ≠ 117 → j ≠ 120 → j ≠ 131 → z1064[j]? = zs[j]?) ∧ (rr_1064 = 0 ∨ rr_1064 = 1) ∧ some (rr_1064, g118_1064, g119_1064, g127_1064, g128_1064, g137_1064, x117_1064, x120_1064, x131_1064) = some (r0, o118, o119, o127, o128, o137, w117, w120, w131)) ?_ ?_
  · intro x9 hJ9
    obtain ⟨H, locs, ls, z1064, rr_1064, g118_1064, g119_1064, g127_1064, g128_1064, g137_1064, x117_1064, x120_1064, x131_1064⟩ := x9
    obtain ⟨hS, hD, hP, hfh_1064_98, hfh_1064_100, hfh_1064_102, hfh_1064_104, hfh_1064_105, hfh_1064_117, hfh_1064_118, hfh_1064_119, hfh_1064_120, hfh_1064_127, hfh_1064_128, hfh_1064_129, hfh_1064_130, hfh_1064_131, hfh_1064_132, hfh_1064_134, hfh_1064_136, hfh_1064_137, hlh_1064, hrh_1064, hz9, hsp⟩ := hJ9
    replace hS : va_S A s.heap H locs := hS
    replace hD : va_D A [(h0, .inr (13, z1064)), (qf100, .inl (cf100, 48000, .inl f100)), (qf128, .inl (cf128, 31, .inl g128_1064)), (qf127, .inl (cf127, 30, .inl g127_1064)), (qf104, .inl (cf104, 8, .inl f104)), (qf102, .inl (cf102, 2048, .inl f102)), (qf118, .inl (cf118, 2100, .inl g118_1064)), (qf119, .inl (cf119, 2100, .inl g119_1064)), (qf105, .inl (cf105, 8, .inl f105)), (qf137, .inl (cf137, 6, .inl g137_1064))] := hD
    replace hP : va_P (dC, dI) vwCl [(h0, .inr (13, z1064)), (qf100, .inl (cf100, 48000, .inl f100)), (qf128, .inl (cf128, 31, .inl g128_1064)), (qf127, .inl (cf127, 30, .inl g127_1064)), (qf104, .inl (cf104, 8, .inl f104)), (qf102, .inl (cf102, 2048, .inl f102)), (qf118, .inl (cf118, 2100, .inl g118_1064)), (qf119, .inl (cf119, 2100, .inl g119_1064)), (qf105, .inl (cf105, 8, .inl f105)), (qf137, .inl (cf137, 6, .inl g137_1064))] H := hP
    replace hsp : some (rr_1064, g118_1064, g119_1064, g127_1064, g128_1064, g137_1064, x117_1064, x120_1064, x131_1064) = some (r0, o118, o119, o127, o128, o137, w117, w120, w131) := hsp
    show W _ _ _ _ _ _ _ _ _ _ H locs _ _ _ (F0 m 1064 ls [.int rr_1064])
    rcases hz9 with rfl | rfl
    · skip
      have hr0 := Option.some.inj hsp
      clear hsp
      obtain ⟨hq0, hr1⟩ := Prod.mk.inj hr0
      clear hr0
      obtain ⟨hq1, hr2⟩ := Prod.mk.inj hr1
      clear hr1
      obtain ⟨hq2, hr3⟩ := Prod.mk.inj hr2
      clear hr2
      obtain ⟨hq3, hr4⟩ := Prod.mk.inj hr3
      clear hr3
      obtain ⟨hq4, hr5⟩ := Prod.mk.inj hr4
      clear hr4
      obtain ⟨hq5, hr6⟩ := Prod.mk.inj hr5
      clear hr5
      obtain ⟨hq6, hr7⟩ := Prod.mk.inj hr6
      clear hr6
      obtain ⟨hq7, hr8⟩ := Prod.mk.inj hr7
      clear hr7
      subst hq0
      subst hq1
      subst hq2
      subst hq3
      subst hq4
      subst hq5
      subst hq6
      subst hq7
      subst hr8
      have hP9 := hP.sub (ws' := [(h0, .inr (13, z1064)), (qf100, .inl (cf100, 48000, .inl f100)), (qf128, .inl (cf128, 31, .inl g128_1064)), (qf127, .inl (cf127, 30, .inl g127_1064)), (qf104, .inl (cf104, 8, .inl f104)), (qf102, .inl (cf102, 2048, .inl f102)), (qf118, .inl (cf118, 2100, .inl g118_1064)), (qf119, .inl (cf119, 2100, .inl g119_1064)), (qf105, .inl (cf105, 8, .inl f105)), (qf137, .inl (cf137, 6, .inl g137_1064))]) [0, 1, 2, 3, 4, 5, 6, 7, 8, 9] rfl
      have hD9 := hD.sub (ws' := [(h0, .inr (13, z1064)), (qf100, .inl (cf100, 48000, .inl f100)), (qf128, .inl (cf128, 31, .inl g128_1064)), (qf127, .inl (cf127, 30, .inl g127_1064)), (qf104, .inl (cf104, 8, .inl f104)), (qf102, .inl (cf102, 2048, .inl f102)), (qf118, .inl (cf118, 2100, .inl g118_1064)), (qf119, .inl (cf119, 2100, .inl g119_1064)), (qf105, .inl (cf105, 8, .inl f105)), (qf137, .inl (cf137, 6, .inl g137_1064))]) [0, 1, 2, 3, 4, 5, 6, 7, 8, 9] (by decide) rfl
      have hK9 := hK.sub (tys' := [(cf100, .int), (cf128, .int), (cf127, .int), (cf104, .int), (cf102, .int), (cf118, .int), (cf119, .int), (cf105, .int), (cf137, .int)]) [0, 1, 2, 3, 4, 5, 6, 7, 8] rfl
      exact W.zret hx hb hr (by decide) (fun t ht hW => ⟨⟨(0), (z1064), rfl, ⟨⟨rfl, Or.inl rfl⟩, hlh_1064, hrh_1064, hfh_1064_117, hfh_1064_120, hfh_1064_131⟩, by rw [ht]; exact hP9, va_K.moved hW.alike hK9, hD9⟩, hS.F ht⟩) hS.2.2 dX13_wanted_1064
    · skip
      have hr0 := Option.some.inj hsp
      clear hsp
      obtain ⟨hq0, hr1⟩ := Prod.mk.inj hr0
      clear hr0
      obtain ⟨hq1, hr2⟩ := Prod.mk.inj hr1
      clear hr1
      obtain ⟨hq2, hr3⟩ := Prod.mk.inj hr2
      clear hr2
      obtain ⟨hq3, hr4⟩ := Prod.mk.inj hr3
      clear hr3
      obtain ⟨hq4, hr5⟩ := Prod.mk.inj hr4
      clear hr4
      obtain ⟨hq5, hr6⟩ := Prod.mk.inj hr5
      clear hr5
      obtain ⟨hq6, hr7⟩ := Prod.mk.inj hr6
      clear hr6
      obtain ⟨hq7, hr8⟩ := Prod.mk.inj hr7
      clear hr7
      subst hq0
      subst hq1
      subst hq2
      subst hq3
      subst hq4
      subst hq5
      subst hq6
      subst hq7
      subst hr8
      have hP9 := hP.sub (ws' := [(h0, .inr (13, z1064)), (qf100, .inl (cf100, 48000, .inl f100)), (qf128, .inl (cf128, 31, .inl g128_1064)), (qf127, .inl (cf127, 30, .inl g127_1064)), (qf104, .inl (cf104, 8, .inl f104)), (qf102, .inl (cf102, 2048, .inl f102)), (qf118, .inl (cf118, 2100, .inl g118_1064)), (qf119, .inl (cf119, 2100, .inl g119_1064)), (qf105, .inl (cf105, 8, .inl f105)), (qf137, .inl (cf137, 6, .inl g137_1064))]) [0, 1, 2, 3, 4, 5, 6, 7, 8, 9] rfl
      have hD9 := hD.sub (ws' := [(h0, .inr (13, z1064)), (qf100, .inl (cf100, 48000, .inl f100)), (qf128, .inl (cf128, 31, .inl g128_1064)), (qf127, .inl (cf127, 30, .inl g127_1064)), (qf104, .inl (cf104, 8, .inl f104)), (qf102, .inl (cf102, 2048, .inl f102)), (qf118, .inl (cf118, 2100, .inl g118_1064)), (qf119, .inl (cf119, 2100, .inl g119_1064)), (qf105, .inl (cf105, 8, .inl f105)), (qf137, .inl (cf137, 6, .inl g137_1064))]) [0, 1, 2, 3, 4, 5, 6, 7, 8, 9] (by decide) rfl
      have hK9 := hK.sub (tys' := [(cf100, .int), (cf128, .int), (cf127, .int), (cf104, .int), (cf102, .int), (cf118, .int), (cf119, .int), (cf105, .int), (cf137, .int)]) [0, 1, 2, 3, 4, 5, 6, 7, 8] rfl
      exact W.zret hx hb hr (by decide) (fun t ht hW => ⟨⟨(1), (z1064), rfl, ⟨⟨rfl, Or.inr rfl⟩, hlh_1064, hrh_1064, hfh_1064_117, hfh_1064_120, hfh_1064_131⟩, by rw [ht]; exact hP9, va_K.moved hW.alike hK9, hD9⟩, hS.F ht⟩) hS.2.2 dX13_wanted_1064
  intro hret_1064
  refine jn_use (α := Heap × List Loc × Array Slot × List Value × Int32 × (Nat → Int32) × (Nat → Int32) × (Nat → Int32) × (Nat → Int32) × (Nat → Int32) × Int32 × Int32 × Int32) (fun x9 => x9.1) (fun x9 => x9.2.1) (fun x9 => F0 m 1088 x9.2.2.1 [.int (x9.2.2.2.2.1)]) (fun x9 => match x9 with | (H, locs, ls, z1088, rr_1088, g118_1088, g119_1088, g127_1088, g128_1088, g137_1088, x117_1088, x120_1088, x131_1088) => va_S A s.heap H locs ∧ va_D A [(h0, .inr (13, z1088)), (qf100, .inl (cf100, 48000, .inl f100)), (qf128, .inl (cf128, 31, .inl g128_1088)), (qf127, .inl (cf127, 30, .inl g127_1088)), (qf104, .inl (cf104, 8, .inl f104)), (qf102, .inl (cf102, 2048, .inl f102)), (qf118, .inl (cf118, 2100, .inl g118_1088)), (qf119, .inl (cf119, 2100, .inl g119_1088)), (qf105, .inl (cf105, 8, .inl f105)), (qf137, .inl (cf137, 6, .inl g137_1088))] ∧ va_P (dC, dI) vwCl [(h0, .inr (13, z1088)), (qf100, .inl (cf100, 48000, .inl f100)), (qf128, .inl (cf128, 31, .inl g128_1088)), (qf127, .inl (cf127, 30, .inl g127_1088)), (qf104, .inl (cf104, 8, .inl f104)), (qf102, .inl (cf102, 2048, .inl f102)), (qf118, .inl (cf118, 2100, .inl g118_1088)), (qf119, .inl (cf119, 2100, .inl g119_1088)), (qf105, .inl (cf105, 8, .inl f105)), (qf137, .inl (cf137, 6, .inl g137_1088))] H ∧ z1088[98]? = some (.int v98) ∧ z1088[100]? = some (.ref qf100) ∧ z1088[102]? = some (.ref qf102) ∧ z1088[104]? = some (.ref qf104) ∧ z1088[105]? = some (.ref qf105) ∧ z1088[117]? = some (.int x117_1088) ∧ z1088[118]? = some (.ref qf118) ∧ z1088[119]? = some (.ref qf119) ∧ z1088[120]? = some (.int x120_1088) ∧ z1088[127]? = some (.ref qf127) ∧ z1088[128]? = some (.ref qf128) ∧ z1088[129]? = some (.int v129) ∧ z1088[130]? = some (.int v130) ∧ z1088[131]? = some (.int x131_1088) ∧ z1088[132]? = some (.int v132) ∧ z1088[134]? = some (.int v134) ∧ z1088[136]? = some (.int v136) ∧ z1088[137]? = some (.ref qf137) ∧ z1088.length = 155 ∧ (∀ j : Nat, j ≠ 117 → j ≠ 120 → j ≠ 131 → z1088[j]? = zs[j]?) ∧ (rr_1088 = 0 ∨ rr_1088 = 1) ∧ some (rr_1088, g118_1088, g119_1088, g127_1088, g128_1088, g137_1088, x117_1088, x120_1088, x131_1088) = some (r0, o118, o119, o127, o128, o137, w117, w120, w131)) ?_ ?_
  · intro x9 hJ9
    obtain ⟨H, locs, ls, z1088, rr_1088, g118_1088, g119_1088, g127_1088, g128_1088, g137_1088, x117_1088, x120_1088, x131_1088⟩ := x9
    obtain ⟨hS, hD, hP, hfh_1088_98, hfh_1088_100, hfh_1088_102, hfh_1088_104, hfh_1088_105, hfh_1088_117, hfh_1088_118, hfh_1088_119, hfh_1088_120, hfh_1088_127, hfh_1088_128, hfh_1088_129, hfh_1088_130, hfh_1088_131, hfh_1088_132, hfh_1088_134, hfh_1088_136, hfh_1088_137, hlh_1088, hrh_1088, hz9, hsp⟩ := hJ9
    replace hS : va_S A s.heap H locs := hS
    replace hD : va_D A [(h0, .inr (13, z1088)), (qf100, .inl (cf100, 48000, .inl f100)), (qf128, .inl (cf128, 31, .inl g128_1088)), (qf127, .inl (cf127, 30, .inl g127_1088)), (qf104, .inl (cf104, 8, .inl f104)), (qf102, .inl (cf102, 2048, .inl f102)), (qf118, .inl (cf118, 2100, .inl g118_1088)), (qf119, .inl (cf119, 2100, .inl g119_1088)), (qf105, .inl (cf105, 8, .inl f105)), (qf137, .inl (cf137, 6, .inl g137_1088))] := hD
    replace hP : va_P (dC, dI) vwCl [(h0, .inr (13, z1088)), (qf100, .inl (cf100, 48000, .inl f100)), (qf128, .inl (cf128, 31, .inl g128_1088)), (qf127, .inl (cf127, 30, .inl g127_1088)), (qf104, .inl (cf104, 8, .inl f104)), (qf102, .inl (cf102, 2048, .inl f102)), (qf118, .inl (cf118, 2100, .inl g118_1088)), (qf119, .inl (cf119, 2100, .inl g119_1088)), (qf105, .inl (cf105, 8, .inl f105)), (qf137, .inl (cf137, 6, .inl g137_1088))] H := hP
    replace hsp : some (rr_1088, g118_1088, g119_1088, g127_1088, g128_1088, g137_1088, x117_1088, x120_1088, x131_1088) = some (r0, o118, o119, o127, o128, o137, w117, w120, w131) := hsp
    show W _ _ _ _ _ _ _ _ _ _ H locs _ _ _ (F0 m 1088 ls [.int rr_1088])
    rcases hz9 with rfl | rfl
    · skip
      have hr0 := Option.some.inj hsp
      clear hsp
      obtain ⟨hq0, hr1⟩ := Prod.mk.inj hr0
      clear hr0
      obtain ⟨hq1, hr2⟩ := Prod.mk.inj hr1
      clear hr1
      obtain ⟨hq2, hr3⟩ := Prod.mk.inj hr2
      clear hr2
      obtain ⟨hq3, hr4⟩ := Prod.mk.inj hr3
      clear hr3
      obtain ⟨hq4, hr5⟩ := Prod.mk.inj hr4
      clear hr4
      obtain ⟨hq5, hr6⟩ := Prod.mk.inj hr5
      clear hr5
      obtain ⟨hq6, hr7⟩ := Prod.mk.inj hr6
      clear hr6
      obtain ⟨hq7, hr8⟩ := Prod.mk.inj hr7
      clear hr7
      subst hq0
      subst hq1
      subst hq2
      subst hq3
      subst hq4
      subst hq5
      subst hq6
      subst hq7
      subst hr8
      have hP9 := hP.sub (ws' := [(h0, .inr (13, z1088)), (qf100, .inl (cf100, 48000, .inl f100)), (qf128, .inl (cf128, 31, .inl g128_1088)), (qf127, .inl (cf127, 30, .inl g127_1088)), (qf104, .inl (cf104, 8, .inl f104)), (qf102, .inl (cf102, 2048, .inl f102)), (qf118, .inl (cf118, 2100, .inl g118_1088)), (qf119, .inl (cf119, 2100, .inl g119_1088)), (qf105, .inl (cf105, 8, .inl f105)), (qf137, .inl (cf137, 6, .inl g137_1088))]) [0, 1, 2, 3, 4, 5, 6, 7, 8, 9] rfl
      have hD9 := hD.sub (ws' := [(h0, .inr (13, z1088)), (qf100, .inl (cf100, 48000, .inl f100)), (qf128, .inl (cf128, 31, .inl g128_1088)), (qf127, .inl (cf127, 30, .inl g127_1088)), (qf104, .inl (cf104, 8, .inl f104)), (qf102, .inl (cf102, 2048, .inl f102)), (qf118, .inl (cf118, 2100, .inl g118_1088)), (qf119, .inl (cf119, 2100, .inl g119_1088)), (qf105, .inl (cf105, 8, .inl f105)), (qf137, .inl (cf137, 6, .inl g137_1088))]) [0, 1, 2, 3, 4, 5, 6, 7, 8, 9] (by decide) rfl
      have hK9 := hK.sub (tys' := [(cf100, .int), (cf128, .int), (cf127, .int), (cf104, .int), (cf102, .int), (cf118, .int), (cf119, .int), (cf105, .int), (cf137, .int)]) [0, 1, 2, 3, 4, 5, 6, 7, 8] rfl
      exact W.zret hx hb hr (by decide) (fun t ht hW => ⟨⟨(0), (z1088), rfl, ⟨⟨rfl, Or.inl rfl⟩, hlh_1088, hrh_1088, hfh_1088_117, hfh_1088_120, hfh_1088_131⟩, by rw [ht]; exact hP9, va_K.moved hW.alike hK9, hD9⟩, hS.F ht⟩) hS.2.2 dX13_wanted_1088
    · skip
      have hr0 := Option.some.inj hsp
      clear hsp
      obtain ⟨hq0, hr1⟩ := Prod.mk.inj hr0
      clear hr0
      obtain ⟨hq1, hr2⟩ := Prod.mk.inj hr1
      clear hr1
      obtain ⟨hq2, hr3⟩ := Prod.mk.inj hr2
      clear hr2
      obtain ⟨hq3, hr4⟩ := Prod.mk.inj hr3
      clear hr3
      obtain ⟨hq4, hr5⟩ := Prod.mk.inj hr4
      clear hr4
      obtain ⟨hq5, hr6⟩ := Prod.mk.inj hr5
      clear hr5
      obtain ⟨hq6, hr7⟩ := Prod.mk.inj hr6
      clear hr6
      obtain ⟨hq7, hr8⟩ := Prod.mk.inj hr7
      clear hr7
      subst hq0
      subst hq1
      subst hq2
      subst hq3
      subst hq4
      subst hq5
      subst hq6
      subst hq7
      subst hr8
      have hP9 := hP.sub (ws' := [(h0, .inr (13, z1088)), (qf100, .inl (cf100, 48000, .inl f100)), (qf128, .inl (cf128, 31, .inl g128_1088)), (qf127, .inl (cf127, 30, .inl g127_1088)), (qf104, .inl (cf104, 8, .inl f104)), (qf102, .inl (cf102, 2048, .inl f102)), (qf118, .inl (cf118, 2100, .inl g118_1088)), (qf119, .inl (cf119, 2100, .inl g119_1088)), (qf105, .inl (cf105, 8, .inl f105)), (qf137, .inl (cf137, 6, .inl g137_1088))]) [0, 1, 2, 3, 4, 5, 6, 7, 8, 9] rfl
      have hD9 := hD.sub (ws' := [(h0, .inr (13, z1088)), (qf100, .inl (cf100, 48000, .inl f100)), (qf128, .inl (cf128, 31, .inl g128_1088)), (qf127, .inl (cf127, 30, .inl g127_1088)), (qf104, .inl (cf104, 8, .inl f104)), (qf102, .inl (cf102, 2048, .inl f102)), (qf118, .inl (cf118, 2100, .inl g118_1088)), (qf119, .inl (cf119, 2100, .inl g119_1088)), (qf105, .inl (cf105, 8, .inl f105)), (qf137, .inl (cf137, 6, .inl g137_1088))]) [0, 1, 2, 3, 4, 5, 6, 7, 8, 9] (by decide) rfl
      have hK9 := hK.sub (tys' := [(cf100, .int), (cf128, .int), (cf127, .int), (cf104, .int), (cf102, .int), (cf118, .int), (cf119, .int), (cf105, .int), (cf137, .int)]) [0, 1, 2, 3, 4, 5, 6, 7, 8] rfl
      exact W.zret hx hb hr (by decide) (fun t ht hW => ⟨⟨(1), (z1088), rfl, ⟨⟨rfl, Or.inr rfl⟩, hlh_1088, hrh_1088, hfh_1088_117, hfh_1088_120, hfh_1088_131⟩, by rw [ht]; exact hP9, va_K.moved hW.alike hK9, hD9⟩, hS.F ht⟩) hS.2.2 dX13_wanted_1088
  intro hret_1088
  refine jn_use (α := Heap × List Loc × Array Slot × List Value × Int32 × (Nat → Int32) × (Nat → Int32) × (Nat → Int32) × (Nat → Int32) × (Nat → Int32) × Int32 × Int32 × Int32) (fun x9 => x9.1) (fun x9 => x9.2.1) (fun x9 => F0 m 1105 x9.2.2.1 [.int (x9.2.2.2.2.1)]) (fun x9 => match x9 with | (H, locs, ls, z1105, rr_1105, g118_1105, g119_1105, g127_1105, g128_1105, g137_1105, x117_1105, x120_1105, x131_1105) => va_S A s.heap H locs ∧ va_D A [(h0, .inr (13, z1105)), (qf100, .inl (cf100, 48000, .inl f100)), (qf128, .inl (cf128, 31, .inl g128_1105)), (qf127, .inl (cf127, 30, .inl g127_1105)), (qf104, .inl (cf104, 8, .inl f104)), (qf102, .inl (cf102, 2048, .inl f102)), (qf118, .inl (cf118, 2100, .inl g118_1105)), (qf119, .inl (cf119, 2100, .inl g119_1105)), (qf105, .inl (cf105, 8, .inl f105)), (qf137, .inl (cf137, 6, .inl g137_1105))] ∧ va_P (dC, dI) vwCl [(h0, .inr (13, z1105)), (qf100, .inl (cf100, 48000, .inl f100)), (qf128, .inl (cf128, 31, .inl g128_1105)), (qf127, .inl (cf127, 30, .inl g127_1105)), (qf104, .inl (cf104, 8, .inl f104)), (qf102, .inl (cf102, 2048, .inl f102)), (qf118, .inl (cf118, 2100, .inl g118_1105)), (qf119, .inl (cf119, 2100, .inl g119_1105)), (qf105, .inl (cf105, 8, .inl f105)), (qf137, .inl (cf137, 6, .inl g137_1105))] H ∧ z1105[98]? = some (.int v98) ∧ z1105[100]? = some (.ref qf100) ∧ z1105[102]? = some (.ref qf102) ∧ z1105[104]? = some (.ref qf104) ∧ z1105[105]? = some (.ref qf105) ∧ z1105[117]? = some (.int x117_1105) ∧ z1105[118]? = some (.ref qf118) ∧ z1105[119]? = some (.ref qf119) ∧ z1105[120]? = some (.int x120_1105) ∧ z1105[127]? = some (.ref qf127) ∧ z1105[128]? = some (.ref qf128) ∧ z1105[129]? = some (.int v129) ∧ z1105[130]? = some (.int v130) ∧ z1105[131]? = some (.int x131_1105) ∧ z1105[132]? = some (.int v132) ∧ z1105[134]? = some (.int v134) ∧ z1105[136]? = some (.int v136) ∧ z1105[137]? = some (.ref qf137) ∧ z1105.length = 155 ∧ (∀ j : Nat, j ≠ 117 → j ≠ 120 → j ≠ 131 → z1105[j]? = zs[j]?) ∧ (rr_1105 = 0 ∨ rr_1105 = 1) ∧ some (rr_1105, g118_1105, g119_1105, g127_1105, g128_1105, g137_1105, x117_1105, x120_1105, x131_1105) = some (r0, o118, o119, o127, o128, o137, w117, w120, w131)) ?_ ?_
  · intro x9 hJ9
    obtain ⟨H, locs, ls, z1105, rr_1105, g118_1105, g119_1105, g127_1105, g128_1105, g137_1105, x117_1105, x120_1105, x131_1105⟩ := x9
    obtain ⟨hS, hD, hP, hfh_1105_98, hfh_1105_100, hfh_1105_102, hfh_1105_104, hfh_1105_105, hfh_1105_117, hfh_1105_118, hfh_1105_119, hfh_1105_120, hfh_1105_127, hfh_1105_128, hfh_1105_129, hfh_1105_130, hfh_1105_131, hfh_1105_132, hfh_1105_134, hfh_1105_136, hfh_1105_137, hlh_1105, hrh_1105, hz9, hsp⟩ := hJ9
    replace hS : va_S A s.heap H locs := hS
    replace hD : va_D A [(h0, .inr (13, z1105)), (qf100, .inl (cf100, 48000, .inl f100)), (qf128, .inl (cf128, 31, .inl g128_1105)), (qf127, .inl (cf127, 30, .inl g127_1105)), (qf104, .inl (cf104, 8, .inl f104)), (qf102, .inl (cf102, 2048, .inl f102)), (qf118, .inl (cf118, 2100, .inl g118_1105)), (qf119, .inl (cf119, 2100, .inl g119_1105)), (qf105, .inl (cf105, 8, .inl f105)), (qf137, .inl (cf137, 6, .inl g137_1105))] := hD
    replace hP : va_P (dC, dI) vwCl [(h0, .inr (13, z1105)), (qf100, .inl (cf100, 48000, .inl f100)), (qf128, .inl (cf128, 31, .inl g128_1105)), (qf127, .inl (cf127, 30, .inl g127_1105)), (qf104, .inl (cf104, 8, .inl f104)), (qf102, .inl (cf102, 2048, .inl f102)), (qf118, .inl (cf118, 2100, .inl g118_1105)), (qf119, .inl (cf119, 2100, .inl g119_1105)), (qf105, .inl (cf105, 8, .inl f105)), (qf137, .inl (cf137, 6, .inl g137_1105))] H := hP
    replace hsp : some (rr_1105, g118_1105, g119_1105, g127_1105, g128_1105, g137_1105, x117_1105, x120_1105, x131_1105) = some (r0, o118, o119, o127, o128, o137, w117, w120, w131) := hsp
    show W _ _ _ _ _ _ _ _ _ _ H locs _ _ _ (F0 m 1105 ls [.int rr_1105])
    rcases hz9 with rfl | rfl
    · skip
      have hr0 := Option.some.inj hsp
      clear hsp
      obtain ⟨hq0, hr1⟩ := Prod.mk.inj hr0
      clear hr0
      obtain ⟨hq1, hr2⟩ := Prod.mk.inj hr1
      clear hr1
      obtain ⟨hq2, hr3⟩ := Prod.mk.inj hr2
      clear hr2
      obtain ⟨hq3, hr4⟩ := Prod.mk.inj hr3
      clear hr3
      obtain ⟨hq4, hr5⟩ := Prod.mk.inj hr4
      clear hr4
      obtain ⟨hq5, hr6⟩ := Prod.mk.inj hr5
      clear hr5
      obtain ⟨hq6, hr7⟩ := Prod.mk.inj hr6
      clear hr6
      obtain ⟨hq7, hr8⟩ := Prod.mk.inj hr7
      clear hr7
      subst hq0
      subst hq1
      subst hq2
      subst hq3
      subst hq4
      subst hq5
      subst hq6
      subst hq7
      subst hr8
      have hP9 := hP.sub (ws' := [(h0, .inr (13, z1105)), (qf100, .inl (cf100, 48000, .inl f100)), (qf128, .inl (cf128, 31, .inl g128_1105)), (qf127, .inl (cf127, 30, .inl g127_1105)), (qf104, .inl (cf104, 8, .inl f104)), (qf102, .inl (cf102, 2048, .inl f102)), (qf118, .inl (cf118, 2100, .inl g118_1105)), (qf119, .inl (cf119, 2100, .inl g119_1105)), (qf105, .inl (cf105, 8, .inl f105)), (qf137, .inl (cf137, 6, .inl g137_1105))]) [0, 1, 2, 3, 4, 5, 6, 7, 8, 9] rfl
      have hD9 := hD.sub (ws' := [(h0, .inr (13, z1105)), (qf100, .inl (cf100, 48000, .inl f100)), (qf128, .inl (cf128, 31, .inl g128_1105)), (qf127, .inl (cf127, 30, .inl g127_1105)), (qf104, .inl (cf104, 8, .inl f104)), (qf102, .inl (cf102, 2048, .inl f102)), (qf118, .inl (cf118, 2100, .inl g118_1105)), (qf119, .inl (cf119, 2100, .inl g119_1105)), (qf105, .inl (cf105, 8, .inl f105)), (qf137, .inl (cf137, 6, .inl g137_1105))]) [0, 1, 2, 3, 4, 5, 6, 7, 8, 9] (by decide) rfl
      have hK9 := hK.sub (tys' := [(cf100, .int), (cf128, .int), (cf127, .int), (cf104, .int), (cf102, .int), (cf118, .int), (cf119, .int), (cf105, .int), (cf137, .int)]) [0, 1, 2, 3, 4, 5, 6, 7, 8] rfl
      exact W.zret hx hb hr (by decide) (fun t ht hW => ⟨⟨(0), (z1105), rfl, ⟨⟨rfl, Or.inl rfl⟩, hlh_1105, hrh_1105, hfh_1105_117, hfh_1105_120, hfh_1105_131⟩, by rw [ht]; exact hP9, va_K.moved hW.alike hK9, hD9⟩, hS.F ht⟩) hS.2.2 dX13_wanted_1105
    · skip
      have hr0 := Option.some.inj hsp
      clear hsp
      obtain ⟨hq0, hr1⟩ := Prod.mk.inj hr0
      clear hr0
      obtain ⟨hq1, hr2⟩ := Prod.mk.inj hr1
      clear hr1
      obtain ⟨hq2, hr3⟩ := Prod.mk.inj hr2
      clear hr2
      obtain ⟨hq3, hr4⟩ := Prod.mk.inj hr3
      clear hr3
      obtain ⟨hq4, hr5⟩ := Prod.mk.inj hr4
      clear hr4
      obtain ⟨hq5, hr6⟩ := Prod.mk.inj hr5
      clear hr5
      obtain ⟨hq6, hr7⟩ := Prod.mk.inj hr6
      clear hr6
      obtain ⟨hq7, hr8⟩ := Prod.mk.inj hr7
      clear hr7
      subst hq0
      subst hq1
      subst hq2
      subst hq3
      subst hq4
      subst hq5
      subst hq6
      subst hq7
      subst hr8
      have hP9 := hP.sub (ws' := [(h0, .inr (13, z1105)), (qf100, .inl (cf100, 48000, .inl f100)), (qf128, .inl (cf128, 31, .inl g128_1105)), (qf127, .inl (cf127, 30, .inl g127_1105)), (qf104, .inl (cf104, 8, .inl f104)), (qf102, .inl (cf102, 2048, .inl f102)), (qf118, .inl (cf118, 2100, .inl g118_1105)), (qf119, .inl (cf119, 2100, .inl g119_1105)), (qf105, .inl (cf105, 8, .inl f105)), (qf137, .inl (cf137, 6, .inl g137_1105))]) [0, 1, 2, 3, 4, 5, 6, 7, 8, 9] rfl
      have hD9 := hD.sub (ws' := [(h0, .inr (13, z1105)), (qf100, .inl (cf100, 48000, .inl f100)), (qf128, .inl (cf128, 31, .inl g128_1105)), (qf127, .inl (cf127, 30, .inl g127_1105)), (qf104, .inl (cf104, 8, .inl f104)), (qf102, .inl (cf102, 2048, .inl f102)), (qf118, .inl (cf118, 2100, .inl g118_1105)), (qf119, .inl (cf119, 2100, .inl g119_1105)), (qf105, .inl (cf105, 8, .inl f105)), (qf137, .inl (cf137, 6, .inl g137_1105))]) [0, 1, 2, 3, 4, 5, 6, 7, 8, 9] (by decide) rfl
      have hK9 := hK.sub (tys' := [(cf100, .int), (cf128, .int), (cf127, .int), (cf104, .int), (cf102, .int), (cf118, .int), (cf119, .int), (cf105, .int), (cf137, .int)]) [0, 1, 2, 3, 4, 5, 6, 7, 8] rfl
      exact W.zret hx hb hr (by decide) (fun t ht hW => ⟨⟨(1), (z1105), rfl, ⟨⟨rfl, Or.inr rfl⟩, hlh_1105, hrh_1105, hfh_1105_117, hfh_1105_120, hfh_1105_131⟩, by rw [ht]; exact hP9, va_K.moved hW.alike hK9, hD9⟩, hS.F ht⟩) hS.2.2 dX13_wanted_1105
  intro hret_1105
  refine jn_use (α := Heap × List Loc × Array Slot × List Value × Int32 × (Nat → Int32) × (Nat → Int32) × (Nat → Int32) × (Nat → Int32) × (Nat → Int32) × Int32 × Int32 × Int32) (fun x9 => x9.1) (fun x9 => x9.2.1) (fun x9 => F0 m 1137 x9.2.2.1 [.int (x9.2.2.2.2.1)]) (fun x9 => match x9 with | (H, locs, ls, z1137, rr_1137, g118_1137, g119_1137, g127_1137, g128_1137, g137_1137, x117_1137, x120_1137, x131_1137) => va_S A s.heap H locs ∧ va_D A [(h0, .inr (13, z1137)), (qf100, .inl (cf100, 48000, .inl f100)), (qf128, .inl (cf128, 31, .inl g128_1137)), (qf127, .inl (cf127, 30, .inl g127_1137)), (qf104, .inl (cf104, 8, .inl f104)), (qf102, .inl (cf102, 2048, .inl f102)), (qf118, .inl (cf118, 2100, .inl g118_1137)), (qf119, .inl (cf119, 2100, .inl g119_1137)), (qf105, .inl (cf105, 8, .inl f105)), (qf137, .inl (cf137, 6, .inl g137_1137))] ∧ va_P (dC, dI) vwCl [(h0, .inr (13, z1137)), (qf100, .inl (cf100, 48000, .inl f100)), (qf128, .inl (cf128, 31, .inl g128_1137)), (qf127, .inl (cf127, 30, .inl g127_1137)), (qf104, .inl (cf104, 8, .inl f104)), (qf102, .inl (cf102, 2048, .inl f102)), (qf118, .inl (cf118, 2100, .inl g118_1137)), (qf119, .inl (cf119, 2100, .inl g119_1137)), (qf105, .inl (cf105, 8, .inl f105)), (qf137, .inl (cf137, 6, .inl g137_1137))] H ∧ z1137[98]? = some (.int v98) ∧ z1137[100]? = some (.ref qf100) ∧ z1137[102]? = some (.ref qf102) ∧ z1137[104]? = some (.ref qf104) ∧ z1137[105]? = some (.ref qf105) ∧ z1137[117]? = some (.int x117_1137) ∧ z1137[118]? = some (.ref qf118) ∧ z1137[119]? = some (.ref qf119) ∧ z1137[120]? = some (.int x120_1137) ∧ z1137[127]? = some (.ref qf127) ∧ z1137[128]? = some (.ref qf128) ∧ z1137[129]? = some (.int v129) ∧ z1137[130]? = some (.int v130) ∧ z1137[131]? = some (.int x131_1137) ∧ z1137[132]? = some (.int v132) ∧ z1137[134]? = some (.int v134) ∧ z1137[136]? = some (.int v136) ∧ z1137[137]? = some (.ref qf137) ∧ z1137.length = 155 ∧ (∀ j : Nat, j ≠ 117 → j ≠ 120 → j ≠ 131 → z1137[j]? = zs[j]?) ∧ (rr_1137 = 0 ∨ rr_1137 = 1) ∧ some (rr_1137, g118_1137, g119_1137, g127_1137, g128_1137, g137_1137, x117_1137, x120_1137, x131_1137) = some (r0, o118, o119, o127, o128, o137, w117, w120, w131)) ?_ ?_
  · intro x9 hJ9
    obtain ⟨H, locs, ls, z1137, rr_1137, g118_1137, g119_1137, g127_1137, g128_1137, g137_1137, x117_1137, x120_1137, x131_1137⟩ := x9
    obtain ⟨hS, hD, hP, hfh_1137_98, hfh_1137_100, hfh_1137_102, hfh_1137_104, hfh_1137_105, hfh_1137_117, hfh_1137_118, hfh_1137_119, hfh_1137_120, hfh_1137_127, hfh_1137_128, hfh_1137_129, hfh_1137_130, hfh_1137_131, hfh_1137_132, hfh_1137_134, hfh_1137_136, hfh_1137_137, hlh_1137, hrh_1137, hz9, hsp⟩ := hJ9
    replace hS : va_S A s.heap H locs := hS
    replace hD : va_D A [(h0, .inr (13, z1137)), (qf100, .inl (cf100, 48000, .inl f100)), (qf128, .inl (cf128, 31, .inl g128_1137)), (qf127, .inl (cf127, 30, .inl g127_1137)), (qf104, .inl (cf104, 8, .inl f104)), (qf102, .inl (cf102, 2048, .inl f102)), (qf118, .inl (cf118, 2100, .inl g118_1137)), (qf119, .inl (cf119, 2100, .inl g119_1137)), (qf105, .inl (cf105, 8, .inl f105)), (qf137, .inl (cf137, 6, .inl g137_1137))] := hD
    replace hP : va_P (dC, dI) vwCl [(h0, .inr (13, z1137)), (qf100, .inl (cf100, 48000, .inl f100)), (qf128, .inl (cf128, 31, .inl g128_1137)), (qf127, .inl (cf127, 30, .inl g127_1137)), (qf104, .inl (cf104, 8, .inl f104)), (qf102, .inl (cf102, 2048, .inl f102)), (qf118, .inl (cf118, 2100, .inl g118_1137)), (qf119, .inl (cf119, 2100, .inl g119_1137)), (qf105, .inl (cf105, 8, .inl f105)), (qf137, .inl (cf137, 6, .inl g137_1137))] H := hP
    replace hsp : some (rr_1137, g118_1137, g119_1137, g127_1137, g128_1137, g137_1137, x117_1137, x120_1137, x131_1137) = some (r0, o118, o119, o127, o128, o137, w117, w120, w131) := hsp
    show W _ _ _ _ _ _ _ _ _ _ H locs _ _ _ (F0 m 1137 ls [.int rr_1137])
    rcases hz9 with rfl | rfl
    · skip
      have hr0 := Option.some.inj hsp
      clear hsp
      obtain ⟨hq0, hr1⟩ := Prod.mk.inj hr0
      clear hr0
      obtain ⟨hq1, hr2⟩ := Prod.mk.inj hr1
      clear hr1
      obtain ⟨hq2, hr3⟩ := Prod.mk.inj hr2
      clear hr2
      obtain ⟨hq3, hr4⟩ := Prod.mk.inj hr3
      clear hr3
      obtain ⟨hq4, hr5⟩ := Prod.mk.inj hr4
      clear hr4
      obtain ⟨hq5, hr6⟩ := Prod.mk.inj hr5
      clear hr5
      obtain ⟨hq6, hr7⟩ := Prod.mk.inj hr6
      clear hr6
      obtain ⟨hq7, hr8⟩ := Prod.mk.inj hr7
      clear hr7
      subst hq0
      subst hq1
      subst hq2
      subst hq3
      subst hq4
      subst hq5
      subst hq6
      subst hq7
      subst hr8
      have hP9 := hP.sub (ws' := [(h0, .inr (13, z1137)), (qf100, .inl (cf100, 48000, .inl f100)), (qf128, .inl (cf128, 31, .inl g128_1137)), (qf127, .inl (cf127, 30, .inl g127_1137)), (qf104, .inl (cf104, 8, .inl f104)), (qf102, .inl (cf102, 2048, .inl f102)), (qf118, .inl (cf118, 2100, .inl g118_1137)), (qf119, .inl (cf119, 2100, .inl g119_1137)), (qf105, .inl (cf105, 8, .inl f105)), (qf137, .inl (cf137, 6, .inl g137_1137))]) [0, 1, 2, 3, 4, 5, 6, 7, 8, 9] rfl
      have hD9 := hD.sub (ws' := [(h0, .inr (13, z1137)), (qf100, .inl (cf100, 48000, .inl f100)), (qf128, .inl (cf128, 31, .inl g128_1137)), (qf127, .inl (cf127, 30, .inl g127_1137)), (qf104, .inl (cf104, 8, .inl f104)), (qf102, .inl (cf102, 2048, .inl f102)), (qf118, .inl (cf118, 2100, .inl g118_1137)), (qf119, .inl (cf119, 2100, .inl g119_1137)), (qf105, .inl (cf105, 8, .inl f105)), (qf137, .inl (cf137, 6, .inl g137_1137))]) [0, 1, 2, 3, 4, 5, 6, 7, 8, 9] (by decide) rfl
      have hK9 := hK.sub (tys' := [(cf100, .int), (cf128, .int), (cf127, .int), (cf104, .int), (cf102, .int), (cf118, .int), (cf119, .int), (cf105, .int), (cf137, .int)]) [0, 1, 2, 3, 4, 5, 6, 7, 8] rfl
      exact W.zret hx hb hr (by decide) (fun t ht hW => ⟨⟨(0), (z1137), rfl, ⟨⟨rfl, Or.inl rfl⟩, hlh_1137, hrh_1137, hfh_1137_117, hfh_1137_120, hfh_1137_131⟩, by rw [ht]; exact hP9, va_K.moved hW.alike hK9, hD9⟩, hS.F ht⟩) hS.2.2 dX13_wanted_1137
    · skip
      have hr0 := Option.some.inj hsp
      clear hsp
      obtain ⟨hq0, hr1⟩ := Prod.mk.inj hr0
      clear hr0
      obtain ⟨hq1, hr2⟩ := Prod.mk.inj hr1
      clear hr1
      obtain ⟨hq2, hr3⟩ := Prod.mk.inj hr2
      clear hr2
      obtain ⟨hq3, hr4⟩ := Prod.mk.inj hr3
      clear hr3
      obtain ⟨hq4, hr5⟩ := Prod.mk.inj hr4
      clear hr4
      obtain ⟨hq5, hr6⟩ := Prod.mk.inj hr5
      clear hr5
      obtain ⟨hq6, hr7⟩ := Prod.mk.inj hr6
      clear hr6
      obtain ⟨hq7, hr8⟩ := Prod.mk.inj hr7
      clear hr7
      subst hq0
      subst hq1
      subst hq2
      subst hq3
      subst hq4
      subst hq5
      subst hq6
      subst hq7
      subst hr8
      have hP9 := hP.sub (ws' := [(h0, .inr (13, z1137)), (qf100, .inl (cf100, 48000, .inl f100)), (qf128, .inl (cf128, 31, .inl g128_1137)), (qf127, .inl (cf127, 30, .inl g127_1137)), (qf104, .inl (cf104, 8, .inl f104)), (qf102, .inl (cf102, 2048, .inl f102)), (qf118, .inl (cf118, 2100, .inl g118_1137)), (qf119, .inl (cf119, 2100, .inl g119_1137)), (qf105, .inl (cf105, 8, .inl f105)), (qf137, .inl (cf137, 6, .inl g137_1137))]) [0, 1, 2, 3, 4, 5, 6, 7, 8, 9] rfl
      have hD9 := hD.sub (ws' := [(h0, .inr (13, z1137)), (qf100, .inl (cf100, 48000, .inl f100)), (qf128, .inl (cf128, 31, .inl g128_1137)), (qf127, .inl (cf127, 30, .inl g127_1137)), (qf104, .inl (cf104, 8, .inl f104)), (qf102, .inl (cf102, 2048, .inl f102)), (qf118, .inl (cf118, 2100, .inl g118_1137)), (qf119, .inl (cf119, 2100, .inl g119_1137)), (qf105, .inl (cf105, 8, .inl f105)), (qf137, .inl (cf137, 6, .inl g137_1137))]) [0, 1, 2, 3, 4, 5, 6, 7, 8, 9] (by decide) rfl
      have hK9 := hK.sub (tys' := [(cf100, .int), (cf128, .int), (cf127, .int), (cf104, .int), (cf102, .int), (cf118, .int), (cf119, .int), (cf105, .int), (cf137, .int)]) [0, 1, 2, 3, 4, 5, 6, 7, 8] rfl
      exact W.zret hx hb hr (by decide) (fun t ht hW => ⟨⟨(1), (z1137), rfl, ⟨⟨rfl, Or.inr rfl⟩, hlh_1137, hrh_1137, hfh_1137_117, hfh_1137_120, hfh_1137_131⟩, by rw [ht]; exact hP9, va_K.moved hW.alike hK9, hD9⟩, hS.F ht⟩) hS.2.2 dX13_wanted_1137
  intro hret_1137
  refine jn_use (α := Heap × List Loc × Array Slot × List Value × Int32 × (Nat → Int32) × (Nat → Int32) × (Nat → Int32) × (Nat → Int32) × (Nat → Int32) × Int32 × Int32 × Int32) (fun x9 => x9.1) (fun x9 => x9.2.1) (fun x9 => F0 m 1151 x9.2.2.1 [.int (x9.2.2.2.2.1)]) (fun x9 => match x9 with | (H, locs, ls, z1151, rr_1151, g118_1151, g119_1151, g127_1151, g128_1151, g137_1151, x117_1151, x120_1151, x131_1151) => va_S A s.heap H locs ∧ va_D A [(h0, .inr (13, z1151)), (qf100, .inl (cf100, 48000, .inl f100)), (qf128, .inl (cf128, 31, .inl g128_1151)), (qf127, .inl (cf127, 30, .inl g127_1151)), (qf104, .inl (cf104, 8, .inl f104)), (qf102, .inl (cf102, 2048, .inl f102)), (qf118, .inl (cf118, 2100, .inl g118_1151)), (qf119, .inl (cf119, 2100, .inl g119_1151)), (qf105, .inl (cf105, 8, .inl f105)), (qf137, .inl (cf137, 6, .inl g137_1151))] ∧ va_P (dC, dI) vwCl [(h0, .inr (13, z1151)), (qf100, .inl (cf100, 48000, .inl f100)), (qf128, .inl (cf128, 31, .inl g128_1151)), (qf127, .inl (cf127, 30, .inl g127_1151)), (qf104, .inl (cf104, 8, .inl f104)), (qf102, .inl (cf102, 2048, .inl f102)), (qf118, .inl (cf118, 2100, .inl g118_1151)), (qf119, .inl (cf119, 2100, .inl g119_1151)), (qf105, .inl (cf105, 8, .inl f105)), (qf137, .inl (cf137, 6, .inl g137_1151))] H ∧ z1151[98]? = some (.int v98) ∧ z1151[100]? = some (.ref qf100) ∧ z1151[102]? = some (.ref qf102) ∧ z1151[104]? = some (.ref qf104) ∧ z1151[105]? = some (.ref qf105) ∧ z1151[117]? = some (.int x117_1151) ∧ z1151[118]? = some (.ref qf118) ∧ z1151[119]? = some (.ref qf119) ∧ z1151[120]? = some (.int x120_1151) ∧ z1151[127]? = some (.ref qf127) ∧ z1151[128]? = some (.ref qf128) ∧ z1151[129]? = some (.int v129) ∧ z1151[130]? = some (.int v130) ∧ z1151[131]? = some (.int x131_1151) ∧ z1151[132]? = some (.int v132) ∧ z1151[134]? = some (.int v134) ∧ z1151[136]? = some (.int v136) ∧ z1151[137]? = some (.ref qf137) ∧ z1151.length = 155 ∧ (∀ j : Nat, j ≠ 117 → j ≠ 120 → j ≠ 131 → z1151[j]? = zs[j]?) ∧ (rr_1151 = 0 ∨ rr_1151 = 1) ∧ some (rr_1151, g118_1151, g119_1151, g127_1151, g128_1151, g137_1151, x117_1151, x120_1151, x131_1151) = some (r0, o118, o119, o127, o128, o137, w117, w120, w131)) ?_ ?_
  · intro x9 hJ9
    obtain ⟨H, locs, ls, z1151, rr_1151, g118_1151, g119_1151, g127_1151, g128_1151, g137_1151, x117_1151, x120_1151, x131_1151⟩ := x9
    obtain ⟨hS, hD, hP, hfh_1151_98, hfh_1151_100, hfh_1151_102, hfh_1151_104, hfh_1151_105, hfh_1151_117, hfh_1151_118, hfh_1151_119, hfh_1151_120, hfh_1151_127, hfh_1151_128, hfh_1151_129, hfh_1151_130, hfh_1151_131, hfh_1151_132, hfh_1151_134, hfh_1151_136, hfh_1151_137, hlh_1151, hrh_1151, hz9, hsp⟩ := hJ9
    replace hS : va_S A s.heap H locs := hS
    replace hD : va_D A [(h0, .inr (13, z1151)), (qf100, .inl (cf100, 48000, .inl f100)), (qf128, .inl (cf128, 31, .inl g128_1151)), (qf127, .inl (cf127, 30, .inl g127_1151)), (qf104, .inl (cf104, 8, .inl f104)), (qf102, .inl (cf102, 2048, .inl f102)), (qf118, .inl (cf118, 2100, .inl g118_1151)), (qf119, .inl (cf119, 2100, .inl g119_1151)), (qf105, .inl (cf105, 8, .inl f105)), (qf137, .inl (cf137, 6, .inl g137_1151))] := hD
    replace hP : va_P (dC, dI) vwCl [(h0, .inr (13, z1151)), (qf100, .inl (cf100, 48000, .inl f100)), (qf128, .inl (cf128, 31, .inl g128_1151)), (qf127, .inl (cf127, 30, .inl g127_1151)), (qf104, .inl (cf104, 8, .inl f104)), (qf102, .inl (cf102, 2048, .inl f102)), (qf118, .inl (cf118, 2100, .inl g118_1151)), (qf119, .inl (cf119, 2100, .inl g119_1151)), (qf105, .inl (cf105, 8, .inl f105)), (qf137, .inl (cf137, 6, .inl g137_1151))] H := hP
    replace hsp : some (rr_1151, g118_1151, g119_1151, g127_1151, g128_1151, g137_1151, x117_1151, x120_1151, x131_1151) = some (r0, o118, o119, o127, o128, o137, w117, w120, w131) := hsp
    show W _ _ _ _ _ _ _ _ _ _ H locs _ _ _ (F0 m 1151 ls [.int rr_1151])
    rcases hz9 with rfl | rfl
    · skip
      have hr0 := Option.some.inj hsp
      clear hsp
      obtain ⟨hq0, hr1⟩ := Prod.mk.inj hr0
      clear hr0
      obtain ⟨hq1, hr2⟩ := Prod.mk.inj hr1
      clear hr1
      obtain ⟨hq2, hr3⟩ := Prod.mk.inj hr2
      clear hr2
      obtain ⟨hq3, hr4⟩ := Prod.mk.inj hr3
      clear hr3
      obtain ⟨hq4, hr5⟩ := Prod.mk.inj hr4
      clear hr4
      obtain ⟨hq5, hr6⟩ := Prod.mk.inj hr5
      clear hr5
      obtain ⟨hq6, hr7⟩ := Prod.mk.inj hr6
      clear hr6
      obtain ⟨hq7, hr8⟩ := Prod.mk.inj hr7
      clear hr7
      subst hq0
      subst hq1
      subst hq2
      subst hq3
      subst hq4
      subst hq5
      subst hq6
      subst hq7
      subst hr8
      have hP9 := hP.sub (ws' := [(h0, .inr (13, z1151)), (qf100, .inl (cf100, 48000, .inl f100)), (qf128, .inl (cf128, 31, .inl g128_1151)), (qf127, .inl (cf127, 30, .inl g127_1151)), (qf104, .inl (cf104, 8, .inl f104)), (qf102, .inl (cf102, 2048, .inl f102)), (qf118, .inl (cf118, 2100, .inl g118_1151)), (qf119, .inl (cf119, 2100, .inl g119_1151)), (qf105, .inl (cf105, 8, .inl f105)), (qf137, .inl (cf137, 6, .inl g137_1151))]) [0, 1, 2, 3, 4, 5, 6, 7, 8, 9] rfl
      have hD9 := hD.sub (ws' := [(h0, .inr (13, z1151)), (qf100, .inl (cf100, 48000, .inl f100)), (qf128, .inl (cf128, 31, .inl g128_1151)), (qf127, .inl (cf127, 30, .inl g127_1151)), (qf104, .inl (cf104, 8, .inl f104)), (qf102, .inl (cf102, 2048, .inl f102)), (qf118, .inl (cf118, 2100, .inl g118_1151)), (qf119, .inl (cf119, 2100, .inl g119_1151)), (qf105, .inl (cf105, 8, .inl f105)), (qf137, .inl (cf137, 6, .inl g137_1151))]) [0, 1, 2, 3, 4, 5, 6, 7, 8, 9] (by decide) rfl
      have hK9 := hK.sub (tys' := [(cf100, .int), (cf128, .int), (cf127, .int), (cf104, .int), (cf102, .int), (cf118, .int), (cf119, .int), (cf105, .int), (cf137, .int)]) [0, 1, 2, 3, 4, 5, 6, 7, 8] rfl
      exact W.zret hx hb hr (by decide) (fun t ht hW => ⟨⟨(0), (z1151), rfl, ⟨⟨rfl, Or.inl rfl⟩, hlh_1151, hrh_1151, hfh_1151_117, hfh_1151_120, hfh_1151_131⟩, by rw [ht]; exact hP9, va_K.moved hW.alike hK9, hD9⟩, hS.F ht⟩) hS.2.2 dX13_wanted_1151
    · skip
      have hr0 := Option.some.inj hsp
      clear hsp
      obtain ⟨hq0, hr1⟩ := Prod.mk.inj hr0
      clear hr0
      obtain ⟨hq1, hr2⟩ := Prod.mk.inj hr1
      clear hr1
      obtain ⟨hq2, hr3⟩ := Prod.mk.inj hr2
      clear hr2
      obtain ⟨hq3, hr4⟩ := Prod.mk.inj hr3
      clear hr3
      obtain ⟨hq4, hr5⟩ := Prod.mk.inj hr4
      clear hr4
      obtain ⟨hq5, hr6⟩ := Prod.mk.inj hr5
      clear hr5
      obtain ⟨hq6, hr7⟩ := Prod.mk.inj hr6
      clear hr6
      obtain ⟨hq7, hr8⟩ := Prod.mk.inj hr7
      clear hr7
      subst hq0
      subst hq1
      subst hq2
      subst hq3
      subst hq4
      subst hq5
      subst hq6
      subst hq7
      subst hr8
      have hP9 := hP.sub (ws' := [(h0, .inr (13, z1151)), (qf100, .inl (cf100, 48000, .inl f100)), (qf128, .inl (cf128, 31, .inl g128_1151)), (qf127, .inl (cf127, 30, .inl g127_1151)), (qf104, .inl (cf104, 8, .inl f104)), (qf102, .inl (cf102, 2048, .inl f102)), (qf118, .inl (cf118, 2100, .inl g118_1151)), (qf119, .inl (cf119, 2100, .inl g119_1151)), (qf105, .inl (cf105, 8, .inl f105)), (qf137, .inl (cf137, 6, .inl g137_1151))]) [0, 1, 2, 3, 4, 5, 6, 7, 8, 9] rfl
      have hD9 := hD.sub (ws' := [(h0, .inr (13, z1151)), (qf100, .inl (cf100, 48000, .inl f100)), (qf128, .inl (cf128, 31, .inl g128_1151)), (qf127, .inl (cf127, 30, .inl g127_1151)), (qf104, .inl (cf104, 8, .inl f104)), (qf102, .inl (cf102, 2048, .inl f102)), (qf118, .inl (cf118, 2100, .inl g118_1151)), (qf119, .inl (cf119, 2100, .inl g119_1151)), (qf105, .inl (cf105, 8, .inl f105)), (qf137, .inl (cf137, 6, .inl g137_1151))]) [0, 1, 2, 3, 4, 5, 6, 7, 8, 9] (by decide) rfl
      have hK9 := hK.sub (tys' := [(cf100, .int), (cf128, .int), (cf127, .int), (cf104, .int), (cf102, .int), (cf118, .int), (cf119, .int), (cf105, .int), (cf137, .int)]) [0, 1, 2, 3, 4, 5, 6, 7, 8] rfl
      exact W.zret hx hb hr (by decide) (fun t ht hW => ⟨⟨(1), (z1151), rfl, ⟨⟨rfl, Or.inr rfl⟩, hlh_1151, hrh_1151, hfh_1151_117, hfh_1151_120, hfh_1151_131⟩, by rw [ht]; exact hP9, va_K.moved hW.alike hK9, hD9⟩, hS.F ht⟩) hS.2.2 dX13_wanted_1151
  intro hret_1151
  refine jn_use (α := Heap × List Loc × Array Slot × List Value × Int32 × (Nat → Int32) × (Nat → Int32) × (Nat → Int32) × (Nat → Int32) × (Nat → Int32) × Int32 × Int32 × Int32) (fun x9 => x9.1) (fun x9 => x9.2.1) (fun x9 => F0 m 1182 x9.2.2.1 [.int (x9.2.2.2.2.1)]) (fun x9 => match x9 with | (H, locs, ls, z1182, rr_1182, g118_1182, g119_1182, g127_1182, g128_1182, g137_1182, x117_1182, x120_1182, x131_1182) => va_S A s.heap H locs ∧ va_D A [(h0, .inr (13, z1182)), (qf100, .inl (cf100, 48000, .inl f100)), (qf128, .inl (cf128, 31, .inl g128_1182)), (qf127, .inl (cf127, 30, .inl g127_1182)), (qf104, .inl (cf104, 8, .inl f104)), (qf102, .inl (cf102, 2048, .inl f102)), (qf118, .inl (cf118, 2100, .inl g118_1182)), (qf119, .inl (cf119, 2100, .inl g119_1182)), (qf105, .inl (cf105, 8, .inl f105)), (qf137, .inl (cf137, 6, .inl g137_1182))] ∧ va_P (dC, dI) vwCl [(h0, .inr (13, z1182)), (qf100, .inl (cf100, 48000, .inl f100)), (qf128, .inl (cf128, 31, .inl g128_1182)), (qf127, .inl (cf127, 30, .inl g127_1182)), (qf104, .inl (cf104, 8, .inl f104)), (qf102, .inl (cf102, 2048, .inl f102)), (qf118, .inl (cf118, 2100, .inl g118_1182)), (qf119, .inl (cf119, 2100, .inl g119_1182)), (qf105, .inl (cf105, 8, .inl f105)), (qf137, .inl (cf137, 6, .inl g137_1182))] H ∧ z1182[98]? = some (.int v98) ∧ z1182[100]? = some (.ref qf100) ∧ z1182[102]? = some (.ref qf102) ∧ z1182[104]? = some (.ref qf104) ∧ z1182[105]? = some (.ref qf105) ∧ z1182[117]? = some (.int x117_1182) ∧ z1182[118]? = some (.ref qf118) ∧ z1182[119]? = some (.ref qf119) ∧ z1182[120]? = some (.int x120_1182) ∧ z1182[127]? = some (.ref qf127) ∧ z1182[128]? = some (.ref qf128) ∧ z1182[129]? = some (.int v129) ∧ z1182[130]? = some (.int v130) ∧ z1182[131]? = some (.int x131_1182) ∧ z1182[132]? = some (.int v132) ∧ z1182[134]? = some (.int v134) ∧ z1182[136]? = some (.int v136) ∧ z1182[137]? = some (.ref qf137) ∧ z1182.length = 155 ∧ (∀ j : Nat, j ≠ 117 → j ≠ 120 → j ≠ 131 → z1182[j]? = zs[j]?) ∧ (rr_1182 = 0 ∨ rr_1182 = 1) ∧ some (rr_1182, g118_1182, g119_1182, g127_1182, g128_1182, g137_1182, x117_1182, x120_1182, x131_1182) = some (r0, o118, o119, o127, o128, o137, w117, w120, w131)) ?_ ?_
  · intro x9 hJ9
    obtain ⟨H, locs, ls, z1182, rr_1182, g118_1182, g119_1182, g127_1182, g128_1182, g137_1182, x117_1182, x120_1182, x131_1182⟩ := x9
    obtain ⟨hS, hD, hP, hfh_1182_98, hfh_1182_100, hfh_1182_102, hfh_1182_104, hfh_1182_105, hfh_1182_117, hfh_1182_118, hfh_1182_119, hfh_1182_120, hfh_1182_127, hfh_1182_128, hfh_1182_129, hfh_1182_130, hfh_1182_131, hfh_1182_132, hfh_1182_134, hfh_1182_136, hfh_1182_137, hlh_1182, hrh_1182, hz9, hsp⟩ := hJ9
    replace hS : va_S A s.heap H locs := hS
    replace hD : va_D A [(h0, .inr (13, z1182)), (qf100, .inl (cf100, 48000, .inl f100)), (qf128, .inl (cf128, 31, .inl g128_1182)), (qf127, .inl (cf127, 30, .inl g127_1182)), (qf104, .inl (cf104, 8, .inl f104)), (qf102, .inl (cf102, 2048, .inl f102)), (qf118, .inl (cf118, 2100, .inl g118_1182)), (qf119, .inl (cf119, 2100, .inl g119_1182)), (qf105, .inl (cf105, 8, .inl f105)), (qf137, .inl (cf137, 6, .inl g137_1182))] := hD
    replace hP : va_P (dC, dI) vwCl [(h0, .inr (13, z1182)), (qf100, .inl (cf100, 48000, .inl f100)), (qf128, .inl (cf128, 31, .inl g128_1182)), (qf127, .inl (cf127, 30, .inl g127_1182)), (qf104, .inl (cf104, 8, .inl f104)), (qf102, .inl (cf102, 2048, .inl f102)), (qf118, .inl (cf118, 2100, .inl g118_1182)), (qf119, .inl (cf119, 2100, .inl g119_1182)), (qf105, .inl (cf105, 8, .inl f105)), (qf137, .inl (cf137, 6, .inl g137_1182))] H := hP
    replace hsp : some (rr_1182, g118_1182, g119_1182, g127_1182, g128_1182, g137_1182, x117_1182, x120_1182, x131_1182) = some (r0, o118, o119, o127, o128, o137, w117, w120, w131) := hsp
    show W _ _ _ _ _ _ _ _ _ _ H locs _ _ _ (F0 m 1182 ls [.int rr_1182])
    rcases hz9 with rfl | rfl
    · skip
      have hr0 := Option.some.inj hsp
      clear hsp
      obtain ⟨hq0, hr1⟩ := Prod.mk.inj hr0
      clear hr0
      obtain ⟨hq1, hr2⟩ := Prod.mk.inj hr1
      clear hr1
      obtain ⟨hq2, hr3⟩ := Prod.mk.inj hr2
      clear hr2
      obtain ⟨hq3, hr4⟩ := Prod.mk.inj hr3
      clear hr3
      obtain ⟨hq4, hr5⟩ := Prod.mk.inj hr4
      clear hr4
      obtain ⟨hq5, hr6⟩ := Prod.mk.inj hr5
      clear hr5
      obtain ⟨hq6, hr7⟩ := Prod.mk.inj hr6
      clear hr6
      obtain ⟨hq7, hr8⟩ := Prod.mk.inj hr7
      clear hr7
      subst hq0
      subst hq1
      subst hq2
      subst hq3
      subst hq4
      subst hq5
      subst hq6
      subst hq7
      subst hr8
      have hP9 := hP.sub (ws' := [(h0, .inr (13, z1182)), (qf100, .inl (cf100, 48000, .inl f100)), (qf128, .inl (cf128, 31, .inl g128_1182)), (qf127, .inl (cf127, 30, .inl g127_1182)), (qf104, .inl (cf104, 8, .inl f104)), (qf102, .inl (cf102, 2048, .inl f102)), (qf118, .inl (cf118, 2100, .inl g118_1182)), (qf119, .inl (cf119, 2100, .inl g119_1182)), (qf105, .inl (cf105, 8, .inl f105)), (qf137, .inl (cf137, 6, .inl g137_1182))]) [0, 1, 2, 3, 4, 5, 6, 7, 8, 9] rfl
      have hD9 := hD.sub (ws' := [(h0, .inr (13, z1182)), (qf100, .inl (cf100, 48000, .inl f100)), (qf128, .inl (cf128, 31, .inl g128_1182)), (qf127, .inl (cf127, 30, .inl g127_1182)), (qf104, .inl (cf104, 8, .inl f104)), (qf102, .inl (cf102, 2048, .inl f102)), (qf118, .inl (cf118, 2100, .inl g118_1182)), (qf119, .inl (cf119, 2100, .inl g119_1182)), (qf105, .inl (cf105, 8, .inl f105)), (qf137, .inl (cf137, 6, .inl g137_1182))]) [0, 1, 2, 3, 4, 5, 6, 7, 8, 9] (by decide) rfl
      have hK9 := hK.sub (tys' := [(cf100, .int), (cf128, .int), (cf127, .int), (cf104, .int), (cf102, .int), (cf118, .int), (cf119, .int), (cf105, .int), (cf137, .int)]) [0, 1, 2, 3, 4, 5, 6, 7, 8] rfl
      exact W.zret hx hb hr (by decide) (fun t ht hW => ⟨⟨(0), (z1182), rfl, ⟨⟨rfl, Or.inl rfl⟩, hlh_1182, hrh_1182, hfh_1182_117, hfh_1182_120, hfh_1182_131⟩, by rw [ht]; exact hP9, va_K.moved hW.alike hK9, hD9⟩, hS.F ht⟩) hS.2.2 dX13_wanted_1182
    · skip
      have hr0 := Option.some.inj hsp
      clear hsp
      obtain ⟨hq0, hr1⟩ := Prod.mk.inj hr0
      clear hr0
      obtain ⟨hq1, hr2⟩ := Prod.mk.inj hr1
      clear hr1
      obtain ⟨hq2, hr3⟩ := Prod.mk.inj hr2
      clear hr2
      obtain ⟨hq3, hr4⟩ := Prod.mk.inj hr3
      clear hr3
      obtain ⟨hq4, hr5⟩ := Prod.mk.inj hr4
      clear hr4
      obtain ⟨hq5, hr6⟩ := Prod.mk.inj hr5
      clear hr5
      obtain ⟨hq6, hr7⟩ := Prod.mk.inj hr6
      clear hr6
      obtain ⟨hq7, hr8⟩ := Prod.mk.inj hr7
      clear hr7
      subst hq0
      subst hq1
      subst hq2
      subst hq3
      subst hq4
      subst hq5
      subst hq6
      subst hq7
      subst hr8
      have hP9 := hP.sub (ws' := [(h0, .inr (13, z1182)), (qf100, .inl (cf100, 48000, .inl f100)), (qf128, .inl (cf128, 31, .inl g128_1182)), (qf127, .inl (cf127, 30, .inl g127_1182)), (qf104, .inl (cf104, 8, .inl f104)), (qf102, .inl (cf102, 2048, .inl f102)), (qf118, .inl (cf118, 2100, .inl g118_1182)), (qf119, .inl (cf119, 2100, .inl g119_1182)), (qf105, .inl (cf105, 8, .inl f105)), (qf137, .inl (cf137, 6, .inl g137_1182))]) [0, 1, 2, 3, 4, 5, 6, 7, 8, 9] rfl
      have hD9 := hD.sub (ws' := [(h0, .inr (13, z1182)), (qf100, .inl (cf100, 48000, .inl f100)), (qf128, .inl (cf128, 31, .inl g128_1182)), (qf127, .inl (cf127, 30, .inl g127_1182)), (qf104, .inl (cf104, 8, .inl f104)), (qf102, .inl (cf102, 2048, .inl f102)), (qf118, .inl (cf118, 2100, .inl g118_1182)), (qf119, .inl (cf119, 2100, .inl g119_1182)), (qf105, .inl (cf105, 8, .inl f105)), (qf137, .inl (cf137, 6, .inl g137_1182))]) [0, 1, 2, 3, 4, 5, 6, 7, 8, 9] (by decide) rfl
      have hK9 := hK.sub (tys' := [(cf100, .int), (cf128, .int), (cf127, .int), (cf104, .int), (cf102, .int), (cf118, .int), (cf119, .int), (cf105, .int), (cf137, .int)]) [0, 1, 2, 3, 4, 5, 6, 7, 8] rfl
      exact W.zret hx hb hr (by decide) (fun t ht hW => ⟨⟨(1), (z1182), rfl, ⟨⟨rfl, Or.inr rfl⟩, hlh_1182, hrh_1182, hfh_1182_117, hfh_1182_120, hfh_1182_131⟩, by rw [ht]; exact hP9, va_K.moved hW.alike hK9, hD9⟩, hS.F ht⟩) hS.2.2 dX13_wanted_1182
  intro hret_1182
  refine jn_use (α := Heap × List Loc × Array Slot × List Value × Int32 × (Nat → Int32) × (Nat → Int32) × (Nat → Int32) × (Nat → Int32) × (Nat → Int32) × Int32 × Int32 × Int32) (fun x9 => x9.1) (fun x9 => x9.2.1) (fun x9 => F0 m 1204 x9.2.2.1 [.int (x9.2.2.2.2.1)]) (fun x9 => match x9 with | (H, locs, ls, z1204, rr_1204, g118_1204, g119_1204, g127_1204, g128_1204, g137_1204, x117_1204, x120_1204, x131_1204) => va_S A s.heap H locs ∧ va_D A [(h0, .inr (13, z1204)), (qf100, .inl (cf100, 48000, .inl f100)), (qf128, .inl (cf128, 31, .inl g128_1204)), (qf127, .inl (cf127, 30, .inl g127_1204)), (qf104, .inl (cf104, 8, .inl f104)), (qf102, .inl (cf102, 2048, .inl f102)), (qf118, .inl (cf118, 2100, .inl g118_1204)), (qf119, .inl (cf119, 2100, .inl g119_1204)), (qf105, .inl (cf105, 8, .inl f105)), (qf137, .inl (cf137, 6, .inl g137_1204))] ∧ va_P (dC, dI) vwCl [(h0, .inr (13, z1204)), (qf100, .inl (cf100, 48000, .inl f100)), (qf128, .inl (cf128, 31, .inl g128_1204)), (qf127, .inl (cf127, 30, .inl g127_1204)), (qf104, .inl (cf104, 8, .inl f104)), (qf102, .inl (cf102, 2048, .inl f102)), (qf118, .inl (cf118, 2100, .inl g118_1204)), (qf119, .inl (cf119, 2100, .inl g119_1204)), (qf105, .inl (cf105, 8, .inl f105)), (qf137, .inl (cf137, 6, .inl g137_1204))] H ∧ z1204[98]? = some (.int v98) ∧ z1204[100]? = some (.ref qf100) ∧ z1204[102]? = some (.ref qf102) ∧ z1204[104]? = some (.ref qf104) ∧ z1204[105]? = some (.ref qf105) ∧ z1204[117]? = some (.int x117_1204) ∧ z1204[118]? = some (.ref qf118) ∧ z1204[119]? = some (.ref qf119) ∧ z1204[120]? = some (.int x120_1204) ∧ z1204[127]? = some (.ref qf127) ∧ z1204[128]? = some (.ref qf128) ∧ z1204[129]? = some (.int v129) ∧ z1204[130]? = some (.int v130) ∧ z1204[131]? = some (.int x131_1204) ∧ z1204[132]? = some (.int v132) ∧ z1204[134]? = some (.int v134) ∧ z1204[136]? = some (.int v136) ∧ z1204[137]? = some (.ref qf137) ∧ z1204.length = 155 ∧ (∀ j : Nat, j ≠ 117 → j ≠ 120 → j ≠ 131 → z1204[j]? = zs[j]?) ∧ (rr_1204 = 0 ∨ rr_1204 = 1) ∧ some (rr_1204, g118_1204, g119_1204, g127_1204, g128_1204, g137_1204, x117_1204, x120_1204, x131_1204) = some (r0, o118, o119, o127, o128, o137, w117, w120, w131)) ?_ ?_
  · intro x9 hJ9
    obtain ⟨H, locs, ls, z1204, rr_1204, g118_1204, g119_1204, g127_1204, g128_1204, g137_1204, x117_1204, x120_1204, x131_1204⟩ := x9
    obtain ⟨hS, hD, hP, hfh_1204_98, hfh_1204_100, hfh_1204_102, hfh_1204_104, hfh_1204_105, hfh_1204_117, hfh_1204_118, hfh_1204_119, hfh_1204_120, hfh_1204_127, hfh_1204_128, hfh_1204_129, hfh_1204_130, hfh_1204_131, hfh_1204_132, hfh_1204_134, hfh_1204_136, hfh_1204_137, hlh_1204, hrh_1204, hz9, hsp⟩ := hJ9
    replace hS : va_S A s.heap H locs := hS
    replace hD : va_D A [(h0, .inr (13, z1204)), (qf100, .inl (cf100, 48000, .inl f100)), (qf128, .inl (cf128, 31, .inl g128_1204)), (qf127, .inl (cf127, 30, .inl g127_1204)), (qf104, .inl (cf104, 8, .inl f104)), (qf102, .inl (cf102, 2048, .inl f102)), (qf118, .inl (cf118, 2100, .inl g118_1204)), (qf119, .inl (cf119, 2100, .inl g119_1204)), (qf105, .inl (cf105, 8, .inl f105)), (qf137, .inl (cf137, 6, .inl g137_1204))] := hD
    replace hP : va_P (dC, dI) vwCl [(h0, .inr (13, z1204)), (qf100, .inl (cf100, 48000, .inl f100)), (qf128, .inl (cf128, 31, .inl g128_1204)), (qf127, .inl (cf127, 30, .inl g127_1204)), (qf104, .inl (cf104, 8, .inl f104)), (qf102, .inl (cf102, 2048, .inl f102)), (qf118, .inl (cf118, 2100, .inl g118_1204)), (qf119, .inl (cf119, 2100, .inl g119_1204)), (qf105, .inl (cf105, 8, .inl f105)), (qf137, .inl (cf137, 6, .inl g137_1204))] H := hP
    replace hsp : some (rr_1204, g118_1204, g119_1204, g127_1204, g128_1204, g137_1204, x117_1204, x120_1204, x131_1204) = some (r0, o118, o119, o127, o128, o137, w117, w120, w131) := hsp
    show W _ _ _ _ _ _ _ _ _ _ H locs _ _ _ (F0 m 1204 ls [.int rr_1204])
    rcases hz9 with rfl | rfl
    · skip
      have hr0 := Option.some.inj hsp
      clear hsp
      obtain ⟨hq0, hr1⟩ := Prod.mk.inj hr0
      clear hr0
      obtain ⟨hq1, hr2⟩ := Prod.mk.inj hr1
      clear hr1
      obtain ⟨hq2, hr3⟩ := Prod.mk.inj hr2
      clear hr2
      obtain ⟨hq3, hr4⟩ := Prod.mk.inj hr3
      clear hr3
      obtain ⟨hq4, hr5⟩ := Prod.mk.inj hr4
      clear hr4
      obtain ⟨hq5, hr6⟩ := Prod.mk.inj hr5
      clear hr5
      obtain ⟨hq6, hr7⟩ := Prod.mk.inj hr6
      clear hr6
      obtain ⟨hq7, hr8⟩ := Prod.mk.inj hr7
      clear hr7
      subst hq0
      subst hq1
      subst hq2
      subst hq3
      subst hq4
      subst hq5
      subst hq6
      subst hq7
      subst hr8
      have hP9 := hP.sub (ws' := [(h0, .inr (13, z1204)), (qf100, .inl (cf100, 48000, .inl f100)), (qf128, .inl (cf128, 31, .inl g128_1204)), (qf127, .inl (cf127, 30, .inl g127_1204)), (qf104, .inl (cf104, 8, .inl f104)), (qf102, .inl (cf102, 2048, .inl f102)), (qf118, .inl (cf118, 2100, .inl g118_1204)), (qf119, .inl (cf119, 2100, .inl g119_1204)), (qf105, .inl (cf105, 8, .inl f105)), (qf137, .inl (cf137, 6, .inl g137_1204))]) [0, 1, 2, 3, 4, 5, 6, 7, 8, 9] rfl
      have hD9 := hD.sub (ws' := [(h0, .inr (13, z1204)), (qf100, .inl (cf100, 48000, .inl f100)), (qf128, .inl (cf128, 31, .inl g128_1204)), (qf127, .inl (cf127, 30, .inl g127_1204)), (qf104, .inl (cf104, 8, .inl f104)), (qf102, .inl (cf102, 2048, .inl f102)), (qf118, .inl (cf118, 2100, .inl g118_1204)), (qf119, .inl (cf119, 2100, .inl g119_1204)), (qf105, .inl (cf105, 8, .inl f105)), (qf137, .inl (cf137, 6, .inl g137_1204))]) [0, 1, 2, 3, 4, 5, 6, 7, 8, 9] (by decide) rfl
      have hK9 := hK.sub (tys' := [(cf100, .int), (cf128, .int), (cf127, .int), (cf104, .int), (cf102, .int), (cf118, .int), (cf119, .int), (cf105, .int), (cf137, .int)]) [0, 1, 2, 3, 4, 5, 6, 7, 8] rfl
      exact W.zret hx hb hr (by decide) (fun t ht hW => ⟨⟨(0), (z1204), rfl, ⟨⟨rfl, Or.inl rfl⟩, hlh_1204, hrh_1204, hfh_1204_117, hfh_1204_120, hfh_1204_131⟩, by rw [ht]; exact hP9, va_K.moved hW.alike hK9, hD9⟩, hS.F ht⟩) hS.2.2 dX13_wanted_1204
    · skip
      have hr0 := Option.some.inj hsp
      clear hsp
      obtain ⟨hq0, hr1⟩ := Prod.mk.inj hr0
      clear hr0
      obtain ⟨hq1, hr2⟩ := Prod.mk.inj hr1
      clear hr1
      obtain ⟨hq2, hr3⟩ := Prod.mk.inj hr2
      clear hr2
      obtain ⟨hq3, hr4⟩ := Prod.mk.inj hr3
      clear hr3
      obtain ⟨hq4, hr5⟩ := Prod.mk.inj hr4
      clear hr4
      obtain ⟨hq5, hr6⟩ := Prod.mk.inj hr5
      clear hr5
      obtain ⟨hq6, hr7⟩ := Prod.mk.inj hr6
      clear hr6
      obtain ⟨hq7, hr8⟩ := Prod.mk.inj hr7
      clear hr7
      subst hq0
      subst hq1
      subst hq2
      subst hq3
      subst hq4
      subst hq5
      subst hq6
      subst hq7
      subst hr8
      have hP9 := hP.sub (ws' := [(h0, .inr (13, z1204)), (qf100, .inl (cf100, 48000, .inl f100)), (qf128, .inl (cf128, 31, .inl g128_1204)), (qf127, .inl (cf127, 30, .inl g127_1204)), (qf104, .inl (cf104, 8, .inl f104)), (qf102, .inl (cf102, 2048, .inl f102)), (qf118, .inl (cf118, 2100, .inl g118_1204)), (qf119, .inl (cf119, 2100, .inl g119_1204)), (qf105, .inl (cf105, 8, .inl f105)), (qf137, .inl (cf137, 6, .inl g137_1204))]) [0, 1, 2, 3, 4, 5, 6, 7, 8, 9] rfl
      have hD9 := hD.sub (ws' := [(h0, .inr (13, z1204)), (qf100, .inl (cf100, 48000, .inl f100)), (qf128, .inl (cf128, 31, .inl g128_1204)), (qf127, .inl (cf127, 30, .inl g127_1204)), (qf104, .inl (cf104, 8, .inl f104)), (qf102, .inl (cf102, 2048, .inl f102)), (qf118, .inl (cf118, 2100, .inl g118_1204)), (qf119, .inl (cf119, 2100, .inl g119_1204)), (qf105, .inl (cf105, 8, .inl f105)), (qf137, .inl (cf137, 6, .inl g137_1204))]) [0, 1, 2, 3, 4, 5, 6, 7, 8, 9] (by decide) rfl
      have hK9 := hK.sub (tys' := [(cf100, .int), (cf128, .int), (cf127, .int), (cf104, .int), (cf102, .int), (cf118, .int), (cf119, .int), (cf105, .int), (cf137, .int)]) [0, 1, 2, 3, 4, 5, 6, 7, 8] rfl
      exact W.zret hx hb hr (by decide) (fun t ht hW => ⟨⟨(1), (z1204), rfl, ⟨⟨rfl, Or.inr rfl⟩, hlh_1204, hrh_1204, hfh_1204_117, hfh_1204_120, hfh_1204_131⟩, by rw [ht]; exact hP9, va_K.moved hW.alike hK9, hD9⟩, hS.F ht⟩) hS.2.2 dX13_wanted_1204
  intro hret_1204
  refine jn_use (α := Heap × List Loc × Array Slot × List Value × Int32 × (Nat → Int32) × (Nat → Int32) × (Nat → Int32) × (Nat → Int32) × (Nat → Int32) × Int32 × Int32 × Int32) (fun x9 => x9.1) (fun x9 => x9.2.1) (fun x9 => F0 m 1226 x9.2.2.1 [.int (x9.2.2.2.2.1)]) (fun x9 => match x9 with | (H, locs, ls, z1226, rr_1226, g118_1226, g119_1226, g127_1226, g128_1226, g137_1226, x117_1226, x120_1226, x131_1226) => va_S A s.heap H locs ∧ va_D A [(h0, .inr (13, z1226)), (qf100, .inl (cf100, 48000, .inl f100)), (qf128, .inl (cf128, 31, .inl g128_1226)), (qf127, .inl (cf127, 30, .inl g127_1226)), (qf104, .inl (cf104, 8, .inl f104)), (qf102, .inl (cf102, 2048, .inl f102)), (qf118, .inl (cf118, 2100, .inl g118_1226)), (qf119, .inl (cf119, 2100, .inl g119_1226)), (qf105, .inl (cf105, 8, .inl f105)), (qf137, .inl (cf137, 6, .inl g137_1226))] ∧ va_P (dC, dI) vwCl [(h0, .inr (13, z1226)), (qf100, .inl (cf100, 48000, .inl f100)), (qf128, .inl (cf128, 31, .inl g128_1226)), (qf127, .inl (cf127, 30, .inl g127_1226)), (qf104, .inl (cf104, 8, .inl f104)), (qf102, .inl (cf102, 2048, .inl f102)), (qf118, .inl (cf118, 2100, .inl g118_1226)), (qf119, .inl (cf119, 2100, .inl g119_1226)), (qf105, .inl (cf105, 8, .inl f105)), (qf137, .inl (cf137, 6, .inl g137_1226))] H ∧ z1226[98]? = some (.int v98) ∧ z1226[100]? = some (.ref qf100) ∧ z1226[102]? = some (.ref qf102) ∧ z1226[104]? = some (.ref qf104) ∧ z1226[105]? = some (.ref qf105) ∧ z1226[117]? = some (.int x117_1226) ∧ z1226[118]? = some (.ref qf118) ∧ z1226[119]? = some (.ref qf119) ∧ z1226[120]? = some (.int x120_1226) ∧ z1226[127]? = some (.ref qf127) ∧ z1226[128]? = some (.ref qf128) ∧ z1226[129]? = some (.int v129) ∧ z1226[130]? = some (.int v130) ∧ z1226[131]? = some (.int x131_1226) ∧ z1226[132]? = some (.int v132) ∧ z1226[134]? = some (.int v134) ∧ z1226[136]? = some (.int v136) ∧ z1226[137]? = some (.ref qf137) ∧ z1226.length = 155 ∧ (∀ j : Nat, j ≠ 117 → j ≠ 120 → j ≠ 131 → z1226[j]? = zs[j]?) ∧ (rr_1226 = 0 ∨ rr_1226 = 1) ∧ some (rr_1226, g118_1226, g119_1226, g127_1226, g128_1226, g137_1226, x117_1226, x120_1226, x131_1226) = some (r0, o118, o119, o127, o128, o137, w117, w120, w131)) ?_ ?_
  · intro x9 hJ9
    obtain ⟨H, locs, ls, z1226, rr_1226, g118_1226, g119_1226, g127_1226, g128_1226, g137_1226, x117_1226, x120_1226, x131_1226⟩ := x9
    obtain ⟨hS, hD, hP, hfh_1226_98, hfh_1226_100, hfh_1226_102, hfh_1226_104, hfh_1226_105, hfh_1226_117, hfh_1226_118, hfh_1226_119, hfh_1226_120, hfh_1226_127, hfh_1226_128, hfh_1226_129, hfh_1226_130, hfh_1226_131, hfh_1226_132, hfh_1226_134, hfh_1226_136, hfh_1226_137, hlh_1226, hrh_1226, hz9, hsp⟩ := hJ9
    replace hS : va_S A s.heap H locs := hS
    replace hD : va_D A [(h0, .inr (13, z1226)), (qf100, .inl (cf100, 48000, .inl f100)), (qf128, .inl (cf128, 31, .inl g128_1226)), (qf127, .inl (cf127, 30, .inl g127_1226)), (qf104, .inl (cf104, 8, .inl f104)), (qf102, .inl (cf102, 2048, .inl f102)), (qf118, .inl (cf118, 2100, .inl g118_1226)), (qf119, .inl (cf119, 2100, .inl g119_1226)), (qf105, .inl (cf105, 8, .inl f105)), (qf137, .inl (cf137, 6, .inl g137_1226))] := hD
    replace hP : va_P (dC, dI) vwCl [(h0, .inr (13, z1226)), (qf100, .inl (cf100, 48000, .inl f100)), (qf128, .inl (cf128, 31, .inl g128_1226)), (qf127, .inl (cf127, 30, .inl g127_1226)), (qf104, .inl (cf104, 8, .inl f104)), (qf102, .inl (cf102, 2048, .inl f102)), (qf118, .inl (cf118, 2100, .inl g118_1226)), (qf119, .inl (cf119, 2100, .inl g119_1226)), (qf105, .inl (cf105, 8, .inl f105)), (qf137, .inl (cf137, 6, .inl g137_1226))] H := hP
    replace hsp : some (rr_1226, g118_1226, g119_1226, g127_1226, g128_1226, g137_1226, x117_1226, x120_1226, x131_1226) = some (r0, o118, o119, o127, o128, o137, w117, w120, w131) := hsp
    show W _ _ _ _ _ _ _ _ _ _ H locs _ _ _ (F0 m 1226 ls [.int rr_1226])
    rcases hz9 with rfl | rfl
    · skip
      have hr0 := Option.some.inj hsp
      clear hsp
      obtain ⟨hq0, hr1⟩ := Prod.mk.inj hr0
      clear hr0
      obtain ⟨hq1, hr2⟩ := Prod.mk.inj hr1
      clear hr1
      obtain ⟨hq2, hr3⟩ := Prod.mk.inj hr2
      clear hr2
      obtain ⟨hq3, hr4⟩ := Prod.mk.inj hr3
      clear hr3
      obtain ⟨hq4, hr5⟩ := Prod.mk.inj hr4
      clear hr4
      obtain ⟨hq5, hr6⟩ := Prod.mk.inj hr5
      clear hr5
      obtain ⟨hq6, hr7⟩ := Prod.mk.inj hr6
      clear hr6
      obtain ⟨hq7, hr8⟩ := Prod.mk.inj hr7
      clear hr7
      subst hq0
      subst hq1
      subst hq2
      subst hq3
      subst hq4
      subst hq5
      subst hq6
      subst hq7
      subst hr8
      have hP9 := hP.sub (ws' := [(h0, .inr (13, z1226)), (qf100, .inl (cf100, 48000, .inl f100)), (qf128, .inl (cf128, 31, .inl g128_1226)), (qf127, .inl (cf127, 30, .inl g127_1226)), (qf104, .inl (cf104, 8, .inl f104)), (qf102, .inl (cf102, 2048, .inl f102)), (qf118, .inl (cf118, 2100, .inl g118_1226)), (qf119, .inl (cf119, 2100, .inl g119_1226)), (qf105, .inl (cf105, 8, .inl f105)), (qf137, .inl (cf137, 6, .inl g137_1226))]) [0, 1, 2, 3, 4, 5, 6, 7, 8, 9] rfl
      have hD9 := hD.sub (ws' := [(h0, .inr (13, z1226)), (qf100, .inl (cf100, 48000, .inl f100)), (qf128, .inl (cf128, 31, .inl g128_1226)), (qf127, .inl (cf127, 30, .inl g127_1226)), (qf104, .inl (cf104, 8, .inl f104)), (qf102, .inl (cf102, 2048, .inl f102)), (qf118, .inl (cf118, 2100, .inl g118_1226)), (qf119, .inl (cf119, 2100, .inl g119_1226)), (qf105, .inl (cf105, 8, .inl f105)), (qf137, .inl (cf137, 6, .inl g137_1226))]) [0, 1, 2, 3, 4, 5, 6, 7, 8, 9] (by decide) rfl
      have hK9 := hK.sub (tys' := [(cf100, .int), (cf128, .int), (cf127, .int), (cf104, .int), (cf102, .int), (cf118, .int), (cf119, .int), (cf105, .int), (cf137, .int)]) [0, 1, 2, 3, 4, 5, 6, 7, 8] rfl
      exact W.zret hx hb hr (by decide) (fun t ht hW => ⟨⟨(0), (z1226), rfl, ⟨⟨rfl, Or.inl rfl⟩, hlh_1226, hrh_1226, hfh_1226_117, hfh_1226_120, hfh_1226_131⟩, by rw [ht]; exact hP9, va_K.moved hW.alike hK9, hD9⟩, hS.F ht⟩) hS.2.2 dX13_wanted_1226
    · skip
      have hr0 := Option.some.inj hsp
      clear hsp
      obtain ⟨hq0, hr1⟩ := Prod.mk.inj hr0
      clear hr0
      obtain ⟨hq1, hr2⟩ := Prod.mk.inj hr1
      clear hr1
      obtain ⟨hq2, hr3⟩ := Prod.mk.inj hr2
      clear hr2
      obtain ⟨hq3, hr4⟩ := Prod.mk.inj hr3
      clear hr3
      obtain ⟨hq4, hr5⟩ := Prod.mk.inj hr4
      clear hr4
      obtain ⟨hq5, hr6⟩ := Prod.mk.inj hr5
      clear hr5
      obtain ⟨hq6, hr7⟩ := Prod.mk.inj hr6
      clear hr6
      obtain ⟨hq7, hr8⟩ := Prod.mk.inj hr7
      clear hr7
      subst hq0
      subst hq1
      subst hq2
      subst hq3
      subst hq4
      subst hq5
      subst hq6
      subst hq7
      subst hr8
      have hP9 := hP.sub (ws' := [(h0, .inr (13, z1226)), (qf100, .inl (cf100, 48000, .inl f100)), (qf128, .inl (cf128, 31, .inl g128_1226)), (qf127, .inl (cf127, 30, .inl g127_1226)), (qf104, .inl (cf104, 8, .inl f104)), (qf102, .inl (cf102, 2048, .inl f102)), (qf118, .inl (cf118, 2100, .inl g118_1226)), (qf119, .inl (cf119, 2100, .inl g119_1226)), (qf105, .inl (cf105, 8, .inl f105)), (qf137, .inl (cf137, 6, .inl g137_1226))]) [0, 1, 2, 3, 4, 5, 6, 7, 8, 9] rfl
      have hD9 := hD.sub (ws' := [(h0, .inr (13, z1226)), (qf100, .inl (cf100, 48000, .inl f100)), (qf128, .inl (cf128, 31, .inl g128_1226)), (qf127, .inl (cf127, 30, .inl g127_1226)), (qf104, .inl (cf104, 8, .inl f104)), (qf102, .inl (cf102, 2048, .inl f102)), (qf118, .inl (cf118, 2100, .inl g118_1226)), (qf119, .inl (cf119, 2100, .inl g119_1226)), (qf105, .inl (cf105, 8, .inl f105)), (qf137, .inl (cf137, 6, .inl g137_1226))]) [0, 1, 2, 3, 4, 5, 6, 7, 8, 9] (by decide) rfl
      have hK9 := hK.sub (tys' := [(cf100, .int), (cf128, .int), (cf127, .int), (cf104, .int), (cf102, .int), (cf118, .int), (cf119, .int), (cf105, .int), (cf137, .int)]) [0, 1, 2, 3, 4, 5, 6, 7, 8] rfl
      exact W.zret hx hb hr (by decide) (fun t ht hW => ⟨⟨(1), (z1226), rfl, ⟨⟨rfl, Or.inr rfl⟩, hlh_1226, hrh_1226, hfh_1226_117, hfh_1226_120, hfh_1226_131⟩, by rw [ht]; exact hP9, va_K.moved hW.alike hK9, hD9⟩, hS.F ht⟩) hS.2.2 dX13_wanted_1226
  intro hret_1226
  refine jn_use (α := Heap × List Loc × Array Slot × List Value × Int32 × (Nat → Int32) × (Nat → Int32) × (Nat → Int32) × (Nat → Int32) × (Nat → Int32) × Int32 × Int32 × Int32) (fun x9 => x9.1) (fun x9 => x9.2.1) (fun x9 => F0 m 1232 x9.2.2.1 [.int (x9.2.2.2.2.1)]) (fun x9 => match x9 with | (H, locs, ls, z1232, rr_1232, g118_1232, g119_1232, g127_1232, g128_1232, g137_1232, x117_1232, x120_1232, x131_1232) => va_S A s.heap H locs ∧ va_D A [(h0, .inr (13, z1232)), (qf100, .inl (cf100, 48000, .inl f100)), (qf128, .inl (cf128, 31, .inl g128_1232)), (qf127, .inl (cf127, 30, .inl g127_1232)), (qf104, .inl (cf104, 8, .inl f104)), (qf102, .inl (cf102, 2048, .inl f102)), (qf118, .inl (cf118, 2100, .inl g118_1232)), (qf119, .inl (cf119, 2100, .inl g119_1232)), (qf105, .inl (cf105, 8, .inl f105)), (qf137, .inl (cf137, 6, .inl g137_1232))] ∧ va_P (dC, dI) vwCl [(h0, .inr (13, z1232)), (qf100, .inl (cf100, 48000, .inl f100)), (qf128, .inl (cf128, 31, .inl g128_1232)), (qf127, .inl (cf127, 30, .inl g127_1232)), (qf104, .inl (cf104, 8, .inl f104)), (qf102, .inl (cf102, 2048, .inl f102)), (qf118, .inl (cf118, 2100, .inl g118_1232)), (qf119, .inl (cf119, 2100, .inl g119_1232)), (qf105, .inl (cf105, 8, .inl f105)), (qf137, .inl (cf137, 6, .inl g137_1232))] H ∧ z1232[98]? = some (.int v98) ∧ z1232[100]? = some (.ref qf100) ∧ z1232[102]? = some (.ref qf102) ∧ z1232[104]? = some (.ref qf104) ∧ z1232[105]? = some (.ref qf105) ∧ z1232[117]? = some (.int x117_1232) ∧ z1232[118]? = some (.ref qf118) ∧ z1232[119]? = some (.ref qf119) ∧ z1232[120]? = some (.int x120_1232) ∧ z1232[127]? = some (.ref qf127) ∧ z1232[128]? = some (.ref qf128) ∧ z1232[129]? = some (.int v129) ∧ z1232[130]? = some (.int v130) ∧ z1232[131]? = some (.int x131_1232) ∧ z1232[132]? = some (.int v132) ∧ z1232[134]? = some (.int v134) ∧ z1232[136]? = some (.int v136) ∧ z1232[137]? = some (.ref qf137) ∧ z1232.length = 155 ∧ (∀ j : Nat, j ≠ 117 → j ≠ 120 → j ≠ 131 → z1232[j]? = zs[j]?) ∧ (rr_1232 = 0 ∨ rr_1232 = 1) ∧ some (rr_1232, g118_1232, g119_1232, g127_1232, g128_1232, g137_1232, x117_1232, x120_1232, x131_1232) = some (r0, o118, o119, o127, o128, o137, w117, w120, w131)) ?_ ?_
  · intro x9 hJ9
    obtain ⟨H, locs, ls, z1232, rr_1232, g118_1232, g119_1232, g127_1232, g128_1232, g137_1232, x117_1232, x120_1232, x131_1232⟩ := x9
    obtain ⟨hS, hD, hP, hfh_1232_98, hfh_1232_100, hfh_1232_102, hfh_1232_104, hfh_1232_105, hfh_1232_117, hfh_1232_118, hfh_1232_119, hfh_1232_120, hfh_1232_127, hfh_1232_128, hfh_1232_129, hfh_1232_130, hfh_1232_131, hfh_1232_132, hfh_1232_134, hfh_1232_136, hfh_1232_137, hlh_1232, hrh_1232, hz9, hsp⟩ := hJ9
    replace hS : va_S A s.heap H locs := hS
    replace hD : va_D A [(h0, .inr (13, z1232)), (qf100, .inl (cf100, 48000, .inl f100)), (qf128, .inl (cf128, 31, .inl g128_1232)), (qf127, .inl (cf127, 30, .inl g127_1232)), (qf104, .inl (cf104, 8, .inl f104)), (qf102, .inl (cf102, 2048, .inl f102)), (qf118, .inl (cf118, 2100, .inl g118_1232)), (qf119, .inl (cf119, 2100, .inl g119_1232)), (qf105, .inl (cf105, 8, .inl f105)), (qf137, .inl (cf137, 6, .inl g137_1232))] := hD
    replace hP : va_P (dC, dI) vwCl [(h0, .inr (13, z1232)), (qf100, .inl (cf100, 48000, .inl f100)), (qf128, .inl (cf128, 31, .inl g128_1232)), (qf127, .inl (cf127, 30, .inl g127_1232)), (qf104, .inl (cf104, 8, .inl f104)), (qf102, .inl (cf102, 2048, .inl f102)), (qf118, .inl (cf118, 2100, .inl g118_1232)), (qf119, .inl (cf119, 2100, .inl g119_1232)), (qf105, .inl (cf105, 8, .inl f105)), (qf137, .inl (cf137, 6, .inl g137_1232))] H := hP
    replace hsp : some (rr_1232, g118_1232, g119_1232, g127_1232, g128_1232, g137_1232, x117_1232, x120_1232, x131_1232) = some (r0, o118, o119, o127, o128, o137, w117, w120, w131) := hsp
    show W _ _ _ _ _ _ _ _ _ _ H locs _ _ _ (F0 m 1232 ls [.int rr_1232])
    rcases hz9 with rfl | rfl
    · skip
      have hr0 := Option.some.inj hsp
      clear hsp
      obtain ⟨hq0, hr1⟩ := Prod.mk.inj hr0
      clear hr0
      obtain ⟨hq1, hr2⟩ := Prod.mk.inj hr1
      clear hr1
      obtain ⟨hq2, hr3⟩ := Prod.mk.inj hr2
      clear hr2
      obtain ⟨hq3, hr4⟩ := Prod.mk.inj hr3
      clear hr3
      obtain ⟨hq4, hr5⟩ := Prod.mk.inj hr4
      clear hr4
      obtain ⟨hq5, hr6⟩ := Prod.mk.inj hr5
      clear hr5
      obtain ⟨hq6, hr7⟩ := Prod.mk.inj hr6
      clear hr6
      obtain ⟨hq7, hr8⟩ := Prod.mk.inj hr7
      clear hr7
      subst hq0
      subst hq1
      subst hq2
      subst hq3
      subst hq4
      subst hq5
      subst hq6
      subst hq7
      subst hr8
      have hP9 := hP.sub (ws' := [(h0, .inr (13, z1232)), (qf100, .inl (cf100, 48000, .inl f100)), (qf128, .inl (cf128, 31, .inl g128_1232)), (qf127, .inl (cf127, 30, .inl g127_1232)), (qf104, .inl (cf104, 8, .inl f104)), (qf102, .inl (cf102, 2048, .inl f102)), (qf118, .inl (cf118, 2100, .inl g118_1232)), (qf119, .inl (cf119, 2100, .inl g119_1232)), (qf105, .inl (cf105, 8, .inl f105)), (qf137, .inl (cf137, 6, .inl g137_1232))]) [0, 1, 2, 3, 4, 5, 6, 7, 8, 9] rfl
      have hD9 := hD.sub (ws' := [(h0, .inr (13, z1232)), (qf100, .inl (cf100, 48000, .inl f100)), (qf128, .inl (cf128, 31, .inl g128_1232)), (qf127, .inl (cf127, 30, .inl g127_1232)), (qf104, .inl (cf104, 8, .inl f104)), (qf102, .inl (cf102, 2048, .inl f102)), (qf118, .inl (cf118, 2100, .inl g118_1232)), (qf119, .inl (cf119, 2100, .inl g119_1232)), (qf105, .inl (cf105, 8, .inl f105)), (qf137, .inl (cf137, 6, .inl g137_1232))]) [0, 1, 2, 3, 4, 5, 6, 7, 8, 9] (by decide) rfl
      have hK9 := hK.sub (tys' := [(cf100, .int), (cf128, .int), (cf127, .int), (cf104, .int), (cf102, .int), (cf118, .int), (cf119, .int), (cf105, .int), (cf137, .int)]) [0, 1, 2, 3, 4, 5, 6, 7, 8] rfl
      exact W.zret hx hb hr (by decide) (fun t ht hW => ⟨⟨(0), (z1232), rfl, ⟨⟨rfl, Or.inl rfl⟩, hlh_1232, hrh_1232, hfh_1232_117, hfh_1232_120, hfh_1232_131⟩, by rw [ht]; exact hP9, va_K.moved hW.alike hK9, hD9⟩, hS.F ht⟩) hS.2.2 dX13_wanted_1232
    · skip
      have hr0 := Option.some.inj hsp
      clear hsp
      obtain ⟨hq0, hr1⟩ := Prod.mk.inj hr0
      clear hr0
      obtain ⟨hq1, hr2⟩ := Prod.mk.inj hr1
      clear hr1
      obtain ⟨hq2, hr3⟩ := Prod.mk.inj hr2
      clear hr2
      obtain ⟨hq3, hr4⟩ := Prod.mk.inj hr3
      clear hr3
      obtain ⟨hq4, hr5⟩ := Prod.mk.inj hr4
      clear hr4
      obtain ⟨hq5, hr6⟩ := Prod.mk.inj hr5
      clear hr5
      obtain ⟨hq6, hr7⟩ := Prod.mk.inj hr6
      clear hr6
      obtain ⟨hq7, hr8⟩ := Prod.mk.inj hr7
      clear hr7
      subst hq0
      subst hq1
      subst hq2
      subst hq3
      subst hq4
      subst hq5
      subst hq6
      subst hq7
      subst hr8
      have hP9 := hP.sub (ws' := [(h0, .inr (13, z1232)), (qf100, .inl (cf100, 48000, .inl f100)), (qf128, .inl (cf128, 31, .inl g128_1232)), (qf127, .inl (cf127, 30, .inl g127_1232)), (qf104, .inl (cf104, 8, .inl f104)), (qf102, .inl (cf102, 2048, .inl f102)), (qf118, .inl (cf118, 2100, .inl g118_1232)), (qf119, .inl (cf119, 2100, .inl g119_1232)), (qf105, .inl (cf105, 8, .inl f105)), (qf137, .inl (cf137, 6, .inl g137_1232))]) [0, 1, 2, 3, 4, 5, 6, 7, 8, 9] rfl
      have hD9 := hD.sub (ws' := [(h0, .inr (13, z1232)), (qf100, .inl (cf100, 48000, .inl f100)), (qf128, .inl (cf128, 31, .inl g128_1232)), (qf127, .inl (cf127, 30, .inl g127_1232)), (qf104, .inl (cf104, 8, .inl f104)), (qf102, .inl (cf102, 2048, .inl f102)), (qf118, .inl (cf118, 2100, .inl g118_1232)), (qf119, .inl (cf119, 2100, .inl g119_1232)), (qf105, .inl (cf105, 8, .inl f105)), (qf137, .inl (cf137, 6, .inl g137_1232))]) [0, 1, 2, 3, 4, 5, 6, 7, 8, 9] (by decide) rfl
      have hK9 := hK.sub (tys' := [(cf100, .int), (cf128, .int), (cf127, .int), (cf104, .int), (cf102, .int), (cf118, .int), (cf119, .int), (cf105, .int), (cf137, .int)]) [0, 1, 2, 3, 4, 5, 6, 7, 8] rfl
      exact W.zret hx hb hr (by decide) (fun t ht hW => ⟨⟨(1), (z1232), rfl, ⟨⟨rfl, Or.inr rfl⟩, hlh_1232, hrh_1232, hfh_1232_117, hfh_1232_120, hfh_1232_131⟩, by rw [ht]; exact hP9, va_K.moved hW.alike hK9, hD9⟩, hS.F ht⟩) hS.2.2 dX13_wanted_1232
  intro hret_1232
  refine jn_use (α := Heap × List Loc × Array Slot × List Value × Int32 × (Nat → Int32) × (Nat → Int32) × (Nat → Int32) × (Nat → Int32) × (Nat → Int32) × Int32 × Int32 × Int32) (fun x9 => x9.1) (fun x9 => x9.2.1) (fun x9 => F0 m 1238 x9.2.2.1 [.int (x9.2.2.2.2.1)]) (fun x9 => match x9 with | (H, locs, ls, z1238, rr_1238, g118_1238, g119_1238, g127_1238, g128_1238, g137_1238, x117_1238, x120_1238, x131_1238) => va_S A s.heap H locs ∧ va_D A [(h0, .inr (13, z1238)), (qf100, .inl (cf100, 48000, .inl f100)), (qf128, .inl (cf128, 31, .inl g128_1238)), (qf127, .inl (cf127, 30, .inl g127_1238)), (qf104, .inl (cf104, 8, .inl f104)), (qf102, .inl (cf102, 2048, .inl f102)), (qf118, .inl (cf118, 2100, .inl g118_1238)), (qf119, .inl (cf119, 2100, .inl g119_1238)), (qf105, .inl (cf105, 8, .inl f105)), (qf137, .inl (cf137, 6, .inl g137_1238))] ∧ va_P (dC, dI) vwCl [(h0, .inr (13, z1238)), (qf100, .inl (cf100, 48000, .inl f100)), (qf128, .inl (cf128, 31, .inl g128_1238)), (qf127, .inl (cf127, 30, .inl g127_1238)), (qf104, .inl (cf104, 8, .inl f104)), (qf102, .inl (cf102, 2048, .inl f102)), (qf118, .inl (cf118, 2100, .inl g118_1238)), (qf119, .inl (cf119, 2100, .inl g119_1238)), (qf105, .inl (cf105, 8, .inl f105)), (qf137, .inl (cf137, 6, .inl g137_1238))] H ∧ z1238[98]? = some (.int v98) ∧ z1238[100]? = some (.ref qf100) ∧ z1238[102]? = some (.ref qf102) ∧ z1238[104]? = some (.ref qf104) ∧ z1238[105]? = some (.ref qf105) ∧ z1238[117]? = some (.int x117_1238) ∧ z1238[118]? = some (.ref qf118) ∧ z1238[119]? = some (.ref qf119) ∧ z1238[120]? = some (.int x120_1238) ∧ z1238[127]? = some (.ref qf127) ∧ z1238[128]? = some (.ref qf128) ∧ z1238[129]? = some (.int v129) ∧ z1238[130]? = some (.int v130) ∧ z1238[131]? = some (.int x131_1238) ∧ z1238[132]? = some (.int v132) ∧ z1238[134]? = some (.int v134) ∧ z1238[136]? = some (.int v136) ∧ z1238[137]? = some (.ref qf137) ∧ z1238.length = 155 ∧ (∀ j : Nat, j ≠ 117 → j ≠ 120 → j ≠ 131 → z1238[j]? = zs[j]?) ∧ (rr_1238 = 0 ∨ rr_1238 = 1) ∧ some (rr_1238, g118_1238, g119_1238, g127_1238, g128_1238, g137_1238, x117_1238, x120_1238, x131_1238) = some (r0, o118, o119, o127, o128, o137, w117, w120, w131)) ?_ ?_
  · intro x9 hJ9
    obtain ⟨H, locs, ls, z1238, rr_1238, g118_1238, g119_1238, g127_1238, g128_1238, g137_1238, x117_1238, x120_1238, x131_1238⟩ := x9
    obtain ⟨hS, hD, hP, hfh_1238_98, hfh_1238_100, hfh_1238_102, hfh_1238_104, hfh_1238_105, hfh_1238_117, hfh_1238_118, hfh_1238_119, hfh_1238_120, hfh_1238_127, hfh_1238_128, hfh_1238_129, hfh_1238_130, hfh_1238_131, hfh_1238_132, hfh_1238_134, hfh_1238_136, hfh_1238_137, hlh_1238, hrh_1238, hz9, hsp⟩ := hJ9
    replace hS : va_S A s.heap H locs := hS
    replace hD : va_D A [(h0, .inr (13, z1238)), (qf100, .inl (cf100, 48000, .inl f100)), (qf128, .inl (cf128, 31, .inl g128_1238)), (qf127, .inl (cf127, 30, .inl g127_1238)), (qf104, .inl (cf104, 8, .inl f104)), (qf102, .inl (cf102, 2048, .inl f102)), (qf118, .inl (cf118, 2100, .inl g118_1238)), (qf119, .inl (cf119, 2100, .inl g119_1238)), (qf105, .inl (cf105, 8, .inl f105)), (qf137, .inl (cf137, 6, .inl g137_1238))] := hD
    replace hP : va_P (dC, dI) vwCl [(h0, .inr (13, z1238)), (qf100, .inl (cf100, 48000, .inl f100)), (qf128, .inl (cf128, 31, .inl g128_1238)), (qf127, .inl (cf127, 30, .inl g127_1238)), (qf104, .inl (cf104, 8, .inl f104)), (qf102, .inl (cf102, 2048, .inl f102)), (qf118, .inl (cf118, 2100, .inl g118_1238)), (qf119, .inl (cf119, 2100, .inl g119_1238)), (qf105, .inl (cf105, 8, .inl f105)), (qf137, .inl (cf137, 6, .inl g137_1238))] H := hP
    replace hsp : some (rr_1238, g118_1238, g119_1238, g127_1238, g128_1238, g137_1238, x117_1238, x120_1238, x131_1238) = some (r0, o118, o119, o127, o128, o137, w117, w120, w131) := hsp
    show W _ _ _ _ _ _ _ _ _ _ H locs _ _ _ (F0 m 1238 ls [.int rr_1238])
    rcases hz9 with rfl | rfl
    · skip
      have hr0 := Option.some.inj hsp
      clear hsp
      obtain ⟨hq0, hr1⟩ := Prod.mk.inj hr0
      clear hr0
      obtain ⟨hq1, hr2⟩ := Prod.mk.inj hr1
      clear hr1
      obtain ⟨hq2, hr3⟩ := Prod.mk.inj hr2
      clear hr2
      obtain ⟨hq3, hr4⟩ := Prod.mk.inj hr3
      clear hr3
      obtain ⟨hq4, hr5⟩ := Prod.mk.inj hr4
      clear hr4
      obtain ⟨hq5, hr6⟩ := Prod.mk.inj hr5
      clear hr5
      obtain ⟨hq6, hr7⟩ := Prod.mk.inj hr6
      clear hr6
      obtain ⟨hq7, hr8⟩ := Prod.mk.inj hr7
      clear hr7
      subst hq0
      subst hq1
      subst hq2
      subst hq3
      subst hq4
      subst hq5
      subst hq6
      subst hq7
      subst hr8
      have hP9 := hP.sub (ws' := [(h0, .inr (13, z1238)), (qf100, .inl (cf100, 48000, .inl f100)), (qf128, .inl (cf128, 31, .inl g128_1238)), (qf127, .inl (cf127, 30, .inl g127_1238)), (qf104, .inl (cf104, 8, .inl f104)), (qf102, .inl (cf102, 2048, .inl f102)), (qf118, .inl (cf118, 2100, .inl g118_1238)), (qf119, .inl (cf119, 2100, .inl g119_1238)), (qf105, .inl (cf105, 8, .inl f105)), (qf137, .inl (cf137, 6, .inl g137_1238))]) [0, 1, 2, 3, 4, 5, 6, 7, 8, 9] rfl
      have hD9 := hD.sub (ws' := [(h0, .inr (13, z1238)), (qf100, .inl (cf100, 48000, .inl f100)), (qf128, .inl (cf128, 31, .inl g128_1238)), (qf127, .inl (cf127, 30, .inl g127_1238)), (qf104, .inl (cf104, 8, .inl f104)), (qf102, .inl (cf102, 2048, .inl f102)), (qf118, .inl (cf118, 2100, .inl g118_1238)), (qf119, .inl (cf119, 2100, .inl g119_1238)), (qf105, .inl (cf105, 8, .inl f105)), (qf137, .inl (cf137, 6, .inl g137_1238))]) [0, 1, 2, 3, 4, 5, 6, 7, 8, 9] (by decide) rfl
      have hK9 := hK.sub (tys' := [(cf100, .int), (cf128, .int), (cf127, .int), (cf104, .int), (cf102, .int), (cf118, .int), (cf119, .int), (cf105, .int), (cf137, .int)]) [0, 1, 2, 3, 4, 5, 6, 7, 8] rfl
      exact W.zret hx hb hr (by decide) (fun t ht hW => ⟨⟨(0), (z1238), rfl, ⟨⟨rfl, Or.inl rfl⟩, hlh_1238, hrh_1238, hfh_1238_117, hfh_1238_120, hfh_1238_131⟩, by rw [ht]; exact hP9, va_K.moved hW.alike hK9, hD9⟩, hS.F ht⟩) hS.2.2 dX13_wanted_1238
    · skip
      have hr0 := Option.some.inj hsp
      clear hsp
      obtain ⟨hq0, hr1⟩ := Prod.mk.inj hr0
      clear hr0
      obtain ⟨hq1, hr2⟩ := Prod.mk.inj hr1
      clear hr1
      obtain ⟨hq2, hr3⟩ := Prod.mk.inj hr2
      clear hr2
      obtain ⟨hq3, hr4⟩ := Prod.mk.inj hr3
      clear hr3
      obtain ⟨hq4, hr5⟩ := Prod.mk.inj hr4
      clear hr4
      obtain ⟨hq5, hr6⟩ := Prod.mk.inj hr5
      clear hr5
      obtain ⟨hq6, hr7⟩ := Prod.mk.inj hr6
      clear hr6
      obtain ⟨hq7, hr8⟩ := Prod.mk.inj hr7
      clear hr7
      subst hq0
      subst hq1
      subst hq2
      subst hq3
      subst hq4
      subst hq5
      subst hq6
      subst hq7
      subst hr8
      have hP9 := hP.sub (ws' := [(h0, .inr (13, z1238)), (qf100, .inl (cf100, 48000, .inl f100)), (qf128, .inl (cf128, 31, .inl g128_1238)), (qf127, .inl (cf127, 30, .inl g127_1238)), (qf104, .inl (cf104, 8, .inl f104)), (qf102, .inl (cf102, 2048, .inl f102)), (qf118, .inl (cf118, 2100, .inl g118_1238)), (qf119, .inl (cf119, 2100, .inl g119_1238)), (qf105, .inl (cf105, 8, .inl f105)), (qf137, .inl (cf137, 6, .inl g137_1238))]) [0, 1, 2, 3, 4, 5, 6, 7, 8, 9] rfl
      have hD9 := hD.sub (ws' := [(h0, .inr (13, z1238)), (qf100, .inl (cf100, 48000, .inl f100)), (qf128, .inl (cf128, 31, .inl g128_1238)), (qf127, .inl (cf127, 30, .inl g127_1238)), (qf104, .inl (cf104, 8, .inl f104)), (qf102, .inl (cf102, 2048, .inl f102)), (qf118, .inl (cf118, 2100, .inl g118_1238)), (qf119, .inl (cf119, 2100, .inl g119_1238)), (qf105, .inl (cf105, 8, .inl f105)), (qf137, .inl (cf137, 6, .inl g137_1238))]) [0, 1, 2, 3, 4, 5, 6, 7, 8, 9] (by decide) rfl
      have hK9 := hK.sub (tys' := [(cf100, .int), (cf128, .int), (cf127, .int), (cf104, .int), (cf102, .int), (cf118, .int), (cf119, .int), (cf105, .int), (cf137, .int)]) [0, 1, 2, 3, 4, 5, 6, 7, 8] rfl
      exact W.zret hx hb hr (by decide) (fun t ht hW => ⟨⟨(1), (z1238), rfl, ⟨⟨rfl, Or.inr rfl⟩, hlh_1238, hrh_1238, hfh_1238_117, hfh_1238_120, hfh_1238_131⟩, by rw [ht]; exact hP9, va_K.moved hW.alike hK9, hD9⟩, hS.F ht⟩) hS.2.2 dX13_wanted_1238
  intro hret_1238
  refine jn_use (α := Heap × List Loc × Array Slot × List Value × Int32 × (Nat → Int32) × (Nat → Int32) × (Nat → Int32) × (Nat → Int32) × (Nat → Int32) × Int32 × Int32 × Int32) (fun x9 => x9.1) (fun x9 => x9.2.1) (fun x9 => F0 m 1258 x9.2.2.1 [.int (x9.2.2.2.2.1)]) (fun x9 => match x9 with | (H, locs, ls, z1258, rr_1258, g118_1258, g119_1258, g127_1258, g128_1258, g137_1258, x117_1258, x120_1258, x131_1258) => va_S A s.heap H locs ∧ va_D A [(h0, .inr (13, z1258)), (qf100, .inl (cf100, 48000, .inl f100)), (qf128, .inl (cf128, 31, .inl g128_1258)), (qf127, .inl (cf127, 30, .inl g127_1258)), (qf104, .inl (cf104, 8, .inl f104)), (qf102, .inl (cf102, 2048, .inl f102)), (qf118, .inl (cf118, 2100, .inl g118_1258)), (qf119, .inl (cf119, 2100, .inl g119_1258)), (qf105, .inl (cf105, 8, .inl f105)), (qf137, .inl (cf137, 6, .inl g137_1258))] ∧ va_P (dC, dI) vwCl [(h0, .inr (13, z1258)), (qf100, .inl (cf100, 48000, .inl f100)), (qf128, .inl (cf128, 31, .inl g128_1258)), (qf127, .inl (cf127, 30, .inl g127_1258)), (qf104, .inl (cf104, 8, .inl f104)), (qf102, .inl (cf102, 2048, .inl f102)), (qf118, .inl (cf118, 2100, .inl g118_1258)), (qf119, .inl (cf119, 2100, .inl g119_1258)), (qf105, .inl (cf105, 8, .inl f105)), (qf137, .inl (cf137, 6, .inl g137_1258))] H ∧ z1258[98]? = some (.int v98) ∧ z1258[100]? = some (.ref qf100) ∧ z1258[102]? = some (.ref qf102) ∧ z1258[104]? = some (.ref qf104) ∧ z1258[105]? = some (.ref qf105) ∧ z1258[117]? = some (.int x117_1258) ∧ z1258[118]? = some (.ref qf118) ∧ z1258[119]? = some (.ref qf119) ∧ z1258[120]? = some (.int x120_1258) ∧ z1258[127]? = some (.ref qf127) ∧ z1258[128]? = some (.ref qf128) ∧ z1258[129]? = some (.int v129) ∧ z1258[130]? = some (.int v130) ∧ z1258[131]? = some (.int x131_1258) ∧ z1258[132]? = some (.int v132) ∧ z1258[134]? = some (.int v134) ∧ z1258[136]? = some (.int v136) ∧ z1258[137]? = some (.ref qf137) ∧ z1258.length = 155 ∧ (∀ j : Nat, j ≠ 117 → j ≠ 120 → j ≠ 131 → z1258[j]? = zs[j]?) ∧ (rr_1258 = 0 ∨ rr_1258 = 1) ∧ some (rr_1258, g118_1258, g119_1258, g127_1258, g128_1258, g137_1258, x117_1258, x120_1258, x131_1258) = some (r0, o118, o119, o127, o128, o137, w117, w120, w131)) ?_ ?_
  · intro x9 hJ9
    obtain ⟨H, locs, ls, z1258, rr_1258, g118_1258, g119_1258, g127_1258, g128_1258, g137_1258, x117_1258, x120_1258, x131_1258⟩ := x9
    obtain ⟨hS, hD, hP, hfh_1258_98, hfh_1258_100, hfh_1258_102, hfh_1258_104, hfh_1258_105, hfh_1258_117, hfh_1258_118, hfh_1258_119, hfh_1258_120, hfh_1258_127, hfh_1258_128, hfh_1258_129, hfh_1258_130, hfh_1258_131, hfh_1258_132, hfh_1258_134, hfh_1258_136, hfh_1258_137, hlh_1258, hrh_1258, hz9, hsp⟩ := hJ9
    replace hS : va_S A s.heap H locs := hS
    replace hD : va_D A [(h0, .inr (13, z1258)), (qf100, .inl (cf100, 48000, .inl f100)), (qf128, .inl (cf128, 31, .inl g128_1258)), (qf127, .inl (cf127, 30, .inl g127_1258)), (qf104, .inl (cf104, 8, .inl f104)), (qf102, .inl (cf102, 2048, .inl f102)), (qf118, .inl (cf118, 2100, .inl g118_1258)), (qf119, .inl (cf119, 2100, .inl g119_1258)), (qf105, .inl (cf105, 8, .inl f105)), (qf137, .inl (cf137, 6, .inl g137_1258))] := hD
    replace hP : va_P (dC, dI) vwCl [(h0, .inr (13, z1258)), (qf100, .inl (cf100, 48000, .inl f100)), (qf128, .inl (cf128, 31, .inl g128_1258)), (qf127, .inl (cf127, 30, .inl g127_1258)), (qf104, .inl (cf104, 8, .inl f104)), (qf102, .inl (cf102, 2048, .inl f102)), (qf118, .inl (cf118, 2100, .inl g118_1258)), (qf119, .inl (cf119, 2100, .inl g119_1258)), (qf105, .inl (cf105, 8, .inl f105)), (qf137, .inl (cf137, 6, .inl g137_1258))] H := hP
    replace hsp : some (rr_1258, g118_1258, g119_1258, g127_1258, g128_1258, g137_1258, x117_1258, x120_1258, x131_1258) = some (r0, o118, o119, o127, o128, o137, w117, w120, w131) := hsp
    show W _ _ _ _ _ _ _ _ _ _ H locs _ _ _ (F0 m 1258 ls [.int rr_1258])
    rcases hz9 with rfl | rfl
    · skip
      have hr0 := Option.some.inj hsp
      clear hsp
      obtain ⟨hq0, hr1⟩ := Prod.mk.inj hr0
      clear hr0
      obtain ⟨hq1, hr2⟩ := Prod.mk.inj hr1
      clear hr1
      obtain ⟨hq2, hr3⟩ := Prod.mk.inj hr2
      clear hr2
      obtain ⟨hq3, hr4⟩ := Prod.mk.inj hr3
      clear hr3
      obtain ⟨hq4, hr5⟩ := Prod.mk.inj hr4
      clear hr4
      obtain ⟨hq5, hr6⟩ := Prod.mk.inj hr5
      clear hr5
      obtain ⟨hq6, hr7⟩ := Prod.mk.inj hr6
      clear hr6
      obtain ⟨hq7, hr8⟩ := Prod.mk.inj hr7
      clear hr7
      subst hq0
      subst hq1
      subst hq2
      subst hq3
      subst hq4
      subst hq5
      subst hq6
      subst hq7
      subst hr8
      have hP9 := hP.sub (ws' := [(h0, .inr (13, z1258)), (qf100, .inl (cf100, 48000, .inl f100)), (qf128, .inl (cf128, 31, .inl g128_1258)), (qf127, .inl (cf127, 30, .inl g127_1258)), (qf104, .inl (cf104, 8, .inl f104)), (qf102, .inl (cf102, 2048, .inl f102)), (qf118, .inl (cf118, 2100, .inl g118_1258)), (qf119, .inl (cf119, 2100, .inl g119_1258)), (qf105, .inl (cf105, 8, .inl f105)), (qf137, .inl (cf137, 6, .inl g137_1258))]) [0, 1, 2, 3, 4, 5, 6, 7, 8, 9] rfl
      have hD9 := hD.sub (ws' := [(h0, .inr (13, z1258)), (qf100, .inl (cf100, 48000, .inl f100)), (qf128, .inl (cf128, 31, .inl g128_1258)), (qf127, .inl (cf127, 30, .inl g127_1258)), (qf104, .inl (cf104, 8, .inl f104)), (qf102, .inl (cf102, 2048, .inl f102)), (qf118, .inl (cf118, 2100, .inl g118_1258)), (qf119, .inl (cf119, 2100, .inl g119_1258)), (qf105, .inl (cf105, 8, .inl f105)), (qf137, .inl (cf137, 6, .inl g137_1258))]) [0, 1, 2, 3, 4, 5, 6, 7, 8, 9] (by decide) rfl
      have hK9 := hK.sub (tys' := [(cf100, .int), (cf128, .int), (cf127, .int), (cf104, .int), (cf102, .int), (cf118, .int), (cf119, .int), (cf105, .int), (cf137, .int)]) [0, 1, 2, 3, 4, 5, 6, 7, 8] rfl
      exact W.zret hx hb hr (by decide) (fun t ht hW => ⟨⟨(0), (z1258), rfl, ⟨⟨rfl, Or.inl rfl⟩, hlh_1258, hrh_1258, hfh_1258_117, hfh_1258_120, hfh_1258_131⟩, by rw [ht]; exact hP9, va_K.moved hW.alike hK9, hD9⟩, hS.F ht⟩) hS.2.2 dX13_wanted_1258
    · skip
      have hr0 := Option.some.inj hsp
      clear hsp
      obtain ⟨hq0, hr1⟩ := Prod.mk.inj hr0
      clear hr0
      obtain ⟨hq1, hr2⟩ := Prod.mk.inj hr1
      clear hr1
      obtain ⟨hq2, hr3⟩ := Prod.mk.inj hr2
      clear hr2
      obtain ⟨hq3, hr4⟩ := Prod.mk.inj hr3
      clear hr3
      obtain ⟨hq4, hr5⟩ := Prod.mk.inj hr4
      clear hr4
      obtain ⟨hq5, hr6⟩ := Prod.mk.inj hr5
      clear hr5
      obtain ⟨hq6, hr7⟩ := Prod.mk.inj hr6
      clear hr6
      obtain ⟨hq7, hr8⟩ := Prod.mk.inj hr7
      clear hr7
      subst hq0
      subst hq1
      subst hq2
      subst hq3
      subst hq4
      subst hq5
      subst hq6
      subst hq7
      subst hr8
      have hP9 := hP.sub (ws' := [(h0, .inr (13, z1258)), (qf100, .inl (cf100, 48000, .inl f100)), (qf128, .inl (cf128, 31, .inl g128_1258)), (qf127, .inl (cf127, 30, .inl g127_1258)), (qf104, .inl (cf104, 8, .inl f104)), (qf102, .inl (cf102, 2048, .inl f102)), (qf118, .inl (cf118, 2100, .inl g118_1258)), (qf119, .inl (cf119, 2100, .inl g119_1258)), (qf105, .inl (cf105, 8, .inl f105)), (qf137, .inl (cf137, 6, .inl g137_1258))]) [0, 1, 2, 3, 4, 5, 6, 7, 8, 9] rfl
      have hD9 := hD.sub (ws' := [(h0, .inr (13, z1258)), (qf100, .inl (cf100, 48000, .inl f100)), (qf128, .inl (cf128, 31, .inl g128_1258)), (qf127, .inl (cf127, 30, .inl g127_1258)), (qf104, .inl (cf104, 8, .inl f104)), (qf102, .inl (cf102, 2048, .inl f102)), (qf118, .inl (cf118, 2100, .inl g118_1258)), (qf119, .inl (cf119, 2100, .inl g119_1258)), (qf105, .inl (cf105, 8, .inl f105)), (qf137, .inl (cf137, 6, .inl g137_1258))]) [0, 1, 2, 3, 4, 5, 6, 7, 8, 9] (by decide) rfl
      have hK9 := hK.sub (tys' := [(cf100, .int), (cf128, .int), (cf127, .int), (cf104, .int), (cf102, .int), (cf118, .int), (cf119, .int), (cf105, .int), (cf137, .int)]) [0, 1, 2, 3, 4, 5, 6, 7, 8] rfl
      exact W.zret hx hb hr (by decide) (fun t ht hW => ⟨⟨(1), (z1258), rfl, ⟨⟨rfl, Or.inr rfl⟩, hlh_1258, hrh_1258, hfh_1258_117, hfh_1258_120, hfh_1258_131⟩, by rw [ht]; exact hP9, va_K.moved hW.alike hK9, hD9⟩, hS.F ht⟩) hS.2.2 dX13_wanted_1258
  intro hret_1258
  refine jn_use (α := Heap × List Loc × Array Slot × List Value × Int32 × (Nat → Int32) × (Nat → Int32) × (Nat → Int32) × (Nat → Int32) × (Nat → Int32) × Int32 × Int32 × Int32) (fun x9 => x9.1) (fun x9 => x9.2.1) (fun x9 => F0 m 1300 x9.2.2.1 [.int (x9.2.2.2.2.1)]) (fun x9 => match x9 with | (H, locs, ls, z1300, rr_1300, g118_1300, g119_1300, g127_1300, g128_1300, g137_1300, x117_1300, x120_1300, x131_1300) => va_S A s.heap H locs ∧ va_D A [(h0, .inr (13, z1300)), (qf100, .inl (cf100, 48000, .inl f100)), (qf128, .inl (cf128, 31, .inl g128_1300)), (qf127, .inl (cf127, 30, .inl g127_1300)), (qf104, .inl (cf104, 8, .inl f104)), (qf102, .inl (cf102, 2048, .inl f102)), (qf118, .inl (cf118, 2100, .inl g118_1300)), (qf119, .inl (cf119, 2100, .inl g119_1300)), (qf105, .inl (cf105, 8, .inl f105)), (qf137, .inl (cf137, 6, .inl g137_1300))] ∧ va_P (dC, dI) vwCl [(h0, .inr (13, z1300)), (qf100, .inl (cf100, 48000, .inl f100)), (qf128, .inl (cf128, 31, .inl g128_1300)), (qf127, .inl (cf127, 30, .inl g127_1300)), (qf104, .inl (cf104, 8, .inl f104)), (qf102, .inl (cf102, 2048, .inl f102)), (qf118, .inl (cf118, 2100, .inl g118_1300)), (qf119, .inl (cf119, 2100, .inl g119_1300)), (qf105, .inl (cf105, 8, .inl f105)), (qf137, .inl (cf137, 6, .inl g137_1300))] H ∧ z1300[98]? = some (.int v98) ∧ z1300[100]? = some (.ref qf100) ∧ z1300[102]? = some (.ref qf102) ∧ z1300[104]? = some (.ref qf104) ∧ z1300[105]? = some (.ref qf105) ∧ z1300[117]? = some (.int x117_1300) ∧ z1300[118]? = some (.ref qf118) ∧ z1300[119]? = some (.ref qf119) ∧ z1300[120]? = some (.int x120_1300) ∧ z1300[127]? = some (.ref qf127) ∧ z1300[128]? = some (.ref qf128) ∧ z1300[129]? = some (.int v129) ∧ z1300[130]? = some (.int v130) ∧ z1300[131]? = some (.int x131_1300) ∧ z1300[132]? = some (.int v132) ∧ z1300[134]? = some (.int v134) ∧ z1300[136]? = some (.int v136) ∧ z1300[137]? = some (.ref qf137) ∧ z1300.length = 155 ∧ (∀ j : Nat, j ≠ 117 → j ≠ 120 → j ≠ 131 → z1300[j]? = zs[j]?) ∧ (rr_1300 = 0 ∨ rr_1300 = 1) ∧ some (rr_1300, g118_1300, g119_1300, g127_1300, g128_1300, g137_1300, x117_1300, x120_1300, x131_1300) = some (r0, o118, o119, o127, o128, o137, w117, w120, w131)) ?_ ?_
  · intro x9 hJ9
    obtain ⟨H, locs, ls, z1300, rr_1300, g118_1300, g119_1300, g127_1300, g128_1300, g137_1300, x117_1300, x120_1300, x131_1300⟩ := x9
    obtain ⟨hS, hD, hP, hfh_1300_98, hfh_1300_100, hfh_1300_102, hfh_1300_104, hfh_1300_105, hfh_1300_117, hfh_1300_118, hfh_1300_119, hfh_1300_120, hfh_1300_127, hfh_1300_128, hfh_1300_129, hfh_1300_130, hfh_1300_131, hfh_1300_132, hfh_1300_134, hfh_1300_136, hfh_1300_137, hlh_1300, hrh_1300, hz9, hsp⟩ := hJ9
    replace hS : va_S A s.heap H locs := hS
    replace hD : va_D A [(h0, .inr (13, z1300)), (qf100, .inl (cf100, 48000, .inl f100)), (qf128, .inl (cf128, 31, .inl g128_1300)), (qf127, .inl (cf127, 30, .inl g127_1300)), (qf104, .inl (cf104, 8, .inl f104)), (qf102, .inl (cf102, 2048, .inl f102)), (qf118, .inl (cf118, 2100, .inl g118_1300)), (qf119, .inl (cf119, 2100, .inl g119_1300)), (qf105, .inl (cf105, 8, .inl f105)), (qf137, .inl (cf137, 6, .inl g137_1300))] := hD
    replace hP : va_P (dC, dI) vwCl [(h0, .inr (13, z1300)), (qf100, .inl (cf100, 48000, .inl f100)), (qf128, .inl (cf128, 31, .inl g128_1300)), (qf127, .inl (cf127, 30, .inl g127_1300)), (qf104, .inl (cf104, 8, .inl f104)), (qf102, .inl (cf102, 2048, .inl f102)), (qf118, .inl (cf118, 2100, .inl g118_1300)), (qf119, .inl (cf119, 2100, .inl g119_1300)), (qf105, .inl (cf105, 8, .inl f105)), (qf137, .inl (cf137, 6, .inl g137_1300))] H := hP
    replace hsp : some (rr_1300, g118_1300, g119_1300, g127_1300, g128_1300, g137_1300, x117_1300, x120_1300, x131_1300) = some (r0, o118, o119, o127, o128, o137, w117, w120, w131) := hsp
    show W _ _ _ _ _ _ _ _ _ _ H locs _ _ _ (F0 m 1300 ls [.int rr_1300])
    rcases hz9 with rfl | rfl
    · skip
      have hr0 := Option.some.inj hsp
      clear hsp
      obtain ⟨hq0, hr1⟩ := Prod.mk.inj hr0
      clear hr0
      obtain ⟨hq1, hr2⟩ := Prod.mk.inj hr1
      clear hr1
      obtain ⟨hq2, hr3⟩ := Prod.mk.inj hr2
      clear hr2
      obtain ⟨hq3, hr4⟩ := Prod.mk.inj hr3
      clear hr3
      obtain ⟨hq4, hr5⟩ := Prod.mk.inj hr4
      clear hr4
      obtain ⟨hq5, hr6⟩ := Prod.mk.inj hr5
      clear hr5
      obtain ⟨hq6, hr7⟩ := Prod.mk.inj hr6
      clear hr6
      obtain ⟨hq7, hr8⟩ := Prod.mk.inj hr7
      clear hr7
      subst hq0
      subst hq1
      subst hq2
      subst hq3
      subst hq4
      subst hq5
      subst hq6
      subst hq7
      subst hr8
      have hP9 := hP.sub (ws' := [(h0, .inr (13, z1300)), (qf100, .inl (cf100, 48000, .inl f100)), (qf128, .inl (cf128, 31, .inl g128_1300)), (qf127, .inl (cf127, 30, .inl g127_1300)), (qf104, .inl (cf104, 8, .inl f104)), (qf102, .inl (cf102, 2048, .inl f102)), (qf118, .inl (cf118, 2100, .inl g118_1300)), (qf119, .inl (cf119, 2100, .inl g119_1300)), (qf105, .inl (cf105, 8, .inl f105)), (qf137, .inl (cf137, 6, .inl g137_1300))]) [0, 1, 2, 3, 4, 5, 6, 7, 8, 9] rfl
      have hD9 := hD.sub (ws' := [(h0, .inr (13, z1300)), (qf100, .inl (cf100, 48000, .inl f100)), (qf128, .inl (cf128, 31, .inl g128_1300)), (qf127, .inl (cf127, 30, .inl g127_1300)), (qf104, .inl (cf104, 8, .inl f104)), (qf102, .inl (cf102, 2048, .inl f102)), (qf118, .inl (cf118, 2100, .inl g118_1300)), (qf119, .inl (cf119, 2100, .inl g119_1300)), (qf105, .inl (cf105, 8, .inl f105)), (qf137, .inl (cf137, 6, .inl g137_1300))]) [0, 1, 2, 3, 4, 5, 6, 7, 8, 9] (by decide) rfl
      have hK9 := hK.sub (tys' := [(cf100, .int), (cf128, .int), (cf127, .int), (cf104, .int), (cf102, .int), (cf118, .int), (cf119, .int), (cf105, .int), (cf137, .int)]) [0, 1, 2, 3, 4, 5, 6, 7, 8] rfl
      exact W.zret hx hb hr (by decide) (fun t ht hW => ⟨⟨(0), (z1300), rfl, ⟨⟨rfl, Or.inl rfl⟩, hlh_1300, hrh_1300, hfh_1300_117, hfh_1300_120, hfh_1300_131⟩, by rw [ht]; exact hP9, va_K.moved hW.alike hK9, hD9⟩, hS.F ht⟩) hS.2.2 dX13_wanted_1300
    · skip
      have hr0 := Option.some.inj hsp
      clear hsp
      obtain ⟨hq0, hr1⟩ := Prod.mk.inj hr0
      clear hr0
      obtain ⟨hq1, hr2⟩ := Prod.mk.inj hr1
      clear hr1
      obtain ⟨hq2, hr3⟩ := Prod.mk.inj hr2
      clear hr2
      obtain ⟨hq3, hr4⟩ := Prod.mk.inj hr3
      clear hr3
      obtain ⟨hq4, hr5⟩ := Prod.mk.inj hr4
      clear hr4
      obtain ⟨hq5, hr6⟩ := Prod.mk.inj hr5
      clear hr5
      obtain ⟨hq6, hr7⟩ := Prod.mk.inj hr6
      clear hr6
      obtain ⟨hq7, hr8⟩ := Prod.mk.inj hr7
      clear hr7
      subst hq0
      subst hq1
      subst hq2
      subst hq3
      subst hq4
      subst hq5
      subst hq6
      subst hq7
      subst hr8
      have hP9 := hP.sub (ws' := [(h0, .inr (13, z1300)), (qf100, .inl (cf100, 48000, .inl f100)), (qf128, .inl (cf128, 31, .inl g128_1300)), (qf127, .inl (cf127, 30, .inl g127_1300)), (qf104, .inl (cf104, 8, .inl f104)), (qf102, .inl (cf102, 2048, .inl f102)), (qf118, .inl (cf118, 2100, .inl g118_1300)), (qf119, .inl (cf119, 2100, .inl g119_1300)), (qf105, .inl (cf105, 8, .inl f105)), (qf137, .inl (cf137, 6, .inl g137_1300))]) [0, 1, 2, 3, 4, 5, 6, 7, 8, 9] rfl
      have hD9 := hD.sub (ws' := [(h0, .inr (13, z1300)), (qf100, .inl (cf100, 48000, .inl f100)), (qf128, .inl (cf128, 31, .inl g128_1300)), (qf127, .inl (cf127, 30, .inl g127_1300)), (qf104, .inl (cf104, 8, .inl f104)), (qf102, .inl (cf102, 2048, .inl f102)), (qf118, .inl (cf118, 2100, .inl g118_1300)), (qf119, .inl (cf119, 2100, .inl g119_1300)), (qf105, .inl (cf105, 8, .inl f105)), (qf137, .inl (cf137, 6, .inl g137_1300))]) [0, 1, 2, 3, 4, 5, 6, 7, 8, 9] (by decide) rfl
      have hK9 := hK.sub (tys' := [(cf100, .int), (cf128, .int), (cf127, .int), (cf104, .int), (cf102, .int), (cf118, .int), (cf119, .int), (cf105, .int), (cf137, .int)]) [0, 1, 2, 3, 4, 5, 6, 7, 8] rfl
      exact W.zret hx hb hr (by decide) (fun t ht hW => ⟨⟨(1), (z1300), rfl, ⟨⟨rfl, Or.inr rfl⟩, hlh_1300, hrh_1300, hfh_1300_117, hfh_1300_120, hfh_1300_131⟩, by rw [ht]; exact hP9, va_K.moved hW.alike hK9, hD9⟩, hS.F ht⟩) hS.2.2 dX13_wanted_1300
  intro hret_1300
  refine jn_use (α := Heap × List Loc × Array Slot × List Value × Int32 × (Nat → Int32) × (Nat → Int32) × (Nat → Int32) × (Nat → Int32) × (Nat → Int32) × Int32 × Int32 × Int32) (fun x9 => x9.1) (fun x9 => x9.2.1) (fun x9 => F0 m 1363 x9.2.2.1 [.int (x9.2.2.2.2.1)]) (fun x9 => match x9 with | (H, locs, ls, z1363, rr_1363, g118_1363, g119_1363, g127_1363, g128_1363, g137_1363, x117_1363, x120_1363, x131_1363) => va_S A s.heap H locs ∧ va_D A [(h0, .inr (13, z1363)), (qf100, .inl (cf100, 48000, .inl f100)), (qf128, .inl (cf128, 31, .inl g128_1363)), (qf127, .inl (cf127, 30, .inl g127_1363)), (qf104, .inl (cf104, 8, .inl f104)), (qf102, .inl (cf102, 2048, .inl f102)), (qf118, .inl (cf118, 2100, .inl g118_1363)), (qf119, .inl (cf119, 2100, .inl g119_1363)), (qf105, .inl (cf105, 8, .inl f105)), (qf137, .inl (cf137, 6, .inl g137_1363))] ∧ va_P (dC, dI) vwCl [(h0, .inr (13, z1363)), (qf100, .inl (cf100, 48000, .inl f100)), (qf128, .inl (cf128, 31, .inl g128_1363)), (qf127, .inl (cf127, 30, .inl g127_1363)), (qf104, .inl (cf104, 8, .inl f104)), (qf102, .inl (cf102, 2048, .inl f102)), (qf118, .inl (cf118, 2100, .inl g118_1363)), (qf119, .inl (cf119, 2100, .inl g119_1363)), (qf105, .inl (cf105, 8, .inl f105)), (qf137, .inl (cf137, 6, .inl g137_1363))] H ∧ z1363[98]? = some (.int v98) ∧ z1363[100]? = some (.ref qf100) ∧ z1363[102]? = some (.ref qf102) ∧ z1363[104]? = some (.ref qf104) ∧ z1363[105]? = some (.ref qf105) ∧ z1363[117]? = some (.int x117_1363) ∧ z1363[118]? = some (.ref qf118) ∧ z1363[119]? = some (.ref qf119) ∧ z1363[120]? = some (.int x120_1363) ∧ z1363[127]? = some (.ref qf127) ∧ z1363[128]? = some (.ref qf128) ∧ z1363[129]? = some (.int v129) ∧ z1363[130]? = some (.int v130) ∧ z1363[131]? = some (.int x131_1363) ∧ z1363[132]? = some (.int v132) ∧ z1363[134]? = some (.int v134) ∧ z1363[136]? = some (.int v136) ∧ z1363[137]? = some (.ref qf137) ∧ z1363.length = 155 ∧ (∀ j : Nat, j ≠ 117 → j ≠ 120 → j ≠ 131 → z1363[j]? = zs[j]?) ∧ (rr_1363 = 0 ∨ rr_1363 = 1) ∧ some (rr_1363, g118_1363, g119_1363, g127_1363, g128_1363, g137_1363, x117_1363, x120_1363, x131_1363) = some (r0, o118, o119, o127, o128, o137, w117, w120, w131)) ?_ ?_
  · intro x9 hJ9
    obtain ⟨H, locs, ls, z1363, rr_1363, g118_1363, g119_1363, g127_1363, g128_1363, g137_1363, x117_1363, x120_1363, x131_1363⟩ := x9
    obtain ⟨hS, hD, hP, hfh_1363_98, hfh_1363_100, hfh_1363_102, hfh_1363_104, hfh_1363_105, hfh_1363_117, hfh_1363_118, hfh_1363_119, hfh_1363_120, hfh_1363_127, hfh_1363_128, hfh_1363_129, hfh_1363_130, hfh_1363_131, hfh_1363_132, hfh_1363_134, hfh_1363_136, hfh_1363_137, hlh_1363, hrh_1363, hz9, hsp⟩ := hJ9
    replace hS : va_S A s.heap H locs := hS
    replace hD : va_D A [(h0, .inr (13, z1363)), (qf100, .inl (cf100, 48000, .inl f100)), (qf128, .inl (cf128, 31, .inl g128_1363)), (qf127, .inl (cf127, 30, .inl g127_1363)), (qf104, .inl (cf104, 8, .inl f104)), (qf102, .inl (cf102, 2048, .inl f102)), (qf118, .inl (cf118, 2100, .inl g118_1363)), (qf119, .inl (cf119, 2100, .inl g119_1363)), (qf105, .inl (cf105, 8, .inl f105)), (qf137, .inl (cf137, 6, .inl g137_1363))] := hD
    replace hP : va_P (dC, dI) vwCl [(h0, .inr (13, z1363)), (qf100, .inl (cf100, 48000, .inl f100)), (qf128, .inl (cf128, 31, .inl g128_1363)), (qf127, .inl (cf127, 30, .inl g127_1363)), (qf104, .inl (cf104, 8, .inl f104)), (qf102, .inl (cf102, 2048, .inl f102)), (qf118, .inl (cf118, 2100, .inl g118_1363)), (qf119, .inl (cf119, 2100, .inl g119_1363)), (qf105, .inl (cf105, 8, .inl f105)), (qf137, .inl (cf137, 6, .inl g137_1363))] H := hP
    replace hsp : some (rr_1363, g118_1363, g119_1363, g127_1363, g128_1363, g137_1363, x117_1363, x120_1363, x131_1363) = some (r0, o118, o119, o127, o128, o137, w117, w120, w131) := hsp
    show W _ _ _ _ _ _ _ _ _ _ H locs _ _ _ (F0 m 1363 ls [.int rr_1363])
    rcases hz9 with rfl | rfl
    · skip
      have hr0 := Option.some.inj hsp
      clear hsp
      obtain ⟨hq0, hr1⟩ := Prod.mk.inj hr0
      clear hr0
      obtain ⟨hq1, hr2⟩ := Prod.mk.inj hr1
      clear hr1
      obtain ⟨hq2, hr3⟩ := Prod.mk.inj hr2
      clear hr2
      obtain ⟨hq3, hr4⟩ := Prod.mk.inj hr3
      clear hr3
      obtain ⟨hq4, hr5⟩ := Prod.mk.inj hr4
      clear hr4
      obtain ⟨hq5, hr6⟩ := Prod.mk.inj hr5
      clear hr5
      obtain ⟨hq6, hr7⟩ := Prod.mk.inj hr6
      clear hr6
      obtain ⟨hq7, hr8⟩ := Prod.mk.inj hr7
      clear hr7
      subst hq0
      subst hq1
      subst hq2
      subst hq3
      subst hq4
      subst hq5
      subst hq6
      subst hq7
      subst hr8
      have hP9 := hP.sub (ws' := [(h0, .inr (13, z1363)), (qf100, .inl (cf100, 48000, .inl f100)), (qf128, .inl (cf128, 31, .inl g128_1363)), (qf127, .inl (cf127, 30, .inl g127_1363)), (qf104, .inl (cf104, 8, .inl f104)), (qf102, .inl (cf102, 2048, .inl f102)), (qf118, .inl (cf118, 2100, .inl g118_1363)), (qf119, .inl (cf119, 2100, .inl g119_1363)), (qf105, .inl (cf105, 8, .inl f105)), (qf137, .inl (cf137, 6, .inl g137_1363))]) [0, 1, 2, 3, 4, 5, 6, 7, 8, 9] rfl
      have hD9 := hD.sub (ws' := [(h0, .inr (13, z1363)), (qf100, .inl (cf100, 48000, .inl f100)), (qf128, .inl (cf128, 31, .inl g128_1363)), (qf127, .inl (cf127, 30, .inl g127_1363)), (qf104, .inl (cf104, 8, .inl f104)), (qf102, .inl (cf102, 2048, .inl f102)), (qf118, .inl (cf118, 2100, .inl g118_1363)), (qf119, .inl (cf119, 2100, .inl g119_1363)), (qf105, .inl (cf105, 8, .inl f105)), (qf137, .inl (cf137, 6, .inl g137_1363))]) [0, 1, 2, 3, 4, 5, 6, 7, 8, 9] (by decide) rfl
      have hK9 := hK.sub (tys' := [(cf100, .int), (cf128, .int), (cf127, .int), (cf104, .int), (cf102, .int), (cf118, .int), (cf119, .int), (cf105, .int), (cf137, .int)]) [0, 1, 2, 3, 4, 5, 6, 7, 8] rfl
      exact W.zret hx hb hr (by decide) (fun t ht hW => ⟨⟨(0), (z1363), rfl, ⟨⟨rfl, Or.inl rfl⟩, hlh_1363, hrh_1363, hfh_1363_117, hfh_1363_120, hfh_1363_131⟩, by rw [ht]; exact hP9, va_K.moved hW.alike hK9, hD9⟩, hS.F ht⟩) hS.2.2 dX13_wanted_1363
    · skip
      have hr0 := Option.some.inj hsp
      clear hsp
      obtain ⟨hq0, hr1⟩ := Prod.mk.inj hr0
      clear hr0
      obtain ⟨hq1, hr2⟩ := Prod.mk.inj hr1
      clear hr1
      obtain ⟨hq2, hr3⟩ := Prod.mk.inj hr2
      clear hr2
      obtain ⟨hq3, hr4⟩ := Prod.mk.inj hr3
      clear hr3
      obtain ⟨hq4, hr5⟩ := Prod.mk.inj hr4
      clear hr4
      obtain ⟨hq5, hr6⟩ := Prod.mk.inj hr5
      clear hr5
      obtain ⟨hq6, hr7⟩ := Prod.mk.inj hr6
      clear hr6
      obtain ⟨hq7, hr8⟩ := Prod.mk.inj hr7
      clear hr7
      subst hq0
      subst hq1
      subst hq2
      subst hq3
      subst hq4
      subst hq5
      subst hq6
      subst hq7
      subst hr8
      have hP9 := hP.sub (ws' := [(h0, .inr (13, z1363)), (qf100, .inl (cf100, 48000, .inl f100)), (qf128, .inl (cf128, 31, .inl g128_1363)), (qf127, .inl (cf127, 30, .inl g127_1363)), (qf104, .inl (cf104, 8, .inl f104)), (qf102, .inl (cf102, 2048, .inl f102)), (qf118, .inl (cf118, 2100, .inl g118_1363)), (qf119, .inl (cf119, 2100, .inl g119_1363)), (qf105, .inl (cf105, 8, .inl f105)), (qf137, .inl (cf137, 6, .inl g137_1363))]) [0, 1, 2, 3, 4, 5, 6, 7, 8, 9] rfl
      have hD9 := hD.sub (ws' := [(h0, .inr (13, z1363)), (qf100, .inl (cf100, 48000, .inl f100)), (qf128, .inl (cf128, 31, .inl g128_1363)), (qf127, .inl (cf127, 30, .inl g127_1363)), (qf104, .inl (cf104, 8, .inl f104)), (qf102, .inl (cf102, 2048, .inl f102)), (qf118, .inl (cf118, 2100, .inl g118_1363)), (qf119, .inl (cf119, 2100, .inl g119_1363)), (qf105, .inl (cf105, 8, .inl f105)), (qf137, .inl (cf137, 6, .inl g137_1363))]) [0, 1, 2, 3, 4, 5, 6, 7, 8, 9] (by decide) rfl
      have hK9 := hK.sub (tys' := [(cf100, .int), (cf128, .int), (cf127, .int), (cf104, .int), (cf102, .int), (cf118, .int), (cf119, .int), (cf105, .int), (cf137, .int)]) [0, 1, 2, 3, 4, 5, 6, 7, 8] rfl
      exact W.zret hx hb hr (by decide) (fun t ht hW => ⟨⟨(1), (z1363), rfl, ⟨⟨rfl, Or.inr rfl⟩, hlh_1363, hrh_1363, hfh_1363_117, hfh_1363_120, hfh_1363_131⟩, by rw [ht]; exact hP9, va_K.moved hW.alike hK9, hD9⟩, hS.F ht⟩) hS.2.2 dX13_wanted_1363
  intro hret_1363
  refine jn_use (α := Heap × List Loc × Array Slot × List Value × Int32 × (Nat → Int32) × (Nat → Int32) × (Nat → Int32) × (Nat → Int32) × (Nat → Int32) × Int32 × Int32 × Int32) (fun x9 => x9.1) (fun x9 => x9.2.1) (fun x9 => F0 m 1383 x9.2.2.1 [.int (x9.2.2.2.2.1)]) (fun x9 => match x9 with | (H, locs, ls, z1383, rr_1383, g118_1383, g119_1383, g127_1383, g128_1383, g137_1383, x117_1383, x120_1383, x131_1383) => va_S A s.heap H locs ∧ va_D A [(h0, .inr (13, z1383)), (qf100, .inl (cf100, 48000, .inl f100)), (qf128, .inl (cf128, 31, .inl g128_1383)), (qf127, .inl (cf127, 30, .inl g127_1383)), (qf104, .inl (cf104, 8, .inl f104)), (qf102, .inl (cf102, 2048, .inl f102)), (qf118, .inl (cf118, 2100, .inl g118_1383)), (qf119, .inl (cf119, 2100, .inl g119_1383)), (qf105, .inl (cf105, 8, .inl f105)), (qf137, .inl (cf137, 6, .inl g137_1383))] ∧ va_P (dC, dI) vwCl [(h0, .inr (13, z1383)), (qf100, .inl (cf100, 48000, .inl f100)), (qf128, .inl (cf128, 31, .inl g128_1383)), (qf127, .inl (cf127, 30, .inl g127_1383)), (qf104, .inl (cf104, 8, .inl f104)), (qf102, .inl (cf102, 2048, .inl f102)), (qf118, .inl (cf118, 2100, .inl g118_1383)), (qf119, .inl (cf119, 2100, .inl g119_1383)), (qf105, .inl (cf105, 8, .inl f105)), (qf137, .inl (cf137, 6, .inl g137_1383))] H ∧ z1383[98]? = some (.int v98) ∧ z1383[100]? = some (.ref qf100) ∧ z1383[102]? = some (.ref qf102) ∧ z1383[104]? = some (.ref qf104) ∧ z1383[105]? = some (.ref qf105) ∧ z1383[117]? = some (.int x117_1383) ∧ z1383[118]? = some (.ref qf118) ∧ z1383[119]? = some (.ref qf119) ∧ z1383[120]? = some (.int x120_1383) ∧ z1383[127]? = some (.ref qf127) ∧ z1383[128]? = some (.ref qf128) ∧ z1383[129]? = some (.int v129) ∧ z1383[130]? = some (.int v130) ∧ z1383[131]? = some (.int x131_1383) ∧ z1383[132]? = some (.int v132) ∧ z1383[134]? = some (.int v134) ∧ z1383[136]? = some (.int v136) ∧ z1383[137]? = some (.ref qf137) ∧ z1383.length = 155 ∧ (∀ j : Nat, j ≠ 117 → j ≠ 120 → j ≠ 131 → z1383[j]? = zs[j]?) ∧ (rr_1383 = 0 ∨ rr_1383 = 1) ∧ some (rr_1383, g118_1383, g119_1383, g127_1383, g128_1383, g137_1383, x117_1383, x120_1383, x131_1383) = some (r0, o118, o119, o127, o128, o137, w117, w120, w131)) ?_ ?_
  · intro x9 hJ9
    obtain ⟨H, locs, ls, z1383, rr_1383, g118_1383, g119_1383, g127_1383, g128_1383, g137_1383, x117_1383, x120_1383, x131_1383⟩ := x9
    obtain ⟨hS, hD, hP, hfh_1383_98, hfh_1383_100, hfh_1383_102, hfh_1383_104, hfh_1383_105, hfh_1383_117, hfh_1383_118, hfh_1383_119, hfh_1383_120, hfh_1383_127, hfh_1383_128, hfh_1383_129, hfh_1383_130, hfh_1383_131, hfh_1383_132, hfh_1383_134, hfh_1383_136, hfh_1383_137, hlh_1383, hrh_1383, hz9, hsp⟩ := hJ9
    replace hS : va_S A s.heap H locs := hS
    replace hD : va_D A [(h0, .inr (13, z1383)), (qf100, .inl (cf100, 48000, .inl f100)), (qf128, .inl (cf128, 31, .inl g128_1383)), (qf127, .inl (cf127, 30, .inl g127_1383)), (qf104, .inl (cf104, 8, .inl f104)), (qf102, .inl (cf102, 2048, .inl f102)), (qf118, .inl (cf118, 2100, .inl g118_1383)), (qf119, .inl (cf119, 2100, .inl g119_1383)), (qf105, .inl (cf105, 8, .inl f105)), (qf137, .inl (cf137, 6, .inl g137_1383))] := hD
    replace hP : va_P (dC, dI) vwCl [(h0, .inr (13, z1383)), (qf100, .inl (cf100, 48000, .inl f100)), (qf128, .inl (cf128, 31, .inl g128_1383)), (qf127, .inl (cf127, 30, .inl g127_1383)), (qf104, .inl (cf104, 8, .inl f104)), (qf102, .inl (cf102, 2048, .inl f102)), (qf118, .inl (cf118, 2100, .inl g118_1383)), (qf119, .inl (cf119, 2100, .inl g119_1383)), (qf105, .inl (cf105, 8, .inl f105)), (qf137, .inl (cf137, 6, .inl g137_1383))] H := hP
    replace hsp : some (rr_1383, g118_1383, g119_1383, g127_1383, g128_1383, g137_1383, x117_1383, x120_1383, x131_1383) = some (r0, o118, o119, o127, o128, o137, w117, w120, w131) := hsp
    show W _ _ _ _ _ _ _ _ _ _ H locs _ _ _ (F0 m 1383 ls [.int rr_1383])
    rcases hz9 with rfl | rfl
    · skip
      have hr0 := Option.some.inj hsp
      clear hsp
      obtain ⟨hq0, hr1⟩ := Prod.mk.inj hr0
      clear hr0
      obtain ⟨hq1, hr2⟩ := Prod.mk.inj hr1
      clear hr1
      obtain ⟨hq2, hr3⟩ := Prod.mk.inj hr2
      clear hr2
      obtain ⟨hq3, hr4⟩ := Prod.mk.inj hr3
      clear hr3
      obtain ⟨hq4, hr5⟩ := Prod.mk.inj hr4
      clear hr4
      obtain ⟨hq5, hr6⟩ := Prod.mk.inj hr5
      clear hr5
      obtain ⟨hq6, hr7⟩ := Prod.mk.inj hr6
      clear hr6
      obtain ⟨hq7, hr8⟩ := Prod.mk.inj hr7
      clear hr7
      subst hq0
      subst hq1
      subst hq2
      subst hq3
      subst hq4
      subst hq5
      subst hq6
      subst hq7
      subst hr8
      have hP9 := hP.sub (ws' := [(h0, .inr (13, z1383)), (qf100, .inl (cf100, 48000, .inl f100)), (qf128, .inl (cf128, 31, .inl g128_1383)), (qf127, .inl (cf127, 30, .inl g127_1383)), (qf104, .inl (cf104, 8, .inl f104)), (qf102, .inl (cf102, 2048, .inl f102)), (qf118, .inl (cf118, 2100, .inl g118_1383)), (qf119, .inl (cf119, 2100, .inl g119_1383)), (qf105, .inl (cf105, 8, .inl f105)), (qf137, .inl (cf137, 6, .inl g137_1383))]) [0, 1, 2, 3, 4, 5, 6, 7, 8, 9] rfl
      have hD9 := hD.sub (ws' := [(h0, .inr (13, z1383)), (qf100, .inl (cf100, 48000, .inl f100)), (qf128, .inl (cf128, 31, .inl g128_1383)), (qf127, .inl (cf127, 30, .inl g127_1383)), (qf104, .inl (cf104, 8, .inl f104)), (qf102, .inl (cf102, 2048, .inl f102)), (qf118, .inl (cf118, 2100, .inl g118_1383)), (qf119, .inl (cf119, 2100, .inl g119_1383)), (qf105, .inl (cf105, 8, .inl f105)), (qf137, .inl (cf137, 6, .inl g137_1383))]) [0, 1, 2, 3, 4, 5, 6, 7, 8, 9] (by decide) rfl
      have hK9 := hK.sub (tys' := [(cf100, .int), (cf128, .int), (cf127, .int), (cf104, .int), (cf102, .int), (cf118, .int), (cf119, .int), (cf105, .int), (cf137, .int)]) [0, 1, 2, 3, 4, 5, 6, 7, 8] rfl
      exact W.zret hx hb hr (by decide) (fun t ht hW => ⟨⟨(0), (z1383), rfl, ⟨⟨rfl, Or.inl rfl⟩, hlh_1383, hrh_1383, hfh_1383_117, hfh_1383_120, hfh_1383_131⟩, by rw [ht]; exact hP9, va_K.moved hW.alike hK9, hD9⟩, hS.F ht⟩) hS.2.2 dX13_wanted_1383
    · skip
      have hr0 := Option.some.inj hsp
      clear hsp
      obtain ⟨hq0, hr1⟩ := Prod.mk.inj hr0
      clear hr0
      obtain ⟨hq1, hr2⟩ := Prod.mk.inj hr1
      clear hr1
      obtain ⟨hq2, hr3⟩ := Prod.mk.inj hr2
      clear hr2
      obtain ⟨hq3, hr4⟩ := Prod.mk.inj hr3
      clear hr3
      obtain ⟨hq4, hr5⟩ := Prod.mk.inj hr4
      clear hr4
      obtain ⟨hq5, hr6⟩ := Prod.mk.inj hr5
      clear hr5
      obtain ⟨hq6, hr7⟩ := Prod.mk.inj hr6
      clear hr6
      obtain ⟨hq7, hr8⟩ := Prod.mk.inj hr7
      clear hr7
      subst hq0
      subst hq1
      subst hq2
      subst hq3
      subst hq4
      subst hq5
      subst hq6
      subst hq7
      subst hr8
      have hP9 := hP.sub (ws' := [(h0, .inr (13, z1383)), (qf100, .inl (cf100, 48000, .inl f100)), (qf128, .inl (cf128, 31, .inl g128_1383)), (qf127, .inl (cf127, 30, .inl g127_1383)), (qf104, .inl (cf104, 8, .inl f104)), (qf102, .inl (cf102, 2048, .inl f102)), (qf118, .inl (cf118, 2100, .inl g118_1383)), (qf119, .inl (cf119, 2100, .inl g119_1383)), (qf105, .inl (cf105, 8, .inl f105)), (qf137, .inl (cf137, 6, .inl g137_1383))]) [0, 1, 2, 3, 4, 5, 6, 7, 8, 9] rfl
      have hD9 := hD.sub (ws' := [(h0, .inr (13, z1383)), (qf100, .inl (cf100, 48000, .inl f100)), (qf128, .inl (cf128, 31, .inl g128_1383)), (qf127, .inl (cf127, 30, .inl g127_1383)), (qf104, .inl (cf104, 8, .inl f104)), (qf102, .inl (cf102, 2048, .inl f102)), (qf118, .inl (cf118, 2100, .inl g118_1383)), (qf119, .inl (cf119, 2100, .inl g119_1383)), (qf105, .inl (cf105, 8, .inl f105)), (qf137, .inl (cf137, 6, .inl g137_1383))]) [0, 1, 2, 3, 4, 5, 6, 7, 8, 9] (by decide) rfl
      have hK9 := hK.sub (tys' := [(cf100, .int), (cf128, .int), (cf127, .int), (cf104, .int), (cf102, .int), (cf118, .int), (cf119, .int), (cf105, .int), (cf137, .int)]) [0, 1, 2, 3, 4, 5, 6, 7, 8] rfl
      exact W.zret hx hb hr (by decide) (fun t ht hW => ⟨⟨(1), (z1383), rfl, ⟨⟨rfl, Or.inr rfl⟩, hlh_1383, hrh_1383, hfh_1383_117, hfh_1383_120, hfh_1383_131⟩, by rw [ht]; exact hP9, va_K.moved hW.alike hK9, hD9⟩, hS.F ht⟩) hS.2.2 dX13_wanted_1383
  intro hret_1383
  refine jn_use (α := Heap × List Loc × Array Slot × List Value × Int32 × (Nat → Int32) × (Nat → Int32) × (Nat → Int32) × (Nat → Int32) × (Nat → Int32) × Int32 × Int32 × Int32) (fun x9 => x9.1) (fun x9 => x9.2.1) (fun x9 => F0 m 1431 x9.2.2.1 [.int (x9.2.2.2.2.1)]) (fun x9 => match x9 with | (H, locs, ls, z1431, rr_1431, g118_1431, g119_1431, g127_1431, g128_1431, g137_1431, x117_1431, x120_1431, x131_1431) => va_S A s.heap H locs ∧ va_D A [(h0, .inr (13, z1431)), (qf100, .inl (cf100, 48000, .inl f100)), (qf128, .inl (cf128, 31, .inl g128_1431)), (qf127, .inl (cf127, 30, .inl g127_1431)), (qf104, .inl (cf104, 8, .inl f104)), (qf102, .inl (cf102, 2048, .inl f102)), (qf118, .inl (cf118, 2100, .inl g118_1431)), (qf119, .inl (cf119, 2100, .inl g119_1431)), (qf105, .inl (cf105, 8, .inl f105)), (qf137, .inl (cf137, 6, .inl g137_1431))] ∧ va_P (dC, dI) vwCl [(h0, .inr (13, z1431)), (qf100, .inl (cf100, 48000, .inl f100)), (qf128, .inl (cf128, 31, .inl g128_1431)), (qf127, .inl (cf127, 30, .inl g127_1431)), (qf104, .inl (cf104, 8, .inl f104)), (qf102, .inl (cf102, 2048, .inl f102)), (qf118, .inl (cf118, 2100, .inl g118_1431)), (qf119, .inl (cf119, 2100, .inl g119_1431)), (qf105, .inl (cf105, 8, .inl f105)), (qf137, .inl (cf137, 6, .inl g137_1431))] H ∧ z1431[98]? = some (.int v98) ∧ z1431[100]? = some (.ref qf100) ∧ z1431[102]? = some (.ref qf102) ∧ z1431[104]? = some (.ref qf104) ∧ z1431[105]? = some (.ref qf105) ∧ z1431[117]? = some (.int x117_1431) ∧ z1431[118]? = some (.ref qf118) ∧ z1431[119]? = some (.ref qf119) ∧ z1431[120]? = some (.int x120_1431) ∧ z1431[127]? = some (.ref qf127) ∧ z1431[128]? = some (.ref qf128) ∧ z1431[129]? = some (.int v129) ∧ z1431[130]? = some (.int v130) ∧ z1431[131]? = some (.int x131_1431) ∧ z1431[132]? = some (.int v132) ∧ z1431[134]? = some (.int v134) ∧ z1431[136]? = some (.int v136) ∧ z1431[137]? = some (.ref qf137) ∧ z1431.length = 155 ∧ (∀ j : Nat, j ≠ 117 → j ≠ 120 → j ≠ 131 → z1431[j]? = zs[j]?) ∧ (rr_1431 = 0 ∨ rr_1431 = 1) ∧ some (rr_1431, g118_1431, g119_1431, g127_1431, g128_1431, g137_1431, x117_1431, x120_1431, x131_1431) = some (r0, o118, o119, o127, o128, o137, w117, w120, w131)) ?_ ?_
  · intro x9 hJ9
    obtain ⟨H, locs, ls, z1431, rr_1431, g118_1431, g119_1431, g127_1431, g128_1431, g137_1431, x117_1431, x120_1431, x131_1431⟩ := x9
    obtain ⟨hS, hD, hP, hfh_1431_98, hfh_1431_100, hfh_1431_102, hfh_1431_104, hfh_1431_105, hfh_1431_117, hfh_1431_118, hfh_1431_119, hfh_1431_120, hfh_1431_127, hfh_1431_128, hfh_1431_129, hfh_1431_130, hfh_1431_131, hfh_1431_132, hfh_1431_134, hfh_1431_136, hfh_1431_137, hlh_1431, hrh_1431, hz9, hsp⟩ := hJ9
    replace hS : va_S A s.heap H locs := hS
    replace hD : va_D A [(h0, .inr (13, z1431)), (qf100, .inl (cf100, 48000, .inl f100)), (qf128, .inl (cf128, 31, .inl g128_1431)), (qf127, .inl (cf127, 30, .inl g127_1431)), (qf104, .inl (cf104, 8, .inl f104)), (qf102, .inl (cf102, 2048, .inl f102)), (qf118, .inl (cf118, 2100, .inl g118_1431)), (qf119, .inl (cf119, 2100, .inl g119_1431)), (qf105, .inl (cf105, 8, .inl f105)), (qf137, .inl (cf137, 6, .inl g137_1431))] := hD
    replace hP : va_P (dC, dI) vwCl [(h0, .inr (13, z1431)), (qf100, .inl (cf100, 48000, .inl f100)), (qf128, .inl (cf128, 31, .inl g128_1431)), (qf127, .inl (cf127, 30, .inl g127_1431)), (qf104, .inl (cf104, 8, .inl f104)), (qf102, .inl (cf102, 2048, .inl f102)), (qf118, .inl (cf118, 2100, .inl g118_1431)), (qf119, .inl (cf119, 2100, .inl g119_1431)), (qf105, .inl (cf105, 8, .inl f105)), (qf137, .inl (cf137, 6, .inl g137_1431))] H := hP
    replace hsp : some (rr_1431, g118_1431, g119_1431, g127_1431, g128_1431, g137_1431, x117_1431, x120_1431, x131_1431) = some (r0, o118, o119, o127, o128, o137, w117, w120, w131) := hsp
    show W _ _ _ _ _ _ _ _ _ _ H locs _ _ _ (F0 m 1431 ls [.int rr_1431])
    rcases hz9 with rfl | rfl
    · skip
      have hr0 := Option.some.inj hsp
      clear hsp
      obtain ⟨hq0, hr1⟩ := Prod.mk.inj hr0
      clear hr0
      obtain ⟨hq1, hr2⟩ := Prod.mk.inj hr1
      clear hr1
      obtain ⟨hq2, hr3⟩ := Prod.mk.inj hr2
      clear hr2
      obtain ⟨hq3, hr4⟩ := Prod.mk.inj hr3
      clear hr3
      obtain ⟨hq4, hr5⟩ := Prod.mk.inj hr4
      clear hr4
      obtain ⟨hq5, hr6⟩ := Prod.mk.inj hr5
      clear hr5
      obtain ⟨hq6, hr7⟩ := Prod.mk.inj hr6
      clear hr6
      obtain ⟨hq7, hr8⟩ := Prod.mk.inj hr7
      clear hr7
      subst hq0
      subst hq1
      subst hq2
      subst hq3
      subst hq4
      subst hq5
      subst hq6
      subst hq7
      subst hr8
      have hP9 := hP.sub (ws' := [(h0, .inr (13, z1431)), (qf100, .inl (cf100, 48000, .inl f100)), (qf128, .inl (cf128, 31, .inl g128_1431)), (qf127, .inl (cf127, 30, .inl g127_1431)), (qf104, .inl (cf104, 8, .inl f104)), (qf102, .inl (cf102, 2048, .inl f102)), (qf118, .inl (cf118, 2100, .inl g118_1431)), (qf119, .inl (cf119, 2100, .inl g119_1431)), (qf105, .inl (cf105, 8, .inl f105)), (qf137, .inl (cf137, 6, .inl g137_1431))]) [0, 1, 2, 3, 4, 5, 6, 7, 8, 9] rfl
      have hD9 := hD.sub (ws' := [(h0, .inr (13, z1431)), (qf100, .inl (cf100, 48000, .inl f100)), (qf128, .inl (cf128, 31, .inl g128_1431)), (qf127, .inl (cf127, 30, .inl g127_1431)), (qf104, .inl (cf104, 8, .inl f104)), (qf102, .inl (cf102, 2048, .inl f102)), (qf118, .inl (cf118, 2100, .inl g118_1431)), (qf119, .inl (cf119, 2100, .inl g119_1431)), (qf105, .inl (cf105, 8, .inl f105)), (qf137, .inl (cf137, 6, .inl g137_1431))]) [0, 1, 2, 3, 4, 5, 6, 7, 8, 9] (by decide) rfl
      have hK9 := hK.sub (tys' := [(cf100, .int), (cf128, .int), (cf127, .int), (cf104, .int), (cf102, .int), (cf118, .int), (cf119, .int), (cf105, .int), (cf137, .int)]) [0, 1, 2, 3, 4, 5, 6, 7, 8] rfl
      exact W.zret hx hb hr (by decide) (fun t ht hW => ⟨⟨(0), (z1431), rfl, ⟨⟨rfl, Or.inl rfl⟩, hlh_1431, hrh_1431, hfh_1431_117, hfh_1431_120, hfh_1431_131⟩, by rw [ht]; exact hP9, va_K.moved hW.alike hK9, hD9⟩, hS.F ht⟩) hS.2.2 dX13_wanted_1431
    · skip
      have hr0 := Option.some.inj hsp
      clear hsp
      obtain ⟨hq0, hr1⟩ := Prod.mk.inj hr0
      clear hr0
      obtain ⟨hq1, hr2⟩ := Prod.mk.inj hr1
      clear hr1
      obtain ⟨hq2, hr3⟩ := Prod.mk.inj hr2
      clear hr2
      obtain ⟨hq3, hr4⟩ := Prod.mk.inj hr3
      clear hr3
      obtain ⟨hq4, hr5⟩ := Prod.mk.inj hr4
      clear hr4
      obtain ⟨hq5, hr6⟩ := Prod.mk.inj hr5
      clear hr5
      obtain ⟨hq6, hr7⟩ := Prod.mk.inj hr6
      clear hr6
      obtain ⟨hq7, hr8⟩ := Prod.mk.inj hr7
      clear hr7
      subst hq0
      subst hq1
      subst hq2
      subst hq3
      subst hq4
      subst hq5
      subst hq6
      subst hq7
      subst hr8
      have hP9 := hP.sub (ws' := [(h0, .inr (13, z1431)), (qf100, .inl (cf100, 48000, .inl f100)), (qf128, .inl (cf128, 31, .inl g128_1431)), (qf127, .inl (cf127, 30, .inl g127_1431)), (qf104, .inl (cf104, 8, .inl f104)), (qf102, .inl (cf102, 2048, .inl f102)), (qf118, .inl (cf118, 2100, .inl g118_1431)), (qf119, .inl (cf119, 2100, .inl g119_1431)), (qf105, .inl (cf105, 8, .inl f105)), (qf137, .inl (cf137, 6, .inl g137_1431))]) [0, 1, 2, 3, 4, 5, 6, 7, 8, 9] rfl
      have hD9 := hD.sub (ws' := [(h0, .inr (13, z1431)), (qf100, .inl (cf100, 48000, .inl f100)), (qf128, .inl (cf128, 31, .inl g128_1431)), (qf127, .inl (cf127, 30, .inl g127_1431)), (qf104, .inl (cf104, 8, .inl f104)), (qf102, .inl (cf102, 2048, .inl f102)), (qf118, .inl (cf118, 2100, .inl g118_1431)), (qf119, .inl (cf119, 2100, .inl g119_1431)), (qf105, .inl (cf105, 8, .inl f105)), (qf137, .inl (cf137, 6, .inl g137_1431))]) [0, 1, 2, 3, 4, 5, 6, 7, 8, 9] (by decide) rfl
      have hK9 := hK.sub (tys' := [(cf100, .int), (cf128, .int), (cf127, .int), (cf104, .int), (cf102, .int), (cf118, .int), (cf119, .int), (cf105, .int), (cf137, .int)]) [0, 1, 2, 3, 4, 5, 6, 7, 8] rfl
      exact W.zret hx hb hr (by decide) (fun t ht hW => ⟨⟨(1), (z1431), rfl, ⟨⟨rfl, Or.inr rfl⟩, hlh_1431, hrh_1431, hfh_1431_117, hfh_1431_120, hfh_1431_131⟩, by rw [ht]; exact hP9, va_K.moved hW.alike hK9, hD9⟩, hS.F ht⟩) hS.2.2 dX13_wanted_1431
  intro hret_1431
  refine jn_use (α := Heap × List Loc × Array Slot × List Value × Int32 × (Nat → Int32) × (Nat → Int32) × (Nat → Int32) × (Nat → Int32) × (Nat → Int32) × Int32 × Int32 × Int32) (fun x9 => x9.1) (fun x9 => x9.2.1) (fun x9 => F0 m 1479 x9.2.2.1 [.int (x9.2.2.2.2.1)]) (fun x9 => match x9 with | (H, locs, ls, z1479, rr_1479, g118_1479, g119_1479, g127_1479, g128_1479, g137_1479, x117_1479, x120_1479, x131_1479) => va_S A s.heap H locs ∧ va_D A [(h0, .inr (13, z1479)), (qf100, .inl (cf100, 48000, .inl f100)), (qf128, .inl (cf128, 31, .inl g128_1479)), (qf127, .inl (cf127, 30, .inl g127_1479)), (qf104, .inl (cf104, 8, .inl f104)), (qf102, .inl (cf102, 2048, .inl f102)), (qf118, .inl (cf118, 2100, .inl g118_1479)), (qf119, .inl (cf119, 2100, .inl g119_1479)), (qf105, .inl (cf105, 8, .inl f105)), (qf137, .inl (cf137, 6, .inl g137_1479))] ∧ va_P (dC, dI) vwCl [(h0, .inr (13, z1479)), (qf100, .inl (cf100, 48000, .inl f100)), (qf128, .inl (cf128, 31, .inl g128_1479)), (qf127, .inl (cf127, 30, .inl g127_1479)), (qf104, .inl (cf104, 8, .inl f104)), (qf102, .inl (cf102, 2048, .inl f102)), (qf118, .inl (cf118, 2100, .inl g118_1479)), (qf119, .inl (cf119, 2100, .inl g119_1479)), (qf105, .inl (cf105, 8, .inl f105)), (qf137, .inl (cf137, 6, .inl g137_1479))] H ∧ z1479[98]? = some (.int v98) ∧ z1479[100]? = some (.ref qf100) ∧ z1479[102]? = some (.ref qf102) ∧ z1479[104]? = some (.ref qf104) ∧ z1479[105]? = some (.ref qf105) ∧ z1479[117]? = some (.int x117_1479) ∧ z1479[118]? = some (.ref qf118) ∧ z1479[119]? = some (.ref qf119) ∧ z1479[120]? = some (.int x120_1479) ∧ z1479[127]? = some (.ref qf127) ∧ z1479[128]? = some (.ref qf128) ∧ z1479[129]? = some (.int v129) ∧ z1479[130]? = some (.int v130) ∧ z1479[131]? = some (.int x131_1479) ∧ z1479[132]? = some (.int v132) ∧ z1479[134]? = some (.int v134) ∧ z1479[136]? = some (.int v136) ∧ z1479[137]? = some (.ref qf137) ∧ z1479.length = 155 ∧ (∀ j : Nat, j ≠ 117 → j ≠ 120 → j ≠ 131 → z1479[j]? = zs[j]?) ∧ (rr_1479 = 0 ∨ rr_1479 = 1) ∧ some (rr_1479, g118_1479, g119_1479, g127_1479, g128_1479, g137_1479, x117_1479, x120_1479, x131_1479) = some (r0, o118, o119, o127, o128, o137, w117, w120, w131)) ?_ ?_
  · intro x9 hJ9
    obtain ⟨H, locs, ls, z1479, rr_1479, g118_1479, g119_1479, g127_1479, g128_1479, g137_1479, x117_1479, x120_1479, x131_1479⟩ := x9
    obtain ⟨hS, hD, hP, hfh_1479_98, hfh_1479_100, hfh_1479_102, hfh_1479_104, hfh_1479_105, hfh_1479_117, hfh_1479_118, hfh_1479_119, hfh_1479_120, hfh_1479_127, hfh_1479_128, hfh_1479_129, hfh_1479_130, hfh_1479_131, hfh_1479_132, hfh_1479_134, hfh_1479_136, hfh_1479_137, hlh_1479, hrh_1479, hz9, hsp⟩ := hJ9
    replace hS : va_S A s.heap H locs := hS
    replace hD : va_D A [(h0, .inr (13, z1479)), (qf100, .inl (cf100, 48000, .inl f100)), (qf128, .inl (cf128, 31, .inl g128_1479)), (qf127, .inl (cf127, 30, .inl g127_1479)), (qf104, .inl (cf104, 8, .inl f104)), (qf102, .inl (cf102, 2048, .inl f102)), (qf118, .inl (cf118, 2100, .inl g118_1479)), (qf119, .inl (cf119, 2100, .inl g119_1479)), (qf105, .inl (cf105, 8, .inl f105)), (qf137, .inl (cf137, 6, .inl g137_1479))] := hD
    replace hP : va_P (dC, dI) vwCl [(h0, .inr (13, z1479)), (qf100, .inl (cf100, 48000, .inl f100)), (qf128, .inl (cf128, 31, .inl g128_1479)), (qf127, .inl (cf127, 30, .inl g127_1479)), (qf104, .inl (cf104, 8, .inl f104)), (qf102, .inl (cf102, 2048, .inl f102)), (qf118, .inl (cf118, 2100, .inl g118_1479)), (qf119, .inl (cf119, 2100, .inl g119_1479)), (qf105, .inl (cf105, 8, .inl f105)), (qf137, .inl (cf137, 6, .inl g137_1479))] H := hP
    replace hsp : some (rr_1479, g118_1479, g119_1479, g127_1479, g128_1479, g137_1479, x117_1479, x120_1479, x131_1479) = some (r0, o118, o119, o127, o128, o137, w117, w120, w131) := hsp
    show W _ _ _ _ _ _ _ _ _ _ H locs _ _ _ (F0 m 1479 ls [.int rr_1479])
    rcases hz9 with rfl | rfl
    · skip
      have hr0 := Option.some.inj hsp
      clear hsp
      obtain ⟨hq0, hr1⟩ := Prod.mk.inj hr0
      clear hr0
      obtain ⟨hq1, hr2⟩ := Prod.mk.inj hr1
      clear hr1
      obtain ⟨hq2, hr3⟩ := Prod.mk.inj hr2
      clear hr2
      obtain ⟨hq3, hr4⟩ := Prod.mk.inj hr3
      clear hr3
      obtain ⟨hq4, hr5⟩ := Prod.mk.inj hr4
      clear hr4
      obtain ⟨hq5, hr6⟩ := Prod.mk.inj hr5
      clear hr5
      obtain ⟨hq6, hr7⟩ := Prod.mk.inj hr6
      clear hr6
      obtain ⟨hq7, hr8⟩ := Prod.mk.inj hr7
      clear hr7
      subst hq0
      subst hq1
      subst hq2
      subst hq3
      subst hq4
      subst hq5
      subst hq6
      subst hq7
      subst hr8
      have hP9 := hP.sub (ws' := [(h0, .inr (13, z1479)), (qf100, .inl (cf100, 48000, .inl f100)), (qf128, .inl (cf128, 31, .inl g128_1479)), (qf127, .inl (cf127, 30, .inl g127_1479)), (qf104, .inl (cf104, 8, .inl f104)), (qf102, .inl (cf102, 2048, .inl f102)), (qf118, .inl (cf118, 2100, .inl g118_1479)), (qf119, .inl (cf119, 2100, .inl g119_1479)), (qf105, .inl (cf105, 8, .inl f105)), (qf137, .inl (cf137, 6, .inl g137_1479))]) [0, 1, 2, 3, 4, 5, 6, 7, 8, 9] rfl
      have hD9 := hD.sub (ws' := [(h0, .inr (13, z1479)), (qf100, .inl (cf100, 48000, .inl f100)), (qf128, .inl (cf128, 31, .inl g128_1479)), (qf127, .inl (cf127, 30, .inl g127_1479)), (qf104, .inl (cf104, 8, .inl f104)), (qf102, .inl (cf102, 2048, .inl f102)), (qf118, .inl (cf118, 2100, .inl g118_1479)), (qf119, .inl (cf119, 2100, .inl g119_1479)), (qf105, .inl (cf105, 8, .inl f105)), (qf137, .inl (cf137, 6, .inl g137_1479))]) [0, 1, 2, 3, 4, 5, 6, 7, 8, 9] (by decide) rfl
      have hK9 := hK.sub (tys' := [(cf100, .int), (cf128, .int), (cf127, .int), (cf104, .int), (cf102, .int), (cf118, .int), (cf119, .int), (cf105, .int), (cf137, .int)]) [0, 1, 2, 3, 4, 5, 6, 7, 8] rfl
      exact W.zret hx hb hr (by decide) (fun t ht hW => ⟨⟨(0), (z1479), rfl, ⟨⟨rfl, Or.inl rfl⟩, hlh_1479, hrh_1479, hfh_1479_117, hfh_1479_120, hfh_1479_131⟩, by rw [ht]; exact hP9, va_K.moved hW.alike hK9, hD9⟩, hS.F ht⟩) hS.2.2 dX13_wanted_1479
    · skip
      have hr0 := Option.some.inj hsp
      clear hsp
      obtain ⟨hq0, hr1⟩ := Prod.mk.inj hr0
      clear hr0
      obtain ⟨hq1, hr2⟩ := Prod.mk.inj hr1
      clear hr1
      obtain ⟨hq2, hr3⟩ := Prod.mk.inj hr2
      clear hr2
      obtain ⟨hq3, hr4⟩ := Prod.mk.inj hr3
      clear hr3
      obtain ⟨hq4, hr5⟩ := Prod.mk.inj hr4
      clear hr4
      obtain ⟨hq5, hr6⟩ := Prod.mk.inj hr5
      clear hr5
      obtain ⟨hq6, hr7⟩ := Prod.mk.inj hr6
      clear hr6
      obtain ⟨hq7, hr8⟩ := Prod.mk.inj hr7
      clear hr7
      subst hq0
      subst hq1
      subst hq2
      subst hq3
      subst hq4
      subst hq5
      subst hq6
      subst hq7
      subst hr8
      have hP9 := hP.sub (ws' := [(h0, .inr (13, z1479)), (qf100, .inl (cf100, 48000, .inl f100)), (qf128, .inl (cf128, 31, .inl g128_1479)), (qf127, .inl (cf127, 30, .inl g127_1479)), (qf104, .inl (cf104, 8, .inl f104)), (qf102, .inl (cf102, 2048, .inl f102)), (qf118, .inl (cf118, 2100, .inl g118_1479)), (qf119, .inl (cf119, 2100, .inl g119_1479)), (qf105, .inl (cf105, 8, .inl f105)), (qf137, .inl (cf137, 6, .inl g137_1479))]) [0, 1, 2, 3, 4, 5, 6, 7, 8, 9] rfl
      have hD9 := hD.sub (ws' := [(h0, .inr (13, z1479)), (qf100, .inl (cf100, 48000, .inl f100)), (qf128, .inl (cf128, 31, .inl g128_1479)), (qf127, .inl (cf127, 30, .inl g127_1479)), (qf104, .inl (cf104, 8, .inl f104)), (qf102, .inl (cf102, 2048, .inl f102)), (qf118, .inl (cf118, 2100, .inl g118_1479)), (qf119, .inl (cf119, 2100, .inl g119_1479)), (qf105, .inl (cf105, 8, .inl f105)), (qf137, .inl (cf137, 6, .inl g137_1479))]) [0, 1, 2, 3, 4, 5, 6, 7, 8, 9] (by decide) rfl
      have hK9 := hK.sub (tys' := [(cf100, .int), (cf128, .int), (cf127, .int), (cf104, .int), (cf102, .int), (cf118, .int), (cf119, .int), (cf105, .int), (cf137, .int)]) [0, 1, 2, 3, 4, 5, 6, 7, 8] rfl
      exact W.zret hx hb hr (by decide) (fun t ht hW => ⟨⟨(1), (z1479), rfl, ⟨⟨rfl, Or.inr rfl⟩, hlh_1479, hrh_1479, hfh_1479_117, hfh_1479_120, hfh_1479_131⟩, by rw [ht]; exact hP9, va_K.moved hW.alike hK9, hD9⟩, hS.F ht⟩) hS.2.2 dX13_wanted_1479
  intro hret_1479
  refine jn_use (α := Heap × List Loc × Array Slot × List Value × Int32 × (Nat → Int32) × (Nat → Int32) × (Nat → Int32) × (Nat → Int32) × (Nat → Int32) × Int32 × Int32 × Int32) (fun x9 => x9.1) (fun x9 => x9.2.1) (fun x9 => F0 m 1497 x9.2.2.1 [.int (x9.2.2.2.2.1)]) (fun x9 => match x9 with | (H, locs, ls, z1497, rr_1497, g118_1497, g119_1497, g127_1497, g128_1497, g137_1497, x117_1497, x120_1497, x131_1497) => va_S A s.heap H locs ∧ va_D A [(h0, .inr (13, z1497)), (qf100, .inl (cf100, 48000, .inl f100)), (qf128, .inl (cf128, 31, .inl g128_1497)), (qf127, .inl (cf127, 30, .inl g127_1497)), (qf104, .inl (cf104, 8, .inl f104)), (qf102, .inl (cf102, 2048, .inl f102)), (qf118, .inl (cf118, 2100, .inl g118_1497)), (qf119, .inl (cf119, 2100, .inl g119_1497)), (qf105, .inl (cf105, 8, .inl f105)), (qf137, .inl (cf137, 6, .inl g137_1497))] ∧ va_P (dC, dI) vwCl [(h0, .inr (13, z1497)), (qf100, .inl (cf100, 48000, .inl f100)), (qf128, .inl (cf128, 31, .inl g128_1497)), (qf127, .inl (cf127, 30, .inl g127_1497)), (qf104, .inl (cf104, 8, .inl f104)), (qf102, .inl (cf102, 2048, .inl f102)), (qf118, .inl (cf118, 2100, .inl g118_1497)), (qf119, .inl (cf119, 2100, .inl g119_1497)), (qf105, .inl (cf105, 8, .inl f105)), (qf137, .inl (cf137, 6, .inl g137_1497))] H ∧ z1497[98]? = some (.int v98) ∧ z1497[100]? = some (.ref qf100) ∧ z1497[102]? = some (.ref qf102) ∧ z1497[104]? = some (.ref qf104) ∧ z1497[105]? = some (.ref qf105) ∧ z1497[117]? = some (.int x117_1497) ∧ z1497[118]? = some (.ref qf118) ∧ z1497[119]? = some (.ref qf119) ∧ z1497[120]? = some (.int x120_1497) ∧ z1497[127]? = some (.ref qf127) ∧ z1497[128]? = some (.ref qf128) ∧ z1497[129]? = some (.int v129) ∧ z1497[130]? = some (.int v130) ∧ z1497[131]? = some (.int x131_1497) ∧ z1497[132]? = some (.int v132) ∧ z1497[134]? = some (.int v134) ∧ z1497[136]? = some (.int v136) ∧ z1497[137]? = some (.ref qf137) ∧ z1497.length = 155 ∧ (∀ j : Nat, j ≠ 117 → j ≠ 120 → j ≠ 131 → z1497[j]? = zs[j]?) ∧ (rr_1497 = 0 ∨ rr_1497 = 1) ∧ some (rr_1497, g118_1497, g119_1497, g127_1497, g128_1497, g137_1497, x117_1497, x120_1497, x131_1497) = some (r0, o118, o119, o127, o128, o137, w117, w120, w131)) ?_ ?_
  · intro x9 hJ9
    obtain ⟨H, locs, ls, z1497, rr_1497, g118_1497, g119_1497, g127_1497, g128_1497, g137_1497, x117_1497, x120_1497, x131_1497⟩ := x9
    obtain ⟨hS, hD, hP, hfh_1497_98, hfh_1497_100, hfh_1497_102, hfh_1497_104, hfh_1497_105, hfh_1497_117, hfh_1497_118, hfh_1497_119, hfh_1497_120, hfh_1497_127, hfh_1497_128, hfh_1497_129, hfh_1497_130, hfh_1497_131, hfh_1497_132, hfh_1497_134, hfh_1497_136, hfh_1497_137, hlh_1497, hrh_1497, hz9, hsp⟩ := hJ9
    replace hS : va_S A s.heap H locs := hS
    replace hD : va_D A [(h0, .inr (13, z1497)), (qf100, .inl (cf100, 48000, .inl f100)), (qf128, .inl (cf128, 31, .inl g128_1497)), (qf127, .inl (cf127, 30, .inl g127_1497)), (qf104, .inl (cf104, 8, .inl f104)), (qf102, .inl (cf102, 2048, .inl f102)), (qf118, .inl (cf118, 2100, .inl g118_1497)), (qf119, .inl (cf119, 2100, .inl g119_1497)), (qf105, .inl (cf105, 8, .inl f105)), (qf137, .inl (cf137, 6, .inl g137_1497))] := hD
    replace hP : va_P (dC, dI) vwCl [(h0, .inr (13, z1497)), (qf100, .inl (cf100, 48000, .inl f100)), (qf128, .inl (cf128, 31, .inl g128_1497)), (qf127, .inl (cf127, 30, .inl g127_1497)), (qf104, .inl (cf104, 8, .inl f104)), (qf102, .inl (cf102, 2048, .inl f102)), (qf118, .inl (cf118, 2100, .inl g118_1497)), (qf119, .inl (cf119, 2100, .inl g119_1497)), (qf105, .inl (cf105, 8, .inl f105)), (qf137, .inl (cf137, 6, .inl g137_1497))] H := hP
    replace hsp : some (rr_1497, g118_1497, g119_1497, g127_1497, g128_1497, g137_1497, x117_1497, x120_1497, x131_1497) = some (r0, o118, o119, o127, o128, o137, w117, w120, w131) := hsp
    show W _ _ _ _ _ _ _ _ _ _ H locs _ _ _ (F0 m 1497 ls [.int rr_1497])
    rcases hz9 with rfl | rfl
    · skip
      have hr0 := Option.some.inj hsp
      clear hsp
      obtain ⟨hq0, hr1⟩ := Prod.mk.inj hr0
      clear hr0
      obtain ⟨hq1, hr2⟩ := Prod.mk.inj hr1
      clear hr1
      obtain ⟨hq2, hr3⟩ := Prod.mk.inj hr2
      clear hr2
      obtain ⟨hq3, hr4⟩ := Prod.mk.inj hr3
      clear hr3
      obtain ⟨hq4, hr5⟩ := Prod.mk.inj hr4
      clear hr4
      obtain ⟨hq5, hr6⟩ := Prod.mk.inj hr5
      clear hr5
      obtain ⟨hq6, hr7⟩ := Prod.mk.inj hr6
      clear hr6
      obtain ⟨hq7, hr8⟩ := Prod.mk.inj hr7
      clear hr7
      subst hq0
      subst hq1
      subst hq2
      subst hq3
      subst hq4
      subst hq5
      subst hq6
      subst hq7
      subst hr8
      have hP9 := hP.sub (ws' := [(h0, .inr (13, z1497)), (qf100, .inl (cf100, 48000, .inl f100)), (qf128, .inl (cf128, 31, .inl g128_1497)), (qf127, .inl (cf127, 30, .inl g127_1497)), (qf104, .inl (cf104, 8, .inl f104)), (qf102, .inl (cf102, 2048, .inl f102)), (qf118, .inl (cf118, 2100, .inl g118_1497)), (qf119, .inl (cf119, 2100, .inl g119_1497)), (qf105, .inl (cf105, 8, .inl f105)), (qf137, .inl (cf137, 6, .inl g137_1497))]) [0, 1, 2, 3, 4, 5, 6, 7, 8, 9] rfl
      have hD9 := hD.sub (ws' := [(h0, .inr (13, z1497)), (qf100, .inl (cf100, 48000, .inl f100)), (qf128, .inl (cf128, 31, .inl g128_1497)), (qf127, .inl (cf127, 30, .inl g127_1497)), (qf104, .inl (cf104, 8, .inl f104)), (qf102, .inl (cf102, 2048, .inl f102)), (qf118, .inl (cf118, 2100, .inl g118_1497)), (qf119, .inl (cf119, 2100, .inl g119_1497)), (qf105, .inl (cf105, 8, .inl f105)), (qf137, .inl (cf137, 6, .inl g137_1497))]) [0, 1, 2, 3, 4, 5, 6, 7, 8, 9] (by decide) rfl
      have hK9 := hK.sub (tys' := [(cf100, .int), (cf128, .int), (cf127, .int), (cf104, .int), (cf102, .int), (cf118, .int), (cf119, .int), (cf105, .int), (cf137, .int)]) [0, 1, 2, 3, 4, 5, 6, 7, 8] rfl
      exact W.zret hx hb hr (by decide) (fun t ht hW => ⟨⟨(0), (z1497), rfl, ⟨⟨rfl, Or.inl rfl⟩, hlh_1497, hrh_1497, hfh_1497_117, hfh_1497_120, hfh_1497_131⟩, by rw [ht]; exact hP9, va_K.moved hW.alike hK9, hD9⟩, hS.F ht⟩) hS.2.2 dX13_wanted_1497
    · skip
      have hr0 := Option.some.inj hsp
      clear hsp
      obtain ⟨hq0, hr1⟩ := Prod.mk.inj hr0
      clear hr0
      obtain ⟨hq1, hr2⟩ := Prod.mk.inj hr1
      clear hr1
      obtain ⟨hq2, hr3⟩ := Prod.mk.inj hr2
      clear hr2
      obtain ⟨hq3, hr4⟩ := Prod.mk.inj hr3
      clear hr3
      obtain ⟨hq4, hr5⟩ := Prod.mk.inj hr4
      clear hr4
      obtain ⟨hq5, hr6⟩ := Prod.mk.inj hr5
      clear hr5
      obtain ⟨hq6, hr7⟩ := Prod.mk.inj hr6
      clear hr6
      obtain ⟨hq7, hr8⟩ := Prod.mk.inj hr7
      clear hr7
      subst hq0
      subst hq1
      subst hq2
      subst hq3
      subst hq4
      subst hq5
      subst hq6
      subst hq7
      subst hr8
      have hP9 := hP.sub (ws' := [(h0, .inr (13, z1497)), (qf100, .inl (cf100, 48000, .inl f100)), (qf128, .inl (cf128, 31, .inl g128_1497)), (qf127, .inl (cf127, 30, .inl g127_1497)), (qf104, .inl (cf104, 8, .inl f104)), (qf102, .inl (cf102, 2048, .inl f102)), (qf118, .inl (cf118, 2100, .inl g118_1497)), (qf119, .inl (cf119, 2100, .inl g119_1497)), (qf105, .inl (cf105, 8, .inl f105)), (qf137, .inl (cf137, 6, .inl g137_1497))]) [0, 1, 2, 3, 4, 5, 6, 7, 8, 9] rfl
      have hD9 := hD.sub (ws' := [(h0, .inr (13, z1497)), (qf100, .inl (cf100, 48000, .inl f100)), (qf128, .inl (cf128, 31, .inl g128_1497)), (qf127, .inl (cf127, 30, .inl g127_1497)), (qf104, .inl (cf104, 8, .inl f104)), (qf102, .inl (cf102, 2048, .inl f102)), (qf118, .inl (cf118, 2100, .inl g118_1497)), (qf119, .inl (cf119, 2100, .inl g119_1497)), (qf105, .inl (cf105, 8, .inl f105)), (qf137, .inl (cf137, 6, .inl g137_1497))]) [0, 1, 2, 3, 4, 5, 6, 7, 8, 9] (by decide) rfl
      have hK9 := hK.sub (tys' := [(cf100, .int), (cf128, .int), (cf127, .int), (cf104, .int), (cf102, .int), (cf118, .int), (cf119, .int), (cf105, .int), (cf137, .int)]) [0, 1, 2, 3, 4, 5, 6, 7, 8] rfl
      exact W.zret hx hb hr (by decide) (fun t ht hW => ⟨⟨(1), (z1497), rfl, ⟨⟨rfl, Or.inr rfl⟩, hlh_1497, hrh_1497, hfh_1497_117, hfh_1497_120, hfh_1497_131⟩, by rw [ht]; exact hP9, va_K.moved hW.alike hK9, hD9⟩, hS.F ht⟩) hS.2.2 dX13_wanted_1497
  intro hret_1497
  refine jn_use (α := Heap × List Loc × Array Slot × List Value × Int32 × (Nat → Int32) × (Nat → Int32) × (Nat → Int32) × (Nat → Int32) × (Nat → Int32) × Int32 × Int32 × Int32) (fun x9 => x9.1) (fun x9 => x9.2.1) (fun x9 => F0 m 1511 x9.2.2.1 [.int (x9.2.2.2.2.1)]) (fun x9 => match x9 with | (H, locs, ls, z1511, rr_1511, g118_1511, g119_1511, g127_1511, g128_1511, g137_1511, x117_1511, x120_1511, x131_1511) => va_S A s.heap H locs ∧ va_D A [(h0, .inr (13, z1511)), (qf100, .inl (cf100, 48000, .inl f100)), (qf128, .inl (cf128, 31, .inl g128_1511)), (qf127, .inl (cf127, 30, .inl g127_1511)), (qf104, .inl (cf104, 8, .inl f104)), (qf102, .inl (cf102, 2048, .inl f102)), (qf118, .inl (cf118, 2100, .inl g118_1511)), (qf119, .inl (cf119, 2100, .inl g119_1511)), (qf105, .inl (cf105, 8, .inl f105)), (qf137, .inl (cf137, 6, .inl g137_1511))] ∧ va_P (dC, dI) vwCl [(h0, .inr (13, z1511)), (qf100, .inl (cf100, 48000, .inl f100)), (qf128, .inl (cf128, 31, .inl g128_1511)), (qf127, .inl (cf127, 30, .inl g127_1511)), (qf104, .inl (cf104, 8, .inl f104)), (qf102, .inl (cf102, 2048, .inl f102)), (qf118, .inl (cf118, 2100, .inl g118_1511)), (qf119, .inl (cf119, 2100, .inl g119_1511)), (qf105, .inl (cf105, 8, .inl f105)), (qf137, .inl (cf137, 6, .inl g137_1511))] H ∧ z1511[98]? = some (.int v98) ∧ z1511[100]? = some (.ref qf100) ∧ z1511[102]? = some (.ref qf102) ∧ z1511[104]? = some (.ref qf104) ∧ z1511[105]? = some (.ref qf105) ∧ z1511[117]? = some (.int x117_1511) ∧ z1511[118]? = some (.ref qf118) ∧ z1511[119]? = some (.ref qf119) ∧ z1511[120]? = some (.int x120_1511) ∧ z1511[127]? = some (.ref qf127) ∧ z1511[128]? = some (.ref qf128) ∧ z1511[129]? = some (.int v129) ∧ z1511[130]? = some (.int v130) ∧ z1511[131]? = some (.int x131_1511) ∧ z1511[132]? = some (.int v132) ∧ z1511[134]? = some (.int v134) ∧ z1511[136]? = some (.int v136) ∧ z1511[137]? = some (.ref qf137) ∧ z1511.length = 155 ∧ (∀ j : Nat, j ≠ 117 → j ≠ 120 → j ≠ 131 → z1511[j]? = zs[j]?) ∧ (rr_1511 = 0 ∨ rr_1511 = 1) ∧ some (rr_1511, g118_1511, g119_1511, g127_1511, g128_1511, g137_1511, x117_1511, x120_1511, x131_1511) = some (r0, o118, o119, o127, o128, o137, w117, w120, w131)) ?_ ?_
  · intro x9 hJ9
    obtain ⟨H, locs, ls, z1511, rr_1511, g118_1511, g119_1511, g127_1511, g128_1511, g137_1511, x117_1511, x120_1511, x131_1511⟩ := x9
    obtain ⟨hS, hD, hP, hfh_1511_98, hfh_1511_100, hfh_1511_102, hfh_1511_104, hfh_1511_105, hfh_1511_117, hfh_1511_118, hfh_1511_119, hfh_1511_120, hfh_1511_127, hfh_1511_128, hfh_1511_129, hfh_1511_130, hfh_1511_131, hfh_1511_132, hfh_1511_134, hfh_1511_136, hfh_1511_137, hlh_1511, hrh_1511, hz9, hsp⟩ := hJ9
    replace hS : va_S A s.heap H locs := hS
    replace hD : va_D A [(h0, .inr (13, z1511)), (qf100, .inl (cf100, 48000, .inl f100)), (qf128, .inl (cf128, 31, .inl g128_1511)), (qf127, .inl (cf127, 30, .inl g127_1511)), (qf104, .inl (cf104, 8, .inl f104)), (qf102, .inl (cf102, 2048, .inl f102)), (qf118, .inl (cf118, 2100, .inl g118_1511)), (qf119, .inl (cf119, 2100, .inl g119_1511)), (qf105, .inl (cf105, 8, .inl f105)), (qf137, .inl (cf137, 6, .inl g137_1511))] := hD
    replace hP : va_P (dC, dI) vwCl [(h0, .inr (13, z1511)), (qf100, .inl (cf100, 48000, .inl f100)), (qf128, .inl (cf128, 31, .inl g128_1511)), (qf127, .inl (cf127, 30, .inl g127_1511)), (qf104, .inl (cf104, 8, .inl f104)), (qf102, .inl (cf102, 2048, .inl f102)), (qf118, .inl (cf118, 2100, .inl g118_1511)), (qf119, .inl (cf119, 2100, .inl g119_1511)), (qf105, .inl (cf105, 8, .inl f105)), (qf137, .inl (cf137, 6, .inl g137_1511))] H := hP
    replace hsp : some (rr_1511, g118_1511, g119_1511, g127_1511, g128_1511, g137_1511, x117_1511, x120_1511, x131_1511) = some (r0, o118, o119, o127, o128, o137, w117, w120, w131) := hsp
    show W _ _ _ _ _ _ _ _ _ _ H locs _ _ _ (F0 m 1511 ls [.int rr_1511])
    rcases hz9 with rfl | rfl
    · skip
      have hr0 := Option.some.inj hsp
      clear hsp
      obtain ⟨hq0, hr1⟩ := Prod.mk.inj hr0
      clear hr0
      obtain ⟨hq1, hr2⟩ := Prod.mk.inj hr1
      clear hr1
      obtain ⟨hq2, hr3⟩ := Prod.mk.inj hr2
      clear hr2
      obtain ⟨hq3, hr4⟩ := Prod.mk.inj hr3
      clear hr3
      obtain ⟨hq4, hr5⟩ := Prod.mk.inj hr4
      clear hr4
      obtain ⟨hq5, hr6⟩ := Prod.mk.inj hr5
      clear hr5
      obtain ⟨hq6, hr7⟩ := Prod.mk.inj hr6
      clear hr6
      obtain ⟨hq7, hr8⟩ := Prod.mk.inj hr7
      clear hr7
      subst hq0
      subst hq1
      subst hq2
      subst hq3
      subst hq4
      subst hq5
      subst hq6
      subst hq7
      subst hr8
      have hP9 := hP.sub (ws' := [(h0, .inr (13, z1511)), (qf100, .inl (cf100, 48000, .inl f100)), (qf128, .inl (cf128, 31, .inl g128_1511)), (qf127, .inl (cf127, 30, .inl g127_1511)), (qf104, .inl (cf104, 8, .inl f104)), (qf102, .inl (cf102, 2048, .inl f102)), (qf118, .inl (cf118, 2100, .inl g118_1511)), (qf119, .inl (cf119, 2100, .inl g119_1511)), (qf105, .inl (cf105, 8, .inl f105)), (qf137, .inl (cf137, 6, .inl g137_1511))]) [0, 1, 2, 3, 4, 5, 6, 7, 8, 9] rfl
      have hD9 := hD.sub (ws' := [(h0, .inr (13, z1511)), (qf100, .inl (cf100, 48000, .inl f100)), (qf128, .inl (cf128, 31, .inl g128_1511)), (qf127, .inl (cf127, 30, .inl g127_1511)), (qf104, .inl (cf104, 8, .inl f104)), (qf102, .inl (cf102, 2048, .inl f102)), (qf118, .inl (cf118, 2100, .inl g118_1511)), (qf119, .inl (cf119, 2100, .inl g119_1511)), (qf105, .inl (cf105, 8, .inl f105)), (qf137, .inl (cf137, 6, .inl g137_1511))]) [0, 1, 2, 3, 4, 5, 6, 7, 8, 9] (by decide) rfl
      have hK9 := hK.sub (tys' := [(cf100, .int), (cf128, .int), (cf127, .int), (cf104, .int), (cf102, .int), (cf118, .int), (cf119, .int), (cf105, .int), (cf137, .int)]) [0, 1, 2, 3, 4, 5, 6, 7, 8] rfl
      exact W.zret hx hb hr (by decide) (fun t ht hW => ⟨⟨(0), (z1511), rfl, ⟨⟨rfl, Or.inl rfl⟩, hlh_1511, hrh_1511, hfh_1511_117, hfh_1511_120, hfh_1511_131⟩, by rw [ht]; exact hP9, va_K.moved hW.alike hK9, hD9⟩, hS.F ht⟩) hS.2.2 dX13_wanted_1511
    · skip
      have hr0 := Option.some.inj hsp
      clear hsp
      obtain ⟨hq0, hr1⟩ := Prod.mk.inj hr0
      clear hr0
      obtain ⟨hq1, hr2⟩ := Prod.mk.inj hr1
      clear hr1
      obtain ⟨hq2, hr3⟩ := Prod.mk.inj hr2
      clear hr2
      obtain ⟨hq3, hr4⟩ := Prod.mk.inj hr3
      clear hr3
      obtain ⟨hq4, hr5⟩ := Prod.mk.inj hr4
      clear hr4
      obtain ⟨hq5, hr6⟩ := Prod.mk.inj hr5
      clear hr5
      obtain ⟨hq6, hr7⟩ := Prod.mk.inj hr6
      clear hr6
      obtain ⟨hq7, hr8⟩ := Prod.mk.inj hr7
      clear hr7
      subst hq0
      subst hq1
      subst hq2
      subst hq3
      subst hq4
      subst hq5
      subst hq6
      subst hq7
      subst hr8
      have hP9 := hP.sub (ws' := [(h0, .inr (13, z1511)), (qf100, .inl (cf100, 48000, .inl f100)), (qf128, .inl (cf128, 31, .inl g128_1511)), (qf127, .inl (cf127, 30, .inl g127_1511)), (qf104, .inl (cf104, 8, .inl f104)), (qf102, .inl (cf102, 2048, .inl f102)), (qf118, .inl (cf118, 2100, .inl g118_1511)), (qf119, .inl (cf119, 2100, .inl g119_1511)), (qf105, .inl (cf105, 8, .inl f105)), (qf137, .inl (cf137, 6, .inl g137_1511))]) [0, 1, 2, 3, 4, 5, 6, 7, 8, 9] rfl
      have hD9 := hD.sub (ws' := [(h0, .inr (13, z1511)), (qf100, .inl (cf100, 48000, .inl f100)), (qf128, .inl (cf128, 31, .inl g128_1511)), (qf127, .inl (cf127, 30, .inl g127_1511)), (qf104, .inl (cf104, 8, .inl f104)), (qf102, .inl (cf102, 2048, .inl f102)), (qf118, .inl (cf118, 2100, .inl g118_1511)), (qf119, .inl (cf119, 2100, .inl g119_1511)), (qf105, .inl (cf105, 8, .inl f105)), (qf137, .inl (cf137, 6, .inl g137_1511))]) [0, 1, 2, 3, 4, 5, 6, 7, 8, 9] (by decide) rfl
      have hK9 := hK.sub (tys' := [(cf100, .int), (cf128, .int), (cf127, .int), (cf104, .int), (cf102, .int), (cf118, .int), (cf119, .int), (cf105, .int), (cf137, .int)]) [0, 1, 2, 3, 4, 5, 6, 7, 8] rfl
      exact W.zret hx hb hr (by decide) (fun t ht hW => ⟨⟨(1), (z1511), rfl, ⟨⟨rfl, Or.inr rfl⟩, hlh_1511, hrh_1511, hfh_1511_117, hfh_1511_120, hfh_1511_131⟩, by rw [ht]; exact hP9, va_K.moved hW.alike hK9, hD9⟩, hS.F ht⟩) hS.2.2 dX13_wanted_1511
  intro hret_1511
  refine jn_use (α := Heap × List Loc × Array Slot × List Value × Int32 × (Nat → Int32) × (Nat → Int32) × (Nat → Int32) × (Nat → Int32) × (Nat → Int32) × Int32 × Int32 × Int32) (fun x9 => x9.1) (fun x9 => x9.2.1) (fun x9 => F0 m 1533 x9.2.2.1 [.int (x9.2.2.2.2.1)]) (fun x9 => match x9 with | (H, locs, ls, z1533, rr_1533, g118_1533, g119_1533, g127_1533, g128_1533, g137_1533, x117_1533, x120_1533, x131_1533) => va_S A s.heap H locs ∧ va_D A [(h0, .inr (13, z1533)), (qf100, .inl (cf100, 48000, .inl f100)), (qf128, .inl (cf128, 31, .inl g128_1533)), (qf127, .inl (cf127, 30, .inl g127_1533)), (qf104, .inl (cf104, 8, .inl f104)), (qf102, .inl (cf102, 2048, .inl f102)), (qf118, .inl (cf118, 2100, .inl g118_1533)), (qf119, .inl (cf119, 2100, .inl g119_1533)), (qf105, .inl (cf105, 8, .inl f105)), (qf137, .inl (cf137, 6, .inl g137_1533))] ∧ va_P (dC, dI) vwCl [(h0, .inr (13, z1533)), (qf100, .inl (cf100, 48000, .inl f100)), (qf128, .inl (cf128, 31, .inl g128_1533)), (qf127, .inl (cf127, 30, .inl g127_1533)), (qf104, .inl (cf104, 8, .inl f104)), (qf102, .inl (cf102, 2048, .inl f102)), (qf118, .inl (cf118, 2100, .inl g118_1533)), (qf119, .inl (cf119, 2100, .inl g119_1533)), (qf105, .inl (cf105, 8, .inl f105)), (qf137, .inl (cf137, 6, .inl g137_1533))] H ∧ z1533[98]? = some (.int v98) ∧ z1533[100]? = some (.ref qf100) ∧ z1533[102]? = some (.ref qf102) ∧ z1533[104]? = some (.ref qf104) ∧ z1533[105]? = some (.ref qf105) ∧ z1533[117]? = some (.int x117_1533) ∧ z1533[118]? = some (.ref qf118) ∧ z1533[119]? = some (.ref qf119) ∧ z1533[120]? = some (.int x120_1533) ∧ z1533[127]? = some (.ref qf127) ∧ z1533[128]? = some (.ref qf128) ∧ z1533[129]? = some (.int v129) ∧ z1533[130]? = some (.int v130) ∧ z1533[131]? = some (.int x131_1533) ∧ z1533[132]? = some (.int v132) ∧ z1533[134]? = some (.int v134) ∧ z1533[136]? = some (.int v136) ∧ z1533[137]? = some (.ref qf137) ∧ z1533.length = 155 ∧ (∀ j : Nat, j ≠ 117 → j ≠ 120 → j ≠ 131 → z1533[j]? = zs[j]?) ∧ (rr_1533 = 0 ∨ rr_1533 = 1) ∧ some (rr_1533, g118_1533, g119_1533, g127_1533, g128_1533, g137_1533, x117_1533, x120_1533, x131_1533) = some (r0, o118, o119, o127, o128, o137, w117, w120, w131)) ?_ ?_
  · intro x9 hJ9
    obtain ⟨H, locs, ls, z1533, rr_1533, g118_1533, g119_1533, g127_1533, g128_1533, g137_1533, x117_1533, x120_1533, x131_1533⟩ := x9
    obtain ⟨hS, hD, hP, hfh_1533_98, hfh_1533_100, hfh_1533_102, hfh_1533_104, hfh_1533_105, hfh_1533_117, hfh_1533_118, hfh_1533_119, hfh_1533_120, hfh_1533_127, hfh_1533_128, hfh_1533_129, hfh_1533_130, hfh_1533_131, hfh_1533_132, hfh_1533_134, hfh_1533_136, hfh_1533_137, hlh_1533, hrh_1533, hz9, hsp⟩ := hJ9
    replace hS : va_S A s.heap H locs := hS
    replace hD : va_D A [(h0, .inr (13, z1533)), (qf100, .inl (cf100, 48000, .inl f100)), (qf128, .inl (cf128, 31, .inl g128_1533)), (qf127, .inl (cf127, 30, .inl g127_1533)), (qf104, .inl (cf104, 8, .inl f104)), (qf102, .inl (cf102, 2048, .inl f102)), (qf118, .inl (cf118, 2100, .inl g118_1533)), (qf119, .inl (cf119, 2100, .inl g119_1533)), (qf105, .inl (cf105, 8, .inl f105)), (qf137, .inl (cf137, 6, .inl g137_1533))] := hD
    replace hP : va_P (dC, dI) vwCl [(h0, .inr (13, z1533)), (qf100, .inl (cf100, 48000, .inl f100)), (qf128, .inl (cf128, 31, .inl g128_1533)), (qf127, .inl (cf127, 30, .inl g127_1533)), (qf104, .inl (cf104, 8, .inl f104)), (qf102, .inl (cf102, 2048, .inl f102)), (qf118, .inl (cf118, 2100, .inl g118_1533)), (qf119, .inl (cf119, 2100, .inl g119_1533)), (qf105, .inl (cf105, 8, .inl f105)), (qf137, .inl (cf137, 6, .inl g137_1533))] H := hP
    replace hsp : some (rr_1533, g118_1533, g119_1533, g127_1533, g128_1533, g137_1533, x117_1533, x120_1533, x131_1533) = some (r0, o118, o119, o127, o128, o137, w117, w120, w131) := hsp
    show W _ _ _ _ _ _ _ _ _ _ H locs _ _ _ (F0 m 1533 ls [.int rr_1533])
    rcases hz9 with rfl | rfl
    · skip
      have hr0 := Option.some.inj hsp
      clear hsp
      obtain ⟨hq0, hr1⟩ := Prod.mk.inj hr0
      clear hr0
      obtain ⟨hq1, hr2⟩ := Prod.mk.inj hr1
      clear hr1
      obtain ⟨hq2, hr3⟩ := Prod.mk.inj hr2
      clear hr2
      obtain ⟨hq3, hr4⟩ := Prod.mk.inj hr3
      clear hr3
      obtain ⟨hq4, hr5⟩ := Prod.mk.inj hr4
      clear hr4
      obtain ⟨hq5, hr6⟩ := Prod.mk.inj hr5
      clear hr5
      obtain ⟨hq6, hr7⟩ := Prod.mk.inj hr6
      clear hr6
      obtain ⟨hq7, hr8⟩ := Prod.mk.inj hr7
      clear hr7
      subst hq0
      subst hq1
      subst hq2
      subst hq3
      subst hq4
      subst hq5
      subst hq6
      subst hq7
      subst hr8
      have hP9 := hP.sub (ws' := [(h0, .inr (13, z1533)), (qf100, .inl (cf100, 48000, .inl f100)), (qf128, .inl (cf128, 31, .inl g128_1533)), (qf127, .inl (cf127, 30, .inl g127_1533)), (qf104, .inl (cf104, 8, .inl f104)), (qf102, .inl (cf102, 2048, .inl f102)), (qf118, .inl (cf118, 2100, .inl g118_1533)), (qf119, .inl (cf119, 2100, .inl g119_1533)), (qf105, .inl (cf105, 8, .inl f105)), (qf137, .inl (cf137, 6, .inl g137_1533))]) [0, 1, 2, 3, 4, 5, 6, 7, 8, 9] rfl
      have hD9 := hD.sub (ws' := [(h0, .inr (13, z1533)), (qf100, .inl (cf100, 48000, .inl f100)), (qf128, .inl (cf128, 31, .inl g128_1533)), (qf127, .inl (cf127, 30, .inl g127_1533)), (qf104, .inl (cf104, 8, .inl f104)), (qf102, .inl (cf102, 2048, .inl f102)), (qf118, .inl (cf118, 2100, .inl g118_1533)), (qf119, .inl (cf119, 2100, .inl g119_1533)), (qf105, .inl (cf105, 8, .inl f105)), (qf137, .inl (cf137, 6, .inl g137_1533))]) [0, 1, 2, 3, 4, 5, 6, 7, 8, 9] (by decide) rfl
      have hK9 := hK.sub (tys' := [(cf100, .int), (cf128, .int), (cf127, .int), (cf104, .int), (cf102, .int), (cf118, .int), (cf119, .int), (cf105, .int), (cf137, .int)]) [0, 1, 2, 3, 4, 5, 6, 7, 8] rfl
      exact W.zret hx hb hr (by decide) (fun t ht hW => ⟨⟨(0), (z1533), rfl, ⟨⟨rfl, Or.inl rfl⟩, hlh_1533, hrh_1533, hfh_1533_117, hfh_1533_120, hfh_1533_131⟩, by rw [ht]; exact hP9, va_K.moved hW.alike hK9, hD9⟩, hS.F ht⟩) hS.2.2 dX13_wanted_1533
    · skip
      have hr0 := Option.some.inj hsp
      clear hsp
      obtain ⟨hq0, hr1⟩ := Prod.mk.inj hr0
      clear hr0
      obtain ⟨hq1, hr2⟩ := Prod.mk.inj hr1
      clear hr1
      obtain ⟨hq2, hr3⟩ := Prod.mk.inj hr2
      clear hr2
      obtain ⟨hq3, hr4⟩ := Prod.mk.inj hr3
      clear hr3
      obtain ⟨hq4, hr5⟩ := Prod.mk.inj hr4
      clear hr4
      obtain ⟨hq5, hr6⟩ := Prod.mk.inj hr5
      clear hr5
      obtain ⟨hq6, hr7⟩ := Prod.mk.inj hr6
      clear hr6
      obtain ⟨hq7, hr8⟩ := Prod.mk.inj hr7
      clear hr7
      subst hq0
      subst hq1
      subst hq2
      subst hq3
      subst hq4
      subst hq5
      subst hq6
      subst hq7
      subst hr8
      have hP9 := hP.sub (ws' := [(h0, .inr (13, z1533)), (qf100, .inl (cf100, 48000, .inl f100)), (qf128, .inl (cf128, 31, .inl g128_1533)), (qf127, .inl (cf127, 30, .inl g127_1533)), (qf104, .inl (cf104, 8, .inl f104)), (qf102, .inl (cf102, 2048, .inl f102)), (qf118, .inl (cf118, 2100, .inl g118_1533)), (qf119, .inl (cf119, 2100, .inl g119_1533)), (qf105, .inl (cf105, 8, .inl f105)), (qf137, .inl (cf137, 6, .inl g137_1533))]) [0, 1, 2, 3, 4, 5, 6, 7, 8, 9] rfl
      have hD9 := hD.sub (ws' := [(h0, .inr (13, z1533)), (qf100, .inl (cf100, 48000, .inl f100)), (qf128, .inl (cf128, 31, .inl g128_1533)), (qf127, .inl (cf127, 30, .inl g127_1533)), (qf104, .inl (cf104, 8, .inl f104)), (qf102, .inl (cf102, 2048, .inl f102)), (qf118, .inl (cf118, 2100, .inl g118_1533)), (qf119, .inl (cf119, 2100, .inl g119_1533)), (qf105, .inl (cf105, 8, .inl f105)), (qf137, .inl (cf137, 6, .inl g137_1533))]) [0, 1, 2, 3, 4, 5, 6, 7, 8, 9] (by decide) rfl
      have hK9 := hK.sub (tys' := [(cf100, .int), (cf128, .int), (cf127, .int), (cf104, .int), (cf102, .int), (cf118, .int), (cf119, .int), (cf105, .int), (cf137, .int)]) [0, 1, 2, 3, 4, 5, 6, 7, 8] rfl
      exact W.zret hx hb hr (by decide) (fun t ht hW => ⟨⟨(1), (z1533), rfl, ⟨⟨rfl, Or.inr rfl⟩, hlh_1533, hrh_1533, hfh_1533_117, hfh_1533_120, hfh_1533_131⟩, by rw [ht]; exact hP9, va_K.moved hW.alike hK9, hD9⟩, hS.F ht⟩) hS.2.2 dX13_wanted_1533
  intro hret_1533
  refine jn_use (α := Heap × List Loc × Array Slot × List Value × Int32 × (Nat → Int32) × (Nat → Int32) × (Nat → Int32) × (Nat → Int32) × (Nat → Int32) × Int32 × Int32 × Int32) (fun x9 => x9.1) (fun x9 => x9.2.1) (fun x9 => F0 m 1565 x9.2.2.1 [.int (x9.2.2.2.2.1)]) (fun x9 => match x9 with | (H, locs, ls, z1565, rr_1565, g118_1565, g119_1565, g127_1565, g128_1565, g137_1565, x117_1565, x120_1565, x131_1565) => va_S A s.heap H locs ∧ va_D A [(h0, .inr (13, z1565)), (qf100, .inl (cf100, 48000, .inl f100)), (qf128, .inl (cf128, 31, .inl g128_1565)), (qf127, .inl (cf127, 30, .inl g127_1565)), (qf104, .inl (cf104, 8, .inl f104)), (qf102, .inl (cf102, 2048, .inl f102)), (qf118, .inl (cf118, 2100, .inl g118_1565)), (qf119, .inl (cf119, 2100, .inl g119_1565)), (qf105, .inl (cf105, 8, .inl f105)), (qf137, .inl (cf137, 6, .inl g137_1565))] ∧ va_P (dC, dI) vwCl [(h0, .inr (13, z1565)), (qf100, .inl (cf100, 48000, .inl f100)), (qf128, .inl (cf128, 31, .inl g128_1565)), (qf127, .inl (cf127, 30, .inl g127_1565)), (qf104, .inl (cf104, 8, .inl f104)), (qf102, .inl (cf102, 2048, .inl f102)), (qf118, .inl (cf118, 2100, .inl g118_1565)), (qf119, .inl (cf119, 2100, .inl g119_1565)), (qf105, .inl (cf105, 8, .inl f105)), (qf137, .inl (cf137, 6, .inl g137_1565))] H ∧ z1565[98]? = some (.int v98) ∧ z1565[100]? = some (.ref qf100) ∧ z1565[102]? = some (.ref qf102) ∧ z1565[104]? = some (.ref qf104) ∧ z1565[105]? = some (.ref qf105) ∧ z1565[117]? = some (.int x117_1565) ∧ z1565[118]? = some (.ref qf118) ∧ z1565[119]? = some (.ref qf119) ∧ z1565[120]? = some (.int x120_1565) ∧ z1565[127]? = some (.ref qf127) ∧ z1565[128]? = some (.ref qf128) ∧ z1565[129]? = some (.int v129) ∧ z1565[130]? = some (.int v130) ∧ z1565[131]? = some (.int x131_1565) ∧ z1565[132]? = some (.int v132) ∧ z1565[134]? = some (.int v134) ∧ z1565[136]? = some (.int v136) ∧ z1565[137]? = some (.ref qf137) ∧ z1565.length = 155 ∧ (∀ j : Nat, j ≠ 117 → j ≠ 120 → j ≠ 131 → z1565[j]? = zs[j]?) ∧ (rr_1565 = 0 ∨ rr_1565 = 1) ∧ some (rr_1565, g118_1565, g119_1565, g127_1565, g128_1565, g137_1565, x117_1565, x120_1565, x131_1565) = some (r0, o118, o119, o127, o128, o137, w117, w120, w131)) ?_ ?_
  · intro x9 hJ9
    obtain ⟨H, locs, ls, z1565, rr_1565, g118_1565, g119_1565, g127_1565, g128_1565, g137_1565, x117_1565, x120_1565, x131_1565⟩ := x9
    obtain ⟨hS, hD, hP, hfh_1565_98, hfh_1565_100, hfh_1565_102, hfh_1565_104, hfh_1565_105, hfh_1565_117, hfh_1565_118, hfh_1565_119, hfh_1565_120, hfh_1565_127, hfh_1565_128, hfh_1565_129, hfh_1565_130, hfh_1565_131, hfh_1565_132, hfh_1565_134, hfh_1565_136, hfh_1565_137, hlh_1565, hrh_1565, hz9, hsp⟩ := hJ9
    replace hS : va_S A s.heap H locs := hS
    replace hD : va_D A [(h0, .inr (13, z1565)), (qf100, .inl (cf100, 48000, .inl f100)), (qf128, .inl (cf128, 31, .inl g128_1565)), (qf127, .inl (cf127, 30, .inl g127_1565)), (qf104, .inl (cf104, 8, .inl f104)), (qf102, .inl (cf102, 2048, .inl f102)), (qf118, .inl (cf118, 2100, .inl g118_1565)), (qf119, .inl (cf119, 2100, .inl g119_1565)), (qf105, .inl (cf105, 8, .inl f105)), (qf137, .inl (cf137, 6, .inl g137_1565))] := hD
    replace hP : va_P (dC, dI) vwCl [(h0, .inr (13, z1565)), (qf100, .inl (cf100, 48000, .inl f100)), (qf128, .inl (cf128, 31, .inl g128_1565)), (qf127, .inl (cf127, 30, .inl g127_1565)), (qf104, .inl (cf104, 8, .inl f104)), (qf102, .inl (cf102, 2048, .inl f102)), (qf118, .inl (cf118, 2100, .inl g118_1565)), (qf119, .inl (cf119, 2100, .inl g119_1565)), (qf105, .inl (cf105, 8, .inl f105)), (qf137, .inl (cf137, 6, .inl g137_1565))] H := hP
    replace hsp : some (rr_1565, g118_1565, g119_1565, g127_1565, g128_1565, g137_1565, x117_1565, x120_1565, x131_1565) = some (r0, o118, o119, o127, o128, o137, w117, w120, w131) := hsp
    show W _ _ _ _ _ _ _ _ _ _ H locs _ _ _ (F0 m 1565 ls [.int rr_1565])
    rcases hz9 with rfl | rfl
    · skip
      have hr0 := Option.some.inj hsp
      clear hsp
      obtain ⟨hq0, hr1⟩ := Prod.mk.inj hr0
      clear hr0
      obtain ⟨hq1, hr2⟩ := Prod.mk.inj hr1
      clear hr1
      obtain ⟨hq2, hr3⟩ := Prod.mk.inj hr2
      clear hr2
      obtain ⟨hq3, hr4⟩ := Prod.mk.inj hr3
      clear hr3
      obtain ⟨hq4, hr5⟩ := Prod.mk.inj hr4
      clear hr4
      obtain ⟨hq5, hr6⟩ := Prod.mk.inj hr5
      clear hr5
      obtain ⟨hq6, hr7⟩ := Prod.mk.inj hr6
      clear hr6
      obtain ⟨hq7, hr8⟩ := Prod.mk.inj hr7
      clear hr7
      subst hq0
      subst hq1
      subst hq2
      subst hq3
      subst hq4
      subst hq5
      subst hq6
      subst hq7
      subst hr8
      have hP9 := hP.sub (ws' := [(h0, .inr (13, z1565)), (qf100, .inl (cf100, 48000, .inl f100)), (qf128, .inl (cf128, 31, .inl g128_1565)), (qf127, .inl (cf127, 30, .inl g127_1565)), (qf104, .inl (cf104, 8, .inl f104)), (qf102, .inl (cf102, 2048, .inl f102)), (qf118, .inl (cf118, 2100, .inl g118_1565)), (qf119, .inl (cf119, 2100, .inl g119_1565)), (qf105, .inl (cf105, 8, .inl f105)), (qf137, .inl (cf137, 6, .inl g137_1565))]) [0, 1, 2, 3, 4, 5, 6, 7, 8, 9] rfl
      have hD9 := hD.sub (ws' := [(h0, .inr (13, z1565)), (qf100, .inl (cf100, 48000, .inl f100)), (qf128, .inl (cf128, 31, .inl g128_1565)), (qf127, .inl (cf127, 30, .inl g127_1565)), (qf104, .inl (cf104, 8, .inl f104)), (qf102, .inl (cf102, 2048, .inl f102)), (qf118, .inl (cf118, 2100, .inl g118_1565)), (qf119, .inl (cf119, 2100, .inl g119_1565)), (qf105, .inl (cf105, 8, .inl f105)), (qf137, .inl (cf137, 6, .inl g137_1565))]) [0, 1, 2, 3, 4, 5, 6, 7, 8, 9] (by decide) rfl
      have hK9 := hK.sub (tys' := [(cf100, .int), (cf128, .int), (cf127, .int), (cf104, .int), (cf102, .int), (cf118, .int), (cf119, .int), (cf105, .int), (cf137, .int)]) [0, 1, 2, 3, 4, 5, 6, 7, 8] rfl
      exact W.zret hx hb hr (by decide) (fun t ht hW => ⟨⟨(0), (z1565), rfl, ⟨⟨rfl, Or.inl rfl⟩, hlh_1565, hrh_1565, hfh_1565_117, hfh_1565_120, hfh_1565_131⟩, by rw [ht]; exact hP9, va_K.moved hW.alike hK9, hD9⟩, hS.F ht⟩) hS.2.2 dX13_wanted_1565
    · skip
      have hr0 := Option.some.inj hsp
      clear hsp
      obtain ⟨hq0, hr1⟩ := Prod.mk.inj hr0
      clear hr0
      obtain ⟨hq1, hr2⟩ := Prod.mk.inj hr1
      clear hr1
      obtain ⟨hq2, hr3⟩ := Prod.mk.inj hr2
      clear hr2
      obtain ⟨hq3, hr4⟩ := Prod.mk.inj hr3
      clear hr3
      obtain ⟨hq4, hr5⟩ := Prod.mk.inj hr4
      clear hr4
      obtain ⟨hq5, hr6⟩ := Prod.mk.inj hr5
      clear hr5
      obtain ⟨hq6, hr7⟩ := Prod.mk.inj hr6
      clear hr6
      obtain ⟨hq7, hr8⟩ := Prod.mk.inj hr7
      clear hr7
      subst hq0
      subst hq1
      subst hq2
      subst hq3
      subst hq4
      subst hq5
      subst hq6
      subst hq7
      subst hr8
      have hP9 := hP.sub (ws' := [(h0, .inr (13, z1565)), (qf100, .inl (cf100, 48000, .inl f100)), (qf128, .inl (cf128, 31, .inl g128_1565)), (qf127, .inl (cf127, 30, .inl g127_1565)), (qf104, .inl (cf104, 8, .inl f104)), (qf102, .inl (cf102, 2048, .inl f102)), (qf118, .inl (cf118, 2100, .inl g118_1565)), (qf119, .inl (cf119, 2100, .inl g119_1565)), (qf105, .inl (cf105, 8, .inl f105)), (qf137, .inl (cf137, 6, .inl g137_1565))]) [0, 1, 2, 3, 4, 5, 6, 7, 8, 9] rfl
      have hD9 := hD.sub (ws' := [(h0, .inr (13, z1565)), (qf100, .inl (cf100, 48000, .inl f100)), (qf128, .inl (cf128, 31, .inl g128_1565)), (qf127, .inl (cf127, 30, .inl g127_1565)), (qf104, .inl (cf104, 8, .inl f104)), (qf102, .inl (cf102, 2048, .inl f102)), (qf118, .inl (cf118, 2100, .inl g118_1565)), (qf119, .inl (cf119, 2100, .inl g119_1565)), (qf105, .inl (cf105, 8, .inl f105)), (qf137, .inl (cf137, 6, .inl g137_1565))]) [0, 1, 2, 3, 4, 5, 6, 7, 8, 9] (by decide) rfl
      have hK9 := hK.sub (tys' := [(cf100, .int), (cf128, .int), (cf127, .int), (cf104, .int), (cf102, .int), (cf118, .int), (cf119, .int), (cf105, .int), (cf137, .int)]) [0, 1, 2, 3, 4, 5, 6, 7, 8] rfl
      exact W.zret hx hb hr (by decide) (fun t ht hW => ⟨⟨(1), (z1565), rfl, ⟨⟨rfl, Or.inr rfl⟩, hlh_1565, hrh_1565, hfh_1565_117, hfh_1565_120, hfh_1565_131⟩, by rw [ht]; exact hP9, va_K.moved hW.alike hK9, hD9⟩, hS.F ht⟩) hS.2.2 dX13_wanted_1565
  intro hret_1565
  refine jn_use (α := Heap × List Loc × Array Slot × List Value × Int32 × (Nat → Int32) × (Nat → Int32) × (Nat → Int32) × (Nat → Int32) × (Nat → Int32) × Int32 × Int32 × Int32) (fun x9 => x9.1) (fun x9 => x9.2.1) (fun x9 => F0 m 1605 x9.2.2.1 [.int (x9.2.2.2.2.1)]) (fun x9 => match x9 with | (H, locs, ls, z1605, rr_1605, g118_1605, g119_1605, g127_1605, g128_1605, g137_1605, x117_1605, x120_1605, x131_1605) => va_S A s.heap H locs ∧ va_D A [(h0, .inr (13, z1605)), (qf100, .inl (cf100, 48000, .inl f100)), (qf128, .inl (cf128, 31, .inl g128_1605)), (qf127, .inl (cf127, 30, .inl g127_1605)), (qf104, .inl (cf104, 8, .inl f104)), (qf102, .inl (cf102, 2048, .inl f102)), (qf118, .inl (cf118, 2100, .inl g118_1605)), (qf119, .inl (cf119, 2100, .inl g119_1605)), (qf105, .inl (cf105, 8, .inl f105)), (qf137, .inl (cf137, 6, .inl g137_1605))] ∧ va_P (dC, dI) vwCl [(h0, .inr (13, z1605)), (qf100, .inl (cf100, 48000, .inl f100)), (qf128, .inl (cf128, 31, .inl g128_1605)), (qf127, .inl (cf127, 30, .inl g127_1605)), (qf104, .inl (cf104, 8, .inl f104)), (qf102, .inl (cf102, 2048, .inl f102)), (qf118, .inl (cf118, 2100, .inl g118_1605)), (qf119, .inl (cf119, 2100, .inl g119_1605)), (qf105, .inl (cf105, 8, .inl f105)), (qf137, .inl (cf137, 6, .inl g137_1605))] H ∧ z1605[98]? = some (.int v98) ∧ z1605[100]? = some (.ref qf100) ∧ z1605[102]? = some (.ref qf102) ∧ z1605[104]? = some (.ref qf104) ∧ z1605[105]? = some (.ref qf105) ∧ z1605[117]? = some (.int x117_1605) ∧ z1605[118]? = some (.ref qf118) ∧ z1605[119]? = some (.ref qf119) ∧ z1605[120]? = some (.int x120_1605) ∧ z1605[127]? = some (.ref qf127) ∧ z1605[128]? = some (.ref qf128) ∧ z1605[129]? = some (.int v129) ∧ z1605[130]? = some (.int v130) ∧ z1605[131]? = some (.int x131_1605) ∧ z1605[132]? = some (.int v132) ∧ z1605[134]? = some (.int v134) ∧ z1605[136]? = some (.int v136) ∧ z1605[137]? = some (.ref qf137) ∧ z1605.length = 155 ∧ (∀ j : Nat, j ≠ 117 → j ≠ 120 → j ≠ 131 → z1605[j]? = zs[j]?) ∧ (rr_1605 = 0 ∨ rr_1605 = 1) ∧ some (rr_1605, g118_1605, g119_1605, g127_1605, g128_1605, g137_1605, x117_1605, x120_1605, x131_1605) = some (r0, o118, o119, o127, o128, o137, w117, w120, w131)) ?_ ?_
  · intro x9 hJ9
    obtain ⟨H, locs, ls, z1605, rr_1605, g118_1605, g119_1605, g127_1605, g128_1605, g137_1605, x117_1605, x120_1605, x131_1605⟩ := x9
    obtain ⟨hS, hD, hP, hfh_1605_98, hfh_1605_100, hfh_1605_102, hfh_1605_104, hfh_1605_105, hfh_1605_117, hfh_1605_118, hfh_1605_119, hfh_1605_120, hfh_1605_127, hfh_1605_128, hfh_1605_129, hfh_1605_130, hfh_1605_131, hfh_1605_132, hfh_1605_134, hfh_1605_136, hfh_1605_137, hlh_1605, hrh_1605, hz9, hsp⟩ := hJ9
    replace hS : va_S A s.heap H locs := hS
    replace hD : va_D A [(h0, .inr (13, z1605)), (qf100, .inl (cf100, 48000, .inl f100)), (qf128, .inl (cf128, 31, .inl g128_1605)), (qf127, .inl (cf127, 30, .inl g127_1605)), (qf104, .inl (cf104, 8, .inl f104)), (qf102, .inl (cf102, 2048, .inl f102)), (qf118, .inl (cf118, 2100, .inl g118_1605)), (qf119, .inl (cf119, 2100, .inl g119_1605)), (qf105, .inl (cf105, 8, .inl f105)), (qf137, .inl (cf137, 6, .inl g137_1605))] := hD
    replace hP : va_P (dC, dI) vwCl [(h0, .inr (13, z1605)), (qf100, .inl (cf100, 48000, .inl f100)), (qf128, .inl (cf128, 31, .inl g128_1605)), (qf127, .inl (cf127, 30, .inl g127_1605)), (qf104, .inl (cf104, 8, .inl f104)), (qf102, .inl (cf102, 2048, .inl f102)), (qf118, .inl (cf118, 2100, .inl g118_1605)), (qf119, .inl (cf119, 2100, .inl g119_1605)), (qf105, .inl (cf105, 8, .inl f105)), (qf137, .inl (cf137, 6, .inl g137_1605))] H := hP
    replace hsp : some (rr_1605, g118_1605, g119_1605, g127_1605, g128_1605, g137_1605, x117_1605, x120_1605, x131_1605) = some (r0, o118, o119, o127, o128, o137, w117, w120, w131) := hsp
    show W _ _ _ _ _ _ _ _ _ _ H locs _ _ _ (F0 m 1605 ls [.int rr_1605])
    rcases hz9 with rfl | rfl
    · skip
      have hr0 := Option.some.inj hsp
      clear hsp
      obtain ⟨hq0, hr1⟩ := Prod.mk.inj hr0
      clear hr0
      obtain ⟨hq1, hr2⟩ := Prod.mk.inj hr1
      clear hr1
      obtain ⟨hq2, hr3⟩ := Prod.mk.inj hr2
      clear hr2
      obtain ⟨hq3, hr4⟩ := Prod.mk.inj hr3
      clear hr3
      obtain ⟨hq4, hr5⟩ := Prod.mk.inj hr4
      clear hr4
      obtain ⟨hq5, hr6⟩ := Prod.mk.inj hr5
      clear hr5
      obtain ⟨hq6, hr7⟩ := Prod.mk.inj hr6
      clear hr6
      obtain ⟨hq7, hr8⟩ := Prod.mk.inj hr7
      clear hr7
      subst hq0
      subst hq1
      subst hq2
      subst hq3
      subst hq4
      subst hq5
      subst hq6
      subst hq7
      subst hr8
      have hP9 := hP.sub (ws' := [(h0, .inr (13, z1605)), (qf100, .inl (cf100, 48000, .inl f100)), (qf128, .inl (cf128, 31, .inl g128_1605)), (qf127, .inl (cf127, 30, .inl g127_1605)), (qf104, .inl (cf104, 8, .inl f104)), (qf102, .inl (cf102, 2048, .inl f102)), (qf118, .inl (cf118, 2100, .inl g118_1605)), (qf119, .inl (cf119, 2100, .inl g119_1605)), (qf105, .inl (cf105, 8, .inl f105)), (qf137, .inl (cf137, 6, .inl g137_1605))]) [0, 1, 2, 3, 4, 5, 6, 7, 8, 9] rfl
      have hD9 := hD.sub (ws' := [(h0, .inr (13, z1605)), (qf100, .inl (cf100, 48000, .inl f100)), (qf128, .inl (cf128, 31, .inl g128_1605)), (qf127, .inl (cf127, 30, .inl g127_1605)), (qf104, .inl (cf104, 8, .inl f104)), (qf102, .inl (cf102, 2048, .inl f102)), (qf118, .inl (cf118, 2100, .inl g118_1605)), (qf119, .inl (cf119, 2100, .inl g119_1605)), (qf105, .inl (cf105, 8, .inl f105)), (qf137, .inl (cf137, 6, .inl g137_1605))]) [0, 1, 2, 3, 4, 5, 6, 7, 8, 9] (by decide) rfl
      have hK9 := hK.sub (tys' := [(cf100, .int), (cf128, .int), (cf127, .int), (cf104, .int), (cf102, .int), (cf118, .int), (cf119, .int), (cf105, .int), (cf137, .int)]) [0, 1, 2, 3, 4, 5, 6, 7, 8] rfl
      exact W.zret hx hb hr (by decide) (fun t ht hW => ⟨⟨(0), (z1605), rfl, ⟨⟨rfl, Or.inl rfl⟩, hlh_1605, hrh_1605, hfh_1605_117, hfh_1605_120, hfh_1605_131⟩, by rw [ht]; exact hP9, va_K.moved hW.alike hK9, hD9⟩, hS.F ht⟩) hS.2.2 dX13_wanted_1605
    · skip
      have hr0 := Option.some.inj hsp
      clear hsp
      obtain ⟨hq0, hr1⟩ := Prod.mk.inj hr0
      clear hr0
      obtain ⟨hq1, hr2⟩ := Prod.mk.inj hr1
      clear hr1
      obtain ⟨hq2, hr3⟩ := Prod.mk.inj hr2
      clear hr2
      obtain ⟨hq3, hr4⟩ := Prod.mk.inj hr3
      clear hr3
      obtain ⟨hq4, hr5⟩ := Prod.mk.inj hr4
      clear hr4
      obtain ⟨hq5, hr6⟩ := Prod.mk.inj hr5
      clear hr5
      obtain ⟨hq6, hr7⟩ := Prod.mk.inj hr6
      clear hr6
      obtain ⟨hq7, hr8⟩ := Prod.mk.inj hr7
      clear hr7
      subst hq0
      subst hq1
      subst hq2
      subst hq3
      subst hq4
      subst hq5
      subst hq6
      subst hq7
      subst hr8
      have hP9 := hP.sub (ws' := [(h0, .inr (13, z1605)), (qf100, .inl (cf100, 48000, .inl f100)), (qf128, .inl (cf128, 31, .inl g128_1605)), (qf127, .inl (cf127, 30, .inl g127_1605)), (qf104, .inl (cf104, 8, .inl f104)), (qf102, .inl (cf102, 2048, .inl f102)), (qf118, .inl (cf118, 2100, .inl g118_1605)), (qf119, .inl (cf119, 2100, .inl g119_1605)), (qf105, .inl (cf105, 8, .inl f105)), (qf137, .inl (cf137, 6, .inl g137_1605))]) [0, 1, 2, 3, 4, 5, 6, 7, 8, 9] rfl
      have hD9 := hD.sub (ws' := [(h0, .inr (13, z1605)), (qf100, .inl (cf100, 48000, .inl f100)), (qf128, .inl (cf128, 31, .inl g128_1605)), (qf127, .inl (cf127, 30, .inl g127_1605)), (qf104, .inl (cf104, 8, .inl f104)), (qf102, .inl (cf102, 2048, .inl f102)), (qf118, .inl (cf118, 2100, .inl g118_1605)), (qf119, .inl (cf119, 2100, .inl g119_1605)), (qf105, .inl (cf105, 8, .inl f105)), (qf137, .inl (cf137, 6, .inl g137_1605))]) [0, 1, 2, 3, 4, 5, 6, 7, 8, 9] (by decide) rfl
      have hK9 := hK.sub (tys' := [(cf100, .int), (cf128, .int), (cf127, .int), (cf104, .int), (cf102, .int), (cf118, .int), (cf119, .int), (cf105, .int), (cf137, .int)]) [0, 1, 2, 3, 4, 5, 6, 7, 8] rfl
      exact W.zret hx hb hr (by decide) (fun t ht hW => ⟨⟨(1), (z1605), rfl, ⟨⟨rfl, Or.inr rfl⟩, hlh_1605, hrh_1605, hfh_1605_117, hfh_1605_120, hfh_1605_131⟩, by rw [ht]; exact hP9, va_K.moved hW.alike hK9, hD9⟩, hS.F ht⟩) hS.2.2 dX13_wanted_1605
  intro hret_1605
  refine jn_use (α := Heap × List Loc × Array Slot × List Value × Int32 × (Nat → Int32) × (Nat → Int32) × (Nat → Int32) × (Nat → Int32) × (Nat → Int32) × Int32 × Int32 × Int32) (fun x9 => x9.1) (fun x9 => x9.2.1) (fun x9 => F0 m 1612 x9.2.2.1 [.int (x9.2.2.2.2.1)]) (fun x9 => match x9 with | (H, locs, ls, z1612, rr_1612, g118_1612, g119_1612, g127_1612, g128_1612, g137_1612, x117_1612, x120_1612, x131_1612) => va_S A s.heap H locs ∧ va_D A [(h0, .inr (13, z1612)), (qf100, .inl (cf100, 48000, .inl f100)), (qf128, .inl (cf128, 31, .inl g128_1612)), (qf127, .inl (cf127, 30, .inl g127_1612)), (qf104, .inl (cf104, 8, .inl f104)), (qf102, .inl (cf102, 2048, .inl f102)), (qf118, .inl (cf118, 2100, .inl g118_1612)), (qf119, .inl (cf119, 2100, .inl g119_1612)), (qf105, .inl (cf105, 8, .inl f105)), (qf137, .inl (cf137, 6, .inl g137_1612))] ∧ va_P (dC, dI) vwCl [(h0, .inr (13, z1612)), (qf100, .inl (cf100, 48000, .inl f100)), (qf128, .inl (cf128, 31, .inl g128_1612)), (qf127, .inl (cf127, 30, .inl g127_1612)), (qf104, .inl (cf104, 8, .inl f104)), (qf102, .inl (cf102, 2048, .inl f102)), (qf118, .inl (cf118, 2100, .inl g118_1612)), (qf119, .inl (cf119, 2100, .inl g119_1612)), (qf105, .inl (cf105, 8, .inl f105)), (qf137, .inl (cf137, 6, .inl g137_1612))] H ∧ z1612[98]? = some (.int v98) ∧ z1612[100]? = some (.ref qf100) ∧ z1612[102]? = some (.ref qf102) ∧ z1612[104]? = some (.ref qf104) ∧ z1612[105]? = some (.ref qf105) ∧ z1612[117]? = some (.int x117_1612) ∧ z1612[118]? = some (.ref qf118) ∧ z1612[119]? = some (.ref qf119) ∧ z1612[120]? = some (.int x120_1612) ∧ z1612[127]? = some (.ref qf127) ∧ z1612[128]? = some (.ref qf128) ∧ z1612[129]? = some (.int v129) ∧ z1612[130]? = some (.int v130) ∧ z1612[131]? = some (.int x131_1612) ∧ z1612[132]? = some (.int v132) ∧ z1612[134]? = some (.int v134) ∧ z1612[136]? = some (.int v136) ∧ z1612[137]? = some (.ref qf137) ∧ z1612.length = 155 ∧ (∀ j : Nat, j ≠ 117 → j ≠ 120 → j ≠ 131 → z1612[j]? = zs[j]?) ∧ (rr_1612 = 0 ∨ rr_1612 = 1) ∧ some (rr_1612, g118_1612, g119_1612, g127_1612, g128_1612, g137_1612, x117_1612, x120_1612, x131_1612) = some (r0, o118, o119, o127, o128, o137, w117, w120, w131)) ?_ ?_
  · intro x9 hJ9
    obtain ⟨H, locs, ls, z1612, rr_1612, g118_1612, g119_1612, g127_1612, g128_1612, g137_1612, x117_1612, x120_1612, x131_1612⟩ := x9
    obtain ⟨hS, hD, hP, hfh_1612_98, hfh_1612_100, hfh_1612_102, hfh_1612_104, hfh_1612_105, hfh_1612_117, hfh_1612_118, hfh_1612_119, hfh_1612_120, hfh_1612_127, hfh_1612_128, hfh_1612_129, hfh_1612_130, hfh_1612_131, hfh_1612_132, hfh_1612_134, hfh_1612_136, hfh_1612_137, hlh_1612, hrh_1612, hz9, hsp⟩ := hJ9
    replace hS : va_S A s.heap H locs := hS
    replace hD : va_D A [(h0, .inr (13, z1612)), (qf100, .inl (cf100, 48000, .inl f100)), (qf128, .inl (cf128, 31, .inl g128_1612)), (qf127, .inl (cf127, 30, .inl g127_1612)), (qf104, .inl (cf104, 8, .inl f104)), (qf102, .inl (cf102, 2048, .inl f102)), (qf118, .inl (cf118, 2100, .inl g118_1612)), (qf119, .inl (cf119, 2100, .inl g119_1612)), (qf105, .inl (cf105, 8, .inl f105)), (qf137, .inl (cf137, 6, .inl g137_1612))] := hD
    replace hP : va_P (dC, dI) vwCl [(h0, .inr (13, z1612)), (qf100, .inl (cf100, 48000, .inl f100)), (qf128, .inl (cf128, 31, .inl g128_1612)), (qf127, .inl (cf127, 30, .inl g127_1612)), (qf104, .inl (cf104, 8, .inl f104)), (qf102, .inl (cf102, 2048, .inl f102)), (qf118, .inl (cf118, 2100, .inl g118_1612)), (qf119, .inl (cf119, 2100, .inl g119_1612)), (qf105, .inl (cf105, 8, .inl f105)), (qf137, .inl (cf137, 6, .inl g137_1612))] H := hP
    replace hsp : some (rr_1612, g118_1612, g119_1612, g127_1612, g128_1612, g137_1612, x117_1612, x120_1612, x131_1612) = some (r0, o118, o119, o127, o128, o137, w117, w120, w131) := hsp
    show W _ _ _ _ _ _ _ _ _ _ H locs _ _ _ (F0 m 1612 ls [.int rr_1612])
    rcases hz9 with rfl | rfl
    · skip
      have hr0 := Option.some.inj hsp
      clear hsp
      obtain ⟨hq0, hr1⟩ := Prod.mk.inj hr0
      clear hr0
      obtain ⟨hq1, hr2⟩ := Prod.mk.inj hr1
      clear hr1
      obtain ⟨hq2, hr3⟩ := Prod.mk.inj hr2
      clear hr2
      obtain ⟨hq3, hr4⟩ := Prod.mk.inj hr3
      clear hr3
      obtain ⟨hq4, hr5⟩ := Prod.mk.inj hr4
      clear hr4
      obtain ⟨hq5, hr6⟩ := Prod.mk.inj hr5
      clear hr5
      obtain ⟨hq6, hr7⟩ := Prod.mk.inj hr6
      clear hr6
      obtain ⟨hq7, hr8⟩ := Prod.mk.inj hr7
      clear hr7
      subst hq0
      subst hq1
      subst hq2
      subst hq3
      subst hq4
      subst hq5
      subst hq6
      subst hq7
      subst hr8
      have hP9 := hP.sub (ws' := [(h0, .inr (13, z1612)), (qf100, .inl (cf100, 48000, .inl f100)), (qf128, .inl (cf128, 31, .inl g128_1612)), (qf127, .inl (cf127, 30, .inl g127_1612)), (qf104, .inl (cf104, 8, .inl f104)), (qf102, .inl (cf102, 2048, .inl f102)), (qf118, .inl (cf118, 2100, .inl g118_1612)), (qf119, .inl (cf119, 2100, .inl g119_1612)), (qf105, .inl (cf105, 8, .inl f105)), (qf137, .inl (cf137, 6, .inl g137_1612))]) [0, 1, 2, 3, 4, 5, 6, 7, 8, 9] rfl
      have hD9 := hD.sub (ws' := [(h0, .inr (13, z1612)), (qf100, .inl (cf100, 48000, .inl f100)), (qf128, .inl (cf128, 31, .inl g128_1612)), (qf127, .inl (cf127, 30, .inl g127_1612)), (qf104, .inl (cf104, 8, .inl f104)), (qf102, .inl (cf102, 2048, .inl f102)), (qf118, .inl (cf118, 2100, .inl g118_1612)), (qf119, .inl (cf119, 2100, .inl g119_1612)), (qf105, .inl (cf105, 8, .inl f105)), (qf137, .inl (cf137, 6, .inl g137_1612))]) [0, 1, 2, 3, 4, 5, 6, 7, 8, 9] (by decide) rfl
      have hK9 := hK.sub (tys' := [(cf100, .int), (cf128, .int), (cf127, .int), (cf104, .int), (cf102, .int), (cf118, .int), (cf119, .int), (cf105, .int), (cf137, .int)]) [0, 1, 2, 3, 4, 5, 6, 7, 8] rfl
      exact W.zret hx hb hr (by decide) (fun t ht hW => ⟨⟨(0), (z1612), rfl, ⟨⟨rfl, Or.inl rfl⟩, hlh_1612, hrh_1612, hfh_1612_117, hfh_1612_120, hfh_1612_131⟩, by rw [ht]; exact hP9, va_K.moved hW.alike hK9, hD9⟩, hS.F ht⟩) hS.2.2 dX13_wanted_1612
    · skip
      have hr0 := Option.some.inj hsp
      clear hsp
      obtain ⟨hq0, hr1⟩ := Prod.mk.inj hr0
      clear hr0
      obtain ⟨hq1, hr2⟩ := Prod.mk.inj hr1
      clear hr1
      obtain ⟨hq2, hr3⟩ := Prod.mk.inj hr2
      clear hr2
      obtain ⟨hq3, hr4⟩ := Prod.mk.inj hr3
      clear hr3
      obtain ⟨hq4, hr5⟩ := Prod.mk.inj hr4
      clear hr4
      obtain ⟨hq5, hr6⟩ := Prod.mk.inj hr5
      clear hr5
      obtain ⟨hq6, hr7⟩ := Prod.mk.inj hr6
      clear hr6
      obtain ⟨hq7, hr8⟩ := Prod.mk.inj hr7
      clear hr7
      subst hq0
      subst hq1
      subst hq2
      subst hq3
      subst hq4
      subst hq5
      subst hq6
      subst hq7
      subst hr8
      have hP9 := hP.sub (ws' := [(h0, .inr (13, z1612)), (qf100, .inl (cf100, 48000, .inl f100)), (qf128, .inl (cf128, 31, .inl g128_1612)), (qf127, .inl (cf127, 30, .inl g127_1612)), (qf104, .inl (cf104, 8, .inl f104)), (qf102, .inl (cf102, 2048, .inl f102)), (qf118, .inl (cf118, 2100, .inl g118_1612)), (qf119, .inl (cf119, 2100, .inl g119_1612)), (qf105, .inl (cf105, 8, .inl f105)), (qf137, .inl (cf137, 6, .inl g137_1612))]) [0, 1, 2, 3, 4, 5, 6, 7, 8, 9] rfl
      have hD9 := hD.sub (ws' := [(h0, .inr (13, z1612)), (qf100, .inl (cf100, 48000, .inl f100)), (qf128, .inl (cf128, 31, .inl g128_1612)), (qf127, .inl (cf127, 30, .inl g127_1612)), (qf104, .inl (cf104, 8, .inl f104)), (qf102, .inl (cf102, 2048, .inl f102)), (qf118, .inl (cf118, 2100, .inl g118_1612)), (qf119, .inl (cf119, 2100, .inl g119_1612)), (qf105, .inl (cf105, 8, .inl f105)), (qf137, .inl (cf137, 6, .inl g137_1612))]) [0, 1, 2, 3, 4, 5, 6, 7, 8, 9] (by decide) rfl
      have hK9 := hK.sub (tys' := [(cf100, .int), (cf128, .int), (cf127, .int), (cf104, .int), (cf102, .int), (cf118, .int), (cf119, .int), (cf105, .int), (cf137, .int)]) [0, 1, 2, 3, 4, 5, 6, 7, 8] rfl
      exact W.zret hx hb hr (by decide) (fun t ht hW => ⟨⟨(1), (z1612), rfl, ⟨⟨rfl, Or.inr rfl⟩, hlh_1612, hrh_1612, hfh_1612_117, hfh_1612_120, hfh_1612_131⟩, by rw [ht]; exact hP9, va_K.moved hW.alike hK9, hD9⟩, hS.F ht⟩) hS.2.2 dX13_wanted_1612
  intro hret_1612
  refine jn_use (α := Heap × List Loc × Array Slot × List Value × Int32 × (Nat → Int32) × (Nat → Int32) × (Nat → Int32) × (Nat → Int32) × (Nat → Int32) × Int32 × Int32 × Int32) (fun x9 => x9.1) (fun x9 => x9.2.1) (fun x9 => F0 m 1641 x9.2.2.1 [.int (x9.2.2.2.2.1)]) (fun x9 => match x9 with | (H, locs, ls, z1641, rr_1641, g118_1641, g119_1641, g127_1641, g128_1641, g137_1641, x117_1641, x120_1641, x131_1641) => va_S A s.heap H locs ∧ va_D A [(h0, .inr (13, z1641)), (qf100, .inl (cf100, 48000, .inl f100)), (qf128, .inl (cf128, 31, .inl g128_1641)), (qf127, .inl (cf127, 30, .inl g127_1641)), (qf104, .inl (cf104, 8, .inl f104)), (qf102, .inl (cf102, 2048, .inl f102)), (qf118, .inl (cf118, 2100, .inl g118_1641)), (qf119, .inl (cf119, 2100, .inl g119_1641)), (qf105, .inl (cf105, 8, .inl f105)), (qf137, .inl (cf137, 6, .inl g137_1641))] ∧ va_P (dC, dI) vwCl [(h0, .inr (13, z1641)), (qf100, .inl (cf100, 48000, .inl f100)), (qf128, .inl (cf128, 31, .inl g128_1641)), (qf127, .inl (cf127, 30, .inl g127_1641)), (qf104, .inl (cf104, 8, .inl f104)), (qf102, .inl (cf102, 2048, .inl f102)), (qf118, .inl (cf118, 2100, .inl g118_1641)), (qf119, .inl (cf119, 2100, .inl g119_1641)), (qf105, .inl (cf105, 8, .inl f105)), (qf137, .inl (cf137, 6, .inl g137_1641))] H ∧ z1641[98]? = some (.int v98) ∧ z1641[100]? = some (.ref qf100) ∧ z1641[102]? = some (.ref qf102) ∧ z1641[104]? = some (.ref qf104) ∧ z1641[105]? = some (.ref qf105) ∧ z1641[117]? = some (.int x117_1641) ∧ z1641[118]? = some (.ref qf118) ∧ z1641[119]? = some (.ref qf119) ∧ z1641[120]? = some (.int x120_1641) ∧ z1641[127]? = some (.ref qf127) ∧ z1641[128]? = some (.ref qf128) ∧ z1641[129]? = some (.int v129) ∧ z1641[130]? = some (.int v130) ∧ z1641[131]? = some (.int x131_1641) ∧ z1641[132]? = some (.int v132) ∧ z1641[134]? = some (.int v134) ∧ z1641[136]? = some (.int v136) ∧ z1641[137]? = some (.ref qf137) ∧ z1641.length = 155 ∧ (∀ j : Nat, j ≠ 117 → j ≠ 120 → j ≠ 131 → z1641[j]? = zs[j]?) ∧ (rr_1641 = 0 ∨ rr_1641 = 1) ∧ some (rr_1641, g118_1641, g119_1641, g127_1641, g128_1641, g137_1641, x117_1641, x120_1641, x131_1641) = some (r0, o118, o119, o127, o128, o137, w117, w120, w131)) ?_ ?_
  · intro x9 hJ9
    obtain ⟨H, locs, ls, z1641, rr_1641, g118_1641, g119_1641, g127_1641, g128_1641, g137_1641, x117_1641, x120_1641, x131_1641⟩ := x9
    obtain ⟨hS, hD, hP, hfh_1641_98, hfh_1641_100, hfh_1641_102, hfh_1641_104, hfh_1641_105, hfh_1641_117, hfh_1641_118, hfh_1641_119, hfh_1641_120, hfh_1641_127, hfh_1641_128, hfh_1641_129, hfh_1641_130, hfh_1641_131, hfh_1641_132, hfh_1641_134, hfh_1641_136, hfh_1641_137, hlh_1641, hrh_1641, hz9, hsp⟩ := hJ9
    replace hS : va_S A s.heap H locs := hS
    replace hD : va_D A [(h0, .inr (13, z1641)), (qf100, .inl (cf100, 48000, .inl f100)), (qf128, .inl (cf128, 31, .inl g128_1641)), (qf127, .inl (cf127, 30, .inl g127_1641)), (qf104, .inl (cf104, 8, .inl f104)), (qf102, .inl (cf102, 2048, .inl f102)), (qf118, .inl (cf118, 2100, .inl g118_1641)), (qf119, .inl (cf119, 2100, .inl g119_1641)), (qf105, .inl (cf105, 8, .inl f105)), (qf137, .inl (cf137, 6, .inl g137_1641))] := hD
    replace hP : va_P (dC, dI) vwCl [(h0, .inr (13, z1641)), (qf100, .inl (cf100, 48000, .inl f100)), (qf128, .inl (cf128, 31, .inl g128_1641)), (qf127, .inl (cf127, 30, .inl g127_1641)), (qf104, .inl (cf104, 8, .inl f104)), (qf102, .inl (cf102, 2048, .inl f102)), (qf118, .inl (cf118, 2100, .inl g118_1641)), (qf119, .inl (cf119, 2100, .inl g119_1641)), (qf105, .inl (cf105, 8, .inl f105)), (qf137, .inl (cf137, 6, .inl g137_1641))] H := hP
    replace hsp : some (rr_1641, g118_1641, g119_1641, g127_1641, g128_1641, g137_1641, x117_1641, x120_1641, x131_1641) = some (r0, o118, o119, o127, o128, o137, w117, w120, w131) := hsp
    show W _ _ _ _ _ _ _ _ _ _ H locs _ _ _ (F0 m 1641 ls [.int rr_1641])
    rcases hz9 with rfl | rfl
    · skip
      have hr0 := Option.some.inj hsp
      clear hsp
      obtain ⟨hq0, hr1⟩ := Prod.mk.inj hr0
      clear hr0
      obtain ⟨hq1, hr2⟩ := Prod.mk.inj hr1
      clear hr1
      obtain ⟨hq2, hr3⟩ := Prod.mk.inj hr2
      clear hr2
      obtain ⟨hq3, hr4⟩ := Prod.mk.inj hr3
      clear hr3
      obtain ⟨hq4, hr5⟩ := Prod.mk.inj hr4
      clear hr4
      obtain ⟨hq5, hr6⟩ := Prod.mk.inj hr5
      clear hr5
      obtain ⟨hq6, hr7⟩ := Prod.mk.inj hr6
      clear hr6
      obtain ⟨hq7, hr8⟩ := Prod.mk.inj hr7
      clear hr7
      subst hq0
      subst hq1
      subst hq2
      subst hq3
      subst hq4
      subst hq5
      subst hq6
      subst hq7
      subst hr8
      have hP9 := hP.sub (ws' := [(h0, .inr (13, z1641)), (qf100, .inl (cf100, 48000, .inl f100)), (qf128, .inl (cf128, 31, .inl g128_1641)), (qf127, .inl (cf127, 30, .inl g127_1641)), (qf104, .inl (cf104, 8, .inl f104)), (qf102, .inl (cf102, 2048, .inl f102)), (qf118, .inl (cf118, 2100, .inl g118_1641)), (qf119, .inl (cf119, 2100, .inl g119_1641)), (qf105, .inl (cf105, 8, .inl f105)), (qf137, .inl (cf137, 6, .inl g137_1641))]) [0, 1, 2, 3, 4, 5, 6, 7, 8, 9] rfl
      have hD9 := hD.sub (ws' := [(h0, .inr (13, z1641)), (qf100, .inl (cf100, 48000, .inl f100)), (qf128, .inl (cf128, 31, .inl g128_1641)), (qf127, .inl (cf127, 30, .inl g127_1641)), (qf104, .inl (cf104, 8, .inl f104)), (qf102, .inl (cf102, 2048, .inl f102)), (qf118, .inl (cf118, 2100, .inl g118_1641)), (qf119, .inl (cf119, 2100, .inl g119_1641)), (qf105, .inl (cf105, 8, .inl f105)), (qf137, .inl (cf137, 6, .inl g137_1641))]) [0, 1, 2, 3, 4, 5, 6, 7, 8, 9] (by decide) rfl
      have hK9 := hK.sub (tys' := [(cf100, .int), (cf128, .int), (cf127, .int), (cf104, .int), (cf102, .int), (cf118, .int), (cf119, .int), (cf105, .int), (cf137, .int)]) [0, 1, 2, 3, 4, 5, 6, 7, 8] rfl
      exact W.zret hx hb hr (by decide) (fun t ht hW => ⟨⟨(0), (z1641), rfl, ⟨⟨rfl, Or.inl rfl⟩, hlh_1641, hrh_1641, hfh_1641_117, hfh_1641_120, hfh_1641_131⟩, by rw [ht]; exact hP9, va_K.moved hW.alike hK9, hD9⟩, hS.F ht⟩) hS.2.2 dX13_wanted_1641
    · skip
      have hr0 := Option.some.inj hsp
      clear hsp
      obtain ⟨hq0, hr1⟩ := Prod.mk.inj hr0
      clear hr0
      obtain ⟨hq1, hr2⟩ := Prod.mk.inj hr1
      clear hr1
      obtain ⟨hq2, hr3⟩ := Prod.mk.inj hr2
      clear hr2
      obtain ⟨hq3, hr4⟩ := Prod.mk.inj hr3
      clear hr3
      obtain ⟨hq4, hr5⟩ := Prod.mk.inj hr4
      clear hr4
      obtain ⟨hq5, hr6⟩ := Prod.mk.inj hr5
      clear hr5
      obtain ⟨hq6, hr7⟩ := Prod.mk.inj hr6
      clear hr6
      obtain ⟨hq7, hr8⟩ := Prod.mk.inj hr7
      clear hr7
      subst hq0
      subst hq1
      subst hq2
      subst hq3
      subst hq4
      subst hq5
      subst hq6
      subst hq7
      subst hr8
      have hP9 := hP.sub (ws' := [(h0, .inr (13, z1641)), (qf100, .inl (cf100, 48000, .inl f100)), (qf128, .inl (cf128, 31, .inl g128_1641)), (qf127, .inl (cf127, 30, .inl g127_1641)), (qf104, .inl (cf104, 8, .inl f104)), (qf102, .inl (cf102, 2048, .inl f102)), (qf118, .inl (cf118, 2100, .inl g118_1641)), (qf119, .inl (cf119, 2100, .inl g119_1641)), (qf105, .inl (cf105, 8, .inl f105)), (qf137, .inl (cf137, 6, .inl g137_1641))]) [0, 1, 2, 3, 4, 5, 6, 7, 8, 9] rfl
      have hD9 := hD.sub (ws' := [(h0, .inr (13, z1641)), (qf100, .inl (cf100, 48000, .inl f100)), (qf128, .inl (cf128, 31, .inl g128_1641)), (qf127, .inl (cf127, 30, .inl g127_1641)), (qf104, .inl (cf104, 8, .inl f104)), (qf102, .inl (cf102, 2048, .inl f102)), (qf118, .inl (cf118, 2100, .inl g118_1641)), (qf119, .inl (cf119, 2100, .inl g119_1641)), (qf105, .inl (cf105, 8, .inl f105)), (qf137, .inl (cf137, 6, .inl g137_1641))]) [0, 1, 2, 3, 4, 5, 6, 7, 8, 9] (by decide) rfl
      have hK9 := hK.sub (tys' := [(cf100, .int), (cf128, .int), (cf127, .int), (cf104, .int), (cf102, .int), (cf118, .int), (cf119, .int), (cf105, .int), (cf137, .int)]) [0, 1, 2, 3, 4, 5, 6, 7, 8] rfl
      exact W.zret hx hb hr (by decide) (fun t ht hW => ⟨⟨(1), (z1641), rfl, ⟨⟨rfl, Or.inr rfl⟩, hlh_1641, hrh_1641, hfh_1641_117, hfh_1641_120, hfh_1641_131⟩, by rw [ht]; exact hP9, va_K.moved hW.alike hK9, hD9⟩, hS.F ht⟩) hS.2.2 dX13_wanted_1641
  intro hret_1641
  refine jn_use (α := Heap × List Loc × Array Slot × List Value × Int32 × (Nat → Int32) × (Nat → Int32) × (Nat → Int32) × (Nat → Int32) × (Nat → Int32) × Int32 × Int32 × Int32) (fun x9 => x9.1) (fun x9 => x9.2.1) (fun x9 => F0 m 1662 x9.2.2.1 [.int (x9.2.2.2.2.1)]) (fun x9 => match x9 with | (H, locs, ls, z1662, rr_1662, g118_1662, g119_1662, g127_1662, g128_1662, g137_1662, x117_1662, x120_1662, x131_1662) => va_S A s.heap H locs ∧ va_D A [(h0, .inr (13, z1662)), (qf100, .inl (cf100, 48000, .inl f100)), (qf128, .inl (cf128, 31, .inl g128_1662)), (qf127, .inl (cf127, 30, .inl g127_1662)), (qf104, .inl (cf104, 8, .inl f104)), (qf102, .inl (cf102, 2048, .inl f102)), (qf118, .inl (cf118, 2100, .inl g118_1662)), (qf119, .inl (cf119, 2100, .inl g119_1662)), (qf105, .inl (cf105, 8, .inl f105)), (qf137, .inl (cf137, 6, .inl g137_1662))] ∧ va_P (dC, dI) vwCl [(h0, .inr (13, z1662)), (qf100, .inl (cf100, 48000, .inl f100)), (qf128, .inl (cf128, 31, .inl g128_1662)), (qf127, .inl (cf127, 30, .inl g127_1662)), (qf104, .inl (cf104, 8, .inl f104)), (qf102, .inl (cf102, 2048, .inl f102)), (qf118, .inl (cf118, 2100, .inl g118_1662)), (qf119, .inl (cf119, 2100, .inl g119_1662)), (qf105, .inl (cf105, 8, .inl f105)), (qf137, .inl (cf137, 6, .inl g137_1662))] H ∧ z1662[98]? = some (.int v98) ∧ z1662[100]? = some (.ref qf100) ∧ z1662[102]? = some (.ref qf102) ∧ z1662[104]? = some (.ref qf104) ∧ z1662[105]? = some (.ref qf105) ∧ z1662[117]? = some (.int x117_1662) ∧ z1662[118]? = some (.ref qf118) ∧ z1662[119]? = some (.ref qf119) ∧ z1662[120]? = some (.int x120_1662) ∧ z1662[127]? = some (.ref qf127) ∧ z1662[128]? = some (.ref qf128) ∧ z1662[129]? = some (.int v129) ∧ z1662[130]? = some (.int v130) ∧ z1662[131]? = some (.int x131_1662) ∧ z1662[132]? = some (.int v132) ∧ z1662[134]? = some (.int v134) ∧ z1662[136]? = some (.int v136) ∧ z1662[137]? = some (.ref qf137) ∧ z1662.length = 155 ∧ (∀ j : Nat, j ≠ 117 → j ≠ 120 → j ≠ 131 → z1662[j]? = zs[j]?) ∧ (rr_1662 = 0 ∨ rr_1662 = 1) ∧ some (rr_1662, g118_1662, g119_1662, g127_1662, g128_1662, g137_1662, x117_1662, x120_1662, x131_1662) = some (r0, o118, o119, o127, o128, o137, w117, w120, w131)) ?_ ?_
  · intro x9 hJ9
    obtain ⟨H, locs, ls, z1662, rr_1662, g118_1662, g119_1662, g127_1662, g128_1662, g137_1662, x117_1662, x120_1662, x131_1662⟩ := x9
    obtain ⟨hS, hD, hP, hfh_1662_98, hfh_1662_100, hfh_1662_102, hfh_1662_104, hfh_1662_105, hfh_1662_117, hfh_1662_118, hfh_1662_119, hfh_1662_120, hfh_1662_127, hfh_1662_128, hfh_1662_129, hfh_1662_130, hfh_1662_131, hfh_1662_132, hfh_1662_134, hfh_1662_136, hfh_1662_137, hlh_1662, hrh_1662, hz9, hsp⟩ := hJ9
    replace hS : va_S A s.heap H locs := hS
    replace hD : va_D A [(h0, .inr (13, z1662)), (qf100, .inl (cf100, 48000, .inl f100)), (qf128, .inl (cf128, 31, .inl g128_1662)), (qf127, .inl (cf127, 30, .inl g127_1662)), (qf104, .inl (cf104, 8, .inl f104)), (qf102, .inl (cf102, 2048, .inl f102)), (qf118, .inl (cf118, 2100, .inl g118_1662)), (qf119, .inl (cf119, 2100, .inl g119_1662)), (qf105, .inl (cf105, 8, .inl f105)), (qf137, .inl (cf137, 6, .inl g137_1662))] := hD
    replace hP : va_P (dC, dI) vwCl [(h0, .inr (13, z1662)), (qf100, .inl (cf100, 48000, .inl f100)), (qf128, .inl (cf128, 31, .inl g128_1662)), (qf127, .inl (cf127, 30, .inl g127_1662)), (qf104, .inl (cf104, 8, .inl f104)), (qf102, .inl (cf102, 2048, .inl f102)), (qf118, .inl (cf118, 2100, .inl g118_1662)), (qf119, .inl (cf119, 2100, .inl g119_1662)), (qf105, .inl (cf105, 8, .inl f105)), (qf137, .inl (cf137, 6, .inl g137_1662))] H := hP
    replace hsp : some (rr_1662, g118_1662, g119_1662, g127_1662, g128_1662, g137_1662, x117_1662, x120_1662, x131_1662) = some (r0, o118, o119, o127, o128, o137, w117, w120, w131) := hsp
    show W _ _ _ _ _ _ _ _ _ _ H locs _ _ _ (F0 m 1662 ls [.int rr_1662])
    rcases hz9 with rfl | rfl
    · skip
      have hr0 := Option.some.inj hsp
      clear hsp
      obtain ⟨hq0, hr1⟩ := Prod.mk.inj hr0
      clear hr0
      obtain ⟨hq1, hr2⟩ := Prod.mk.inj hr1
      clear hr1
      obtain ⟨hq2, hr3⟩ := Prod.mk.inj hr2
      clear hr2
      obtain ⟨hq3, hr4⟩ := Prod.mk.inj hr3
      clear hr3
      obtain ⟨hq4, hr5⟩ := Prod.mk.inj hr4
      clear hr4
      obtain ⟨hq5, hr6⟩ := Prod.mk.inj hr5
      clear hr5
      obtain ⟨hq6, hr7⟩ := Prod.mk.inj hr6
      clear hr6
      obtain ⟨hq7, hr8⟩ := Prod.mk.inj hr7
      clear hr7
      subst hq0
      subst hq1
      subst hq2
      subst hq3
      subst hq4
      subst hq5
      subst hq6
      subst hq7
      subst hr8
      have hP9 := hP.sub (ws' := [(h0, .inr (13, z1662)), (qf100, .inl (cf100, 48000, .inl f100)), (qf128, .inl (cf128, 31, .inl g128_1662)), (qf127, .inl (cf127, 30, .inl g127_1662)), (qf104, .inl (cf104, 8, .inl f104)), (qf102, .inl (cf102, 2048, .inl f102)), (qf118, .inl (cf118, 2100, .inl g118_1662)), (qf119, .inl (cf119, 2100, .inl g119_1662)), (qf105, .inl (cf105, 8, .inl f105)), (qf137, .inl (cf137, 6, .inl g137_1662))]) [0, 1, 2, 3, 4, 5, 6, 7, 8, 9] rfl
      have hD9 := hD.sub (ws' := [(h0, .inr (13, z1662)), (qf100, .inl (cf100, 48000, .inl f100)), (qf128, .inl (cf128, 31, .inl g128_1662)), (qf127, .inl (cf127, 30, .inl g127_1662)), (qf104, .inl (cf104, 8, .inl f104)), (qf102, .inl (cf102, 2048, .inl f102)), (qf118, .inl (cf118, 2100, .inl g118_1662)), (qf119, .inl (cf119, 2100, .inl g119_1662)), (qf105, .inl (cf105, 8, .inl f105)), (qf137, .inl (cf137, 6, .inl g137_1662))]) [0, 1, 2, 3, 4, 5, 6, 7, 8, 9] (by decide) rfl
      have hK9 := hK.sub (tys' := [(cf100, .int), (cf128, .int), (cf127, .int), (cf104, .int), (cf102, .int), (cf118, .int), (cf119, .int), (cf105, .int), (cf137, .int)]) [0, 1, 2, 3, 4, 5, 6, 7, 8] rfl
      exact W.zret hx hb hr (by decide) (fun t ht hW => ⟨⟨(0), (z1662), rfl, ⟨⟨rfl, Or.inl rfl⟩, hlh_1662, hrh_1662, hfh_1662_117, hfh_1662_120, hfh_1662_131⟩, by rw [ht]; exact hP9, va_K.moved hW.alike hK9, hD9⟩, hS.F ht⟩) hS.2.2 dX13_wanted_1662
    · skip
      have hr0 := Option.some.inj hsp
      clear hsp
      obtain ⟨hq0, hr1⟩ := Prod.mk.inj hr0
      clear hr0
      obtain ⟨hq1, hr2⟩ := Prod.mk.inj hr1
      clear hr1
      obtain ⟨hq2, hr3⟩ := Prod.mk.inj hr2
      clear hr2
      obtain ⟨hq3, hr4⟩ := Prod.mk.inj hr3
      clear hr3
      obtain ⟨hq4, hr5⟩ := Prod.mk.inj hr4
      clear hr4
      obtain ⟨hq5, hr6⟩ := Prod.mk.inj hr5
      clear hr5
      obtain ⟨hq6, hr7⟩ := Prod.mk.inj hr6
      clear hr6
      obtain ⟨hq7, hr8⟩ := Prod.mk.inj hr7
      clear hr7
      subst hq0
      subst hq1
      subst hq2
      subst hq3
      subst hq4
      subst hq5
      subst hq6
      subst hq7
      subst hr8
      have hP9 := hP.sub (ws' := [(h0, .inr (13, z1662)), (qf100, .inl (cf100, 48000, .inl f100)), (qf128, .inl (cf128, 31, .inl g128_1662)), (qf127, .inl (cf127, 30, .inl g127_1662)), (qf104, .inl (cf104, 8, .inl f104)), (qf102, .inl (cf102, 2048, .inl f102)), (qf118, .inl (cf118, 2100, .inl g118_1662)), (qf119, .inl (cf119, 2100, .inl g119_1662)), (qf105, .inl (cf105, 8, .inl f105)), (qf137, .inl (cf137, 6, .inl g137_1662))]) [0, 1, 2, 3, 4, 5, 6, 7, 8, 9] rfl
      have hD9 := hD.sub (ws' := [(h0, .inr (13, z1662)), (qf100, .inl (cf100, 48000, .inl f100)), (qf128, .inl (cf128, 31, .inl g128_1662)), (qf127, .inl (cf127, 30, .inl g127_1662)), (qf104, .inl (cf104, 8, .inl f104)), (qf102, .inl (cf102, 2048, .inl f102)), (qf118, .inl (cf118, 2100, .inl g118_1662)), (qf119, .inl (cf119, 2100, .inl g119_1662)), (qf105, .inl (cf105, 8, .inl f105)), (qf137, .inl (cf137, 6, .inl g137_1662))]) [0, 1, 2, 3, 4, 5, 6, 7, 8, 9] (by decide) rfl
      have hK9 := hK.sub (tys' := [(cf100, .int), (cf128, .int), (cf127, .int), (cf104, .int), (cf102, .int), (cf118, .int), (cf119, .int), (cf105, .int), (cf137, .int)]) [0, 1, 2, 3, 4, 5, 6, 7, 8] rfl
      exact W.zret hx hb hr (by decide) (fun t ht hW => ⟨⟨(1), (z1662), rfl, ⟨⟨rfl, Or.inr rfl⟩, hlh_1662, hrh_1662, hfh_1662_117, hfh_1662_120, hfh_1662_131⟩, by rw [ht]; exact hP9, va_K.moved hW.alike hK9, hD9⟩, hS.F ht⟩) hS.2.2 dX13_wanted_1662
  intro hret_1662
  have hj_1642 := jt_vm_wanted_1642 nf hx hb hml hown hts hA hK h0 zs a1 v98 qf100 qf102 qf104 qf105 v117 qf118 qf119 v120 qf127 qf128 v129 v130 v131 v132 v134 v136 qf137 cf100 f100 cf128 f128 cf127 f127 cf104 f104 cf102 f102 cf118 f118 cf119 f119 cf105 f105 cf137 f137 nS477 fS477 hS477 qS477 tS477 r0 o118 o119 o127 o128 o137 w117 w120 w131 hZWS477 hZRS477 (Nat.le_of_ble_eq_true rfl) (Nat.le_of_ble_eq_true rfl) hret_1662
  have hj_1480 := jt_vm_wanted_1480 nf hx hb hml hown hts hA hK h0 zs a1 v98 qf100 qf102 qf104 qf105 v117 qf118 qf119 v120 qf127 qf128 v129 v130 v131 v132 v134 v136 qf137 cf100 f100 cf128 f128 cf127 f127 cf104 f104 cf102 f102 cf118 f118 cf119 f119 cf105 f105 cf137 f137 nS477 fS477 hS477 qS477 tS477 r0 o118 o119 o127 o128 o137 w117 w120 w131 hZWS477 hZRS477 (Nat.le_of_ble_eq_true rfl) (Nat.le_of_ble_eq_true rfl) hret_1497
  have hj_1239 := jt_vm_wanted_1239 nf hx hb hml hown hts hA hK h0 zs a1 v98 qf100 qf102 qf104 qf105 v117 qf118 qf119 v120 qf127 qf128 v129 v130 v131 v132 v134 v136 qf137 cf100 f100 cf128 f128 cf127 f127 cf104 f104 cf102 f102 cf118 f118 cf119 f119 cf105 f105 cf137 f137 nS477 fS477 hS477 qS477 tS477 r0 o118 o119 o127 o128 o137 w117 w120 w131 hZWS477 hZRS477 (Nat.le_of_ble_eq_true rfl) (Nat.le_of_ble_eq_true rfl) hret_1258
  have hj_1233 := jt_vm_wanted_1233 nf hx hb hml hown hts hA hK h0 zs a1 v98 qf100 qf102 qf104 qf105 v117 qf118 qf119 v120 qf127 qf128 v129 v130 v131 v132 v134 v136 qf137 cf100 f100 cf128 f128 cf127 f127 cf104 f104 cf102 f102 cf118 f118 cf119 f119 cf105 f105 cf137 f137 nS477 fS477 hS477 qS477 tS477 r0 o118 o119 o127 o128 o137 w117 w120 w131 hZWS477 hZRS477 (Nat.le_of_ble_eq_true rfl) (Nat.le_of_ble_eq_true rfl) hret_1238
  have hj_1227 := jt_vm_wanted_1227 nf hx hb hml hown hts hA hK h0 zs a1 v98 qf100 qf102 qf104 qf105 v117 qf118 qf119 v120 qf127 qf128 v129 v130 v131 v132 v134 v136 qf137 cf100 f100 cf128 f128 cf127 f127 cf104 f104 cf102 f102 cf118 f118 cf119 f119 cf105 f105 cf137 f137 nS477 fS477 hS477 qS477 tS477 r0 o118 o119 o127 o128 o137 w117 w120 w131 hZWS477 hZRS477 (Nat.le_of_ble_eq_true rfl) (Nat.le_of_ble_eq_true rfl) hret_1232
  have hj_1183 := jt_vm_wanted_1183 nf hx hb hml hown hts hA hK h0 zs a1 v98 qf100 qf102 qf104 qf105 v117 qf118 qf119 v120 qf127 qf128 v129 v130 v131 v132 v134 v136 qf137 cf100 f100 cf128 f128 cf127 f127 cf104 f104 cf102 f102 cf118 f118 cf119 f119 cf105 f105 cf137 f137 nS477 fS477 hS477 qS477 tS477 r0 o118 o119 o127 o128 o137 w117 w120 w131 hZWS477 hZRS477 (Nat.le_of_ble_eq_true rfl) (Nat.le_of_ble_eq_true rfl) hret_1204
  have hj_820 := jt_vm_wanted_820 nf hx hb hml hown hts hA hK h0 zs a1 v98 qf100 qf102 qf104 qf105 v117 qf118 qf119 v120 qf127 qf128 v129 v130 v131 v132 v134 v136 qf137 cf100 f100 cf128 f128 cf127 f127 cf104 f104 cf102 f102 cf118 f118 cf119 f119 cf105 f105 cf137 f137 nS477 fS477 hS477 qS477 tS477 r0 o118 o119 o127 o128 o137 w117 w120 w131 hZWS477 hZRS477 (Nat.le_of_ble_eq_true rfl) (Nat.le_of_ble_eq_true rfl) hret_825
  have hj_812 := jt_vm_wanted_812 nf hx hb hml hown hts hA hK h0 zs a1 v98 qf100 qf102 qf104 qf105 v117 qf118 qf119 v120 qf127 qf128 v129 v130 v131 v132 v134 v136 qf137 cf100 f100 cf128 f128 cf127 f127 cf104 f104 cf102 f102 cf118 f118 cf119 f119 cf105 f105 cf137 f137 nS477 fS477 hS477 qS477 tS477 r0 o118 o119 o127 o128 o137 w117 w120 w131 hZWS477 hZRS477 (Nat.le_of_ble_eq_true rfl) (Nat.le_of_ble_eq_true rfl) hret_813
  have hj_25 := jt_vm_wanted_25 nf hx hb hml hown hts hA hK h0 zs a1 v98 qf100 qf102 qf104 qf105 v117 qf118 qf119 v120 qf127 qf128 v129 v130 v131 v132 v134 v136 qf137 cf100 f100 cf128 f128 cf127 f127 cf104 f104 cf102 f102 cf118 f118 cf119 f119 cf105 f105 cf137 f137 nS477 fS477 hS477 qS477 tS477 r0 o118 o119 o127 o128 o137 w117 w120 w131 hZWS477 hZRS477 (Nat.le_of_ble_eq_true rfl) (Nat.le_of_ble_eq_true rfl) hret_819 hret_857 hret_894 hret_912 hret_921 hret_943 hret_953 hret_963 hret_995 hret_1005 hret_1023 hret_1054 hret_1064 hret_1088 hret_1105 hret_1137 hret_1151 hret_1182 hret_1226 hret_1300 hret_1363 hret_1383 hret_1431 hret_1479 hret_1511 hret_1533 hret_1565 hret_1605 hret_1612 hret_1641 hj_812 hj_820 hj_1183 hj_1227 hj_1233 hj_1239 hj_1480 hj_1642
  refine lv_aload_n hx hb dX13_wanted_0 rfl (lv_at hl 0 rfl) ?_
  refine lv_iload_n hx hb dX13_wanted_1 rfl (lv_at hl 1 rfl) ?_
  obtain ⟨u1_0, hu_1, hsp⟩ := ox_bind hsp
  try dsimp only at hsp
  have hPc := hP.sub (ws' := [(h0, .inr (13, zs)), (qf100, .inl (cf100, 48000, .inl f100))]) [0, 1] rfl
  have hDc := hD.sub (ws' := [(h0, .inr (13, zs)), (qf100, .inl (cf100, 48000, .inl f100))]) [0, 1] (by decide) rfl
  have hKc := hK.sub (tys' := [(cf100, .int)]) [0] rfl
  have hFc := va_free (wc := [(h0, .inr (13, zs)), (qf100, .inl (cf100, 48000, .inl f100))]) hD hS hA [0, 1] rfl
  refine va_calli (va_runV (As := [.int a1]) (rest := []) ⟨hx, hb, hml, hown, hts⟩ (tm_code l dC dI H.size h0 zs a1 qf100 v132 v134 cf100 f100 nf u1_0 hlen hf100 hf132 hf134 hu_1) (cwV 1 hts gv_h9_65 rfl rfl rfl (by decide +kernel) ⟨Nat.le_of_ble_eq_true rfl, Nat.le_of_ble_eq_true rfl⟩) ⟨fun a U g mk q => by obtain ⟨q0, q1, qP, qK, qD⟩ := q; exact ⟨q0, q1, qP, va_K.moved (u := U) (U := U.calling g mk a) (Vm.Alike.refl U.vm) qK, qD⟩, va_recv hKc hPc (ci := 13) (q0 := 0) rfl rfl, fun U hU hW => ⟨rfl, by rw [hU], by rw [hU]; exact hPc, va_K.moved hW.alike hKc, hDc.weaken (fun _ _ _ _ => trivial)⟩⟩ rfl rfl hl.1 rfl (lv_room (Nat.le_of_ble_eq_true rfl)) dX13_wanted_2 ⟨Nat.le_of_ble_eq_true rfl, Nat.le_of_ble_eq_true rfl⟩) hS (fun q _ h => hFc q h) hFc ?_
  clear hS
  intro r_1 u t H1 locs ht hvm hw hB hz1 hk1 hS
  obtain ⟨z_1, rfl⟩ : ∃ z, z = u := ⟨_, rfl⟩
  obtain ⟨hP1, hK1, hD1⟩ := hB
  rw [ht] at hP1
  have hK1 := va_K.moved hvm.symm hK1
  try dsimp only at hw
  have hPD := va_join (wr := [(qf128, .inl (cf128, 31, .inl f128)), (qf127, .inl (cf127, 30, .inl f127)), (qf104, .inl (cf104, 8, .inl f104)), (qf102, .inl (cf102, 2048, .inl f102)), (qf118, .inl (cf118, 2100, .inl f118)), (qf119, .inl (cf119, 2100, .inl f119)), (qf105, .inl (cf105, 8, .inl f105)), (qf137, .inl (cf137, 6, .inl f137))]) (w1 := [(h0, .inr (13, z_1)), (qf100, .inl (cf100, 48000, .inl f100))]) hP hD [0, 1] [2, 3, 4, 5, 6, 7, 8, 9] rfl rfl (by decide) (by decide) hk1 hFc hP1 hD1
  clear hP hD
  obtain ⟨hP, hD⟩ := hPD
  replace hK := (hK.sub (tys' := [(cf128, .int), (cf127, .int), (cf104, .int), (cf102, .int), (cf118, .int), (cf119, .int), (cf105, .int), (cf137, .int)]) [1, 2, 3, 4, 5, 6, 7, 8] rfl).app hK1
  clear hPc hDc hKc hFc hP1 hK1 hD1 hz1 hk1 ht hvm
  generalize H1 = H at hP hS ⊢
  replace hP : va_P (dC, dI) vwCl [(qf128, .inl (cf128, 31, .inl f128)), (qf127, .inl (cf127, 30, .inl f127)), (qf104, .inl (cf104, 8, .inl f104)), (qf102, .inl (cf102, 2048, .inl f102)), (qf118, .inl (cf118, 2100, .inl f118)), (qf119, .inl (cf119, 2100, .inl f119)), (qf105, .inl (cf105, 8, .inl f105)), (qf137, .inl (cf137, 6, .inl f137)), (h0, .inr (13, z_1)), (qf100, .inl (cf100, 48000, .inl f100))] H := hP
  replace hD : va_D A [(qf128, .inl (cf128, 31, .inl f128)), (qf127, .inl (cf127, 30, .inl f127)), (qf104, .inl (cf104, 8, .inl f104)), (qf102, .inl (cf102, 2048, .inl f102)), (qf118, .inl (cf118, 2100, .inl f118)), (qf119, .inl (cf119, 2100, .inl f119)), (qf105, .inl (cf105, 8, .inl f105)), (qf137, .inl (cf137, 6, .inl f137)), (h0, .inr (13, z_1)), (qf100, .inl (cf100, 48000, .inl f100))] := hD
  replace hK : va_K (dC, dI) vwCl [(cf128, .int), (cf127, .int), (cf104, .int), (cf102, .int), (cf118, .int), (cf119, .int), (cf105, .int), (cf137, .int), (cf100, .int)] s := hK
  obtain ⟨hwa_1, hln_1, hre_1⟩ := hw
  have hfk_1_98 : z_1[98]? = some (.int v98) := (hre_1 98 ).trans (hf98)
  have hfk_1_100 : z_1[100]? = some (.ref qf100) := (hre_1 100 ).trans (hf100)
  have hfk_1_102 : z_1[102]? = some (.ref qf102) := (hre_1 102 ).trans (hf102)
  have hfk_1_104 : z_1[104]? = some (.ref qf104) := (hre_1 104 ).trans (hf104)
  have hfk_1_105 : z_1[105]? = some (.ref qf105) := (hre_1 105 ).trans (hf105)
  have hfk_1_117 : z_1[117]? = some (.int v117) := (hre_1 117 ).trans (hf117)
  have hfk_1_118 : z_1[118]? = some (.ref qf118) := (hre_1 118 ).trans (hf118)
  have hfk_1_119 : z_1[119]? = some (.ref qf119) := (hre_1 119 ).trans (hf119)
  have hfk_1_120 : z_1[120]? = some (.int v120) := (hre_1 120 ).trans (hf120)
  have hfk_1_127 : z_1[127]? = some (.ref qf127) := (hre_1 127 ).trans (hf127)
  have hfk_1_128 : z_1[128]? = some (.ref qf128) := (hre_1 128 ).trans (hf128)
  have hfk_1_129 : z_1[129]? = some (.int v129) := (hre_1 129 ).trans (hf129)
  have hfk_1_130 : z_1[130]? = some (.int v130) := (hre_1 130 ).trans (hf130)
  have hfk_1_131 : z_1[131]? = some (.int v131) := (hre_1 131 ).trans (hf131)
  have hfk_1_132 : z_1[132]? = some (.int v132) := (hre_1 132 ).trans (hf132)
  have hfk_1_134 : z_1[134]? = some (.int v134) := (hre_1 134 ).trans (hf134)
  have hfk_1_136 : z_1[136]? = some (.int v136) := (hre_1 136 ).trans (hf136)
  have hfk_1_137 : z_1[137]? = some (.ref qf137) := (hre_1 137 ).trans (hf137)
  have hrq_1 : ∀ j : Nat, j ≠ 117 → j ≠ 120 → j ≠ 131 → z_1[j]? = zs[j]? := fun j g117 g120 g131 => (hre_1 j ).trans (hrs0 j g117 g120 g131)
  obtain rfl := hwa_1
  refine lv_istore_n (lv' := [(2, .int u1_0), (0, .ref h0), (1, .int a1)]) hx hb dX13_wanted_5 rfl hl (by decide) rfl (fun ls hl => ?_)
  refine lv_iload_n hx hb dX13_wanted_6 rfl (lv_at hl 0 rfl) ?_
  obtain ⟨u2_0, hu_2, hsp⟩ := ox_bind hsp
  try dsimp only at hsp
  have hPc := hP.sub (ws' := []) [] rfl
  have hDc := hD.sub (ws' := []) [] (by decide) rfl
  have hKc := hK.sub (tys' := []) [] rfl
  have hFc := va_free (wc := []) hD hS hA [] rfl
  refine va_calli (va_runS (As := [.int u1_0]) (rest := []) ⟨hx, hb, hml, hown, hts⟩ (tm_widthOf l dC dI H.size u1_0 nf u2_0 hu_2) (va_cwS 1 hts gv_h9_66 rfl rfl rfl (by decide +kernel) ⟨Nat.le_of_ble_eq_true rfl, Nat.le_of_ble_eq_true rfl⟩) ⟨fun a U g mk q => by obtain ⟨q0, q1, qP, qK, qD⟩ := q; exact ⟨q0, q1, qP, va_K.moved (u := U) (U := U.calling g mk a) (Vm.Alike.refl U.vm) qK, qD⟩, fun U hU hW => ⟨rfl, by rw [hU], by rw [hU]; exact hPc, va_K.moved hW.alike hKc, hDc.weaken (fun _ _ _ _ => trivial)⟩⟩ rfl rfl hl.1 rfl (lv_room (Nat.le_of_ble_eq_true rfl)) dX13_wanted_7 ⟨Nat.le_of_ble_eq_true rfl, Nat.le_of_ble_eq_true rfl⟩) hS (fun q _ h => hFc q h) hFc ?_
  clear hS
  intro r_2 u t H1 locs ht hvm hw hB hz1 hk1 hS
  obtain ⟨⟩ := u
  obtain ⟨hP1, hK1, hD1⟩ := hB
  rw [ht] at hP1
  have hK1 := va_K.moved hvm.symm hK1
  try dsimp only at hw
  have hPD := va_join (wr := [(qf128, .inl (cf128, 31, .inl f128)), (qf127, .inl (cf127, 30, .inl f127)), (qf104, .inl (cf104, 8, .inl f104)), (qf102, .inl (cf102, 2048, .inl f102)), (qf118, .inl (cf118, 2100, .inl f118)), (qf119, .inl (cf119, 2100, .inl f119)), (qf105, .inl (cf105, 8, .inl f105)), (qf137, .inl (cf137, 6, .inl f137)), (h0, .inr (13, z_1)), (qf100, .inl (cf100, 48000, .inl f100))]) (w1 := []) hP hD [] [0, 1, 2, 3, 4, 5, 6, 7, 8, 9] rfl rfl (by decide) (by decide) hk1 hFc hP1 hD1
  clear hP hD
  obtain ⟨hP, hD⟩ := hPD
  replace hK := (hK.sub (tys' := [(cf128, .int), (cf127, .int), (cf104, .int), (cf102, .int), (cf118, .int), (cf119, .int), (cf105, .int), (cf137, .int), (cf100, .int)]) [0, 1, 2, 3, 4, 5, 6, 7, 8] rfl).app hK1
  clear hPc hDc hKc hFc hP1 hK1 hD1 hz1 hk1 ht hvm
  generalize H1 = H at hP hS ⊢
  replace hP : va_P (dC, dI) vwCl [(qf128, .inl (cf128, 31, .inl f128)), (qf127, .inl (cf127, 30, .inl f127)), (qf104, .inl (cf104, 8, .inl f104)), (qf102, .inl (cf102, 2048, .inl f102)), (qf118, .inl (cf118, 2100, .inl f118)), (qf119, .inl (cf119, 2100, .inl f119)), (qf105, .inl (cf105, 8, .inl f105)), (qf137, .inl (cf137, 6, .inl f137)), (h0, .inr (13, z_1)), (qf100, .inl (cf100, 48000, .inl f100))] H := hP
  replace hD : va_D A [(qf128, .inl (cf128, 31, .inl f128)), (qf127, .inl (cf127, 30, .inl f127)), (qf104, .inl (cf104, 8, .inl f104)), (qf102, .inl (cf102, 2048, .inl f102)), (qf118, .inl (cf118, 2100, .inl f118)), (qf119, .inl (cf119, 2100, .inl f119)), (qf105, .inl (cf105, 8, .inl f105)), (qf137, .inl (cf137, 6, .inl f137)), (h0, .inr (13, z_1)), (qf100, .inl (cf100, 48000, .inl f100))] := hD
  replace hK : va_K (dC, dI) vwCl [(cf128, .int), (cf127, .int), (cf104, .int), (cf102, .int), (cf118, .int), (cf119, .int), (cf105, .int), (cf137, .int), (cf100, .int)] s := hK
  obtain rfl := hw
  refine lv_iconst (v := 1) hx hb dX13_wanted_10 (by decide) ?_
  refine lv_icmp_le (tgt := 24) hx hb dX13_wanted_11 (by decide) (fun c_3 => ?_) (fun c_3 => ?_)
  · rw [if_pos c_3] at hsp
    refine lv_iconst (v := 0) hx hb dX13_wanted_24 (by decide) ?_
    exact hj_25 (H, locs, ls, z_1, u1_0, 0, f118, f119, f127, f128, f137, v117, v120, v131) ⟨lv_sub hl [1, 0] rfl, hS, hD.sub (ws' := [(h0, .inr (13, z_1)), (qf100, .inl (cf100, 48000, .inl f100)), (qf128, .inl (cf128, 31, .inl f128)), (qf127, .inl (cf127, 30, .inl f127)), (qf104, .inl (cf104, 8, .inl f104)), (qf102, .inl (cf102, 2048, .inl f102)), (qf118, .inl (cf118, 2100, .inl f118)), (qf119, .inl (cf119, 2100, .inl f119)), (qf105, .inl (cf105, 8, .inl f105)), (qf137, .inl (cf137, 6, .inl f137))]) [8, 9, 0, 1, 2, 3, 4, 5, 6, 7] (by decide) rfl, hP.sub (ws' := [(h0, .inr (13, z_1)), (qf100, .inl (cf100, 48000, .inl f100)), (qf128, .inl (cf128, 31, .inl f128)), (qf127, .inl (cf127, 30, .inl f127)), (qf104, .inl (cf104, 8, .inl f104)), (qf102, .inl (cf102, 2048, .inl f102)), (qf118, .inl (cf118, 2100, .inl f118)), (qf119, .inl (cf119, 2100, .inl f119)), (qf105, .inl (cf105, 8, .inl f105)), (qf137, .inl (cf137, 6, .inl f137))]) [8, 9, 0, 1, 2, 3, 4, 5, 6, 7] rfl, hfk_1_98, hfk_1_100, hfk_1_102, hfk_1_104, hfk_1_105, hfk_1_117, hfk_1_118, hfk_1_119, hfk_1_120, hfk_1_127, hfk_1_128, hfk_1_129, hfk_1_130, hfk_1_131, hfk_1_132, hfk_1_134, hfk_1_136, hfk_1_137, hln_1, hrq_1, hsp⟩
  · rw [if_neg c_3] at hsp
    refine lv_aload_n hx hb dX13_wanted_14 rfl (lv_at hl 1 rfl) ?_
    refine lv_iload_n hx hb dX13_wanted_15 rfl (lv_at hl 2 rfl) ?_
    refine lv_iconst (v := 1) hx hb dX13_wanted_16 (by decide) ?_
    refine lv_iadd hx hb dX13_wanted_17 ?_
    obtain ⟨u3_0, hu_3, hsp⟩ := ox_bind hsp
    try dsimp only at hsp
    have hPc := hP.sub (ws' := [(h0, .inr (13, z_1)), (qf100, .inl (cf100, 48000, .inl f100))]) [8, 9] rfl
    have hDc := hD.sub (ws' := [(h0, .inr (13, z_1)), (qf100, .inl (cf100, 48000, .inl f100))]) [8, 9] (by decide) rfl
    have hKc := hK.sub (tys' := [(cf100, .int)]) [8] rfl
    have hFc := va_free (wc := [(h0, .inr (13, z_1)), (qf100, .inl (cf100, 48000, .inl f100))]) hD hS hA [8, 9] rfl
    refine va_calli (va_runV (As := [.int (a1 + 1)]) (rest := []) ⟨hx, hb, hml, hown, hts⟩ (tm_code l dC dI H.size h0 z_1 ((a1 + 1)) qf100 v132 v134 cf100 f100 nf u3_0 hln_1 hfk_1_100 hfk_1_132 hfk_1_134 hu_3) (cwV 1 hts gv_h9_65 rfl rfl rfl (by decide +kernel) ⟨Nat.le_of_ble_eq_true rfl, Nat.le_of_ble_eq_true rfl⟩) ⟨fun a U g mk q => by obtain ⟨q0, q1, qP, qK, qD⟩ := q; exact ⟨q0, q1, qP, va_K.moved (u := U) (U := U.calling g mk a) (Vm.Alike.refl U.vm) qK, qD⟩, va_recv hKc hPc (ci := 13) (q0 := 0) rfl rfl, fun U hU hW => ⟨rfl, by rw [hU], by rw [hU]; exact hPc, va_K.moved hW.alike hKc, hDc.weaken (fun _ _ _ _ => trivial)⟩⟩ rfl rfl hl.1 rfl (lv_room (Nat.le_of_ble_eq_true rfl)) dX13_wanted_18 ⟨Nat.le_of_ble_eq_true rfl, Nat.le_of_ble_eq_true rfl⟩) hS (fun q _ h => hFc q h) hFc ?_
    clear hS
    intro r_4 u t H1 locs ht hvm hw hB hz1 hk1 hS
    obtain ⟨z_3, rfl⟩ : ∃ z, z = u := ⟨_, rfl⟩
    obtain ⟨hP1, hK1, hD1⟩ := hB
    rw [ht] at hP1
    have hK1 := va_K.moved hvm.symm hK1
    try dsimp only at hw
    have hPD := va_join (wr := [(qf128, .inl (cf128, 31, .inl f128)), (qf127, .inl (cf127, 30, .inl f127)), (qf104, .inl (cf104, 8, .inl f104)), (qf102, .inl (cf102, 2048, .inl f102)), (qf118, .inl (cf118, 2100, .inl f118)), (qf119, .inl (cf119, 2100, .inl f119)), (qf105, .inl (cf105, 8, .inl f105)), (qf137, .inl (cf137, 6, .inl f137))]) (w1 := [(h0, .inr (13, z_3)), (qf100, .inl (cf100, 48000, .inl f100))]) hP hD [8, 9] [0, 1, 2, 3, 4, 5, 6, 7] rfl rfl (by decide) (by decide) hk1 hFc hP1 hD1
    clear hP hD
    obtain ⟨hP, hD⟩ := hPD
    replace hK := (hK.sub (tys' := [(cf128, .int), (cf127, .int), (cf104, .int), (cf102, .int), (cf118, .int), (cf119, .int), (cf105, .int), (cf137, .int)]) [0, 1, 2, 3, 4, 5, 6, 7] rfl).app hK1
    clear hPc hDc hKc hFc hP1 hK1 hD1 hz1 hk1 ht hvm
    generalize H1 = H at hP hS ⊢
    replace hP : va_P (dC, dI) vwCl [(qf128, .inl (cf128, 31, .inl f128)), (qf127, .inl (cf127, 30, .inl f127)), (qf104, .inl (cf104, 8, .inl f104)), (qf102, .inl (cf102, 2048, .inl f102)), (qf118, .inl (cf118, 2100, .inl f118)), (qf119, .inl (cf119, 2100, .inl f119)), (qf105, .inl (cf105, 8, .inl f105)), (qf137, .inl (cf137, 6, .inl f137)), (h0, .inr (13, z_3)), (qf100, .inl (cf100, 48000, .inl f100))] H := hP
    replace hD : va_D A [(qf128, .inl (cf128, 31, .inl f128)), (qf127, .inl (cf127, 30, .inl f127)), (qf104, .inl (cf104, 8, .inl f104)), (qf102, .inl (cf102, 2048, .inl f102)), (qf118, .inl (cf118, 2100, .inl f118)), (qf119, .inl (cf119, 2100, .inl f119)), (qf105, .inl (cf105, 8, .inl f105)), (qf137, .inl (cf137, 6, .inl f137)), (h0, .inr (13, z_3)), (qf100, .inl (cf100, 48000, .inl f100))] := hD
    replace hK : va_K (dC, dI) vwCl [(cf128, .int), (cf127, .int), (cf104, .int), (cf102, .int), (cf118, .int), (cf119, .int), (cf105, .int), (cf137, .int), (cf100, .int)] s := hK
    obtain ⟨hwa_3, hln_3, hre_3⟩ := hw
    have hfk_3_98 : z_3[98]? = some (.int v98) := (hre_3 98 ).trans (hfk_1_98)
    have hfk_3_100 : z_3[100]? = some (.ref qf100) := (hre_3 100 ).trans (hfk_1_100)
    have hfk_3_102 : z_3[102]? = some (.ref qf102) := (hre_3 102 ).trans (hfk_1_102)
    have hfk_3_104 : z_3[104]? = some (.ref qf104) := (hre_3 104 ).trans (hfk_1_104)
    have hfk_3_105 : z_3[105]? = some (.ref qf105) := (hre_3 105 ).trans (hfk_1_105)
    have hfk_3_117 : z_3[117]? = some (.int v117) := (hre_3 117 ).trans (hfk_1_117)
    have hfk_3_118 : z_3[118]? = some (.ref qf118) := (hre_3 118 ).trans (hfk_1_118)
    have hfk_3_119 : z_3[119]? = some (.ref qf119) := (hre_3 119 ).trans (hfk_1_119)
    have hfk_3_120 : z_3[120]? = some (.int v120) := (hre_3 120 ).trans (hfk_1_120)
    have hfk_3_127 : z_3[127]? = some (.ref qf127) := (hre_3 127 ).trans (hfk_1_127)
    have hfk_3_128 : z_3[128]? = some (.ref qf128) := (hre_3 128 ).trans (hfk_1_128)
    have hfk_3_129 : z_3[129]? = some (.int v129) := (hre_3 129 ).trans (hfk_1_129)
    have hfk_3_130 : z_3[130]? = some (.int v130) := (hre_3 130 ).trans (hfk_1_130)
    have hfk_3_131 : z_3[131]? = some (.int v131) := (hre_3 131 ).trans (hfk_1_131)
    have hfk_3_132 : z_3[132]? = some (.int v132) := (hre_3 132 ).trans (hfk_1_132)
    have hfk_3_134 : z_3[134]? = some (.int v134) := (hre_3 134 ).trans (hfk_1_134)
    have hfk_3_136 : z_3[136]? = some (.int v136) := (hre_3 136 ).trans (hfk_1_136)
    have hfk_3_137 : z_3[137]? = some (.ref qf137) := (hre_3 137 ).trans (hfk_1_137)
    have hrq_3 : ∀ j : Nat, j ≠ 117 → j ≠ 120 → j ≠ 131 → z_3[j]? = zs[j]? := fun j g117 g120 g131 => (hre_3 j ).trans (hrq_1 j g117 g120 g131)
    obtain rfl := hwa_3
    refine lv_goto (tgt := 25) hx hb dX13_wanted_21 (by decide) ?_
    exact hj_25 (H, locs, ls, z_3, u1_0, u3_0, f118, f119, f127, f128, f137, v117, v120, v131) ⟨lv_sub hl [1, 0] rfl, hS, hD.sub (ws' := [(h0, .inr (13, z_3)), (qf100, .inl (cf100, 48000, .inl f100)), (qf128, .inl (cf128, 31, .inl f128)), (qf127, .inl (cf127, 30, .inl f127)), (qf104, .inl (cf104, 8, .inl f104)), (qf102, .inl (cf102, 2048, .inl f102)), (qf118, .inl (cf118, 2100, .inl f118)), (qf119, .inl (cf119, 2100, .inl f119)), (qf105, .inl (cf105, 8, .inl f105)), (qf137, .inl (cf137, 6, .inl f137))]) [8, 9, 0, 1, 2, 3, 4, 5, 6, 7] (by decide) rfl, hP.sub (ws' := [(h0, .inr (13, z_3)), (qf100, .inl (cf100, 48000, .inl f100)), (qf128, .inl (cf128, 31, .inl f128)), (qf127, .inl (cf127, 30, .inl f127)), (qf104, .inl (cf104, 8, .inl f104)), (qf102, .inl (cf102, 2048, .inl f102)), (qf118, .inl (cf118, 2100, .inl f118)), (qf119, .inl (cf119, 2100, .inl f119)), (qf105, .inl (cf105, 8, .inl f105)), (qf137, .inl (cf137, 6, .inl f137))]) [8, 9, 0, 1, 2, 3, 4, 5, 6, 7] rfl, hfk_3_98, hfk_3_100, hfk_3_102, hfk_3_104, hfk_3_105, hfk_3_117, hfk_3_118, hfk_3_119, hfk_3_120, hfk_3_127, hfk_3_128, hfk_3_129, hfk_3_130, hfk_3_131, hfk_3_132, hfk_3_134, hfk_3_136, hfk_3_137, hln_3, hrq_3, hsp⟩
def sp_vm_fails (nf : Nat) (a1 : Int32) (v98 : Int32) (v138 : Int32) (v139 : Int32) (v141 : Int32) (v142 : Int32) (v149 : Int32) (f144 : Nat → Int32) (f145 : Nat → Int32) (f146 : Nat → Int32) (f147 : Nat → Int32) (f150 : Nat → Int32) (f151 : Nat → Int32) (f110 : Nat → Int32) (f100 : Nat → Int32) (f152 : Nat → Int32) (f102 : Nat → Int32) (f104 : Nat → Int32) (f105 : Nat → Int32) (f153 : Nat → Int32) (f154 : Nat → Int32) (nS477 : Nat) (fS477 : Nat → Int32) : Option ((Nat → Int32) × (Nat → Int32) × (Nat → Int32) × (Nat → Int32) × (Nat → Int32) × (Nat → Int32) × (Nat → Int32) × Int32 × Int32 × Int32 × Int32 × Int32) := ((sp_vm_make_ nf a1 0 v138 v141 v142 f144 f145 f146 f147).bind (fun p1 => (if p1.1 ≤ 0 then (some (p1.2.1, p1.2.2.1, p1.2.2.2.1, p1.2.2.2.2.1, f152, f153, f154, p1.2.2.2.2.2.1, v139, p1.2.2.2.2.2.2.1, p1.2.2.2.2.2.2.2, v149)) else ((sp_vm_thrown nf p1.1 v98 p1.2.2.2.2.2.1 v139 v149 p1.2.1 f150 f151 f110 f100 f152 f102 f104 f105 f153 f154 nS477 fS477).bind (fun p2 => (some (p1.2.1, p1.2.2.1, p1.2.2.2.1, p1.2.2.2.2.1, p2.1, p2.2.1, p2.2.2.1, p2.2.2.2.1, p2.2.2.2.2.1, p1.2.2.2.2.2.2.1, p1.2.2.2.2.2.2.2, p2.2.2.2.2.2)))))))
